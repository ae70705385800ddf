/-! the public methods of the reference -/
set_option maxRecDepth 20000 in
theorem sf_X10_thrown {X : Nat × (Nat → Int32)} {S a b : Nat} {sc : Nat → Int32} {ar : Nat → Nat → Int32} {lo : Nat → Int64} {ex : Bool} (hW : Wd S a b) (hI : Iv S sc ar)  (d : Nat)  : cp X S a b (d + 1) 108 [.ref 49] sc ar lo ex (fun x => x = sc 4901) := by
  obtain ⟨ha1, ha8, hb1, hb8, hab, hS1, hS⟩ := id hW
  refine cp_of (M := an_X10_thrown) rfl (Nat.le_of_ble_eq_true rfl) ?_
  refine to_eq (fr' := (0, [(0, .ref 49)], [], gh S a b sc ar lo, ex, 0, 0)) rfl ?_
  refine to_n 1 (fr' := (1, [(0, .ref 49)], [.ref 49], gh S a b sc ar lo, ex, 0, 0)) rfl ?_
  refine to_getR (v := (sc 4901)) rfl rfl rfl rfl rfl ?_
  exact to_rt (i := .ireturn) (tg := []) rfl rfl ⟨_, rfl, rfl⟩
set_option maxRecDepth 20000 in
theorem sf_X10_fault {X : Nat × (Nat → Int32)} {S a b : Nat} {sc : Nat → Int32} {ar : Nat → Nat → Int32} {lo : Nat → Int64} {ex : Bool} (hW : Wd S a b) (hI : Iv S sc ar)  (d : Nat)  : ci X S a b (d + 1) 133 [.ref 49] sc ar lo ex (fun x sc' ar' => Iv S sc' ar' ∧ Fr [4901] [] sc ar sc' ar' ∧ x = sc 4909) := by
  obtain ⟨ha1, ha8, hb1, hb8, hab, hS1, hS⟩ := id hW
  refine ci_of (M := an_X10_fault) rfl (Nat.le_of_ble_eq_true rfl) ?_
  have hF : Fr [4901] [] sc ar sc ar := fr_0
  refine to_eq (fr' := (0, [(0, .ref 49)], [], gh S a b sc ar lo, ex, 0, 0)) rfl ?_
  refine to_n 2 (fr' := (2, [(0, .ref 49)], [.int 0, .ref 49], gh S a b sc ar lo, ex, 0, 0)) rfl ?_
  refine to_putR (h' := gh S a b (upd sc 4901 0) ar lo) rfl rfl rfl (Nat.le_of_ble_eq_true rfl) rfl rfl ?_
  have hI1 := ip_4901 (v := 0) hI 
  have hF1 := fr_s (k := 4901) (v := 0) hF (by decide)
  refine to_n 1 (fr' := (6, [(0, .ref 49)], [.ref 49], gh S a b (upd sc 4901 0) ar lo, ex, 0, 0)) rfl ?_
  refine to_getR (v := ((upd sc 4901 0) 4909)) rfl rfl rfl rfl rfl ?_
  exact to_rt (i := .ireturn) (tg := []) rfl rfl ⟨_, _, _, ⟨hI1, hF1, rfl⟩, rfl⟩
set_option maxRecDepth 20000 in
theorem sf_X10_house {X : Nat × (Nat → Int32)} {S a b : Nat} {sc : Nat → Int32} {ar : Nat → Nat → Int32} {lo : Nat → Int64} {ex : Bool} (hW : Wd S a b) (hI : Iv S sc ar) (x1 : Int32) (x2 : Int32) (x3 : Int32) (d : Nat)  : ci X S a b (d + 2) 114 [.ref 49, .int x1, .int x2, .int x3] sc ar lo ex (fun x sc' ar' => Iv S sc' ar' ∧ Fr [4901] [51, 52, 53, 54, 55, 56] sc ar sc' ar' ∧ rl x 2 ∧ ((∃ n : Nat, n < S ∧ x1 = nI n ∧ zho n x2 x3 x (ar 51) (ar 52) (ar 53) (ar 54) (ar 55) (ar 56) (ar 58) (ar' 51) (ar' 52) (ar' 53) (ar' 54) (ar' 55) (ar' 56) ∧ sc' 4901 = 0) ∨ (¬ (0 ≤ x1 ∧ x1 < nI S) ∧ ar' 51 = ar 51 ∧ ar' 52 = ar 52 ∧ ar' 53 = ar 53 ∧ ar' 54 = ar 54 ∧ ar' 55 = ar 55 ∧ ar' 56 = ar 56 ∧ sc' 4901 = 1))) := by
  obtain ⟨ha1, ha8, hb1, hb8, hab, hS1, hS⟩ := id hW
  refine ci_of (M := an_X10_house) rfl (Nat.le_of_ble_eq_true rfl) ?_
  have hF : Fr [4901] [51, 52, 53, 54, 55, 56] sc ar sc ar := fr_0
  refine to_eq (fr' := (0, [(0, .ref 49), (1, .int x1), (2, .int x2), (3, .int x3)], [], gh S a b sc ar lo, ex, 0, 0)) rfl ?_
  refine to_n 2 (fr' := (2, [(0, .ref 49), (1, .int x1), (2, .int x2), (3, .int x3)], [.int 0, .ref 49], gh S a b sc ar lo, ex, 0, 0)) rfl ?_
  refine to_putR (h' := gh S a b (upd sc 4901 0) ar lo) rfl rfl rfl (Nat.le_of_ble_eq_true rfl) rfl rfl ?_
  have hI1 := ip_4901 (v := 0) hI 
  have hF1 := fr_s (k := 4901) (v := 0) hF (by decide)
  refine to_n 2 (fr' := (7, [(0, .ref 49), (1, .int x1), (2, .int x2), (3, .int x3)], [.int x1, .ref 49], gh S a b (upd sc 4901 0) ar lo, ex, 0, 0)) rfl ?_
  rcases has_or (x := x1) (B := S) (by omega) with ⟨n2, hn2, e2⟩ | w2
  · rw [e2]
    refine to_cp (q := 110) (M1 := an_X10_isCell) (rest := []) rfl rfl (by decide) rfl ⟨_, rfl⟩ (mc_isCell_1 (n := n2) hW (by omega) d) (fun x2 hx2 => ?_)
    obtain rfl := hx2
    refine to_eq (fr' := (10, [(0, .ref 49), (1, .int (nI n2)), (2, .int x2), (3, .int x3)], [.int 1], gh S a b (upd sc 4901 0) ar lo, ex, 0, 0)) rfl ?_
    refine to_n 2 (fr' := (21, [(0, .ref 49), (1, .int (nI n2)), (2, .int x2), (3, .int x3)], [.ref 49], gh S a b (upd sc 4901 0) ar lo, ex, 0, 0)) rfl ?_
    refine to_get rfl rfl rfl rfl ?_
    refine to_n 1 (fr' := (25, [(0, .ref 49), (1, .int (nI n2)), (2, .int x2), (3, .int x3)], [.int (nI n2), .ref 58], gh S a b (upd sc 4901 0) ar lo, ex, 0, 0)) rfl ?_
    refine to_zalR (i := n2) (v := (ar 58 n2)) rfl rfl (by omega) (by omega) (congrFun (hF1.2 58 (by decide)) n2) ?_
    refine to_if_ne (t := 69) rfl (fun q3 => ?_) (fun q3 => ?_)
    · refine to_n 1 (fr' := (70, [(0, .ref 49), (1, .int (nI n2)), (2, .int x2), (3, .int x3)], [.int 0], gh S a b (upd sc 4901 0) ar lo, ex, 0, 0)) rfl ?_
      exact to_rt (i := .ireturn) (tg := []) rfl rfl ⟨_, _, _, ⟨hI1, hF1, ⟨rl_n (n := 0) (by omega), (Or.inl ⟨n2, hn2, rfl, zho_0 (fun w => q3 w.1), rfl⟩)⟩⟩, rfl⟩
    · refine to_n 1 (fr' := (30, [(0, .ref 49), (1, .int (nI n2)), (2, .int x2), (3, .int x3)], [.ref 49], gh S a b (upd sc 4901 0) ar lo, ex, 0, 0)) rfl ?_
      refine to_get rfl rfl rfl rfl ?_
      refine to_n 1 (fr' := (34, [(0, .ref 49), (1, .int (nI n2)), (2, .int x2), (3, .int x3)], [.int (nI n2), .ref 51], gh S a b (upd sc 4901 0) ar lo, ex, 0, 0)) rfl ?_
      refine to_ialR (i := n2) (v := ((ar 51) n2)) rfl (by decide) rfl (by omega) (by omega) rfl ?_
      refine to_if_eq (t := 69) rfl (fun q4 => ?_) (fun q4 => ?_)
      · refine to_n 1 (fr' := (70, [(0, .ref 49), (1, .int (nI n2)), (2, .int x2), (3, .int x3)], [.int 0], gh S a b (upd sc 4901 0) ar lo, ex, 0, 0)) rfl ?_
        exact to_rt (i := .ireturn) (tg := []) rfl rfl ⟨_, _, _, ⟨hI1, hF1, ⟨rl_n (n := 0) (by omega), (Or.inl ⟨n2, hn2, rfl, zho_0 (fun w => w.2.1 q4), rfl⟩)⟩⟩, rfl⟩
      · refine to_n 1 (fr' := (39, [(0, .ref 49), (1, .int (nI n2)), (2, .int x2), (3, .int x3)], [.ref 49], gh S a b (upd sc 4901 0) ar lo, ex, 0, 0)) rfl ?_
        refine to_get rfl rfl rfl rfl ?_
        refine to_n 1 (fr' := (43, [(0, .ref 49), (1, .int (nI n2)), (2, .int x2), (3, .int x3)], [.int (nI n2), .ref 51], gh S a b (upd sc 4901 0) ar lo, ex, 0, 0)) rfl ?_
        refine to_ialR (i := n2) (v := ((ar 51) n2)) rfl (by decide) rfl (by omega) (by omega) rfl ?_
        refine to_n 1 (fr' := (45, [(0, .ref 49), (1, .int (nI n2)), (2, .int x2), (3, .int x3)], [.int 1, .int ((ar 51) n2)], gh S a b (upd sc 4901 0) ar lo, ex, 0, 0)) rfl ?_
        refine to_ic_eq (t := 69) rfl (fun q5 => ?_) (fun q5 => ?_)
        · refine to_n 1 (fr' := (70, [(0, .ref 49), (1, .int (nI n2)), (2, .int x2), (3, .int x3)], [.int 0], gh S a b (upd sc 4901 0) ar lo, ex, 0, 0)) rfl ?_
          exact to_rt (i := .ireturn) (tg := []) rfl rfl ⟨_, _, _, ⟨hI1, hF1, ⟨rl_n (n := 0) (by omega), (Or.inl ⟨n2, hn2, rfl, zho_0 (fun w => w.2.2 q5), rfl⟩)⟩⟩, rfl⟩
        · refine to_n 2 (fr' := (50, [(0, .ref 49), (1, .int (nI n2)), (2, .int x2), (3, .int x3)], [.int 1, .int x2], gh S a b (upd sc 4901 0) ar lo, ex, 0, 0)) rfl ?_
          refine to_ic_lt (t := 69) rfl (fun q6 => ?_) (fun q6 => ?_)
          · refine to_n 1 (fr' := (70, [(0, .ref 49), (1, .int (nI n2)), (2, .int x2), (3, .int x3)], [.int 0], gh S a b (upd sc 4901 0) ar lo, ex, 0, 0)) rfl ?_
            exact to_rt (i := .ireturn) (tg := []) rfl rfl ⟨_, _, _, ⟨hI1, hF1, ⟨rl_n (n := 0) (by omega), (Or.inl ⟨n2, hn2, rfl, Or.inr ⟨(fun w => Int32.not_lt.mpr w.1.1 q6), rfl, rfl, rfl, rfl, rfl, rfl, rfl⟩, rfl⟩)⟩⟩, rfl⟩
          · refine to_n 2 (fr' := (56, [(0, .ref 49), (1, .int (nI n2)), (2, .int x2), (3, .int x3)], [.int 9, .int x2], gh S a b (upd sc 4901 0) ar lo, ex, 0, 0)) rfl ?_
            refine to_ic_gt (t := 69) rfl (fun q7 => ?_) (fun q7 => ?_)
            · refine to_n 1 (fr' := (70, [(0, .ref 49), (1, .int (nI n2)), (2, .int x2), (3, .int x3)], [.int 0], gh S a b (upd sc 4901 0) ar lo, ex, 0, 0)) rfl ?_
              exact to_rt (i := .ireturn) (tg := []) rfl rfl ⟨_, _, _, ⟨hI1, hF1, ⟨rl_n (n := 0) (by omega), (Or.inl ⟨n2, hn2, rfl, Or.inr ⟨(fun w => Int32.not_lt.mpr w.1.2 q7), rfl, rfl, rfl, rfl, rfl, rfl, rfl⟩, rfl⟩)⟩⟩, rfl⟩
            · refine to_n 1 (fr' := (60, [(0, .ref 49), (1, .int (nI n2)), (2, .int x2), (3, .int x3)], [.int x3], gh S a b (upd sc 4901 0) ar lo, ex, 0, 0)) rfl ?_
              refine to_if_lt (t := 69) rfl (fun q8 => ?_) (fun q8 => ?_)
              · refine to_n 1 (fr' := (70, [(0, .ref 49), (1, .int (nI n2)), (2, .int x2), (3, .int x3)], [.int 0], gh S a b (upd sc 4901 0) ar lo, ex, 0, 0)) rfl ?_
                exact to_rt (i := .ireturn) (tg := []) rfl rfl ⟨_, _, _, ⟨hI1, hF1, ⟨rl_n (n := 0) (by omega), (Or.inl ⟨n2, hn2, rfl, Or.inr ⟨(fun w => Int32.not_lt.mpr w.2.1 q8), rfl, rfl, rfl, rfl, rfl, rfl, rfl⟩, rfl⟩)⟩⟩, rfl⟩
              · refine to_n 2 (fr' := (66, [(0, .ref 49), (1, .int (nI n2)), (2, .int x2), (3, .int x3)], [.int 7, .int x3], gh S a b (upd sc 4901 0) ar lo, ex, 0, 0)) rfl ?_
                refine to_ic_le (t := 71) rfl (fun q9 => ?_) (fun q9 => ?_)
                · refine to_n 1 (fr' := (72, [(0, .ref 49), (1, .int (nI n2)), (2, .int x2), (3, .int x3)], [.ref 49], gh S a b (upd sc 4901 0) ar lo, ex, 0, 0)) rfl ?_
                  refine to_get rfl rfl rfl rfl ?_
                  refine to_n 2 (fr' := (77, [(0, .ref 49), (1, .int (nI n2)), (2, .int x2), (3, .int x3)], [.int 0, .int (nI n2), .ref 51], gh S a b (upd sc 4901 0) ar lo, ex, 0, 0)) rfl ?_
                  refine to_iasR (i := n2) (h' := gh S a b (upd sc 4901 0) (uA ar 51 (upd (ar 51) n2 0)) lo) rfl rfl (by omega) (by omega) rfl ?_
                  have hI10 := ia_51 (g := (upd (ar 51) n2 0)) hI1
                  have hF10 := fr_a (c := 51) (g := (upd (ar 51) n2 0)) hF1 (by decide)
                  refine to_n 1 (fr' := (79, [(0, .ref 49), (1, .int (nI n2)), (2, .int x2), (3, .int x3)], [.ref 49], gh S a b (upd sc 4901 0) (uA ar 51 (upd (ar 51) n2 0)) lo, ex, 0, 0)) rfl ?_
                  refine to_get rfl rfl rfl rfl ?_
                  refine to_n 2 (fr' := (84, [(0, .ref 49), (1, .int (nI n2)), (2, .int x2), (3, .int x3)], [.int x2, .int (nI n2), .ref 52], gh S a b (upd sc 4901 0) (uA ar 51 (upd (ar 51) n2 0)) lo, ex, 0, 0)) rfl ?_
                  refine to_iasR (i := n2) (h' := gh S a b (upd sc 4901 0) (uA (uA ar 51 (upd (ar 51) n2 0)) 52 (upd ((uA ar 51 (upd (ar 51) n2 0)) 52) n2 x2)) lo) rfl rfl (by omega) (by omega) rfl ?_
                  have hI11 := ia_52 (g := (upd ((uA ar 51 (upd (ar 51) n2 0)) 52) n2 x2)) hI10
                  have hF11 := fr_a (c := 52) (g := (upd ((uA ar 51 (upd (ar 51) n2 0)) 52) n2 x2)) hF10 (by decide)
                  refine to_n 1 (fr' := (86, [(0, .ref 49), (1, .int (nI n2)), (2, .int x2), (3, .int x3)], [.ref 49], gh S a b (upd sc 4901 0) (uA (uA ar 51 (upd (ar 51) n2 0)) 52 (upd ((uA ar 51 (upd (ar 51) n2 0)) 52) n2 x2)) lo, ex, 0, 0)) rfl ?_
                  refine to_get rfl rfl rfl rfl ?_
                  refine to_n 2 (fr' := (91, [(0, .ref 49), (1, .int (nI n2)), (2, .int x2), (3, .int x3)], [.int x3, .int (nI n2), .ref 53], gh S a b (upd sc 4901 0) (uA (uA ar 51 (upd (ar 51) n2 0)) 52 (upd ((uA ar 51 (upd (ar 51) n2 0)) 52) n2 x2)) lo, ex, 0, 0)) rfl ?_
                  refine to_iasR (i := n2) (h' := gh S a b (upd sc 4901 0) (uA (uA (uA ar 51 (upd (ar 51) n2 0)) 52 (upd ((uA ar 51 (upd (ar 51) n2 0)) 52) n2 x2)) 53 (upd ((uA (uA ar 51 (upd (ar 51) n2 0)) 52 (upd ((uA ar 51 (upd (ar 51) n2 0)) 52) n2 x2)) 53) n2 x3)) lo) rfl rfl (by omega) (by omega) rfl ?_
                  have hI12 := ia_53 (g := (upd ((uA (uA ar 51 (upd (ar 51) n2 0)) 52 (upd ((uA ar 51 (upd (ar 51) n2 0)) 52) n2 x2)) 53) n2 x3)) hI11
                  have hF12 := fr_a (c := 53) (g := (upd ((uA (uA ar 51 (upd (ar 51) n2 0)) 52 (upd ((uA ar 51 (upd (ar 51) n2 0)) 52) n2 x2)) 53) n2 x3)) hF11 (by decide)
                  refine to_n 1 (fr' := (93, [(0, .ref 49), (1, .int (nI n2)), (2, .int x2), (3, .int x3)], [.ref 49], gh S a b (upd sc 4901 0) (uA (uA (uA ar 51 (upd (ar 51) n2 0)) 52 (upd ((uA ar 51 (upd (ar 51) n2 0)) 52) n2 x2)) 53 (upd ((uA (uA ar 51 (upd (ar 51) n2 0)) 52 (upd ((uA ar 51 (upd (ar 51) n2 0)) 52) n2 x2)) 53) n2 x3)) lo, ex, 0, 0)) rfl ?_
                  refine to_get rfl rfl rfl rfl ?_
                  refine to_n 2 (fr' := (98, [(0, .ref 49), (1, .int (nI n2)), (2, .int x2), (3, .int x3)], [.int x2, .int (nI n2), .ref 54], gh S a b (upd sc 4901 0) (uA (uA (uA ar 51 (upd (ar 51) n2 0)) 52 (upd ((uA ar 51 (upd (ar 51) n2 0)) 52) n2 x2)) 53 (upd ((uA (uA ar 51 (upd (ar 51) n2 0)) 52 (upd ((uA ar 51 (upd (ar 51) n2 0)) 52) n2 x2)) 53) n2 x3)) lo, ex, 0, 0)) rfl ?_
                  refine to_iasR (i := n2) (h' := gh S a b (upd sc 4901 0) (uA (uA (uA (uA ar 51 (upd (ar 51) n2 0)) 52 (upd ((uA ar 51 (upd (ar 51) n2 0)) 52) n2 x2)) 53 (upd ((uA (uA ar 51 (upd (ar 51) n2 0)) 52 (upd ((uA ar 51 (upd (ar 51) n2 0)) 52) n2 x2)) 53) n2 x3)) 54 (upd ((uA (uA (uA ar 51 (upd (ar 51) n2 0)) 52 (upd ((uA ar 51 (upd (ar 51) n2 0)) 52) n2 x2)) 53 (upd ((uA (uA ar 51 (upd (ar 51) n2 0)) 52 (upd ((uA ar 51 (upd (ar 51) n2 0)) 52) n2 x2)) 53) n2 x3)) 54) n2 x2)) lo) rfl rfl (by omega) (by omega) rfl ?_
                  have hI13 := ia_54 (g := (upd ((uA (uA (uA ar 51 (upd (ar 51) n2 0)) 52 (upd ((uA ar 51 (upd (ar 51) n2 0)) 52) n2 x2)) 53 (upd ((uA (uA ar 51 (upd (ar 51) n2 0)) 52 (upd ((uA ar 51 (upd (ar 51) n2 0)) 52) n2 x2)) 53) n2 x3)) 54) n2 x2)) hI12
                  have hF13 := fr_a (c := 54) (g := (upd ((uA (uA (uA ar 51 (upd (ar 51) n2 0)) 52 (upd ((uA ar 51 (upd (ar 51) n2 0)) 52) n2 x2)) 53 (upd ((uA (uA ar 51 (upd (ar 51) n2 0)) 52 (upd ((uA ar 51 (upd (ar 51) n2 0)) 52) n2 x2)) 53) n2 x3)) 54) n2 x2)) hF12 (by decide)
                  refine to_n 1 (fr' := (100, [(0, .ref 49), (1, .int (nI n2)), (2, .int x2), (3, .int x3)], [.ref 49], gh S a b (upd sc 4901 0) (uA (uA (uA (uA ar 51 (upd (ar 51) n2 0)) 52 (upd ((uA ar 51 (upd (ar 51) n2 0)) 52) n2 x2)) 53 (upd ((uA (uA ar 51 (upd (ar 51) n2 0)) 52 (upd ((uA ar 51 (upd (ar 51) n2 0)) 52) n2 x2)) 53) n2 x3)) 54 (upd ((uA (uA (uA ar 51 (upd (ar 51) n2 0)) 52 (upd ((uA ar 51 (upd (ar 51) n2 0)) 52) n2 x2)) 53 (upd ((uA (uA ar 51 (upd (ar 51) n2 0)) 52 (upd ((uA ar 51 (upd (ar 51) n2 0)) 52) n2 x2)) 53) n2 x3)) 54) n2 x2)) lo, ex, 0, 0)) rfl ?_
                  refine to_get rfl rfl rfl rfl ?_
                  refine to_n 2 (fr' := (105, [(0, .ref 49), (1, .int (nI n2)), (2, .int x2), (3, .int x3)], [.int 0, .int (nI n2), .ref 55], gh S a b (upd sc 4901 0) (uA (uA (uA (uA ar 51 (upd (ar 51) n2 0)) 52 (upd ((uA ar 51 (upd (ar 51) n2 0)) 52) n2 x2)) 53 (upd ((uA (uA ar 51 (upd (ar 51) n2 0)) 52 (upd ((uA ar 51 (upd (ar 51) n2 0)) 52) n2 x2)) 53) n2 x3)) 54 (upd ((uA (uA (uA ar 51 (upd (ar 51) n2 0)) 52 (upd ((uA ar 51 (upd (ar 51) n2 0)) 52) n2 x2)) 53 (upd ((uA (uA ar 51 (upd (ar 51) n2 0)) 52 (upd ((uA ar 51 (upd (ar 51) n2 0)) 52) n2 x2)) 53) n2 x3)) 54) n2 x2)) lo, ex, 0, 0)) rfl ?_
                  refine to_iasR (i := n2) (h' := gh S a b (upd sc 4901 0) (uA (uA (uA (uA (uA ar 51 (upd (ar 51) n2 0)) 52 (upd ((uA ar 51 (upd (ar 51) n2 0)) 52) n2 x2)) 53 (upd ((uA (uA ar 51 (upd (ar 51) n2 0)) 52 (upd ((uA ar 51 (upd (ar 51) n2 0)) 52) n2 x2)) 53) n2 x3)) 54 (upd ((uA (uA (uA ar 51 (upd (ar 51) n2 0)) 52 (upd ((uA ar 51 (upd (ar 51) n2 0)) 52) n2 x2)) 53 (upd ((uA (uA ar 51 (upd (ar 51) n2 0)) 52 (upd ((uA ar 51 (upd (ar 51) n2 0)) 52) n2 x2)) 53) n2 x3)) 54) n2 x2)) 55 (upd ((uA (uA (uA (uA ar 51 (upd (ar 51) n2 0)) 52 (upd ((uA ar 51 (upd (ar 51) n2 0)) 52) n2 x2)) 53 (upd ((uA (uA ar 51 (upd (ar 51) n2 0)) 52 (upd ((uA ar 51 (upd (ar 51) n2 0)) 52) n2 x2)) 53) n2 x3)) 54 (upd ((uA (uA (uA ar 51 (upd (ar 51) n2 0)) 52 (upd ((uA ar 51 (upd (ar 51) n2 0)) 52) n2 x2)) 53 (upd ((uA (uA ar 51 (upd (ar 51) n2 0)) 52 (upd ((uA ar 51 (upd (ar 51) n2 0)) 52) n2 x2)) 53) n2 x3)) 54) n2 x2)) 55) n2 0)) lo) rfl rfl (by omega) (by omega) rfl ?_
                  have hI14 := ia_55 (g := (upd ((uA (uA (uA (uA ar 51 (upd (ar 51) n2 0)) 52 (upd ((uA ar 51 (upd (ar 51) n2 0)) 52) n2 x2)) 53 (upd ((uA (uA ar 51 (upd (ar 51) n2 0)) 52 (upd ((uA ar 51 (upd (ar 51) n2 0)) 52) n2 x2)) 53) n2 x3)) 54 (upd ((uA (uA (uA ar 51 (upd (ar 51) n2 0)) 52 (upd ((uA ar 51 (upd (ar 51) n2 0)) 52) n2 x2)) 53 (upd ((uA (uA ar 51 (upd (ar 51) n2 0)) 52 (upd ((uA ar 51 (upd (ar 51) n2 0)) 52) n2 x2)) 53) n2 x3)) 54) n2 x2)) 55) n2 0)) hI13
                  have hF14 := fr_a (c := 55) (g := (upd ((uA (uA (uA (uA ar 51 (upd (ar 51) n2 0)) 52 (upd ((uA ar 51 (upd (ar 51) n2 0)) 52) n2 x2)) 53 (upd ((uA (uA ar 51 (upd (ar 51) n2 0)) 52 (upd ((uA ar 51 (upd (ar 51) n2 0)) 52) n2 x2)) 53) n2 x3)) 54 (upd ((uA (uA (uA ar 51 (upd (ar 51) n2 0)) 52 (upd ((uA ar 51 (upd (ar 51) n2 0)) 52) n2 x2)) 53 (upd ((uA (uA ar 51 (upd (ar 51) n2 0)) 52 (upd ((uA ar 51 (upd (ar 51) n2 0)) 52) n2 x2)) 53) n2 x3)) 54) n2 x2)) 55) n2 0)) hF13 (by decide)
                  refine to_n 1 (fr' := (107, [(0, .ref 49), (1, .int (nI n2)), (2, .int x2), (3, .int x3)], [.ref 49], gh S a b (upd sc 4901 0) (uA (uA (uA (uA (uA ar 51 (upd (ar 51) n2 0)) 52 (upd ((uA ar 51 (upd (ar 51) n2 0)) 52) n2 x2)) 53 (upd ((uA (uA ar 51 (upd (ar 51) n2 0)) 52 (upd ((uA ar 51 (upd (ar 51) n2 0)) 52) n2 x2)) 53) n2 x3)) 54 (upd ((uA (uA (uA ar 51 (upd (ar 51) n2 0)) 52 (upd ((uA ar 51 (upd (ar 51) n2 0)) 52) n2 x2)) 53 (upd ((uA (uA ar 51 (upd (ar 51) n2 0)) 52 (upd ((uA ar 51 (upd (ar 51) n2 0)) 52) n2 x2)) 53) n2 x3)) 54) n2 x2)) 55 (upd ((uA (uA (uA (uA ar 51 (upd (ar 51) n2 0)) 52 (upd ((uA ar 51 (upd (ar 51) n2 0)) 52) n2 x2)) 53 (upd ((uA (uA ar 51 (upd (ar 51) n2 0)) 52 (upd ((uA ar 51 (upd (ar 51) n2 0)) 52) n2 x2)) 53) n2 x3)) 54 (upd ((uA (uA (uA ar 51 (upd (ar 51) n2 0)) 52 (upd ((uA ar 51 (upd (ar 51) n2 0)) 52) n2 x2)) 53 (upd ((uA (uA ar 51 (upd (ar 51) n2 0)) 52 (upd ((uA ar 51 (upd (ar 51) n2 0)) 52) n2 x2)) 53) n2 x3)) 54) n2 x2)) 55) n2 0)) lo, ex, 0, 0)) rfl ?_
                  refine to_get rfl rfl rfl rfl ?_
                  refine to_n 2 (fr' := (112, [(0, .ref 49), (1, .int (nI n2)), (2, .int x2), (3, .int x3)], [.int 0, .int (nI n2), .ref 56], gh S a b (upd sc 4901 0) (uA (uA (uA (uA (uA ar 51 (upd (ar 51) n2 0)) 52 (upd ((uA ar 51 (upd (ar 51) n2 0)) 52) n2 x2)) 53 (upd ((uA (uA ar 51 (upd (ar 51) n2 0)) 52 (upd ((uA ar 51 (upd (ar 51) n2 0)) 52) n2 x2)) 53) n2 x3)) 54 (upd ((uA (uA (uA ar 51 (upd (ar 51) n2 0)) 52 (upd ((uA ar 51 (upd (ar 51) n2 0)) 52) n2 x2)) 53 (upd ((uA (uA ar 51 (upd (ar 51) n2 0)) 52 (upd ((uA ar 51 (upd (ar 51) n2 0)) 52) n2 x2)) 53) n2 x3)) 54) n2 x2)) 55 (upd ((uA (uA (uA (uA ar 51 (upd (ar 51) n2 0)) 52 (upd ((uA ar 51 (upd (ar 51) n2 0)) 52) n2 x2)) 53 (upd ((uA (uA ar 51 (upd (ar 51) n2 0)) 52 (upd ((uA ar 51 (upd (ar 51) n2 0)) 52) n2 x2)) 53) n2 x3)) 54 (upd ((uA (uA (uA ar 51 (upd (ar 51) n2 0)) 52 (upd ((uA ar 51 (upd (ar 51) n2 0)) 52) n2 x2)) 53 (upd ((uA (uA ar 51 (upd (ar 51) n2 0)) 52 (upd ((uA ar 51 (upd (ar 51) n2 0)) 52) n2 x2)) 53) n2 x3)) 54) n2 x2)) 55) n2 0)) lo, ex, 0, 0)) rfl ?_
                  refine to_iasR (i := n2) (h' := gh S a b (upd sc 4901 0) (uA (uA (uA (uA (uA (uA ar 51 (upd (ar 51) n2 0)) 52 (upd ((uA ar 51 (upd (ar 51) n2 0)) 52) n2 x2)) 53 (upd ((uA (uA ar 51 (upd (ar 51) n2 0)) 52 (upd ((uA ar 51 (upd (ar 51) n2 0)) 52) n2 x2)) 53) n2 x3)) 54 (upd ((uA (uA (uA ar 51 (upd (ar 51) n2 0)) 52 (upd ((uA ar 51 (upd (ar 51) n2 0)) 52) n2 x2)) 53 (upd ((uA (uA ar 51 (upd (ar 51) n2 0)) 52 (upd ((uA ar 51 (upd (ar 51) n2 0)) 52) n2 x2)) 53) n2 x3)) 54) n2 x2)) 55 (upd ((uA (uA (uA (uA ar 51 (upd (ar 51) n2 0)) 52 (upd ((uA ar 51 (upd (ar 51) n2 0)) 52) n2 x2)) 53 (upd ((uA (uA ar 51 (upd (ar 51) n2 0)) 52 (upd ((uA ar 51 (upd (ar 51) n2 0)) 52) n2 x2)) 53) n2 x3)) 54 (upd ((uA (uA (uA ar 51 (upd (ar 51) n2 0)) 52 (upd ((uA ar 51 (upd (ar 51) n2 0)) 52) n2 x2)) 53 (upd ((uA (uA ar 51 (upd (ar 51) n2 0)) 52 (upd ((uA ar 51 (upd (ar 51) n2 0)) 52) n2 x2)) 53) n2 x3)) 54) n2 x2)) 55) n2 0)) 56 (upd ((uA (uA (uA (uA (uA ar 51 (upd (ar 51) n2 0)) 52 (upd ((uA ar 51 (upd (ar 51) n2 0)) 52) n2 x2)) 53 (upd ((uA (uA ar 51 (upd (ar 51) n2 0)) 52 (upd ((uA ar 51 (upd (ar 51) n2 0)) 52) n2 x2)) 53) n2 x3)) 54 (upd ((uA (uA (uA ar 51 (upd (ar 51) n2 0)) 52 (upd ((uA ar 51 (upd (ar 51) n2 0)) 52) n2 x2)) 53 (upd ((uA (uA ar 51 (upd (ar 51) n2 0)) 52 (upd ((uA ar 51 (upd (ar 51) n2 0)) 52) n2 x2)) 53) n2 x3)) 54) n2 x2)) 55 (upd ((uA (uA (uA (uA ar 51 (upd (ar 51) n2 0)) 52 (upd ((uA ar 51 (upd (ar 51) n2 0)) 52) n2 x2)) 53 (upd ((uA (uA ar 51 (upd (ar 51) n2 0)) 52 (upd ((uA ar 51 (upd (ar 51) n2 0)) 52) n2 x2)) 53) n2 x3)) 54 (upd ((uA (uA (uA ar 51 (upd (ar 51) n2 0)) 52 (upd ((uA ar 51 (upd (ar 51) n2 0)) 52) n2 x2)) 53 (upd ((uA (uA ar 51 (upd (ar 51) n2 0)) 52 (upd ((uA ar 51 (upd (ar 51) n2 0)) 52) n2 x2)) 53) n2 x3)) 54) n2 x2)) 55) n2 0)) 56) n2 0)) lo) rfl rfl (by omega) (by omega) rfl ?_
                  have hI15 := ia_56 (g := (upd ((uA (uA (uA (uA (uA ar 51 (upd (ar 51) n2 0)) 52 (upd ((uA ar 51 (upd (ar 51) n2 0)) 52) n2 x2)) 53 (upd ((uA (uA ar 51 (upd (ar 51) n2 0)) 52 (upd ((uA ar 51 (upd (ar 51) n2 0)) 52) n2 x2)) 53) n2 x3)) 54 (upd ((uA (uA (uA ar 51 (upd (ar 51) n2 0)) 52 (upd ((uA ar 51 (upd (ar 51) n2 0)) 52) n2 x2)) 53 (upd ((uA (uA ar 51 (upd (ar 51) n2 0)) 52 (upd ((uA ar 51 (upd (ar 51) n2 0)) 52) n2 x2)) 53) n2 x3)) 54) n2 x2)) 55 (upd ((uA (uA (uA (uA ar 51 (upd (ar 51) n2 0)) 52 (upd ((uA ar 51 (upd (ar 51) n2 0)) 52) n2 x2)) 53 (upd ((uA (uA ar 51 (upd (ar 51) n2 0)) 52 (upd ((uA ar 51 (upd (ar 51) n2 0)) 52) n2 x2)) 53) n2 x3)) 54 (upd ((uA (uA (uA ar 51 (upd (ar 51) n2 0)) 52 (upd ((uA ar 51 (upd (ar 51) n2 0)) 52) n2 x2)) 53 (upd ((uA (uA ar 51 (upd (ar 51) n2 0)) 52 (upd ((uA ar 51 (upd (ar 51) n2 0)) 52) n2 x2)) 53) n2 x3)) 54) n2 x2)) 55) n2 0)) 56) n2 0)) hI14
                  have hF15 := fr_a (c := 56) (g := (upd ((uA (uA (uA (uA (uA ar 51 (upd (ar 51) n2 0)) 52 (upd ((uA ar 51 (upd (ar 51) n2 0)) 52) n2 x2)) 53 (upd ((uA (uA ar 51 (upd (ar 51) n2 0)) 52 (upd ((uA ar 51 (upd (ar 51) n2 0)) 52) n2 x2)) 53) n2 x3)) 54 (upd ((uA (uA (uA ar 51 (upd (ar 51) n2 0)) 52 (upd ((uA ar 51 (upd (ar 51) n2 0)) 52) n2 x2)) 53 (upd ((uA (uA ar 51 (upd (ar 51) n2 0)) 52 (upd ((uA ar 51 (upd (ar 51) n2 0)) 52) n2 x2)) 53) n2 x3)) 54) n2 x2)) 55 (upd ((uA (uA (uA (uA ar 51 (upd (ar 51) n2 0)) 52 (upd ((uA ar 51 (upd (ar 51) n2 0)) 52) n2 x2)) 53 (upd ((uA (uA ar 51 (upd (ar 51) n2 0)) 52 (upd ((uA ar 51 (upd (ar 51) n2 0)) 52) n2 x2)) 53) n2 x3)) 54 (upd ((uA (uA (uA ar 51 (upd (ar 51) n2 0)) 52 (upd ((uA ar 51 (upd (ar 51) n2 0)) 52) n2 x2)) 53 (upd ((uA (uA ar 51 (upd (ar 51) n2 0)) 52 (upd ((uA ar 51 (upd (ar 51) n2 0)) 52) n2 x2)) 53) n2 x3)) 54) n2 x2)) 55) n2 0)) 56) n2 0)) hF14 (by decide)
                  refine to_n 1 (fr' := (114, [(0, .ref 49), (1, .int (nI n2)), (2, .int x2), (3, .int x3)], [.int 1], gh S a b (upd sc 4901 0) (uA (uA (uA (uA (uA (uA ar 51 (upd (ar 51) n2 0)) 52 (upd ((uA ar 51 (upd (ar 51) n2 0)) 52) n2 x2)) 53 (upd ((uA (uA ar 51 (upd (ar 51) n2 0)) 52 (upd ((uA ar 51 (upd (ar 51) n2 0)) 52) n2 x2)) 53) n2 x3)) 54 (upd ((uA (uA (uA ar 51 (upd (ar 51) n2 0)) 52 (upd ((uA ar 51 (upd (ar 51) n2 0)) 52) n2 x2)) 53 (upd ((uA (uA ar 51 (upd (ar 51) n2 0)) 52 (upd ((uA ar 51 (upd (ar 51) n2 0)) 52) n2 x2)) 53) n2 x3)) 54) n2 x2)) 55 (upd ((uA (uA (uA (uA ar 51 (upd (ar 51) n2 0)) 52 (upd ((uA ar 51 (upd (ar 51) n2 0)) 52) n2 x2)) 53 (upd ((uA (uA ar 51 (upd (ar 51) n2 0)) 52 (upd ((uA ar 51 (upd (ar 51) n2 0)) 52) n2 x2)) 53) n2 x3)) 54 (upd ((uA (uA (uA ar 51 (upd (ar 51) n2 0)) 52 (upd ((uA ar 51 (upd (ar 51) n2 0)) 52) n2 x2)) 53 (upd ((uA (uA ar 51 (upd (ar 51) n2 0)) 52 (upd ((uA ar 51 (upd (ar 51) n2 0)) 52) n2 x2)) 53) n2 x3)) 54) n2 x2)) 55) n2 0)) 56 (upd ((uA (uA (uA (uA (uA ar 51 (upd (ar 51) n2 0)) 52 (upd ((uA ar 51 (upd (ar 51) n2 0)) 52) n2 x2)) 53 (upd ((uA (uA ar 51 (upd (ar 51) n2 0)) 52 (upd ((uA ar 51 (upd (ar 51) n2 0)) 52) n2 x2)) 53) n2 x3)) 54 (upd ((uA (uA (uA ar 51 (upd (ar 51) n2 0)) 52 (upd ((uA ar 51 (upd (ar 51) n2 0)) 52) n2 x2)) 53 (upd ((uA (uA ar 51 (upd (ar 51) n2 0)) 52 (upd ((uA ar 51 (upd (ar 51) n2 0)) 52) n2 x2)) 53) n2 x3)) 54) n2 x2)) 55 (upd ((uA (uA (uA (uA ar 51 (upd (ar 51) n2 0)) 52 (upd ((uA ar 51 (upd (ar 51) n2 0)) 52) n2 x2)) 53 (upd ((uA (uA ar 51 (upd (ar 51) n2 0)) 52 (upd ((uA ar 51 (upd (ar 51) n2 0)) 52) n2 x2)) 53) n2 x3)) 54 (upd ((uA (uA (uA ar 51 (upd (ar 51) n2 0)) 52 (upd ((uA ar 51 (upd (ar 51) n2 0)) 52) n2 x2)) 53 (upd ((uA (uA ar 51 (upd (ar 51) n2 0)) 52 (upd ((uA ar 51 (upd (ar 51) n2 0)) 52) n2 x2)) 53) n2 x3)) 54) n2 x2)) 55) n2 0)) 56) n2 0)) lo, ex, 0, 0)) rfl ?_
                  exact to_rt (i := .ireturn) (tg := []) rfl rfl ⟨_, _, _, ⟨hI15, hF15, ⟨rl_n (n := 1) (by omega), (Or.inl ⟨n2, hn2, rfl, Or.inl ⟨⟨⟨Int32.not_lt.mp q6, Int32.not_lt.mp q7⟩, Int32.not_lt.mp q8, q9⟩, Or.inl ⟨rfl, ⟨q3, q4, q5⟩, rfl, rfl, rfl, rfl, rfl, rfl⟩⟩, rfl⟩)⟩⟩, rfl⟩
                · refine to_n 1 (fr' := (70, [(0, .ref 49), (1, .int (nI n2)), (2, .int x2), (3, .int x3)], [.int 0], gh S a b (upd sc 4901 0) ar lo, ex, 0, 0)) rfl ?_
                  exact to_rt (i := .ireturn) (tg := []) rfl rfl ⟨_, _, _, ⟨hI1, hF1, ⟨rl_n (n := 0) (by omega), (Or.inl ⟨n2, hn2, rfl, Or.inr ⟨(fun w => q9 w.2.2), rfl, rfl, rfl, rfl, rfl, rfl, rfl⟩, rfl⟩)⟩⟩, rfl⟩
  · refine to_cp (q := 110) (M1 := an_X10_isCell) (rest := []) rfl rfl (by decide) rfl ⟨_, rfl⟩ (mc_isCell_0 hW w2 d) (fun x2 hx2 => ?_)
    obtain rfl := hx2
    refine to_eq (fr' := (10, [(0, .ref 49), (1, .int x1), (2, .int x2), (3, .int x3)], [.int 0], gh S a b (upd sc 4901 0) ar lo, ex, 0, 0)) rfl ?_
    refine to_n 2 (fr' := (14, [(0, .ref 49), (1, .int x1), (2, .int x2), (3, .int x3)], [.ref 49], gh S a b (upd sc 4901 0) ar lo, ex, 0, 0)) rfl ?_
    refine to_ci (q := 109) (M1 := an_X10_fail) (rest := []) rfl rfl (by decide) rfl ⟨_, rfl⟩ (sf_X10_fail hW hI1  d) (fun x16 sc16 ar16 hx16 => ?_)
    obtain ⟨hI16, hG16, hx16⟩ := hx16
    have hF16 := fr_t hF1 hG16 (by decide) (by decide)
    have hp16 := hx16
    refine to_eq (fr' := (17, [(0, .ref 49), (1, .int x1), (2, .int x2), (3, .int x3)], [.int x16], gh S a b sc16 ar16 lo, ex, 0, 0)) rfl ?_
    refine to_n 2 (fr' := (19, [(0, .ref 49), (1, .int x1), (2, .int x2), (3, .int x3)], [.int 0], gh S a b sc16 ar16 lo, ex, 0, 0)) rfl ?_
    exact to_rt (i := .ireturn) (tg := []) rfl rfl ⟨_, _, _, ⟨hI16, hF16, ⟨rl_n (n := 0) (by omega), (Or.inr ⟨w2, hG16.2 51 (by decide), hG16.2 52 (by decide), hG16.2 53 (by decide), hG16.2 54 (by decide), hG16.2 55 (by decide), hG16.2 56 (by decide), hp16⟩)⟩⟩, rfl⟩
set_option maxRecDepth 20000 in
theorem sf_X10_well {X : Nat × (Nat → Int32)} {S a b : Nat} {sc : Nat → Int32} {ar : Nat → Nat → Int32} {lo : Nat → Int64} {ex : Bool} (hW : Wd S a b) (hI : Iv S sc ar) (x1 : Int32) (k2 : Nat) (hk2 : k2 < 2) (d : Nat)  : ci X S a b (d + 2) 115 [.ref 49, .int x1, .int (nI k2)] sc ar lo ex (fun x sc' ar' => Iv S sc' ar' ∧ Fr [4901] [58] sc ar sc' ar' ∧ rl x 2 ∧ ((∃ n : Nat, n < S ∧ x1 = nI n ∧ zwe n (nI k2) x (ar 51) (ar 58) (ar' 58) ∧ sc' 4901 = 0) ∨ (¬ (0 ≤ x1 ∧ x1 < nI S) ∧ ar' 58 = ar 58 ∧ sc' 4901 = 1))) := by
  obtain ⟨ha1, ha8, hb1, hb8, hab, hS1, hS⟩ := id hW
  refine ci_of (M := an_X10_well) rfl (Nat.le_of_ble_eq_true rfl) ?_
  have hF : Fr [4901] [58] sc ar sc ar := fr_0
  refine to_eq (fr' := (0, [(0, .ref 49), (1, .int x1), (2, .int (nI k2))], [], gh S a b sc ar lo, ex, 0, 0)) rfl ?_
  refine to_n 2 (fr' := (2, [(0, .ref 49), (1, .int x1), (2, .int (nI k2))], [.int 0, .ref 49], gh S a b sc ar lo, ex, 0, 0)) rfl ?_
  refine to_putR (h' := gh S a b (upd sc 4901 0) ar lo) rfl rfl rfl (Nat.le_of_ble_eq_true rfl) rfl rfl ?_
  have hI1 := ip_4901 (v := 0) hI 
  have hF1 := fr_s (k := 4901) (v := 0) hF (by decide)
  refine to_n 2 (fr' := (7, [(0, .ref 49), (1, .int x1), (2, .int (nI k2))], [.int x1, .ref 49], gh S a b (upd sc 4901 0) ar lo, ex, 0, 0)) rfl ?_
  rcases has_or (x := x1) (B := S) (by omega) with ⟨n2, hn2, e2⟩ | w2
  · rw [e2]
    refine to_cp (q := 110) (M1 := an_X10_isCell) (rest := []) rfl rfl (by decide) rfl ⟨_, rfl⟩ (mc_isCell_1 (n := n2) hW (by omega) d) (fun x2 hx2 => ?_)
    obtain rfl := hx2
    refine to_eq (fr' := (10, [(0, .ref 49), (1, .int (nI n2)), (2, .int (nI k2))], [.int 1], gh S a b (upd sc 4901 0) ar lo, ex, 0, 0)) rfl ?_
    refine to_n 2 (fr' := (21, [(0, .ref 49), (1, .int (nI n2)), (2, .int (nI k2))], [.ref 49], gh S a b (upd sc 4901 0) ar lo, ex, 0, 0)) rfl ?_
    refine to_get rfl rfl rfl rfl ?_
    refine to_n 1 (fr' := (25, [(0, .ref 49), (1, .int (nI n2)), (2, .int (nI k2))], [.int (nI n2), .ref 51], gh S a b (upd sc 4901 0) ar lo, ex, 0, 0)) rfl ?_
    refine to_ialR (i := n2) (v := (ar 51 n2)) rfl (by decide) rfl (by omega) (by omega) (congrFun (hF1.2 51 (by decide)) n2) ?_
    refine to_n 1 (fr' := (27, [(0, .ref 49), (1, .int (nI n2)), (2, .int (nI k2))], [.int (-1), .int (ar 51 n2)], gh S a b (upd sc 4901 0) ar lo, ex, 0, 0)) rfl ?_
    refine to_ic_ne (t := 40) rfl (fun q3 => ?_) (fun q3 => ?_)
    · refine to_n 1 (fr' := (41, [(0, .ref 49), (1, .int (nI n2)), (2, .int (nI k2))], [.int 0], gh S a b (upd sc 4901 0) ar lo, ex, 0, 0)) rfl ?_
      exact to_rt (i := .ireturn) (tg := []) rfl rfl ⟨_, _, _, ⟨hI1, hF1, ⟨rl_n (n := 0) (by omega), (Or.inl ⟨n2, hn2, rfl, Or.inr ⟨rfl, fun z => q3 z.1, rfl⟩, rfl⟩)⟩⟩, rfl⟩
    · refine to_n 1 (fr' := (31, [(0, .ref 49), (1, .int (nI n2)), (2, .int (nI k2))], [.ref 49], gh S a b (upd sc 4901 0) ar lo, ex, 0, 0)) rfl ?_
      refine to_get rfl rfl rfl rfl ?_
      refine to_n 1 (fr' := (35, [(0, .ref 49), (1, .int (nI n2)), (2, .int (nI k2))], [.int (nI n2), .ref 58], gh S a b (upd sc 4901 0) ar lo, ex, 0, 0)) rfl ?_
      refine to_zalR (i := n2) (v := ((ar 58) n2)) rfl rfl (by omega) (by omega) rfl ?_
      refine to_n 1 (fr' := (37, [(0, .ref 49), (1, .int (nI n2)), (2, .int (nI k2))], [.int (nI k2), .int ((ar 58) n2)], gh S a b (upd sc 4901 0) ar lo, ex, 0, 0)) rfl ?_
      refine to_ic_ne (t := 42) rfl (fun q4 => ?_) (fun q4 => ?_)
      · refine to_n 1 (fr' := (43, [(0, .ref 49), (1, .int (nI n2)), (2, .int (nI k2))], [.ref 49], gh S a b (upd sc 4901 0) ar lo, ex, 0, 0)) rfl ?_
        refine to_get rfl rfl rfl rfl ?_
        refine to_n 2 (fr' := (48, [(0, .ref 49), (1, .int (nI n2)), (2, .int (nI k2))], [.int (nI k2), .int (nI n2), .ref 58], gh S a b (upd sc 4901 0) ar lo, ex, 0, 0)) rfl ?_
        refine to_zasR (i := n2) (h' := gh S a b (upd sc 4901 0) (uA ar 58 (upd (ar 58) n2 (vp_nar .boolean (nI k2)))) lo) rfl rfl (by omega) (by omega) rfl ?_
        have hI5 := ia_58 (g := (upd (ar 58) n2 (vp_nar .boolean (nI k2)))) hI1
        have hF5 := fr_a (c := 58) (g := (upd (ar 58) n2 (vp_nar .boolean (nI k2)))) hF1 (by decide)
        refine to_n 1 (fr' := (50, [(0, .ref 49), (1, .int (nI n2)), (2, .int (nI k2))], [.int 1], gh S a b (upd sc 4901 0) (uA ar 58 (upd (ar 58) n2 (vp_nar .boolean (nI k2)))) lo, ex, 0, 0)) rfl ?_
        exact to_rt (i := .ireturn) (tg := []) rfl rfl ⟨_, _, _, ⟨hI5, hF5, ⟨rl_n (n := 1) (by omega), (Or.inl ⟨n2, hn2, rfl, Or.inl ⟨rfl, ⟨q3, q4⟩, zwe_b (by omega)⟩, rfl⟩)⟩⟩, rfl⟩
      · refine to_n 1 (fr' := (41, [(0, .ref 49), (1, .int (nI n2)), (2, .int (nI k2))], [.int 0], gh S a b (upd sc 4901 0) ar lo, ex, 0, 0)) rfl ?_
        exact to_rt (i := .ireturn) (tg := []) rfl rfl ⟨_, _, _, ⟨hI1, hF1, ⟨rl_n (n := 0) (by omega), (Or.inl ⟨n2, hn2, rfl, Or.inr ⟨rfl, fun z => z.2 q4, rfl⟩, rfl⟩)⟩⟩, rfl⟩
  · refine to_cp (q := 110) (M1 := an_X10_isCell) (rest := []) rfl rfl (by decide) rfl ⟨_, rfl⟩ (mc_isCell_0 hW w2 d) (fun x2 hx2 => ?_)
    obtain rfl := hx2
    refine to_eq (fr' := (10, [(0, .ref 49), (1, .int x1), (2, .int (nI k2))], [.int 0], gh S a b (upd sc 4901 0) ar lo, ex, 0, 0)) rfl ?_
    refine to_n 2 (fr' := (14, [(0, .ref 49), (1, .int x1), (2, .int (nI k2))], [.ref 49], gh S a b (upd sc 4901 0) ar lo, ex, 0, 0)) rfl ?_
    refine to_ci (q := 109) (M1 := an_X10_fail) (rest := []) rfl rfl (by decide) rfl ⟨_, rfl⟩ (sf_X10_fail hW hI1  d) (fun x6 sc6 ar6 hx6 => ?_)
    obtain ⟨hI6, hG6, hx6⟩ := hx6
    have hF6 := fr_t hF1 hG6 (by decide) (by decide)
    have hp6 := hx6
    refine to_eq (fr' := (17, [(0, .ref 49), (1, .int x1), (2, .int (nI k2))], [.int x6], gh S a b sc6 ar6 lo, ex, 0, 0)) rfl ?_
    refine to_n 2 (fr' := (19, [(0, .ref 49), (1, .int x1), (2, .int (nI k2))], [.int 0], gh S a b sc6 ar6 lo, ex, 0, 0)) rfl ?_
    exact to_rt (i := .ireturn) (tg := []) rfl rfl ⟨_, _, _, ⟨hI6, hF6, ⟨rl_n (n := 0) (by omega), (Or.inr ⟨w2, hG6.2 58 (by decide), hp6⟩)⟩⟩, rfl⟩
set_option maxRecDepth 20000 in
theorem sf_X10_company {X : Nat × (Nat → Int32)} {S a b : Nat} {sc : Nat → Int32} {ar : Nat → Nat → Int32} {lo : Nat → Int64} {ex : Bool} (hW : Wd S a b) (hI : Iv S sc ar) (x1 : Int32) (x2 : Int32) (x3 : Int32) (d : Nat)  : ci X S a b (d + 2) 117 [.ref 49, .int x1, .int x2, .int x3] sc ar lo ex (fun x sc' ar' => Iv S sc' ar' ∧ Fr [4901, 4906] [59, 60, 61, 62] sc ar sc' ar' ∧ ((∃ k : Nat, k < S ∧ x3 = nI k ∧ co_P 4906 x1 x2 x sc sc' ∧ zen 4906 59 60 61 62 x1 x2 (nI k) x sc sc' ar ar' ∧ sc' 4901 = 0) ∨ (¬ (0 ≤ x3 ∧ x3 < nI S) ∧ sc' 4906 = sc 4906 ∧ ar' 59 = ar 59 ∧ ar' 60 = ar 60 ∧ ar' 61 = ar 61 ∧ ar' 62 = ar 62 ∧ sc' 4901 = 1))) := by
  obtain ⟨ha1, ha8, hb1, hb8, hab, hS1, hS⟩ := id hW
  obtain ⟨s0, hs0, es0⟩ := iv_s4906 hI
  refine ci_of (M := an_X10_company) rfl (Nat.le_of_ble_eq_true rfl) ?_
  have hF : Fr [4901, 4906] [59, 60, 61, 62] sc ar sc ar := fr_0
  refine to_eq (fr' := (0, [(0, .ref 49), (1, .int x1), (2, .int x2), (3, .int x3)], [], gh S a b sc ar lo, ex, 0, 0)) rfl ?_
  refine to_n 2 (fr' := (2, [(0, .ref 49), (1, .int x1), (2, .int x2), (3, .int x3)], [.int 0, .ref 49], gh S a b sc ar lo, ex, 0, 0)) rfl ?_
  refine to_putR (h' := gh S a b (upd sc 4901 0) ar lo) rfl rfl rfl (Nat.le_of_ble_eq_true rfl) rfl rfl ?_
  have hI1 := ip_4901 (v := 0) hI 
  have hF1 := fr_s (k := 4901) (v := 0) hF (by decide)
  refine to_n 2 (fr' := (7, [(0, .ref 49), (1, .int x1), (2, .int x2), (3, .int x3)], [.int x3, .ref 49], gh S a b (upd sc 4901 0) ar lo, ex, 0, 0)) rfl ?_
  rcases has_or (x := x3) (B := S) (by omega) with ⟨n2, hn2, e2⟩ | w2
  · rw [e2]
    refine to_cp (q := 110) (M1 := an_X10_isCell) (rest := []) rfl rfl (by decide) rfl ⟨_, rfl⟩ (mc_isCell_1 (n := n2) hW (by omega) d) (fun x2 hx2 => ?_)
    obtain rfl := hx2
    refine to_eq (fr' := (10, [(0, .ref 49), (1, .int x1), (2, .int x2), (3, .int (nI n2))], [.int 1], gh S a b (upd sc 4901 0) ar lo, ex, 0, 0)) rfl ?_
    refine to_n 2 (fr' := (19, [(0, .ref 49), (1, .int x1), (2, .int x2), (3, .int (nI n2))], [.ref 49], gh S a b (upd sc 4901 0) ar lo, ex, 0, 0)) rfl ?_
    refine to_getR (v := (nI s0)) rfl rfl rfl rfl es0 ?_
    refine to_n 1 (fr' := (24, [(0, .ref 49), (1, .int x1), (2, .int x2), (3, .int (nI n2))], [.int 8, .int (nI s0)], gh S a b (upd sc 4901 0) ar lo, ex, 0, 0)) rfl ?_
    refine to_nc_eq (t := 48) (x := s0) (y := 8) rfl (by omega) (by omega) (fun q3 => ?_) (fun q3 => ?_)
    · refine to_n 1 (fr' := (49, [(0, .ref 49), (1, .int x1), (2, .int x2), (3, .int (nI n2))], [.int (-1)], gh S a b (upd sc 4901 0) ar lo, ex, 0, 0)) rfl ?_
      exact to_rt (i := .ireturn) (tg := []) rfl rfl ⟨_, _, _, ⟨hI1, hF1, (Or.inl ⟨n2, hn2, rfl, ⟨s0, by omega, es0, Or.inr ⟨(fun w => by have := w.2; omega), rfl, rfl⟩⟩, Or.inl ⟨rfl, rfl, rfl, rfl, rfl, rfl⟩, rfl⟩)⟩, rfl⟩
    · refine to_n 1 (fr' := (28, [(0, .ref 49), (1, .int x1), (2, .int x2), (3, .int (nI n2))], [.int x1], gh S a b (upd sc 4901 0) ar lo, ex, 0, 0)) rfl ?_
      refine to_if_lt (t := 48) rfl (fun q4 => ?_) (fun q4 => ?_)
      · refine to_n 1 (fr' := (49, [(0, .ref 49), (1, .int x1), (2, .int x2), (3, .int (nI n2))], [.int (-1)], gh S a b (upd sc 4901 0) ar lo, ex, 0, 0)) rfl ?_
        exact to_rt (i := .ireturn) (tg := []) rfl rfl ⟨_, _, _, ⟨hI1, hF1, (Or.inl ⟨n2, hn2, rfl, ⟨s0, by omega, es0, Or.inr ⟨(fun w => Int32.not_lt.mpr w.1.1.1 q4), rfl, rfl⟩⟩, Or.inl ⟨rfl, rfl, rfl, rfl, rfl, rfl⟩, rfl⟩)⟩, rfl⟩
      · refine to_n 2 (fr' := (34, [(0, .ref 49), (1, .int x1), (2, .int x2), (3, .int (nI n2))], [.int 7, .int x1], gh S a b (upd sc 4901 0) ar lo, ex, 0, 0)) rfl ?_
        refine to_ic_gt (t := 48) rfl (fun q5 => ?_) (fun q5 => ?_)
        · refine to_n 1 (fr' := (49, [(0, .ref 49), (1, .int x1), (2, .int x2), (3, .int (nI n2))], [.int (-1)], gh S a b (upd sc 4901 0) ar lo, ex, 0, 0)) rfl ?_
          exact to_rt (i := .ireturn) (tg := []) rfl rfl ⟨_, _, _, ⟨hI1, hF1, (Or.inl ⟨n2, hn2, rfl, ⟨s0, by omega, es0, Or.inr ⟨(fun w => Int32.not_lt.mpr w.1.1.2 q5), rfl, rfl⟩⟩, Or.inl ⟨rfl, rfl, rfl, rfl, rfl, rfl⟩, rfl⟩)⟩, rfl⟩
        · refine to_n 2 (fr' := (39, [(0, .ref 49), (1, .int x1), (2, .int x2), (3, .int (nI n2))], [.int 1, .int x2], gh S a b (upd sc 4901 0) ar lo, ex, 0, 0)) rfl ?_
          refine to_ic_lt (t := 48) rfl (fun q6 => ?_) (fun q6 => ?_)
          · refine to_n 1 (fr' := (49, [(0, .ref 49), (1, .int x1), (2, .int x2), (3, .int (nI n2))], [.int (-1)], gh S a b (upd sc 4901 0) ar lo, ex, 0, 0)) rfl ?_
            exact to_rt (i := .ireturn) (tg := []) rfl rfl ⟨_, _, _, ⟨hI1, hF1, (Or.inl ⟨n2, hn2, rfl, ⟨s0, by omega, es0, Or.inr ⟨(fun w => Int32.not_lt.mpr w.1.2.1 q6), rfl, rfl⟩⟩, Or.inl ⟨rfl, rfl, rfl, rfl, rfl, rfl⟩, rfl⟩)⟩, rfl⟩
          · refine to_n 2 (fr' := (45, [(0, .ref 49), (1, .int x1), (2, .int x2), (3, .int (nI n2))], [.int 9, .int x2], gh S a b (upd sc 4901 0) ar lo, ex, 0, 0)) rfl ?_
            refine to_ic_le (t := 50) rfl (fun q7 => ?_) (fun q7 => ?_)
            · refine to_n 1 (fr' := (51, [(0, .ref 49), (1, .int x1), (2, .int x2), (3, .int (nI n2))], [.ref 49], gh S a b (upd sc 4901 0) ar lo, ex, 0, 0)) rfl ?_
              refine to_get rfl rfl rfl rfl ?_
              refine to_n 1 (fr' := (55, [(0, .ref 49), (1, .int x1), (2, .int x2), (3, .int (nI n2))], [.ref 49, .ref 59], gh S a b (upd sc 4901 0) ar lo, ex, 0, 0)) rfl ?_
              refine to_getR (v := (nI s0)) rfl rfl rfl rfl es0 ?_
              refine to_n 1 (fr' := (59, [(0, .ref 49), (1, .int x1), (2, .int x2), (3, .int (nI n2))], [.int x1, .int (nI s0), .ref 59], gh S a b (upd sc 4901 0) ar lo, ex, 0, 0)) rfl ?_
              refine to_iasR (i := s0) (h' := gh S a b (upd sc 4901 0) (uA ar 59 (upd (ar 59) s0 x1)) lo) rfl rfl (by omega) (by omega) rfl ?_
              have hI8 := ia_59 (g := (upd (ar 59) s0 x1)) hI1
              have hF8 := fr_a (c := 59) (g := (upd (ar 59) s0 x1)) hF1 (by decide)
              refine to_n 1 (fr' := (61, [(0, .ref 49), (1, .int x1), (2, .int x2), (3, .int (nI n2))], [.ref 49], gh S a b (upd sc 4901 0) (uA ar 59 (upd (ar 59) s0 x1)) lo, ex, 0, 0)) rfl ?_
              refine to_get rfl rfl rfl rfl ?_
              refine to_n 1 (fr' := (65, [(0, .ref 49), (1, .int x1), (2, .int x2), (3, .int (nI n2))], [.ref 49, .ref 60], gh S a b (upd sc 4901 0) (uA ar 59 (upd (ar 59) s0 x1)) lo, ex, 0, 0)) rfl ?_
              refine to_getR (v := (nI s0)) rfl rfl rfl rfl es0 ?_
              refine to_n 1 (fr' := (69, [(0, .ref 49), (1, .int x1), (2, .int x2), (3, .int (nI n2))], [.int x2, .int (nI s0), .ref 60], gh S a b (upd sc 4901 0) (uA ar 59 (upd (ar 59) s0 x1)) lo, ex, 0, 0)) rfl ?_
              refine to_iasR (i := s0) (h' := gh S a b (upd sc 4901 0) (uA (uA ar 59 (upd (ar 59) s0 x1)) 60 (upd ((uA ar 59 (upd (ar 59) s0 x1)) 60) s0 x2)) lo) rfl rfl (by omega) (by omega) rfl ?_
              have hI9 := ia_60 (g := (upd ((uA ar 59 (upd (ar 59) s0 x1)) 60) s0 x2)) hI8
              have hF9 := fr_a (c := 60) (g := (upd ((uA ar 59 (upd (ar 59) s0 x1)) 60) s0 x2)) hF8 (by decide)
              refine to_n 1 (fr' := (71, [(0, .ref 49), (1, .int x1), (2, .int x2), (3, .int (nI n2))], [.ref 49], gh S a b (upd sc 4901 0) (uA (uA ar 59 (upd (ar 59) s0 x1)) 60 (upd ((uA ar 59 (upd (ar 59) s0 x1)) 60) s0 x2)) lo, ex, 0, 0)) rfl ?_
              refine to_get rfl rfl rfl rfl ?_
              refine to_n 1 (fr' := (75, [(0, .ref 49), (1, .int x1), (2, .int x2), (3, .int (nI n2))], [.ref 49, .ref 61], gh S a b (upd sc 4901 0) (uA (uA ar 59 (upd (ar 59) s0 x1)) 60 (upd ((uA ar 59 (upd (ar 59) s0 x1)) 60) s0 x2)) lo, ex, 0, 0)) rfl ?_
              refine to_getR (v := (nI s0)) rfl rfl rfl rfl es0 ?_
              refine to_n 1 (fr' := (79, [(0, .ref 49), (1, .int x1), (2, .int x2), (3, .int (nI n2))], [.int (nI n2), .int (nI s0), .ref 61], gh S a b (upd sc 4901 0) (uA (uA ar 59 (upd (ar 59) s0 x1)) 60 (upd ((uA ar 59 (upd (ar 59) s0 x1)) 60) s0 x2)) lo, ex, 0, 0)) rfl ?_
              refine to_iasR (i := s0) (h' := gh S a b (upd sc 4901 0) (uA (uA (uA ar 59 (upd (ar 59) s0 x1)) 60 (upd ((uA ar 59 (upd (ar 59) s0 x1)) 60) s0 x2)) 61 (upd ((uA (uA ar 59 (upd (ar 59) s0 x1)) 60 (upd ((uA ar 59 (upd (ar 59) s0 x1)) 60) s0 x2)) 61) s0 (nI n2))) lo) rfl rfl (by omega) (by omega) rfl ?_
              have hI10 := ia_61 (i := s0) (v := (nI n2)) hI9 (rl_n (n := n2) (by omega))
              have hF10 := fr_a (c := 61) (g := (upd ((uA (uA ar 59 (upd (ar 59) s0 x1)) 60 (upd ((uA ar 59 (upd (ar 59) s0 x1)) 60) s0 x2)) 61) s0 (nI n2))) hF9 (by decide)
              refine to_n 1 (fr' := (81, [(0, .ref 49), (1, .int x1), (2, .int x2), (3, .int (nI n2))], [.ref 49], gh S a b (upd sc 4901 0) (uA (uA (uA ar 59 (upd (ar 59) s0 x1)) 60 (upd ((uA ar 59 (upd (ar 59) s0 x1)) 60) s0 x2)) 61 (upd ((uA (uA ar 59 (upd (ar 59) s0 x1)) 60 (upd ((uA ar 59 (upd (ar 59) s0 x1)) 60) s0 x2)) 61) s0 (nI n2))) lo, ex, 0, 0)) rfl ?_
              refine to_get rfl rfl rfl rfl ?_
              refine to_n 1 (fr' := (85, [(0, .ref 49), (1, .int x1), (2, .int x2), (3, .int (nI n2))], [.ref 49, .ref 62], gh S a b (upd sc 4901 0) (uA (uA (uA ar 59 (upd (ar 59) s0 x1)) 60 (upd ((uA ar 59 (upd (ar 59) s0 x1)) 60) s0 x2)) 61 (upd ((uA (uA ar 59 (upd (ar 59) s0 x1)) 60 (upd ((uA ar 59 (upd (ar 59) s0 x1)) 60) s0 x2)) 61) s0 (nI n2))) lo, ex, 0, 0)) rfl ?_
              refine to_getR (v := (nI s0)) rfl rfl rfl rfl es0 ?_
              refine to_n 1 (fr' := (89, [(0, .ref 49), (1, .int x1), (2, .int x2), (3, .int (nI n2))], [.int (-1), .int (nI s0), .ref 62], gh S a b (upd sc 4901 0) (uA (uA (uA ar 59 (upd (ar 59) s0 x1)) 60 (upd ((uA ar 59 (upd (ar 59) s0 x1)) 60) s0 x2)) 61 (upd ((uA (uA ar 59 (upd (ar 59) s0 x1)) 60 (upd ((uA ar 59 (upd (ar 59) s0 x1)) 60) s0 x2)) 61) s0 (nI n2))) lo, ex, 0, 0)) rfl ?_
              refine to_iasR (i := s0) (h' := gh S a b (upd sc 4901 0) (uA (uA (uA (uA ar 59 (upd (ar 59) s0 x1)) 60 (upd ((uA ar 59 (upd (ar 59) s0 x1)) 60) s0 x2)) 61 (upd ((uA (uA ar 59 (upd (ar 59) s0 x1)) 60 (upd ((uA ar 59 (upd (ar 59) s0 x1)) 60) s0 x2)) 61) s0 (nI n2))) 62 (upd ((uA (uA (uA ar 59 (upd (ar 59) s0 x1)) 60 (upd ((uA ar 59 (upd (ar 59) s0 x1)) 60) s0 x2)) 61 (upd ((uA (uA ar 59 (upd (ar 59) s0 x1)) 60 (upd ((uA ar 59 (upd (ar 59) s0 x1)) 60) s0 x2)) 61) s0 (nI n2))) 62) s0 (-1))) lo) rfl rfl (by omega) (by omega) rfl ?_
              have hI11 := ia_62 (i := s0) (v := (-1)) hI10 (rq_m)
              have hF11 := fr_a (c := 62) (g := (upd ((uA (uA (uA ar 59 (upd (ar 59) s0 x1)) 60 (upd ((uA ar 59 (upd (ar 59) s0 x1)) 60) s0 x2)) 61 (upd ((uA (uA ar 59 (upd (ar 59) s0 x1)) 60 (upd ((uA ar 59 (upd (ar 59) s0 x1)) 60) s0 x2)) 61) s0 (nI n2))) 62) s0 (-1))) hF10 (by decide)
              refine to_n 2 (fr' := (92, [(0, .ref 49), (1, .int x1), (2, .int x2), (3, .int (nI n2))], [.ref 49, .ref 49], gh S a b (upd sc 4901 0) (uA (uA (uA (uA ar 59 (upd (ar 59) s0 x1)) 60 (upd ((uA ar 59 (upd (ar 59) s0 x1)) 60) s0 x2)) 61 (upd ((uA (uA ar 59 (upd (ar 59) s0 x1)) 60 (upd ((uA ar 59 (upd (ar 59) s0 x1)) 60) s0 x2)) 61) s0 (nI n2))) 62 (upd ((uA (uA (uA ar 59 (upd (ar 59) s0 x1)) 60 (upd ((uA ar 59 (upd (ar 59) s0 x1)) 60) s0 x2)) 61 (upd ((uA (uA ar 59 (upd (ar 59) s0 x1)) 60 (upd ((uA ar 59 (upd (ar 59) s0 x1)) 60) s0 x2)) 61) s0 (nI n2))) 62) s0 (-1))) lo, ex, 0, 0)) rfl ?_
              refine to_getR (v := (nI s0)) rfl rfl rfl rfl es0 ?_
              refine to_n 1 (fr' := (96, [(0, .ref 49), (1, .int x1), (2, .int x2), (3, .int (nI n2))], [.int 1, .int (nI s0), .ref 49], gh S a b (upd sc 4901 0) (uA (uA (uA (uA ar 59 (upd (ar 59) s0 x1)) 60 (upd ((uA ar 59 (upd (ar 59) s0 x1)) 60) s0 x2)) 61 (upd ((uA (uA ar 59 (upd (ar 59) s0 x1)) 60 (upd ((uA ar 59 (upd (ar 59) s0 x1)) 60) s0 x2)) 61) s0 (nI n2))) 62 (upd ((uA (uA (uA ar 59 (upd (ar 59) s0 x1)) 60 (upd ((uA ar 59 (upd (ar 59) s0 x1)) 60) s0 x2)) 61 (upd ((uA (uA ar 59 (upd (ar 59) s0 x1)) 60 (upd ((uA ar 59 (upd (ar 59) s0 x1)) 60) s0 x2)) 61) s0 (nI n2))) 62) s0 (-1))) lo, ex, 0, 0)) rfl ?_
              refine to_addN (x := s0) (y := 1) rfl ?_
              refine to_putR (h' := gh S a b (upd (upd sc 4901 0) 4906 (nI (s0 + 1))) (uA (uA (uA (uA ar 59 (upd (ar 59) s0 x1)) 60 (upd ((uA ar 59 (upd (ar 59) s0 x1)) 60) s0 x2)) 61 (upd ((uA (uA ar 59 (upd (ar 59) s0 x1)) 60 (upd ((uA ar 59 (upd (ar 59) s0 x1)) 60) s0 x2)) 61) s0 (nI n2))) 62 (upd ((uA (uA (uA ar 59 (upd (ar 59) s0 x1)) 60 (upd ((uA ar 59 (upd (ar 59) s0 x1)) 60) s0 x2)) 61 (upd ((uA (uA ar 59 (upd (ar 59) s0 x1)) 60 (upd ((uA ar 59 (upd (ar 59) s0 x1)) 60) s0 x2)) 61) s0 (nI n2))) 62) s0 (-1))) lo) rfl rfl rfl (Nat.le_of_ble_eq_true rfl) rfl rfl ?_
              have hI12 := ip_4906 (v := (nI (s0 + 1))) hI11 (rl_n (n := (s0 + 1)) (by omega))
              have hF12 := fr_s (k := 4906) (v := (nI (s0 + 1))) hF11 (by decide)
              refine to_n 1 (fr' := (101, [(0, .ref 49), (1, .int x1), (2, .int x2), (3, .int (nI n2))], [.ref 49], gh S a b (upd (upd sc 4901 0) 4906 (nI (s0 + 1))) (uA (uA (uA (uA ar 59 (upd (ar 59) s0 x1)) 60 (upd ((uA ar 59 (upd (ar 59) s0 x1)) 60) s0 x2)) 61 (upd ((uA (uA ar 59 (upd (ar 59) s0 x1)) 60 (upd ((uA ar 59 (upd (ar 59) s0 x1)) 60) s0 x2)) 61) s0 (nI n2))) 62 (upd ((uA (uA (uA ar 59 (upd (ar 59) s0 x1)) 60 (upd ((uA ar 59 (upd (ar 59) s0 x1)) 60) s0 x2)) 61 (upd ((uA (uA ar 59 (upd (ar 59) s0 x1)) 60 (upd ((uA ar 59 (upd (ar 59) s0 x1)) 60) s0 x2)) 61) s0 (nI n2))) 62) s0 (-1))) lo, ex, 0, 0)) rfl ?_
              refine to_getR (v := (nI (s0 + 1))) rfl rfl rfl rfl rfl ?_
              refine to_n 1 (fr' := (105, [(0, .ref 49), (1, .int x1), (2, .int x2), (3, .int (nI n2))], [.int 1, .int (nI (s0 + 1))], gh S a b (upd (upd sc 4901 0) 4906 (nI (s0 + 1))) (uA (uA (uA (uA ar 59 (upd (ar 59) s0 x1)) 60 (upd ((uA ar 59 (upd (ar 59) s0 x1)) 60) s0 x2)) 61 (upd ((uA (uA ar 59 (upd (ar 59) s0 x1)) 60 (upd ((uA ar 59 (upd (ar 59) s0 x1)) 60) s0 x2)) 61) s0 (nI n2))) 62 (upd ((uA (uA (uA ar 59 (upd (ar 59) s0 x1)) 60 (upd ((uA ar 59 (upd (ar 59) s0 x1)) 60) s0 x2)) 61 (upd ((uA (uA ar 59 (upd (ar 59) s0 x1)) 60 (upd ((uA ar 59 (upd (ar 59) s0 x1)) 60) s0 x2)) 61) s0 (nI n2))) 62) s0 (-1))) lo, ex, 0, 0)) rfl ?_
              refine to_subN (x := (s0 + 1)) (y := 1) rfl (by omega) ?_
              exact to_rt (i := .ireturn) (tg := []) rfl rfl ⟨_, _, _, ⟨hI12, hF12, (Or.inl ⟨n2, hn2, rfl, ⟨s0, by omega, es0, Or.inl ⟨⟨⟨Int32.not_lt.mp q4, Int32.not_lt.mp q5⟩, Int32.not_lt.mp q6, q7⟩, by omega, by exact congrArg nI (by omega), rfl⟩⟩, Or.inr ⟨s0, by omega, es0, by exact congrArg nI (by omega), rfl, rfl, rfl, rfl, rfl⟩, rfl⟩)⟩, rfl⟩
            · refine to_n 1 (fr' := (49, [(0, .ref 49), (1, .int x1), (2, .int x2), (3, .int (nI n2))], [.int (-1)], gh S a b (upd sc 4901 0) ar lo, ex, 0, 0)) rfl ?_
              exact to_rt (i := .ireturn) (tg := []) rfl rfl ⟨_, _, _, ⟨hI1, hF1, (Or.inl ⟨n2, hn2, rfl, ⟨s0, by omega, es0, Or.inr ⟨(fun w => q7 w.1.2.2), rfl, rfl⟩⟩, Or.inl ⟨rfl, rfl, rfl, rfl, rfl, rfl⟩, rfl⟩)⟩, rfl⟩
  · refine to_cp (q := 110) (M1 := an_X10_isCell) (rest := []) rfl rfl (by decide) rfl ⟨_, rfl⟩ (mc_isCell_0 hW w2 d) (fun x2 hx2 => ?_)
    obtain rfl := hx2
    refine to_eq (fr' := (10, [(0, .ref 49), (1, .int x1), (2, .int x2), (3, .int x3)], [.int 0], gh S a b (upd sc 4901 0) ar lo, ex, 0, 0)) rfl ?_
    refine to_n 2 (fr' := (14, [(0, .ref 49), (1, .int x1), (2, .int x2), (3, .int x3)], [.ref 49], gh S a b (upd sc 4901 0) ar lo, ex, 0, 0)) rfl ?_
    refine to_ci (q := 109) (M1 := an_X10_fail) (rest := []) rfl rfl (by decide) rfl ⟨_, rfl⟩ (sf_X10_fail hW hI1  d) (fun x13 sc13 ar13 hx13 => ?_)
    obtain ⟨hI13, hG13, hx13⟩ := hx13
    have hF13 := fr_t hF1 hG13 (by decide) (by decide)
    have hp13 := hx13
    refine to_eq (fr' := (17, [(0, .ref 49), (1, .int x1), (2, .int x2), (3, .int x3)], [.int x13], gh S a b sc13 ar13 lo, ex, 0, 0)) rfl ?_
    exact to_rt (i := .ireturn) (tg := []) rfl rfl ⟨_, _, _, ⟨hI13, hF13, (Or.inr ⟨w2, (hG13.1 4906 (by decide)).trans rfl, hG13.2 59 (by decide), hG13.2 60 (by decide), hG13.2 61 (by decide), hG13.2 62 (by decide), hp13⟩)⟩, rfl⟩
set_option maxRecDepth 20000 in
theorem sf_X10_feed {X : Nat × (Nat → Int32)} {S a b : Nat} {sc : Nat → Int32} {ar : Nat → Nat → Int32} {lo : Nat → Int64} {ex : Bool} (hW : Wd S a b) (hI : Iv S sc ar) (x1 : Int32) (x2 : Int32) (x3 : Int32) (x4 : Int32) (x5 : Int32) (d : Nat)  : ci X S a b (d + 1) 118 [.ref 49, .int x1, .int x2, .int x3, .int x4, .int x5] sc ar lo ex (fun x sc' ar' => Iv S sc' ar' ∧ Fr [4901, 4908] [67] sc ar sc' ar' ∧ (fe_P 4908 x sc sc' ∧ ((x = -1 ∧ ar' 67 = ar 67) ∨ ∃ s : Nat, sc 4908 = nI s ∧ s + 20 ≤ 400 ∧ (∀ t, t < s → ar' 67 t = ar 67 t) ∧ ∀ m, m < 20 → ar' 67 (s + m) = fz_ x1 x2 x3 x4 x5 m &&& 255))) := by
  obtain ⟨ha1, ha8, hb1, hb8, hab, hS1, hS⟩ := id hW
  obtain ⟨t0, ht0, et0⟩ := iv_s4908 hI
  refine ci_of (M := an_X10_feed) rfl (Nat.le_of_ble_eq_true rfl) ?_
  have hF : Fr [4901, 4908] [67] sc ar sc ar := fr_0
  refine to_eq (fr' := (0, [(0, .ref 49), (1, .int x1), (2, .int x2), (3, .int x3), (4, .int x4), (5, .int x5)], [], gh S a b sc ar lo, ex, 0, 0)) rfl ?_
  have c23_19 : ∀ (tp : Nat) (sc1 : Nat → Int32) (ar1 : Nat → Nat → Int32), sc1 4908 = nI tp → tp = t0 + 19 → t0 + 20 ≤ 400 → (∀ t, t < t0 → ar1 67 t = ar 67 t) → (∀ m, m < 19 → ar1 67 (t0 + m) = fz_ x1 x2 x3 x4 x5 m &&& 255) → Iv S sc1 ar1 → Fr [4901, 4908] [67] sc ar sc1 ar1 → ag_To X d an_X10_feed (23, [(0, .ref 49), (1, .int x1), (2, .int x2), (3, .int x3), (4, .int x4), (5, .int x5), (6, .int 19)], [], gh S a b sc1 ar1 lo, ex, 0, 0) (qi S a b lo ex (fun x sc' ar' => Iv S sc' ar' ∧ Fr [4901, 4908] [67] sc ar sc' ar' ∧ (fe_P 4908 x sc sc' ∧ ((x = -1 ∧ ar' 67 = ar 67) ∨ ∃ s : Nat, sc 4908 = nI s ∧ s + 20 ≤ 400 ∧ (∀ t, t < s → ar' 67 t = ar 67 t) ∧ ∀ m, m < 20 → ar' 67 (s + m) = fz_ x1 x2 x3 x4 x5 m &&& 255)))) := by
    intro tp sc1 ar1 hc23_0 hc23_1 hc23_2 hc23_3 hc23_4 hI1 hF1
    refine to_n 18 (fr' := (79, [(0, .ref 49), (1, .int x1), (2, .int x2), (3, .int x3), (4, .int x4), (5, .int x5), (6, .int 19), (7, .int x5)], [.ref 49], gh S a b sc1 ar1 lo, ex, 0, 0)) rfl ?_
    refine to_get rfl rfl rfl rfl ?_
    refine to_n 1 (fr' := (83, [(0, .ref 49), (1, .int x1), (2, .int x2), (3, .int x3), (4, .int x4), (5, .int x5), (6, .int 19), (7, .int x5)], [.ref 49, .ref 67], gh S a b sc1 ar1 lo, ex, 0, 0)) rfl ?_
    refine to_getR (v := (nI tp)) rfl rfl rfl rfl hc23_0 ?_
    refine to_n 11 (fr' := (103, [(0, .ref 49), (1, .int x1), (2, .int x2), (3, .int x3), (4, .int x4), (5, .int x5), (6, .int 19), (7, .int x5)], [.int ((x5 >>> (0 &&& 31)) &&& 255), .int (nI tp), .ref 67], gh S a b sc1 ar1 lo, ex, 0, 0)) rfl ?_
    refine to_iasR (i := tp) (h' := gh S a b sc1 (uA ar1 67 (upd (ar1 67) tp ((x5 >>> (0 &&& 31)) &&& 255))) lo) rfl rfl (by omega) (by omega) rfl ?_
    have hI2 := ia_67 (g := (upd (ar1 67) tp ((x5 >>> (0 &&& 31)) &&& 255))) hI1
    have hF2 := fr_a (c := 67) (g := (upd (ar1 67) tp ((x5 >>> (0 &&& 31)) &&& 255))) hF1 (by decide)
    refine to_n 2 (fr' := (106, [(0, .ref 49), (1, .int x1), (2, .int x2), (3, .int x3), (4, .int x4), (5, .int x5), (6, .int 19), (7, .int x5)], [.ref 49, .ref 49], gh S a b sc1 (uA ar1 67 (upd (ar1 67) tp ((x5 >>> (0 &&& 31)) &&& 255))) lo, ex, 0, 0)) rfl ?_
    refine to_getR (v := (nI tp)) rfl rfl rfl rfl hc23_0 ?_
    refine to_n 1 (fr' := (110, [(0, .ref 49), (1, .int x1), (2, .int x2), (3, .int x3), (4, .int x4), (5, .int x5), (6, .int 19), (7, .int x5)], [.int 1, .int (nI tp), .ref 49], gh S a b sc1 (uA ar1 67 (upd (ar1 67) tp ((x5 >>> (0 &&& 31)) &&& 255))) lo, ex, 0, 0)) rfl ?_
    refine to_addN (x := tp) (y := 1) rfl ?_
    refine to_putR (h' := gh S a b (upd sc1 4908 (nI (tp + 1))) (uA ar1 67 (upd (ar1 67) tp ((x5 >>> (0 &&& 31)) &&& 255))) lo) rfl rfl rfl (Nat.le_of_ble_eq_true rfl) rfl rfl ?_
    have hI3 := ip_4908 (v := (nI (tp + 1))) hI2 (rl_n (n := (tp + 1)) (by omega))
    have hF3 := fr_s (k := 4908) (v := (nI (tp + 1))) hF2 (by decide)
    refine to_n 6 (fr' := (121, [(0, .ref 49), (1, .int x1), (2, .int x2), (3, .int x3), (4, .int x4), (5, .int x5), (6, .int 20), (7, .int x5)], [.ref 49], gh S a b (upd sc1 4908 (nI (tp + 1))) (uA ar1 67 (upd (ar1 67) tp ((x5 >>> (0 &&& 31)) &&& 255))) lo, ex, 0, 0)) rfl ?_
    refine to_getR (v := (nI (tp + 1))) rfl rfl rfl rfl rfl ?_
    exact to_rt (i := .ireturn) (tg := []) rfl rfl ⟨_, _, _, ⟨hI3, hF3, ⟨⟨t0, by omega, et0, Or.inl ⟨by omega, by exact congrArg nI (by omega), (show (upd sc1 4908 (nI (tp + 1))) 4908 = nI (tp + 1) from rfl).trans (congrArg nI (by omega))⟩⟩, Or.inr ⟨t0, et0, by omega, fun t ht => (show (upd (ar1 67) tp ((x5 >>> (0 &&& 31)) &&& 255)) t = _ from ug_ne (by omega)).trans (hc23_3 t ht), al_up (P := fun m => (uA ar1 67 (upd (ar1 67) tp ((x5 >>> (0 &&& 31)) &&& 255))) 67 (t0 + m) = fz_ x1 x2 x3 x4 x5 m &&& 255) (fun m hm => (show (upd (ar1 67) tp ((x5 >>> (0 &&& 31)) &&& 255)) (t0 + m) = _ from ug_ne (by omega)).trans (hc23_4 m hm)) (show (upd (ar1 67) tp ((x5 >>> (0 &&& 31)) &&& 255)) (t0 + 19) = _ from by rw [← hc23_1]; exact ug_eq)⟩⟩⟩, rfl⟩
  have c23_18 : ∀ (tp : Nat) (sc4 : Nat → Int32) (ar4 : Nat → Nat → Int32), sc4 4908 = nI tp → tp = t0 + 18 → t0 + 20 ≤ 400 → (∀ t, t < t0 → ar4 67 t = ar 67 t) → (∀ m, m < 18 → ar4 67 (t0 + m) = fz_ x1 x2 x3 x4 x5 m &&& 255) → Iv S sc4 ar4 → Fr [4901, 4908] [67] sc ar sc4 ar4 → ag_To X d an_X10_feed (23, [(0, .ref 49), (1, .int x1), (2, .int x2), (3, .int x3), (4, .int x4), (5, .int x5), (6, .int 18)], [], gh S a b sc4 ar4 lo, ex, 0, 0) (qi S a b lo ex (fun x sc' ar' => Iv S sc' ar' ∧ Fr [4901, 4908] [67] sc ar sc' ar' ∧ (fe_P 4908 x sc sc' ∧ ((x = -1 ∧ ar' 67 = ar 67) ∨ ∃ s : Nat, sc 4908 = nI s ∧ s + 20 ≤ 400 ∧ (∀ t, t < s → ar' 67 t = ar 67 t) ∧ ∀ m, m < 20 → ar' 67 (s + m) = fz_ x1 x2 x3 x4 x5 m &&& 255)))) := by
    intro tp sc4 ar4 hc23_0 hc23_1 hc23_2 hc23_3 hc23_4 hI4 hF4
    refine to_n 18 (fr' := (79, [(0, .ref 49), (1, .int x1), (2, .int x2), (3, .int x3), (4, .int x4), (5, .int x5), (6, .int 18), (7, .int x5)], [.ref 49], gh S a b sc4 ar4 lo, ex, 0, 0)) rfl ?_
    refine to_get rfl rfl rfl rfl ?_
    refine to_n 1 (fr' := (83, [(0, .ref 49), (1, .int x1), (2, .int x2), (3, .int x3), (4, .int x4), (5, .int x5), (6, .int 18), (7, .int x5)], [.ref 49, .ref 67], gh S a b sc4 ar4 lo, ex, 0, 0)) rfl ?_
    refine to_getR (v := (nI tp)) rfl rfl rfl rfl hc23_0 ?_
    refine to_n 11 (fr' := (103, [(0, .ref 49), (1, .int x1), (2, .int x2), (3, .int x3), (4, .int x4), (5, .int x5), (6, .int 18), (7, .int x5)], [.int ((x5 >>> (8 &&& 31)) &&& 255), .int (nI tp), .ref 67], gh S a b sc4 ar4 lo, ex, 0, 0)) rfl ?_
    refine to_iasR (i := tp) (h' := gh S a b sc4 (uA ar4 67 (upd (ar4 67) tp ((x5 >>> (8 &&& 31)) &&& 255))) lo) rfl rfl (by omega) (by omega) rfl ?_
    have hI5 := ia_67 (g := (upd (ar4 67) tp ((x5 >>> (8 &&& 31)) &&& 255))) hI4
    have hF5 := fr_a (c := 67) (g := (upd (ar4 67) tp ((x5 >>> (8 &&& 31)) &&& 255))) hF4 (by decide)
    refine to_n 2 (fr' := (106, [(0, .ref 49), (1, .int x1), (2, .int x2), (3, .int x3), (4, .int x4), (5, .int x5), (6, .int 18), (7, .int x5)], [.ref 49, .ref 49], gh S a b sc4 (uA ar4 67 (upd (ar4 67) tp ((x5 >>> (8 &&& 31)) &&& 255))) lo, ex, 0, 0)) rfl ?_
    refine to_getR (v := (nI tp)) rfl rfl rfl rfl hc23_0 ?_
    refine to_n 1 (fr' := (110, [(0, .ref 49), (1, .int x1), (2, .int x2), (3, .int x3), (4, .int x4), (5, .int x5), (6, .int 18), (7, .int x5)], [.int 1, .int (nI tp), .ref 49], gh S a b sc4 (uA ar4 67 (upd (ar4 67) tp ((x5 >>> (8 &&& 31)) &&& 255))) lo, ex, 0, 0)) rfl ?_
    refine to_addN (x := tp) (y := 1) rfl ?_
    refine to_putR (h' := gh S a b (upd sc4 4908 (nI (tp + 1))) (uA ar4 67 (upd (ar4 67) tp ((x5 >>> (8 &&& 31)) &&& 255))) lo) rfl rfl rfl (Nat.le_of_ble_eq_true rfl) rfl rfl ?_
    have hI6 := ip_4908 (v := (nI (tp + 1))) hI5 (rl_n (n := (tp + 1)) (by omega))
    have hF6 := fr_s (k := 4908) (v := (nI (tp + 1))) hF5 (by decide)
    refine to_n 2 (fr' := (23, [(0, .ref 49), (1, .int x1), (2, .int x2), (3, .int x3), (4, .int x4), (5, .int x5), (6, .int 19), (7, .int x5)], [], gh S a b (upd sc4 4908 (nI (tp + 1))) (uA ar4 67 (upd (ar4 67) tp ((x5 >>> (8 &&& 31)) &&& 255))) lo, ex, 0, 0)) rfl ?_
    refine to_lv (lv := [(0, .ref 49), (1, .int x1), (2, .int x2), (3, .int x3), (4, .int x4), (5, .int x5), (6, .int 19)]) rfl ⟨rfl, rfl, rfl, rfl, rfl, rfl, rfl, trivial⟩ ?_
    exact c23_19 (tp + 1) (upd sc4 4908 (nI (tp + 1))) (uA ar4 67 (upd (ar4 67) tp ((x5 >>> (8 &&& 31)) &&& 255))) (rfl) (by omega) (by omega) (fun t ht => (show (upd (ar4 67) tp ((x5 >>> (8 &&& 31)) &&& 255)) t = _ from ug_ne (by omega)).trans (hc23_3 t ht)) (al_up (P := fun m => (uA ar4 67 (upd (ar4 67) tp ((x5 >>> (8 &&& 31)) &&& 255))) 67 (t0 + m) = fz_ x1 x2 x3 x4 x5 m &&& 255) (fun m hm => (show (upd (ar4 67) tp ((x5 >>> (8 &&& 31)) &&& 255)) (t0 + m) = _ from ug_ne (by omega)).trans (hc23_4 m hm)) (show (upd (ar4 67) tp ((x5 >>> (8 &&& 31)) &&& 255)) (t0 + 18) = _ from by rw [← hc23_1]; exact ug_eq)) hI6 hF6
  have c23_17 : ∀ (tp : Nat) (sc7 : Nat → Int32) (ar7 : Nat → Nat → Int32), sc7 4908 = nI tp → tp = t0 + 17 → t0 + 20 ≤ 400 → (∀ t, t < t0 → ar7 67 t = ar 67 t) → (∀ m, m < 17 → ar7 67 (t0 + m) = fz_ x1 x2 x3 x4 x5 m &&& 255) → Iv S sc7 ar7 → Fr [4901, 4908] [67] sc ar sc7 ar7 → ag_To X d an_X10_feed (23, [(0, .ref 49), (1, .int x1), (2, .int x2), (3, .int x3), (4, .int x4), (5, .int x5), (6, .int 17)], [], gh S a b sc7 ar7 lo, ex, 0, 0) (qi S a b lo ex (fun x sc' ar' => Iv S sc' ar' ∧ Fr [4901, 4908] [67] sc ar sc' ar' ∧ (fe_P 4908 x sc sc' ∧ ((x = -1 ∧ ar' 67 = ar 67) ∨ ∃ s : Nat, sc 4908 = nI s ∧ s + 20 ≤ 400 ∧ (∀ t, t < s → ar' 67 t = ar 67 t) ∧ ∀ m, m < 20 → ar' 67 (s + m) = fz_ x1 x2 x3 x4 x5 m &&& 255)))) := by
    intro tp sc7 ar7 hc23_0 hc23_1 hc23_2 hc23_3 hc23_4 hI7 hF7
    refine to_n 18 (fr' := (79, [(0, .ref 49), (1, .int x1), (2, .int x2), (3, .int x3), (4, .int x4), (5, .int x5), (6, .int 17), (7, .int x5)], [.ref 49], gh S a b sc7 ar7 lo, ex, 0, 0)) rfl ?_
    refine to_get rfl rfl rfl rfl ?_
    refine to_n 1 (fr' := (83, [(0, .ref 49), (1, .int x1), (2, .int x2), (3, .int x3), (4, .int x4), (5, .int x5), (6, .int 17), (7, .int x5)], [.ref 49, .ref 67], gh S a b sc7 ar7 lo, ex, 0, 0)) rfl ?_
    refine to_getR (v := (nI tp)) rfl rfl rfl rfl hc23_0 ?_
    refine to_n 11 (fr' := (103, [(0, .ref 49), (1, .int x1), (2, .int x2), (3, .int x3), (4, .int x4), (5, .int x5), (6, .int 17), (7, .int x5)], [.int ((x5 >>> (16 &&& 31)) &&& 255), .int (nI tp), .ref 67], gh S a b sc7 ar7 lo, ex, 0, 0)) rfl ?_
    refine to_iasR (i := tp) (h' := gh S a b sc7 (uA ar7 67 (upd (ar7 67) tp ((x5 >>> (16 &&& 31)) &&& 255))) lo) rfl rfl (by omega) (by omega) rfl ?_
    have hI8 := ia_67 (g := (upd (ar7 67) tp ((x5 >>> (16 &&& 31)) &&& 255))) hI7
    have hF8 := fr_a (c := 67) (g := (upd (ar7 67) tp ((x5 >>> (16 &&& 31)) &&& 255))) hF7 (by decide)
    refine to_n 2 (fr' := (106, [(0, .ref 49), (1, .int x1), (2, .int x2), (3, .int x3), (4, .int x4), (5, .int x5), (6, .int 17), (7, .int x5)], [.ref 49, .ref 49], gh S a b sc7 (uA ar7 67 (upd (ar7 67) tp ((x5 >>> (16 &&& 31)) &&& 255))) lo, ex, 0, 0)) rfl ?_
    refine to_getR (v := (nI tp)) rfl rfl rfl rfl hc23_0 ?_
    refine to_n 1 (fr' := (110, [(0, .ref 49), (1, .int x1), (2, .int x2), (3, .int x3), (4, .int x4), (5, .int x5), (6, .int 17), (7, .int x5)], [.int 1, .int (nI tp), .ref 49], gh S a b sc7 (uA ar7 67 (upd (ar7 67) tp ((x5 >>> (16 &&& 31)) &&& 255))) lo, ex, 0, 0)) rfl ?_
    refine to_addN (x := tp) (y := 1) rfl ?_
    refine to_putR (h' := gh S a b (upd sc7 4908 (nI (tp + 1))) (uA ar7 67 (upd (ar7 67) tp ((x5 >>> (16 &&& 31)) &&& 255))) lo) rfl rfl rfl (Nat.le_of_ble_eq_true rfl) rfl rfl ?_
    have hI9 := ip_4908 (v := (nI (tp + 1))) hI8 (rl_n (n := (tp + 1)) (by omega))
    have hF9 := fr_s (k := 4908) (v := (nI (tp + 1))) hF8 (by decide)
    refine to_n 2 (fr' := (23, [(0, .ref 49), (1, .int x1), (2, .int x2), (3, .int x3), (4, .int x4), (5, .int x5), (6, .int 18), (7, .int x5)], [], gh S a b (upd sc7 4908 (nI (tp + 1))) (uA ar7 67 (upd (ar7 67) tp ((x5 >>> (16 &&& 31)) &&& 255))) lo, ex, 0, 0)) rfl ?_
    refine to_lv (lv := [(0, .ref 49), (1, .int x1), (2, .int x2), (3, .int x3), (4, .int x4), (5, .int x5), (6, .int 18)]) rfl ⟨rfl, rfl, rfl, rfl, rfl, rfl, rfl, trivial⟩ ?_
    exact c23_18 (tp + 1) (upd sc7 4908 (nI (tp + 1))) (uA ar7 67 (upd (ar7 67) tp ((x5 >>> (16 &&& 31)) &&& 255))) (rfl) (by omega) (by omega) (fun t ht => (show (upd (ar7 67) tp ((x5 >>> (16 &&& 31)) &&& 255)) t = _ from ug_ne (by omega)).trans (hc23_3 t ht)) (al_up (P := fun m => (uA ar7 67 (upd (ar7 67) tp ((x5 >>> (16 &&& 31)) &&& 255))) 67 (t0 + m) = fz_ x1 x2 x3 x4 x5 m &&& 255) (fun m hm => (show (upd (ar7 67) tp ((x5 >>> (16 &&& 31)) &&& 255)) (t0 + m) = _ from ug_ne (by omega)).trans (hc23_4 m hm)) (show (upd (ar7 67) tp ((x5 >>> (16 &&& 31)) &&& 255)) (t0 + 17) = _ from by rw [← hc23_1]; exact ug_eq)) hI9 hF9
  have c23_16 : ∀ (tp : Nat) (sc10 : Nat → Int32) (ar10 : Nat → Nat → Int32), sc10 4908 = nI tp → tp = t0 + 16 → t0 + 20 ≤ 400 → (∀ t, t < t0 → ar10 67 t = ar 67 t) → (∀ m, m < 16 → ar10 67 (t0 + m) = fz_ x1 x2 x3 x4 x5 m &&& 255) → Iv S sc10 ar10 → Fr [4901, 4908] [67] sc ar sc10 ar10 → ag_To X d an_X10_feed (23, [(0, .ref 49), (1, .int x1), (2, .int x2), (3, .int x3), (4, .int x4), (5, .int x5), (6, .int 16)], [], gh S a b sc10 ar10 lo, ex, 0, 0) (qi S a b lo ex (fun x sc' ar' => Iv S sc' ar' ∧ Fr [4901, 4908] [67] sc ar sc' ar' ∧ (fe_P 4908 x sc sc' ∧ ((x = -1 ∧ ar' 67 = ar 67) ∨ ∃ s : Nat, sc 4908 = nI s ∧ s + 20 ≤ 400 ∧ (∀ t, t < s → ar' 67 t = ar 67 t) ∧ ∀ m, m < 20 → ar' 67 (s + m) = fz_ x1 x2 x3 x4 x5 m &&& 255)))) := by
    intro tp sc10 ar10 hc23_0 hc23_1 hc23_2 hc23_3 hc23_4 hI10 hF10
    refine to_n 18 (fr' := (79, [(0, .ref 49), (1, .int x1), (2, .int x2), (3, .int x3), (4, .int x4), (5, .int x5), (6, .int 16), (7, .int x5)], [.ref 49], gh S a b sc10 ar10 lo, ex, 0, 0)) rfl ?_
    refine to_get rfl rfl rfl rfl ?_
    refine to_n 1 (fr' := (83, [(0, .ref 49), (1, .int x1), (2, .int x2), (3, .int x3), (4, .int x4), (5, .int x5), (6, .int 16), (7, .int x5)], [.ref 49, .ref 67], gh S a b sc10 ar10 lo, ex, 0, 0)) rfl ?_
    refine to_getR (v := (nI tp)) rfl rfl rfl rfl hc23_0 ?_
    refine to_n 11 (fr' := (103, [(0, .ref 49), (1, .int x1), (2, .int x2), (3, .int x3), (4, .int x4), (5, .int x5), (6, .int 16), (7, .int x5)], [.int ((x5 >>> (24 &&& 31)) &&& 255), .int (nI tp), .ref 67], gh S a b sc10 ar10 lo, ex, 0, 0)) rfl ?_
    refine to_iasR (i := tp) (h' := gh S a b sc10 (uA ar10 67 (upd (ar10 67) tp ((x5 >>> (24 &&& 31)) &&& 255))) lo) rfl rfl (by omega) (by omega) rfl ?_
    have hI11 := ia_67 (g := (upd (ar10 67) tp ((x5 >>> (24 &&& 31)) &&& 255))) hI10
    have hF11 := fr_a (c := 67) (g := (upd (ar10 67) tp ((x5 >>> (24 &&& 31)) &&& 255))) hF10 (by decide)
    refine to_n 2 (fr' := (106, [(0, .ref 49), (1, .int x1), (2, .int x2), (3, .int x3), (4, .int x4), (5, .int x5), (6, .int 16), (7, .int x5)], [.ref 49, .ref 49], gh S a b sc10 (uA ar10 67 (upd (ar10 67) tp ((x5 >>> (24 &&& 31)) &&& 255))) lo, ex, 0, 0)) rfl ?_
    refine to_getR (v := (nI tp)) rfl rfl rfl rfl hc23_0 ?_
    refine to_n 1 (fr' := (110, [(0, .ref 49), (1, .int x1), (2, .int x2), (3, .int x3), (4, .int x4), (5, .int x5), (6, .int 16), (7, .int x5)], [.int 1, .int (nI tp), .ref 49], gh S a b sc10 (uA ar10 67 (upd (ar10 67) tp ((x5 >>> (24 &&& 31)) &&& 255))) lo, ex, 0, 0)) rfl ?_
    refine to_addN (x := tp) (y := 1) rfl ?_
    refine to_putR (h' := gh S a b (upd sc10 4908 (nI (tp + 1))) (uA ar10 67 (upd (ar10 67) tp ((x5 >>> (24 &&& 31)) &&& 255))) lo) rfl rfl rfl (Nat.le_of_ble_eq_true rfl) rfl rfl ?_
    have hI12 := ip_4908 (v := (nI (tp + 1))) hI11 (rl_n (n := (tp + 1)) (by omega))
    have hF12 := fr_s (k := 4908) (v := (nI (tp + 1))) hF11 (by decide)
    refine to_n 2 (fr' := (23, [(0, .ref 49), (1, .int x1), (2, .int x2), (3, .int x3), (4, .int x4), (5, .int x5), (6, .int 17), (7, .int x5)], [], gh S a b (upd sc10 4908 (nI (tp + 1))) (uA ar10 67 (upd (ar10 67) tp ((x5 >>> (24 &&& 31)) &&& 255))) lo, ex, 0, 0)) rfl ?_
    refine to_lv (lv := [(0, .ref 49), (1, .int x1), (2, .int x2), (3, .int x3), (4, .int x4), (5, .int x5), (6, .int 17)]) rfl ⟨rfl, rfl, rfl, rfl, rfl, rfl, rfl, trivial⟩ ?_
    exact c23_17 (tp + 1) (upd sc10 4908 (nI (tp + 1))) (uA ar10 67 (upd (ar10 67) tp ((x5 >>> (24 &&& 31)) &&& 255))) (rfl) (by omega) (by omega) (fun t ht => (show (upd (ar10 67) tp ((x5 >>> (24 &&& 31)) &&& 255)) t = _ from ug_ne (by omega)).trans (hc23_3 t ht)) (al_up (P := fun m => (uA ar10 67 (upd (ar10 67) tp ((x5 >>> (24 &&& 31)) &&& 255))) 67 (t0 + m) = fz_ x1 x2 x3 x4 x5 m &&& 255) (fun m hm => (show (upd (ar10 67) tp ((x5 >>> (24 &&& 31)) &&& 255)) (t0 + m) = _ from ug_ne (by omega)).trans (hc23_4 m hm)) (show (upd (ar10 67) tp ((x5 >>> (24 &&& 31)) &&& 255)) (t0 + 16) = _ from by rw [← hc23_1]; exact ug_eq)) hI12 hF12
  have c23_15 : ∀ (tp : Nat) (sc13 : Nat → Int32) (ar13 : Nat → Nat → Int32), sc13 4908 = nI tp → tp = t0 + 15 → t0 + 20 ≤ 400 → (∀ t, t < t0 → ar13 67 t = ar 67 t) → (∀ m, m < 15 → ar13 67 (t0 + m) = fz_ x1 x2 x3 x4 x5 m &&& 255) → Iv S sc13 ar13 → Fr [4901, 4908] [67] sc ar sc13 ar13 → ag_To X d an_X10_feed (23, [(0, .ref 49), (1, .int x1), (2, .int x2), (3, .int x3), (4, .int x4), (5, .int x5), (6, .int 15)], [], gh S a b sc13 ar13 lo, ex, 0, 0) (qi S a b lo ex (fun x sc' ar' => Iv S sc' ar' ∧ Fr [4901, 4908] [67] sc ar sc' ar' ∧ (fe_P 4908 x sc sc' ∧ ((x = -1 ∧ ar' 67 = ar 67) ∨ ∃ s : Nat, sc 4908 = nI s ∧ s + 20 ≤ 400 ∧ (∀ t, t < s → ar' 67 t = ar 67 t) ∧ ∀ m, m < 20 → ar' 67 (s + m) = fz_ x1 x2 x3 x4 x5 m &&& 255)))) := by
    intro tp sc13 ar13 hc23_0 hc23_1 hc23_2 hc23_3 hc23_4 hI13 hF13
    refine to_n 19 (fr' := (79, [(0, .ref 49), (1, .int x1), (2, .int x2), (3, .int x3), (4, .int x4), (5, .int x5), (6, .int 15), (7, .int x4)], [.ref 49], gh S a b sc13 ar13 lo, ex, 0, 0)) rfl ?_
    refine to_get rfl rfl rfl rfl ?_
    refine to_n 1 (fr' := (83, [(0, .ref 49), (1, .int x1), (2, .int x2), (3, .int x3), (4, .int x4), (5, .int x5), (6, .int 15), (7, .int x4)], [.ref 49, .ref 67], gh S a b sc13 ar13 lo, ex, 0, 0)) rfl ?_
    refine to_getR (v := (nI tp)) rfl rfl rfl rfl hc23_0 ?_
    refine to_n 11 (fr' := (103, [(0, .ref 49), (1, .int x1), (2, .int x2), (3, .int x3), (4, .int x4), (5, .int x5), (6, .int 15), (7, .int x4)], [.int ((x4 >>> (0 &&& 31)) &&& 255), .int (nI tp), .ref 67], gh S a b sc13 ar13 lo, ex, 0, 0)) rfl ?_
    refine to_iasR (i := tp) (h' := gh S a b sc13 (uA ar13 67 (upd (ar13 67) tp ((x4 >>> (0 &&& 31)) &&& 255))) lo) rfl rfl (by omega) (by omega) rfl ?_
    have hI14 := ia_67 (g := (upd (ar13 67) tp ((x4 >>> (0 &&& 31)) &&& 255))) hI13
    have hF14 := fr_a (c := 67) (g := (upd (ar13 67) tp ((x4 >>> (0 &&& 31)) &&& 255))) hF13 (by decide)
    refine to_n 2 (fr' := (106, [(0, .ref 49), (1, .int x1), (2, .int x2), (3, .int x3), (4, .int x4), (5, .int x5), (6, .int 15), (7, .int x4)], [.ref 49, .ref 49], gh S a b sc13 (uA ar13 67 (upd (ar13 67) tp ((x4 >>> (0 &&& 31)) &&& 255))) lo, ex, 0, 0)) rfl ?_
    refine to_getR (v := (nI tp)) rfl rfl rfl rfl hc23_0 ?_
    refine to_n 1 (fr' := (110, [(0, .ref 49), (1, .int x1), (2, .int x2), (3, .int x3), (4, .int x4), (5, .int x5), (6, .int 15), (7, .int x4)], [.int 1, .int (nI tp), .ref 49], gh S a b sc13 (uA ar13 67 (upd (ar13 67) tp ((x4 >>> (0 &&& 31)) &&& 255))) lo, ex, 0, 0)) rfl ?_
    refine to_addN (x := tp) (y := 1) rfl ?_
    refine to_putR (h' := gh S a b (upd sc13 4908 (nI (tp + 1))) (uA ar13 67 (upd (ar13 67) tp ((x4 >>> (0 &&& 31)) &&& 255))) lo) rfl rfl rfl (Nat.le_of_ble_eq_true rfl) rfl rfl ?_
    have hI15 := ip_4908 (v := (nI (tp + 1))) hI14 (rl_n (n := (tp + 1)) (by omega))
    have hF15 := fr_s (k := 4908) (v := (nI (tp + 1))) hF14 (by decide)
    refine to_n 2 (fr' := (23, [(0, .ref 49), (1, .int x1), (2, .int x2), (3, .int x3), (4, .int x4), (5, .int x5), (6, .int 16), (7, .int x4)], [], gh S a b (upd sc13 4908 (nI (tp + 1))) (uA ar13 67 (upd (ar13 67) tp ((x4 >>> (0 &&& 31)) &&& 255))) lo, ex, 0, 0)) rfl ?_
    refine to_lv (lv := [(0, .ref 49), (1, .int x1), (2, .int x2), (3, .int x3), (4, .int x4), (5, .int x5), (6, .int 16)]) rfl ⟨rfl, rfl, rfl, rfl, rfl, rfl, rfl, trivial⟩ ?_
    exact c23_16 (tp + 1) (upd sc13 4908 (nI (tp + 1))) (uA ar13 67 (upd (ar13 67) tp ((x4 >>> (0 &&& 31)) &&& 255))) (rfl) (by omega) (by omega) (fun t ht => (show (upd (ar13 67) tp ((x4 >>> (0 &&& 31)) &&& 255)) t = _ from ug_ne (by omega)).trans (hc23_3 t ht)) (al_up (P := fun m => (uA ar13 67 (upd (ar13 67) tp ((x4 >>> (0 &&& 31)) &&& 255))) 67 (t0 + m) = fz_ x1 x2 x3 x4 x5 m &&& 255) (fun m hm => (show (upd (ar13 67) tp ((x4 >>> (0 &&& 31)) &&& 255)) (t0 + m) = _ from ug_ne (by omega)).trans (hc23_4 m hm)) (show (upd (ar13 67) tp ((x4 >>> (0 &&& 31)) &&& 255)) (t0 + 15) = _ from by rw [← hc23_1]; exact ug_eq)) hI15 hF15
  have c23_14 : ∀ (tp : Nat) (sc16 : Nat → Int32) (ar16 : Nat → Nat → Int32), sc16 4908 = nI tp → tp = t0 + 14 → t0 + 20 ≤ 400 → (∀ t, t < t0 → ar16 67 t = ar 67 t) → (∀ m, m < 14 → ar16 67 (t0 + m) = fz_ x1 x2 x3 x4 x5 m &&& 255) → Iv S sc16 ar16 → Fr [4901, 4908] [67] sc ar sc16 ar16 → ag_To X d an_X10_feed (23, [(0, .ref 49), (1, .int x1), (2, .int x2), (3, .int x3), (4, .int x4), (5, .int x5), (6, .int 14)], [], gh S a b sc16 ar16 lo, ex, 0, 0) (qi S a b lo ex (fun x sc' ar' => Iv S sc' ar' ∧ Fr [4901, 4908] [67] sc ar sc' ar' ∧ (fe_P 4908 x sc sc' ∧ ((x = -1 ∧ ar' 67 = ar 67) ∨ ∃ s : Nat, sc 4908 = nI s ∧ s + 20 ≤ 400 ∧ (∀ t, t < s → ar' 67 t = ar 67 t) ∧ ∀ m, m < 20 → ar' 67 (s + m) = fz_ x1 x2 x3 x4 x5 m &&& 255)))) := by
    intro tp sc16 ar16 hc23_0 hc23_1 hc23_2 hc23_3 hc23_4 hI16 hF16
    refine to_n 19 (fr' := (79, [(0, .ref 49), (1, .int x1), (2, .int x2), (3, .int x3), (4, .int x4), (5, .int x5), (6, .int 14), (7, .int x4)], [.ref 49], gh S a b sc16 ar16 lo, ex, 0, 0)) rfl ?_
    refine to_get rfl rfl rfl rfl ?_
    refine to_n 1 (fr' := (83, [(0, .ref 49), (1, .int x1), (2, .int x2), (3, .int x3), (4, .int x4), (5, .int x5), (6, .int 14), (7, .int x4)], [.ref 49, .ref 67], gh S a b sc16 ar16 lo, ex, 0, 0)) rfl ?_
    refine to_getR (v := (nI tp)) rfl rfl rfl rfl hc23_0 ?_
    refine to_n 11 (fr' := (103, [(0, .ref 49), (1, .int x1), (2, .int x2), (3, .int x3), (4, .int x4), (5, .int x5), (6, .int 14), (7, .int x4)], [.int ((x4 >>> (8 &&& 31)) &&& 255), .int (nI tp), .ref 67], gh S a b sc16 ar16 lo, ex, 0, 0)) rfl ?_
    refine to_iasR (i := tp) (h' := gh S a b sc16 (uA ar16 67 (upd (ar16 67) tp ((x4 >>> (8 &&& 31)) &&& 255))) lo) rfl rfl (by omega) (by omega) rfl ?_
    have hI17 := ia_67 (g := (upd (ar16 67) tp ((x4 >>> (8 &&& 31)) &&& 255))) hI16
    have hF17 := fr_a (c := 67) (g := (upd (ar16 67) tp ((x4 >>> (8 &&& 31)) &&& 255))) hF16 (by decide)
    refine to_n 2 (fr' := (106, [(0, .ref 49), (1, .int x1), (2, .int x2), (3, .int x3), (4, .int x4), (5, .int x5), (6, .int 14), (7, .int x4)], [.ref 49, .ref 49], gh S a b sc16 (uA ar16 67 (upd (ar16 67) tp ((x4 >>> (8 &&& 31)) &&& 255))) lo, ex, 0, 0)) rfl ?_
    refine to_getR (v := (nI tp)) rfl rfl rfl rfl hc23_0 ?_
    refine to_n 1 (fr' := (110, [(0, .ref 49), (1, .int x1), (2, .int x2), (3, .int x3), (4, .int x4), (5, .int x5), (6, .int 14), (7, .int x4)], [.int 1, .int (nI tp), .ref 49], gh S a b sc16 (uA ar16 67 (upd (ar16 67) tp ((x4 >>> (8 &&& 31)) &&& 255))) lo, ex, 0, 0)) rfl ?_
    refine to_addN (x := tp) (y := 1) rfl ?_
    refine to_putR (h' := gh S a b (upd sc16 4908 (nI (tp + 1))) (uA ar16 67 (upd (ar16 67) tp ((x4 >>> (8 &&& 31)) &&& 255))) lo) rfl rfl rfl (Nat.le_of_ble_eq_true rfl) rfl rfl ?_
    have hI18 := ip_4908 (v := (nI (tp + 1))) hI17 (rl_n (n := (tp + 1)) (by omega))
    have hF18 := fr_s (k := 4908) (v := (nI (tp + 1))) hF17 (by decide)
    refine to_n 2 (fr' := (23, [(0, .ref 49), (1, .int x1), (2, .int x2), (3, .int x3), (4, .int x4), (5, .int x5), (6, .int 15), (7, .int x4)], [], gh S a b (upd sc16 4908 (nI (tp + 1))) (uA ar16 67 (upd (ar16 67) tp ((x4 >>> (8 &&& 31)) &&& 255))) lo, ex, 0, 0)) rfl ?_
    refine to_lv (lv := [(0, .ref 49), (1, .int x1), (2, .int x2), (3, .int x3), (4, .int x4), (5, .int x5), (6, .int 15)]) rfl ⟨rfl, rfl, rfl, rfl, rfl, rfl, rfl, trivial⟩ ?_
    exact c23_15 (tp + 1) (upd sc16 4908 (nI (tp + 1))) (uA ar16 67 (upd (ar16 67) tp ((x4 >>> (8 &&& 31)) &&& 255))) (rfl) (by omega) (by omega) (fun t ht => (show (upd (ar16 67) tp ((x4 >>> (8 &&& 31)) &&& 255)) t = _ from ug_ne (by omega)).trans (hc23_3 t ht)) (al_up (P := fun m => (uA ar16 67 (upd (ar16 67) tp ((x4 >>> (8 &&& 31)) &&& 255))) 67 (t0 + m) = fz_ x1 x2 x3 x4 x5 m &&& 255) (fun m hm => (show (upd (ar16 67) tp ((x4 >>> (8 &&& 31)) &&& 255)) (t0 + m) = _ from ug_ne (by omega)).trans (hc23_4 m hm)) (show (upd (ar16 67) tp ((x4 >>> (8 &&& 31)) &&& 255)) (t0 + 14) = _ from by rw [← hc23_1]; exact ug_eq)) hI18 hF18
  have c23_13 : ∀ (tp : Nat) (sc19 : Nat → Int32) (ar19 : Nat → Nat → Int32), sc19 4908 = nI tp → tp = t0 + 13 → t0 + 20 ≤ 400 → (∀ t, t < t0 → ar19 67 t = ar 67 t) → (∀ m, m < 13 → ar19 67 (t0 + m) = fz_ x1 x2 x3 x4 x5 m &&& 255) → Iv S sc19 ar19 → Fr [4901, 4908] [67] sc ar sc19 ar19 → ag_To X d an_X10_feed (23, [(0, .ref 49), (1, .int x1), (2, .int x2), (3, .int x3), (4, .int x4), (5, .int x5), (6, .int 13)], [], gh S a b sc19 ar19 lo, ex, 0, 0) (qi S a b lo ex (fun x sc' ar' => Iv S sc' ar' ∧ Fr [4901, 4908] [67] sc ar sc' ar' ∧ (fe_P 4908 x sc sc' ∧ ((x = -1 ∧ ar' 67 = ar 67) ∨ ∃ s : Nat, sc 4908 = nI s ∧ s + 20 ≤ 400 ∧ (∀ t, t < s → ar' 67 t = ar 67 t) ∧ ∀ m, m < 20 → ar' 67 (s + m) = fz_ x1 x2 x3 x4 x5 m &&& 255)))) := by
    intro tp sc19 ar19 hc23_0 hc23_1 hc23_2 hc23_3 hc23_4 hI19 hF19
    refine to_n 19 (fr' := (79, [(0, .ref 49), (1, .int x1), (2, .int x2), (3, .int x3), (4, .int x4), (5, .int x5), (6, .int 13), (7, .int x4)], [.ref 49], gh S a b sc19 ar19 lo, ex, 0, 0)) rfl ?_
    refine to_get rfl rfl rfl rfl ?_
    refine to_n 1 (fr' := (83, [(0, .ref 49), (1, .int x1), (2, .int x2), (3, .int x3), (4, .int x4), (5, .int x5), (6, .int 13), (7, .int x4)], [.ref 49, .ref 67], gh S a b sc19 ar19 lo, ex, 0, 0)) rfl ?_
    refine to_getR (v := (nI tp)) rfl rfl rfl rfl hc23_0 ?_
    refine to_n 11 (fr' := (103, [(0, .ref 49), (1, .int x1), (2, .int x2), (3, .int x3), (4, .int x4), (5, .int x5), (6, .int 13), (7, .int x4)], [.int ((x4 >>> (16 &&& 31)) &&& 255), .int (nI tp), .ref 67], gh S a b sc19 ar19 lo, ex, 0, 0)) rfl ?_
    refine to_iasR (i := tp) (h' := gh S a b sc19 (uA ar19 67 (upd (ar19 67) tp ((x4 >>> (16 &&& 31)) &&& 255))) lo) rfl rfl (by omega) (by omega) rfl ?_
    have hI20 := ia_67 (g := (upd (ar19 67) tp ((x4 >>> (16 &&& 31)) &&& 255))) hI19
    have hF20 := fr_a (c := 67) (g := (upd (ar19 67) tp ((x4 >>> (16 &&& 31)) &&& 255))) hF19 (by decide)
    refine to_n 2 (fr' := (106, [(0, .ref 49), (1, .int x1), (2, .int x2), (3, .int x3), (4, .int x4), (5, .int x5), (6, .int 13), (7, .int x4)], [.ref 49, .ref 49], gh S a b sc19 (uA ar19 67 (upd (ar19 67) tp ((x4 >>> (16 &&& 31)) &&& 255))) lo, ex, 0, 0)) rfl ?_
    refine to_getR (v := (nI tp)) rfl rfl rfl rfl hc23_0 ?_
    refine to_n 1 (fr' := (110, [(0, .ref 49), (1, .int x1), (2, .int x2), (3, .int x3), (4, .int x4), (5, .int x5), (6, .int 13), (7, .int x4)], [.int 1, .int (nI tp), .ref 49], gh S a b sc19 (uA ar19 67 (upd (ar19 67) tp ((x4 >>> (16 &&& 31)) &&& 255))) lo, ex, 0, 0)) rfl ?_
    refine to_addN (x := tp) (y := 1) rfl ?_
    refine to_putR (h' := gh S a b (upd sc19 4908 (nI (tp + 1))) (uA ar19 67 (upd (ar19 67) tp ((x4 >>> (16 &&& 31)) &&& 255))) lo) rfl rfl rfl (Nat.le_of_ble_eq_true rfl) rfl rfl ?_
    have hI21 := ip_4908 (v := (nI (tp + 1))) hI20 (rl_n (n := (tp + 1)) (by omega))
    have hF21 := fr_s (k := 4908) (v := (nI (tp + 1))) hF20 (by decide)
    refine to_n 2 (fr' := (23, [(0, .ref 49), (1, .int x1), (2, .int x2), (3, .int x3), (4, .int x4), (5, .int x5), (6, .int 14), (7, .int x4)], [], gh S a b (upd sc19 4908 (nI (tp + 1))) (uA ar19 67 (upd (ar19 67) tp ((x4 >>> (16 &&& 31)) &&& 255))) lo, ex, 0, 0)) rfl ?_
    refine to_lv (lv := [(0, .ref 49), (1, .int x1), (2, .int x2), (3, .int x3), (4, .int x4), (5, .int x5), (6, .int 14)]) rfl ⟨rfl, rfl, rfl, rfl, rfl, rfl, rfl, trivial⟩ ?_
    exact c23_14 (tp + 1) (upd sc19 4908 (nI (tp + 1))) (uA ar19 67 (upd (ar19 67) tp ((x4 >>> (16 &&& 31)) &&& 255))) (rfl) (by omega) (by omega) (fun t ht => (show (upd (ar19 67) tp ((x4 >>> (16 &&& 31)) &&& 255)) t = _ from ug_ne (by omega)).trans (hc23_3 t ht)) (al_up (P := fun m => (uA ar19 67 (upd (ar19 67) tp ((x4 >>> (16 &&& 31)) &&& 255))) 67 (t0 + m) = fz_ x1 x2 x3 x4 x5 m &&& 255) (fun m hm => (show (upd (ar19 67) tp ((x4 >>> (16 &&& 31)) &&& 255)) (t0 + m) = _ from ug_ne (by omega)).trans (hc23_4 m hm)) (show (upd (ar19 67) tp ((x4 >>> (16 &&& 31)) &&& 255)) (t0 + 13) = _ from by rw [← hc23_1]; exact ug_eq)) hI21 hF21
  have c23_12 : ∀ (tp : Nat) (sc22 : Nat → Int32) (ar22 : Nat → Nat → Int32), sc22 4908 = nI tp → tp = t0 + 12 → t0 + 20 ≤ 400 → (∀ t, t < t0 → ar22 67 t = ar 67 t) → (∀ m, m < 12 → ar22 67 (t0 + m) = fz_ x1 x2 x3 x4 x5 m &&& 255) → Iv S sc22 ar22 → Fr [4901, 4908] [67] sc ar sc22 ar22 → ag_To X d an_X10_feed (23, [(0, .ref 49), (1, .int x1), (2, .int x2), (3, .int x3), (4, .int x4), (5, .int x5), (6, .int 12)], [], gh S a b sc22 ar22 lo, ex, 0, 0) (qi S a b lo ex (fun x sc' ar' => Iv S sc' ar' ∧ Fr [4901, 4908] [67] sc ar sc' ar' ∧ (fe_P 4908 x sc sc' ∧ ((x = -1 ∧ ar' 67 = ar 67) ∨ ∃ s : Nat, sc 4908 = nI s ∧ s + 20 ≤ 400 ∧ (∀ t, t < s → ar' 67 t = ar 67 t) ∧ ∀ m, m < 20 → ar' 67 (s + m) = fz_ x1 x2 x3 x4 x5 m &&& 255)))) := by
    intro tp sc22 ar22 hc23_0 hc23_1 hc23_2 hc23_3 hc23_4 hI22 hF22
    refine to_n 19 (fr' := (79, [(0, .ref 49), (1, .int x1), (2, .int x2), (3, .int x3), (4, .int x4), (5, .int x5), (6, .int 12), (7, .int x4)], [.ref 49], gh S a b sc22 ar22 lo, ex, 0, 0)) rfl ?_
    refine to_get rfl rfl rfl rfl ?_
    refine to_n 1 (fr' := (83, [(0, .ref 49), (1, .int x1), (2, .int x2), (3, .int x3), (4, .int x4), (5, .int x5), (6, .int 12), (7, .int x4)], [.ref 49, .ref 67], gh S a b sc22 ar22 lo, ex, 0, 0)) rfl ?_
    refine to_getR (v := (nI tp)) rfl rfl rfl rfl hc23_0 ?_
    refine to_n 11 (fr' := (103, [(0, .ref 49), (1, .int x1), (2, .int x2), (3, .int x3), (4, .int x4), (5, .int x5), (6, .int 12), (7, .int x4)], [.int ((x4 >>> (24 &&& 31)) &&& 255), .int (nI tp), .ref 67], gh S a b sc22 ar22 lo, ex, 0, 0)) rfl ?_
    refine to_iasR (i := tp) (h' := gh S a b sc22 (uA ar22 67 (upd (ar22 67) tp ((x4 >>> (24 &&& 31)) &&& 255))) lo) rfl rfl (by omega) (by omega) rfl ?_
    have hI23 := ia_67 (g := (upd (ar22 67) tp ((x4 >>> (24 &&& 31)) &&& 255))) hI22
    have hF23 := fr_a (c := 67) (g := (upd (ar22 67) tp ((x4 >>> (24 &&& 31)) &&& 255))) hF22 (by decide)
    refine to_n 2 (fr' := (106, [(0, .ref 49), (1, .int x1), (2, .int x2), (3, .int x3), (4, .int x4), (5, .int x5), (6, .int 12), (7, .int x4)], [.ref 49, .ref 49], gh S a b sc22 (uA ar22 67 (upd (ar22 67) tp ((x4 >>> (24 &&& 31)) &&& 255))) lo, ex, 0, 0)) rfl ?_
    refine to_getR (v := (nI tp)) rfl rfl rfl rfl hc23_0 ?_
    refine to_n 1 (fr' := (110, [(0, .ref 49), (1, .int x1), (2, .int x2), (3, .int x3), (4, .int x4), (5, .int x5), (6, .int 12), (7, .int x4)], [.int 1, .int (nI tp), .ref 49], gh S a b sc22 (uA ar22 67 (upd (ar22 67) tp ((x4 >>> (24 &&& 31)) &&& 255))) lo, ex, 0, 0)) rfl ?_
    refine to_addN (x := tp) (y := 1) rfl ?_
    refine to_putR (h' := gh S a b (upd sc22 4908 (nI (tp + 1))) (uA ar22 67 (upd (ar22 67) tp ((x4 >>> (24 &&& 31)) &&& 255))) lo) rfl rfl rfl (Nat.le_of_ble_eq_true rfl) rfl rfl ?_
    have hI24 := ip_4908 (v := (nI (tp + 1))) hI23 (rl_n (n := (tp + 1)) (by omega))
    have hF24 := fr_s (k := 4908) (v := (nI (tp + 1))) hF23 (by decide)
    refine to_n 2 (fr' := (23, [(0, .ref 49), (1, .int x1), (2, .int x2), (3, .int x3), (4, .int x4), (5, .int x5), (6, .int 13), (7, .int x4)], [], gh S a b (upd sc22 4908 (nI (tp + 1))) (uA ar22 67 (upd (ar22 67) tp ((x4 >>> (24 &&& 31)) &&& 255))) lo, ex, 0, 0)) rfl ?_
    refine to_lv (lv := [(0, .ref 49), (1, .int x1), (2, .int x2), (3, .int x3), (4, .int x4), (5, .int x5), (6, .int 13)]) rfl ⟨rfl, rfl, rfl, rfl, rfl, rfl, rfl, trivial⟩ ?_
    exact c23_13 (tp + 1) (upd sc22 4908 (nI (tp + 1))) (uA ar22 67 (upd (ar22 67) tp ((x4 >>> (24 &&& 31)) &&& 255))) (rfl) (by omega) (by omega) (fun t ht => (show (upd (ar22 67) tp ((x4 >>> (24 &&& 31)) &&& 255)) t = _ from ug_ne (by omega)).trans (hc23_3 t ht)) (al_up (P := fun m => (uA ar22 67 (upd (ar22 67) tp ((x4 >>> (24 &&& 31)) &&& 255))) 67 (t0 + m) = fz_ x1 x2 x3 x4 x5 m &&& 255) (fun m hm => (show (upd (ar22 67) tp ((x4 >>> (24 &&& 31)) &&& 255)) (t0 + m) = _ from ug_ne (by omega)).trans (hc23_4 m hm)) (show (upd (ar22 67) tp ((x4 >>> (24 &&& 31)) &&& 255)) (t0 + 12) = _ from by rw [← hc23_1]; exact ug_eq)) hI24 hF24
  have c23_11 : ∀ (tp : Nat) (sc25 : Nat → Int32) (ar25 : Nat → Nat → Int32), sc25 4908 = nI tp → tp = t0 + 11 → t0 + 20 ≤ 400 → (∀ t, t < t0 → ar25 67 t = ar 67 t) → (∀ m, m < 11 → ar25 67 (t0 + m) = fz_ x1 x2 x3 x4 x5 m &&& 255) → Iv S sc25 ar25 → Fr [4901, 4908] [67] sc ar sc25 ar25 → ag_To X d an_X10_feed (23, [(0, .ref 49), (1, .int x1), (2, .int x2), (3, .int x3), (4, .int x4), (5, .int x5), (6, .int 11)], [], gh S a b sc25 ar25 lo, ex, 0, 0) (qi S a b lo ex (fun x sc' ar' => Iv S sc' ar' ∧ Fr [4901, 4908] [67] sc ar sc' ar' ∧ (fe_P 4908 x sc sc' ∧ ((x = -1 ∧ ar' 67 = ar 67) ∨ ∃ s : Nat, sc 4908 = nI s ∧ s + 20 ≤ 400 ∧ (∀ t, t < s → ar' 67 t = ar 67 t) ∧ ∀ m, m < 20 → ar' 67 (s + m) = fz_ x1 x2 x3 x4 x5 m &&& 255)))) := by
    intro tp sc25 ar25 hc23_0 hc23_1 hc23_2 hc23_3 hc23_4 hI25 hF25
    refine to_n 16 (fr' := (79, [(0, .ref 49), (1, .int x1), (2, .int x2), (3, .int x3), (4, .int x4), (5, .int x5), (6, .int 11), (7, .int x3)], [.ref 49], gh S a b sc25 ar25 lo, ex, 0, 0)) rfl ?_
    refine to_get rfl rfl rfl rfl ?_
    refine to_n 1 (fr' := (83, [(0, .ref 49), (1, .int x1), (2, .int x2), (3, .int x3), (4, .int x4), (5, .int x5), (6, .int 11), (7, .int x3)], [.ref 49, .ref 67], gh S a b sc25 ar25 lo, ex, 0, 0)) rfl ?_
    refine to_getR (v := (nI tp)) rfl rfl rfl rfl hc23_0 ?_
    refine to_n 11 (fr' := (103, [(0, .ref 49), (1, .int x1), (2, .int x2), (3, .int x3), (4, .int x4), (5, .int x5), (6, .int 11), (7, .int x3)], [.int ((x3 >>> (0 &&& 31)) &&& 255), .int (nI tp), .ref 67], gh S a b sc25 ar25 lo, ex, 0, 0)) rfl ?_
    refine to_iasR (i := tp) (h' := gh S a b sc25 (uA ar25 67 (upd (ar25 67) tp ((x3 >>> (0 &&& 31)) &&& 255))) lo) rfl rfl (by omega) (by omega) rfl ?_
    have hI26 := ia_67 (g := (upd (ar25 67) tp ((x3 >>> (0 &&& 31)) &&& 255))) hI25
    have hF26 := fr_a (c := 67) (g := (upd (ar25 67) tp ((x3 >>> (0 &&& 31)) &&& 255))) hF25 (by decide)
    refine to_n 2 (fr' := (106, [(0, .ref 49), (1, .int x1), (2, .int x2), (3, .int x3), (4, .int x4), (5, .int x5), (6, .int 11), (7, .int x3)], [.ref 49, .ref 49], gh S a b sc25 (uA ar25 67 (upd (ar25 67) tp ((x3 >>> (0 &&& 31)) &&& 255))) lo, ex, 0, 0)) rfl ?_
    refine to_getR (v := (nI tp)) rfl rfl rfl rfl hc23_0 ?_
    refine to_n 1 (fr' := (110, [(0, .ref 49), (1, .int x1), (2, .int x2), (3, .int x3), (4, .int x4), (5, .int x5), (6, .int 11), (7, .int x3)], [.int 1, .int (nI tp), .ref 49], gh S a b sc25 (uA ar25 67 (upd (ar25 67) tp ((x3 >>> (0 &&& 31)) &&& 255))) lo, ex, 0, 0)) rfl ?_
    refine to_addN (x := tp) (y := 1) rfl ?_
    refine to_putR (h' := gh S a b (upd sc25 4908 (nI (tp + 1))) (uA ar25 67 (upd (ar25 67) tp ((x3 >>> (0 &&& 31)) &&& 255))) lo) rfl rfl rfl (Nat.le_of_ble_eq_true rfl) rfl rfl ?_
    have hI27 := ip_4908 (v := (nI (tp + 1))) hI26 (rl_n (n := (tp + 1)) (by omega))
    have hF27 := fr_s (k := 4908) (v := (nI (tp + 1))) hF26 (by decide)
    refine to_n 2 (fr' := (23, [(0, .ref 49), (1, .int x1), (2, .int x2), (3, .int x3), (4, .int x4), (5, .int x5), (6, .int 12), (7, .int x3)], [], gh S a b (upd sc25 4908 (nI (tp + 1))) (uA ar25 67 (upd (ar25 67) tp ((x3 >>> (0 &&& 31)) &&& 255))) lo, ex, 0, 0)) rfl ?_
    refine to_lv (lv := [(0, .ref 49), (1, .int x1), (2, .int x2), (3, .int x3), (4, .int x4), (5, .int x5), (6, .int 12)]) rfl ⟨rfl, rfl, rfl, rfl, rfl, rfl, rfl, trivial⟩ ?_
    exact c23_12 (tp + 1) (upd sc25 4908 (nI (tp + 1))) (uA ar25 67 (upd (ar25 67) tp ((x3 >>> (0 &&& 31)) &&& 255))) (rfl) (by omega) (by omega) (fun t ht => (show (upd (ar25 67) tp ((x3 >>> (0 &&& 31)) &&& 255)) t = _ from ug_ne (by omega)).trans (hc23_3 t ht)) (al_up (P := fun m => (uA ar25 67 (upd (ar25 67) tp ((x3 >>> (0 &&& 31)) &&& 255))) 67 (t0 + m) = fz_ x1 x2 x3 x4 x5 m &&& 255) (fun m hm => (show (upd (ar25 67) tp ((x3 >>> (0 &&& 31)) &&& 255)) (t0 + m) = _ from ug_ne (by omega)).trans (hc23_4 m hm)) (show (upd (ar25 67) tp ((x3 >>> (0 &&& 31)) &&& 255)) (t0 + 11) = _ from by rw [← hc23_1]; exact ug_eq)) hI27 hF27
  have c23_10 : ∀ (tp : Nat) (sc28 : Nat → Int32) (ar28 : Nat → Nat → Int32), sc28 4908 = nI tp → tp = t0 + 10 → t0 + 20 ≤ 400 → (∀ t, t < t0 → ar28 67 t = ar 67 t) → (∀ m, m < 10 → ar28 67 (t0 + m) = fz_ x1 x2 x3 x4 x5 m &&& 255) → Iv S sc28 ar28 → Fr [4901, 4908] [67] sc ar sc28 ar28 → ag_To X d an_X10_feed (23, [(0, .ref 49), (1, .int x1), (2, .int x2), (3, .int x3), (4, .int x4), (5, .int x5), (6, .int 10)], [], gh S a b sc28 ar28 lo, ex, 0, 0) (qi S a b lo ex (fun x sc' ar' => Iv S sc' ar' ∧ Fr [4901, 4908] [67] sc ar sc' ar' ∧ (fe_P 4908 x sc sc' ∧ ((x = -1 ∧ ar' 67 = ar 67) ∨ ∃ s : Nat, sc 4908 = nI s ∧ s + 20 ≤ 400 ∧ (∀ t, t < s → ar' 67 t = ar 67 t) ∧ ∀ m, m < 20 → ar' 67 (s + m) = fz_ x1 x2 x3 x4 x5 m &&& 255)))) := by
    intro tp sc28 ar28 hc23_0 hc23_1 hc23_2 hc23_3 hc23_4 hI28 hF28
    refine to_n 16 (fr' := (79, [(0, .ref 49), (1, .int x1), (2, .int x2), (3, .int x3), (4, .int x4), (5, .int x5), (6, .int 10), (7, .int x3)], [.ref 49], gh S a b sc28 ar28 lo, ex, 0, 0)) rfl ?_
    refine to_get rfl rfl rfl rfl ?_
    refine to_n 1 (fr' := (83, [(0, .ref 49), (1, .int x1), (2, .int x2), (3, .int x3), (4, .int x4), (5, .int x5), (6, .int 10), (7, .int x3)], [.ref 49, .ref 67], gh S a b sc28 ar28 lo, ex, 0, 0)) rfl ?_
    refine to_getR (v := (nI tp)) rfl rfl rfl rfl hc23_0 ?_
    refine to_n 11 (fr' := (103, [(0, .ref 49), (1, .int x1), (2, .int x2), (3, .int x3), (4, .int x4), (5, .int x5), (6, .int 10), (7, .int x3)], [.int ((x3 >>> (8 &&& 31)) &&& 255), .int (nI tp), .ref 67], gh S a b sc28 ar28 lo, ex, 0, 0)) rfl ?_
    refine to_iasR (i := tp) (h' := gh S a b sc28 (uA ar28 67 (upd (ar28 67) tp ((x3 >>> (8 &&& 31)) &&& 255))) lo) rfl rfl (by omega) (by omega) rfl ?_
    have hI29 := ia_67 (g := (upd (ar28 67) tp ((x3 >>> (8 &&& 31)) &&& 255))) hI28
    have hF29 := fr_a (c := 67) (g := (upd (ar28 67) tp ((x3 >>> (8 &&& 31)) &&& 255))) hF28 (by decide)
    refine to_n 2 (fr' := (106, [(0, .ref 49), (1, .int x1), (2, .int x2), (3, .int x3), (4, .int x4), (5, .int x5), (6, .int 10), (7, .int x3)], [.ref 49, .ref 49], gh S a b sc28 (uA ar28 67 (upd (ar28 67) tp ((x3 >>> (8 &&& 31)) &&& 255))) lo, ex, 0, 0)) rfl ?_
    refine to_getR (v := (nI tp)) rfl rfl rfl rfl hc23_0 ?_
    refine to_n 1 (fr' := (110, [(0, .ref 49), (1, .int x1), (2, .int x2), (3, .int x3), (4, .int x4), (5, .int x5), (6, .int 10), (7, .int x3)], [.int 1, .int (nI tp), .ref 49], gh S a b sc28 (uA ar28 67 (upd (ar28 67) tp ((x3 >>> (8 &&& 31)) &&& 255))) lo, ex, 0, 0)) rfl ?_
    refine to_addN (x := tp) (y := 1) rfl ?_
    refine to_putR (h' := gh S a b (upd sc28 4908 (nI (tp + 1))) (uA ar28 67 (upd (ar28 67) tp ((x3 >>> (8 &&& 31)) &&& 255))) lo) rfl rfl rfl (Nat.le_of_ble_eq_true rfl) rfl rfl ?_
    have hI30 := ip_4908 (v := (nI (tp + 1))) hI29 (rl_n (n := (tp + 1)) (by omega))
    have hF30 := fr_s (k := 4908) (v := (nI (tp + 1))) hF29 (by decide)
    refine to_n 2 (fr' := (23, [(0, .ref 49), (1, .int x1), (2, .int x2), (3, .int x3), (4, .int x4), (5, .int x5), (6, .int 11), (7, .int x3)], [], gh S a b (upd sc28 4908 (nI (tp + 1))) (uA ar28 67 (upd (ar28 67) tp ((x3 >>> (8 &&& 31)) &&& 255))) lo, ex, 0, 0)) rfl ?_
    refine to_lv (lv := [(0, .ref 49), (1, .int x1), (2, .int x2), (3, .int x3), (4, .int x4), (5, .int x5), (6, .int 11)]) rfl ⟨rfl, rfl, rfl, rfl, rfl, rfl, rfl, trivial⟩ ?_
    exact c23_11 (tp + 1) (upd sc28 4908 (nI (tp + 1))) (uA ar28 67 (upd (ar28 67) tp ((x3 >>> (8 &&& 31)) &&& 255))) (rfl) (by omega) (by omega) (fun t ht => (show (upd (ar28 67) tp ((x3 >>> (8 &&& 31)) &&& 255)) t = _ from ug_ne (by omega)).trans (hc23_3 t ht)) (al_up (P := fun m => (uA ar28 67 (upd (ar28 67) tp ((x3 >>> (8 &&& 31)) &&& 255))) 67 (t0 + m) = fz_ x1 x2 x3 x4 x5 m &&& 255) (fun m hm => (show (upd (ar28 67) tp ((x3 >>> (8 &&& 31)) &&& 255)) (t0 + m) = _ from ug_ne (by omega)).trans (hc23_4 m hm)) (show (upd (ar28 67) tp ((x3 >>> (8 &&& 31)) &&& 255)) (t0 + 10) = _ from by rw [← hc23_1]; exact ug_eq)) hI30 hF30
  have c23_9 : ∀ (tp : Nat) (sc31 : Nat → Int32) (ar31 : Nat → Nat → Int32), sc31 4908 = nI tp → tp = t0 + 9 → t0 + 20 ≤ 400 → (∀ t, t < t0 → ar31 67 t = ar 67 t) → (∀ m, m < 9 → ar31 67 (t0 + m) = fz_ x1 x2 x3 x4 x5 m &&& 255) → Iv S sc31 ar31 → Fr [4901, 4908] [67] sc ar sc31 ar31 → ag_To X d an_X10_feed (23, [(0, .ref 49), (1, .int x1), (2, .int x2), (3, .int x3), (4, .int x4), (5, .int x5), (6, .int 9)], [], gh S a b sc31 ar31 lo, ex, 0, 0) (qi S a b lo ex (fun x sc' ar' => Iv S sc' ar' ∧ Fr [4901, 4908] [67] sc ar sc' ar' ∧ (fe_P 4908 x sc sc' ∧ ((x = -1 ∧ ar' 67 = ar 67) ∨ ∃ s : Nat, sc 4908 = nI s ∧ s + 20 ≤ 400 ∧ (∀ t, t < s → ar' 67 t = ar 67 t) ∧ ∀ m, m < 20 → ar' 67 (s + m) = fz_ x1 x2 x3 x4 x5 m &&& 255)))) := by
    intro tp sc31 ar31 hc23_0 hc23_1 hc23_2 hc23_3 hc23_4 hI31 hF31
    refine to_n 16 (fr' := (79, [(0, .ref 49), (1, .int x1), (2, .int x2), (3, .int x3), (4, .int x4), (5, .int x5), (6, .int 9), (7, .int x3)], [.ref 49], gh S a b sc31 ar31 lo, ex, 0, 0)) rfl ?_
    refine to_get rfl rfl rfl rfl ?_
    refine to_n 1 (fr' := (83, [(0, .ref 49), (1, .int x1), (2, .int x2), (3, .int x3), (4, .int x4), (5, .int x5), (6, .int 9), (7, .int x3)], [.ref 49, .ref 67], gh S a b sc31 ar31 lo, ex, 0, 0)) rfl ?_
    refine to_getR (v := (nI tp)) rfl rfl rfl rfl hc23_0 ?_
    refine to_n 11 (fr' := (103, [(0, .ref 49), (1, .int x1), (2, .int x2), (3, .int x3), (4, .int x4), (5, .int x5), (6, .int 9), (7, .int x3)], [.int ((x3 >>> (16 &&& 31)) &&& 255), .int (nI tp), .ref 67], gh S a b sc31 ar31 lo, ex, 0, 0)) rfl ?_
    refine to_iasR (i := tp) (h' := gh S a b sc31 (uA ar31 67 (upd (ar31 67) tp ((x3 >>> (16 &&& 31)) &&& 255))) lo) rfl rfl (by omega) (by omega) rfl ?_
    have hI32 := ia_67 (g := (upd (ar31 67) tp ((x3 >>> (16 &&& 31)) &&& 255))) hI31
    have hF32 := fr_a (c := 67) (g := (upd (ar31 67) tp ((x3 >>> (16 &&& 31)) &&& 255))) hF31 (by decide)
    refine to_n 2 (fr' := (106, [(0, .ref 49), (1, .int x1), (2, .int x2), (3, .int x3), (4, .int x4), (5, .int x5), (6, .int 9), (7, .int x3)], [.ref 49, .ref 49], gh S a b sc31 (uA ar31 67 (upd (ar31 67) tp ((x3 >>> (16 &&& 31)) &&& 255))) lo, ex, 0, 0)) rfl ?_
    refine to_getR (v := (nI tp)) rfl rfl rfl rfl hc23_0 ?_
    refine to_n 1 (fr' := (110, [(0, .ref 49), (1, .int x1), (2, .int x2), (3, .int x3), (4, .int x4), (5, .int x5), (6, .int 9), (7, .int x3)], [.int 1, .int (nI tp), .ref 49], gh S a b sc31 (uA ar31 67 (upd (ar31 67) tp ((x3 >>> (16 &&& 31)) &&& 255))) lo, ex, 0, 0)) rfl ?_
    refine to_addN (x := tp) (y := 1) rfl ?_
    refine to_putR (h' := gh S a b (upd sc31 4908 (nI (tp + 1))) (uA ar31 67 (upd (ar31 67) tp ((x3 >>> (16 &&& 31)) &&& 255))) lo) rfl rfl rfl (Nat.le_of_ble_eq_true rfl) rfl rfl ?_
    have hI33 := ip_4908 (v := (nI (tp + 1))) hI32 (rl_n (n := (tp + 1)) (by omega))
    have hF33 := fr_s (k := 4908) (v := (nI (tp + 1))) hF32 (by decide)
    refine to_n 2 (fr' := (23, [(0, .ref 49), (1, .int x1), (2, .int x2), (3, .int x3), (4, .int x4), (5, .int x5), (6, .int 10), (7, .int x3)], [], gh S a b (upd sc31 4908 (nI (tp + 1))) (uA ar31 67 (upd (ar31 67) tp ((x3 >>> (16 &&& 31)) &&& 255))) lo, ex, 0, 0)) rfl ?_
    refine to_lv (lv := [(0, .ref 49), (1, .int x1), (2, .int x2), (3, .int x3), (4, .int x4), (5, .int x5), (6, .int 10)]) rfl ⟨rfl, rfl, rfl, rfl, rfl, rfl, rfl, trivial⟩ ?_
    exact c23_10 (tp + 1) (upd sc31 4908 (nI (tp + 1))) (uA ar31 67 (upd (ar31 67) tp ((x3 >>> (16 &&& 31)) &&& 255))) (rfl) (by omega) (by omega) (fun t ht => (show (upd (ar31 67) tp ((x3 >>> (16 &&& 31)) &&& 255)) t = _ from ug_ne (by omega)).trans (hc23_3 t ht)) (al_up (P := fun m => (uA ar31 67 (upd (ar31 67) tp ((x3 >>> (16 &&& 31)) &&& 255))) 67 (t0 + m) = fz_ x1 x2 x3 x4 x5 m &&& 255) (fun m hm => (show (upd (ar31 67) tp ((x3 >>> (16 &&& 31)) &&& 255)) (t0 + m) = _ from ug_ne (by omega)).trans (hc23_4 m hm)) (show (upd (ar31 67) tp ((x3 >>> (16 &&& 31)) &&& 255)) (t0 + 9) = _ from by rw [← hc23_1]; exact ug_eq)) hI33 hF33
  have c23_8 : ∀ (tp : Nat) (sc34 : Nat → Int32) (ar34 : Nat → Nat → Int32), sc34 4908 = nI tp → tp = t0 + 8 → t0 + 20 ≤ 400 → (∀ t, t < t0 → ar34 67 t = ar 67 t) → (∀ m, m < 8 → ar34 67 (t0 + m) = fz_ x1 x2 x3 x4 x5 m &&& 255) → Iv S sc34 ar34 → Fr [4901, 4908] [67] sc ar sc34 ar34 → ag_To X d an_X10_feed (23, [(0, .ref 49), (1, .int x1), (2, .int x2), (3, .int x3), (4, .int x4), (5, .int x5), (6, .int 8)], [], gh S a b sc34 ar34 lo, ex, 0, 0) (qi S a b lo ex (fun x sc' ar' => Iv S sc' ar' ∧ Fr [4901, 4908] [67] sc ar sc' ar' ∧ (fe_P 4908 x sc sc' ∧ ((x = -1 ∧ ar' 67 = ar 67) ∨ ∃ s : Nat, sc 4908 = nI s ∧ s + 20 ≤ 400 ∧ (∀ t, t < s → ar' 67 t = ar 67 t) ∧ ∀ m, m < 20 → ar' 67 (s + m) = fz_ x1 x2 x3 x4 x5 m &&& 255)))) := by
    intro tp sc34 ar34 hc23_0 hc23_1 hc23_2 hc23_3 hc23_4 hI34 hF34
    refine to_n 16 (fr' := (79, [(0, .ref 49), (1, .int x1), (2, .int x2), (3, .int x3), (4, .int x4), (5, .int x5), (6, .int 8), (7, .int x3)], [.ref 49], gh S a b sc34 ar34 lo, ex, 0, 0)) rfl ?_
    refine to_get rfl rfl rfl rfl ?_
    refine to_n 1 (fr' := (83, [(0, .ref 49), (1, .int x1), (2, .int x2), (3, .int x3), (4, .int x4), (5, .int x5), (6, .int 8), (7, .int x3)], [.ref 49, .ref 67], gh S a b sc34 ar34 lo, ex, 0, 0)) rfl ?_
    refine to_getR (v := (nI tp)) rfl rfl rfl rfl hc23_0 ?_
    refine to_n 11 (fr' := (103, [(0, .ref 49), (1, .int x1), (2, .int x2), (3, .int x3), (4, .int x4), (5, .int x5), (6, .int 8), (7, .int x3)], [.int ((x3 >>> (24 &&& 31)) &&& 255), .int (nI tp), .ref 67], gh S a b sc34 ar34 lo, ex, 0, 0)) rfl ?_
    refine to_iasR (i := tp) (h' := gh S a b sc34 (uA ar34 67 (upd (ar34 67) tp ((x3 >>> (24 &&& 31)) &&& 255))) lo) rfl rfl (by omega) (by omega) rfl ?_
    have hI35 := ia_67 (g := (upd (ar34 67) tp ((x3 >>> (24 &&& 31)) &&& 255))) hI34
    have hF35 := fr_a (c := 67) (g := (upd (ar34 67) tp ((x3 >>> (24 &&& 31)) &&& 255))) hF34 (by decide)
    refine to_n 2 (fr' := (106, [(0, .ref 49), (1, .int x1), (2, .int x2), (3, .int x3), (4, .int x4), (5, .int x5), (6, .int 8), (7, .int x3)], [.ref 49, .ref 49], gh S a b sc34 (uA ar34 67 (upd (ar34 67) tp ((x3 >>> (24 &&& 31)) &&& 255))) lo, ex, 0, 0)) rfl ?_
    refine to_getR (v := (nI tp)) rfl rfl rfl rfl hc23_0 ?_
    refine to_n 1 (fr' := (110, [(0, .ref 49), (1, .int x1), (2, .int x2), (3, .int x3), (4, .int x4), (5, .int x5), (6, .int 8), (7, .int x3)], [.int 1, .int (nI tp), .ref 49], gh S a b sc34 (uA ar34 67 (upd (ar34 67) tp ((x3 >>> (24 &&& 31)) &&& 255))) lo, ex, 0, 0)) rfl ?_
    refine to_addN (x := tp) (y := 1) rfl ?_
    refine to_putR (h' := gh S a b (upd sc34 4908 (nI (tp + 1))) (uA ar34 67 (upd (ar34 67) tp ((x3 >>> (24 &&& 31)) &&& 255))) lo) rfl rfl rfl (Nat.le_of_ble_eq_true rfl) rfl rfl ?_
    have hI36 := ip_4908 (v := (nI (tp + 1))) hI35 (rl_n (n := (tp + 1)) (by omega))
    have hF36 := fr_s (k := 4908) (v := (nI (tp + 1))) hF35 (by decide)
    refine to_n 2 (fr' := (23, [(0, .ref 49), (1, .int x1), (2, .int x2), (3, .int x3), (4, .int x4), (5, .int x5), (6, .int 9), (7, .int x3)], [], gh S a b (upd sc34 4908 (nI (tp + 1))) (uA ar34 67 (upd (ar34 67) tp ((x3 >>> (24 &&& 31)) &&& 255))) lo, ex, 0, 0)) rfl ?_
    refine to_lv (lv := [(0, .ref 49), (1, .int x1), (2, .int x2), (3, .int x3), (4, .int x4), (5, .int x5), (6, .int 9)]) rfl ⟨rfl, rfl, rfl, rfl, rfl, rfl, rfl, trivial⟩ ?_
    exact c23_9 (tp + 1) (upd sc34 4908 (nI (tp + 1))) (uA ar34 67 (upd (ar34 67) tp ((x3 >>> (24 &&& 31)) &&& 255))) (rfl) (by omega) (by omega) (fun t ht => (show (upd (ar34 67) tp ((x3 >>> (24 &&& 31)) &&& 255)) t = _ from ug_ne (by omega)).trans (hc23_3 t ht)) (al_up (P := fun m => (uA ar34 67 (upd (ar34 67) tp ((x3 >>> (24 &&& 31)) &&& 255))) 67 (t0 + m) = fz_ x1 x2 x3 x4 x5 m &&& 255) (fun m hm => (show (upd (ar34 67) tp ((x3 >>> (24 &&& 31)) &&& 255)) (t0 + m) = _ from ug_ne (by omega)).trans (hc23_4 m hm)) (show (upd (ar34 67) tp ((x3 >>> (24 &&& 31)) &&& 255)) (t0 + 8) = _ from by rw [← hc23_1]; exact ug_eq)) hI36 hF36
  have c23_7 : ∀ (tp : Nat) (sc37 : Nat → Int32) (ar37 : Nat → Nat → Int32), sc37 4908 = nI tp → tp = t0 + 7 → t0 + 20 ≤ 400 → (∀ t, t < t0 → ar37 67 t = ar 67 t) → (∀ m, m < 7 → ar37 67 (t0 + m) = fz_ x1 x2 x3 x4 x5 m &&& 255) → Iv S sc37 ar37 → Fr [4901, 4908] [67] sc ar sc37 ar37 → ag_To X d an_X10_feed (23, [(0, .ref 49), (1, .int x1), (2, .int x2), (3, .int x3), (4, .int x4), (5, .int x5), (6, .int 7)], [], gh S a b sc37 ar37 lo, ex, 0, 0) (qi S a b lo ex (fun x sc' ar' => Iv S sc' ar' ∧ Fr [4901, 4908] [67] sc ar sc' ar' ∧ (fe_P 4908 x sc sc' ∧ ((x = -1 ∧ ar' 67 = ar 67) ∨ ∃ s : Nat, sc 4908 = nI s ∧ s + 20 ≤ 400 ∧ (∀ t, t < s → ar' 67 t = ar 67 t) ∧ ∀ m, m < 20 → ar' 67 (s + m) = fz_ x1 x2 x3 x4 x5 m &&& 255)))) := by
    intro tp sc37 ar37 hc23_0 hc23_1 hc23_2 hc23_3 hc23_4 hI37 hF37
    refine to_n 13 (fr' := (79, [(0, .ref 49), (1, .int x1), (2, .int x2), (3, .int x3), (4, .int x4), (5, .int x5), (6, .int 7), (7, .int x2)], [.ref 49], gh S a b sc37 ar37 lo, ex, 0, 0)) rfl ?_
    refine to_get rfl rfl rfl rfl ?_
    refine to_n 1 (fr' := (83, [(0, .ref 49), (1, .int x1), (2, .int x2), (3, .int x3), (4, .int x4), (5, .int x5), (6, .int 7), (7, .int x2)], [.ref 49, .ref 67], gh S a b sc37 ar37 lo, ex, 0, 0)) rfl ?_
    refine to_getR (v := (nI tp)) rfl rfl rfl rfl hc23_0 ?_
    refine to_n 11 (fr' := (103, [(0, .ref 49), (1, .int x1), (2, .int x2), (3, .int x3), (4, .int x4), (5, .int x5), (6, .int 7), (7, .int x2)], [.int ((x2 >>> (0 &&& 31)) &&& 255), .int (nI tp), .ref 67], gh S a b sc37 ar37 lo, ex, 0, 0)) rfl ?_
    refine to_iasR (i := tp) (h' := gh S a b sc37 (uA ar37 67 (upd (ar37 67) tp ((x2 >>> (0 &&& 31)) &&& 255))) lo) rfl rfl (by omega) (by omega) rfl ?_
    have hI38 := ia_67 (g := (upd (ar37 67) tp ((x2 >>> (0 &&& 31)) &&& 255))) hI37
    have hF38 := fr_a (c := 67) (g := (upd (ar37 67) tp ((x2 >>> (0 &&& 31)) &&& 255))) hF37 (by decide)
    refine to_n 2 (fr' := (106, [(0, .ref 49), (1, .int x1), (2, .int x2), (3, .int x3), (4, .int x4), (5, .int x5), (6, .int 7), (7, .int x2)], [.ref 49, .ref 49], gh S a b sc37 (uA ar37 67 (upd (ar37 67) tp ((x2 >>> (0 &&& 31)) &&& 255))) lo, ex, 0, 0)) rfl ?_
    refine to_getR (v := (nI tp)) rfl rfl rfl rfl hc23_0 ?_
    refine to_n 1 (fr' := (110, [(0, .ref 49), (1, .int x1), (2, .int x2), (3, .int x3), (4, .int x4), (5, .int x5), (6, .int 7), (7, .int x2)], [.int 1, .int (nI tp), .ref 49], gh S a b sc37 (uA ar37 67 (upd (ar37 67) tp ((x2 >>> (0 &&& 31)) &&& 255))) lo, ex, 0, 0)) rfl ?_
    refine to_addN (x := tp) (y := 1) rfl ?_
    refine to_putR (h' := gh S a b (upd sc37 4908 (nI (tp + 1))) (uA ar37 67 (upd (ar37 67) tp ((x2 >>> (0 &&& 31)) &&& 255))) lo) rfl rfl rfl (Nat.le_of_ble_eq_true rfl) rfl rfl ?_
    have hI39 := ip_4908 (v := (nI (tp + 1))) hI38 (rl_n (n := (tp + 1)) (by omega))
    have hF39 := fr_s (k := 4908) (v := (nI (tp + 1))) hF38 (by decide)
    refine to_n 2 (fr' := (23, [(0, .ref 49), (1, .int x1), (2, .int x2), (3, .int x3), (4, .int x4), (5, .int x5), (6, .int 8), (7, .int x2)], [], gh S a b (upd sc37 4908 (nI (tp + 1))) (uA ar37 67 (upd (ar37 67) tp ((x2 >>> (0 &&& 31)) &&& 255))) lo, ex, 0, 0)) rfl ?_
    refine to_lv (lv := [(0, .ref 49), (1, .int x1), (2, .int x2), (3, .int x3), (4, .int x4), (5, .int x5), (6, .int 8)]) rfl ⟨rfl, rfl, rfl, rfl, rfl, rfl, rfl, trivial⟩ ?_
    exact c23_8 (tp + 1) (upd sc37 4908 (nI (tp + 1))) (uA ar37 67 (upd (ar37 67) tp ((x2 >>> (0 &&& 31)) &&& 255))) (rfl) (by omega) (by omega) (fun t ht => (show (upd (ar37 67) tp ((x2 >>> (0 &&& 31)) &&& 255)) t = _ from ug_ne (by omega)).trans (hc23_3 t ht)) (al_up (P := fun m => (uA ar37 67 (upd (ar37 67) tp ((x2 >>> (0 &&& 31)) &&& 255))) 67 (t0 + m) = fz_ x1 x2 x3 x4 x5 m &&& 255) (fun m hm => (show (upd (ar37 67) tp ((x2 >>> (0 &&& 31)) &&& 255)) (t0 + m) = _ from ug_ne (by omega)).trans (hc23_4 m hm)) (show (upd (ar37 67) tp ((x2 >>> (0 &&& 31)) &&& 255)) (t0 + 7) = _ from by rw [← hc23_1]; exact ug_eq)) hI39 hF39
  have c23_6 : ∀ (tp : Nat) (sc40 : Nat → Int32) (ar40 : Nat → Nat → Int32), sc40 4908 = nI tp → tp = t0 + 6 → t0 + 20 ≤ 400 → (∀ t, t < t0 → ar40 67 t = ar 67 t) → (∀ m, m < 6 → ar40 67 (t0 + m) = fz_ x1 x2 x3 x4 x5 m &&& 255) → Iv S sc40 ar40 → Fr [4901, 4908] [67] sc ar sc40 ar40 → ag_To X d an_X10_feed (23, [(0, .ref 49), (1, .int x1), (2, .int x2), (3, .int x3), (4, .int x4), (5, .int x5), (6, .int 6)], [], gh S a b sc40 ar40 lo, ex, 0, 0) (qi S a b lo ex (fun x sc' ar' => Iv S sc' ar' ∧ Fr [4901, 4908] [67] sc ar sc' ar' ∧ (fe_P 4908 x sc sc' ∧ ((x = -1 ∧ ar' 67 = ar 67) ∨ ∃ s : Nat, sc 4908 = nI s ∧ s + 20 ≤ 400 ∧ (∀ t, t < s → ar' 67 t = ar 67 t) ∧ ∀ m, m < 20 → ar' 67 (s + m) = fz_ x1 x2 x3 x4 x5 m &&& 255)))) := by
    intro tp sc40 ar40 hc23_0 hc23_1 hc23_2 hc23_3 hc23_4 hI40 hF40
    refine to_n 13 (fr' := (79, [(0, .ref 49), (1, .int x1), (2, .int x2), (3, .int x3), (4, .int x4), (5, .int x5), (6, .int 6), (7, .int x2)], [.ref 49], gh S a b sc40 ar40 lo, ex, 0, 0)) rfl ?_
    refine to_get rfl rfl rfl rfl ?_
    refine to_n 1 (fr' := (83, [(0, .ref 49), (1, .int x1), (2, .int x2), (3, .int x3), (4, .int x4), (5, .int x5), (6, .int 6), (7, .int x2)], [.ref 49, .ref 67], gh S a b sc40 ar40 lo, ex, 0, 0)) rfl ?_
    refine to_getR (v := (nI tp)) rfl rfl rfl rfl hc23_0 ?_
    refine to_n 11 (fr' := (103, [(0, .ref 49), (1, .int x1), (2, .int x2), (3, .int x3), (4, .int x4), (5, .int x5), (6, .int 6), (7, .int x2)], [.int ((x2 >>> (8 &&& 31)) &&& 255), .int (nI tp), .ref 67], gh S a b sc40 ar40 lo, ex, 0, 0)) rfl ?_
    refine to_iasR (i := tp) (h' := gh S a b sc40 (uA ar40 67 (upd (ar40 67) tp ((x2 >>> (8 &&& 31)) &&& 255))) lo) rfl rfl (by omega) (by omega) rfl ?_
    have hI41 := ia_67 (g := (upd (ar40 67) tp ((x2 >>> (8 &&& 31)) &&& 255))) hI40
    have hF41 := fr_a (c := 67) (g := (upd (ar40 67) tp ((x2 >>> (8 &&& 31)) &&& 255))) hF40 (by decide)
    refine to_n 2 (fr' := (106, [(0, .ref 49), (1, .int x1), (2, .int x2), (3, .int x3), (4, .int x4), (5, .int x5), (6, .int 6), (7, .int x2)], [.ref 49, .ref 49], gh S a b sc40 (uA ar40 67 (upd (ar40 67) tp ((x2 >>> (8 &&& 31)) &&& 255))) lo, ex, 0, 0)) rfl ?_
    refine to_getR (v := (nI tp)) rfl rfl rfl rfl hc23_0 ?_
    refine to_n 1 (fr' := (110, [(0, .ref 49), (1, .int x1), (2, .int x2), (3, .int x3), (4, .int x4), (5, .int x5), (6, .int 6), (7, .int x2)], [.int 1, .int (nI tp), .ref 49], gh S a b sc40 (uA ar40 67 (upd (ar40 67) tp ((x2 >>> (8 &&& 31)) &&& 255))) lo, ex, 0, 0)) rfl ?_
    refine to_addN (x := tp) (y := 1) rfl ?_
    refine to_putR (h' := gh S a b (upd sc40 4908 (nI (tp + 1))) (uA ar40 67 (upd (ar40 67) tp ((x2 >>> (8 &&& 31)) &&& 255))) lo) rfl rfl rfl (Nat.le_of_ble_eq_true rfl) rfl rfl ?_
    have hI42 := ip_4908 (v := (nI (tp + 1))) hI41 (rl_n (n := (tp + 1)) (by omega))
    have hF42 := fr_s (k := 4908) (v := (nI (tp + 1))) hF41 (by decide)
    refine to_n 2 (fr' := (23, [(0, .ref 49), (1, .int x1), (2, .int x2), (3, .int x3), (4, .int x4), (5, .int x5), (6, .int 7), (7, .int x2)], [], gh S a b (upd sc40 4908 (nI (tp + 1))) (uA ar40 67 (upd (ar40 67) tp ((x2 >>> (8 &&& 31)) &&& 255))) lo, ex, 0, 0)) rfl ?_
    refine to_lv (lv := [(0, .ref 49), (1, .int x1), (2, .int x2), (3, .int x3), (4, .int x4), (5, .int x5), (6, .int 7)]) rfl ⟨rfl, rfl, rfl, rfl, rfl, rfl, rfl, trivial⟩ ?_
    exact c23_7 (tp + 1) (upd sc40 4908 (nI (tp + 1))) (uA ar40 67 (upd (ar40 67) tp ((x2 >>> (8 &&& 31)) &&& 255))) (rfl) (by omega) (by omega) (fun t ht => (show (upd (ar40 67) tp ((x2 >>> (8 &&& 31)) &&& 255)) t = _ from ug_ne (by omega)).trans (hc23_3 t ht)) (al_up (P := fun m => (uA ar40 67 (upd (ar40 67) tp ((x2 >>> (8 &&& 31)) &&& 255))) 67 (t0 + m) = fz_ x1 x2 x3 x4 x5 m &&& 255) (fun m hm => (show (upd (ar40 67) tp ((x2 >>> (8 &&& 31)) &&& 255)) (t0 + m) = _ from ug_ne (by omega)).trans (hc23_4 m hm)) (show (upd (ar40 67) tp ((x2 >>> (8 &&& 31)) &&& 255)) (t0 + 6) = _ from by rw [← hc23_1]; exact ug_eq)) hI42 hF42
  have c23_5 : ∀ (tp : Nat) (sc43 : Nat → Int32) (ar43 : Nat → Nat → Int32), sc43 4908 = nI tp → tp = t0 + 5 → t0 + 20 ≤ 400 → (∀ t, t < t0 → ar43 67 t = ar 67 t) → (∀ m, m < 5 → ar43 67 (t0 + m) = fz_ x1 x2 x3 x4 x5 m &&& 255) → Iv S sc43 ar43 → Fr [4901, 4908] [67] sc ar sc43 ar43 → ag_To X d an_X10_feed (23, [(0, .ref 49), (1, .int x1), (2, .int x2), (3, .int x3), (4, .int x4), (5, .int x5), (6, .int 5)], [], gh S a b sc43 ar43 lo, ex, 0, 0) (qi S a b lo ex (fun x sc' ar' => Iv S sc' ar' ∧ Fr [4901, 4908] [67] sc ar sc' ar' ∧ (fe_P 4908 x sc sc' ∧ ((x = -1 ∧ ar' 67 = ar 67) ∨ ∃ s : Nat, sc 4908 = nI s ∧ s + 20 ≤ 400 ∧ (∀ t, t < s → ar' 67 t = ar 67 t) ∧ ∀ m, m < 20 → ar' 67 (s + m) = fz_ x1 x2 x3 x4 x5 m &&& 255)))) := by
    intro tp sc43 ar43 hc23_0 hc23_1 hc23_2 hc23_3 hc23_4 hI43 hF43
    refine to_n 13 (fr' := (79, [(0, .ref 49), (1, .int x1), (2, .int x2), (3, .int x3), (4, .int x4), (5, .int x5), (6, .int 5), (7, .int x2)], [.ref 49], gh S a b sc43 ar43 lo, ex, 0, 0)) rfl ?_
    refine to_get rfl rfl rfl rfl ?_
    refine to_n 1 (fr' := (83, [(0, .ref 49), (1, .int x1), (2, .int x2), (3, .int x3), (4, .int x4), (5, .int x5), (6, .int 5), (7, .int x2)], [.ref 49, .ref 67], gh S a b sc43 ar43 lo, ex, 0, 0)) rfl ?_
    refine to_getR (v := (nI tp)) rfl rfl rfl rfl hc23_0 ?_
    refine to_n 11 (fr' := (103, [(0, .ref 49), (1, .int x1), (2, .int x2), (3, .int x3), (4, .int x4), (5, .int x5), (6, .int 5), (7, .int x2)], [.int ((x2 >>> (16 &&& 31)) &&& 255), .int (nI tp), .ref 67], gh S a b sc43 ar43 lo, ex, 0, 0)) rfl ?_
    refine to_iasR (i := tp) (h' := gh S a b sc43 (uA ar43 67 (upd (ar43 67) tp ((x2 >>> (16 &&& 31)) &&& 255))) lo) rfl rfl (by omega) (by omega) rfl ?_
    have hI44 := ia_67 (g := (upd (ar43 67) tp ((x2 >>> (16 &&& 31)) &&& 255))) hI43
    have hF44 := fr_a (c := 67) (g := (upd (ar43 67) tp ((x2 >>> (16 &&& 31)) &&& 255))) hF43 (by decide)
    refine to_n 2 (fr' := (106, [(0, .ref 49), (1, .int x1), (2, .int x2), (3, .int x3), (4, .int x4), (5, .int x5), (6, .int 5), (7, .int x2)], [.ref 49, .ref 49], gh S a b sc43 (uA ar43 67 (upd (ar43 67) tp ((x2 >>> (16 &&& 31)) &&& 255))) lo, ex, 0, 0)) rfl ?_
    refine to_getR (v := (nI tp)) rfl rfl rfl rfl hc23_0 ?_
    refine to_n 1 (fr' := (110, [(0, .ref 49), (1, .int x1), (2, .int x2), (3, .int x3), (4, .int x4), (5, .int x5), (6, .int 5), (7, .int x2)], [.int 1, .int (nI tp), .ref 49], gh S a b sc43 (uA ar43 67 (upd (ar43 67) tp ((x2 >>> (16 &&& 31)) &&& 255))) lo, ex, 0, 0)) rfl ?_
    refine to_addN (x := tp) (y := 1) rfl ?_
    refine to_putR (h' := gh S a b (upd sc43 4908 (nI (tp + 1))) (uA ar43 67 (upd (ar43 67) tp ((x2 >>> (16 &&& 31)) &&& 255))) lo) rfl rfl rfl (Nat.le_of_ble_eq_true rfl) rfl rfl ?_
    have hI45 := ip_4908 (v := (nI (tp + 1))) hI44 (rl_n (n := (tp + 1)) (by omega))
    have hF45 := fr_s (k := 4908) (v := (nI (tp + 1))) hF44 (by decide)
    refine to_n 2 (fr' := (23, [(0, .ref 49), (1, .int x1), (2, .int x2), (3, .int x3), (4, .int x4), (5, .int x5), (6, .int 6), (7, .int x2)], [], gh S a b (upd sc43 4908 (nI (tp + 1))) (uA ar43 67 (upd (ar43 67) tp ((x2 >>> (16 &&& 31)) &&& 255))) lo, ex, 0, 0)) rfl ?_
    refine to_lv (lv := [(0, .ref 49), (1, .int x1), (2, .int x2), (3, .int x3), (4, .int x4), (5, .int x5), (6, .int 6)]) rfl ⟨rfl, rfl, rfl, rfl, rfl, rfl, rfl, trivial⟩ ?_
    exact c23_6 (tp + 1) (upd sc43 4908 (nI (tp + 1))) (uA ar43 67 (upd (ar43 67) tp ((x2 >>> (16 &&& 31)) &&& 255))) (rfl) (by omega) (by omega) (fun t ht => (show (upd (ar43 67) tp ((x2 >>> (16 &&& 31)) &&& 255)) t = _ from ug_ne (by omega)).trans (hc23_3 t ht)) (al_up (P := fun m => (uA ar43 67 (upd (ar43 67) tp ((x2 >>> (16 &&& 31)) &&& 255))) 67 (t0 + m) = fz_ x1 x2 x3 x4 x5 m &&& 255) (fun m hm => (show (upd (ar43 67) tp ((x2 >>> (16 &&& 31)) &&& 255)) (t0 + m) = _ from ug_ne (by omega)).trans (hc23_4 m hm)) (show (upd (ar43 67) tp ((x2 >>> (16 &&& 31)) &&& 255)) (t0 + 5) = _ from by rw [← hc23_1]; exact ug_eq)) hI45 hF45
  have c23_4 : ∀ (tp : Nat) (sc46 : Nat → Int32) (ar46 : Nat → Nat → Int32), sc46 4908 = nI tp → tp = t0 + 4 → t0 + 20 ≤ 400 → (∀ t, t < t0 → ar46 67 t = ar 67 t) → (∀ m, m < 4 → ar46 67 (t0 + m) = fz_ x1 x2 x3 x4 x5 m &&& 255) → Iv S sc46 ar46 → Fr [4901, 4908] [67] sc ar sc46 ar46 → ag_To X d an_X10_feed (23, [(0, .ref 49), (1, .int x1), (2, .int x2), (3, .int x3), (4, .int x4), (5, .int x5), (6, .int 4)], [], gh S a b sc46 ar46 lo, ex, 0, 0) (qi S a b lo ex (fun x sc' ar' => Iv S sc' ar' ∧ Fr [4901, 4908] [67] sc ar sc' ar' ∧ (fe_P 4908 x sc sc' ∧ ((x = -1 ∧ ar' 67 = ar 67) ∨ ∃ s : Nat, sc 4908 = nI s ∧ s + 20 ≤ 400 ∧ (∀ t, t < s → ar' 67 t = ar 67 t) ∧ ∀ m, m < 20 → ar' 67 (s + m) = fz_ x1 x2 x3 x4 x5 m &&& 255)))) := by
    intro tp sc46 ar46 hc23_0 hc23_1 hc23_2 hc23_3 hc23_4 hI46 hF46
    refine to_n 13 (fr' := (79, [(0, .ref 49), (1, .int x1), (2, .int x2), (3, .int x3), (4, .int x4), (5, .int x5), (6, .int 4), (7, .int x2)], [.ref 49], gh S a b sc46 ar46 lo, ex, 0, 0)) rfl ?_
    refine to_get rfl rfl rfl rfl ?_
    refine to_n 1 (fr' := (83, [(0, .ref 49), (1, .int x1), (2, .int x2), (3, .int x3), (4, .int x4), (5, .int x5), (6, .int 4), (7, .int x2)], [.ref 49, .ref 67], gh S a b sc46 ar46 lo, ex, 0, 0)) rfl ?_
    refine to_getR (v := (nI tp)) rfl rfl rfl rfl hc23_0 ?_
    refine to_n 11 (fr' := (103, [(0, .ref 49), (1, .int x1), (2, .int x2), (3, .int x3), (4, .int x4), (5, .int x5), (6, .int 4), (7, .int x2)], [.int ((x2 >>> (24 &&& 31)) &&& 255), .int (nI tp), .ref 67], gh S a b sc46 ar46 lo, ex, 0, 0)) rfl ?_
    refine to_iasR (i := tp) (h' := gh S a b sc46 (uA ar46 67 (upd (ar46 67) tp ((x2 >>> (24 &&& 31)) &&& 255))) lo) rfl rfl (by omega) (by omega) rfl ?_
    have hI47 := ia_67 (g := (upd (ar46 67) tp ((x2 >>> (24 &&& 31)) &&& 255))) hI46
    have hF47 := fr_a (c := 67) (g := (upd (ar46 67) tp ((x2 >>> (24 &&& 31)) &&& 255))) hF46 (by decide)
    refine to_n 2 (fr' := (106, [(0, .ref 49), (1, .int x1), (2, .int x2), (3, .int x3), (4, .int x4), (5, .int x5), (6, .int 4), (7, .int x2)], [.ref 49, .ref 49], gh S a b sc46 (uA ar46 67 (upd (ar46 67) tp ((x2 >>> (24 &&& 31)) &&& 255))) lo, ex, 0, 0)) rfl ?_
    refine to_getR (v := (nI tp)) rfl rfl rfl rfl hc23_0 ?_
    refine to_n 1 (fr' := (110, [(0, .ref 49), (1, .int x1), (2, .int x2), (3, .int x3), (4, .int x4), (5, .int x5), (6, .int 4), (7, .int x2)], [.int 1, .int (nI tp), .ref 49], gh S a b sc46 (uA ar46 67 (upd (ar46 67) tp ((x2 >>> (24 &&& 31)) &&& 255))) lo, ex, 0, 0)) rfl ?_
    refine to_addN (x := tp) (y := 1) rfl ?_
    refine to_putR (h' := gh S a b (upd sc46 4908 (nI (tp + 1))) (uA ar46 67 (upd (ar46 67) tp ((x2 >>> (24 &&& 31)) &&& 255))) lo) rfl rfl rfl (Nat.le_of_ble_eq_true rfl) rfl rfl ?_
    have hI48 := ip_4908 (v := (nI (tp + 1))) hI47 (rl_n (n := (tp + 1)) (by omega))
    have hF48 := fr_s (k := 4908) (v := (nI (tp + 1))) hF47 (by decide)
    refine to_n 2 (fr' := (23, [(0, .ref 49), (1, .int x1), (2, .int x2), (3, .int x3), (4, .int x4), (5, .int x5), (6, .int 5), (7, .int x2)], [], gh S a b (upd sc46 4908 (nI (tp + 1))) (uA ar46 67 (upd (ar46 67) tp ((x2 >>> (24 &&& 31)) &&& 255))) lo, ex, 0, 0)) rfl ?_
    refine to_lv (lv := [(0, .ref 49), (1, .int x1), (2, .int x2), (3, .int x3), (4, .int x4), (5, .int x5), (6, .int 5)]) rfl ⟨rfl, rfl, rfl, rfl, rfl, rfl, rfl, trivial⟩ ?_
    exact c23_5 (tp + 1) (upd sc46 4908 (nI (tp + 1))) (uA ar46 67 (upd (ar46 67) tp ((x2 >>> (24 &&& 31)) &&& 255))) (rfl) (by omega) (by omega) (fun t ht => (show (upd (ar46 67) tp ((x2 >>> (24 &&& 31)) &&& 255)) t = _ from ug_ne (by omega)).trans (hc23_3 t ht)) (al_up (P := fun m => (uA ar46 67 (upd (ar46 67) tp ((x2 >>> (24 &&& 31)) &&& 255))) 67 (t0 + m) = fz_ x1 x2 x3 x4 x5 m &&& 255) (fun m hm => (show (upd (ar46 67) tp ((x2 >>> (24 &&& 31)) &&& 255)) (t0 + m) = _ from ug_ne (by omega)).trans (hc23_4 m hm)) (show (upd (ar46 67) tp ((x2 >>> (24 &&& 31)) &&& 255)) (t0 + 4) = _ from by rw [← hc23_1]; exact ug_eq)) hI48 hF48
  have c23_3 : ∀ (tp : Nat) (sc49 : Nat → Int32) (ar49 : Nat → Nat → Int32), sc49 4908 = nI tp → tp = t0 + 3 → t0 + 20 ≤ 400 → (∀ t, t < t0 → ar49 67 t = ar 67 t) → (∀ m, m < 3 → ar49 67 (t0 + m) = fz_ x1 x2 x3 x4 x5 m &&& 255) → Iv S sc49 ar49 → Fr [4901, 4908] [67] sc ar sc49 ar49 → ag_To X d an_X10_feed (23, [(0, .ref 49), (1, .int x1), (2, .int x2), (3, .int x3), (4, .int x4), (5, .int x5), (6, .int 3)], [], gh S a b sc49 ar49 lo, ex, 0, 0) (qi S a b lo ex (fun x sc' ar' => Iv S sc' ar' ∧ Fr [4901, 4908] [67] sc ar sc' ar' ∧ (fe_P 4908 x sc sc' ∧ ((x = -1 ∧ ar' 67 = ar 67) ∨ ∃ s : Nat, sc 4908 = nI s ∧ s + 20 ≤ 400 ∧ (∀ t, t < s → ar' 67 t = ar 67 t) ∧ ∀ m, m < 20 → ar' 67 (s + m) = fz_ x1 x2 x3 x4 x5 m &&& 255)))) := by
    intro tp sc49 ar49 hc23_0 hc23_1 hc23_2 hc23_3 hc23_4 hI49 hF49
    refine to_n 10 (fr' := (79, [(0, .ref 49), (1, .int x1), (2, .int x2), (3, .int x3), (4, .int x4), (5, .int x5), (6, .int 3), (7, .int x1)], [.ref 49], gh S a b sc49 ar49 lo, ex, 0, 0)) rfl ?_
    refine to_get rfl rfl rfl rfl ?_
    refine to_n 1 (fr' := (83, [(0, .ref 49), (1, .int x1), (2, .int x2), (3, .int x3), (4, .int x4), (5, .int x5), (6, .int 3), (7, .int x1)], [.ref 49, .ref 67], gh S a b sc49 ar49 lo, ex, 0, 0)) rfl ?_
    refine to_getR (v := (nI tp)) rfl rfl rfl rfl hc23_0 ?_
    refine to_n 11 (fr' := (103, [(0, .ref 49), (1, .int x1), (2, .int x2), (3, .int x3), (4, .int x4), (5, .int x5), (6, .int 3), (7, .int x1)], [.int ((x1 >>> (0 &&& 31)) &&& 255), .int (nI tp), .ref 67], gh S a b sc49 ar49 lo, ex, 0, 0)) rfl ?_
    refine to_iasR (i := tp) (h' := gh S a b sc49 (uA ar49 67 (upd (ar49 67) tp ((x1 >>> (0 &&& 31)) &&& 255))) lo) rfl rfl (by omega) (by omega) rfl ?_
    have hI50 := ia_67 (g := (upd (ar49 67) tp ((x1 >>> (0 &&& 31)) &&& 255))) hI49
    have hF50 := fr_a (c := 67) (g := (upd (ar49 67) tp ((x1 >>> (0 &&& 31)) &&& 255))) hF49 (by decide)
    refine to_n 2 (fr' := (106, [(0, .ref 49), (1, .int x1), (2, .int x2), (3, .int x3), (4, .int x4), (5, .int x5), (6, .int 3), (7, .int x1)], [.ref 49, .ref 49], gh S a b sc49 (uA ar49 67 (upd (ar49 67) tp ((x1 >>> (0 &&& 31)) &&& 255))) lo, ex, 0, 0)) rfl ?_
    refine to_getR (v := (nI tp)) rfl rfl rfl rfl hc23_0 ?_
    refine to_n 1 (fr' := (110, [(0, .ref 49), (1, .int x1), (2, .int x2), (3, .int x3), (4, .int x4), (5, .int x5), (6, .int 3), (7, .int x1)], [.int 1, .int (nI tp), .ref 49], gh S a b sc49 (uA ar49 67 (upd (ar49 67) tp ((x1 >>> (0 &&& 31)) &&& 255))) lo, ex, 0, 0)) rfl ?_
    refine to_addN (x := tp) (y := 1) rfl ?_
    refine to_putR (h' := gh S a b (upd sc49 4908 (nI (tp + 1))) (uA ar49 67 (upd (ar49 67) tp ((x1 >>> (0 &&& 31)) &&& 255))) lo) rfl rfl rfl (Nat.le_of_ble_eq_true rfl) rfl rfl ?_
    have hI51 := ip_4908 (v := (nI (tp + 1))) hI50 (rl_n (n := (tp + 1)) (by omega))
    have hF51 := fr_s (k := 4908) (v := (nI (tp + 1))) hF50 (by decide)
    refine to_n 2 (fr' := (23, [(0, .ref 49), (1, .int x1), (2, .int x2), (3, .int x3), (4, .int x4), (5, .int x5), (6, .int 4), (7, .int x1)], [], gh S a b (upd sc49 4908 (nI (tp + 1))) (uA ar49 67 (upd (ar49 67) tp ((x1 >>> (0 &&& 31)) &&& 255))) lo, ex, 0, 0)) rfl ?_
    refine to_lv (lv := [(0, .ref 49), (1, .int x1), (2, .int x2), (3, .int x3), (4, .int x4), (5, .int x5), (6, .int 4)]) rfl ⟨rfl, rfl, rfl, rfl, rfl, rfl, rfl, trivial⟩ ?_
    exact c23_4 (tp + 1) (upd sc49 4908 (nI (tp + 1))) (uA ar49 67 (upd (ar49 67) tp ((x1 >>> (0 &&& 31)) &&& 255))) (rfl) (by omega) (by omega) (fun t ht => (show (upd (ar49 67) tp ((x1 >>> (0 &&& 31)) &&& 255)) t = _ from ug_ne (by omega)).trans (hc23_3 t ht)) (al_up (P := fun m => (uA ar49 67 (upd (ar49 67) tp ((x1 >>> (0 &&& 31)) &&& 255))) 67 (t0 + m) = fz_ x1 x2 x3 x4 x5 m &&& 255) (fun m hm => (show (upd (ar49 67) tp ((x1 >>> (0 &&& 31)) &&& 255)) (t0 + m) = _ from ug_ne (by omega)).trans (hc23_4 m hm)) (show (upd (ar49 67) tp ((x1 >>> (0 &&& 31)) &&& 255)) (t0 + 3) = _ from by rw [← hc23_1]; exact ug_eq)) hI51 hF51
  have c23_2 : ∀ (tp : Nat) (sc52 : Nat → Int32) (ar52 : Nat → Nat → Int32), sc52 4908 = nI tp → tp = t0 + 2 → t0 + 20 ≤ 400 → (∀ t, t < t0 → ar52 67 t = ar 67 t) → (∀ m, m < 2 → ar52 67 (t0 + m) = fz_ x1 x2 x3 x4 x5 m &&& 255) → Iv S sc52 ar52 → Fr [4901, 4908] [67] sc ar sc52 ar52 → ag_To X d an_X10_feed (23, [(0, .ref 49), (1, .int x1), (2, .int x2), (3, .int x3), (4, .int x4), (5, .int x5), (6, .int 2)], [], gh S a b sc52 ar52 lo, ex, 0, 0) (qi S a b lo ex (fun x sc' ar' => Iv S sc' ar' ∧ Fr [4901, 4908] [67] sc ar sc' ar' ∧ (fe_P 4908 x sc sc' ∧ ((x = -1 ∧ ar' 67 = ar 67) ∨ ∃ s : Nat, sc 4908 = nI s ∧ s + 20 ≤ 400 ∧ (∀ t, t < s → ar' 67 t = ar 67 t) ∧ ∀ m, m < 20 → ar' 67 (s + m) = fz_ x1 x2 x3 x4 x5 m &&& 255)))) := by
    intro tp sc52 ar52 hc23_0 hc23_1 hc23_2 hc23_3 hc23_4 hI52 hF52
    refine to_n 10 (fr' := (79, [(0, .ref 49), (1, .int x1), (2, .int x2), (3, .int x3), (4, .int x4), (5, .int x5), (6, .int 2), (7, .int x1)], [.ref 49], gh S a b sc52 ar52 lo, ex, 0, 0)) rfl ?_
    refine to_get rfl rfl rfl rfl ?_
    refine to_n 1 (fr' := (83, [(0, .ref 49), (1, .int x1), (2, .int x2), (3, .int x3), (4, .int x4), (5, .int x5), (6, .int 2), (7, .int x1)], [.ref 49, .ref 67], gh S a b sc52 ar52 lo, ex, 0, 0)) rfl ?_
    refine to_getR (v := (nI tp)) rfl rfl rfl rfl hc23_0 ?_
    refine to_n 11 (fr' := (103, [(0, .ref 49), (1, .int x1), (2, .int x2), (3, .int x3), (4, .int x4), (5, .int x5), (6, .int 2), (7, .int x1)], [.int ((x1 >>> (8 &&& 31)) &&& 255), .int (nI tp), .ref 67], gh S a b sc52 ar52 lo, ex, 0, 0)) rfl ?_
    refine to_iasR (i := tp) (h' := gh S a b sc52 (uA ar52 67 (upd (ar52 67) tp ((x1 >>> (8 &&& 31)) &&& 255))) lo) rfl rfl (by omega) (by omega) rfl ?_
    have hI53 := ia_67 (g := (upd (ar52 67) tp ((x1 >>> (8 &&& 31)) &&& 255))) hI52
    have hF53 := fr_a (c := 67) (g := (upd (ar52 67) tp ((x1 >>> (8 &&& 31)) &&& 255))) hF52 (by decide)
    refine to_n 2 (fr' := (106, [(0, .ref 49), (1, .int x1), (2, .int x2), (3, .int x3), (4, .int x4), (5, .int x5), (6, .int 2), (7, .int x1)], [.ref 49, .ref 49], gh S a b sc52 (uA ar52 67 (upd (ar52 67) tp ((x1 >>> (8 &&& 31)) &&& 255))) lo, ex, 0, 0)) rfl ?_
    refine to_getR (v := (nI tp)) rfl rfl rfl rfl hc23_0 ?_
    refine to_n 1 (fr' := (110, [(0, .ref 49), (1, .int x1), (2, .int x2), (3, .int x3), (4, .int x4), (5, .int x5), (6, .int 2), (7, .int x1)], [.int 1, .int (nI tp), .ref 49], gh S a b sc52 (uA ar52 67 (upd (ar52 67) tp ((x1 >>> (8 &&& 31)) &&& 255))) lo, ex, 0, 0)) rfl ?_
    refine to_addN (x := tp) (y := 1) rfl ?_
    refine to_putR (h' := gh S a b (upd sc52 4908 (nI (tp + 1))) (uA ar52 67 (upd (ar52 67) tp ((x1 >>> (8 &&& 31)) &&& 255))) lo) rfl rfl rfl (Nat.le_of_ble_eq_true rfl) rfl rfl ?_
    have hI54 := ip_4908 (v := (nI (tp + 1))) hI53 (rl_n (n := (tp + 1)) (by omega))
    have hF54 := fr_s (k := 4908) (v := (nI (tp + 1))) hF53 (by decide)
    refine to_n 2 (fr' := (23, [(0, .ref 49), (1, .int x1), (2, .int x2), (3, .int x3), (4, .int x4), (5, .int x5), (6, .int 3), (7, .int x1)], [], gh S a b (upd sc52 4908 (nI (tp + 1))) (uA ar52 67 (upd (ar52 67) tp ((x1 >>> (8 &&& 31)) &&& 255))) lo, ex, 0, 0)) rfl ?_
    refine to_lv (lv := [(0, .ref 49), (1, .int x1), (2, .int x2), (3, .int x3), (4, .int x4), (5, .int x5), (6, .int 3)]) rfl ⟨rfl, rfl, rfl, rfl, rfl, rfl, rfl, trivial⟩ ?_
    exact c23_3 (tp + 1) (upd sc52 4908 (nI (tp + 1))) (uA ar52 67 (upd (ar52 67) tp ((x1 >>> (8 &&& 31)) &&& 255))) (rfl) (by omega) (by omega) (fun t ht => (show (upd (ar52 67) tp ((x1 >>> (8 &&& 31)) &&& 255)) t = _ from ug_ne (by omega)).trans (hc23_3 t ht)) (al_up (P := fun m => (uA ar52 67 (upd (ar52 67) tp ((x1 >>> (8 &&& 31)) &&& 255))) 67 (t0 + m) = fz_ x1 x2 x3 x4 x5 m &&& 255) (fun m hm => (show (upd (ar52 67) tp ((x1 >>> (8 &&& 31)) &&& 255)) (t0 + m) = _ from ug_ne (by omega)).trans (hc23_4 m hm)) (show (upd (ar52 67) tp ((x1 >>> (8 &&& 31)) &&& 255)) (t0 + 2) = _ from by rw [← hc23_1]; exact ug_eq)) hI54 hF54
  have c23_1 : ∀ (tp : Nat) (sc55 : Nat → Int32) (ar55 : Nat → Nat → Int32), sc55 4908 = nI tp → tp = t0 + 1 → t0 + 20 ≤ 400 → (∀ t, t < t0 → ar55 67 t = ar 67 t) → (∀ m, m < 1 → ar55 67 (t0 + m) = fz_ x1 x2 x3 x4 x5 m &&& 255) → Iv S sc55 ar55 → Fr [4901, 4908] [67] sc ar sc55 ar55 → ag_To X d an_X10_feed (23, [(0, .ref 49), (1, .int x1), (2, .int x2), (3, .int x3), (4, .int x4), (5, .int x5), (6, .int 1)], [], gh S a b sc55 ar55 lo, ex, 0, 0) (qi S a b lo ex (fun x sc' ar' => Iv S sc' ar' ∧ Fr [4901, 4908] [67] sc ar sc' ar' ∧ (fe_P 4908 x sc sc' ∧ ((x = -1 ∧ ar' 67 = ar 67) ∨ ∃ s : Nat, sc 4908 = nI s ∧ s + 20 ≤ 400 ∧ (∀ t, t < s → ar' 67 t = ar 67 t) ∧ ∀ m, m < 20 → ar' 67 (s + m) = fz_ x1 x2 x3 x4 x5 m &&& 255)))) := by
    intro tp sc55 ar55 hc23_0 hc23_1 hc23_2 hc23_3 hc23_4 hI55 hF55
    refine to_n 10 (fr' := (79, [(0, .ref 49), (1, .int x1), (2, .int x2), (3, .int x3), (4, .int x4), (5, .int x5), (6, .int 1), (7, .int x1)], [.ref 49], gh S a b sc55 ar55 lo, ex, 0, 0)) rfl ?_
    refine to_get rfl rfl rfl rfl ?_
    refine to_n 1 (fr' := (83, [(0, .ref 49), (1, .int x1), (2, .int x2), (3, .int x3), (4, .int x4), (5, .int x5), (6, .int 1), (7, .int x1)], [.ref 49, .ref 67], gh S a b sc55 ar55 lo, ex, 0, 0)) rfl ?_
    refine to_getR (v := (nI tp)) rfl rfl rfl rfl hc23_0 ?_
    refine to_n 11 (fr' := (103, [(0, .ref 49), (1, .int x1), (2, .int x2), (3, .int x3), (4, .int x4), (5, .int x5), (6, .int 1), (7, .int x1)], [.int ((x1 >>> (16 &&& 31)) &&& 255), .int (nI tp), .ref 67], gh S a b sc55 ar55 lo, ex, 0, 0)) rfl ?_
    refine to_iasR (i := tp) (h' := gh S a b sc55 (uA ar55 67 (upd (ar55 67) tp ((x1 >>> (16 &&& 31)) &&& 255))) lo) rfl rfl (by omega) (by omega) rfl ?_
    have hI56 := ia_67 (g := (upd (ar55 67) tp ((x1 >>> (16 &&& 31)) &&& 255))) hI55
    have hF56 := fr_a (c := 67) (g := (upd (ar55 67) tp ((x1 >>> (16 &&& 31)) &&& 255))) hF55 (by decide)
    refine to_n 2 (fr' := (106, [(0, .ref 49), (1, .int x1), (2, .int x2), (3, .int x3), (4, .int x4), (5, .int x5), (6, .int 1), (7, .int x1)], [.ref 49, .ref 49], gh S a b sc55 (uA ar55 67 (upd (ar55 67) tp ((x1 >>> (16 &&& 31)) &&& 255))) lo, ex, 0, 0)) rfl ?_
    refine to_getR (v := (nI tp)) rfl rfl rfl rfl hc23_0 ?_
    refine to_n 1 (fr' := (110, [(0, .ref 49), (1, .int x1), (2, .int x2), (3, .int x3), (4, .int x4), (5, .int x5), (6, .int 1), (7, .int x1)], [.int 1, .int (nI tp), .ref 49], gh S a b sc55 (uA ar55 67 (upd (ar55 67) tp ((x1 >>> (16 &&& 31)) &&& 255))) lo, ex, 0, 0)) rfl ?_
    refine to_addN (x := tp) (y := 1) rfl ?_
    refine to_putR (h' := gh S a b (upd sc55 4908 (nI (tp + 1))) (uA ar55 67 (upd (ar55 67) tp ((x1 >>> (16 &&& 31)) &&& 255))) lo) rfl rfl rfl (Nat.le_of_ble_eq_true rfl) rfl rfl ?_
    have hI57 := ip_4908 (v := (nI (tp + 1))) hI56 (rl_n (n := (tp + 1)) (by omega))
    have hF57 := fr_s (k := 4908) (v := (nI (tp + 1))) hF56 (by decide)
    refine to_n 2 (fr' := (23, [(0, .ref 49), (1, .int x1), (2, .int x2), (3, .int x3), (4, .int x4), (5, .int x5), (6, .int 2), (7, .int x1)], [], gh S a b (upd sc55 4908 (nI (tp + 1))) (uA ar55 67 (upd (ar55 67) tp ((x1 >>> (16 &&& 31)) &&& 255))) lo, ex, 0, 0)) rfl ?_
    refine to_lv (lv := [(0, .ref 49), (1, .int x1), (2, .int x2), (3, .int x3), (4, .int x4), (5, .int x5), (6, .int 2)]) rfl ⟨rfl, rfl, rfl, rfl, rfl, rfl, rfl, trivial⟩ ?_
    exact c23_2 (tp + 1) (upd sc55 4908 (nI (tp + 1))) (uA ar55 67 (upd (ar55 67) tp ((x1 >>> (16 &&& 31)) &&& 255))) (rfl) (by omega) (by omega) (fun t ht => (show (upd (ar55 67) tp ((x1 >>> (16 &&& 31)) &&& 255)) t = _ from ug_ne (by omega)).trans (hc23_3 t ht)) (al_up (P := fun m => (uA ar55 67 (upd (ar55 67) tp ((x1 >>> (16 &&& 31)) &&& 255))) 67 (t0 + m) = fz_ x1 x2 x3 x4 x5 m &&& 255) (fun m hm => (show (upd (ar55 67) tp ((x1 >>> (16 &&& 31)) &&& 255)) (t0 + m) = _ from ug_ne (by omega)).trans (hc23_4 m hm)) (show (upd (ar55 67) tp ((x1 >>> (16 &&& 31)) &&& 255)) (t0 + 1) = _ from by rw [← hc23_1]; exact ug_eq)) hI57 hF57
  refine to_n 2 (fr' := (2, [(0, .ref 49), (1, .int x1), (2, .int x2), (3, .int x3), (4, .int x4), (5, .int x5)], [.int 0, .ref 49], gh S a b sc ar lo, ex, 0, 0)) rfl ?_
  refine to_putR (h' := gh S a b (upd sc 4901 0) ar lo) rfl rfl rfl (Nat.le_of_ble_eq_true rfl) rfl rfl ?_
  have hI58 := ip_4901 (v := 0) hI 
  have hF58 := fr_s (k := 4901) (v := 0) hF (by decide)
  refine to_n 1 (fr' := (6, [(0, .ref 49), (1, .int x1), (2, .int x2), (3, .int x3), (4, .int x4), (5, .int x5)], [.ref 49], gh S a b (upd sc 4901 0) ar lo, ex, 0, 0)) rfl ?_
  refine to_getR (v := (nI t0)) rfl rfl rfl rfl et0 ?_
  refine to_n 1 (fr' := (11, [(0, .ref 49), (1, .int x1), (2, .int x2), (3, .int x3), (4, .int x4), (5, .int x5)], [.int 20, .int (nI t0)], gh S a b (upd sc 4901 0) ar lo, ex, 0, 0)) rfl ?_
  refine to_addN (x := t0) (y := 20) rfl ?_
  refine to_n 1 (fr' := (15, [(0, .ref 49), (1, .int x1), (2, .int x2), (3, .int x3), (4, .int x4), (5, .int x5)], [.int 400, .int (nI (t0 + 20))], gh S a b (upd sc 4901 0) ar lo, ex, 0, 0)) rfl ?_
  refine to_nc_le (t := 20) (x := (t0 + 20)) (y := 400) rfl (by omega) (by omega) (fun q59 => ?_) (fun q59 => ?_)
  · refine to_n 12 (fr' := (79, [(0, .ref 49), (1, .int x1), (2, .int x2), (3, .int x3), (4, .int x4), (5, .int x5), (6, .int 0), (7, .int x1)], [.ref 49], gh S a b (upd sc 4901 0) ar lo, ex, 0, 0)) rfl ?_
    refine to_get rfl rfl rfl rfl ?_
    refine to_n 1 (fr' := (83, [(0, .ref 49), (1, .int x1), (2, .int x2), (3, .int x3), (4, .int x4), (5, .int x5), (6, .int 0), (7, .int x1)], [.ref 49, .ref 67], gh S a b (upd sc 4901 0) ar lo, ex, 0, 0)) rfl ?_
    refine to_getR (v := (nI t0)) rfl rfl rfl rfl et0 ?_
    refine to_n 11 (fr' := (103, [(0, .ref 49), (1, .int x1), (2, .int x2), (3, .int x3), (4, .int x4), (5, .int x5), (6, .int 0), (7, .int x1)], [.int ((x1 >>> (24 &&& 31)) &&& 255), .int (nI t0), .ref 67], gh S a b (upd sc 4901 0) ar lo, ex, 0, 0)) rfl ?_
    refine to_iasR (i := t0) (h' := gh S a b (upd sc 4901 0) (uA ar 67 (upd (ar 67) t0 ((x1 >>> (24 &&& 31)) &&& 255))) lo) rfl rfl (by omega) (by omega) rfl ?_
    have hI60 := ia_67 (g := (upd (ar 67) t0 ((x1 >>> (24 &&& 31)) &&& 255))) hI58
    have hF60 := fr_a (c := 67) (g := (upd (ar 67) t0 ((x1 >>> (24 &&& 31)) &&& 255))) hF58 (by decide)
    refine to_n 2 (fr' := (106, [(0, .ref 49), (1, .int x1), (2, .int x2), (3, .int x3), (4, .int x4), (5, .int x5), (6, .int 0), (7, .int x1)], [.ref 49, .ref 49], gh S a b (upd sc 4901 0) (uA ar 67 (upd (ar 67) t0 ((x1 >>> (24 &&& 31)) &&& 255))) lo, ex, 0, 0)) rfl ?_
    refine to_getR (v := (nI t0)) rfl rfl rfl rfl et0 ?_
    refine to_n 1 (fr' := (110, [(0, .ref 49), (1, .int x1), (2, .int x2), (3, .int x3), (4, .int x4), (5, .int x5), (6, .int 0), (7, .int x1)], [.int 1, .int (nI t0), .ref 49], gh S a b (upd sc 4901 0) (uA ar 67 (upd (ar 67) t0 ((x1 >>> (24 &&& 31)) &&& 255))) lo, ex, 0, 0)) rfl ?_
    refine to_addN (x := t0) (y := 1) rfl ?_
    refine to_putR (h' := gh S a b (upd (upd sc 4901 0) 4908 (nI (t0 + 1))) (uA ar 67 (upd (ar 67) t0 ((x1 >>> (24 &&& 31)) &&& 255))) lo) rfl rfl rfl (Nat.le_of_ble_eq_true rfl) rfl rfl ?_
    have hI61 := ip_4908 (v := (nI (t0 + 1))) hI60 (rl_n (n := (t0 + 1)) (by omega))
    have hF61 := fr_s (k := 4908) (v := (nI (t0 + 1))) hF60 (by decide)
    refine to_n 2 (fr' := (23, [(0, .ref 49), (1, .int x1), (2, .int x2), (3, .int x3), (4, .int x4), (5, .int x5), (6, .int 1), (7, .int x1)], [], gh S a b (upd (upd sc 4901 0) 4908 (nI (t0 + 1))) (uA ar 67 (upd (ar 67) t0 ((x1 >>> (24 &&& 31)) &&& 255))) lo, ex, 0, 0)) rfl ?_
    refine to_lv (lv := [(0, .ref 49), (1, .int x1), (2, .int x2), (3, .int x3), (4, .int x4), (5, .int x5), (6, .int 1)]) rfl ⟨rfl, rfl, rfl, rfl, rfl, rfl, rfl, trivial⟩ ?_
    exact c23_1 (t0 + 1) (upd (upd sc 4901 0) 4908 (nI (t0 + 1))) (uA ar 67 (upd (ar 67) t0 ((x1 >>> (24 &&& 31)) &&& 255))) (rfl) (by omega) (by omega) (fun t ht => (show (upd (ar 67) t0 ((x1 >>> (24 &&& 31)) &&& 255)) t = _ from ug_ne (by omega))) (al_up (P := fun m => (uA ar 67 (upd (ar 67) t0 ((x1 >>> (24 &&& 31)) &&& 255))) 67 (t0 + m) = fz_ x1 x2 x3 x4 x5 m &&& 255) (fun m hm => absurd hm (Nat.not_lt_zero _)) (show (upd (ar 67) t0 ((x1 >>> (24 &&& 31)) &&& 255)) (t0 + 0) = _ from ug_eq)) hI61 hF61
  · refine to_n 1 (fr' := (19, [(0, .ref 49), (1, .int x1), (2, .int x2), (3, .int x3), (4, .int x4), (5, .int x5)], [.int (-1)], gh S a b (upd sc 4901 0) ar lo, ex, 0, 0)) rfl ?_
    exact to_rt (i := .ireturn) (tg := []) rfl rfl ⟨_, _, _, ⟨hI58, hF58, ⟨⟨t0, by omega, et0, Or.inr ⟨by omega, rfl, rfl⟩⟩, Or.inl ⟨rfl, rfl⟩⟩⟩, rfl⟩
set_option maxRecDepth 20000 in
theorem sf_X10_cell {X : Nat × (Nat → Int32)} {S a b : Nat} {sc : Nat → Int32} {ar : Nat → Nat → Int32} {lo : Nat → Int64} {ex : Bool} (hW : Wd S a b) (hI : Iv S sc ar) (x1 : Int32) (x2 : Int32) (d : Nat)  : ci X S a b (d + 2) 158 [.ref 49, .int x1, .int x2] sc ar lo ex (fun x sc' ar' => Iv S sc' ar' ∧ Fr [4901] [] sc ar sc' ar' ∧ ((∃ k : Nat, k < S ∧ x1 = nI k ∧ ¬ zno x2 8 ∧ x = zce x2 (ar 51 k) (ar 52 k) (ar 53 k) (ar 54 k) (ar 55 k) (ar 56 k) (ar 57 k) (ar 58 k) ∧ sc' 4901 = 0) ∨ ((¬ (0 ≤ x1 ∧ x1 < nI S) ∨ zno x2 8) ∧ sc' 4901 = 1))) := by
  obtain ⟨ha1, ha8, hb1, hb8, hab, hS1, hS⟩ := id hW
  refine ci_of (M := an_X10_cell) rfl (Nat.le_of_ble_eq_true rfl) ?_
  have hF : Fr [4901] [] sc ar sc ar := fr_0
  refine to_eq (fr' := (0, [(0, .ref 49), (1, .int x1), (2, .int x2)], [], gh S a b sc ar lo, ex, 0, 0)) rfl ?_
  refine to_n 2 (fr' := (2, [(0, .ref 49), (1, .int x1), (2, .int x2)], [.int 0, .ref 49], gh S a b sc ar lo, ex, 0, 0)) rfl ?_
  refine to_putR (h' := gh S a b (upd sc 4901 0) ar lo) rfl rfl rfl (Nat.le_of_ble_eq_true rfl) rfl rfl ?_
  have hI1 := ip_4901 (v := 0) hI 
  have hF1 := fr_s (k := 4901) (v := 0) hF (by decide)
  refine to_n 2 (fr' := (7, [(0, .ref 49), (1, .int x1), (2, .int x2)], [.int x1, .ref 49], gh S a b (upd sc 4901 0) ar lo, ex, 0, 0)) rfl ?_
  rcases has_or (x := x1) (B := S) (by omega) with ⟨n2, hn2, e2⟩ | w2
  · rw [e2]
    refine to_cp (q := 110) (M1 := an_X10_isCell) (rest := []) rfl rfl (by decide) rfl ⟨_, rfl⟩ (mc_isCell_1 (n := n2) hW (by omega) d) (fun x2 hx2 => ?_)
    obtain rfl := hx2
    refine to_eq (fr' := (10, [(0, .ref 49), (1, .int (nI n2)), (2, .int x2)], [.int 1], gh S a b (upd sc 4901 0) ar lo, ex, 0, 0)) rfl ?_
    refine to_n 2 (fr' := (19, [(0, .ref 49), (1, .int (nI n2)), (2, .int x2)], [.int x2], gh S a b (upd sc 4901 0) ar lo, ex, 0, 0)) rfl ?_
    rcases Decidable.em (x2 = 0) with z3 | z3
    · refine to_eq (fr' := (19, [(0, .ref 49), (1, .int (nI n2)), (2, .int x2)], [.int 0], gh S a b (upd sc 4901 0) ar lo, ex, 0, 0)) (by rw [z3]) ?_
      refine to_n 1 (fr' := (64, [(0, .ref 49), (1, .int (nI n2)), (2, .int x2)], [], gh S a b (upd sc 4901 0) ar lo, ex, 0, 0)) rfl ?_
      refine to_n 1 (fr' := (65, [(0, .ref 49), (1, .int (nI n2)), (2, .int x2)], [.ref 49], gh S a b (upd sc 4901 0) ar lo, ex, 0, 0)) rfl ?_
      refine to_get rfl rfl rfl rfl ?_
      refine to_n 1 (fr' := (69, [(0, .ref 49), (1, .int (nI n2)), (2, .int x2)], [.int (nI n2), .ref 51], gh S a b (upd sc 4901 0) ar lo, ex, 0, 0)) rfl ?_
      refine to_ialR (i := n2) (v := (ar 51 n2)) rfl (by decide) rfl (by omega) (by omega) (congrFun (hF1.2 51 (by decide)) n2) ?_
      exact to_rt (i := .ireturn) (tg := []) rfl rfl ⟨_, _, _, ⟨hI1, hF1, (Or.inl ⟨n2, hn2, rfl, zno_n (j := 0) z3 (by omega), by rw [z3]; rfl, rfl⟩)⟩, rfl⟩
    · rcases Decidable.em (x2 = 1) with z4 | z4
      · refine to_eq (fr' := (19, [(0, .ref 49), (1, .int (nI n2)), (2, .int x2)], [.int 1], gh S a b (upd sc 4901 0) ar lo, ex, 0, 0)) (by rw [z4]) ?_
        refine to_n 1 (fr' := (71, [(0, .ref 49), (1, .int (nI n2)), (2, .int x2)], [], gh S a b (upd sc 4901 0) ar lo, ex, 0, 0)) rfl ?_
        refine to_n 1 (fr' := (72, [(0, .ref 49), (1, .int (nI n2)), (2, .int x2)], [.ref 49], gh S a b (upd sc 4901 0) ar lo, ex, 0, 0)) rfl ?_
        refine to_get rfl rfl rfl rfl ?_
        refine to_n 1 (fr' := (76, [(0, .ref 49), (1, .int (nI n2)), (2, .int x2)], [.int (nI n2), .ref 52], gh S a b (upd sc 4901 0) ar lo, ex, 0, 0)) rfl ?_
        refine to_ialR (i := n2) (v := (ar 52 n2)) rfl (by decide) rfl (by omega) (by omega) (congrFun (hF1.2 52 (by decide)) n2) ?_
        exact to_rt (i := .ireturn) (tg := []) rfl rfl ⟨_, _, _, ⟨hI1, hF1, (Or.inl ⟨n2, hn2, rfl, zno_n (j := 1) z4 (by omega), by rw [z4]; rfl, rfl⟩)⟩, rfl⟩
      · rcases Decidable.em (x2 = 2) with z5 | z5
        · refine to_eq (fr' := (19, [(0, .ref 49), (1, .int (nI n2)), (2, .int x2)], [.int 2], gh S a b (upd sc 4901 0) ar lo, ex, 0, 0)) (by rw [z5]) ?_
          refine to_n 1 (fr' := (78, [(0, .ref 49), (1, .int (nI n2)), (2, .int x2)], [], gh S a b (upd sc 4901 0) ar lo, ex, 0, 0)) rfl ?_
          refine to_n 1 (fr' := (79, [(0, .ref 49), (1, .int (nI n2)), (2, .int x2)], [.ref 49], gh S a b (upd sc 4901 0) ar lo, ex, 0, 0)) rfl ?_
          refine to_get rfl rfl rfl rfl ?_
          refine to_n 1 (fr' := (83, [(0, .ref 49), (1, .int (nI n2)), (2, .int x2)], [.int (nI n2), .ref 53], gh S a b (upd sc 4901 0) ar lo, ex, 0, 0)) rfl ?_
          refine to_ialR (i := n2) (v := (ar 53 n2)) rfl (by decide) rfl (by omega) (by omega) (congrFun (hF1.2 53 (by decide)) n2) ?_
          exact to_rt (i := .ireturn) (tg := []) rfl rfl ⟨_, _, _, ⟨hI1, hF1, (Or.inl ⟨n2, hn2, rfl, zno_n (j := 2) z5 (by omega), by rw [z5]; rfl, rfl⟩)⟩, rfl⟩
        · rcases Decidable.em (x2 = 3) with z6 | z6
          · refine to_eq (fr' := (19, [(0, .ref 49), (1, .int (nI n2)), (2, .int x2)], [.int 3], gh S a b (upd sc 4901 0) ar lo, ex, 0, 0)) (by rw [z6]) ?_
            refine to_n 1 (fr' := (85, [(0, .ref 49), (1, .int (nI n2)), (2, .int x2)], [], gh S a b (upd sc 4901 0) ar lo, ex, 0, 0)) rfl ?_
            refine to_n 1 (fr' := (86, [(0, .ref 49), (1, .int (nI n2)), (2, .int x2)], [.ref 49], gh S a b (upd sc 4901 0) ar lo, ex, 0, 0)) rfl ?_
            refine to_get rfl rfl rfl rfl ?_
            refine to_n 1 (fr' := (90, [(0, .ref 49), (1, .int (nI n2)), (2, .int x2)], [.int (nI n2), .ref 54], gh S a b (upd sc 4901 0) ar lo, ex, 0, 0)) rfl ?_
            refine to_ialR (i := n2) (v := (ar 54 n2)) rfl (by decide) rfl (by omega) (by omega) (congrFun (hF1.2 54 (by decide)) n2) ?_
            exact to_rt (i := .ireturn) (tg := []) rfl rfl ⟨_, _, _, ⟨hI1, hF1, (Or.inl ⟨n2, hn2, rfl, zno_n (j := 3) z6 (by omega), by rw [z6]; rfl, rfl⟩)⟩, rfl⟩
          · rcases Decidable.em (x2 = 4) with z7 | z7
            · refine to_eq (fr' := (19, [(0, .ref 49), (1, .int (nI n2)), (2, .int x2)], [.int 4], gh S a b (upd sc 4901 0) ar lo, ex, 0, 0)) (by rw [z7]) ?_
              refine to_n 1 (fr' := (92, [(0, .ref 49), (1, .int (nI n2)), (2, .int x2)], [], gh S a b (upd sc 4901 0) ar lo, ex, 0, 0)) rfl ?_
              refine to_n 1 (fr' := (93, [(0, .ref 49), (1, .int (nI n2)), (2, .int x2)], [.ref 49], gh S a b (upd sc 4901 0) ar lo, ex, 0, 0)) rfl ?_
              refine to_get rfl rfl rfl rfl ?_
              refine to_n 1 (fr' := (97, [(0, .ref 49), (1, .int (nI n2)), (2, .int x2)], [.int (nI n2), .ref 55], gh S a b (upd sc 4901 0) ar lo, ex, 0, 0)) rfl ?_
              refine to_ialR (i := n2) (v := (ar 55 n2)) rfl (by decide) rfl (by omega) (by omega) (congrFun (hF1.2 55 (by decide)) n2) ?_
              exact to_rt (i := .ireturn) (tg := []) rfl rfl ⟨_, _, _, ⟨hI1, hF1, (Or.inl ⟨n2, hn2, rfl, zno_n (j := 4) z7 (by omega), by rw [z7]; rfl, rfl⟩)⟩, rfl⟩
            · rcases Decidable.em (x2 = 5) with z8 | z8
              · refine to_eq (fr' := (19, [(0, .ref 49), (1, .int (nI n2)), (2, .int x2)], [.int 5], gh S a b (upd sc 4901 0) ar lo, ex, 0, 0)) (by rw [z8]) ?_
                refine to_n 1 (fr' := (99, [(0, .ref 49), (1, .int (nI n2)), (2, .int x2)], [], gh S a b (upd sc 4901 0) ar lo, ex, 0, 0)) rfl ?_
                refine to_n 1 (fr' := (100, [(0, .ref 49), (1, .int (nI n2)), (2, .int x2)], [.ref 49], gh S a b (upd sc 4901 0) ar lo, ex, 0, 0)) rfl ?_
                refine to_get rfl rfl rfl rfl ?_
                refine to_n 1 (fr' := (104, [(0, .ref 49), (1, .int (nI n2)), (2, .int x2)], [.int (nI n2), .ref 56], gh S a b (upd sc 4901 0) ar lo, ex, 0, 0)) rfl ?_
                refine to_ialR (i := n2) (v := (ar 56 n2)) rfl (by decide) rfl (by omega) (by omega) (congrFun (hF1.2 56 (by decide)) n2) ?_
                exact to_rt (i := .ireturn) (tg := []) rfl rfl ⟨_, _, _, ⟨hI1, hF1, (Or.inl ⟨n2, hn2, rfl, zno_n (j := 5) z8 (by omega), by rw [z8]; rfl, rfl⟩)⟩, rfl⟩
              · rcases Decidable.em (x2 = 6) with z9 | z9
                · refine to_eq (fr' := (19, [(0, .ref 49), (1, .int (nI n2)), (2, .int x2)], [.int 6], gh S a b (upd sc 4901 0) ar lo, ex, 0, 0)) (by rw [z9]) ?_
                  refine to_n 1 (fr' := (106, [(0, .ref 49), (1, .int (nI n2)), (2, .int x2)], [], gh S a b (upd sc 4901 0) ar lo, ex, 0, 0)) rfl ?_
                  refine to_n 1 (fr' := (107, [(0, .ref 49), (1, .int (nI n2)), (2, .int x2)], [.ref 49], gh S a b (upd sc 4901 0) ar lo, ex, 0, 0)) rfl ?_
                  refine to_get rfl rfl rfl rfl ?_
                  refine to_n 1 (fr' := (111, [(0, .ref 49), (1, .int (nI n2)), (2, .int x2)], [.int (nI n2), .ref 57], gh S a b (upd sc 4901 0) ar lo, ex, 0, 0)) rfl ?_
                  rcases iv_a57 hI n2 with e10 | ⟨n10, hn10, e10⟩
                  · refine to_ialR (i := n2) (v := (-1)) rfl (by decide) rfl (by omega) (by omega) ((congrFun (hF1.2 57 (by decide)) n2).trans e10) ?_
                    exact to_rt (i := .ireturn) (tg := []) rfl rfl ⟨_, _, _, ⟨hI1, hF1, (Or.inl ⟨n2, hn2, rfl, zno_n (j := 6) z9 (by omega), by rw [z9]; exact e10.symm, rfl⟩)⟩, rfl⟩
                  · refine to_ialR (i := n2) (v := (nI n10)) rfl (by decide) rfl (by omega) (by omega) ((congrFun (hF1.2 57 (by decide)) n2).trans e10) ?_
                    exact to_rt (i := .ireturn) (tg := []) rfl rfl ⟨_, _, _, ⟨hI1, hF1, (Or.inl ⟨n2, hn2, rfl, zno_n (j := 6) z9 (by omega), by rw [z9]; exact e10.symm, rfl⟩)⟩, rfl⟩
                · rcases Decidable.em (x2 = 7) with z11 | z11
                  · refine to_eq (fr' := (19, [(0, .ref 49), (1, .int (nI n2)), (2, .int x2)], [.int 7], gh S a b (upd sc 4901 0) ar lo, ex, 0, 0)) (by rw [z11]) ?_
                    refine to_n 1 (fr' := (113, [(0, .ref 49), (1, .int (nI n2)), (2, .int x2)], [], gh S a b (upd sc 4901 0) ar lo, ex, 0, 0)) rfl ?_
                    refine to_n 1 (fr' := (114, [(0, .ref 49), (1, .int (nI n2)), (2, .int x2)], [.ref 49], gh S a b (upd sc 4901 0) ar lo, ex, 0, 0)) rfl ?_
                    refine to_get rfl rfl rfl rfl ?_
                    refine to_n 1 (fr' := (118, [(0, .ref 49), (1, .int (nI n2)), (2, .int x2)], [.int (nI n2), .ref 58], gh S a b (upd sc 4901 0) ar lo, ex, 0, 0)) rfl ?_
                    refine to_zalR (i := n2) (v := (ar 58 n2)) rfl rfl (by omega) (by omega) (congrFun (hF1.2 58 (by decide)) n2) ?_
                    refine to_if_eq (t := 126) rfl (fun q12 => ?_) (fun q12 => ?_)
                    · refine to_n 1 (fr' := (127, [(0, .ref 49), (1, .int (nI n2)), (2, .int x2)], [.int 0], gh S a b (upd sc 4901 0) ar lo, ex, 0, 0)) rfl ?_
                      exact to_rt (i := .ireturn) (tg := []) rfl rfl ⟨_, _, _, ⟨hI1, hF1, (Or.inl ⟨n2, hn2, rfl, zno_n (j := 7) z11 (by omega), by rw [z11]; exact (if_neg (fun w => w q12)).symm, rfl⟩)⟩, rfl⟩
                    · refine to_n 2 (fr' := (127, [(0, .ref 49), (1, .int (nI n2)), (2, .int x2)], [.int 1], gh S a b (upd sc 4901 0) ar lo, ex, 0, 0)) rfl ?_
                      exact to_rt (i := .ireturn) (tg := []) rfl rfl ⟨_, _, _, ⟨hI1, hF1, (Or.inl ⟨n2, hn2, rfl, zno_n (j := 7) z11 (by omega), by rw [z11]; exact (if_pos q12).symm, rfl⟩)⟩, rfl⟩
                  · refine to_tbf (t := 128) (ms := [1, 2, 3, 4, 5, 6, 7, 8]) rfl rfl (by decide) rfl (by decide) (List.forall_mem_cons.mpr ⟨sw_ne z3 (by decide), (List.forall_mem_cons.mpr ⟨sw_ne z4 (by decide), (List.forall_mem_cons.mpr ⟨sw_ne z5 (by decide), (List.forall_mem_cons.mpr ⟨sw_ne z6 (by decide), (List.forall_mem_cons.mpr ⟨sw_ne z7 (by decide), (List.forall_mem_cons.mpr ⟨sw_ne z8 (by decide), (List.forall_mem_cons.mpr ⟨sw_ne z9 (by decide), (List.forall_mem_cons.mpr ⟨sw_ne z11 (by decide), (fun m h => absurd h List.not_mem_nil)⟩)⟩)⟩)⟩)⟩)⟩)⟩)⟩) ?_
                    refine to_n 1 (fr' := (129, [(0, .ref 49), (1, .int (nI n2)), (2, .int x2)], [.ref 49], gh S a b (upd sc 4901 0) ar lo, ex, 0, 0)) rfl ?_
                    refine to_ci (q := 109) (M1 := an_X10_fail) (rest := []) rfl rfl (by decide) rfl ⟨_, rfl⟩ (sf_X10_fail hW hI1  d) (fun x13 sc13 ar13 hx13 => ?_)
                    obtain ⟨hI13, hG13, hx13⟩ := hx13
                    have hF13 := fr_t hF1 hG13 (by decide) (by decide)
                    have hp13 := hx13
                    refine to_eq (fr' := (132, [(0, .ref 49), (1, .int (nI n2)), (2, .int x2)], [.int x13], gh S a b sc13 ar13 lo, ex, 0, 0)) rfl ?_
                    exact to_rt (i := .ireturn) (tg := []) rfl rfl ⟨_, _, _, ⟨hI13, hF13, (Or.inr ⟨Or.inr (zno_8 z3 z4 z5 z6 z7 z8 z9 z11), hp13⟩)⟩, rfl⟩
  · refine to_cp (q := 110) (M1 := an_X10_isCell) (rest := []) rfl rfl (by decide) rfl ⟨_, rfl⟩ (mc_isCell_0 hW w2 d) (fun x2 hx2 => ?_)
    obtain rfl := hx2
    refine to_eq (fr' := (10, [(0, .ref 49), (1, .int x1), (2, .int x2)], [.int 0], gh S a b (upd sc 4901 0) ar lo, ex, 0, 0)) rfl ?_
    refine to_n 2 (fr' := (14, [(0, .ref 49), (1, .int x1), (2, .int x2)], [.ref 49], gh S a b (upd sc 4901 0) ar lo, ex, 0, 0)) rfl ?_
    refine to_ci (q := 109) (M1 := an_X10_fail) (rest := []) rfl rfl (by decide) rfl ⟨_, rfl⟩ (sf_X10_fail hW hI1  d) (fun x14 sc14 ar14 hx14 => ?_)
    obtain ⟨hI14, hG14, hx14⟩ := hx14
    have hF14 := fr_t hF1 hG14 (by decide) (by decide)
    have hp14 := hx14
    refine to_eq (fr' := (17, [(0, .ref 49), (1, .int x1), (2, .int x2)], [.int x14], gh S a b sc14 ar14 lo, ex, 0, 0)) rfl ?_
    exact to_rt (i := .ireturn) (tg := []) rfl rfl ⟨_, _, _, ⟨hI14, hF14, (Or.inr ⟨Or.inl w2, hp14⟩)⟩, rfl⟩
set_option maxRecDepth 20000 in
theorem sf_X10_of {X : Nat × (Nat → Int32)} {S a b : Nat} {sc : Nat → Int32} {ar : Nat → Nat → Int32} {lo : Nat → Int64} {ex : Bool} (hW : Wd S a b) (hI : Iv S sc ar) (n : Nat) (enb : n < 9) (x1 : Int32) (x2 : Int32) (en : sc 4906 = nI n) (d : Nat)  : ci X S a b (d + 2) 159 [.ref 49, .int x1, .int x2] sc ar lo ex (fun x sc' ar' => Iv S sc' ar' ∧ Fr [4901] [] sc ar sc' ar' ∧ ((∃ k : Nat, k < n ∧ x1 = nI k ∧ ¬ zno x2 8 ∧ x = zof x2 (ar 59 k) (ar 60 k) (ar 61 k) (ar 62 k) (if ar 62 k = -1 then 0 else ar 66 k) (ar 63 k) (ar 64 k) (ar 65 k) ∧ sc' 4901 = 0) ∨ ((¬ (0 ≤ x1 ∧ x1 < nI n) ∨ zno x2 8) ∧ sc' 4901 = 1))) := by
  obtain ⟨ha1, ha8, hb1, hb8, hab, hS1, hS⟩ := id hW
  refine ci_of (M := an_X10_of) rfl (Nat.le_of_ble_eq_true rfl) ?_
  have hF : Fr [4901] [] sc ar sc ar := fr_0
  refine to_eq (fr' := (0, [(0, .ref 49), (1, .int x1), (2, .int x2)], [], gh S a b sc ar lo, ex, 0, 0)) rfl ?_
  refine to_n 2 (fr' := (2, [(0, .ref 49), (1, .int x1), (2, .int x2)], [.int 0, .ref 49], gh S a b sc ar lo, ex, 0, 0)) rfl ?_
  refine to_putR (h' := gh S a b (upd sc 4901 0) ar lo) rfl rfl rfl (Nat.le_of_ble_eq_true rfl) rfl rfl ?_
  have hI1 := ip_4901 (v := 0) hI 
  have hF1 := fr_s (k := 4901) (v := 0) hF (by decide)
  refine to_n 2 (fr' := (7, [(0, .ref 49), (1, .int x1), (2, .int x2)], [.int x1, .ref 49], gh S a b (upd sc 4901 0) ar lo, ex, 0, 0)) rfl ?_
  rcases has_or (x := x1) (B := n) (by omega) with ⟨n2, hn2, e2⟩ | w2
  · rw [e2]
    refine to_cp (q := 111) (M1 := an_X10_isCompany) (rest := []) rfl rfl (by decide) rfl ⟨_, rfl⟩ (mc_isCompany_1 (n := n2) ((hF1.1 4906 (by decide)).trans en) (by omega) d) (fun x2 hx2 => ?_)
    obtain rfl := hx2
    refine to_eq (fr' := (10, [(0, .ref 49), (1, .int (nI n2)), (2, .int x2)], [.int 1], gh S a b (upd sc 4901 0) ar lo, ex, 0, 0)) rfl ?_
    refine to_n 2 (fr' := (19, [(0, .ref 49), (1, .int (nI n2)), (2, .int x2)], [.int x2], gh S a b (upd sc 4901 0) ar lo, ex, 0, 0)) rfl ?_
    rcases Decidable.em (x2 = 0) with z3 | z3
    · refine to_eq (fr' := (19, [(0, .ref 49), (1, .int (nI n2)), (2, .int x2)], [.int 0], gh S a b (upd sc 4901 0) ar lo, ex, 0, 0)) (by rw [z3]) ?_
      refine to_n 1 (fr' := (64, [(0, .ref 49), (1, .int (nI n2)), (2, .int x2)], [], gh S a b (upd sc 4901 0) ar lo, ex, 0, 0)) rfl ?_
      refine to_n 1 (fr' := (65, [(0, .ref 49), (1, .int (nI n2)), (2, .int x2)], [.ref 49], gh S a b (upd sc 4901 0) ar lo, ex, 0, 0)) rfl ?_
      refine to_get rfl rfl rfl rfl ?_
      refine to_n 1 (fr' := (69, [(0, .ref 49), (1, .int (nI n2)), (2, .int x2)], [.int (nI n2), .ref 59], gh S a b (upd sc 4901 0) ar lo, ex, 0, 0)) rfl ?_
      refine to_ialR (i := n2) (v := (ar 59 n2)) rfl (by decide) rfl (by omega) (by omega) (congrFun (hF1.2 59 (by decide)) n2) ?_
      exact to_rt (i := .ireturn) (tg := []) rfl rfl ⟨_, _, _, ⟨hI1, hF1, (Or.inl ⟨n2, hn2, rfl, zno_n (j := 0) z3 (by omega), by rw [z3]; rfl, rfl⟩)⟩, rfl⟩
    · rcases Decidable.em (x2 = 1) with z4 | z4
      · refine to_eq (fr' := (19, [(0, .ref 49), (1, .int (nI n2)), (2, .int x2)], [.int 1], gh S a b (upd sc 4901 0) ar lo, ex, 0, 0)) (by rw [z4]) ?_
        refine to_n 1 (fr' := (71, [(0, .ref 49), (1, .int (nI n2)), (2, .int x2)], [], gh S a b (upd sc 4901 0) ar lo, ex, 0, 0)) rfl ?_
        refine to_n 1 (fr' := (72, [(0, .ref 49), (1, .int (nI n2)), (2, .int x2)], [.ref 49], gh S a b (upd sc 4901 0) ar lo, ex, 0, 0)) rfl ?_
        refine to_get rfl rfl rfl rfl ?_
        refine to_n 1 (fr' := (76, [(0, .ref 49), (1, .int (nI n2)), (2, .int x2)], [.int (nI n2), .ref 60], gh S a b (upd sc 4901 0) ar lo, ex, 0, 0)) rfl ?_
        refine to_ialR (i := n2) (v := (ar 60 n2)) rfl (by decide) rfl (by omega) (by omega) (congrFun (hF1.2 60 (by decide)) n2) ?_
        exact to_rt (i := .ireturn) (tg := []) rfl rfl ⟨_, _, _, ⟨hI1, hF1, (Or.inl ⟨n2, hn2, rfl, zno_n (j := 1) z4 (by omega), by rw [z4]; rfl, rfl⟩)⟩, rfl⟩
      · rcases Decidable.em (x2 = 2) with z5 | z5
        · refine to_eq (fr' := (19, [(0, .ref 49), (1, .int (nI n2)), (2, .int x2)], [.int 2], gh S a b (upd sc 4901 0) ar lo, ex, 0, 0)) (by rw [z5]) ?_
          refine to_n 1 (fr' := (78, [(0, .ref 49), (1, .int (nI n2)), (2, .int x2)], [], gh S a b (upd sc 4901 0) ar lo, ex, 0, 0)) rfl ?_
          refine to_n 1 (fr' := (79, [(0, .ref 49), (1, .int (nI n2)), (2, .int x2)], [.ref 49], gh S a b (upd sc 4901 0) ar lo, ex, 0, 0)) rfl ?_
          refine to_get rfl rfl rfl rfl ?_
          refine to_n 1 (fr' := (83, [(0, .ref 49), (1, .int (nI n2)), (2, .int x2)], [.int (nI n2), .ref 61], gh S a b (upd sc 4901 0) ar lo, ex, 0, 0)) rfl ?_
          obtain ⟨n6, hn6, e6⟩ := iv_a61 hI n2
          refine to_ialR (i := n2) (v := (nI n6)) rfl (by decide) rfl (by omega) (by omega) ((congrFun (hF1.2 61 (by decide)) n2).trans e6) ?_
          exact to_rt (i := .ireturn) (tg := []) rfl rfl ⟨_, _, _, ⟨hI1, hF1, (Or.inl ⟨n2, hn2, rfl, zno_n (j := 2) z5 (by omega), by rw [z5]; exact e6.symm, rfl⟩)⟩, rfl⟩
        · rcases Decidable.em (x2 = 3) with z7 | z7
          · refine to_eq (fr' := (19, [(0, .ref 49), (1, .int (nI n2)), (2, .int x2)], [.int 3], gh S a b (upd sc 4901 0) ar lo, ex, 0, 0)) (by rw [z7]) ?_
            refine to_n 1 (fr' := (85, [(0, .ref 49), (1, .int (nI n2)), (2, .int x2)], [], gh S a b (upd sc 4901 0) ar lo, ex, 0, 0)) rfl ?_
            refine to_n 1 (fr' := (86, [(0, .ref 49), (1, .int (nI n2)), (2, .int x2)], [.ref 49], gh S a b (upd sc 4901 0) ar lo, ex, 0, 0)) rfl ?_
            refine to_get rfl rfl rfl rfl ?_
            refine to_n 1 (fr' := (90, [(0, .ref 49), (1, .int (nI n2)), (2, .int x2)], [.int (nI n2), .ref 62], gh S a b (upd sc 4901 0) ar lo, ex, 0, 0)) rfl ?_
            rcases iv_a62 hI n2 with e8 | ⟨n8, hn8, e8⟩
            · refine to_ialR (i := n2) (v := (-1)) rfl (by decide) rfl (by omega) (by omega) ((congrFun (hF1.2 62 (by decide)) n2).trans e8) ?_
              exact to_rt (i := .ireturn) (tg := []) rfl rfl ⟨_, _, _, ⟨hI1, hF1, (Or.inl ⟨n2, hn2, rfl, zno_n (j := 3) z7 (by omega), by rw [z7]; exact e8.symm, rfl⟩)⟩, rfl⟩
            · refine to_ialR (i := n2) (v := (nI n8)) rfl (by decide) rfl (by omega) (by omega) ((congrFun (hF1.2 62 (by decide)) n2).trans e8) ?_
              exact to_rt (i := .ireturn) (tg := []) rfl rfl ⟨_, _, _, ⟨hI1, hF1, (Or.inl ⟨n2, hn2, rfl, zno_n (j := 3) z7 (by omega), by rw [z7]; exact e8.symm, rfl⟩)⟩, rfl⟩
          · rcases Decidable.em (x2 = 4) with z9 | z9
            · refine to_eq (fr' := (19, [(0, .ref 49), (1, .int (nI n2)), (2, .int x2)], [.int 4], gh S a b (upd sc 4901 0) ar lo, ex, 0, 0)) (by rw [z9]) ?_
              refine to_n 1 (fr' := (92, [(0, .ref 49), (1, .int (nI n2)), (2, .int x2)], [], gh S a b (upd sc 4901 0) ar lo, ex, 0, 0)) rfl ?_
              refine to_n 1 (fr' := (93, [(0, .ref 49), (1, .int (nI n2)), (2, .int x2)], [.ref 49], gh S a b (upd sc 4901 0) ar lo, ex, 0, 0)) rfl ?_
              refine to_get rfl rfl rfl rfl ?_
              refine to_n 1 (fr' := (97, [(0, .ref 49), (1, .int (nI n2)), (2, .int x2)], [.int (nI n2), .ref 62], gh S a b (upd sc 4901 0) ar lo, ex, 0, 0)) rfl ?_
              rcases iv_a62 hI n2 with e10 | ⟨n10, hn10, e10⟩
              · refine to_ialR (i := n2) (v := (-1)) rfl (by decide) rfl (by omega) (by omega) ((congrFun (hF1.2 62 (by decide)) n2).trans e10) ?_
                refine to_n 3 (fr' := (116, [(0, .ref 49), (1, .int (nI n2)), (2, .int x2)], [.int 0], gh S a b (upd sc 4901 0) ar lo, ex, 0, 0)) rfl ?_
                exact to_rt (i := .ireturn) (tg := []) rfl rfl ⟨_, _, _, ⟨hI1, hF1, (Or.inl ⟨n2, hn2, rfl, zno_n (j := 4) z9 (by omega), by rw [z9, if_pos e10]; rfl, rfl⟩)⟩, rfl⟩
              · refine to_ialR (i := n2) (v := (nI n10)) rfl (by decide) rfl (by omega) (by omega) ((congrFun (hF1.2 62 (by decide)) n2).trans e10) ?_
                refine to_n 1 (fr' := (99, [(0, .ref 49), (1, .int (nI n2)), (2, .int x2)], [.int (-1), .int (nI n10)], gh S a b (upd sc 4901 0) ar lo, ex, 0, 0)) rfl ?_
                refine to_ic_eq_F (t := 115) (x := (nI n10)) (y := (-1)) rfl (nI_neg (by omega) (by decide)) ?_
                refine to_n 1 (fr' := (103, [(0, .ref 49), (1, .int (nI n2)), (2, .int x2)], [.ref 49], gh S a b (upd sc 4901 0) ar lo, ex, 0, 0)) rfl ?_
                refine to_get rfl rfl rfl rfl ?_
                refine to_n 1 (fr' := (107, [(0, .ref 49), (1, .int (nI n2)), (2, .int x2)], [.int (nI n2), .ref 66], gh S a b (upd sc 4901 0) ar lo, ex, 0, 0)) rfl ?_
                refine to_zalR (i := n2) (v := (ar 66 n2)) rfl rfl (by omega) (by omega) (congrFun (hF1.2 66 (by decide)) n2) ?_
                refine to_if_eq (t := 115) rfl (fun q11 => ?_) (fun q11 => ?_)
                · refine to_n 1 (fr' := (116, [(0, .ref 49), (1, .int (nI n2)), (2, .int x2)], [.int 0], gh S a b (upd sc 4901 0) ar lo, ex, 0, 0)) rfl ?_
                  exact to_rt (i := .ireturn) (tg := []) rfl rfl ⟨_, _, _, ⟨hI1, hF1, (Or.inl ⟨n2, hn2, rfl, zno_n (j := 4) z9 (by omega), by rw [z9, if_neg (fun w => nI_neg (by omega) (by decide) (e10.symm.trans w))]; exact (if_neg (fun w => w q11)).symm, rfl⟩)⟩, rfl⟩
                · refine to_n 2 (fr' := (116, [(0, .ref 49), (1, .int (nI n2)), (2, .int x2)], [.int 1], gh S a b (upd sc 4901 0) ar lo, ex, 0, 0)) rfl ?_
                  exact to_rt (i := .ireturn) (tg := []) rfl rfl ⟨_, _, _, ⟨hI1, hF1, (Or.inl ⟨n2, hn2, rfl, zno_n (j := 4) z9 (by omega), by rw [z9, if_neg (fun w => nI_neg (by omega) (by decide) (e10.symm.trans w))]; exact (if_pos q11).symm, rfl⟩)⟩, rfl⟩
            · rcases Decidable.em (x2 = 5) with z12 | z12
              · refine to_eq (fr' := (19, [(0, .ref 49), (1, .int (nI n2)), (2, .int x2)], [.int 5], gh S a b (upd sc 4901 0) ar lo, ex, 0, 0)) (by rw [z12]) ?_
                refine to_n 1 (fr' := (117, [(0, .ref 49), (1, .int (nI n2)), (2, .int x2)], [], gh S a b (upd sc 4901 0) ar lo, ex, 0, 0)) rfl ?_
                refine to_n 1 (fr' := (118, [(0, .ref 49), (1, .int (nI n2)), (2, .int x2)], [.ref 49], gh S a b (upd sc 4901 0) ar lo, ex, 0, 0)) rfl ?_
                refine to_get rfl rfl rfl rfl ?_
                refine to_n 1 (fr' := (122, [(0, .ref 49), (1, .int (nI n2)), (2, .int x2)], [.int (nI n2), .ref 63], gh S a b (upd sc 4901 0) ar lo, ex, 0, 0)) rfl ?_
                refine to_ialR (i := n2) (v := (ar 63 n2)) rfl (by decide) rfl (by omega) (by omega) (congrFun (hF1.2 63 (by decide)) n2) ?_
                exact to_rt (i := .ireturn) (tg := []) rfl rfl ⟨_, _, _, ⟨hI1, hF1, (Or.inl ⟨n2, hn2, rfl, zno_n (j := 5) z12 (by omega), by rw [z12]; rfl, rfl⟩)⟩, rfl⟩
              · rcases Decidable.em (x2 = 6) with z13 | z13
                · refine to_eq (fr' := (19, [(0, .ref 49), (1, .int (nI n2)), (2, .int x2)], [.int 6], gh S a b (upd sc 4901 0) ar lo, ex, 0, 0)) (by rw [z13]) ?_
                  refine to_n 1 (fr' := (124, [(0, .ref 49), (1, .int (nI n2)), (2, .int x2)], [], gh S a b (upd sc 4901 0) ar lo, ex, 0, 0)) rfl ?_
                  refine to_n 1 (fr' := (125, [(0, .ref 49), (1, .int (nI n2)), (2, .int x2)], [.ref 49], gh S a b (upd sc 4901 0) ar lo, ex, 0, 0)) rfl ?_
                  refine to_get rfl rfl rfl rfl ?_
                  refine to_n 1 (fr' := (129, [(0, .ref 49), (1, .int (nI n2)), (2, .int x2)], [.int (nI n2), .ref 64], gh S a b (upd sc 4901 0) ar lo, ex, 0, 0)) rfl ?_
                  refine to_ialR (i := n2) (v := (ar 64 n2)) rfl (by decide) rfl (by omega) (by omega) (congrFun (hF1.2 64 (by decide)) n2) ?_
                  exact to_rt (i := .ireturn) (tg := []) rfl rfl ⟨_, _, _, ⟨hI1, hF1, (Or.inl ⟨n2, hn2, rfl, zno_n (j := 6) z13 (by omega), by rw [z13]; rfl, rfl⟩)⟩, rfl⟩
                · rcases Decidable.em (x2 = 7) with z14 | z14
                  · refine to_eq (fr' := (19, [(0, .ref 49), (1, .int (nI n2)), (2, .int x2)], [.int 7], gh S a b (upd sc 4901 0) ar lo, ex, 0, 0)) (by rw [z14]) ?_
                    refine to_n 1 (fr' := (131, [(0, .ref 49), (1, .int (nI n2)), (2, .int x2)], [], gh S a b (upd sc 4901 0) ar lo, ex, 0, 0)) rfl ?_
                    refine to_n 1 (fr' := (132, [(0, .ref 49), (1, .int (nI n2)), (2, .int x2)], [.ref 49], gh S a b (upd sc 4901 0) ar lo, ex, 0, 0)) rfl ?_
                    refine to_get rfl rfl rfl rfl ?_
                    refine to_n 1 (fr' := (136, [(0, .ref 49), (1, .int (nI n2)), (2, .int x2)], [.int (nI n2), .ref 65], gh S a b (upd sc 4901 0) ar lo, ex, 0, 0)) rfl ?_
                    refine to_ialR (i := n2) (v := (ar 65 n2)) rfl (by decide) rfl (by omega) (by omega) (congrFun (hF1.2 65 (by decide)) n2) ?_
                    exact to_rt (i := .ireturn) (tg := []) rfl rfl ⟨_, _, _, ⟨hI1, hF1, (Or.inl ⟨n2, hn2, rfl, zno_n (j := 7) z14 (by omega), by rw [z14]; rfl, rfl⟩)⟩, rfl⟩
                  · refine to_tbf (t := 138) (ms := [1, 2, 3, 4, 5, 6, 7, 8]) rfl rfl (by decide) rfl (by decide) (List.forall_mem_cons.mpr ⟨sw_ne z3 (by decide), (List.forall_mem_cons.mpr ⟨sw_ne z4 (by decide), (List.forall_mem_cons.mpr ⟨sw_ne z5 (by decide), (List.forall_mem_cons.mpr ⟨sw_ne z7 (by decide), (List.forall_mem_cons.mpr ⟨sw_ne z9 (by decide), (List.forall_mem_cons.mpr ⟨sw_ne z12 (by decide), (List.forall_mem_cons.mpr ⟨sw_ne z13 (by decide), (List.forall_mem_cons.mpr ⟨sw_ne z14 (by decide), (fun m h => absurd h List.not_mem_nil)⟩)⟩)⟩)⟩)⟩)⟩)⟩)⟩) ?_
                    refine to_n 1 (fr' := (139, [(0, .ref 49), (1, .int (nI n2)), (2, .int x2)], [.ref 49], gh S a b (upd sc 4901 0) ar lo, ex, 0, 0)) rfl ?_
                    refine to_ci (q := 109) (M1 := an_X10_fail) (rest := []) rfl rfl (by decide) rfl ⟨_, rfl⟩ (sf_X10_fail hW hI1  d) (fun x15 sc15 ar15 hx15 => ?_)
                    obtain ⟨hI15, hG15, hx15⟩ := hx15
                    have hF15 := fr_t hF1 hG15 (by decide) (by decide)
                    have hp15 := hx15
                    refine to_eq (fr' := (142, [(0, .ref 49), (1, .int (nI n2)), (2, .int x2)], [.int x15], gh S a b sc15 ar15 lo, ex, 0, 0)) rfl ?_
                    exact to_rt (i := .ireturn) (tg := []) rfl rfl ⟨_, _, _, ⟨hI15, hF15, (Or.inr ⟨Or.inr (zno_8 z3 z4 z5 z7 z9 z12 z13 z14), hp15⟩)⟩, rfl⟩
  · refine to_cp (q := 111) (M1 := an_X10_isCompany) (rest := []) rfl rfl (by decide) rfl ⟨_, rfl⟩ (mc_isCompany_0 ((hF1.1 4906 (by decide)).trans en) w2 d) (fun x2 hx2 => ?_)
    obtain rfl := hx2
    refine to_eq (fr' := (10, [(0, .ref 49), (1, .int x1), (2, .int x2)], [.int 0], gh S a b (upd sc 4901 0) ar lo, ex, 0, 0)) rfl ?_
    refine to_n 2 (fr' := (14, [(0, .ref 49), (1, .int x1), (2, .int x2)], [.ref 49], gh S a b (upd sc 4901 0) ar lo, ex, 0, 0)) rfl ?_
    refine to_ci (q := 109) (M1 := an_X10_fail) (rest := []) rfl rfl (by decide) rfl ⟨_, rfl⟩ (sf_X10_fail hW hI1  d) (fun x16 sc16 ar16 hx16 => ?_)
    obtain ⟨hI16, hG16, hx16⟩ := hx16
    have hF16 := fr_t hF1 hG16 (by decide) (by decide)
    have hp16 := hx16
    refine to_eq (fr' := (17, [(0, .ref 49), (1, .int x1), (2, .int x2)], [.int x16], gh S a b sc16 ar16 lo, ex, 0, 0)) rfl ?_
    exact to_rt (i := .ireturn) (tg := []) rfl rfl ⟨_, _, _, ⟨hI16, hF16, (Or.inr ⟨Or.inl w2, hp16⟩)⟩, rfl⟩
set_option maxRecDepth 20000 in
theorem sf_X10_breaks {X : Nat × (Nat → Int32)} {S a b : Nat} {sc : Nat → Int32} {ar : Nat → Nat → Int32} {lo : Nat → Int64} {ex : Bool} (hW : Wd S a b) (hI : Iv S sc ar) (x1 : Int32) (d : Nat)  : ci X S a b (d + 5) 165 [.ref 49, .int x1] sc ar lo ex (fun x sc' ar' => Iv S sc' ar' ∧ Fr [4901, 4952] [77, 78, 79, 80, 81, 82, 83, 84] sc ar sc' ar' ∧ True) := by
  obtain ⟨ha1, ha8, hb1, hb8, hab, hS1, hS⟩ := id hW
  refine ci_of (M := an_X10_breaks) rfl (Nat.le_of_ble_eq_true rfl) ?_
  have hF : Fr [4901, 4952] [77, 78, 79, 80, 81, 82, 83, 84] sc ar sc ar := fr_0
  refine to_eq (fr' := (0, [(0, .ref 49), (1, .int x1)], [], gh S a b sc ar lo, ex, 0, 0)) rfl ?_
  have c71 : ∀ m : Nat, ∀ (t1 : Nat) (lf : Nat) (i : Nat) (cu : Nat) (sc1 : Nat → Int32) (ar1 : Nat → Nat → Int32), i + m = S → sc1 4952 = nI cu → t1 < S → lf < 6 → cu ≤ i → Iv S sc1 ar1 → Fr [4901, 4952] [77, 78, 79, 80, 81, 82, 83, 84] sc ar sc1 ar1 → ag_To X (d + 4) an_X10_breaks (71, [(0, .ref 49), (1, .int (nI t1)), (2, .int (nI lf)), (3, .int (nI i))], [], gh S a b sc1 ar1 lo, ex, 0, 0) (qi S a b lo ex (fun x sc' ar' => Iv S sc' ar' ∧ Fr [4901, 4952] [77, 78, 79, 80, 81, 82, 83, 84] sc ar sc' ar' ∧ True)) := by
    intro m
    induction m with
    | zero =>
      intro t1 lf i cu sc1 ar1 hm hc71_0 hc71_1 hc71_2 hc71_3 hI1 hF1
      refine to_n 2 (fr' := (73, [(0, .ref 49), (1, .int (nI t1)), (2, .int (nI lf)), (3, .int (nI i))], [.ref 49, .int (nI i)], gh S a b sc1 ar1 lo, ex, 0, 0)) rfl ?_
      refine to_get rfl rfl rfl rfl ?_
      refine to_n 1 (fr' := (77, [(0, .ref 49), (1, .int (nI t1)), (2, .int (nI lf)), (3, .int (nI i))], [.ref 49, .int (nI a), .int (nI i)], gh S a b sc1 ar1 lo, ex, 0, 0)) rfl ?_
      refine to_get rfl rfl rfl rfl ?_
      refine to_mulN (x := a) (y := b) rfl ?_
      rw [hab]
      refine to_nc_ge_T (t := 162) (x := i) (y := S) rfl (by omega) (by omega) (by omega) ?_
      refine to_n 1 (fr' := (163, [(0, .ref 49), (1, .int (nI t1)), (2, .int (nI lf)), (3, .int (nI i))], [.ref 49], gh S a b sc1 ar1 lo, ex, 0, 0)) rfl ?_
      refine to_getR (v := (nI cu)) rfl rfl rfl rfl hc71_0 ?_
      exact to_rt (i := .ireturn) (tg := []) rfl rfl ⟨_, _, _, ⟨hI1, hF1, trivial⟩, rfl⟩
    | succ m ih =>
      intro t1 lf i cu sc1 ar1 hm hc71_0 hc71_1 hc71_2 hc71_3 hI1 hF1
      refine to_n 2 (fr' := (73, [(0, .ref 49), (1, .int (nI t1)), (2, .int (nI lf)), (3, .int (nI i))], [.ref 49, .int (nI i)], gh S a b sc1 ar1 lo, ex, 0, 0)) rfl ?_
      refine to_get rfl rfl rfl rfl ?_
      refine to_n 1 (fr' := (77, [(0, .ref 49), (1, .int (nI t1)), (2, .int (nI lf)), (3, .int (nI i))], [.ref 49, .int (nI a), .int (nI i)], gh S a b sc1 ar1 lo, ex, 0, 0)) rfl ?_
      refine to_get rfl rfl rfl rfl ?_
      refine to_mulN (x := a) (y := b) rfl ?_
      rw [hab]
      refine to_nc_ge_F (t := 162) (x := i) (y := S) rfl (by omega) (by omega) (by omega) ?_
      refine to_n 1 (fr' := (85, [(0, .ref 49), (1, .int (nI t1)), (2, .int (nI lf)), (3, .int (nI i))], [.int (nI lf)], gh S a b sc1 ar1 lo, ex, 0, 0)) rfl ?_
      refine to_nf_le (t := 162) (x := lf) rfl (by omega) (fun q2 => ?_) (fun q2 => ?_)
      · refine to_n 1 (fr' := (163, [(0, .ref 49), (1, .int (nI t1)), (2, .int (nI lf)), (3, .int (nI i))], [.ref 49], gh S a b sc1 ar1 lo, ex, 0, 0)) rfl ?_
        refine to_getR (v := (nI cu)) rfl rfl rfl rfl hc71_0 ?_
        exact to_rt (i := .ireturn) (tg := []) rfl rfl ⟨_, _, _, ⟨hI1, hF1, trivial⟩, rfl⟩
      · refine to_n 1 (fr' := (89, [(0, .ref 49), (1, .int (nI t1)), (2, .int (nI lf)), (3, .int (nI i))], [.ref 49], gh S a b sc1 ar1 lo, ex, 0, 0)) rfl ?_
        refine to_get rfl rfl rfl rfl ?_
        refine to_n 1 (fr' := (93, [(0, .ref 49), (1, .int (nI t1)), (2, .int (nI lf)), (3, .int (nI i))], [.int (nI i), .ref 51], gh S a b sc1 ar1 lo, ex, 0, 0)) rfl ?_
        refine to_ialR (i := i) (v := ((ar1 51) i)) rfl (by decide) rfl (by omega) (by omega) rfl ?_
        refine to_if_ne (t := 156) rfl (fun q3 => ?_) (fun q3 => ?_)
        · refine to_n 1 (fr' := (159, [(0, .ref 49), (1, .int (nI t1)), (2, .int (nI lf)), (3, .int ((nI i) + 1))], [], gh S a b sc1 ar1 lo, ex, 0, 0)) rfl ?_
          rw [nI_1 i]
          refine to_n 1 (fr' := (71, [(0, .ref 49), (1, .int (nI t1)), (2, .int (nI lf)), (3, .int (nI (i + 1)))], [], gh S a b sc1 ar1 lo, ex, 0, 0)) rfl ?_
          exact ih t1 lf (i + 1) cu sc1 ar1 (by omega) (hc71_0) (by omega) (by omega) (by omega) hI1 hF1
        · refine to_n 2 (fr' := (99, [(0, .ref 49), (1, .int (nI t1)), (2, .int (nI lf)), (3, .int (nI i))], [.int (nI t1), .int (nI i)], gh S a b sc1 ar1 lo, ex, 0, 0)) rfl ?_
          refine to_nc_ne (t := 105) (x := i) (y := t1) rfl (by omega) (by omega) (fun q4 => ?_) (fun q4 => ?_)
          · refine to_n 1 (fr' := (106, [(0, .ref 49), (1, .int (nI t1)), (2, .int (nI lf)), (3, .int (nI i))], [.ref 49], gh S a b sc1 ar1 lo, ex, 0, 0)) rfl ?_
            refine to_get rfl rfl rfl rfl ?_
            refine to_n 2 (fr' := (111, [(0, .ref 49), (1, .int (nI t1)), (2, .int (nI lf)), (3, .int (nI i))], [.int 1, .int (nI i), .ref 77], gh S a b sc1 ar1 lo, ex, 0, 0)) rfl ?_
            refine to_zasR (i := i) (h' := gh S a b sc1 (uA ar1 77 (upd (ar1 77) i (vp_nar .boolean 1))) lo) rfl rfl (by omega) (by omega) rfl ?_
            have hI5 := ia_77 (g := (upd (ar1 77) i (vp_nar .boolean 1))) hI1
            have hF5 := fr_a (c := 77) (g := (upd (ar1 77) i (vp_nar .boolean 1))) hF1 (by decide)
            refine to_n 2 (fr' := (114, [(0, .ref 49), (1, .int (nI t1)), (2, .int (nI lf)), (3, .int (nI i))], [.int (nI t1), .ref 49], gh S a b sc1 (uA ar1 77 (upd (ar1 77) i (vp_nar .boolean 1))) lo, ex, 0, 0)) rfl ?_
            refine to_ci (q := 164) (M1 := an_X10_least) (rest := []) rfl rfl (by decide) rfl ⟨_, rfl⟩ (sf_X10_least hW hI5 (nI t1) d) (fun x6 sc6 ar6 hx6 => ?_)
            obtain ⟨hI6, hG6, hx6⟩ := hx6
            have hF6 := fr_t hF5 hG6 (by decide) (by decide)
            have k6_4952 : sc6 4952 = (nI cu) := (hG6.1 4952 (by decide)).trans hc71_0
            obtain ⟨n6, hn6, rfl⟩ := hx6
            refine to_eq (fr' := (117, [(0, .ref 49), (1, .int (nI t1)), (2, .int (nI lf)), (3, .int (nI i))], [.int (nI n6)], gh S a b sc6 ar6 lo, ex, 0, 0)) rfl ?_
            refine to_n 2 (fr' := (119, [(0, .ref 49), (1, .int (nI t1)), (2, .int (nI lf)), (3, .int (nI i))], [.int 1, .int (nI lf), .int (nI n6)], gh S a b sc6 ar6 lo, ex, 0, 0)) rfl ?_
            refine to_subN (x := lf) (y := 1) rfl (by omega) ?_
            refine to_nc_ne (t := 149) (x := n6) (y := (lf - 1)) rfl (by omega) (by omega) (fun q7 => ?_) (fun q7 => ?_)
            · refine to_n 1 (fr' := (150, [(0, .ref 49), (1, .int (nI t1)), (2, .int (nI lf)), (3, .int (nI i))], [.ref 49], gh S a b sc6 ar6 lo, ex, 0, 0)) rfl ?_
              refine to_get rfl rfl rfl rfl ?_
              refine to_n 2 (fr' := (155, [(0, .ref 49), (1, .int (nI t1)), (2, .int (nI lf)), (3, .int (nI i))], [.int 0, .int (nI i), .ref 77], gh S a b sc6 ar6 lo, ex, 0, 0)) rfl ?_
              refine to_zasR (i := i) (h' := gh S a b sc6 (uA ar6 77 (upd (ar6 77) i (vp_nar .boolean 0))) lo) rfl rfl (by omega) (by omega) rfl ?_
              have hI8 := ia_77 (g := (upd (ar6 77) i (vp_nar .boolean 0))) hI6
              have hF8 := fr_a (c := 77) (g := (upd (ar6 77) i (vp_nar .boolean 0))) hF6 (by decide)
              refine to_n 1 (fr' := (159, [(0, .ref 49), (1, .int (nI t1)), (2, .int (nI lf)), (3, .int ((nI i) + 1))], [], gh S a b sc6 (uA ar6 77 (upd (ar6 77) i (vp_nar .boolean 0))) lo, ex, 0, 0)) rfl ?_
              rw [nI_1 i]
              refine to_n 1 (fr' := (71, [(0, .ref 49), (1, .int (nI t1)), (2, .int (nI lf)), (3, .int (nI (i + 1)))], [], gh S a b sc6 (uA ar6 77 (upd (ar6 77) i (vp_nar .boolean 0))) lo, ex, 0, 0)) rfl ?_
              exact ih t1 lf (i + 1) cu sc6 (uA ar6 77 (upd (ar6 77) i (vp_nar .boolean 0))) (by omega) (k6_4952) (by omega) (by omega) (by omega) hI8 hF8
            · refine to_n 1 (fr' := (124, [(0, .ref 49), (1, .int (nI t1)), (2, .int (nI lf)), (3, .int (nI i))], [.ref 49], gh S a b sc6 ar6 lo, ex, 0, 0)) rfl ?_
              refine to_get rfl rfl rfl rfl ?_
              refine to_n 1 (fr' := (128, [(0, .ref 49), (1, .int (nI t1)), (2, .int (nI lf)), (3, .int (nI i))], [.ref 49, .ref 78], gh S a b sc6 ar6 lo, ex, 0, 0)) rfl ?_
              refine to_getR (v := (nI cu)) rfl rfl rfl rfl k6_4952 ?_
              refine to_n 1 (fr' := (132, [(0, .ref 49), (1, .int (nI t1)), (2, .int (nI lf)), (3, .int (nI i))], [.int (nI i), .int (nI cu), .ref 78], gh S a b sc6 ar6 lo, ex, 0, 0)) rfl ?_
              refine to_iasR (i := cu) (h' := gh S a b sc6 (uA ar6 78 (upd (ar6 78) cu (nI i))) lo) rfl rfl (by omega) (by omega) rfl ?_
              have hI9 := ia_78 (g := (upd (ar6 78) cu (nI i))) hI6
              have hF9 := fr_a (c := 78) (g := (upd (ar6 78) cu (nI i))) hF6 (by decide)
              refine to_n 2 (fr' := (135, [(0, .ref 49), (1, .int (nI t1)), (2, .int (nI lf)), (3, .int (nI i))], [.ref 49, .ref 49], gh S a b sc6 (uA ar6 78 (upd (ar6 78) cu (nI i))) lo, ex, 0, 0)) rfl ?_
              refine to_getR (v := (nI cu)) rfl rfl rfl rfl k6_4952 ?_
              refine to_n 1 (fr' := (139, [(0, .ref 49), (1, .int (nI t1)), (2, .int (nI lf)), (3, .int (nI i))], [.int 1, .int (nI cu), .ref 49], gh S a b sc6 (uA ar6 78 (upd (ar6 78) cu (nI i))) lo, ex, 0, 0)) rfl ?_
              refine to_addN (x := cu) (y := 1) rfl ?_
              refine to_putR (h' := gh S a b (upd sc6 4952 (nI (cu + 1))) (uA ar6 78 (upd (ar6 78) cu (nI i))) lo) rfl rfl rfl (Nat.le_of_ble_eq_true rfl) rfl rfl ?_
              have hI10 := ip_4952 (v := (nI (cu + 1))) hI9 (rl_n (n := (cu + 1)) (by omega))
              have hF10 := fr_s (k := 4952) (v := (nI (cu + 1))) hF9 (by decide)
              refine to_n 1 (fr' := (146, [(0, .ref 49), (1, .int (nI t1)), (2, .int ((nI lf) + (-1))), (3, .int (nI i))], [], gh S a b (upd sc6 4952 (nI (cu + 1))) (uA ar6 78 (upd (ar6 78) cu (nI i))) lo, ex, 0, 0)) rfl ?_
              rw [nI_dec (show 1 ≤ lf by omega)]
              refine to_n 2 (fr' := (159, [(0, .ref 49), (1, .int (nI t1)), (2, .int (nI (lf - 1))), (3, .int ((nI i) + 1))], [], gh S a b (upd sc6 4952 (nI (cu + 1))) (uA ar6 78 (upd (ar6 78) cu (nI i))) lo, ex, 0, 0)) rfl ?_
              rw [nI_1 i]
              refine to_n 1 (fr' := (71, [(0, .ref 49), (1, .int (nI t1)), (2, .int (nI (lf - 1))), (3, .int (nI (i + 1)))], [], gh S a b (upd sc6 4952 (nI (cu + 1))) (uA ar6 78 (upd (ar6 78) cu (nI i))) lo, ex, 0, 0)) rfl ?_
              exact ih t1 (lf - 1) (i + 1) (cu + 1) (upd sc6 4952 (nI (cu + 1))) (uA ar6 78 (upd (ar6 78) cu (nI i))) (by omega) (rfl) (by omega) (by omega) (by omega) hI10 hF10
          · refine to_n 2 (fr' := (159, [(0, .ref 49), (1, .int (nI t1)), (2, .int (nI lf)), (3, .int ((nI i) + 1))], [], gh S a b sc1 ar1 lo, ex, 0, 0)) rfl ?_
            rw [nI_1 i]
            refine to_n 1 (fr' := (71, [(0, .ref 49), (1, .int (nI t1)), (2, .int (nI lf)), (3, .int (nI (i + 1)))], [], gh S a b sc1 ar1 lo, ex, 0, 0)) rfl ?_
            exact ih t1 lf (i + 1) cu sc1 ar1 (by omega) (hc71_0) (by omega) (by omega) (by omega) hI1 hF1
  have c39 : ∀ m : Nat, ∀ (t1 : Nat) (i : Nat) (sc11 : Nat → Int32) (ar11 : Nat → Nat → Int32), i + m = 64 → t1 < S → Iv S sc11 ar11 → Fr [4901, 4952] [77, 78, 79, 80, 81, 82, 83, 84] sc ar sc11 ar11 → ag_To X (d + 4) an_X10_breaks (39, [(0, .ref 49), (1, .int (nI t1)), (2, .int (nI i))], [], gh S a b sc11 ar11 lo, ex, 0, 0) (qi S a b lo ex (fun x sc' ar' => Iv S sc' ar' ∧ Fr [4901, 4952] [77, 78, 79, 80, 81, 82, 83, 84] sc ar sc' ar' ∧ True)) := by
    intro m
    induction m with
    | zero =>
      intro t1 i sc11 ar11 hm hc39_0 hI11 hF11
      refine to_n 2 (fr' := (42, [(0, .ref 49), (1, .int (nI t1)), (2, .int (nI i))], [.int 64, .int (nI i)], gh S a b sc11 ar11 lo, ex, 0, 0)) rfl ?_
      refine to_nc_ge_T (t := 58) (x := i) (y := 64) rfl (by omega) (by omega) (by omega) ?_
      refine to_n 2 (fr' := (60, [(0, .ref 49), (1, .int (nI t1)), (2, .int (nI i))], [.int (nI t1), .ref 49], gh S a b sc11 ar11 lo, ex, 0, 0)) rfl ?_
      refine to_ci (q := 164) (M1 := an_X10_least) (rest := []) rfl rfl (by decide) rfl ⟨_, rfl⟩ (sf_X10_least hW hI11 (nI t1) d) (fun x12 sc12 ar12 hx12 => ?_)
      obtain ⟨hI12, hG12, hx12⟩ := hx12
      have hF12 := fr_t hF11 hG12 (by decide) (by decide)
      obtain ⟨n12, hn12, rfl⟩ := hx12
      refine to_eq (fr' := (63, [(0, .ref 49), (1, .int (nI t1)), (2, .int (nI i))], [.int (nI n12)], gh S a b sc12 ar12 lo, ex, 0, 0)) rfl ?_
      refine to_n 3 (fr' := (66, [(0, .ref 49), (1, .int (nI t1)), (2, .int (nI n12))], [.int 0, .ref 49], gh S a b sc12 ar12 lo, ex, 0, 0)) rfl ?_
      refine to_putR (h' := gh S a b (upd sc12 4952 0) ar12 lo) rfl rfl rfl (Nat.le_of_ble_eq_true rfl) rfl rfl ?_
      have hI13 := ip_4952 (v := 0) hI12 (rl_n (n := 0) (by omega))
      have hF13 := fr_s (k := 4952) (v := 0) hF12 (by decide)
      refine to_n 2 (fr' := (71, [(0, .ref 49), (1, .int (nI t1)), (2, .int (nI n12)), (3, .int 0)], [], gh S a b (upd sc12 4952 0) ar12 lo, ex, 0, 0)) rfl ?_
      exact c71 (S - 0) t1 n12 0 0 (upd sc12 4952 0) ar12 (by omega) (rfl) (by omega) (by omega) (by omega) hI13 hF13
    | succ m ih =>
      intro t1 i sc11 ar11 hm hc39_0 hI11 hF11
      refine to_n 2 (fr' := (42, [(0, .ref 49), (1, .int (nI t1)), (2, .int (nI i))], [.int 64, .int (nI i)], gh S a b sc11 ar11 lo, ex, 0, 0)) rfl ?_
      refine to_nc_ge_F (t := 58) (x := i) (y := 64) rfl (by omega) (by omega) (by omega) ?_
      refine to_n 1 (fr' := (46, [(0, .ref 49), (1, .int (nI t1)), (2, .int (nI i))], [.ref 49], gh S a b sc11 ar11 lo, ex, 0, 0)) rfl ?_
      refine to_get rfl rfl rfl rfl ?_
      refine to_n 2 (fr' := (51, [(0, .ref 49), (1, .int (nI t1)), (2, .int (nI i))], [.int 0, .int (nI i), .ref 77], gh S a b sc11 ar11 lo, ex, 0, 0)) rfl ?_
      refine to_zasR (i := i) (h' := gh S a b sc11 (uA ar11 77 (upd (ar11 77) i (vp_nar .boolean 0))) lo) rfl rfl (by omega) (by omega) rfl ?_
      have hI14 := ia_77 (g := (upd (ar11 77) i (vp_nar .boolean 0))) hI11
      have hF14 := fr_a (c := 77) (g := (upd (ar11 77) i (vp_nar .boolean 0))) hF11 (by decide)
      refine to_n 1 (fr' := (55, [(0, .ref 49), (1, .int (nI t1)), (2, .int ((nI i) + 1))], [], gh S a b sc11 (uA ar11 77 (upd (ar11 77) i (vp_nar .boolean 0))) lo, ex, 0, 0)) rfl ?_
      rw [nI_1 i]
      refine to_n 1 (fr' := (39, [(0, .ref 49), (1, .int (nI t1)), (2, .int (nI (i + 1)))], [], gh S a b sc11 (uA ar11 77 (upd (ar11 77) i (vp_nar .boolean 0))) lo, ex, 0, 0)) rfl ?_
      exact ih t1 (i + 1) sc11 (uA ar11 77 (upd (ar11 77) i (vp_nar .boolean 0))) (by omega) (by omega) hI14 hF14
  refine to_n 2 (fr' := (2, [(0, .ref 49), (1, .int x1)], [.int 0, .ref 49], gh S a b sc ar lo, ex, 0, 0)) rfl ?_
  refine to_putR (h' := gh S a b (upd sc 4901 0) ar lo) rfl rfl rfl (Nat.le_of_ble_eq_true rfl) rfl rfl ?_
  have hI15 := ip_4901 (v := 0) hI 
  have hF15 := fr_s (k := 4901) (v := 0) hF (by decide)
  refine to_n 2 (fr' := (7, [(0, .ref 49), (1, .int x1)], [.int x1, .ref 49], gh S a b (upd sc 4901 0) ar lo, ex, 0, 0)) rfl ?_
  rcases has_or (x := x1) (B := S) (by omega) with ⟨n16, hn16, e16⟩ | w16
  · rw [e16]
    refine to_cp (q := 110) (M1 := an_X10_isCell) (rest := []) rfl rfl (by decide) rfl ⟨_, rfl⟩ (mc_isCell_1 (n := n16) hW (by omega) (d + 3)) (fun x16 hx16 => ?_)
    obtain rfl := hx16
    refine to_eq (fr' := (10, [(0, .ref 49), (1, .int (nI n16))], [.int 1], gh S a b (upd sc 4901 0) ar lo, ex, 0, 0)) rfl ?_
    refine to_n 2 (fr' := (19, [(0, .ref 49), (1, .int (nI n16))], [.ref 49], gh S a b (upd sc 4901 0) ar lo, ex, 0, 0)) rfl ?_
    refine to_get rfl rfl rfl rfl ?_
    refine to_n 1 (fr' := (23, [(0, .ref 49), (1, .int (nI n16))], [.int (nI n16), .ref 51], gh S a b (upd sc 4901 0) ar lo, ex, 0, 0)) rfl ?_
    refine to_ialR (i := n16) (v := ((ar 51) n16)) rfl (by decide) rfl (by omega) (by omega) rfl ?_
    refine to_if_ne (t := 35) rfl (fun q17 => ?_) (fun q17 => ?_)
    · refine to_n 1 (fr' := (36, [(0, .ref 49), (1, .int (nI n16))], [.int (-1)], gh S a b (upd sc 4901 0) ar lo, ex, 0, 0)) rfl ?_
      exact to_rt (i := .ireturn) (tg := []) rfl rfl ⟨_, _, _, ⟨hI15, hF15, trivial⟩, rfl⟩
    · refine to_n 2 (fr' := (29, [(0, .ref 49), (1, .int (nI n16))], [.int (nI n16), .ref 49], gh S a b (upd sc 4901 0) ar lo, ex, 0, 0)) rfl ?_
      refine to_cp (q := 160) (M1 := an_X10_isSource) (rest := []) rfl rfl (by decide) rfl ⟨_, rfl⟩ (sf_X10_isSource hW hI15 n16 (by omega) (d + 2)) (fun x18 hx18 => ?_)
      obtain ⟨n18, hn18, rfl⟩ := hx18
      refine to_eq (fr' := (32, [(0, .ref 49), (1, .int (nI n16))], [.int (nI n18)], gh S a b (upd sc 4901 0) ar lo, ex, 0, 0)) rfl ?_
      refine to_nf_eq (t := 37) (x := n18) rfl (by omega) (fun q19 => ?_) (fun q19 => ?_)
      · refine to_n 2 (fr' := (39, [(0, .ref 49), (1, .int (nI n16)), (2, .int 0)], [], gh S a b (upd sc 4901 0) ar lo, ex, 0, 0)) rfl ?_
        exact c39 (64 - 0) n16 0 (upd sc 4901 0) ar (by omega) (by omega) hI15 hF15
      · refine to_n 1 (fr' := (36, [(0, .ref 49), (1, .int (nI n16))], [.int (-1)], gh S a b (upd sc 4901 0) ar lo, ex, 0, 0)) rfl ?_
        exact to_rt (i := .ireturn) (tg := []) rfl rfl ⟨_, _, _, ⟨hI15, hF15, trivial⟩, rfl⟩
  · refine to_cp (q := 110) (M1 := an_X10_isCell) (rest := []) rfl rfl (by decide) rfl ⟨_, rfl⟩ (mc_isCell_0 hW w16 (d + 3)) (fun x16 hx16 => ?_)
    obtain rfl := hx16
    refine to_eq (fr' := (10, [(0, .ref 49), (1, .int x1)], [.int 0], gh S a b (upd sc 4901 0) ar lo, ex, 0, 0)) rfl ?_
    refine to_n 2 (fr' := (14, [(0, .ref 49), (1, .int x1)], [.ref 49], gh S a b (upd sc 4901 0) ar lo, ex, 0, 0)) rfl ?_
    refine to_ci (q := 109) (M1 := an_X10_fail) (rest := []) rfl rfl (by decide) rfl ⟨_, rfl⟩ (sf_X10_fail hW hI15  (d + 3)) (fun x20 sc20 ar20 hx20 => ?_)
    obtain ⟨hI20, hG20, hx20⟩ := hx20
    have hF20 := fr_t hF15 hG20 (by decide) (by decide)
    have hp20 := hx20
    refine to_eq (fr' := (17, [(0, .ref 49), (1, .int x1)], [.int x20], gh S a b sc20 ar20 lo, ex, 0, 0)) rfl ?_
    exact to_rt (i := .ireturn) (tg := []) rfl rfl ⟨_, _, _, ⟨hI20, hF20, trivial⟩, rfl⟩
set_option maxRecDepth 20000 in
theorem sf_X10_breaker {X : Nat × (Nat → Int32)} {S a b : Nat} {sc : Nat → Int32} {ar : Nat → Nat → Int32} {lo : Nat → Int64} {ex : Bool} (hW : Wd S a b) (hI : Iv S sc ar) (x1 : Int32) (d : Nat)  : ci X S a b (d + 2) 166 [.ref 49, .int x1] sc ar lo ex (fun x sc' ar' => Iv S sc' ar' ∧ Fr [4901] [] sc ar sc' ar' ∧ True) := by
  obtain ⟨ha1, ha8, hb1, hb8, hab, hS1, hS⟩ := id hW
  refine ci_of (M := an_X10_breaker) rfl (Nat.le_of_ble_eq_true rfl) ?_
  have hF : Fr [4901] [] sc ar sc ar := fr_0
  refine to_eq (fr' := (0, [(0, .ref 49), (1, .int x1)], [], gh S a b sc ar lo, ex, 0, 0)) rfl ?_
  refine to_n 2 (fr' := (2, [(0, .ref 49), (1, .int x1)], [.int 0, .ref 49], gh S a b sc ar lo, ex, 0, 0)) rfl ?_
  refine to_putR (h' := gh S a b (upd sc 4901 0) ar lo) rfl rfl rfl (Nat.le_of_ble_eq_true rfl) rfl rfl ?_
  have hI1 := ip_4901 (v := 0) hI 
  have hF1 := fr_s (k := 4901) (v := 0) hF (by decide)
  refine to_n 1 (fr' := (6, [(0, .ref 49), (1, .int x1)], [.int x1], gh S a b (upd sc 4901 0) ar lo, ex, 0, 0)) rfl ?_
  refine to_if_lt (t := 17) rfl (fun q2 => ?_) (fun q2 => ?_)
  · refine to_n 1 (fr' := (18, [(0, .ref 49), (1, .int x1)], [.ref 49], gh S a b (upd sc 4901 0) ar lo, ex, 0, 0)) rfl ?_
    refine to_ci (q := 109) (M1 := an_X10_fail) (rest := []) rfl rfl (by decide) rfl ⟨_, rfl⟩ (sf_X10_fail hW hI1  d) (fun x4 sc4 ar4 hx4 => ?_)
    obtain ⟨hI4, hG4, hx4⟩ := hx4
    have hF4 := fr_t hF1 hG4 (by decide) (by decide)
    have hp4 := hx4
    refine to_eq (fr' := (21, [(0, .ref 49), (1, .int x1)], [.int x4], gh S a b sc4 ar4 lo, ex, 0, 0)) rfl ?_
    refine to_n 1 (fr' := (30, [(0, .ref 49), (1, .int x1)], [.int x4], gh S a b sc4 ar4 lo, ex, 0, 0)) rfl ?_
    exact to_rt (i := .ireturn) (tg := []) rfl rfl ⟨_, _, _, ⟨hI4, hF4, trivial⟩, rfl⟩
  · obtain ⟨n3, hn3, e3⟩ := nI_of q2
    rw [e3]
    refine to_eq (fr' := (9, [(0, .ref 49), (1, .int (nI n3))], [], gh S a b (upd sc 4901 0) ar lo, ex, 0, 0)) rfl ?_
    refine to_n 2 (fr' := (11, [(0, .ref 49), (1, .int (nI n3))], [.ref 49, .int (nI n3)], gh S a b (upd sc 4901 0) ar lo, ex, 0, 0)) rfl ?_
    obtain ⟨n5, hn5, e5⟩ := iv_s4952 hI1
    refine to_getR (v := (nI n5)) rfl rfl rfl rfl e5 ?_
    refine to_nc_lt (t := 24) (x := n3) (y := n5) rfl (by omega) (by omega) (fun q6 => ?_) (fun q6 => ?_)
    · refine to_n 1 (fr' := (25, [(0, .ref 49), (1, .int (nI n3))], [.ref 49], gh S a b (upd sc 4901 0) ar lo, ex, 0, 0)) rfl ?_
      refine to_get rfl rfl rfl rfl ?_
      refine to_n 1 (fr' := (29, [(0, .ref 49), (1, .int (nI n3))], [.int (nI n3), .ref 78], gh S a b (upd sc 4901 0) ar lo, ex, 0, 0)) rfl ?_
      refine to_ialR (i := n3) (v := ((ar 78) n3)) rfl (by decide) rfl (by omega) (by omega) rfl ?_
      exact to_rt (i := .ireturn) (tg := []) rfl rfl ⟨_, _, _, ⟨hI1, hF1, trivial⟩, rfl⟩
    · refine to_n 1 (fr' := (18, [(0, .ref 49), (1, .int (nI n3))], [.ref 49], gh S a b (upd sc 4901 0) ar lo, ex, 0, 0)) rfl ?_
      refine to_ci (q := 109) (M1 := an_X10_fail) (rest := []) rfl rfl (by decide) rfl ⟨_, rfl⟩ (sf_X10_fail hW hI1  d) (fun x7 sc7 ar7 hx7 => ?_)
      obtain ⟨hI7, hG7, hx7⟩ := hx7
      have hF7 := fr_t hF1 hG7 (by decide) (by decide)
      have hp7 := hx7
      refine to_eq (fr' := (21, [(0, .ref 49), (1, .int (nI n3))], [.int x7], gh S a b sc7 ar7 lo, ex, 0, 0)) rfl ?_
      refine to_n 1 (fr' := (30, [(0, .ref 49), (1, .int (nI n3))], [.int x7], gh S a b sc7 ar7 lo, ex, 0, 0)) rfl ?_
      exact to_rt (i := .ireturn) (tg := []) rfl rfl ⟨_, _, _, ⟨hI7, hF7, trivial⟩, rfl⟩
set_option maxRecDepth 20000 in
theorem sf_X10_count {X : Nat × (Nat → Int32)} {S a b : Nat} {sc : Nat → Int32} {ar : Nat → Nat → Int32} {lo : Nat → Int64} {ex : Bool} (hW : Wd S a b) (hI : Iv S sc ar) (n : Nat) (enb : n < 9) (h : Nat) (ehb : h < 2401) (l0 : Nat) (el0b : l0 < 7) (x1 : Int32) (en : sc 4906 = nI n) (eh : sc 4904 = nI h) (el0 : sc 4907 = nI l0) (d : Nat)  : ci X S a b (d + 2) 167 [.ref 49, .int x1] sc ar lo ex (fun x sc' ar' => Iv S sc' ar' ∧ Fr [4901] [] sc ar sc' ar' ∧ ((¬ zno x1 10 ∧ x = zct x1 (sc 4904) (zcn (ar 51) 1 S) (zcn (ar 51) 0 S) (zcn (ar 51) 2 S) (zcn (ar 51) 3 S) (sc 4906) (sc 4907) (sc 4910) (sc 4908) (fo (ar 68) (nI (h / 24)) l0 0 (-1)) ∧ sc' 4901 = 0) ∨ (zno x1 10 ∧ sc' 4901 = 1))) := by
  obtain ⟨ha1, ha8, hb1, hb8, hab, hS1, hS⟩ := id hW
  refine ci_of (M := an_X10_count) rfl (Nat.le_of_ble_eq_true rfl) ?_
  have hF : Fr [4901] [] sc ar sc ar := fr_0
  refine to_eq (fr' := (0, [(0, .ref 49), (1, .int x1)], [], gh S a b sc ar lo, ex, 0, 0)) rfl ?_
  refine to_n 2 (fr' := (2, [(0, .ref 49), (1, .int x1)], [.int 0, .ref 49], gh S a b sc ar lo, ex, 0, 0)) rfl ?_
  refine to_putR (h' := gh S a b (upd sc 4901 0) ar lo) rfl rfl rfl (Nat.le_of_ble_eq_true rfl) rfl rfl ?_
  have hI1 := ip_4901 (v := 0) hI 
  have hF1 := fr_s (k := 4901) (v := 0) hF (by decide)
  refine to_n 1 (fr' := (6, [(0, .ref 49), (1, .int x1)], [.int x1], gh S a b (upd sc 4901 0) ar lo, ex, 0, 0)) rfl ?_
  rcases Decidable.em (x1 = 0) with z2 | z2
  · refine to_eq (fr' := (6, [(0, .ref 49), (1, .int x1)], [.int 0], gh S a b (upd sc 4901 0) ar lo, ex, 0, 0)) (by rw [z2]) ?_
    refine to_n 1 (fr' := (60, [(0, .ref 49), (1, .int x1)], [], gh S a b (upd sc 4901 0) ar lo, ex, 0, 0)) rfl ?_
    refine to_n 1 (fr' := (61, [(0, .ref 49), (1, .int x1)], [.ref 49], gh S a b (upd sc 4901 0) ar lo, ex, 0, 0)) rfl ?_
    refine to_getR (v := (nI h)) rfl rfl rfl rfl ((hF1.1 4904 (by decide)).trans eh) ?_
    exact to_rt (i := .ireturn) (tg := []) rfl rfl ⟨_, _, _, ⟨hI1, hF1, (Or.inl ⟨zno_n (j := 0) z2 (by omega), by rw [z2]; exact eh.symm, rfl⟩)⟩, rfl⟩
  · rcases Decidable.em (x1 = 1) with z3 | z3
    · refine to_eq (fr' := (6, [(0, .ref 49), (1, .int x1)], [.int 1], gh S a b (upd sc 4901 0) ar lo, ex, 0, 0)) (by rw [z3]) ?_
      refine to_n 1 (fr' := (65, [(0, .ref 49), (1, .int x1)], [], gh S a b (upd sc 4901 0) ar lo, ex, 0, 0)) rfl ?_
      refine to_n 2 (fr' := (67, [(0, .ref 49), (1, .int x1)], [.int 1, .ref 49], gh S a b (upd sc 4901 0) ar lo, ex, 0, 0)) rfl ?_
      refine to_cp (q := 135) (M1 := an_X10_many) (rest := []) rfl rfl (by decide) rfl ⟨_, rfl⟩ (sf_X10_many hW hI1 1 d) (fun x4 hx4 => ?_)
      have hp4 := hx4
      refine to_eq (fr' := (70, [(0, .ref 49), (1, .int x1)], [.int x4], gh S a b (upd sc 4901 0) ar lo, ex, 0, 0)) rfl ?_
      exact to_rt (i := .ireturn) (tg := []) rfl rfl ⟨_, _, _, ⟨hI1, hF1, (Or.inl ⟨zno_n (j := 1) z3 (by omega), by rw [z3]; exact hp4, rfl⟩)⟩, rfl⟩
    · rcases Decidable.em (x1 = 2) with z5 | z5
      · refine to_eq (fr' := (6, [(0, .ref 49), (1, .int x1)], [.int 2], gh S a b (upd sc 4901 0) ar lo, ex, 0, 0)) (by rw [z5]) ?_
        refine to_n 1 (fr' := (71, [(0, .ref 49), (1, .int x1)], [], gh S a b (upd sc 4901 0) ar lo, ex, 0, 0)) rfl ?_
        refine to_n 2 (fr' := (73, [(0, .ref 49), (1, .int x1)], [.int 0, .ref 49], gh S a b (upd sc 4901 0) ar lo, ex, 0, 0)) rfl ?_
        refine to_cp (q := 135) (M1 := an_X10_many) (rest := []) rfl rfl (by decide) rfl ⟨_, rfl⟩ (sf_X10_many hW hI1 0 d) (fun x6 hx6 => ?_)
        have hp6 := hx6
        refine to_eq (fr' := (76, [(0, .ref 49), (1, .int x1)], [.int x6], gh S a b (upd sc 4901 0) ar lo, ex, 0, 0)) rfl ?_
        exact to_rt (i := .ireturn) (tg := []) rfl rfl ⟨_, _, _, ⟨hI1, hF1, (Or.inl ⟨zno_n (j := 2) z5 (by omega), by rw [z5]; exact hp6, rfl⟩)⟩, rfl⟩
      · rcases Decidable.em (x1 = 3) with z7 | z7
        · refine to_eq (fr' := (6, [(0, .ref 49), (1, .int x1)], [.int 3], gh S a b (upd sc 4901 0) ar lo, ex, 0, 0)) (by rw [z7]) ?_
          refine to_n 1 (fr' := (77, [(0, .ref 49), (1, .int x1)], [], gh S a b (upd sc 4901 0) ar lo, ex, 0, 0)) rfl ?_
          refine to_n 2 (fr' := (79, [(0, .ref 49), (1, .int x1)], [.int 2, .ref 49], gh S a b (upd sc 4901 0) ar lo, ex, 0, 0)) rfl ?_
          refine to_cp (q := 135) (M1 := an_X10_many) (rest := []) rfl rfl (by decide) rfl ⟨_, rfl⟩ (sf_X10_many hW hI1 2 d) (fun x8 hx8 => ?_)
          have hp8 := hx8
          refine to_eq (fr' := (82, [(0, .ref 49), (1, .int x1)], [.int x8], gh S a b (upd sc 4901 0) ar lo, ex, 0, 0)) rfl ?_
          exact to_rt (i := .ireturn) (tg := []) rfl rfl ⟨_, _, _, ⟨hI1, hF1, (Or.inl ⟨zno_n (j := 3) z7 (by omega), by rw [z7]; exact hp8, rfl⟩)⟩, rfl⟩
        · rcases Decidable.em (x1 = 4) with z9 | z9
          · refine to_eq (fr' := (6, [(0, .ref 49), (1, .int x1)], [.int 4], gh S a b (upd sc 4901 0) ar lo, ex, 0, 0)) (by rw [z9]) ?_
            refine to_n 1 (fr' := (83, [(0, .ref 49), (1, .int x1)], [], gh S a b (upd sc 4901 0) ar lo, ex, 0, 0)) rfl ?_
            refine to_n 2 (fr' := (85, [(0, .ref 49), (1, .int x1)], [.int 3, .ref 49], gh S a b (upd sc 4901 0) ar lo, ex, 0, 0)) rfl ?_
            refine to_cp (q := 135) (M1 := an_X10_many) (rest := []) rfl rfl (by decide) rfl ⟨_, rfl⟩ (sf_X10_many hW hI1 3 d) (fun x10 hx10 => ?_)
            have hp10 := hx10
            refine to_eq (fr' := (88, [(0, .ref 49), (1, .int x1)], [.int x10], gh S a b (upd sc 4901 0) ar lo, ex, 0, 0)) rfl ?_
            exact to_rt (i := .ireturn) (tg := []) rfl rfl ⟨_, _, _, ⟨hI1, hF1, (Or.inl ⟨zno_n (j := 4) z9 (by omega), by rw [z9]; exact hp10, rfl⟩)⟩, rfl⟩
          · rcases Decidable.em (x1 = 5) with z11 | z11
            · refine to_eq (fr' := (6, [(0, .ref 49), (1, .int x1)], [.int 5], gh S a b (upd sc 4901 0) ar lo, ex, 0, 0)) (by rw [z11]) ?_
              refine to_n 1 (fr' := (89, [(0, .ref 49), (1, .int x1)], [], gh S a b (upd sc 4901 0) ar lo, ex, 0, 0)) rfl ?_
              refine to_n 1 (fr' := (90, [(0, .ref 49), (1, .int x1)], [.ref 49], gh S a b (upd sc 4901 0) ar lo, ex, 0, 0)) rfl ?_
              refine to_getR (v := (nI n)) rfl rfl rfl rfl ((hF1.1 4906 (by decide)).trans en) ?_
              exact to_rt (i := .ireturn) (tg := []) rfl rfl ⟨_, _, _, ⟨hI1, hF1, (Or.inl ⟨zno_n (j := 5) z11 (by omega), by rw [z11]; exact en.symm, rfl⟩)⟩, rfl⟩
            · rcases Decidable.em (x1 = 6) with z12 | z12
              · refine to_eq (fr' := (6, [(0, .ref 49), (1, .int x1)], [.int 6], gh S a b (upd sc 4901 0) ar lo, ex, 0, 0)) (by rw [z12]) ?_
                refine to_n 1 (fr' := (94, [(0, .ref 49), (1, .int x1)], [], gh S a b (upd sc 4901 0) ar lo, ex, 0, 0)) rfl ?_
                refine to_n 1 (fr' := (95, [(0, .ref 49), (1, .int x1)], [.ref 49], gh S a b (upd sc 4901 0) ar lo, ex, 0, 0)) rfl ?_
                refine to_getR (v := (nI l0)) rfl rfl rfl rfl ((hF1.1 4907 (by decide)).trans el0) ?_
                exact to_rt (i := .ireturn) (tg := []) rfl rfl ⟨_, _, _, ⟨hI1, hF1, (Or.inl ⟨zno_n (j := 6) z12 (by omega), by rw [z12]; exact el0.symm, rfl⟩)⟩, rfl⟩
              · rcases Decidable.em (x1 = 7) with z13 | z13
                · refine to_eq (fr' := (6, [(0, .ref 49), (1, .int x1)], [.int 7], gh S a b (upd sc 4901 0) ar lo, ex, 0, 0)) (by rw [z13]) ?_
                  refine to_n 1 (fr' := (99, [(0, .ref 49), (1, .int x1)], [], gh S a b (upd sc 4901 0) ar lo, ex, 0, 0)) rfl ?_
                  refine to_n 1 (fr' := (100, [(0, .ref 49), (1, .int x1)], [.ref 49], gh S a b (upd sc 4901 0) ar lo, ex, 0, 0)) rfl ?_
                  refine to_getR (v := (sc 4910)) rfl rfl rfl rfl (hF1.1 4910 (by decide)) ?_
                  exact to_rt (i := .ireturn) (tg := []) rfl rfl ⟨_, _, _, ⟨hI1, hF1, (Or.inl ⟨zno_n (j := 7) z13 (by omega), by rw [z13]; exact rfl, rfl⟩)⟩, rfl⟩
                · rcases Decidable.em (x1 = 8) with z14 | z14
                  · refine to_eq (fr' := (6, [(0, .ref 49), (1, .int x1)], [.int 8], gh S a b (upd sc 4901 0) ar lo, ex, 0, 0)) (by rw [z14]) ?_
                    refine to_n 1 (fr' := (104, [(0, .ref 49), (1, .int x1)], [], gh S a b (upd sc 4901 0) ar lo, ex, 0, 0)) rfl ?_
                    refine to_n 1 (fr' := (105, [(0, .ref 49), (1, .int x1)], [.ref 49], gh S a b (upd sc 4901 0) ar lo, ex, 0, 0)) rfl ?_
                    obtain ⟨n15, hn15, e15⟩ := iv_s4908 hI1
                    refine to_getR (v := (nI n15)) rfl rfl rfl rfl e15 ?_
                    exact to_rt (i := .ireturn) (tg := []) rfl rfl ⟨_, _, _, ⟨hI1, hF1, (Or.inl ⟨zno_n (j := 8) z14 (by omega), by rw [z14]; exact e15.symm, rfl⟩)⟩, rfl⟩
                  · rcases Decidable.em (x1 = 9) with z16 | z16
                    · refine to_eq (fr' := (6, [(0, .ref 49), (1, .int x1)], [.int 9], gh S a b (upd sc 4901 0) ar lo, ex, 0, 0)) (by rw [z16]) ?_
                      refine to_n 1 (fr' := (109, [(0, .ref 49), (1, .int x1)], [], gh S a b (upd sc 4901 0) ar lo, ex, 0, 0)) rfl ?_
                      refine to_n 1 (fr' := (110, [(0, .ref 49), (1, .int x1)], [.ref 49], gh S a b (upd sc 4901 0) ar lo, ex, 0, 0)) rfl ?_
                      refine to_cp (q := 134) (M1 := an_X10_force) (rest := []) rfl rfl (by decide) rfl ⟨_, rfl⟩ (sf_force hW hI1 l0 (by omega) ((hF1.1 4907 (by decide)).trans el0) d) (fun x17 hx17 => ?_)
                      obtain ⟨hx17, hp17⟩ := hx17
                      rw [foX_eq ((hF1.1 4904 (by decide)).trans eh) ehb ((hF1.1 4907 (by decide)).trans el0) el0b] at hp17
                      rcases hx17 with rfl | ⟨n17, hn17, rfl⟩
                      · refine to_eq (fr' := (113, [(0, .ref 49), (1, .int x1)], [.int (-1)], gh S a b (upd sc 4901 0) ar lo, ex, 0, 0)) rfl ?_
                        exact to_rt (i := .ireturn) (tg := []) rfl rfl ⟨_, _, _, ⟨hI1, hF1, (Or.inl ⟨zno_n (j := 9) z16 (by omega), by rw [z16]; exact hp17, rfl⟩)⟩, rfl⟩
                      · refine to_eq (fr' := (113, [(0, .ref 49), (1, .int x1)], [.int (nI n17)], gh S a b (upd sc 4901 0) ar lo, ex, 0, 0)) rfl ?_
                        exact to_rt (i := .ireturn) (tg := []) rfl rfl ⟨_, _, _, ⟨hI1, hF1, (Or.inl ⟨zno_n (j := 9) z16 (by omega), by rw [z16]; exact hp17, rfl⟩)⟩, rfl⟩
                    · refine to_tbf (t := 114) (ms := [1, 2, 3, 4, 5, 6, 7, 8, 9, 10]) rfl rfl (by decide) rfl (by decide) (List.forall_mem_cons.mpr ⟨sw_ne z2 (by decide), (List.forall_mem_cons.mpr ⟨sw_ne z3 (by decide), (List.forall_mem_cons.mpr ⟨sw_ne z5 (by decide), (List.forall_mem_cons.mpr ⟨sw_ne z7 (by decide), (List.forall_mem_cons.mpr ⟨sw_ne z9 (by decide), (List.forall_mem_cons.mpr ⟨sw_ne z11 (by decide), (List.forall_mem_cons.mpr ⟨sw_ne z12 (by decide), (List.forall_mem_cons.mpr ⟨sw_ne z13 (by decide), (List.forall_mem_cons.mpr ⟨sw_ne z14 (by decide), (List.forall_mem_cons.mpr ⟨sw_ne z16 (by decide), (fun m h => absurd h List.not_mem_nil)⟩)⟩)⟩)⟩)⟩)⟩)⟩)⟩)⟩)⟩) ?_
                      refine to_n 1 (fr' := (115, [(0, .ref 49), (1, .int x1)], [.ref 49], gh S a b (upd sc 4901 0) ar lo, ex, 0, 0)) rfl ?_
                      refine to_ci (q := 109) (M1 := an_X10_fail) (rest := []) rfl rfl (by decide) rfl ⟨_, rfl⟩ (sf_X10_fail hW hI1  d) (fun x18 sc18 ar18 hx18 => ?_)
                      obtain ⟨hI18, hG18, hx18⟩ := hx18
                      have hF18 := fr_t hF1 hG18 (by decide) (by decide)
                      have hp18 := hx18
                      refine to_eq (fr' := (118, [(0, .ref 49), (1, .int x1)], [.int x18], gh S a b sc18 ar18 lo, ex, 0, 0)) rfl ?_
                      exact to_rt (i := .ireturn) (tg := []) rfl rfl ⟨_, _, _, ⟨hI18, hF18, (Or.inr ⟨zno_10 z2 z3 z5 z7 z9 z11 z12 z13 z14 z16, hp18⟩)⟩, rfl⟩
set_option maxRecDepth 20000 in
theorem sf_X10_light {X : Nat × (Nat → Int32)} {S a b : Nat} {sc : Nat → Int32} {ar : Nat → Nat → Int32} {lo : Nat → Int64} {ex : Bool} (hW : Wd S a b) (hI : Iv S sc ar) (n : Nat) (enb : n < 9) (h : Nat) (ehb : h < 2401) (l0 : Nat) (el0b : l0 < 7) (x1 : Int32) (hL : Lw sc ar) (hD : LD l0 (ar 69) (ar 70) (ar 71)) (en : sc 4906 = nI n) (eh : sc 4904 = nI h) (el0 : sc 4907 = nI l0) (d : Nat)  : ci X S a b (d + 7) 144 [.ref 49, .int x1] sc ar lo ex (fun x sc' ar' => Iv S sc' ar' ∧ Fr [4901, 4943] [51, 62, 66, 72] sc ar sc' ar' ∧ ((∃ k : Nat, k < S ∧ x1 = nI k ∧ ((¬ ar 51 k = 0 ∧ x = -1 ∧ ar' 51 = ar 51 ∧ ar' 62 = ar 62 ∧ ar' 66 = ar 66) ∨ (ar 51 k = 0 ∧ ar' 51 = upd (ar 51) k 1 ∧ ar' 62 = zpw (zrW a h (fo (ar 68) (nI (h / 24)) l0 0 (-1)) (zcn (upd (ar 51) k 1) 1 S) (ar 53) (ar 52) (ar 54) (ar 59) (ar 60) (ar 61) (ar 71) (ar 70) (ar 73) (ar 69) k (zng n (nI k) 1 (ar 62) (ar 66))) (zng n (nI k) 1 (ar 62) (ar 66)) n ∧ ar' 66 = zpw (zrP a h (fo (ar 68) (nI (h / 24)) l0 0 (-1)) (zcn (upd (ar 51) k 1) 1 S) (ar 53) (ar 52) (ar 54) (ar 59) (ar 60) (ar 61) (ar 71) (ar 70) (ar 73) (ar 69) k (zng n (nI k) 1 (ar 62) (ar 66)) (ar 66)) (ar 66) n ∧ x = zcn (ar' 62) (nI k) n)) ∧ sc' 4901 = 0) ∨ (¬ (0 ≤ x1 ∧ x1 < nI S) ∧ ar' 51 = ar 51 ∧ ar' 62 = ar 62 ∧ ar' 66 = ar 66 ∧ sc' 4901 = 1))) := by
  obtain ⟨ha1, ha8, hb1, hb8, hab, hS1, hS⟩ := id hW
  refine ci_of (M := an_X10_light) rfl (Nat.le_of_ble_eq_true rfl) ?_
  have hF : Fr [4901, 4943] [51, 62, 66, 72] sc ar sc ar := fr_0
  refine to_eq (fr' := (0, [(0, .ref 49), (1, .int x1)], [], gh S a b sc ar lo, ex, 0, 0)) rfl ?_
  have c51 : ∀ m : Nat, ∀ (k1 : Nat) (y : Int32) (i : Nat) (sc1 : Nat → Int32) (ar1 : Nat → Nat → Int32), i + m = n → k1 < S → x1 = nI k1 → ar 51 k1 = 0 → ar1 51 = upd (ar 51) k1 1 → ar1 62 = zpw (zrW a h (fo (ar 68) (nI (h / 24)) l0 0 (-1)) (zcn (upd (ar 51) k1 1) 1 S) (ar 53) (ar 52) (ar 54) (ar 59) (ar 60) (ar 61) (ar 71) (ar 70) (ar 73) (ar 69) k1 (zng n (nI k1) 1 (ar 62) (ar 66))) (zng n (nI k1) 1 (ar 62) (ar 66)) n → ar1 66 = zpw (zrP a h (fo (ar 68) (nI (h / 24)) l0 0 (-1)) (zcn (upd (ar 51) k1 1) 1 S) (ar 53) (ar 52) (ar 54) (ar 59) (ar 60) (ar 61) (ar 71) (ar 70) (ar 73) (ar 69) k1 (zng n (nI k1) 1 (ar 62) (ar 66)) (ar 66)) (ar 66) n → sc1 4901 = 0 → y = zcn (ar1 62) (nI k1) i → Iv S sc1 ar1 → Fr [4901, 4943] [51, 62, 66, 72] sc ar sc1 ar1 → ag_To X (d + 6) an_X10_light (51, [(0, .ref 49), (1, .int (nI k1)), (2, .int y), (3, .int (nI i))], [], gh S a b sc1 ar1 lo, ex, 0, 0) (qi S a b lo ex (fun x sc' ar' => Iv S sc' ar' ∧ Fr [4901, 4943] [51, 62, 66, 72] sc ar sc' ar' ∧ ((∃ k : Nat, k < S ∧ x1 = nI k ∧ ((¬ ar 51 k = 0 ∧ x = -1 ∧ ar' 51 = ar 51 ∧ ar' 62 = ar 62 ∧ ar' 66 = ar 66) ∨ (ar 51 k = 0 ∧ ar' 51 = upd (ar 51) k 1 ∧ ar' 62 = zpw (zrW a h (fo (ar 68) (nI (h / 24)) l0 0 (-1)) (zcn (upd (ar 51) k 1) 1 S) (ar 53) (ar 52) (ar 54) (ar 59) (ar 60) (ar 61) (ar 71) (ar 70) (ar 73) (ar 69) k (zng n (nI k) 1 (ar 62) (ar 66))) (zng n (nI k) 1 (ar 62) (ar 66)) n ∧ ar' 66 = zpw (zrP a h (fo (ar 68) (nI (h / 24)) l0 0 (-1)) (zcn (upd (ar 51) k 1) 1 S) (ar 53) (ar 52) (ar 54) (ar 59) (ar 60) (ar 61) (ar 71) (ar 70) (ar 73) (ar 69) k (zng n (nI k) 1 (ar 62) (ar 66)) (ar 66)) (ar 66) n ∧ x = zcn (ar' 62) (nI k) n)) ∧ sc' 4901 = 0) ∨ (¬ (0 ≤ x1 ∧ x1 < nI S) ∧ ar' 51 = ar 51 ∧ ar' 62 = ar 62 ∧ ar' 66 = ar 66 ∧ sc' 4901 = 1)))) := by
    intro m
    induction m with
    | zero =>
      intro k1 y i sc1 ar1 hm hc51_0 hc51_1 hc51_2 hc51_3 hc51_4 hc51_5 hc51_6 hc51_7 hI1 hF1
      refine to_n 2 (fr' := (53, [(0, .ref 49), (1, .int (nI k1)), (2, .int y), (3, .int (nI i))], [.ref 49, .int (nI i)], gh S a b sc1 ar1 lo, ex, 0, 0)) rfl ?_
      refine to_getR (v := (nI n)) rfl rfl rfl rfl ((hF1.1 4906 (by decide)).trans en) ?_
      refine to_nc_ge_T (t := 83) (x := i) (y := n) rfl (by omega) (by omega) (by omega) ?_
      refine to_n 1 (fr' := (84, [(0, .ref 49), (1, .int (nI k1)), (2, .int y), (3, .int (nI i))], [.int y], gh S a b sc1 ar1 lo, ex, 0, 0)) rfl ?_
      exact to_rt (i := .ireturn) (tg := []) rfl rfl ⟨_, _, _, ⟨hI1, hF1, (Or.inl ⟨k1, hc51_0, hc51_1, Or.inr ⟨hc51_2, hc51_3, hc51_4, hc51_5, by rw [show n = i by omega]; exact hc51_7⟩, hc51_6⟩)⟩, rfl⟩
    | succ m ih =>
      intro k1 y i sc1 ar1 hm hc51_0 hc51_1 hc51_2 hc51_3 hc51_4 hc51_5 hc51_6 hc51_7 hI1 hF1
      refine to_n 2 (fr' := (53, [(0, .ref 49), (1, .int (nI k1)), (2, .int y), (3, .int (nI i))], [.ref 49, .int (nI i)], gh S a b sc1 ar1 lo, ex, 0, 0)) rfl ?_
      refine to_getR (v := (nI n)) rfl rfl rfl rfl ((hF1.1 4906 (by decide)).trans en) ?_
      refine to_nc_ge_F (t := 83) (x := i) (y := n) rfl (by omega) (by omega) (by omega) ?_
      refine to_n 2 (fr' := (61, [(0, .ref 49), (1, .int (nI k1)), (2, .int y), (3, .int (nI i))], [.ref 49, .int y], gh S a b sc1 ar1 lo, ex, 0, 0)) rfl ?_
      refine to_get rfl rfl rfl rfl ?_
      refine to_n 1 (fr' := (65, [(0, .ref 49), (1, .int (nI k1)), (2, .int y), (3, .int (nI i))], [.int (nI i), .ref 62, .int y], gh S a b sc1 ar1 lo, ex, 0, 0)) rfl ?_
      rcases iv_a62 hI1 i with e2 | ⟨n2, hn2, e2⟩
      · refine to_ialR (i := i) (v := (-1)) rfl (by decide) rfl (by omega) (by omega) e2 ?_
        refine to_n 1 (fr' := (67, [(0, .ref 49), (1, .int (nI k1)), (2, .int y), (3, .int (nI i))], [.int (nI k1), .int (-1), .int y], gh S a b sc1 ar1 lo, ex, 0, 0)) rfl ?_
        refine to_ic_ne_T (t := 74) (x := (-1)) (y := (nI k1)) rfl (fun w => nI_neg (n := k1) (x := (-1)) (by omega) (by decide) w.symm) ?_
        refine to_n 4 (fr' := (80, [(0, .ref 49), (1, .int (nI k1)), (2, .int (y + 0)), (3, .int ((nI i) + 1))], [], gh S a b sc1 ar1 lo, ex, 0, 0)) rfl ?_
        rw [nI_1 i]
        refine to_n 1 (fr' := (51, [(0, .ref 49), (1, .int (nI k1)), (2, .int (y + 0)), (3, .int (nI (i + 1)))], [], gh S a b sc1 ar1 lo, ex, 0, 0)) rfl ?_
        exact ih k1 (y + 0) (i + 1) sc1 ar1 (by omega) (by omega) hc51_1 hc51_2 hc51_3 hc51_4 hc51_5 hc51_6 (zcn_0 hc51_7 (ni_m e2 (by omega))) hI1 hF1
      · refine to_ialR (i := i) (v := (nI n2)) rfl (by decide) rfl (by omega) (by omega) e2 ?_
        refine to_n 1 (fr' := (67, [(0, .ref 49), (1, .int (nI k1)), (2, .int y), (3, .int (nI i))], [.int (nI k1), .int (nI n2), .int y], gh S a b sc1 ar1 lo, ex, 0, 0)) rfl ?_
        refine to_nc_ne (t := 74) (x := n2) (y := k1) rfl (by omega) (by omega) (fun q3 => ?_) (fun q3 => ?_)
        · refine to_n 4 (fr' := (80, [(0, .ref 49), (1, .int (nI k1)), (2, .int (y + 0)), (3, .int ((nI i) + 1))], [], gh S a b sc1 ar1 lo, ex, 0, 0)) rfl ?_
          rw [nI_1 i]
          refine to_n 1 (fr' := (51, [(0, .ref 49), (1, .int (nI k1)), (2, .int (y + 0)), (3, .int (nI (i + 1)))], [], gh S a b sc1 ar1 lo, ex, 0, 0)) rfl ?_
          exact ih k1 (y + 0) (i + 1) sc1 ar1 (by omega) (by omega) hc51_1 hc51_2 hc51_3 hc51_4 hc51_5 hc51_6 (zcn_0 hc51_7 (ni_ne e2 q3 (by omega) (by omega))) hI1 hF1
        · refine to_n 5 (fr' := (80, [(0, .ref 49), (1, .int (nI k1)), (2, .int (y + 1)), (3, .int ((nI i) + 1))], [], gh S a b sc1 ar1 lo, ex, 0, 0)) rfl ?_
          rw [nI_1 i]
          refine to_n 1 (fr' := (51, [(0, .ref 49), (1, .int (nI k1)), (2, .int (y + 1)), (3, .int (nI (i + 1)))], [], gh S a b sc1 ar1 lo, ex, 0, 0)) rfl ?_
          exact ih k1 (y + 1) (i + 1) sc1 ar1 (by omega) (by omega) hc51_1 hc51_2 hc51_3 hc51_4 hc51_5 hc51_6 (zcn_y hc51_7 (e2.trans (congrArg nI q3))) hI1 hF1
  refine to_n 2 (fr' := (2, [(0, .ref 49), (1, .int x1)], [.int 0, .ref 49], gh S a b sc ar lo, ex, 0, 0)) rfl ?_
  refine to_putR (h' := gh S a b (upd sc 4901 0) ar lo) rfl rfl rfl (Nat.le_of_ble_eq_true rfl) rfl rfl ?_
  have hI4 := ip_4901 (v := 0) hI 
  have hF4 := fr_s (k := 4901) (v := 0) hF (by decide)
  refine to_n 2 (fr' := (7, [(0, .ref 49), (1, .int x1)], [.int x1, .ref 49], gh S a b (upd sc 4901 0) ar lo, ex, 0, 0)) rfl ?_
  rcases has_or (x := x1) (B := S) (by omega) with ⟨n5, hn5, e5⟩ | w5
  · refine to_eq (fr' := (7, [(0, .ref 49), (1, .int (nI n5))], [.int (nI n5), .ref 49], gh S a b (upd sc 4901 0) ar lo, ex, 0, 0)) (by rw [e5]) ?_
    refine to_cp (q := 110) (M1 := an_X10_isCell) (rest := []) rfl rfl (by decide) rfl ⟨_, rfl⟩ (mc_isCell_1 (n := n5) hW (by omega) (d + 5)) (fun x5 hx5 => ?_)
    obtain rfl := hx5
    refine to_eq (fr' := (10, [(0, .ref 49), (1, .int (nI n5))], [.int 1], gh S a b (upd sc 4901 0) ar lo, ex, 0, 0)) rfl ?_
    refine to_n 2 (fr' := (19, [(0, .ref 49), (1, .int (nI n5))], [.ref 49], gh S a b (upd sc 4901 0) ar lo, ex, 0, 0)) rfl ?_
    refine to_get rfl rfl rfl rfl ?_
    refine to_n 1 (fr' := (23, [(0, .ref 49), (1, .int (nI n5))], [.int (nI n5), .ref 51], gh S a b (upd sc 4901 0) ar lo, ex, 0, 0)) rfl ?_
    refine to_ialR (i := n5) (v := ((ar 51) n5)) rfl (by decide) rfl (by omega) (by omega) rfl ?_
    refine to_if_eq (t := 29) rfl (fun q6 => ?_) (fun q6 => ?_)
    · refine to_n 1 (fr' := (30, [(0, .ref 49), (1, .int (nI n5))], [.ref 49], gh S a b (upd sc 4901 0) ar lo, ex, 0, 0)) rfl ?_
      refine to_get rfl rfl rfl rfl ?_
      refine to_n 2 (fr' := (35, [(0, .ref 49), (1, .int (nI n5))], [.int 1, .int (nI n5), .ref 51], gh S a b (upd sc 4901 0) ar lo, ex, 0, 0)) rfl ?_
      refine to_iasR (i := n5) (h' := gh S a b (upd sc 4901 0) (uA ar 51 (upd (ar 51) n5 1)) lo) rfl rfl (by omega) (by omega) rfl ?_
      have hI7 := ia_51 (g := (upd (ar 51) n5 1)) hI4
      have hF7 := fr_a (c := 51) (g := (upd (ar 51) n5 1)) hF4 (by decide)
      refine to_n 3 (fr' := (39, [(0, .ref 49), (1, .int (nI n5))], [.int 1, .int (nI n5), .ref 49], gh S a b (upd sc 4901 0) (uA ar 51 (upd (ar 51) n5 1)) lo, ex, 0, 0)) rfl ?_
      refine to_cv (q := 142) (M1 := an_X10_noGoal) (rest := []) rfl rfl (by decide) rfl ⟨_, rfl⟩ (sf_X10_noGoal hW hI7 n (by omega) (nI n5) 1 ((hF7.1 4906 (by decide)).trans en) (d + 5)) (fun sc8 ar8 hx8 => ?_)
      obtain ⟨hI8, hG8, hx8⟩ := hx8
      have hF8 := fr_t hF7 hG8 (by decide) (by decide)
      refine to_eq (fr' := (42, [(0, .ref 49), (1, .int (nI n5))], [], gh S a b sc8 ar8 lo, ex, 0, 0)) rfl ?_
      refine to_n 2 (fr' := (44, [(0, .ref 49), (1, .int (nI n5))], [.int (nI n5), .ref 49], gh S a b sc8 ar8 lo, ex, 0, 0)) rfl ?_
      refine to_cv (q := 143) (M1 := an_X10_ring) (rest := []) rfl rfl (by decide) rfl ⟨_, rfl⟩ (sf_X10_ring hW hI8 n (by omega) h (by omega) l0 (by omega) n5 (by omega) (lw_fr hL hF8 (by decide) (by decide) (by decide) (by decide)) (ld_fr hD hF8 (by decide) (by decide) (by decide)) ((hF8.1 4906 (by decide)).trans en) ((hF8.1 4904 (by decide)).trans eh) ((hF8.1 4907 (by decide)).trans el0) d) (fun sc9 ar9 hx9 => ?_)
      obtain ⟨hI9, hG9, hx9⟩ := hx9
      have hF9 := fr_t hF8 hG9 (by decide) (by decide)
      simp only [show ar8 53 = ar 53 from hF8.2 53 (by decide), show ar8 52 = ar 52 from hF8.2 52 (by decide), show ar8 54 = ar 54 from hF8.2 54 (by decide), show ar8 59 = ar 59 from hF8.2 59 (by decide), show ar8 60 = ar 60 from hF8.2 60 (by decide), show ar8 61 = ar 61 from hF8.2 61 (by decide), show ar8 71 = ar 71 from hF8.2 71 (by decide), show ar8 70 = ar 70 from hF8.2 70 (by decide), show ar8 73 = ar 73 from hF8.2 73 (by decide), show ar8 68 = ar 68 from hF8.2 68 (by decide), show ar8 69 = ar 69 from hF8.2 69 (by decide)] at hx9
      refine to_eq (fr' := (47, [(0, .ref 49), (1, .int (nI n5))], [], gh S a b sc9 ar9 lo, ex, 0, 0)) rfl ?_
      refine to_n 4 (fr' := (51, [(0, .ref 49), (1, .int (nI n5)), (2, .int 0), (3, .int 0)], [], gh S a b sc9 ar9 lo, ex, 0, 0)) rfl ?_
      exact c51 (n - 0) n5 0 0 sc9 ar9 (by omega) (by omega) e5 q6 ((hG9.2 51 (by decide)).trans (hG8.2 51 (by decide))) (by rw [hx9.1, hx8, hG8.2 51 (by decide)]; rfl) (by rw [hx9.2, hx8, hG8.2 51 (by decide), hG8.2 66 (by decide)]; rfl) (((hG9.1 4901 (by decide)).trans (hG8.1 4901 (by decide))).trans rfl) rfl hI9 hF9
    · refine to_n 1 (fr' := (28, [(0, .ref 49), (1, .int (nI n5))], [.int (-1)], gh S a b (upd sc 4901 0) ar lo, ex, 0, 0)) rfl ?_
      exact to_rt (i := .ireturn) (tg := []) rfl rfl ⟨_, _, _, ⟨hI4, hF4, (Or.inl ⟨n5, by omega, e5, Or.inl ⟨q6, rfl, rfl, rfl, rfl⟩, rfl⟩)⟩, rfl⟩
  · refine to_cp (q := 110) (M1 := an_X10_isCell) (rest := []) rfl rfl (by decide) rfl ⟨_, rfl⟩ (mc_isCell_0 hW w5 (d + 5)) (fun x5 hx5 => ?_)
    obtain rfl := hx5
    refine to_eq (fr' := (10, [(0, .ref 49), (1, .int x1)], [.int 0], gh S a b (upd sc 4901 0) ar lo, ex, 0, 0)) rfl ?_
    refine to_n 2 (fr' := (14, [(0, .ref 49), (1, .int x1)], [.ref 49], gh S a b (upd sc 4901 0) ar lo, ex, 0, 0)) rfl ?_
    refine to_ci (q := 109) (M1 := an_X10_fail) (rest := []) rfl rfl (by decide) rfl ⟨_, rfl⟩ (sf_X10_fail hW hI4  (d + 5)) (fun x10 sc10 ar10 hx10 => ?_)
    obtain ⟨hI10, hG10, hx10⟩ := hx10
    have hF10 := fr_t hF4 hG10 (by decide) (by decide)
    have hp10 := hx10
    refine to_eq (fr' := (17, [(0, .ref 49), (1, .int x1)], [.int x10], gh S a b sc10 ar10 lo, ex, 0, 0)) rfl ?_
    exact to_rt (i := .ireturn) (tg := []) rfl rfl ⟨_, _, _, ⟨hI10, hF10, (Or.inr ⟨w5, hG10.2 51 (by decide), hG10.2 62 (by decide), hG10.2 66 (by decide), hp10⟩)⟩, rfl⟩
set_option maxRecDepth 20000 in
theorem sf_X10_aim {X : Nat × (Nat → Int32)} {S a b : Nat} {sc : Nat → Int32} {ar : Nat → Nat → Int32} {lo : Nat → Int64} {ex : Bool} (hW : Wd S a b) (hI : Iv S sc ar) (n : Nat) (enb : n < 9) (x1 : Int32) (x2 : Int32) (k3 : Nat) (hk3 : k3 < 2) (en : sc 4906 = nI n) (d : Nat)  : ci X S a b (d + 2) 145 [.ref 49, .int x1, .int x2, .int (nI k3)] sc ar lo ex (fun x sc' ar' => Iv S sc' ar' ∧ Fr [4901] [57, 62, 66] sc ar sc' ar' ∧ rl x 2 ∧ ((∃ c k : Nat, c < n ∧ x1 = nI c ∧ k < S ∧ x2 = nI k ∧ zar c k (if k3 = 0 then 1 else 0) (nI k3) x (ar 51) (ar 57) (ar 62) (ar 66) (ar' 57) (ar' 62) (ar' 66) ∧ sc' 4901 = 0) ∨ ((¬ (0 ≤ x1 ∧ x1 < nI n) ∨ ¬ (0 ≤ x2 ∧ x2 < nI S)) ∧ ar' 57 = ar 57 ∧ ar' 62 = ar 62 ∧ ar' 66 = ar 66 ∧ sc' 4901 = 1))) := by
  obtain ⟨ha1, ha8, hb1, hb8, hab, hS1, hS⟩ := id hW
  refine ci_of (M := an_X10_aim) rfl (Nat.le_of_ble_eq_true rfl) ?_
  have hF : Fr [4901] [57, 62, 66] sc ar sc ar := fr_0
  refine to_eq (fr' := (0, [(0, .ref 49), (1, .int x1), (2, .int x2), (3, .int (nI k3))], [], gh S a b sc ar lo, ex, 0, 0)) rfl ?_
  have c71 : ∀ m : Nat, ∀ (c1 : Nat) (k1 : Nat) (i : Nat) (sc1 : Nat → Int32) (ar1 : Nat → Nat → Int32), i + m = 64 → c1 < n → k1 < S → x1 = nI c1 → x2 = nI k1 → ar1 57 = fgl i (nI c1) (ar 57) → ar 51 k1 = (if k3 = 0 then 1 else 0) → ¬ (ar 62 c1 = nI k1 ∧ ar 66 c1 = nI k3) → sc1 4901 = 0 → ar1 62 = ar 62 → ar1 66 = ar 66 → Iv S sc1 ar1 → Fr [4901] [57, 62, 66] sc ar sc1 ar1 → ag_To X (d + 1) an_X10_aim (71, [(0, .ref 49), (1, .int (nI c1)), (2, .int (nI k1)), (3, .int (nI k3)), (4, .int (nI i))], [], gh S a b sc1 ar1 lo, ex, 0, 0) (qi S a b lo ex (fun x sc' ar' => Iv S sc' ar' ∧ Fr [4901] [57, 62, 66] sc ar sc' ar' ∧ rl x 2 ∧ ((∃ c k : Nat, c < n ∧ x1 = nI c ∧ k < S ∧ x2 = nI k ∧ zar c k (if k3 = 0 then 1 else 0) (nI k3) x (ar 51) (ar 57) (ar 62) (ar 66) (ar' 57) (ar' 62) (ar' 66) ∧ sc' 4901 = 0) ∨ ((¬ (0 ≤ x1 ∧ x1 < nI n) ∨ ¬ (0 ≤ x2 ∧ x2 < nI S)) ∧ ar' 57 = ar 57 ∧ ar' 62 = ar 62 ∧ ar' 66 = ar 66 ∧ sc' 4901 = 1)))) := by
    intro m
    induction m with
    | zero =>
      intro c1 k1 i sc1 ar1 hm hc71_0 hc71_1 hc71_2 hc71_3 hc71_4 hc71_5 hc71_6 hc71_7 hc71_8 hc71_9 hI1 hF1
      refine to_n 2 (fr' := (75, [(0, .ref 49), (1, .int (nI c1)), (2, .int (nI k1)), (3, .int (nI k3)), (4, .int (nI i))], [.int 64, .int (nI i)], gh S a b sc1 ar1 lo, ex, 0, 0)) rfl ?_
      refine to_nc_ge_T (t := 103) (x := i) (y := 64) rfl (by omega) (by omega) (by omega) ?_
      refine to_n 1 (fr' := (104, [(0, .ref 49), (1, .int (nI c1)), (2, .int (nI k1)), (3, .int (nI k3)), (4, .int (nI i))], [.ref 49], gh S a b sc1 ar1 lo, ex, 0, 0)) rfl ?_
      refine to_get rfl rfl rfl rfl ?_
      refine to_n 2 (fr' := (109, [(0, .ref 49), (1, .int (nI c1)), (2, .int (nI k1)), (3, .int (nI k3)), (4, .int (nI i))], [.int (nI k1), .int (nI c1), .ref 62], gh S a b sc1 ar1 lo, ex, 0, 0)) rfl ?_
      refine to_iasR (i := c1) (h' := gh S a b sc1 (uA ar1 62 (upd (ar1 62) c1 (nI k1))) lo) rfl rfl (by omega) (by omega) rfl ?_
      have hI2 := ia_62 (i := c1) (v := (nI k1)) hI1 (rq_n (n := k1) (by omega))
      have hF2 := fr_a (c := 62) (g := (upd (ar1 62) c1 (nI k1))) hF1 (by decide)
      refine to_n 1 (fr' := (111, [(0, .ref 49), (1, .int (nI c1)), (2, .int (nI k1)), (3, .int (nI k3)), (4, .int (nI i))], [.ref 49], gh S a b sc1 (uA ar1 62 (upd (ar1 62) c1 (nI k1))) lo, ex, 0, 0)) rfl ?_
      refine to_get rfl rfl rfl rfl ?_
      refine to_n 2 (fr' := (116, [(0, .ref 49), (1, .int (nI c1)), (2, .int (nI k1)), (3, .int (nI k3)), (4, .int (nI i))], [.int (nI k3), .int (nI c1), .ref 66], gh S a b sc1 (uA ar1 62 (upd (ar1 62) c1 (nI k1))) lo, ex, 0, 0)) rfl ?_
      refine to_zasR (i := c1) (h' := gh S a b sc1 (uA (uA ar1 62 (upd (ar1 62) c1 (nI k1))) 66 (upd ((uA ar1 62 (upd (ar1 62) c1 (nI k1))) 66) c1 (vp_nar .boolean (nI k3)))) lo) rfl rfl (by omega) (by omega) rfl ?_
      have hI3 := ia_66 (g := (upd ((uA ar1 62 (upd (ar1 62) c1 (nI k1))) 66) c1 (vp_nar .boolean (nI k3)))) hI2
      have hF3 := fr_a (c := 66) (g := (upd ((uA ar1 62 (upd (ar1 62) c1 (nI k1))) 66) c1 (vp_nar .boolean (nI k3)))) hF2 (by decide)
      refine to_n 1 (fr' := (118, [(0, .ref 49), (1, .int (nI c1)), (2, .int (nI k1)), (3, .int (nI k3)), (4, .int (nI i))], [.int 1], gh S a b sc1 (uA (uA ar1 62 (upd (ar1 62) c1 (nI k1))) 66 (upd ((uA ar1 62 (upd (ar1 62) c1 (nI k1))) 66) c1 (vp_nar .boolean (nI k3)))) lo, ex, 0, 0)) rfl ?_
      exact to_rt (i := .ireturn) (tg := []) rfl rfl ⟨_, _, _, ⟨hI3, hF3, ⟨rl_n (n := 1) (by omega), (Or.inl ⟨c1, k1, hc71_0, hc71_2, hc71_1, hc71_3, Or.inl ⟨rfl, ⟨hc71_5, hc71_6⟩, (by have e9 : i = 64 := (by omega); rw [e9] at hc71_4; exact hc71_4), congrArg (fun f => upd f c1 (nI k1)) hc71_8, (zwe_b (by omega)).trans (congrArg (fun f => upd f c1 (nI k3)) hc71_9)⟩, hc71_7⟩)⟩⟩, rfl⟩
    | succ m ih =>
      intro c1 k1 i sc1 ar1 hm hc71_0 hc71_1 hc71_2 hc71_3 hc71_4 hc71_5 hc71_6 hc71_7 hc71_8 hc71_9 hI1 hF1
      refine to_n 2 (fr' := (75, [(0, .ref 49), (1, .int (nI c1)), (2, .int (nI k1)), (3, .int (nI k3)), (4, .int (nI i))], [.int 64, .int (nI i)], gh S a b sc1 ar1 lo, ex, 0, 0)) rfl ?_
      refine to_nc_ge_F (t := 103) (x := i) (y := 64) rfl (by omega) (by omega) (by omega) ?_
      refine to_n 1 (fr' := (79, [(0, .ref 49), (1, .int (nI c1)), (2, .int (nI k1)), (3, .int (nI k3)), (4, .int (nI i))], [.ref 49], gh S a b sc1 ar1 lo, ex, 0, 0)) rfl ?_
      refine to_get rfl rfl rfl rfl ?_
      refine to_n 1 (fr' := (84, [(0, .ref 49), (1, .int (nI c1)), (2, .int (nI k1)), (3, .int (nI k3)), (4, .int (nI i))], [.int (nI i), .ref 57], gh S a b sc1 ar1 lo, ex, 0, 0)) rfl ?_
      rcases iv_a57 hI1 i with e4 | ⟨n4, hn4, e4⟩
      · refine to_ialR (i := i) (v := (-1)) rfl (by decide) rfl (by omega) (by omega) e4 ?_
        refine to_n 1 (fr' := (86, [(0, .ref 49), (1, .int (nI c1)), (2, .int (nI k1)), (3, .int (nI k3)), (4, .int (nI i))], [.int (nI c1), .int (-1)], gh S a b sc1 ar1 lo, ex, 0, 0)) rfl ?_
        refine to_ic_ne_T (t := 97) (x := (-1)) (y := (nI c1)) rfl (fun w => nI_neg (n := c1) (x := (-1)) (by omega) (by decide) w.symm) ?_
        refine to_n 1 (fr' := (100, [(0, .ref 49), (1, .int (nI c1)), (2, .int (nI k1)), (3, .int (nI k3)), (4, .int ((nI i) + 1))], [], gh S a b sc1 ar1 lo, ex, 0, 0)) rfl ?_
        rw [nI_1 i]
        refine to_n 1 (fr' := (71, [(0, .ref 49), (1, .int (nI c1)), (2, .int (nI k1)), (3, .int (nI k3)), (4, .int (nI (i + 1)))], [], gh S a b sc1 ar1 lo, ex, 0, 0)) rfl ?_
        exact ih c1 k1 (i + 1) sc1 ar1 (by omega) (by omega) (by omega) hc71_2 hc71_3 (fgl_n hc71_4 (ni_m e4 (by omega))) hc71_5 hc71_6 hc71_7 hc71_8 hc71_9 hI1 hF1
      · refine to_ialR (i := i) (v := (nI n4)) rfl (by decide) rfl (by omega) (by omega) e4 ?_
        refine to_n 1 (fr' := (86, [(0, .ref 49), (1, .int (nI c1)), (2, .int (nI k1)), (3, .int (nI k3)), (4, .int (nI i))], [.int (nI c1), .int (nI n4)], gh S a b sc1 ar1 lo, ex, 0, 0)) rfl ?_
        refine to_nc_ne (t := 97) (x := n4) (y := c1) rfl (by omega) (by omega) (fun q5 => ?_) (fun q5 => ?_)
        · refine to_n 1 (fr' := (100, [(0, .ref 49), (1, .int (nI c1)), (2, .int (nI k1)), (3, .int (nI k3)), (4, .int ((nI i) + 1))], [], gh S a b sc1 ar1 lo, ex, 0, 0)) rfl ?_
          rw [nI_1 i]
          refine to_n 1 (fr' := (71, [(0, .ref 49), (1, .int (nI c1)), (2, .int (nI k1)), (3, .int (nI k3)), (4, .int (nI (i + 1)))], [], gh S a b sc1 ar1 lo, ex, 0, 0)) rfl ?_
          exact ih c1 k1 (i + 1) sc1 ar1 (by omega) (by omega) (by omega) hc71_2 hc71_3 (fgl_n hc71_4 (ni_ne e4 q5 (by omega) (by omega))) hc71_5 hc71_6 hc71_7 hc71_8 hc71_9 hI1 hF1
        · refine to_n 1 (fr' := (90, [(0, .ref 49), (1, .int (nI c1)), (2, .int (nI k1)), (3, .int (nI k3)), (4, .int (nI i))], [.ref 49], gh S a b sc1 ar1 lo, ex, 0, 0)) rfl ?_
          refine to_get rfl rfl rfl rfl ?_
          refine to_n 2 (fr' := (96, [(0, .ref 49), (1, .int (nI c1)), (2, .int (nI k1)), (3, .int (nI k3)), (4, .int (nI i))], [.int (-1), .int (nI i), .ref 57], gh S a b sc1 ar1 lo, ex, 0, 0)) rfl ?_
          refine to_iasR (i := i) (h' := gh S a b sc1 (uA ar1 57 (upd (ar1 57) i (-1))) lo) rfl rfl (by omega) (by omega) rfl ?_
          have hI6 := ia_57 (i := i) (v := (-1)) hI1 (rq_m)
          have hF6 := fr_a (c := 57) (g := (upd (ar1 57) i (-1))) hF1 (by decide)
          refine to_n 1 (fr' := (100, [(0, .ref 49), (1, .int (nI c1)), (2, .int (nI k1)), (3, .int (nI k3)), (4, .int ((nI i) + 1))], [], gh S a b sc1 (uA ar1 57 (upd (ar1 57) i (-1))) lo, ex, 0, 0)) rfl ?_
          rw [nI_1 i]
          refine to_n 1 (fr' := (71, [(0, .ref 49), (1, .int (nI c1)), (2, .int (nI k1)), (3, .int (nI k3)), (4, .int (nI (i + 1)))], [], gh S a b sc1 (uA ar1 57 (upd (ar1 57) i (-1))) lo, ex, 0, 0)) rfl ?_
          exact ih c1 k1 (i + 1) sc1 (uA ar1 57 (upd (ar1 57) i (-1))) (by omega) (by omega) (by omega) hc71_2 hc71_3 (fgl_y hc71_4 (e4.trans (congrArg nI q5))) hc71_5 hc71_6 hc71_7 hc71_8 hc71_9 hI6 hF6
  refine to_n 2 (fr' := (2, [(0, .ref 49), (1, .int x1), (2, .int x2), (3, .int (nI k3))], [.int 0, .ref 49], gh S a b sc ar lo, ex, 0, 0)) rfl ?_
  refine to_putR (h' := gh S a b (upd sc 4901 0) ar lo) rfl rfl rfl (Nat.le_of_ble_eq_true rfl) rfl rfl ?_
  have hI7 := ip_4901 (v := 0) hI 
  have hF7 := fr_s (k := 4901) (v := 0) hF (by decide)
  refine to_n 2 (fr' := (7, [(0, .ref 49), (1, .int x1), (2, .int x2), (3, .int (nI k3))], [.int x1, .ref 49], gh S a b (upd sc 4901 0) ar lo, ex, 0, 0)) rfl ?_
  rcases has_or (x := x1) (B := n) (by omega) with ⟨n8, hn8, e8⟩ | w8
  · refine to_eq (fr' := (7, [(0, .ref 49), (1, .int (nI n8)), (2, .int x2), (3, .int (nI k3))], [.int (nI n8), .ref 49], gh S a b (upd sc 4901 0) ar lo, ex, 0, 0)) (by rw [e8]) ?_
    refine to_cp (q := 111) (M1 := an_X10_isCompany) (rest := []) rfl rfl (by decide) rfl ⟨_, rfl⟩ (mc_isCompany_1 (n := n8) ((hF7.1 4906 (by decide)).trans en) (by omega) d) (fun x8 hx8 => ?_)
    obtain rfl := hx8
    refine to_eq (fr' := (10, [(0, .ref 49), (1, .int (nI n8)), (2, .int x2), (3, .int (nI k3))], [.int 1], gh S a b (upd sc 4901 0) ar lo, ex, 0, 0)) rfl ?_
    refine to_n 3 (fr' := (15, [(0, .ref 49), (1, .int (nI n8)), (2, .int x2), (3, .int (nI k3))], [.int x2, .ref 49], gh S a b (upd sc 4901 0) ar lo, ex, 0, 0)) rfl ?_
    rcases has_or (x := x2) (B := S) (by omega) with ⟨n9, hn9, e9⟩ | w9
    · refine to_eq (fr' := (15, [(0, .ref 49), (1, .int (nI n8)), (2, .int (nI n9)), (3, .int (nI k3))], [.int (nI n9), .ref 49], gh S a b (upd sc 4901 0) ar lo, ex, 0, 0)) (by rw [e9]) ?_
      refine to_cp (q := 110) (M1 := an_X10_isCell) (rest := []) rfl rfl (by decide) rfl ⟨_, rfl⟩ (mc_isCell_1 (n := n9) hW (by omega) d) (fun x9 hx9 => ?_)
      obtain rfl := hx9
      refine to_eq (fr' := (18, [(0, .ref 49), (1, .int (nI n8)), (2, .int (nI n9)), (3, .int (nI k3))], [.int 1], gh S a b (upd sc 4901 0) ar lo, ex, 0, 0)) rfl ?_
      refine to_n 2 (fr' := (29, [(0, .ref 49), (1, .int (nI n8)), (2, .int (nI n9)), (3, .int (nI k3))], [.ref 49], gh S a b (upd sc 4901 0) ar lo, ex, 0, 0)) rfl ?_
      refine to_get rfl rfl rfl rfl ?_
      refine to_n 1 (fr' := (33, [(0, .ref 49), (1, .int (nI n8)), (2, .int (nI n9)), (3, .int (nI k3))], [.int (nI n9), .ref 51], gh S a b (upd sc 4901 0) ar lo, ex, 0, 0)) rfl ?_
      refine to_ialR (i := n9) (v := (ar 51 n9)) rfl (by decide) rfl (by omega) (by omega) (congrFun (hF7.2 51 (by decide)) n9) ?_
      refine to_n 1 (fr' := (35, [(0, .ref 49), (1, .int (nI n8)), (2, .int (nI n9)), (3, .int (nI k3))], [.int (nI k3), .int (ar 51 n9)], gh S a b (upd sc 4901 0) ar lo, ex, 0, 0)) rfl ?_
      refine to_nf_eq (t := 42) (x := k3) rfl (by omega) (fun q10 => ?_) (fun q10 => ?_)
      · refine to_n 1 (fr' := (43, [(0, .ref 49), (1, .int (nI n8)), (2, .int (nI n9)), (3, .int (nI k3))], [.int 1, .int (ar 51 n9)], gh S a b (upd sc 4901 0) ar lo, ex, 0, 0)) rfl ?_
        refine to_ic_ne (t := 66) rfl (fun q11 => ?_) (fun q11 => ?_)
        · refine to_n 1 (fr' := (67, [(0, .ref 49), (1, .int (nI n8)), (2, .int (nI n9)), (3, .int (nI k3))], [.int 0], gh S a b (upd sc 4901 0) ar lo, ex, 0, 0)) rfl ?_
          exact to_rt (i := .ireturn) (tg := []) rfl rfl ⟨_, _, _, ⟨hI7, hF7, ⟨rl_n (n := 0) (by omega), (Or.inl ⟨n8, n9, (by omega), e8, (by omega), e9, Or.inr ⟨rfl, (fun w => q11 (by have := w.1; rw [if_pos q10] at this; exact this)), rfl, rfl, rfl⟩, rfl⟩)⟩⟩, rfl⟩
        · refine to_n 1 (fr' := (47, [(0, .ref 49), (1, .int (nI n8)), (2, .int (nI n9)), (3, .int (nI k3))], [.ref 49], gh S a b (upd sc 4901 0) ar lo, ex, 0, 0)) rfl ?_
          refine to_get rfl rfl rfl rfl ?_
          refine to_n 1 (fr' := (51, [(0, .ref 49), (1, .int (nI n8)), (2, .int (nI n9)), (3, .int (nI k3))], [.int (nI n8), .ref 62], gh S a b (upd sc 4901 0) ar lo, ex, 0, 0)) rfl ?_
          rcases iv_a62 hI7 n8 with e12 | ⟨n12, hn12, e12⟩
          · refine to_ialR (i := n8) (v := (-1)) rfl (by decide) rfl (by omega) (by omega) e12 ?_
            refine to_n 1 (fr' := (53, [(0, .ref 49), (1, .int (nI n8)), (2, .int (nI n9)), (3, .int (nI k3))], [.int (nI n9), .int (-1)], gh S a b (upd sc 4901 0) ar lo, ex, 0, 0)) rfl ?_
            refine to_ic_ne_T (t := 68) (x := (-1)) (y := (nI n9)) rfl (fun w => nI_neg (n := n9) (x := (-1)) (by omega) (by decide) w.symm) ?_
            refine to_n 2 (fr' := (71, [(0, .ref 49), (1, .int (nI n8)), (2, .int (nI n9)), (3, .int (nI k3)), (4, .int 0)], [], gh S a b (upd sc 4901 0) ar lo, ex, 0, 0)) rfl ?_
            exact c71 (64 - 0) n8 n9 0 (upd sc 4901 0) ar (by omega) (by omega) (by omega) e8 e9 fgl_0 (by rw [if_pos q10]; exact q11) (fun w => ni_m e12 (by omega) w.1) rfl rfl rfl hI7 hF7
          · refine to_ialR (i := n8) (v := (nI n12)) rfl (by decide) rfl (by omega) (by omega) e12 ?_
            refine to_n 1 (fr' := (53, [(0, .ref 49), (1, .int (nI n8)), (2, .int (nI n9)), (3, .int (nI k3))], [.int (nI n9), .int (nI n12)], gh S a b (upd sc 4901 0) ar lo, ex, 0, 0)) rfl ?_
            refine to_nc_ne (t := 68) (x := n12) (y := n9) rfl (by omega) (by omega) (fun q13 => ?_) (fun q13 => ?_)
            · refine to_n 2 (fr' := (71, [(0, .ref 49), (1, .int (nI n8)), (2, .int (nI n9)), (3, .int (nI k3)), (4, .int 0)], [], gh S a b (upd sc 4901 0) ar lo, ex, 0, 0)) rfl ?_
              exact c71 (64 - 0) n8 n9 0 (upd sc 4901 0) ar (by omega) (by omega) (by omega) e8 e9 fgl_0 (by rw [if_pos q10]; exact q11) (fun w => ni_ne e12 q13 (by omega) (by omega) w.1) rfl rfl rfl hI7 hF7
            · refine to_n 1 (fr' := (57, [(0, .ref 49), (1, .int (nI n8)), (2, .int (nI n9)), (3, .int (nI k3))], [.ref 49], gh S a b (upd sc 4901 0) ar lo, ex, 0, 0)) rfl ?_
              refine to_get rfl rfl rfl rfl ?_
              refine to_n 1 (fr' := (61, [(0, .ref 49), (1, .int (nI n8)), (2, .int (nI n9)), (3, .int (nI k3))], [.int (nI n8), .ref 66], gh S a b (upd sc 4901 0) ar lo, ex, 0, 0)) rfl ?_
              refine to_zalR (i := n8) (v := ((ar 66) n8)) rfl rfl (by omega) (by omega) rfl ?_
              refine to_n 1 (fr' := (63, [(0, .ref 49), (1, .int (nI n8)), (2, .int (nI n9)), (3, .int (nI k3))], [.int (nI k3), .int ((ar 66) n8)], gh S a b (upd sc 4901 0) ar lo, ex, 0, 0)) rfl ?_
              refine to_ic_ne (t := 68) rfl (fun q14 => ?_) (fun q14 => ?_)
              · refine to_n 2 (fr' := (71, [(0, .ref 49), (1, .int (nI n8)), (2, .int (nI n9)), (3, .int (nI k3)), (4, .int 0)], [], gh S a b (upd sc 4901 0) ar lo, ex, 0, 0)) rfl ?_
                exact c71 (64 - 0) n8 n9 0 (upd sc 4901 0) ar (by omega) (by omega) (by omega) e8 e9 fgl_0 (by rw [if_pos q10]; exact q11) (fun w => q14 w.2) rfl rfl rfl hI7 hF7
              · refine to_n 1 (fr' := (67, [(0, .ref 49), (1, .int (nI n8)), (2, .int (nI n9)), (3, .int (nI k3))], [.int 0], gh S a b (upd sc 4901 0) ar lo, ex, 0, 0)) rfl ?_
                exact to_rt (i := .ireturn) (tg := []) rfl rfl ⟨_, _, _, ⟨hI7, hF7, ⟨rl_n (n := 0) (by omega), (Or.inl ⟨n8, n9, (by omega), e8, (by omega), e9, Or.inr ⟨rfl, (fun w => w.2 ⟨e12.trans (congrArg nI q13), q14⟩), rfl, rfl, rfl⟩, rfl⟩)⟩⟩, rfl⟩
      · refine to_n 2 (fr' := (43, [(0, .ref 49), (1, .int (nI n8)), (2, .int (nI n9)), (3, .int (nI k3))], [.int 0, .int (ar 51 n9)], gh S a b (upd sc 4901 0) ar lo, ex, 0, 0)) rfl ?_
        refine to_ic_ne (t := 66) rfl (fun q15 => ?_) (fun q15 => ?_)
        · refine to_n 1 (fr' := (67, [(0, .ref 49), (1, .int (nI n8)), (2, .int (nI n9)), (3, .int (nI k3))], [.int 0], gh S a b (upd sc 4901 0) ar lo, ex, 0, 0)) rfl ?_
          exact to_rt (i := .ireturn) (tg := []) rfl rfl ⟨_, _, _, ⟨hI7, hF7, ⟨rl_n (n := 0) (by omega), (Or.inl ⟨n8, n9, (by omega), e8, (by omega), e9, Or.inr ⟨rfl, (fun w => q15 (by have := w.1; rw [if_neg q10] at this; exact this)), rfl, rfl, rfl⟩, rfl⟩)⟩⟩, rfl⟩
        · refine to_n 1 (fr' := (47, [(0, .ref 49), (1, .int (nI n8)), (2, .int (nI n9)), (3, .int (nI k3))], [.ref 49], gh S a b (upd sc 4901 0) ar lo, ex, 0, 0)) rfl ?_
          refine to_get rfl rfl rfl rfl ?_
          refine to_n 1 (fr' := (51, [(0, .ref 49), (1, .int (nI n8)), (2, .int (nI n9)), (3, .int (nI k3))], [.int (nI n8), .ref 62], gh S a b (upd sc 4901 0) ar lo, ex, 0, 0)) rfl ?_
          rcases iv_a62 hI7 n8 with e16 | ⟨n16, hn16, e16⟩
          · refine to_ialR (i := n8) (v := (-1)) rfl (by decide) rfl (by omega) (by omega) e16 ?_
            refine to_n 1 (fr' := (53, [(0, .ref 49), (1, .int (nI n8)), (2, .int (nI n9)), (3, .int (nI k3))], [.int (nI n9), .int (-1)], gh S a b (upd sc 4901 0) ar lo, ex, 0, 0)) rfl ?_
            refine to_ic_ne_T (t := 68) (x := (-1)) (y := (nI n9)) rfl (fun w => nI_neg (n := n9) (x := (-1)) (by omega) (by decide) w.symm) ?_
            refine to_n 2 (fr' := (71, [(0, .ref 49), (1, .int (nI n8)), (2, .int (nI n9)), (3, .int (nI k3)), (4, .int 0)], [], gh S a b (upd sc 4901 0) ar lo, ex, 0, 0)) rfl ?_
            exact c71 (64 - 0) n8 n9 0 (upd sc 4901 0) ar (by omega) (by omega) (by omega) e8 e9 fgl_0 (by rw [if_neg q10]; exact q15) (fun w => ni_m e16 (by omega) w.1) rfl rfl rfl hI7 hF7
          · refine to_ialR (i := n8) (v := (nI n16)) rfl (by decide) rfl (by omega) (by omega) e16 ?_
            refine to_n 1 (fr' := (53, [(0, .ref 49), (1, .int (nI n8)), (2, .int (nI n9)), (3, .int (nI k3))], [.int (nI n9), .int (nI n16)], gh S a b (upd sc 4901 0) ar lo, ex, 0, 0)) rfl ?_
            refine to_nc_ne (t := 68) (x := n16) (y := n9) rfl (by omega) (by omega) (fun q17 => ?_) (fun q17 => ?_)
            · refine to_n 2 (fr' := (71, [(0, .ref 49), (1, .int (nI n8)), (2, .int (nI n9)), (3, .int (nI k3)), (4, .int 0)], [], gh S a b (upd sc 4901 0) ar lo, ex, 0, 0)) rfl ?_
              exact c71 (64 - 0) n8 n9 0 (upd sc 4901 0) ar (by omega) (by omega) (by omega) e8 e9 fgl_0 (by rw [if_neg q10]; exact q15) (fun w => ni_ne e16 q17 (by omega) (by omega) w.1) rfl rfl rfl hI7 hF7
            · refine to_n 1 (fr' := (57, [(0, .ref 49), (1, .int (nI n8)), (2, .int (nI n9)), (3, .int (nI k3))], [.ref 49], gh S a b (upd sc 4901 0) ar lo, ex, 0, 0)) rfl ?_
              refine to_get rfl rfl rfl rfl ?_
              refine to_n 1 (fr' := (61, [(0, .ref 49), (1, .int (nI n8)), (2, .int (nI n9)), (3, .int (nI k3))], [.int (nI n8), .ref 66], gh S a b (upd sc 4901 0) ar lo, ex, 0, 0)) rfl ?_
              refine to_zalR (i := n8) (v := ((ar 66) n8)) rfl rfl (by omega) (by omega) rfl ?_
              refine to_n 1 (fr' := (63, [(0, .ref 49), (1, .int (nI n8)), (2, .int (nI n9)), (3, .int (nI k3))], [.int (nI k3), .int ((ar 66) n8)], gh S a b (upd sc 4901 0) ar lo, ex, 0, 0)) rfl ?_
              refine to_ic_ne (t := 68) rfl (fun q18 => ?_) (fun q18 => ?_)
              · refine to_n 2 (fr' := (71, [(0, .ref 49), (1, .int (nI n8)), (2, .int (nI n9)), (3, .int (nI k3)), (4, .int 0)], [], gh S a b (upd sc 4901 0) ar lo, ex, 0, 0)) rfl ?_
                exact c71 (64 - 0) n8 n9 0 (upd sc 4901 0) ar (by omega) (by omega) (by omega) e8 e9 fgl_0 (by rw [if_neg q10]; exact q15) (fun w => q18 w.2) rfl rfl rfl hI7 hF7
              · refine to_n 1 (fr' := (67, [(0, .ref 49), (1, .int (nI n8)), (2, .int (nI n9)), (3, .int (nI k3))], [.int 0], gh S a b (upd sc 4901 0) ar lo, ex, 0, 0)) rfl ?_
                exact to_rt (i := .ireturn) (tg := []) rfl rfl ⟨_, _, _, ⟨hI7, hF7, ⟨rl_n (n := 0) (by omega), (Or.inl ⟨n8, n9, (by omega), e8, (by omega), e9, Or.inr ⟨rfl, (fun w => w.2 ⟨e16.trans (congrArg nI q17), q18⟩), rfl, rfl, rfl⟩, rfl⟩)⟩⟩, rfl⟩
    · refine to_cp (q := 110) (M1 := an_X10_isCell) (rest := []) rfl rfl (by decide) rfl ⟨_, rfl⟩ (mc_isCell_0 hW w9 d) (fun x9 hx9 => ?_)
      obtain rfl := hx9
      refine to_eq (fr' := (18, [(0, .ref 49), (1, .int (nI n8)), (2, .int x2), (3, .int (nI k3))], [.int 0], gh S a b (upd sc 4901 0) ar lo, ex, 0, 0)) rfl ?_
      refine to_n 2 (fr' := (22, [(0, .ref 49), (1, .int (nI n8)), (2, .int x2), (3, .int (nI k3))], [.ref 49], gh S a b (upd sc 4901 0) ar lo, ex, 0, 0)) rfl ?_
      refine to_ci (q := 109) (M1 := an_X10_fail) (rest := []) rfl rfl (by decide) rfl ⟨_, rfl⟩ (sf_X10_fail hW hI7  d) (fun x19 sc19 ar19 hx19 => ?_)
      obtain ⟨hI19, hG19, hx19⟩ := hx19
      have hF19 := fr_t hF7 hG19 (by decide) (by decide)
      have hp19 := hx19
      refine to_eq (fr' := (25, [(0, .ref 49), (1, .int (nI n8)), (2, .int x2), (3, .int (nI k3))], [.int x19], gh S a b sc19 ar19 lo, ex, 0, 0)) rfl ?_
      refine to_n 2 (fr' := (27, [(0, .ref 49), (1, .int (nI n8)), (2, .int x2), (3, .int (nI k3))], [.int 0], gh S a b sc19 ar19 lo, ex, 0, 0)) rfl ?_
      exact to_rt (i := .ireturn) (tg := []) rfl rfl ⟨_, _, _, ⟨hI19, hF19, ⟨rl_n (n := 0) (by omega), (Or.inr ⟨Or.inr w9, hG19.2 57 (by decide), hG19.2 62 (by decide), hG19.2 66 (by decide), hp19⟩)⟩⟩, rfl⟩
  · refine to_cp (q := 111) (M1 := an_X10_isCompany) (rest := []) rfl rfl (by decide) rfl ⟨_, rfl⟩ (mc_isCompany_0 ((hF7.1 4906 (by decide)).trans en) w8 d) (fun x8 hx8 => ?_)
    obtain rfl := hx8
    refine to_eq (fr' := (10, [(0, .ref 49), (1, .int x1), (2, .int x2), (3, .int (nI k3))], [.int 0], gh S a b (upd sc 4901 0) ar lo, ex, 0, 0)) rfl ?_
    refine to_n 2 (fr' := (22, [(0, .ref 49), (1, .int x1), (2, .int x2), (3, .int (nI k3))], [.ref 49], gh S a b (upd sc 4901 0) ar lo, ex, 0, 0)) rfl ?_
    refine to_ci (q := 109) (M1 := an_X10_fail) (rest := []) rfl rfl (by decide) rfl ⟨_, rfl⟩ (sf_X10_fail hW hI7  d) (fun x20 sc20 ar20 hx20 => ?_)
    obtain ⟨hI20, hG20, hx20⟩ := hx20
    have hF20 := fr_t hF7 hG20 (by decide) (by decide)
    have hp20 := hx20
    refine to_eq (fr' := (25, [(0, .ref 49), (1, .int x1), (2, .int x2), (3, .int (nI k3))], [.int x20], gh S a b sc20 ar20 lo, ex, 0, 0)) rfl ?_
    refine to_n 2 (fr' := (27, [(0, .ref 49), (1, .int x1), (2, .int x2), (3, .int (nI k3))], [.int 0], gh S a b sc20 ar20 lo, ex, 0, 0)) rfl ?_
    exact to_rt (i := .ireturn) (tg := []) rfl rfl ⟨_, _, _, ⟨hI20, hF20, ⟨rl_n (n := 0) (by omega), (Or.inr ⟨Or.inl w8, hG20.2 57 (by decide), hG20.2 62 (by decide), hG20.2 66 (by decide), hp20⟩)⟩⟩, rfl⟩
set_option maxRecDepth 20000 in
theorem sf_X10_send {X : Nat × (Nat → Int32)} {S a b : Nat} {sc : Nat → Int32} {ar : Nat → Nat → Int32} {lo : Nat → Int64} {ex : Bool} (hW : Wd S a b) (hI : Iv S sc ar) (n : Nat) (enb : n < 9) (x1 : Int32) (x2 : Int32) (en : sc 4906 = nI n) (d : Nat)  : ci X S a b (d + 3) 146 [.ref 49, .int x1, .int x2] sc ar lo ex (fun x sc' ar' => Iv S sc' ar' ∧ Fr [4901] [57, 62, 66] sc ar sc' ar' ∧ rl x 2 ∧ ((∃ c k : Nat, c < n ∧ x1 = nI c ∧ k < S ∧ x2 = nI k ∧ zar c k 1 0 x (ar 51) (ar 57) (ar 62) (ar 66) (ar' 57) (ar' 62) (ar' 66) ∧ sc' 4901 = 0) ∨ ((¬ (0 ≤ x1 ∧ x1 < nI n) ∨ ¬ (0 ≤ x2 ∧ x2 < nI S)) ∧ ar' 57 = ar 57 ∧ ar' 62 = ar 62 ∧ ar' 66 = ar 66 ∧ sc' 4901 = 1))) := by
  obtain ⟨ha1, ha8, hb1, hb8, hab, hS1, hS⟩ := id hW
  refine ci_of (M := an_X10_send) rfl (Nat.le_of_ble_eq_true rfl) ?_
  have hF : Fr [4901] [57, 62, 66] sc ar sc ar := fr_0
  refine to_eq (fr' := (0, [(0, .ref 49), (1, .int x1), (2, .int x2)], [], gh S a b sc ar lo, ex, 0, 0)) rfl ?_
  refine to_n 4 (fr' := (4, [(0, .ref 49), (1, .int x1), (2, .int x2)], [.int 0, .int x2, .int x1, .ref 49], gh S a b sc ar lo, ex, 0, 0)) rfl ?_
  refine to_ci (q := 145) (M1 := an_X10_aim) (rest := []) rfl rfl (by decide) rfl ⟨_, rfl⟩ (sf_X10_aim hW hI n (by omega) x1 x2 0 (by omega) ((hF.1 4906 (by decide)).trans en) d) (fun x1 sc1 ar1 hx1 => ?_)
  obtain ⟨hI1, hG1, hx1⟩ := hx1
  have hF1 := fr_t hF hG1 (by decide) (by decide)
  obtain ⟨hx1, hp1⟩ := hx1
  obtain ⟨n1, hn1, rfl⟩ := hx1
  refine to_eq (fr' := (7, [(0, .ref 49), (1, .int x1), (2, .int x2)], [.int (nI n1)], gh S a b sc1 ar1 lo, ex, 0, 0)) rfl ?_
  exact to_rt (i := .ireturn) (tg := []) rfl (ai_rtz (rl_n (n := n1) (by omega))) ⟨_, _, _, ⟨hI1, hF1, ⟨rl_n (n := n1) (by omega), hp1⟩⟩, rfl⟩
set_option maxRecDepth 20000 in
theorem sf_X10_pull {X : Nat × (Nat → Int32)} {S a b : Nat} {sc : Nat → Int32} {ar : Nat → Nat → Int32} {lo : Nat → Int64} {ex : Bool} (hW : Wd S a b) (hI : Iv S sc ar) (n : Nat) (enb : n < 9) (x1 : Int32) (x2 : Int32) (en : sc 4906 = nI n) (d : Nat)  : ci X S a b (d + 3) 147 [.ref 49, .int x1, .int x2] sc ar lo ex (fun x sc' ar' => Iv S sc' ar' ∧ Fr [4901] [57, 62, 66] sc ar sc' ar' ∧ rl x 2 ∧ ((∃ c k : Nat, c < n ∧ x1 = nI c ∧ k < S ∧ x2 = nI k ∧ zar c k 0 1 x (ar 51) (ar 57) (ar 62) (ar 66) (ar' 57) (ar' 62) (ar' 66) ∧ sc' 4901 = 0) ∨ ((¬ (0 ≤ x1 ∧ x1 < nI n) ∨ ¬ (0 ≤ x2 ∧ x2 < nI S)) ∧ ar' 57 = ar 57 ∧ ar' 62 = ar 62 ∧ ar' 66 = ar 66 ∧ sc' 4901 = 1))) := by
  obtain ⟨ha1, ha8, hb1, hb8, hab, hS1, hS⟩ := id hW
  refine ci_of (M := an_X10_pull) rfl (Nat.le_of_ble_eq_true rfl) ?_
  have hF : Fr [4901] [57, 62, 66] sc ar sc ar := fr_0
  refine to_eq (fr' := (0, [(0, .ref 49), (1, .int x1), (2, .int x2)], [], gh S a b sc ar lo, ex, 0, 0)) rfl ?_
  refine to_n 4 (fr' := (4, [(0, .ref 49), (1, .int x1), (2, .int x2)], [.int 1, .int x2, .int x1, .ref 49], gh S a b sc ar lo, ex, 0, 0)) rfl ?_
  refine to_ci (q := 145) (M1 := an_X10_aim) (rest := []) rfl rfl (by decide) rfl ⟨_, rfl⟩ (sf_X10_aim hW hI n (by omega) x1 x2 1 (by omega) ((hF.1 4906 (by decide)).trans en) d) (fun x1 sc1 ar1 hx1 => ?_)
  obtain ⟨hI1, hG1, hx1⟩ := hx1
  have hF1 := fr_t hF hG1 (by decide) (by decide)
  obtain ⟨hx1, hp1⟩ := hx1
  obtain ⟨n1, hn1, rfl⟩ := hx1
  refine to_eq (fr' := (7, [(0, .ref 49), (1, .int x1), (2, .int x2)], [.int (nI n1)], gh S a b sc1 ar1 lo, ex, 0, 0)) rfl ?_
  exact to_rt (i := .ireturn) (tg := []) rfl (ai_rtz (rl_n (n := n1) (by omega))) ⟨_, _, _, ⟨hI1, hF1, ⟨rl_n (n := n1) (by omega), hp1⟩⟩, rfl⟩
set_option maxRecDepth 20000 in
theorem sf_X10_hours {X : Nat × (Nat → Int32)} {S a b : Nat} {sc : Nat → Int32} {ar : Nat → Nat → Int32} {lo : Nat → Int64} {ex : Bool} (hW : Wd S a b) (hI : Iv S sc ar) (n : Nat) (enb : n < 9) (l0 : Nat) (el0b : l0 < 7) (x1 : Int32) (hL : Lw sc ar) (hD : LD l0 (ar 69) (ar 70) (ar 71)) (en : sc 4906 = nI n) (el0 : sc 4907 = nI l0) (d : Nat)  : ci X S a b (d + 7) 157 [.ref 49, .int x1] sc ar lo ex (fun x sc' ar' => Iv S sc' ar' ∧ Fr [4901, 4904, 4910, 4943] [51, 54, 55, 56, 57, 61, 62, 63, 64, 65, 66, 72, 74, 75, 76] sc ar sc' ar' ∧ ((∃ h0 nn : Nat, sc 4904 = nI h0 ∧ x1 = nI nn ∧ nn ≤ 100 ∧ h0 + nn ≤ 2400 ∧ x = nI (h0 + nn) ∧ sc' 4904 = nI (h0 + nn) ∧ (zVr ar', sc' 4910) = wHs S a b n l0 h0 (sc 4905) (ar 68) (ar 71) (ar 70) (ar 73) (ar 69) nn (zVr ar, sc 4910) ∧ sc' 4901 = 0) ∨ ((∀ h n : Nat, sc 4904 = nI h → x1 = nI n → n ≤ 100 → h + n ≤ 2400 → False) ∧ sc' 4904 = sc 4904 ∧ zVr ar' = zVr ar ∧ sc' 4910 = sc 4910 ∧ sc' 4901 = 1))) := by
  obtain ⟨ha1, ha8, hb1, hb8, hab, hS1, hS⟩ := id hW
  obtain ⟨h0, hh0, eh0⟩ := iv_s4904 hI
  refine ci_of (M := an_X10_hours) rfl (Nat.le_of_ble_eq_true rfl) ?_
  have hF : Fr [4901, 4904, 4910, 4943] [51, 54, 55, 56, 57, 61, 62, 63, 64, 65, 66, 72, 74, 75, 76] sc ar sc ar := fr_0
  refine to_eq (fr' := (0, [(0, .ref 49), (1, .int x1)], [], gh S a b sc ar lo, ex, 0, 0)) rfl ?_
  have c44 : ∀ m : Nat, ∀ (nn : Nat) (h : Nat) (nw : Nat) (sc1 : Nat → Int32) (ar1 : Nat → Nat → Int32), 100 ≤ h + m → sc1 4904 = nI nw → h ≤ nn → nn ≤ 100 → h0 + nn ≤ 2400 → nw = h0 + h → x1 = nI nn → h ≤ 100 → sc1 4901 = 0 → (zVr ar1, sc1 4910) = wHs S a b n l0 h0 (sc 4905) (ar 68) (ar 71) (ar 70) (ar 73) (ar 69) h (zVr ar, sc 4910) → Iv S sc1 ar1 → Fr [4901, 4904, 4910, 4943] [51, 54, 55, 56, 57, 61, 62, 63, 64, 65, 66, 72, 74, 75, 76] sc ar sc1 ar1 → ag_To X (d + 6) an_X10_hours (44, [(0, .ref 49), (1, .int (nI nn)), (2, .int (nI S)), (3, .int (nI h))], [], gh S a b sc1 ar1 lo, ex, 0, 0) (qi S a b lo ex (fun x sc' ar' => Iv S sc' ar' ∧ Fr [4901, 4904, 4910, 4943] [51, 54, 55, 56, 57, 61, 62, 63, 64, 65, 66, 72, 74, 75, 76] sc ar sc' ar' ∧ ((∃ h0 nn : Nat, sc 4904 = nI h0 ∧ x1 = nI nn ∧ nn ≤ 100 ∧ h0 + nn ≤ 2400 ∧ x = nI (h0 + nn) ∧ sc' 4904 = nI (h0 + nn) ∧ (zVr ar', sc' 4910) = wHs S a b n l0 h0 (sc 4905) (ar 68) (ar 71) (ar 70) (ar 73) (ar 69) nn (zVr ar, sc 4910) ∧ sc' 4901 = 0) ∨ ((∀ h n : Nat, sc 4904 = nI h → x1 = nI n → n ≤ 100 → h + n ≤ 2400 → False) ∧ sc' 4904 = sc 4904 ∧ zVr ar' = zVr ar ∧ sc' 4910 = sc 4910 ∧ sc' 4901 = 1)))) := by
    intro m
    induction m with
    | zero =>
      intro nn h nw sc1 ar1 hm hc44_0 hc44_1 hc44_2 hc44_3 hc44_4 hc44_5 hc44_6 hc44_7 hc44_8 hI1 hF1
      refine to_n 2 (fr' := (46, [(0, .ref 49), (1, .int (nI nn)), (2, .int (nI S)), (3, .int (nI h))], [.int (nI nn), .int (nI h)], gh S a b sc1 ar1 lo, ex, 0, 0)) rfl ?_
      refine to_nc_ge_T (t := 216) (x := h) (y := nn) rfl (by omega) (by omega) (by omega) ?_
      refine to_n 1 (fr' := (217, [(0, .ref 49), (1, .int (nI nn)), (2, .int (nI S)), (3, .int (nI h))], [.ref 49], gh S a b sc1 ar1 lo, ex, 0, 0)) rfl ?_
      refine to_getR (v := (nI nw)) rfl rfl rfl rfl hc44_0 ?_
      exact to_rt (i := .ireturn) (tg := []) rfl rfl ⟨_, _, _, ⟨hI1, hF1, (Or.inl ⟨h0, nn, eh0, hc44_5, by omega, by omega, by rw [show h0 + nn = nw by omega], by rw [show h0 + nn = nw by omega]; exact hc44_0, by rw [show nn = h by omega]; exact hc44_8, hc44_7⟩)⟩, rfl⟩
    | succ m ih =>
      intro nn h nw sc1 ar1 hm hc44_0 hc44_1 hc44_2 hc44_3 hc44_4 hc44_5 hc44_6 hc44_7 hc44_8 hI1 hF1
      have c172 : ∀ m : Nat, ∀ (i : Nat) (sc2 : Nat → Int32) (ar2 : Nat → Nat → Int32), i + m = S → sc2 4904 = nI nw → h < nn → sc2 4901 = 0 → zVr ar2 = wRi S a n l0 nw i (ar 68) (ar 71) (ar 70) (ar 73) (ar 69) (zbr S a b (sc 4905) ((wF S a n l0 nw (sc1 4910) (ar 68) (ar 71) (ar 70) (ar 73) (ar 69) (zVr ar1)) 5) ((wF S a n l0 nw (sc1 4910) (ar 68) (ar 71) (ar 70) (ar 73) (ar 69) (zVr ar1)) 9)) (wFg n S (zbr S a b (sc 4905) ((wF S a n l0 nw (sc1 4910) (ar 68) (ar 71) (ar 70) (ar 73) (ar 69) (zVr ar1)) 5) ((wF S a n l0 nw (sc1 4910) (ar 68) (ar 71) (ar 70) (ar 73) (ar 69) (zVr ar1)) 9)) (zvWa S a b (sc 4905) (wF S a n l0 nw (sc1 4910) (ar 68) (ar 71) (ar 70) (ar 73) (ar 69) (zVr ar1)))) → sc2 4910 = wHt S a n (sc1 4910) (zVr ar1) → (∀ j : Nat, j < S → ar2 76 j = zbI (zbr S a b (sc 4905) ((wF S a n l0 nw (sc1 4910) (ar 68) (ar 71) (ar 70) (ar 73) (ar 69) (zVr ar1)) 5) ((wF S a n l0 nw (sc1 4910) (ar 68) (ar 71) (ar 70) (ar 73) (ar 69) (zVr ar1)) 9)) j) → Iv S sc2 ar2 → Fr [4901, 4904, 4910, 4943] [51, 54, 55, 56, 57, 61, 62, 63, 64, 65, 66, 72, 74, 75, 76] sc ar sc2 ar2 → ag_To X (d + 6) an_X10_hours (172, [(0, .ref 49), (1, .int (nI nn)), (2, .int (nI S)), (3, .int (nI h)), (4, .int (nI i))], [], gh S a b sc2 ar2 lo, ex, 0, 0) (qi S a b lo ex (fun x sc' ar' => Iv S sc' ar' ∧ Fr [4901, 4904, 4910, 4943] [51, 54, 55, 56, 57, 61, 62, 63, 64, 65, 66, 72, 74, 75, 76] sc ar sc' ar' ∧ ((∃ h0 nn : Nat, sc 4904 = nI h0 ∧ x1 = nI nn ∧ nn ≤ 100 ∧ h0 + nn ≤ 2400 ∧ x = nI (h0 + nn) ∧ sc' 4904 = nI (h0 + nn) ∧ (zVr ar', sc' 4910) = wHs S a b n l0 h0 (sc 4905) (ar 68) (ar 71) (ar 70) (ar 73) (ar 69) nn (zVr ar, sc 4910) ∧ sc' 4901 = 0) ∨ ((∀ h n : Nat, sc 4904 = nI h → x1 = nI n → n ≤ 100 → h + n ≤ 2400 → False) ∧ sc' 4904 = sc 4904 ∧ zVr ar' = zVr ar ∧ sc' 4910 = sc 4910 ∧ sc' 4901 = 1)))) := by
        intro m
        induction m with
        | zero =>
          intro i sc2 ar2 hm hc172_0 hc172_1 hc172_2 hc172_3 hc172_4 hc172_5 hI2 hF2
          refine to_n 2 (fr' := (175, [(0, .ref 49), (1, .int (nI nn)), (2, .int (nI S)), (3, .int (nI h)), (4, .int (nI i))], [.int (nI S), .int (nI i)], gh S a b sc2 ar2 lo, ex, 0, 0)) rfl ?_
          refine to_nc_ge_T (t := 200) (x := i) (y := S) rfl (by omega) (by omega) (by omega) ?_
          refine to_n 2 (fr' := (202, [(0, .ref 49), (1, .int (nI nn)), (2, .int (nI S)), (3, .int (nI h)), (4, .int (nI i))], [.ref 49, .ref 49], gh S a b sc2 ar2 lo, ex, 0, 0)) rfl ?_
          refine to_getR (v := (nI nw)) rfl rfl rfl rfl hc172_0 ?_
          refine to_n 1 (fr' := (206, [(0, .ref 49), (1, .int (nI nn)), (2, .int (nI S)), (3, .int (nI h)), (4, .int (nI i))], [.int 1, .int (nI nw), .ref 49], gh S a b sc2 ar2 lo, ex, 0, 0)) rfl ?_
          refine to_addN (x := nw) (y := 1) rfl ?_
          refine to_putR (h' := gh S a b (upd sc2 4904 (nI (nw + 1))) ar2 lo) rfl rfl rfl (Nat.le_of_ble_eq_true rfl) rfl rfl ?_
          have hI3 := ip_4904 (v := (nI (nw + 1))) hI2 (rl_n (n := (nw + 1)) (by omega))
          have hF3 := fr_s (k := 4904) (v := (nI (nw + 1))) hF2 (by decide)
          refine to_n 1 (fr' := (213, [(0, .ref 49), (1, .int (nI nn)), (2, .int (nI S)), (3, .int ((nI h) + 1)), (4, .int (nI i))], [], gh S a b (upd sc2 4904 (nI (nw + 1))) ar2 lo, ex, 0, 0)) rfl ?_
          rw [nI_1 h]
          refine to_n 1 (fr' := (44, [(0, .ref 49), (1, .int (nI nn)), (2, .int (nI S)), (3, .int (nI (h + 1))), (4, .int (nI i))], [], gh S a b (upd sc2 4904 (nI (nw + 1))) ar2 lo, ex, 0, 0)) rfl ?_
          refine to_lv (lv := [(0, .ref 49), (1, .int (nI nn)), (2, .int (nI S)), (3, .int (nI (h + 1)))]) rfl ⟨rfl, rfl, rfl, rfl, trivial⟩ ?_
          exact ih nn (h + 1) (nw + 1) (upd sc2 4904 (nI (nw + 1))) ar2 (by omega) (rfl) (by omega) (by omega) (by omega) (by clear ih; grind []) hc44_5 (by omega) (hc172_2) (whs_s hc44_8 (by rw [← hc44_4, hc172_3, show i = S by omega]; rfl) hc172_4) hI3 hF3
        | succ m ih =>
          intro i sc2 ar2 hm hc172_0 hc172_1 hc172_2 hc172_3 hc172_4 hc172_5 hI2 hF2
          refine to_n 2 (fr' := (175, [(0, .ref 49), (1, .int (nI nn)), (2, .int (nI S)), (3, .int (nI h)), (4, .int (nI i))], [.int (nI S), .int (nI i)], gh S a b sc2 ar2 lo, ex, 0, 0)) rfl ?_
          refine to_nc_ge_F (t := 200) (x := i) (y := S) rfl (by omega) (by omega) (by omega) ?_
          refine to_n 1 (fr' := (179, [(0, .ref 49), (1, .int (nI nn)), (2, .int (nI S)), (3, .int (nI h)), (4, .int (nI i))], [.ref 49], gh S a b sc2 ar2 lo, ex, 0, 0)) rfl ?_
          refine to_get rfl rfl rfl rfl ?_
          refine to_n 1 (fr' := (184, [(0, .ref 49), (1, .int (nI nn)), (2, .int (nI S)), (3, .int (nI h)), (4, .int (nI i))], [.int (nI i), .ref 76], gh S a b sc2 ar2 lo, ex, 0, 0)) rfl ?_
          refine to_zalR (i := i) (v := ((ar2 76) i)) rfl rfl (by omega) (by omega) rfl ?_
          refine to_if_eq (t := 194) rfl (fun q4 => ?_) (fun q4 => ?_)
          · refine to_n 1 (fr' := (197, [(0, .ref 49), (1, .int (nI nn)), (2, .int (nI S)), (3, .int (nI h)), (4, .int ((nI i) + 1))], [], gh S a b sc2 ar2 lo, ex, 0, 0)) rfl ?_
            rw [nI_1 i]
            refine to_n 1 (fr' := (172, [(0, .ref 49), (1, .int (nI nn)), (2, .int (nI S)), (3, .int (nI h)), (4, .int (nI (i + 1)))], [], gh S a b sc2 ar2 lo, ex, 0, 0)) rfl ?_
            exact ih (i + 1) sc2 ar2 (by omega) (hc172_0) (by omega) (hc172_2) (wri_n hc172_3 (zbI_f ((hc172_5 i (by omega)).symm.trans q4))) hc172_4 hc172_5 hI2 hF2
          · refine to_n 2 (fr' := (191, [(0, .ref 49), (1, .int (nI nn)), (2, .int (nI S)), (3, .int (nI h)), (4, .int (nI i))], [.int (nI i), .ref 49], gh S a b sc2 ar2 lo, ex, 0, 0)) rfl ?_
            refine to_cv (q := 143) (M1 := an_X10_ring) (rest := []) rfl rfl (by decide) rfl ⟨_, rfl⟩ (sf_X10_ring hW hI2 n (by omega) nw (by omega) l0 (by omega) i (by omega) (lw_fr hL hF2 (by decide) (by decide) (by decide) (by decide)) (ld_fr hD hF2 (by decide) (by decide) (by decide)) ((hF2.1 4906 (by decide)).trans en) hc172_0 ((hF2.1 4907 (by decide)).trans el0) d) (fun sc5 ar5 hx5 => ?_)
            obtain ⟨hI5, hG5, hx5⟩ := hx5
            have hF5 := fr_t hF2 hG5 (by decide) (by decide)
            have k5_4904 : sc5 4904 = (nI nw) := (hG5.1 4904 (by decide)).trans hc172_0
            have k5_4901 : sc5 4901 = 0 := (hG5.1 4901 (by decide)).trans hc172_2
            simp only [show ar2 71 = ar 71 from hF2.2 71 (by decide), show ar2 70 = ar 70 from hF2.2 70 (by decide), show ar2 73 = ar 73 from hF2.2 73 (by decide), show ar2 69 = ar 69 from hF2.2 69 (by decide), show ar2 68 = ar 68 from hF2.2 68 (by decide)] at hx5
            have V5 : zVr ar5 = wRf S a n l0 nw i (ar 68) (ar 71) (ar 70) (ar 73) (ar 69) (zVr ar2) := zVr_ext (zr_all (P := fun r => zVr ar5 r = wRf S a n l0 nw i (ar 68) (ar 71) (ar 70) (ar 73) (ar 69) (zVr ar2) r) (hG5.2 51 (by decide)) (hG5.2 52 (by decide)) (hG5.2 53 (by decide)) (hG5.2 54 (by decide)) (hG5.2 55 (by decide)) (hG5.2 56 (by decide)) (hG5.2 57 (by decide)) (hG5.2 58 (by decide)) (hG5.2 59 (by decide)) (hG5.2 60 (by decide)) (hG5.2 61 (by decide)) hx5.1 hx5.2 (hG5.2 63 (by decide)) (hG5.2 64 (by decide)) (hG5.2 65 (by decide))) (zv0_u (zv0_u (zv0_r) rfl) rfl)
            refine to_eq (fr' := (194, [(0, .ref 49), (1, .int (nI nn)), (2, .int (nI S)), (3, .int (nI h)), (4, .int (nI i))], [], gh S a b sc5 ar5 lo, ex, 0, 0)) rfl ?_
            refine to_n 1 (fr' := (197, [(0, .ref 49), (1, .int (nI nn)), (2, .int (nI S)), (3, .int (nI h)), (4, .int ((nI i) + 1))], [], gh S a b sc5 ar5 lo, ex, 0, 0)) rfl ?_
            rw [nI_1 i]
            refine to_n 1 (fr' := (172, [(0, .ref 49), (1, .int (nI nn)), (2, .int (nI S)), (3, .int (nI h)), (4, .int (nI (i + 1)))], [], gh S a b sc5 ar5 lo, ex, 0, 0)) rfl ?_
            exact ih (i + 1) sc5 ar5 (by omega) (k5_4904) (by omega) (k5_4901) (V5.trans (wri_y hc172_3 (zbI_t (fun w => q4 ((hc172_5 i (by omega)).trans w))))) ((hG5.1 4910 (by decide)).trans hc172_4) (fun j hj => (congrFun (hG5.2 76 (by decide)) j).trans (hc172_5 j hj)) hI5 hF5
      have c140 : ∀ m : Nat, ∀ (i : Nat) (sc6 : Nat → Int32) (ar6 : Nat → Nat → Int32), i + m = S → sc6 4904 = nI nw → h < nn → sc6 4901 = 0 → zVr ar6 = wFg n i (zbr S a b (sc 4905) ((wF S a n l0 nw (sc1 4910) (ar 68) (ar 71) (ar 70) (ar 73) (ar 69) (zVr ar1)) 5) ((wF S a n l0 nw (sc1 4910) (ar 68) (ar 71) (ar 70) (ar 73) (ar 69) (zVr ar1)) 9)) (zvWa S a b (sc 4905) (wF S a n l0 nw (sc1 4910) (ar 68) (ar 71) (ar 70) (ar 73) (ar 69) (zVr ar1))) → sc6 4910 = wHt S a n (sc1 4910) (zVr ar1) → (∀ j : Nat, j < S → ar6 76 j = zbI (zbr S a b (sc 4905) ((wF S a n l0 nw (sc1 4910) (ar 68) (ar 71) (ar 70) (ar 73) (ar 69) (zVr ar1)) 5) ((wF S a n l0 nw (sc1 4910) (ar 68) (ar 71) (ar 70) (ar 73) (ar 69) (zVr ar1)) 9)) j) → Iv S sc6 ar6 → Fr [4901, 4904, 4910, 4943] [51, 54, 55, 56, 57, 61, 62, 63, 64, 65, 66, 72, 74, 75, 76] sc ar sc6 ar6 → ag_To X (d + 6) an_X10_hours (140, [(0, .ref 49), (1, .int (nI nn)), (2, .int (nI S)), (3, .int (nI h)), (4, .int (nI i))], [], gh S a b sc6 ar6 lo, ex, 0, 0) (qi S a b lo ex (fun x sc' ar' => Iv S sc' ar' ∧ Fr [4901, 4904, 4910, 4943] [51, 54, 55, 56, 57, 61, 62, 63, 64, 65, 66, 72, 74, 75, 76] sc ar sc' ar' ∧ ((∃ h0 nn : Nat, sc 4904 = nI h0 ∧ x1 = nI nn ∧ nn ≤ 100 ∧ h0 + nn ≤ 2400 ∧ x = nI (h0 + nn) ∧ sc' 4904 = nI (h0 + nn) ∧ (zVr ar', sc' 4910) = wHs S a b n l0 h0 (sc 4905) (ar 68) (ar 71) (ar 70) (ar 73) (ar 69) nn (zVr ar, sc 4910) ∧ sc' 4901 = 0) ∨ ((∀ h n : Nat, sc 4904 = nI h → x1 = nI n → n ≤ 100 → h + n ≤ 2400 → False) ∧ sc' 4904 = sc 4904 ∧ zVr ar' = zVr ar ∧ sc' 4910 = sc 4910 ∧ sc' 4901 = 1)))) := by
        intro m
        induction m with
        | zero =>
          intro i sc6 ar6 hm hc140_0 hc140_1 hc140_2 hc140_3 hc140_4 hc140_5 hI6 hF6
          refine to_n 2 (fr' := (143, [(0, .ref 49), (1, .int (nI nn)), (2, .int (nI S)), (3, .int (nI h)), (4, .int (nI i))], [.int (nI S), .int (nI i)], gh S a b sc6 ar6 lo, ex, 0, 0)) rfl ?_
          refine to_nc_ge_T (t := 169) (x := i) (y := S) rfl (by omega) (by omega) (by omega) ?_
          refine to_n 2 (fr' := (172, [(0, .ref 49), (1, .int (nI nn)), (2, .int (nI S)), (3, .int (nI h)), (4, .int 0)], [], gh S a b sc6 ar6 lo, ex, 0, 0)) rfl ?_
          exact c172 (S - 0) 0 sc6 ar6 (by omega) (hc140_0) (by omega) (hc140_2) (by rw [hc140_3, show i = S by omega]; exact wri_0) hc140_4 hc140_5 hI6 hF6
        | succ m ih =>
          intro i sc6 ar6 hm hc140_0 hc140_1 hc140_2 hc140_3 hc140_4 hc140_5 hI6 hF6
          refine to_n 2 (fr' := (143, [(0, .ref 49), (1, .int (nI nn)), (2, .int (nI S)), (3, .int (nI h)), (4, .int (nI i))], [.int (nI S), .int (nI i)], gh S a b sc6 ar6 lo, ex, 0, 0)) rfl ?_
          refine to_nc_ge_F (t := 169) (x := i) (y := S) rfl (by omega) (by omega) (by omega) ?_
          refine to_n 1 (fr' := (147, [(0, .ref 49), (1, .int (nI nn)), (2, .int (nI S)), (3, .int (nI h)), (4, .int (nI i))], [.ref 49], gh S a b sc6 ar6 lo, ex, 0, 0)) rfl ?_
          refine to_get rfl rfl rfl rfl ?_
          refine to_n 1 (fr' := (152, [(0, .ref 49), (1, .int (nI nn)), (2, .int (nI S)), (3, .int (nI h)), (4, .int (nI i))], [.int (nI i), .ref 76], gh S a b sc6 ar6 lo, ex, 0, 0)) rfl ?_
          refine to_zalR (i := i) (v := ((ar6 76) i)) rfl rfl (by omega) (by omega) rfl ?_
          refine to_if_eq (t := 163) rfl (fun q7 => ?_) (fun q7 => ?_)
          · refine to_n 1 (fr' := (166, [(0, .ref 49), (1, .int (nI nn)), (2, .int (nI S)), (3, .int (nI h)), (4, .int ((nI i) + 1))], [], gh S a b sc6 ar6 lo, ex, 0, 0)) rfl ?_
            rw [nI_1 i]
            refine to_n 1 (fr' := (140, [(0, .ref 49), (1, .int (nI nn)), (2, .int (nI S)), (3, .int (nI h)), (4, .int (nI (i + 1)))], [], gh S a b sc6 ar6 lo, ex, 0, 0)) rfl ?_
            exact ih (i + 1) sc6 ar6 (by omega) (hc140_0) (by omega) (hc140_2) (wfg_n hc140_3 (zbI_f ((hc140_5 i (by omega)).symm.trans q7))) hc140_4 hc140_5 hI6 hF6
          · refine to_n 3 (fr' := (160, [(0, .ref 49), (1, .int (nI nn)), (2, .int (nI S)), (3, .int (nI h)), (4, .int (nI i))], [.int 1, .int (nI i), .ref 49], gh S a b sc6 ar6 lo, ex, 0, 0)) rfl ?_
            refine to_cv (q := 142) (M1 := an_X10_noGoal) (rest := []) rfl rfl (by decide) rfl ⟨_, rfl⟩ (sf_X10_noGoal hW hI6 n (by omega) (nI i) 1 ((hF6.1 4906 (by decide)).trans en) (d + 5)) (fun sc8 ar8 hx8 => ?_)
            obtain ⟨hI8, hG8, hx8⟩ := hx8
            have hF8 := fr_t hF6 hG8 (by decide) (by decide)
            have k8_4904 : sc8 4904 = (nI nw) := (hG8.1 4904 (by decide)).trans hc140_0
            have k8_4901 : sc8 4901 = 0 := (hG8.1 4901 (by decide)).trans hc140_2
            have V8 : zVr ar8 = uA (zVr ar6) 17 (zng n (nI i) 1 ((zVr ar6) 17) ((zVr ar6) 18)) := zVr_ext (zr_all (P := fun r => zVr ar8 r = uA (zVr ar6) 17 (zng n (nI i) 1 ((zVr ar6) 17) ((zVr ar6) 18)) r) (hG8.2 51 (by decide)) (hG8.2 52 (by decide)) (hG8.2 53 (by decide)) (hG8.2 54 (by decide)) (hG8.2 55 (by decide)) (hG8.2 56 (by decide)) (hG8.2 57 (by decide)) (hG8.2 58 (by decide)) (hG8.2 59 (by decide)) (hG8.2 60 (by decide)) (hG8.2 61 (by decide)) hx8 (hG8.2 66 (by decide)) (hG8.2 63 (by decide)) (hG8.2 64 (by decide)) (hG8.2 65 (by decide))) (zv0_u (zv0_r) rfl)
            refine to_eq (fr' := (163, [(0, .ref 49), (1, .int (nI nn)), (2, .int (nI S)), (3, .int (nI h)), (4, .int (nI i))], [], gh S a b sc8 ar8 lo, ex, 0, 0)) rfl ?_
            refine to_n 1 (fr' := (166, [(0, .ref 49), (1, .int (nI nn)), (2, .int (nI S)), (3, .int (nI h)), (4, .int ((nI i) + 1))], [], gh S a b sc8 ar8 lo, ex, 0, 0)) rfl ?_
            rw [nI_1 i]
            refine to_n 1 (fr' := (140, [(0, .ref 49), (1, .int (nI nn)), (2, .int (nI S)), (3, .int (nI h)), (4, .int (nI (i + 1)))], [], gh S a b sc8 ar8 lo, ex, 0, 0)) rfl ?_
            exact ih (i + 1) sc8 ar8 (by omega) (k8_4904) (by omega) (k8_4901) (V8.trans (wfg_y hc140_3 (zbI_t (fun w => q7 ((hc140_5 i (by omega)).trans w))))) ((hG8.1 4910 (by decide)).trans hc140_4) (fun j hj => (congrFun (hG8.2 76 (by decide)) j).trans (hc140_5 j hj)) hI8 hF8
      have c104 : ∀ m : Nat, ∀ (i : Nat) (sc9 : Nat → Int32) (ar9 : Nat → Nat → Int32), i + m = S → sc9 4904 = nI nw → h < nn → sc9 4901 = 0 → zVr ar9 = wBu S a n l0 nw i (ar 68) (ar 71) (ar 70) (ar 73) (ar 69) (wWk S a n n (wRo S a n (sc1 4910) (zvGo S a n (zVr ar1)))) → sc9 4910 = wHt S a n (sc1 4910) (zVr ar1) → Iv S sc9 ar9 → Fr [4901, 4904, 4910, 4943] [51, 54, 55, 56, 57, 61, 62, 63, 64, 65, 66, 72, 74, 75, 76] sc ar sc9 ar9 → ag_To X (d + 6) an_X10_hours (104, [(0, .ref 49), (1, .int (nI nn)), (2, .int (nI S)), (3, .int (nI h)), (4, .int (nI i))], [], gh S a b sc9 ar9 lo, ex, 0, 0) (qi S a b lo ex (fun x sc' ar' => Iv S sc' ar' ∧ Fr [4901, 4904, 4910, 4943] [51, 54, 55, 56, 57, 61, 62, 63, 64, 65, 66, 72, 74, 75, 76] sc ar sc' ar' ∧ ((∃ h0 nn : Nat, sc 4904 = nI h0 ∧ x1 = nI nn ∧ nn ≤ 100 ∧ h0 + nn ≤ 2400 ∧ x = nI (h0 + nn) ∧ sc' 4904 = nI (h0 + nn) ∧ (zVr ar', sc' 4910) = wHs S a b n l0 h0 (sc 4905) (ar 68) (ar 71) (ar 70) (ar 73) (ar 69) nn (zVr ar, sc 4910) ∧ sc' 4901 = 0) ∨ ((∀ h n : Nat, sc 4904 = nI h → x1 = nI n → n ≤ 100 → h + n ≤ 2400 → False) ∧ sc' 4904 = sc 4904 ∧ zVr ar' = zVr ar ∧ sc' 4910 = sc 4910 ∧ sc' 4901 = 1)))) := by
        intro m
        induction m with
        | zero =>
          intro i sc9 ar9 hm hc104_0 hc104_1 hc104_2 hc104_3 hc104_4 hI9 hF9
          refine to_n 2 (fr' := (107, [(0, .ref 49), (1, .int (nI nn)), (2, .int (nI S)), (3, .int (nI h)), (4, .int (nI i))], [.int (nI S), .int (nI i)], gh S a b sc9 ar9 lo, ex, 0, 0)) rfl ?_
          refine to_nc_ge_T (t := 133) (x := i) (y := S) rfl (by omega) (by omega) (by omega) ?_
          refine to_n 1 (fr' := (134, [(0, .ref 49), (1, .int (nI nn)), (2, .int (nI S)), (3, .int (nI h)), (4, .int (nI i))], [.ref 49], gh S a b sc9 ar9 lo, ex, 0, 0)) rfl ?_
          refine to_cv (q := 156) (M1 := an_X10_warm) (rest := []) rfl rfl (by decide) rfl ⟨_, rfl⟩ (sf_X10_warm hW hI9  (d + 4)) (fun sc10 ar10 hx10 => ?_)
          obtain ⟨hI10, hG10, hx10⟩ := hx10
          have hF10 := fr_t hF9 hG10 (by decide) (by decide)
          have k10_4904 : sc10 4904 = (nI nw) := (hG10.1 4904 (by decide)).trans hc104_0
          have k10_4901 : sc10 4901 = 0 := (hG10.1 4901 (by decide)).trans hc104_2
          rw [hF9.1 4905 (by decide)] at hx10
          obtain ⟨w10_9, w10_5, w10_76⟩ := hx10
          have V10 : zVr ar10 = zvWa S a b (sc 4905) (zVr ar9) := zVr_ext (zr_all (P := fun r => zVr ar10 r = zvWa S a b (sc 4905) (zVr ar9) r) w10_5 (hG10.2 52 (by decide)) (hG10.2 53 (by decide)) (hG10.2 54 (by decide)) w10_9 (hG10.2 56 (by decide)) (hG10.2 57 (by decide)) (hG10.2 58 (by decide)) (hG10.2 59 (by decide)) (hG10.2 60 (by decide)) (hG10.2 61 (by decide)) (hG10.2 62 (by decide)) (hG10.2 66 (by decide)) (hG10.2 63 (by decide)) (hG10.2 64 (by decide)) (hG10.2 65 (by decide))) (zv0_u (zv0_u (zv0_r) rfl) rfl)
          refine to_eq (fr' := (137, [(0, .ref 49), (1, .int (nI nn)), (2, .int (nI S)), (3, .int (nI h)), (4, .int (nI i))], [], gh S a b sc10 ar10 lo, ex, 0, 0)) rfl ?_
          refine to_n 2 (fr' := (140, [(0, .ref 49), (1, .int (nI nn)), (2, .int (nI S)), (3, .int (nI h)), (4, .int 0)], [], gh S a b sc10 ar10 lo, ex, 0, 0)) rfl ?_
          exact c140 (S - 0) 0 sc10 ar10 (by omega) (k10_4904) (by omega) (k10_4901) (by rw [V10, (show zVr ar9 = wF S a n l0 nw _ (ar 68) (ar 71) (ar 70) (ar 73) (ar 69) _ from by rw [hc104_3, show i = S by omega]; rfl)]; exact wfg_0) ((hG10.1 4910 (by decide)).trans hc104_4) (fun j hj => (w10_76 j hj).trans (show zbI (zbr S a b (sc 4905) (zVr ar9 5) (zVr ar9 9)) j = _ from by rw [(show zVr ar9 = wF S a n l0 nw _ (ar 68) (ar 71) (ar 70) (ar 73) (ar 69) _ from by rw [hc104_3, show i = S by omega]; rfl)])) hI10 hF10
        | succ m ih =>
          intro i sc9 ar9 hm hc104_0 hc104_1 hc104_2 hc104_3 hc104_4 hI9 hF9
          refine to_n 2 (fr' := (107, [(0, .ref 49), (1, .int (nI nn)), (2, .int (nI S)), (3, .int (nI h)), (4, .int (nI i))], [.int (nI S), .int (nI i)], gh S a b sc9 ar9 lo, ex, 0, 0)) rfl ?_
          refine to_nc_ge_F (t := 133) (x := i) (y := S) rfl (by omega) (by omega) (by omega) ?_
          refine to_n 1 (fr' := (111, [(0, .ref 49), (1, .int (nI nn)), (2, .int (nI S)), (3, .int (nI h)), (4, .int (nI i))], [.ref 49], gh S a b sc9 ar9 lo, ex, 0, 0)) rfl ?_
          refine to_get rfl rfl rfl rfl ?_
          refine to_n 1 (fr' := (116, [(0, .ref 49), (1, .int (nI nn)), (2, .int (nI S)), (3, .int (nI h)), (4, .int (nI i))], [.int (nI i), .ref 51], gh S a b sc9 ar9 lo, ex, 0, 0)) rfl ?_
          refine to_ialR (i := i) (v := ((ar9 51) i)) rfl (by decide) rfl (by omega) (by omega) rfl ?_
          refine to_n 1 (fr' := (118, [(0, .ref 49), (1, .int (nI nn)), (2, .int (nI S)), (3, .int (nI h)), (4, .int (nI i))], [.int 1, .int ((ar9 51) i)], gh S a b sc9 ar9 lo, ex, 0, 0)) rfl ?_
          refine to_ic_ne (t := 127) rfl (fun q11 => ?_) (fun q11 => ?_)
          · refine to_n 1 (fr' := (130, [(0, .ref 49), (1, .int (nI nn)), (2, .int (nI S)), (3, .int (nI h)), (4, .int ((nI i) + 1))], [], gh S a b sc9 ar9 lo, ex, 0, 0)) rfl ?_
            rw [nI_1 i]
            refine to_n 1 (fr' := (104, [(0, .ref 49), (1, .int (nI nn)), (2, .int (nI S)), (3, .int (nI h)), (4, .int (nI (i + 1)))], [], gh S a b sc9 ar9 lo, ex, 0, 0)) rfl ?_
            exact ih (i + 1) sc9 ar9 (by omega) (hc104_0) (by omega) (hc104_2) (wbu_n hc104_3 q11) hc104_4 hI9 hF9
          · refine to_n 2 (fr' := (124, [(0, .ref 49), (1, .int (nI nn)), (2, .int (nI S)), (3, .int (nI h)), (4, .int (nI i))], [.int (nI i), .ref 49], gh S a b sc9 ar9 lo, ex, 0, 0)) rfl ?_
            refine to_cv (q := 155) (M1 := an_X10_burn) (rest := []) rfl rfl (by decide) rfl ⟨_, rfl⟩ (sf_X10_burn hW hI9 n (by omega) nw (by omega) l0 (by omega) i (by omega) (lw_fr hL hF9 (by decide) (by decide) (by decide) (by decide)) (ld_fr hD hF9 (by decide) (by decide) (by decide)) ((hF9.1 4906 (by decide)).trans en) hc104_0 ((hF9.1 4907 (by decide)).trans el0) d) (fun sc12 ar12 hx12 => ?_)
            obtain ⟨hI12, hG12, hx12⟩ := hx12
            have hF12 := fr_t hF9 hG12 (by decide) (by decide)
            have k12_4904 : sc12 4904 = (nI nw) := (hG12.1 4904 (by decide)).trans hc104_0
            have k12_4901 : sc12 4901 = 0 := (hG12.1 4901 (by decide)).trans hc104_2
            simp only [show ar9 71 = ar 71 from hF9.2 71 (by decide), show ar9 70 = ar 70 from hF9.2 70 (by decide), show ar9 73 = ar 73 from hF9.2 73 (by decide), show ar9 69 = ar 69 from hF9.2 69 (by decide), show ar9 68 = ar 68 from hF9.2 68 (by decide)] at hx12
            have V12 : zVr ar12 = wB8 (zVr ar9) (zbR n ((zVr ar9) 18) (wPf S a l0 nw (ar 68) (ar 71) (ar 70) (ar 73) (ar 69) (zVr ar9)) i ((zVr ar9) 5, (zVr ar9) 8, (zVr ar9) 9, (zVr ar9) 10, (zVr ar9) 11, (zVr ar9) 17, (zVr ar9) 19, (zVr ar9) 21)) := zVr_ext (zr_all (P := fun r => zVr ar12 r = wB8 (zVr ar9) (zbR n ((zVr ar9) 18) (wPf S a l0 nw (ar 68) (ar 71) (ar 70) (ar 73) (ar 69) (zVr ar9)) i ((zVr ar9) 5, (zVr ar9) 8, (zVr ar9) 9, (zVr ar9) 10, (zVr ar9) 11, (zVr ar9) 17, (zVr ar9) 19, (zVr ar9) 21)) r) (congrArg (fun z => z.1) hx12) (hG12.2 52 (by decide)) (hG12.2 53 (by decide)) (congrArg (fun z => z.2.1) hx12) (congrArg (fun z => z.2.2.1) hx12) (congrArg (fun z => z.2.2.2.1) hx12) (congrArg (fun z => z.2.2.2.2.1) hx12) (hG12.2 58 (by decide)) (hG12.2 59 (by decide)) (hG12.2 60 (by decide)) (hG12.2 61 (by decide)) (congrArg (fun z => z.2.2.2.2.2.1) hx12) (hG12.2 66 (by decide)) (congrArg (fun z => z.2.2.2.2.2.2.1) hx12) (hG12.2 64 (by decide)) (congrArg (fun z => z.2.2.2.2.2.2.2) hx12)) (wB8_0 zv0_r)
            refine to_eq (fr' := (127, [(0, .ref 49), (1, .int (nI nn)), (2, .int (nI S)), (3, .int (nI h)), (4, .int (nI i))], [], gh S a b sc12 ar12 lo, ex, 0, 0)) rfl ?_
            refine to_n 1 (fr' := (130, [(0, .ref 49), (1, .int (nI nn)), (2, .int (nI S)), (3, .int (nI h)), (4, .int ((nI i) + 1))], [], gh S a b sc12 ar12 lo, ex, 0, 0)) rfl ?_
            rw [nI_1 i]
            refine to_n 1 (fr' := (104, [(0, .ref 49), (1, .int (nI nn)), (2, .int (nI S)), (3, .int (nI h)), (4, .int (nI (i + 1)))], [], gh S a b sc12 ar12 lo, ex, 0, 0)) rfl ?_
            exact ih (i + 1) sc12 ar12 (by omega) (k12_4904) (by omega) (k12_4901) (V12.trans (wbu_y hc104_3 q11)) ((hG12.1 4910 (by decide)).trans hc104_4) hI12 hF12
      have c80 : ∀ m : Nat, ∀ (i : Nat) (sc13 : Nat → Int32) (ar13 : Nat → Nat → Int32), i + m = n → sc13 4904 = nI nw → h < nn → sc13 4901 = 0 → zVr ar13 = wWk S a n i (wRo S a n (sc1 4910) (zvGo S a n (zVr ar1))) → sc13 4910 = wHt S a n (sc1 4910) (zVr ar1) → Iv S sc13 ar13 → Fr [4901, 4904, 4910, 4943] [51, 54, 55, 56, 57, 61, 62, 63, 64, 65, 66, 72, 74, 75, 76] sc ar sc13 ar13 → ag_To X (d + 6) an_X10_hours (80, [(0, .ref 49), (1, .int (nI nn)), (2, .int (nI S)), (3, .int (nI h)), (4, .int (nI i))], [], gh S a b sc13 ar13 lo, ex, 0, 0) (qi S a b lo ex (fun x sc' ar' => Iv S sc' ar' ∧ Fr [4901, 4904, 4910, 4943] [51, 54, 55, 56, 57, 61, 62, 63, 64, 65, 66, 72, 74, 75, 76] sc ar sc' ar' ∧ ((∃ h0 nn : Nat, sc 4904 = nI h0 ∧ x1 = nI nn ∧ nn ≤ 100 ∧ h0 + nn ≤ 2400 ∧ x = nI (h0 + nn) ∧ sc' 4904 = nI (h0 + nn) ∧ (zVr ar', sc' 4910) = wHs S a b n l0 h0 (sc 4905) (ar 68) (ar 71) (ar 70) (ar 73) (ar 69) nn (zVr ar, sc 4910) ∧ sc' 4901 = 0) ∨ ((∀ h n : Nat, sc 4904 = nI h → x1 = nI n → n ≤ 100 → h + n ≤ 2400 → False) ∧ sc' 4904 = sc 4904 ∧ zVr ar' = zVr ar ∧ sc' 4910 = sc 4910 ∧ sc' 4901 = 1)))) := by
        intro m
        induction m with
        | zero =>
          intro i sc13 ar13 hm hc80_0 hc80_1 hc80_2 hc80_3 hc80_4 hI13 hF13
          refine to_n 2 (fr' := (83, [(0, .ref 49), (1, .int (nI nn)), (2, .int (nI S)), (3, .int (nI h)), (4, .int (nI i))], [.ref 49, .int (nI i)], gh S a b sc13 ar13 lo, ex, 0, 0)) rfl ?_
          refine to_getR (v := (nI n)) rfl rfl rfl rfl ((hF13.1 4906 (by decide)).trans en) ?_
          refine to_nc_ge_T (t := 101) (x := i) (y := n) rfl (by omega) (by omega) (by omega) ?_
          refine to_n 2 (fr' := (104, [(0, .ref 49), (1, .int (nI nn)), (2, .int (nI S)), (3, .int (nI h)), (4, .int 0)], [], gh S a b sc13 ar13 lo, ex, 0, 0)) rfl ?_
          exact c104 (S - 0) 0 sc13 ar13 (by omega) (hc80_0) (by omega) (hc80_2) (by rw [hc80_3, show i = n by omega]; exact wbu_0) hc80_4 hI13 hF13
        | succ m ih =>
          intro i sc13 ar13 hm hc80_0 hc80_1 hc80_2 hc80_3 hc80_4 hI13 hF13
          refine to_n 2 (fr' := (83, [(0, .ref 49), (1, .int (nI nn)), (2, .int (nI S)), (3, .int (nI h)), (4, .int (nI i))], [.ref 49, .int (nI i)], gh S a b sc13 ar13 lo, ex, 0, 0)) rfl ?_
          refine to_getR (v := (nI n)) rfl rfl rfl rfl ((hF13.1 4906 (by decide)).trans en) ?_
          refine to_nc_ge_F (t := 101) (x := i) (y := n) rfl (by omega) (by omega) (by omega) ?_
          refine to_n 2 (fr' := (92, [(0, .ref 49), (1, .int (nI nn)), (2, .int (nI S)), (3, .int (nI h)), (4, .int (nI i))], [.int (nI i), .ref 49], gh S a b sc13 ar13 lo, ex, 0, 0)) rfl ?_
          refine to_cv (q := 154) (M1 := an_X10_work) (rest := []) rfl rfl (by decide) rfl ⟨_, rfl⟩ (sf_X10_work hW hI13 n (by omega) i (by omega) ((hF13.1 4906 (by decide)).trans en) (d + 3)) (fun sc14 ar14 hx14 => ?_)
          obtain ⟨hI14, hG14, hx14⟩ := hx14
          have hF14 := fr_t hF13 hG14 (by decide) (by decide)
          have k14_4904 : sc14 4904 = (nI nw) := (hG14.1 4904 (by decide)).trans hc80_0
          have k14_4901 : sc14 4901 = 0 := (hG14.1 4901 (by decide)).trans hc80_2
          have V14 : zVr ar14 = wW4 (zVr ar13) (zwR S a n ((zVr ar13) 15) ((zVr ar13) 16) ((zVr ar13) 11) ((zVr ar13) 12) ((zVr ar13) 18) i ((zVr ar13) 5, (zVr ar13) 8, (zVr ar13) 10, (zVr ar13) 17)) := zVr_ext (zr_all (P := fun r => zVr ar14 r = wW4 (zVr ar13) (zwR S a n ((zVr ar13) 15) ((zVr ar13) 16) ((zVr ar13) 11) ((zVr ar13) 12) ((zVr ar13) 18) i ((zVr ar13) 5, (zVr ar13) 8, (zVr ar13) 10, (zVr ar13) 17)) r) (congrArg (fun z => z.1) hx14) (hG14.2 52 (by decide)) (hG14.2 53 (by decide)) (congrArg (fun z => z.2.1) hx14) (hG14.2 55 (by decide)) (congrArg (fun z => z.2.2.1) hx14) (hG14.2 57 (by decide)) (hG14.2 58 (by decide)) (hG14.2 59 (by decide)) (hG14.2 60 (by decide)) (hG14.2 61 (by decide)) (congrArg (fun z => z.2.2.2) hx14) (hG14.2 66 (by decide)) (hG14.2 63 (by decide)) (hG14.2 64 (by decide)) (hG14.2 65 (by decide))) (wW4_0 zv0_r)
          refine to_eq (fr' := (95, [(0, .ref 49), (1, .int (nI nn)), (2, .int (nI S)), (3, .int (nI h)), (4, .int (nI i))], [], gh S a b sc14 ar14 lo, ex, 0, 0)) rfl ?_
          refine to_n 1 (fr' := (98, [(0, .ref 49), (1, .int (nI nn)), (2, .int (nI S)), (3, .int (nI h)), (4, .int ((nI i) + 1))], [], gh S a b sc14 ar14 lo, ex, 0, 0)) rfl ?_
          rw [nI_1 i]
          refine to_n 1 (fr' := (80, [(0, .ref 49), (1, .int (nI nn)), (2, .int (nI S)), (3, .int (nI h)), (4, .int (nI (i + 1)))], [], gh S a b sc14 ar14 lo, ex, 0, 0)) rfl ?_
          exact ih (i + 1) sc14 ar14 (by omega) (k14_4904) (by omega) (k14_4901) (V14.trans (wwk_v hc80_3)) ((hG14.1 4910 (by decide)).trans hc80_4) hI14 hF14
      have c52 : ∀ m : Nat, ∀ (i : Nat) (sc15 : Nat → Int32) (ar15 : Nat → Nat → Int32), i + m = n → sc15 4904 = nI nw → h < nn → sc15 4901 = 0 → zVr ar15 = zvGo S a i (zVr ar1) → sc15 4910 = (sc1 4910) → Iv S sc15 ar15 → Fr [4901, 4904, 4910, 4943] [51, 54, 55, 56, 57, 61, 62, 63, 64, 65, 66, 72, 74, 75, 76] sc ar sc15 ar15 → ag_To X (d + 6) an_X10_hours (52, [(0, .ref 49), (1, .int (nI nn)), (2, .int (nI S)), (3, .int (nI h)), (4, .int (nI i))], [], gh S a b sc15 ar15 lo, ex, 0, 0) (qi S a b lo ex (fun x sc' ar' => Iv S sc' ar' ∧ Fr [4901, 4904, 4910, 4943] [51, 54, 55, 56, 57, 61, 62, 63, 64, 65, 66, 72, 74, 75, 76] sc ar sc' ar' ∧ ((∃ h0 nn : Nat, sc 4904 = nI h0 ∧ x1 = nI nn ∧ nn ≤ 100 ∧ h0 + nn ≤ 2400 ∧ x = nI (h0 + nn) ∧ sc' 4904 = nI (h0 + nn) ∧ (zVr ar', sc' 4910) = wHs S a b n l0 h0 (sc 4905) (ar 68) (ar 71) (ar 70) (ar 73) (ar 69) nn (zVr ar, sc 4910) ∧ sc' 4901 = 0) ∨ ((∀ h n : Nat, sc 4904 = nI h → x1 = nI n → n ≤ 100 → h + n ≤ 2400 → False) ∧ sc' 4904 = sc 4904 ∧ zVr ar' = zVr ar ∧ sc' 4910 = sc 4910 ∧ sc' 4901 = 1)))) := by
        intro m
        induction m with
        | zero =>
          intro i sc15 ar15 hm hc52_0 hc52_1 hc52_2 hc52_3 hc52_4 hI15 hF15
          refine to_n 2 (fr' := (55, [(0, .ref 49), (1, .int (nI nn)), (2, .int (nI S)), (3, .int (nI h)), (4, .int (nI i))], [.ref 49, .int (nI i)], gh S a b sc15 ar15 lo, ex, 0, 0)) rfl ?_
          refine to_getR (v := (nI n)) rfl rfl rfl rfl ((hF15.1 4906 (by decide)).trans en) ?_
          refine to_nc_ge_T (t := 73) (x := i) (y := n) rfl (by omega) (by omega) (by omega) ?_
          refine to_n 1 (fr' := (74, [(0, .ref 49), (1, .int (nI nn)), (2, .int (nI S)), (3, .int (nI h)), (4, .int (nI i))], [.ref 49], gh S a b sc15 ar15 lo, ex, 0, 0)) rfl ?_
          refine to_cv (q := 152) (M1 := an_X10_roofs) (rest := []) rfl rfl (by decide) rfl ⟨_, rfl⟩ (sf_X10_roofs hW hI15 n (by omega) ((hF15.1 4906 (by decide)).trans en) (d + 3)) (fun sc16 ar16 hx16 => ?_)
          obtain ⟨hI16, hG16, hx16⟩ := hx16
          have hF16 := fr_t hF15 hG16 (by decide) (by decide)
          have k16_4904 : sc16 4904 = (nI nw) := (hG16.1 4904 (by decide)).trans hc52_0
          have k16_4901 : sc16 4901 = 0 := (hG16.1 4901 (by decide)).trans hc52_2
          have V16 : zVr ar16 = wRo S a n (sc15 4910) (zVr ar15) := zVr_ext (zr_all (P := fun r => zVr ar16 r = wRo S a n (sc15 4910) (zVr ar15) r) (hG16.2 51 (by decide)) (hG16.2 52 (by decide)) (hG16.2 53 (by decide)) (hG16.2 54 (by decide)) (hG16.2 55 (by decide)) (hG16.2 56 (by decide)) (congrArg (fun z => z.1) hx16) (hG16.2 58 (by decide)) (hG16.2 59 (by decide)) (hG16.2 60 (by decide)) (hG16.2 61 (by decide)) (hG16.2 62 (by decide)) (hG16.2 66 (by decide)) (hG16.2 63 (by decide)) (congrArg (fun z => z.2.1) hx16) (hG16.2 65 (by decide))) (zv0_u (zv0_u (zv0_r) rfl) rfl)
          refine to_eq (fr' := (77, [(0, .ref 49), (1, .int (nI nn)), (2, .int (nI S)), (3, .int (nI h)), (4, .int (nI i))], [], gh S a b sc16 ar16 lo, ex, 0, 0)) rfl ?_
          refine to_n 2 (fr' := (80, [(0, .ref 49), (1, .int (nI nn)), (2, .int (nI S)), (3, .int (nI h)), (4, .int 0)], [], gh S a b sc16 ar16 lo, ex, 0, 0)) rfl ?_
          exact c80 (n - 0) 0 sc16 ar16 (by omega) (k16_4904) (by omega) (k16_4901) (by rw [V16, hc52_3, hc52_4, show i = n by omega]; exact wwk_0) ((congrArg (fun z => z.2.2) hx16).trans (show (wRoT S a n S (sc15 4910) (zVr ar15)).2.2 = _ from by rw [hc52_3, hc52_4, show i = n by omega]; rfl)) hI16 hF16
        | succ m ih =>
          intro i sc15 ar15 hm hc52_0 hc52_1 hc52_2 hc52_3 hc52_4 hI15 hF15
          refine to_n 2 (fr' := (55, [(0, .ref 49), (1, .int (nI nn)), (2, .int (nI S)), (3, .int (nI h)), (4, .int (nI i))], [.ref 49, .int (nI i)], gh S a b sc15 ar15 lo, ex, 0, 0)) rfl ?_
          refine to_getR (v := (nI n)) rfl rfl rfl rfl ((hF15.1 4906 (by decide)).trans en) ?_
          refine to_nc_ge_F (t := 73) (x := i) (y := n) rfl (by omega) (by omega) (by omega) ?_
          refine to_n 2 (fr' := (64, [(0, .ref 49), (1, .int (nI nn)), (2, .int (nI S)), (3, .int (nI h)), (4, .int (nI i))], [.int (nI i), .ref 49], gh S a b sc15 ar15 lo, ex, 0, 0)) rfl ?_
          refine to_cv (q := 151) (M1 := an_X10_go) (rest := []) rfl rfl (by decide) rfl ⟨_, rfl⟩ (sf_X10_go hW hI15 i (by omega) (d + 2)) (fun sc17 ar17 hx17 => ?_)
          obtain ⟨hI17, hG17, hx17⟩ := hx17
          have hF17 := fr_t hF15 hG17 (by decide) (by decide)
          have k17_4904 : sc17 4904 = (nI nw) := (hG17.1 4904 (by decide)).trans hc52_0
          have k17_4901 : sc17 4901 = 0 := (hG17.1 4901 (by decide)).trans hc52_2
          have V17 : zVr ar17 = uA (zVr ar15) 16 (upd ((zVr ar15) 16) i (zgoW S a ((zVr ar15) 5) ((zVr ar15) 17) ((zVr ar15) 16) i)) := zVr_ext (zr_all (P := fun r => zVr ar17 r = uA (zVr ar15) 16 (upd ((zVr ar15) 16) i (zgoW S a ((zVr ar15) 5) ((zVr ar15) 17) ((zVr ar15) 16) i)) r) (hG17.2 51 (by decide)) (hG17.2 52 (by decide)) (hG17.2 53 (by decide)) (hG17.2 54 (by decide)) (hG17.2 55 (by decide)) (hG17.2 56 (by decide)) (hG17.2 57 (by decide)) (hG17.2 58 (by decide)) (hG17.2 59 (by decide)) (hG17.2 60 (by decide)) hx17 (hG17.2 62 (by decide)) (hG17.2 66 (by decide)) (hG17.2 63 (by decide)) (hG17.2 64 (by decide)) (hG17.2 65 (by decide))) (zv0_u (zv0_r) rfl)
          refine to_eq (fr' := (67, [(0, .ref 49), (1, .int (nI nn)), (2, .int (nI S)), (3, .int (nI h)), (4, .int (nI i))], [], gh S a b sc17 ar17 lo, ex, 0, 0)) rfl ?_
          refine to_n 1 (fr' := (70, [(0, .ref 49), (1, .int (nI nn)), (2, .int (nI S)), (3, .int (nI h)), (4, .int ((nI i) + 1))], [], gh S a b sc17 ar17 lo, ex, 0, 0)) rfl ?_
          rw [nI_1 i]
          refine to_n 1 (fr' := (52, [(0, .ref 49), (1, .int (nI nn)), (2, .int (nI S)), (3, .int (nI h)), (4, .int (nI (i + 1)))], [], gh S a b sc17 ar17 lo, ex, 0, 0)) rfl ?_
          exact ih (i + 1) sc17 ar17 (by omega) (k17_4904) (by omega) (k17_4901) (V17.trans (wgo_v hc52_3)) ((hG17.1 4910 (by decide)).trans hc52_4) hI17 hF17
      refine to_n 2 (fr' := (46, [(0, .ref 49), (1, .int (nI nn)), (2, .int (nI S)), (3, .int (nI h))], [.int (nI nn), .int (nI h)], gh S a b sc1 ar1 lo, ex, 0, 0)) rfl ?_
      refine to_nc_ge (t := 216) (x := h) (y := nn) rfl (by omega) (by omega) (fun q18 => ?_) (fun q18 => ?_)
      · refine to_n 1 (fr' := (217, [(0, .ref 49), (1, .int (nI nn)), (2, .int (nI S)), (3, .int (nI h))], [.ref 49], gh S a b sc1 ar1 lo, ex, 0, 0)) rfl ?_
        refine to_getR (v := (nI nw)) rfl rfl rfl rfl hc44_0 ?_
        exact to_rt (i := .ireturn) (tg := []) rfl rfl ⟨_, _, _, ⟨hI1, hF1, (Or.inl ⟨h0, nn, eh0, hc44_5, by omega, by omega, by rw [show h0 + nn = nw by omega], by rw [show h0 + nn = nw by omega]; exact hc44_0, by rw [show nn = h by omega]; exact hc44_8, hc44_7⟩)⟩, rfl⟩
      · refine to_n 2 (fr' := (52, [(0, .ref 49), (1, .int (nI nn)), (2, .int (nI S)), (3, .int (nI h)), (4, .int 0)], [], gh S a b sc1 ar1 lo, ex, 0, 0)) rfl ?_
        exact c52 (n - 0) 0 sc1 ar1 (by omega) (hc44_0) (by omega) (hc44_7) wgo_0 rfl hI1 hF1
  refine to_n 2 (fr' := (2, [(0, .ref 49), (1, .int x1)], [.int 0, .ref 49], gh S a b sc ar lo, ex, 0, 0)) rfl ?_
  refine to_putR (h' := gh S a b (upd sc 4901 0) ar lo) rfl rfl rfl (Nat.le_of_ble_eq_true rfl) rfl rfl ?_
  have hI19 := ip_4901 (v := 0) hI 
  have hF19 := fr_s (k := 4901) (v := 0) hF (by decide)
  refine to_n 1 (fr' := (6, [(0, .ref 49), (1, .int x1)], [.int x1], gh S a b (upd sc 4901 0) ar lo, ex, 0, 0)) rfl ?_
  refine to_if_lt (t := 27) rfl (fun q20 => ?_) (fun q20 => ?_)
  · refine to_n 1 (fr' := (28, [(0, .ref 49), (1, .int x1)], [.ref 49], gh S a b (upd sc 4901 0) ar lo, ex, 0, 0)) rfl ?_
    refine to_ci (q := 109) (M1 := an_X10_fail) (rest := []) rfl rfl (by decide) rfl ⟨_, rfl⟩ (sf_X10_fail hW hI19  (d + 5)) (fun x22 sc22 ar22 hx22 => ?_)
    obtain ⟨hI22, hG22, hx22⟩ := hx22
    have hF22 := fr_t hF19 hG22 (by decide) (by decide)
    have k22_4904 : sc22 4904 = (nI h0) := (hG22.1 4904 (by decide)).trans eh0
    have hp22 := hx22
    have hF22w : sc22 4904 = sc 4904 := (hG22.1 4904 (by decide)).trans rfl
    have V22 : zVr ar22 = zVr ar := zVr_ext (zr_all (P := fun r => zVr ar22 r = zVr ar r) (hG22.2 51 (by decide)) (hG22.2 52 (by decide)) (hG22.2 53 (by decide)) (hG22.2 54 (by decide)) (hG22.2 55 (by decide)) (hG22.2 56 (by decide)) (hG22.2 57 (by decide)) (hG22.2 58 (by decide)) (hG22.2 59 (by decide)) (hG22.2 60 (by decide)) (hG22.2 61 (by decide)) (hG22.2 62 (by decide)) (hG22.2 66 (by decide)) (hG22.2 63 (by decide)) (hG22.2 64 (by decide)) (hG22.2 65 (by decide))) (zv0_r)
    refine to_eq (fr' := (31, [(0, .ref 49), (1, .int x1)], [.int x22], gh S a b sc22 ar22 lo, ex, 0, 0)) rfl ?_
    exact to_rt (i := .ireturn) (tg := []) rfl rfl ⟨_, _, _, ⟨hI22, hF22, (Or.inr ⟨(fun h n _ e hn _ => nI_neg (by omega) q20 e.symm), hF22w, V22, (hG22.1 4910 (by decide)).trans rfl, hp22⟩)⟩, rfl⟩
  · obtain ⟨n21, hn21, e21⟩ := nI_of q20
    refine to_eq (fr' := (9, [(0, .ref 49), (1, .int (nI n21))], [], gh S a b (upd sc 4901 0) ar lo, ex, 0, 0)) (by rw [e21]) ?_
    refine to_eq (fr' := (9, [(0, .ref 49), (1, .int (nI n21))], [], gh S a b (upd sc 4901 0) ar lo, ex, 0, 0)) rfl ?_
    refine to_n 2 (fr' := (12, [(0, .ref 49), (1, .int (nI n21))], [.int 100, .int (nI n21)], gh S a b (upd sc 4901 0) ar lo, ex, 0, 0)) rfl ?_
    refine to_nc_gt (t := 27) (x := n21) (y := 100) rfl (by omega) (by omega) (fun q23 => ?_) (fun q23 => ?_)
    · refine to_n 1 (fr' := (28, [(0, .ref 49), (1, .int (nI n21))], [.ref 49], gh S a b (upd sc 4901 0) ar lo, ex, 0, 0)) rfl ?_
      refine to_ci (q := 109) (M1 := an_X10_fail) (rest := []) rfl rfl (by decide) rfl ⟨_, rfl⟩ (sf_X10_fail hW hI19  (d + 5)) (fun x24 sc24 ar24 hx24 => ?_)
      obtain ⟨hI24, hG24, hx24⟩ := hx24
      have hF24 := fr_t hF19 hG24 (by decide) (by decide)
      have k24_4904 : sc24 4904 = (nI h0) := (hG24.1 4904 (by decide)).trans eh0
      have hp24 := hx24
      have hF24w : sc24 4904 = sc 4904 := (hG24.1 4904 (by decide)).trans rfl
      have V24 : zVr ar24 = zVr ar := zVr_ext (zr_all (P := fun r => zVr ar24 r = zVr ar r) (hG24.2 51 (by decide)) (hG24.2 52 (by decide)) (hG24.2 53 (by decide)) (hG24.2 54 (by decide)) (hG24.2 55 (by decide)) (hG24.2 56 (by decide)) (hG24.2 57 (by decide)) (hG24.2 58 (by decide)) (hG24.2 59 (by decide)) (hG24.2 60 (by decide)) (hG24.2 61 (by decide)) (hG24.2 62 (by decide)) (hG24.2 66 (by decide)) (hG24.2 63 (by decide)) (hG24.2 64 (by decide)) (hG24.2 65 (by decide))) (zv0_r)
      refine to_eq (fr' := (31, [(0, .ref 49), (1, .int (nI n21))], [.int x24], gh S a b sc24 ar24 lo, ex, 0, 0)) rfl ?_
      exact to_rt (i := .ireturn) (tg := []) rfl rfl ⟨_, _, _, ⟨hI24, hF24, (Or.inr ⟨(fun h n eh e hn hs => by have a1 : h0 = h := (nI_eq (by omega) (by omega)).mp (eh0.symm.trans eh); have a2 : n21 = n := (nI_eq (by omega) (by omega)).mp (e21.symm.trans e); omega), hF24w, V24, (hG24.1 4910 (by decide)).trans rfl, hp24⟩)⟩, rfl⟩
    · refine to_n 1 (fr' := (16, [(0, .ref 49), (1, .int (nI n21))], [.ref 49], gh S a b (upd sc 4901 0) ar lo, ex, 0, 0)) rfl ?_
      refine to_getR (v := (nI h0)) rfl rfl rfl rfl eh0 ?_
      refine to_n 1 (fr' := (20, [(0, .ref 49), (1, .int (nI n21))], [.int (nI n21), .int (nI h0)], gh S a b (upd sc 4901 0) ar lo, ex, 0, 0)) rfl ?_
      refine to_addN (x := h0) (y := n21) rfl ?_
      refine to_n 1 (fr' := (24, [(0, .ref 49), (1, .int (nI n21))], [.int 2400, .int (nI (h0 + n21))], gh S a b (upd sc 4901 0) ar lo, ex, 0, 0)) rfl ?_
      refine to_nc_le (t := 32) (x := (h0 + n21)) (y := 2400) rfl (by omega) (by omega) (fun q25 => ?_) (fun q25 => ?_)
      · refine to_n 1 (fr' := (33, [(0, .ref 49), (1, .int (nI n21))], [.ref 49], gh S a b (upd sc 4901 0) ar lo, ex, 0, 0)) rfl ?_
        refine to_get rfl rfl rfl rfl ?_
        refine to_n 1 (fr' := (37, [(0, .ref 49), (1, .int (nI n21))], [.ref 49, .int (nI a)], gh S a b (upd sc 4901 0) ar lo, ex, 0, 0)) rfl ?_
        refine to_get rfl rfl rfl rfl ?_
        refine to_mulN (x := a) (y := b) rfl ?_
        rw [hab]
        refine to_n 3 (fr' := (44, [(0, .ref 49), (1, .int (nI n21)), (2, .int (nI S)), (3, .int 0)], [], gh S a b (upd sc 4901 0) ar lo, ex, 0, 0)) rfl ?_
        exact c44 (100 - 0) n21 0 h0 (upd sc 4901 0) ar (by omega) (eh0) (by omega) (by omega) (by omega) (by clear c44; grind []) e21 (by omega) (rfl) rfl hI19 hF19
      · refine to_n 1 (fr' := (28, [(0, .ref 49), (1, .int (nI n21))], [.ref 49], gh S a b (upd sc 4901 0) ar lo, ex, 0, 0)) rfl ?_
        refine to_ci (q := 109) (M1 := an_X10_fail) (rest := []) rfl rfl (by decide) rfl ⟨_, rfl⟩ (sf_X10_fail hW hI19  (d + 5)) (fun x26 sc26 ar26 hx26 => ?_)
        obtain ⟨hI26, hG26, hx26⟩ := hx26
        have hF26 := fr_t hF19 hG26 (by decide) (by decide)
        have k26_4904 : sc26 4904 = (nI h0) := (hG26.1 4904 (by decide)).trans eh0
        have hp26 := hx26
        have hF26w : sc26 4904 = sc 4904 := (hG26.1 4904 (by decide)).trans rfl
        have V26 : zVr ar26 = zVr ar := zVr_ext (zr_all (P := fun r => zVr ar26 r = zVr ar r) (hG26.2 51 (by decide)) (hG26.2 52 (by decide)) (hG26.2 53 (by decide)) (hG26.2 54 (by decide)) (hG26.2 55 (by decide)) (hG26.2 56 (by decide)) (hG26.2 57 (by decide)) (hG26.2 58 (by decide)) (hG26.2 59 (by decide)) (hG26.2 60 (by decide)) (hG26.2 61 (by decide)) (hG26.2 62 (by decide)) (hG26.2 66 (by decide)) (hG26.2 63 (by decide)) (hG26.2 64 (by decide)) (hG26.2 65 (by decide))) (zv0_r)
        refine to_eq (fr' := (31, [(0, .ref 49), (1, .int (nI n21))], [.int x26], gh S a b sc26 ar26 lo, ex, 0, 0)) rfl ?_
        exact to_rt (i := .ireturn) (tg := []) rfl rfl ⟨_, _, _, ⟨hI26, hF26, (Or.inr ⟨(fun h n eh e hn hs => by have a1 : h0 = h := (nI_eq (by omega) (by omega)).mp (eh0.symm.trans eh); have a2 : n21 = n := (nI_eq (by omega) (by omega)).mp (e21.symm.trans e); omega), hF26w, V26, (hG26.1 4910 (by decide)).trans rfl, hp26⟩)⟩, rfl⟩
set_option maxRecDepth 20000 in
theorem sf_X10_wind {X : Nat × (Nat → Int32)} {S a b : Nat} {sc : Nat → Int32} {ar : Nat → Nat → Int32} {lo : Nat → Int64} {ex : Bool} (hW : Wd S a b) (hI : Iv S sc ar) (x1 : Int32) (d : Nat)  : ci X S a b (d + 2) 116 [.ref 49, .int x1] sc ar lo ex (fun x sc' ar' => Iv S sc' ar' ∧ Fr [4901, 4905] [] sc ar sc' ar' ∧ ((0 ≤ x1 ∧ x1 ≤ 4 ∧ x = sc 4905 ∧ sc' 4905 = x1 ∧ sc' 4901 = 0) ∨ (¬ (0 ≤ x1 ∧ x1 ≤ 4) ∧ sc' 4905 = sc 4905 ∧ sc' 4901 = 1))) := by
  obtain ⟨ha1, ha8, hb1, hb8, hab, hS1, hS⟩ := id hW
  refine ci_of (M := an_X10_wind) rfl (Nat.le_of_ble_eq_true rfl) ?_
  have hF : Fr [4901, 4905] [] sc ar sc ar := fr_0
  refine to_eq (fr' := (0, [(0, .ref 49), (1, .int x1)], [], gh S a b sc ar lo, ex, 0, 0)) rfl ?_
  refine to_n 2 (fr' := (2, [(0, .ref 49), (1, .int x1)], [.int 0, .ref 49], gh S a b sc ar lo, ex, 0, 0)) rfl ?_
  refine to_putR (h' := gh S a b (upd sc 4901 0) ar lo) rfl rfl rfl (Nat.le_of_ble_eq_true rfl) rfl rfl ?_
  have hI1 := ip_4901 (v := 0) hI 
  have hF1 := fr_s (k := 4901) (v := 0) hF (by decide)
  refine to_n 1 (fr' := (6, [(0, .ref 49), (1, .int x1)], [.int x1], gh S a b (upd sc 4901 0) ar lo, ex, 0, 0)) rfl ?_
  refine to_if_lt (t := 14) rfl (fun q2 => ?_) (fun q2 => ?_)
  · refine to_n 1 (fr' := (15, [(0, .ref 49), (1, .int x1)], [.ref 49], gh S a b (upd sc 4901 0) ar lo, ex, 0, 0)) rfl ?_
    refine to_ci (q := 109) (M1 := an_X10_fail) (rest := []) rfl rfl (by decide) rfl ⟨_, rfl⟩ (sf_X10_fail hW hI1  d) (fun x3 sc3 ar3 hx3 => ?_)
    obtain ⟨hI3, hG3, hx3⟩ := hx3
    have hF3 := fr_t hF1 hG3 (by decide) (by decide)
    have hp3 := hx3
    have hF3w : sc3 4905 = sc 4905 := (hG3.1 4905 (by decide)).trans rfl
    refine to_eq (fr' := (18, [(0, .ref 49), (1, .int x1)], [.int x3], gh S a b sc3 ar3 lo, ex, 0, 0)) rfl ?_
    exact to_rt (i := .ireturn) (tg := []) rfl rfl ⟨_, _, _, ⟨hI3, hF3, (Or.inr ⟨(fun w => Int32.not_lt.mpr w.1 q2), hF3w, hp3⟩)⟩, rfl⟩
  · refine to_n 2 (fr' := (11, [(0, .ref 49), (1, .int x1)], [.int 4, .int x1], gh S a b (upd sc 4901 0) ar lo, ex, 0, 0)) rfl ?_
    refine to_ic_le (t := 19) rfl (fun q4 => ?_) (fun q4 => ?_)
    · refine to_n 1 (fr' := (20, [(0, .ref 49), (1, .int x1)], [.ref 49], gh S a b (upd sc 4901 0) ar lo, ex, 0, 0)) rfl ?_
      refine to_getR (v := ((upd sc 4901 0) 4905)) rfl rfl rfl rfl rfl ?_
      refine to_n 3 (fr' := (26, [(0, .ref 49), (1, .int x1), (2, .int ((upd sc 4901 0) 4905))], [.int x1, .ref 49], gh S a b (upd sc 4901 0) ar lo, ex, 0, 0)) rfl ?_
      refine to_putR (h' := gh S a b (upd (upd sc 4901 0) 4905 x1) ar lo) rfl rfl rfl (Nat.le_of_ble_eq_true rfl) rfl rfl ?_
      have hI5 := ip_4905 (v := x1) hI1 
      have hF5 := fr_s (k := 4905) (v := x1) hF1 (by decide)
      refine to_n 1 (fr' := (30, [(0, .ref 49), (1, .int x1), (2, .int ((upd sc 4901 0) 4905))], [.int ((upd sc 4901 0) 4905)], gh S a b (upd (upd sc 4901 0) 4905 x1) ar lo, ex, 0, 0)) rfl ?_
      exact to_rt (i := .ireturn) (tg := []) rfl rfl ⟨_, _, _, ⟨hI5, hF5, (Or.inl ⟨Int32.not_lt.mp q2, q4, rfl, rfl, rfl⟩)⟩, rfl⟩
    · refine to_n 1 (fr' := (15, [(0, .ref 49), (1, .int x1)], [.ref 49], gh S a b (upd sc 4901 0) ar lo, ex, 0, 0)) rfl ?_
      refine to_ci (q := 109) (M1 := an_X10_fail) (rest := []) rfl rfl (by decide) rfl ⟨_, rfl⟩ (sf_X10_fail hW hI1  d) (fun x6 sc6 ar6 hx6 => ?_)
      obtain ⟨hI6, hG6, hx6⟩ := hx6
      have hF6 := fr_t hF1 hG6 (by decide) (by decide)
      have hp6 := hx6
      have hF6w : sc6 4905 = sc 4905 := (hG6.1 4905 (by decide)).trans rfl
      refine to_eq (fr' := (18, [(0, .ref 49), (1, .int x1)], [.int x6], gh S a b sc6 ar6 lo, ex, 0, 0)) rfl ?_
      exact to_rt (i := .ireturn) (tg := []) rfl rfl ⟨_, _, _, ⟨hI6, hF6, (Or.inr ⟨(fun w => q4 w.2), hF6w, hp6⟩)⟩, rfl⟩
