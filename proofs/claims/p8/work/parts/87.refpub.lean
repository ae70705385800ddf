/-! the public methods of the reference -/
set_option maxRecDepth 20000 in
theorem sf_X10_fault {X : Nat × (Nat → Int32)} {S a b : Nat} {sc : Nat → Int32} {ar : Nat → Nat → Int32} {lo : Nat → Int64} {ex : Bool} (hW : Wd S a b) (hI : Iv S sc ar)  (d : Nat)  : ci X S a b (d + 1) 132 [.ref 49] sc ar lo ex (fun x sc' ar' => Iv S sc' ar' ∧ Fr [4901] [] sc ar sc' ar' ∧ x = sc 4909) := by
  obtain ⟨ha1, ha8, hb1, hb8, hab, hS1, hS⟩ := id hW
  refine ci_of (M := an_X10_fault) rfl (Nat.le_of_ble_eq_true rfl) ?_
  have hF : Fr [4901] [] sc ar sc ar := fr_0
  refine to_eq (fr' := (0, [(0, .ref 49)], [], gh S a b sc ar lo, ex, 0, 0)) rfl ?_
  refine to_n 2 (fr' := (2, [(0, .ref 49)], [.int 0, .ref 49], gh S a b sc ar lo, ex, 0, 0)) rfl ?_
  refine to_putR (h' := gh S a b (upd sc 4901 0) ar lo) rfl rfl rfl (Nat.le_of_ble_eq_true rfl) rfl rfl ?_
  have hI1 := ip_4901 (v := 0) hI 
  have hF1 := fr_s (k := 4901) (v := 0) hF (by decide)
  refine to_n 1 (fr' := (6, [(0, .ref 49)], [.ref 49], gh S a b (upd sc 4901 0) ar lo, ex, 0, 0)) rfl ?_
  refine to_getR (v := ((upd sc 4901 0) 4909)) rfl rfl rfl rfl rfl ?_
  exact to_rt (i := .ireturn) (tg := []) rfl rfl ⟨_, _, _, ⟨hI1, hF1, rfl⟩, rfl⟩
set_option maxRecDepth 20000 in
theorem sf_X10_house {X : Nat × (Nat → Int32)} {S a b : Nat} {sc : Nat → Int32} {ar : Nat → Nat → Int32} {lo : Nat → Int64} {ex : Bool} (hW : Wd S a b) (hI : Iv S sc ar) (x1 : Int32) (x2 : Int32) (x3 : Int32) (d : Nat)  : ci X S a b (d + 2) 113 [.ref 49, .int x1, .int x2, .int x3] sc ar lo ex (fun x sc' ar' => Iv S sc' ar' ∧ Fr [4901] [51, 52, 53, 54, 55, 56] sc ar sc' ar' ∧ rl x 2) := by
  obtain ⟨ha1, ha8, hb1, hb8, hab, hS1, hS⟩ := id hW
  refine ci_of (M := an_X10_house) rfl (Nat.le_of_ble_eq_true rfl) ?_
  have hF : Fr [4901] [51, 52, 53, 54, 55, 56] sc ar sc ar := fr_0
  refine to_eq (fr' := (0, [(0, .ref 49), (1, .int x1), (2, .int x2), (3, .int x3)], [], gh S a b sc ar lo, ex, 0, 0)) rfl ?_
  refine to_n 2 (fr' := (2, [(0, .ref 49), (1, .int x1), (2, .int x2), (3, .int x3)], [.int 0, .ref 49], gh S a b sc ar lo, ex, 0, 0)) rfl ?_
  refine to_putR (h' := gh S a b (upd sc 4901 0) ar lo) rfl rfl rfl (Nat.le_of_ble_eq_true rfl) rfl rfl ?_
  have hI1 := ip_4901 (v := 0) hI 
  have hF1 := fr_s (k := 4901) (v := 0) hF (by decide)
  refine to_n 2 (fr' := (7, [(0, .ref 49), (1, .int x1), (2, .int x2), (3, .int x3)], [.int x1, .ref 49], gh S a b (upd sc 4901 0) ar lo, ex, 0, 0)) rfl ?_
  rcases has_or (x := x1) (B := S) (by omega) with ⟨n2, hn2, e2⟩ | w2
  · rw [e2]
    refine to_cp (q := 109) (M1 := an_X10_isCell) (rest := []) rfl rfl (by decide) rfl ⟨_, rfl⟩ (mc_isCell_1 (n := n2) hW (by omega) d) (fun x2 hx2 => ?_)
    obtain rfl := hx2
    refine to_eq (fr' := (10, [(0, .ref 49), (1, .int (nI n2)), (2, .int x2), (3, .int x3)], [.int 1], gh S a b (upd sc 4901 0) ar lo, ex, 0, 0)) rfl ?_
    refine to_n 2 (fr' := (21, [(0, .ref 49), (1, .int (nI n2)), (2, .int x2), (3, .int x3)], [.ref 49], gh S a b (upd sc 4901 0) ar lo, ex, 0, 0)) rfl ?_
    refine to_get rfl rfl rfl rfl ?_
    refine to_n 1 (fr' := (25, [(0, .ref 49), (1, .int (nI n2)), (2, .int x2), (3, .int x3)], [.int (nI n2), .ref 58], gh S a b (upd sc 4901 0) ar lo, ex, 0, 0)) rfl ?_
    refine to_zalR (i := n2) (v := ((ar 58) n2)) rfl rfl (by omega) (by omega) rfl ?_
    refine to_if_ne (t := 69) rfl (fun q3 => ?_) (fun q3 => ?_)
    · refine to_n 1 (fr' := (70, [(0, .ref 49), (1, .int (nI n2)), (2, .int x2), (3, .int x3)], [.int 0], gh S a b (upd sc 4901 0) ar lo, ex, 0, 0)) rfl ?_
      exact to_rt (i := .ireturn) (tg := []) rfl rfl ⟨_, _, _, ⟨hI1, hF1, rl_n (n := 0) (by omega)⟩, rfl⟩
    · refine to_n 1 (fr' := (30, [(0, .ref 49), (1, .int (nI n2)), (2, .int x2), (3, .int x3)], [.ref 49], gh S a b (upd sc 4901 0) ar lo, ex, 0, 0)) rfl ?_
      refine to_get rfl rfl rfl rfl ?_
      refine to_n 1 (fr' := (34, [(0, .ref 49), (1, .int (nI n2)), (2, .int x2), (3, .int x3)], [.int (nI n2), .ref 51], gh S a b (upd sc 4901 0) ar lo, ex, 0, 0)) rfl ?_
      refine to_ialR (i := n2) (v := ((ar 51) n2)) rfl (by decide) rfl (by omega) (by omega) rfl ?_
      refine to_if_eq (t := 69) rfl (fun q4 => ?_) (fun q4 => ?_)
      · refine to_n 1 (fr' := (70, [(0, .ref 49), (1, .int (nI n2)), (2, .int x2), (3, .int x3)], [.int 0], gh S a b (upd sc 4901 0) ar lo, ex, 0, 0)) rfl ?_
        exact to_rt (i := .ireturn) (tg := []) rfl rfl ⟨_, _, _, ⟨hI1, hF1, rl_n (n := 0) (by omega)⟩, rfl⟩
      · refine to_n 1 (fr' := (39, [(0, .ref 49), (1, .int (nI n2)), (2, .int x2), (3, .int x3)], [.ref 49], gh S a b (upd sc 4901 0) ar lo, ex, 0, 0)) rfl ?_
        refine to_get rfl rfl rfl rfl ?_
        refine to_n 1 (fr' := (43, [(0, .ref 49), (1, .int (nI n2)), (2, .int x2), (3, .int x3)], [.int (nI n2), .ref 51], gh S a b (upd sc 4901 0) ar lo, ex, 0, 0)) rfl ?_
        refine to_ialR (i := n2) (v := ((ar 51) n2)) rfl (by decide) rfl (by omega) (by omega) rfl ?_
        refine to_n 1 (fr' := (45, [(0, .ref 49), (1, .int (nI n2)), (2, .int x2), (3, .int x3)], [.int 1, .int ((ar 51) n2)], gh S a b (upd sc 4901 0) ar lo, ex, 0, 0)) rfl ?_
        refine to_ic_eq (t := 69) rfl (fun q5 => ?_) (fun q5 => ?_)
        · refine to_n 1 (fr' := (70, [(0, .ref 49), (1, .int (nI n2)), (2, .int x2), (3, .int x3)], [.int 0], gh S a b (upd sc 4901 0) ar lo, ex, 0, 0)) rfl ?_
          exact to_rt (i := .ireturn) (tg := []) rfl rfl ⟨_, _, _, ⟨hI1, hF1, rl_n (n := 0) (by omega)⟩, rfl⟩
        · refine to_n 2 (fr' := (50, [(0, .ref 49), (1, .int (nI n2)), (2, .int x2), (3, .int x3)], [.int 1, .int x2], gh S a b (upd sc 4901 0) ar lo, ex, 0, 0)) rfl ?_
          refine to_ic_lt (t := 69) rfl (fun q6 => ?_) (fun q6 => ?_)
          · refine to_n 1 (fr' := (70, [(0, .ref 49), (1, .int (nI n2)), (2, .int x2), (3, .int x3)], [.int 0], gh S a b (upd sc 4901 0) ar lo, ex, 0, 0)) rfl ?_
            exact to_rt (i := .ireturn) (tg := []) rfl rfl ⟨_, _, _, ⟨hI1, hF1, rl_n (n := 0) (by omega)⟩, rfl⟩
          · refine to_n 2 (fr' := (56, [(0, .ref 49), (1, .int (nI n2)), (2, .int x2), (3, .int x3)], [.int 9, .int x2], gh S a b (upd sc 4901 0) ar lo, ex, 0, 0)) rfl ?_
            refine to_ic_gt (t := 69) rfl (fun q7 => ?_) (fun q7 => ?_)
            · refine to_n 1 (fr' := (70, [(0, .ref 49), (1, .int (nI n2)), (2, .int x2), (3, .int x3)], [.int 0], gh S a b (upd sc 4901 0) ar lo, ex, 0, 0)) rfl ?_
              exact to_rt (i := .ireturn) (tg := []) rfl rfl ⟨_, _, _, ⟨hI1, hF1, rl_n (n := 0) (by omega)⟩, rfl⟩
            · refine to_n 1 (fr' := (60, [(0, .ref 49), (1, .int (nI n2)), (2, .int x2), (3, .int x3)], [.int x3], gh S a b (upd sc 4901 0) ar lo, ex, 0, 0)) rfl ?_
              refine to_if_lt (t := 69) rfl (fun q8 => ?_) (fun q8 => ?_)
              · refine to_n 1 (fr' := (70, [(0, .ref 49), (1, .int (nI n2)), (2, .int x2), (3, .int x3)], [.int 0], gh S a b (upd sc 4901 0) ar lo, ex, 0, 0)) rfl ?_
                exact to_rt (i := .ireturn) (tg := []) rfl rfl ⟨_, _, _, ⟨hI1, hF1, rl_n (n := 0) (by omega)⟩, rfl⟩
              · refine to_n 2 (fr' := (66, [(0, .ref 49), (1, .int (nI n2)), (2, .int x2), (3, .int x3)], [.int 7, .int x3], gh S a b (upd sc 4901 0) ar lo, ex, 0, 0)) rfl ?_
                refine to_ic_le (t := 71) rfl (fun q9 => ?_) (fun q9 => ?_)
                · refine to_n 1 (fr' := (72, [(0, .ref 49), (1, .int (nI n2)), (2, .int x2), (3, .int x3)], [.ref 49], gh S a b (upd sc 4901 0) ar lo, ex, 0, 0)) rfl ?_
                  refine to_get rfl rfl rfl rfl ?_
                  refine to_n 2 (fr' := (77, [(0, .ref 49), (1, .int (nI n2)), (2, .int x2), (3, .int x3)], [.int 0, .int (nI n2), .ref 51], gh S a b (upd sc 4901 0) ar lo, ex, 0, 0)) rfl ?_
                  refine to_iasR (i := n2) (h' := gh S a b (upd sc 4901 0) (uA ar 51 (upd (ar 51) n2 0)) lo) rfl rfl (by omega) (by omega) rfl ?_
                  have hI10 := ia_51 (g := (upd (ar 51) n2 0)) hI1
                  have hF10 := fr_a (c := 51) (g := (upd (ar 51) n2 0)) hF1 (by decide)
                  refine to_n 1 (fr' := (79, [(0, .ref 49), (1, .int (nI n2)), (2, .int x2), (3, .int x3)], [.ref 49], gh S a b (upd sc 4901 0) (uA ar 51 (upd (ar 51) n2 0)) lo, ex, 0, 0)) rfl ?_
                  refine to_get rfl rfl rfl rfl ?_
                  refine to_n 2 (fr' := (84, [(0, .ref 49), (1, .int (nI n2)), (2, .int x2), (3, .int x3)], [.int x2, .int (nI n2), .ref 52], gh S a b (upd sc 4901 0) (uA ar 51 (upd (ar 51) n2 0)) lo, ex, 0, 0)) rfl ?_
                  refine to_iasR (i := n2) (h' := gh S a b (upd sc 4901 0) (uA (uA ar 51 (upd (ar 51) n2 0)) 52 (upd ((uA ar 51 (upd (ar 51) n2 0)) 52) n2 x2)) lo) rfl rfl (by omega) (by omega) rfl ?_
                  have hI11 := ia_52 (g := (upd ((uA ar 51 (upd (ar 51) n2 0)) 52) n2 x2)) hI10
                  have hF11 := fr_a (c := 52) (g := (upd ((uA ar 51 (upd (ar 51) n2 0)) 52) n2 x2)) hF10 (by decide)
                  refine to_n 1 (fr' := (86, [(0, .ref 49), (1, .int (nI n2)), (2, .int x2), (3, .int x3)], [.ref 49], gh S a b (upd sc 4901 0) (uA (uA ar 51 (upd (ar 51) n2 0)) 52 (upd ((uA ar 51 (upd (ar 51) n2 0)) 52) n2 x2)) lo, ex, 0, 0)) rfl ?_
                  refine to_get rfl rfl rfl rfl ?_
                  refine to_n 2 (fr' := (91, [(0, .ref 49), (1, .int (nI n2)), (2, .int x2), (3, .int x3)], [.int x3, .int (nI n2), .ref 53], gh S a b (upd sc 4901 0) (uA (uA ar 51 (upd (ar 51) n2 0)) 52 (upd ((uA ar 51 (upd (ar 51) n2 0)) 52) n2 x2)) lo, ex, 0, 0)) rfl ?_
                  refine to_iasR (i := n2) (h' := gh S a b (upd sc 4901 0) (uA (uA (uA ar 51 (upd (ar 51) n2 0)) 52 (upd ((uA ar 51 (upd (ar 51) n2 0)) 52) n2 x2)) 53 (upd ((uA (uA ar 51 (upd (ar 51) n2 0)) 52 (upd ((uA ar 51 (upd (ar 51) n2 0)) 52) n2 x2)) 53) n2 x3)) lo) rfl rfl (by omega) (by omega) rfl ?_
                  have hI12 := ia_53 (g := (upd ((uA (uA ar 51 (upd (ar 51) n2 0)) 52 (upd ((uA ar 51 (upd (ar 51) n2 0)) 52) n2 x2)) 53) n2 x3)) hI11
                  have hF12 := fr_a (c := 53) (g := (upd ((uA (uA ar 51 (upd (ar 51) n2 0)) 52 (upd ((uA ar 51 (upd (ar 51) n2 0)) 52) n2 x2)) 53) n2 x3)) hF11 (by decide)
                  refine to_n 1 (fr' := (93, [(0, .ref 49), (1, .int (nI n2)), (2, .int x2), (3, .int x3)], [.ref 49], gh S a b (upd sc 4901 0) (uA (uA (uA ar 51 (upd (ar 51) n2 0)) 52 (upd ((uA ar 51 (upd (ar 51) n2 0)) 52) n2 x2)) 53 (upd ((uA (uA ar 51 (upd (ar 51) n2 0)) 52 (upd ((uA ar 51 (upd (ar 51) n2 0)) 52) n2 x2)) 53) n2 x3)) lo, ex, 0, 0)) rfl ?_
                  refine to_get rfl rfl rfl rfl ?_
                  refine to_n 2 (fr' := (98, [(0, .ref 49), (1, .int (nI n2)), (2, .int x2), (3, .int x3)], [.int x2, .int (nI n2), .ref 54], gh S a b (upd sc 4901 0) (uA (uA (uA ar 51 (upd (ar 51) n2 0)) 52 (upd ((uA ar 51 (upd (ar 51) n2 0)) 52) n2 x2)) 53 (upd ((uA (uA ar 51 (upd (ar 51) n2 0)) 52 (upd ((uA ar 51 (upd (ar 51) n2 0)) 52) n2 x2)) 53) n2 x3)) lo, ex, 0, 0)) rfl ?_
                  refine to_iasR (i := n2) (h' := gh S a b (upd sc 4901 0) (uA (uA (uA (uA ar 51 (upd (ar 51) n2 0)) 52 (upd ((uA ar 51 (upd (ar 51) n2 0)) 52) n2 x2)) 53 (upd ((uA (uA ar 51 (upd (ar 51) n2 0)) 52 (upd ((uA ar 51 (upd (ar 51) n2 0)) 52) n2 x2)) 53) n2 x3)) 54 (upd ((uA (uA (uA ar 51 (upd (ar 51) n2 0)) 52 (upd ((uA ar 51 (upd (ar 51) n2 0)) 52) n2 x2)) 53 (upd ((uA (uA ar 51 (upd (ar 51) n2 0)) 52 (upd ((uA ar 51 (upd (ar 51) n2 0)) 52) n2 x2)) 53) n2 x3)) 54) n2 x2)) lo) rfl rfl (by omega) (by omega) rfl ?_
                  have hI13 := ia_54 (g := (upd ((uA (uA (uA ar 51 (upd (ar 51) n2 0)) 52 (upd ((uA ar 51 (upd (ar 51) n2 0)) 52) n2 x2)) 53 (upd ((uA (uA ar 51 (upd (ar 51) n2 0)) 52 (upd ((uA ar 51 (upd (ar 51) n2 0)) 52) n2 x2)) 53) n2 x3)) 54) n2 x2)) hI12
                  have hF13 := fr_a (c := 54) (g := (upd ((uA (uA (uA ar 51 (upd (ar 51) n2 0)) 52 (upd ((uA ar 51 (upd (ar 51) n2 0)) 52) n2 x2)) 53 (upd ((uA (uA ar 51 (upd (ar 51) n2 0)) 52 (upd ((uA ar 51 (upd (ar 51) n2 0)) 52) n2 x2)) 53) n2 x3)) 54) n2 x2)) hF12 (by decide)
                  refine to_n 1 (fr' := (100, [(0, .ref 49), (1, .int (nI n2)), (2, .int x2), (3, .int x3)], [.ref 49], gh S a b (upd sc 4901 0) (uA (uA (uA (uA ar 51 (upd (ar 51) n2 0)) 52 (upd ((uA ar 51 (upd (ar 51) n2 0)) 52) n2 x2)) 53 (upd ((uA (uA ar 51 (upd (ar 51) n2 0)) 52 (upd ((uA ar 51 (upd (ar 51) n2 0)) 52) n2 x2)) 53) n2 x3)) 54 (upd ((uA (uA (uA ar 51 (upd (ar 51) n2 0)) 52 (upd ((uA ar 51 (upd (ar 51) n2 0)) 52) n2 x2)) 53 (upd ((uA (uA ar 51 (upd (ar 51) n2 0)) 52 (upd ((uA ar 51 (upd (ar 51) n2 0)) 52) n2 x2)) 53) n2 x3)) 54) n2 x2)) lo, ex, 0, 0)) rfl ?_
                  refine to_get rfl rfl rfl rfl ?_
                  refine to_n 2 (fr' := (105, [(0, .ref 49), (1, .int (nI n2)), (2, .int x2), (3, .int x3)], [.int 0, .int (nI n2), .ref 55], gh S a b (upd sc 4901 0) (uA (uA (uA (uA ar 51 (upd (ar 51) n2 0)) 52 (upd ((uA ar 51 (upd (ar 51) n2 0)) 52) n2 x2)) 53 (upd ((uA (uA ar 51 (upd (ar 51) n2 0)) 52 (upd ((uA ar 51 (upd (ar 51) n2 0)) 52) n2 x2)) 53) n2 x3)) 54 (upd ((uA (uA (uA ar 51 (upd (ar 51) n2 0)) 52 (upd ((uA ar 51 (upd (ar 51) n2 0)) 52) n2 x2)) 53 (upd ((uA (uA ar 51 (upd (ar 51) n2 0)) 52 (upd ((uA ar 51 (upd (ar 51) n2 0)) 52) n2 x2)) 53) n2 x3)) 54) n2 x2)) lo, ex, 0, 0)) rfl ?_
                  refine to_iasR (i := n2) (h' := gh S a b (upd sc 4901 0) (uA (uA (uA (uA (uA ar 51 (upd (ar 51) n2 0)) 52 (upd ((uA ar 51 (upd (ar 51) n2 0)) 52) n2 x2)) 53 (upd ((uA (uA ar 51 (upd (ar 51) n2 0)) 52 (upd ((uA ar 51 (upd (ar 51) n2 0)) 52) n2 x2)) 53) n2 x3)) 54 (upd ((uA (uA (uA ar 51 (upd (ar 51) n2 0)) 52 (upd ((uA ar 51 (upd (ar 51) n2 0)) 52) n2 x2)) 53 (upd ((uA (uA ar 51 (upd (ar 51) n2 0)) 52 (upd ((uA ar 51 (upd (ar 51) n2 0)) 52) n2 x2)) 53) n2 x3)) 54) n2 x2)) 55 (upd ((uA (uA (uA (uA ar 51 (upd (ar 51) n2 0)) 52 (upd ((uA ar 51 (upd (ar 51) n2 0)) 52) n2 x2)) 53 (upd ((uA (uA ar 51 (upd (ar 51) n2 0)) 52 (upd ((uA ar 51 (upd (ar 51) n2 0)) 52) n2 x2)) 53) n2 x3)) 54 (upd ((uA (uA (uA ar 51 (upd (ar 51) n2 0)) 52 (upd ((uA ar 51 (upd (ar 51) n2 0)) 52) n2 x2)) 53 (upd ((uA (uA ar 51 (upd (ar 51) n2 0)) 52 (upd ((uA ar 51 (upd (ar 51) n2 0)) 52) n2 x2)) 53) n2 x3)) 54) n2 x2)) 55) n2 0)) lo) rfl rfl (by omega) (by omega) rfl ?_
                  have hI14 := ia_55 (g := (upd ((uA (uA (uA (uA ar 51 (upd (ar 51) n2 0)) 52 (upd ((uA ar 51 (upd (ar 51) n2 0)) 52) n2 x2)) 53 (upd ((uA (uA ar 51 (upd (ar 51) n2 0)) 52 (upd ((uA ar 51 (upd (ar 51) n2 0)) 52) n2 x2)) 53) n2 x3)) 54 (upd ((uA (uA (uA ar 51 (upd (ar 51) n2 0)) 52 (upd ((uA ar 51 (upd (ar 51) n2 0)) 52) n2 x2)) 53 (upd ((uA (uA ar 51 (upd (ar 51) n2 0)) 52 (upd ((uA ar 51 (upd (ar 51) n2 0)) 52) n2 x2)) 53) n2 x3)) 54) n2 x2)) 55) n2 0)) hI13
                  have hF14 := fr_a (c := 55) (g := (upd ((uA (uA (uA (uA ar 51 (upd (ar 51) n2 0)) 52 (upd ((uA ar 51 (upd (ar 51) n2 0)) 52) n2 x2)) 53 (upd ((uA (uA ar 51 (upd (ar 51) n2 0)) 52 (upd ((uA ar 51 (upd (ar 51) n2 0)) 52) n2 x2)) 53) n2 x3)) 54 (upd ((uA (uA (uA ar 51 (upd (ar 51) n2 0)) 52 (upd ((uA ar 51 (upd (ar 51) n2 0)) 52) n2 x2)) 53 (upd ((uA (uA ar 51 (upd (ar 51) n2 0)) 52 (upd ((uA ar 51 (upd (ar 51) n2 0)) 52) n2 x2)) 53) n2 x3)) 54) n2 x2)) 55) n2 0)) hF13 (by decide)
                  refine to_n 1 (fr' := (107, [(0, .ref 49), (1, .int (nI n2)), (2, .int x2), (3, .int x3)], [.ref 49], gh S a b (upd sc 4901 0) (uA (uA (uA (uA (uA ar 51 (upd (ar 51) n2 0)) 52 (upd ((uA ar 51 (upd (ar 51) n2 0)) 52) n2 x2)) 53 (upd ((uA (uA ar 51 (upd (ar 51) n2 0)) 52 (upd ((uA ar 51 (upd (ar 51) n2 0)) 52) n2 x2)) 53) n2 x3)) 54 (upd ((uA (uA (uA ar 51 (upd (ar 51) n2 0)) 52 (upd ((uA ar 51 (upd (ar 51) n2 0)) 52) n2 x2)) 53 (upd ((uA (uA ar 51 (upd (ar 51) n2 0)) 52 (upd ((uA ar 51 (upd (ar 51) n2 0)) 52) n2 x2)) 53) n2 x3)) 54) n2 x2)) 55 (upd ((uA (uA (uA (uA ar 51 (upd (ar 51) n2 0)) 52 (upd ((uA ar 51 (upd (ar 51) n2 0)) 52) n2 x2)) 53 (upd ((uA (uA ar 51 (upd (ar 51) n2 0)) 52 (upd ((uA ar 51 (upd (ar 51) n2 0)) 52) n2 x2)) 53) n2 x3)) 54 (upd ((uA (uA (uA ar 51 (upd (ar 51) n2 0)) 52 (upd ((uA ar 51 (upd (ar 51) n2 0)) 52) n2 x2)) 53 (upd ((uA (uA ar 51 (upd (ar 51) n2 0)) 52 (upd ((uA ar 51 (upd (ar 51) n2 0)) 52) n2 x2)) 53) n2 x3)) 54) n2 x2)) 55) n2 0)) lo, ex, 0, 0)) rfl ?_
                  refine to_get rfl rfl rfl rfl ?_
                  refine to_n 2 (fr' := (112, [(0, .ref 49), (1, .int (nI n2)), (2, .int x2), (3, .int x3)], [.int 0, .int (nI n2), .ref 56], gh S a b (upd sc 4901 0) (uA (uA (uA (uA (uA ar 51 (upd (ar 51) n2 0)) 52 (upd ((uA ar 51 (upd (ar 51) n2 0)) 52) n2 x2)) 53 (upd ((uA (uA ar 51 (upd (ar 51) n2 0)) 52 (upd ((uA ar 51 (upd (ar 51) n2 0)) 52) n2 x2)) 53) n2 x3)) 54 (upd ((uA (uA (uA ar 51 (upd (ar 51) n2 0)) 52 (upd ((uA ar 51 (upd (ar 51) n2 0)) 52) n2 x2)) 53 (upd ((uA (uA ar 51 (upd (ar 51) n2 0)) 52 (upd ((uA ar 51 (upd (ar 51) n2 0)) 52) n2 x2)) 53) n2 x3)) 54) n2 x2)) 55 (upd ((uA (uA (uA (uA ar 51 (upd (ar 51) n2 0)) 52 (upd ((uA ar 51 (upd (ar 51) n2 0)) 52) n2 x2)) 53 (upd ((uA (uA ar 51 (upd (ar 51) n2 0)) 52 (upd ((uA ar 51 (upd (ar 51) n2 0)) 52) n2 x2)) 53) n2 x3)) 54 (upd ((uA (uA (uA ar 51 (upd (ar 51) n2 0)) 52 (upd ((uA ar 51 (upd (ar 51) n2 0)) 52) n2 x2)) 53 (upd ((uA (uA ar 51 (upd (ar 51) n2 0)) 52 (upd ((uA ar 51 (upd (ar 51) n2 0)) 52) n2 x2)) 53) n2 x3)) 54) n2 x2)) 55) n2 0)) lo, ex, 0, 0)) rfl ?_
                  refine to_iasR (i := n2) (h' := gh S a b (upd sc 4901 0) (uA (uA (uA (uA (uA (uA ar 51 (upd (ar 51) n2 0)) 52 (upd ((uA ar 51 (upd (ar 51) n2 0)) 52) n2 x2)) 53 (upd ((uA (uA ar 51 (upd (ar 51) n2 0)) 52 (upd ((uA ar 51 (upd (ar 51) n2 0)) 52) n2 x2)) 53) n2 x3)) 54 (upd ((uA (uA (uA ar 51 (upd (ar 51) n2 0)) 52 (upd ((uA ar 51 (upd (ar 51) n2 0)) 52) n2 x2)) 53 (upd ((uA (uA ar 51 (upd (ar 51) n2 0)) 52 (upd ((uA ar 51 (upd (ar 51) n2 0)) 52) n2 x2)) 53) n2 x3)) 54) n2 x2)) 55 (upd ((uA (uA (uA (uA ar 51 (upd (ar 51) n2 0)) 52 (upd ((uA ar 51 (upd (ar 51) n2 0)) 52) n2 x2)) 53 (upd ((uA (uA ar 51 (upd (ar 51) n2 0)) 52 (upd ((uA ar 51 (upd (ar 51) n2 0)) 52) n2 x2)) 53) n2 x3)) 54 (upd ((uA (uA (uA ar 51 (upd (ar 51) n2 0)) 52 (upd ((uA ar 51 (upd (ar 51) n2 0)) 52) n2 x2)) 53 (upd ((uA (uA ar 51 (upd (ar 51) n2 0)) 52 (upd ((uA ar 51 (upd (ar 51) n2 0)) 52) n2 x2)) 53) n2 x3)) 54) n2 x2)) 55) n2 0)) 56 (upd ((uA (uA (uA (uA (uA ar 51 (upd (ar 51) n2 0)) 52 (upd ((uA ar 51 (upd (ar 51) n2 0)) 52) n2 x2)) 53 (upd ((uA (uA ar 51 (upd (ar 51) n2 0)) 52 (upd ((uA ar 51 (upd (ar 51) n2 0)) 52) n2 x2)) 53) n2 x3)) 54 (upd ((uA (uA (uA ar 51 (upd (ar 51) n2 0)) 52 (upd ((uA ar 51 (upd (ar 51) n2 0)) 52) n2 x2)) 53 (upd ((uA (uA ar 51 (upd (ar 51) n2 0)) 52 (upd ((uA ar 51 (upd (ar 51) n2 0)) 52) n2 x2)) 53) n2 x3)) 54) n2 x2)) 55 (upd ((uA (uA (uA (uA ar 51 (upd (ar 51) n2 0)) 52 (upd ((uA ar 51 (upd (ar 51) n2 0)) 52) n2 x2)) 53 (upd ((uA (uA ar 51 (upd (ar 51) n2 0)) 52 (upd ((uA ar 51 (upd (ar 51) n2 0)) 52) n2 x2)) 53) n2 x3)) 54 (upd ((uA (uA (uA ar 51 (upd (ar 51) n2 0)) 52 (upd ((uA ar 51 (upd (ar 51) n2 0)) 52) n2 x2)) 53 (upd ((uA (uA ar 51 (upd (ar 51) n2 0)) 52 (upd ((uA ar 51 (upd (ar 51) n2 0)) 52) n2 x2)) 53) n2 x3)) 54) n2 x2)) 55) n2 0)) 56) n2 0)) lo) rfl rfl (by omega) (by omega) rfl ?_
                  have hI15 := ia_56 (g := (upd ((uA (uA (uA (uA (uA ar 51 (upd (ar 51) n2 0)) 52 (upd ((uA ar 51 (upd (ar 51) n2 0)) 52) n2 x2)) 53 (upd ((uA (uA ar 51 (upd (ar 51) n2 0)) 52 (upd ((uA ar 51 (upd (ar 51) n2 0)) 52) n2 x2)) 53) n2 x3)) 54 (upd ((uA (uA (uA ar 51 (upd (ar 51) n2 0)) 52 (upd ((uA ar 51 (upd (ar 51) n2 0)) 52) n2 x2)) 53 (upd ((uA (uA ar 51 (upd (ar 51) n2 0)) 52 (upd ((uA ar 51 (upd (ar 51) n2 0)) 52) n2 x2)) 53) n2 x3)) 54) n2 x2)) 55 (upd ((uA (uA (uA (uA ar 51 (upd (ar 51) n2 0)) 52 (upd ((uA ar 51 (upd (ar 51) n2 0)) 52) n2 x2)) 53 (upd ((uA (uA ar 51 (upd (ar 51) n2 0)) 52 (upd ((uA ar 51 (upd (ar 51) n2 0)) 52) n2 x2)) 53) n2 x3)) 54 (upd ((uA (uA (uA ar 51 (upd (ar 51) n2 0)) 52 (upd ((uA ar 51 (upd (ar 51) n2 0)) 52) n2 x2)) 53 (upd ((uA (uA ar 51 (upd (ar 51) n2 0)) 52 (upd ((uA ar 51 (upd (ar 51) n2 0)) 52) n2 x2)) 53) n2 x3)) 54) n2 x2)) 55) n2 0)) 56) n2 0)) hI14
                  have hF15 := fr_a (c := 56) (g := (upd ((uA (uA (uA (uA (uA ar 51 (upd (ar 51) n2 0)) 52 (upd ((uA ar 51 (upd (ar 51) n2 0)) 52) n2 x2)) 53 (upd ((uA (uA ar 51 (upd (ar 51) n2 0)) 52 (upd ((uA ar 51 (upd (ar 51) n2 0)) 52) n2 x2)) 53) n2 x3)) 54 (upd ((uA (uA (uA ar 51 (upd (ar 51) n2 0)) 52 (upd ((uA ar 51 (upd (ar 51) n2 0)) 52) n2 x2)) 53 (upd ((uA (uA ar 51 (upd (ar 51) n2 0)) 52 (upd ((uA ar 51 (upd (ar 51) n2 0)) 52) n2 x2)) 53) n2 x3)) 54) n2 x2)) 55 (upd ((uA (uA (uA (uA ar 51 (upd (ar 51) n2 0)) 52 (upd ((uA ar 51 (upd (ar 51) n2 0)) 52) n2 x2)) 53 (upd ((uA (uA ar 51 (upd (ar 51) n2 0)) 52 (upd ((uA ar 51 (upd (ar 51) n2 0)) 52) n2 x2)) 53) n2 x3)) 54 (upd ((uA (uA (uA ar 51 (upd (ar 51) n2 0)) 52 (upd ((uA ar 51 (upd (ar 51) n2 0)) 52) n2 x2)) 53 (upd ((uA (uA ar 51 (upd (ar 51) n2 0)) 52 (upd ((uA ar 51 (upd (ar 51) n2 0)) 52) n2 x2)) 53) n2 x3)) 54) n2 x2)) 55) n2 0)) 56) n2 0)) hF14 (by decide)
                  refine to_n 1 (fr' := (114, [(0, .ref 49), (1, .int (nI n2)), (2, .int x2), (3, .int x3)], [.int 1], gh S a b (upd sc 4901 0) (uA (uA (uA (uA (uA (uA ar 51 (upd (ar 51) n2 0)) 52 (upd ((uA ar 51 (upd (ar 51) n2 0)) 52) n2 x2)) 53 (upd ((uA (uA ar 51 (upd (ar 51) n2 0)) 52 (upd ((uA ar 51 (upd (ar 51) n2 0)) 52) n2 x2)) 53) n2 x3)) 54 (upd ((uA (uA (uA ar 51 (upd (ar 51) n2 0)) 52 (upd ((uA ar 51 (upd (ar 51) n2 0)) 52) n2 x2)) 53 (upd ((uA (uA ar 51 (upd (ar 51) n2 0)) 52 (upd ((uA ar 51 (upd (ar 51) n2 0)) 52) n2 x2)) 53) n2 x3)) 54) n2 x2)) 55 (upd ((uA (uA (uA (uA ar 51 (upd (ar 51) n2 0)) 52 (upd ((uA ar 51 (upd (ar 51) n2 0)) 52) n2 x2)) 53 (upd ((uA (uA ar 51 (upd (ar 51) n2 0)) 52 (upd ((uA ar 51 (upd (ar 51) n2 0)) 52) n2 x2)) 53) n2 x3)) 54 (upd ((uA (uA (uA ar 51 (upd (ar 51) n2 0)) 52 (upd ((uA ar 51 (upd (ar 51) n2 0)) 52) n2 x2)) 53 (upd ((uA (uA ar 51 (upd (ar 51) n2 0)) 52 (upd ((uA ar 51 (upd (ar 51) n2 0)) 52) n2 x2)) 53) n2 x3)) 54) n2 x2)) 55) n2 0)) 56 (upd ((uA (uA (uA (uA (uA ar 51 (upd (ar 51) n2 0)) 52 (upd ((uA ar 51 (upd (ar 51) n2 0)) 52) n2 x2)) 53 (upd ((uA (uA ar 51 (upd (ar 51) n2 0)) 52 (upd ((uA ar 51 (upd (ar 51) n2 0)) 52) n2 x2)) 53) n2 x3)) 54 (upd ((uA (uA (uA ar 51 (upd (ar 51) n2 0)) 52 (upd ((uA ar 51 (upd (ar 51) n2 0)) 52) n2 x2)) 53 (upd ((uA (uA ar 51 (upd (ar 51) n2 0)) 52 (upd ((uA ar 51 (upd (ar 51) n2 0)) 52) n2 x2)) 53) n2 x3)) 54) n2 x2)) 55 (upd ((uA (uA (uA (uA ar 51 (upd (ar 51) n2 0)) 52 (upd ((uA ar 51 (upd (ar 51) n2 0)) 52) n2 x2)) 53 (upd ((uA (uA ar 51 (upd (ar 51) n2 0)) 52 (upd ((uA ar 51 (upd (ar 51) n2 0)) 52) n2 x2)) 53) n2 x3)) 54 (upd ((uA (uA (uA ar 51 (upd (ar 51) n2 0)) 52 (upd ((uA ar 51 (upd (ar 51) n2 0)) 52) n2 x2)) 53 (upd ((uA (uA ar 51 (upd (ar 51) n2 0)) 52 (upd ((uA ar 51 (upd (ar 51) n2 0)) 52) n2 x2)) 53) n2 x3)) 54) n2 x2)) 55) n2 0)) 56) n2 0)) lo, ex, 0, 0)) rfl ?_
                  exact to_rt (i := .ireturn) (tg := []) rfl rfl ⟨_, _, _, ⟨hI15, hF15, rl_n (n := 1) (by omega)⟩, rfl⟩
                · refine to_n 1 (fr' := (70, [(0, .ref 49), (1, .int (nI n2)), (2, .int x2), (3, .int x3)], [.int 0], gh S a b (upd sc 4901 0) ar lo, ex, 0, 0)) rfl ?_
                  exact to_rt (i := .ireturn) (tg := []) rfl rfl ⟨_, _, _, ⟨hI1, hF1, rl_n (n := 0) (by omega)⟩, rfl⟩
  · refine to_cp (q := 109) (M1 := an_X10_isCell) (rest := []) rfl rfl (by decide) rfl ⟨_, rfl⟩ (mc_isCell_0 hW w2 d) (fun x2 hx2 => ?_)
    obtain rfl := hx2
    refine to_eq (fr' := (10, [(0, .ref 49), (1, .int x1), (2, .int x2), (3, .int x3)], [.int 0], gh S a b (upd sc 4901 0) ar lo, ex, 0, 0)) rfl ?_
    refine to_n 2 (fr' := (14, [(0, .ref 49), (1, .int x1), (2, .int x2), (3, .int x3)], [.ref 49], gh S a b (upd sc 4901 0) ar lo, ex, 0, 0)) rfl ?_
    refine to_ci (q := 108) (M1 := an_X10_fail) (rest := []) rfl rfl (by decide) rfl ⟨_, rfl⟩ (sf_X10_fail hW hI1  d) (fun x16 sc16 ar16 hx16 => ?_)
    obtain ⟨hI16, hG16, hx16⟩ := hx16
    have hF16 := fr_t hF1 hG16 (by decide) (by decide)
    have hp16 := hx16
    refine to_eq (fr' := (17, [(0, .ref 49), (1, .int x1), (2, .int x2), (3, .int x3)], [.int x16], gh S a b sc16 ar16 lo, ex, 0, 0)) rfl ?_
    refine to_n 2 (fr' := (19, [(0, .ref 49), (1, .int x1), (2, .int x2), (3, .int x3)], [.int 0], gh S a b sc16 ar16 lo, ex, 0, 0)) rfl ?_
    exact to_rt (i := .ireturn) (tg := []) rfl rfl ⟨_, _, _, ⟨hI16, hF16, rl_n (n := 0) (by omega)⟩, rfl⟩
set_option maxRecDepth 20000 in
theorem sf_X10_well {X : Nat × (Nat → Int32)} {S a b : Nat} {sc : Nat → Int32} {ar : Nat → Nat → Int32} {lo : Nat → Int64} {ex : Bool} (hW : Wd S a b) (hI : Iv S sc ar) (x1 : Int32) (k2 : Nat) (hk2 : k2 < 2) (d : Nat)  : ci X S a b (d + 2) 114 [.ref 49, .int x1, .int (nI k2)] sc ar lo ex (fun x sc' ar' => Iv S sc' ar' ∧ Fr [4901] [58] sc ar sc' ar' ∧ rl x 2) := by
  obtain ⟨ha1, ha8, hb1, hb8, hab, hS1, hS⟩ := id hW
  refine ci_of (M := an_X10_well) rfl (Nat.le_of_ble_eq_true rfl) ?_
  have hF : Fr [4901] [58] sc ar sc ar := fr_0
  refine to_eq (fr' := (0, [(0, .ref 49), (1, .int x1), (2, .int (nI k2))], [], gh S a b sc ar lo, ex, 0, 0)) rfl ?_
  refine to_n 2 (fr' := (2, [(0, .ref 49), (1, .int x1), (2, .int (nI k2))], [.int 0, .ref 49], gh S a b sc ar lo, ex, 0, 0)) rfl ?_
  refine to_putR (h' := gh S a b (upd sc 4901 0) ar lo) rfl rfl rfl (Nat.le_of_ble_eq_true rfl) rfl rfl ?_
  have hI1 := ip_4901 (v := 0) hI 
  have hF1 := fr_s (k := 4901) (v := 0) hF (by decide)
  refine to_n 2 (fr' := (7, [(0, .ref 49), (1, .int x1), (2, .int (nI k2))], [.int x1, .ref 49], gh S a b (upd sc 4901 0) ar lo, ex, 0, 0)) rfl ?_
  rcases has_or (x := x1) (B := S) (by omega) with ⟨n2, hn2, e2⟩ | w2
  · rw [e2]
    refine to_cp (q := 109) (M1 := an_X10_isCell) (rest := []) rfl rfl (by decide) rfl ⟨_, rfl⟩ (mc_isCell_1 (n := n2) hW (by omega) d) (fun x2 hx2 => ?_)
    obtain rfl := hx2
    refine to_eq (fr' := (10, [(0, .ref 49), (1, .int (nI n2)), (2, .int (nI k2))], [.int 1], gh S a b (upd sc 4901 0) ar lo, ex, 0, 0)) rfl ?_
    refine to_n 2 (fr' := (21, [(0, .ref 49), (1, .int (nI n2)), (2, .int (nI k2))], [.ref 49], gh S a b (upd sc 4901 0) ar lo, ex, 0, 0)) rfl ?_
    refine to_get rfl rfl rfl rfl ?_
    refine to_n 1 (fr' := (25, [(0, .ref 49), (1, .int (nI n2)), (2, .int (nI k2))], [.int (nI n2), .ref 51], gh S a b (upd sc 4901 0) ar lo, ex, 0, 0)) rfl ?_
    refine to_ialR (i := n2) (v := ((ar 51) n2)) rfl (by decide) rfl (by omega) (by omega) rfl ?_
    refine to_n 1 (fr' := (27, [(0, .ref 49), (1, .int (nI n2)), (2, .int (nI k2))], [.int (-1), .int ((ar 51) n2)], gh S a b (upd sc 4901 0) ar lo, ex, 0, 0)) rfl ?_
    refine to_ic_ne (t := 40) rfl (fun q3 => ?_) (fun q3 => ?_)
    · refine to_n 1 (fr' := (41, [(0, .ref 49), (1, .int (nI n2)), (2, .int (nI k2))], [.int 0], gh S a b (upd sc 4901 0) ar lo, ex, 0, 0)) rfl ?_
      exact to_rt (i := .ireturn) (tg := []) rfl rfl ⟨_, _, _, ⟨hI1, hF1, rl_n (n := 0) (by omega)⟩, rfl⟩
    · refine to_n 1 (fr' := (31, [(0, .ref 49), (1, .int (nI n2)), (2, .int (nI k2))], [.ref 49], gh S a b (upd sc 4901 0) ar lo, ex, 0, 0)) rfl ?_
      refine to_get rfl rfl rfl rfl ?_
      refine to_n 1 (fr' := (35, [(0, .ref 49), (1, .int (nI n2)), (2, .int (nI k2))], [.int (nI n2), .ref 58], gh S a b (upd sc 4901 0) ar lo, ex, 0, 0)) rfl ?_
      refine to_zalR (i := n2) (v := ((ar 58) n2)) rfl rfl (by omega) (by omega) rfl ?_
      refine to_n 1 (fr' := (37, [(0, .ref 49), (1, .int (nI n2)), (2, .int (nI k2))], [.int (nI k2), .int ((ar 58) n2)], gh S a b (upd sc 4901 0) ar lo, ex, 0, 0)) rfl ?_
      refine to_ic_ne (t := 42) rfl (fun q4 => ?_) (fun q4 => ?_)
      · refine to_n 1 (fr' := (43, [(0, .ref 49), (1, .int (nI n2)), (2, .int (nI k2))], [.ref 49], gh S a b (upd sc 4901 0) ar lo, ex, 0, 0)) rfl ?_
        refine to_get rfl rfl rfl rfl ?_
        refine to_n 2 (fr' := (48, [(0, .ref 49), (1, .int (nI n2)), (2, .int (nI k2))], [.int (nI k2), .int (nI n2), .ref 58], gh S a b (upd sc 4901 0) ar lo, ex, 0, 0)) rfl ?_
        refine to_zasR (i := n2) (h' := gh S a b (upd sc 4901 0) (uA ar 58 (upd (ar 58) n2 (vp_nar .boolean (nI k2)))) lo) rfl rfl (by omega) (by omega) rfl ?_
        have hI5 := ia_58 (g := (upd (ar 58) n2 (vp_nar .boolean (nI k2)))) hI1
        have hF5 := fr_a (c := 58) (g := (upd (ar 58) n2 (vp_nar .boolean (nI k2)))) hF1 (by decide)
        refine to_n 1 (fr' := (50, [(0, .ref 49), (1, .int (nI n2)), (2, .int (nI k2))], [.int 1], gh S a b (upd sc 4901 0) (uA ar 58 (upd (ar 58) n2 (vp_nar .boolean (nI k2)))) lo, ex, 0, 0)) rfl ?_
        exact to_rt (i := .ireturn) (tg := []) rfl rfl ⟨_, _, _, ⟨hI5, hF5, rl_n (n := 1) (by omega)⟩, rfl⟩
      · refine to_n 1 (fr' := (41, [(0, .ref 49), (1, .int (nI n2)), (2, .int (nI k2))], [.int 0], gh S a b (upd sc 4901 0) ar lo, ex, 0, 0)) rfl ?_
        exact to_rt (i := .ireturn) (tg := []) rfl rfl ⟨_, _, _, ⟨hI1, hF1, rl_n (n := 0) (by omega)⟩, rfl⟩
  · refine to_cp (q := 109) (M1 := an_X10_isCell) (rest := []) rfl rfl (by decide) rfl ⟨_, rfl⟩ (mc_isCell_0 hW w2 d) (fun x2 hx2 => ?_)
    obtain rfl := hx2
    refine to_eq (fr' := (10, [(0, .ref 49), (1, .int x1), (2, .int (nI k2))], [.int 0], gh S a b (upd sc 4901 0) ar lo, ex, 0, 0)) rfl ?_
    refine to_n 2 (fr' := (14, [(0, .ref 49), (1, .int x1), (2, .int (nI k2))], [.ref 49], gh S a b (upd sc 4901 0) ar lo, ex, 0, 0)) rfl ?_
    refine to_ci (q := 108) (M1 := an_X10_fail) (rest := []) rfl rfl (by decide) rfl ⟨_, rfl⟩ (sf_X10_fail hW hI1  d) (fun x6 sc6 ar6 hx6 => ?_)
    obtain ⟨hI6, hG6, hx6⟩ := hx6
    have hF6 := fr_t hF1 hG6 (by decide) (by decide)
    have hp6 := hx6
    refine to_eq (fr' := (17, [(0, .ref 49), (1, .int x1), (2, .int (nI k2))], [.int x6], gh S a b sc6 ar6 lo, ex, 0, 0)) rfl ?_
    refine to_n 2 (fr' := (19, [(0, .ref 49), (1, .int x1), (2, .int (nI k2))], [.int 0], gh S a b sc6 ar6 lo, ex, 0, 0)) rfl ?_
    exact to_rt (i := .ireturn) (tg := []) rfl rfl ⟨_, _, _, ⟨hI6, hF6, rl_n (n := 0) (by omega)⟩, rfl⟩
set_option maxRecDepth 20000 in
theorem sf_X10_company {X : Nat × (Nat → Int32)} {S a b : Nat} {sc : Nat → Int32} {ar : Nat → Nat → Int32} {lo : Nat → Int64} {ex : Bool} (hW : Wd S a b) (hI : Iv S sc ar) (x1 : Int32) (x2 : Int32) (x3 : Int32) (d : Nat)  : ci X S a b (d + 2) 116 [.ref 49, .int x1, .int x2, .int x3] sc ar lo ex (fun x sc' ar' => Iv S sc' ar' ∧ Fr [4901, 4906] [59, 60, 61, 62] sc ar sc' ar' ∧ (((0 ≤ x3 ∧ x3 < nI S) ∧ co_P 4906 x1 x2 x sc sc' ∧ sc' 4901 = 0) ∨ (¬ (0 ≤ x3 ∧ x3 < nI S) ∧ sc' 4906 = sc 4906 ∧ sc' 4901 = 1))) := by
  obtain ⟨ha1, ha8, hb1, hb8, hab, hS1, hS⟩ := id hW
  obtain ⟨s0, hs0, es0⟩ := iv_s4906 hI
  refine ci_of (M := an_X10_company) rfl (Nat.le_of_ble_eq_true rfl) ?_
  have hF : Fr [4901, 4906] [59, 60, 61, 62] sc ar sc ar := fr_0
  refine to_eq (fr' := (0, [(0, .ref 49), (1, .int x1), (2, .int x2), (3, .int x3)], [], gh S a b sc ar lo, ex, 0, 0)) rfl ?_
  refine to_n 2 (fr' := (2, [(0, .ref 49), (1, .int x1), (2, .int x2), (3, .int x3)], [.int 0, .ref 49], gh S a b sc ar lo, ex, 0, 0)) rfl ?_
  refine to_putR (h' := gh S a b (upd sc 4901 0) ar lo) rfl rfl rfl (Nat.le_of_ble_eq_true rfl) rfl rfl ?_
  have hI1 := ip_4901 (v := 0) hI 
  have hF1 := fr_s (k := 4901) (v := 0) hF (by decide)
  refine to_n 2 (fr' := (7, [(0, .ref 49), (1, .int x1), (2, .int x2), (3, .int x3)], [.int x3, .ref 49], gh S a b (upd sc 4901 0) ar lo, ex, 0, 0)) rfl ?_
  rcases has_or (x := x3) (B := S) (by omega) with ⟨n2, hn2, e2⟩ | w2
  · rw [e2]
    refine to_cp (q := 109) (M1 := an_X10_isCell) (rest := []) rfl rfl (by decide) rfl ⟨_, rfl⟩ (mc_isCell_1 (n := n2) hW (by omega) d) (fun x2 hx2 => ?_)
    obtain rfl := hx2
    refine to_eq (fr' := (10, [(0, .ref 49), (1, .int x1), (2, .int x2), (3, .int (nI n2))], [.int 1], gh S a b (upd sc 4901 0) ar lo, ex, 0, 0)) rfl ?_
    refine to_n 2 (fr' := (19, [(0, .ref 49), (1, .int x1), (2, .int x2), (3, .int (nI n2))], [.ref 49], gh S a b (upd sc 4901 0) ar lo, ex, 0, 0)) rfl ?_
    refine to_getR (v := (nI s0)) rfl rfl rfl rfl es0 ?_
    refine to_n 1 (fr' := (24, [(0, .ref 49), (1, .int x1), (2, .int x2), (3, .int (nI n2))], [.int 8, .int (nI s0)], gh S a b (upd sc 4901 0) ar lo, ex, 0, 0)) rfl ?_
    refine to_nc_eq (t := 48) (x := s0) (y := 8) rfl (by omega) (by omega) (fun q3 => ?_) (fun q3 => ?_)
    · refine to_n 1 (fr' := (49, [(0, .ref 49), (1, .int x1), (2, .int x2), (3, .int (nI n2))], [.int (-1)], gh S a b (upd sc 4901 0) ar lo, ex, 0, 0)) rfl ?_
      exact to_rt (i := .ireturn) (tg := []) rfl rfl ⟨_, _, _, ⟨hI1, hF1, (Or.inl ⟨has_in hn2 (by omega), ⟨s0, by omega, es0, Or.inr ⟨(fun w => by have := w.2; omega), rfl, rfl⟩⟩, rfl⟩)⟩, rfl⟩
    · refine to_n 1 (fr' := (28, [(0, .ref 49), (1, .int x1), (2, .int x2), (3, .int (nI n2))], [.int x1], gh S a b (upd sc 4901 0) ar lo, ex, 0, 0)) rfl ?_
      refine to_if_lt (t := 48) rfl (fun q4 => ?_) (fun q4 => ?_)
      · refine to_n 1 (fr' := (49, [(0, .ref 49), (1, .int x1), (2, .int x2), (3, .int (nI n2))], [.int (-1)], gh S a b (upd sc 4901 0) ar lo, ex, 0, 0)) rfl ?_
        exact to_rt (i := .ireturn) (tg := []) rfl rfl ⟨_, _, _, ⟨hI1, hF1, (Or.inl ⟨has_in hn2 (by omega), ⟨s0, by omega, es0, Or.inr ⟨(fun w => Int32.not_lt.mpr w.1.1.1 q4), rfl, rfl⟩⟩, rfl⟩)⟩, rfl⟩
      · refine to_n 2 (fr' := (34, [(0, .ref 49), (1, .int x1), (2, .int x2), (3, .int (nI n2))], [.int 7, .int x1], gh S a b (upd sc 4901 0) ar lo, ex, 0, 0)) rfl ?_
        refine to_ic_gt (t := 48) rfl (fun q5 => ?_) (fun q5 => ?_)
        · refine to_n 1 (fr' := (49, [(0, .ref 49), (1, .int x1), (2, .int x2), (3, .int (nI n2))], [.int (-1)], gh S a b (upd sc 4901 0) ar lo, ex, 0, 0)) rfl ?_
          exact to_rt (i := .ireturn) (tg := []) rfl rfl ⟨_, _, _, ⟨hI1, hF1, (Or.inl ⟨has_in hn2 (by omega), ⟨s0, by omega, es0, Or.inr ⟨(fun w => Int32.not_lt.mpr w.1.1.2 q5), rfl, rfl⟩⟩, rfl⟩)⟩, rfl⟩
        · refine to_n 2 (fr' := (39, [(0, .ref 49), (1, .int x1), (2, .int x2), (3, .int (nI n2))], [.int 1, .int x2], gh S a b (upd sc 4901 0) ar lo, ex, 0, 0)) rfl ?_
          refine to_ic_lt (t := 48) rfl (fun q6 => ?_) (fun q6 => ?_)
          · refine to_n 1 (fr' := (49, [(0, .ref 49), (1, .int x1), (2, .int x2), (3, .int (nI n2))], [.int (-1)], gh S a b (upd sc 4901 0) ar lo, ex, 0, 0)) rfl ?_
            exact to_rt (i := .ireturn) (tg := []) rfl rfl ⟨_, _, _, ⟨hI1, hF1, (Or.inl ⟨has_in hn2 (by omega), ⟨s0, by omega, es0, Or.inr ⟨(fun w => Int32.not_lt.mpr w.1.2.1 q6), rfl, rfl⟩⟩, rfl⟩)⟩, rfl⟩
          · refine to_n 2 (fr' := (45, [(0, .ref 49), (1, .int x1), (2, .int x2), (3, .int (nI n2))], [.int 9, .int x2], gh S a b (upd sc 4901 0) ar lo, ex, 0, 0)) rfl ?_
            refine to_ic_le (t := 50) rfl (fun q7 => ?_) (fun q7 => ?_)
            · refine to_n 1 (fr' := (51, [(0, .ref 49), (1, .int x1), (2, .int x2), (3, .int (nI n2))], [.ref 49], gh S a b (upd sc 4901 0) ar lo, ex, 0, 0)) rfl ?_
              refine to_get rfl rfl rfl rfl ?_
              refine to_n 1 (fr' := (55, [(0, .ref 49), (1, .int x1), (2, .int x2), (3, .int (nI n2))], [.ref 49, .ref 59], gh S a b (upd sc 4901 0) ar lo, ex, 0, 0)) rfl ?_
              refine to_getR (v := (nI s0)) rfl rfl rfl rfl es0 ?_
              refine to_n 1 (fr' := (59, [(0, .ref 49), (1, .int x1), (2, .int x2), (3, .int (nI n2))], [.int x1, .int (nI s0), .ref 59], gh S a b (upd sc 4901 0) ar lo, ex, 0, 0)) rfl ?_
              refine to_iasR (i := s0) (h' := gh S a b (upd sc 4901 0) (uA ar 59 (upd (ar 59) s0 x1)) lo) rfl rfl (by omega) (by omega) rfl ?_
              have hI8 := ia_59 (g := (upd (ar 59) s0 x1)) hI1
              have hF8 := fr_a (c := 59) (g := (upd (ar 59) s0 x1)) hF1 (by decide)
              refine to_n 1 (fr' := (61, [(0, .ref 49), (1, .int x1), (2, .int x2), (3, .int (nI n2))], [.ref 49], gh S a b (upd sc 4901 0) (uA ar 59 (upd (ar 59) s0 x1)) lo, ex, 0, 0)) rfl ?_
              refine to_get rfl rfl rfl rfl ?_
              refine to_n 1 (fr' := (65, [(0, .ref 49), (1, .int x1), (2, .int x2), (3, .int (nI n2))], [.ref 49, .ref 60], gh S a b (upd sc 4901 0) (uA ar 59 (upd (ar 59) s0 x1)) lo, ex, 0, 0)) rfl ?_
              refine to_getR (v := (nI s0)) rfl rfl rfl rfl es0 ?_
              refine to_n 1 (fr' := (69, [(0, .ref 49), (1, .int x1), (2, .int x2), (3, .int (nI n2))], [.int x2, .int (nI s0), .ref 60], gh S a b (upd sc 4901 0) (uA ar 59 (upd (ar 59) s0 x1)) lo, ex, 0, 0)) rfl ?_
              refine to_iasR (i := s0) (h' := gh S a b (upd sc 4901 0) (uA (uA ar 59 (upd (ar 59) s0 x1)) 60 (upd ((uA ar 59 (upd (ar 59) s0 x1)) 60) s0 x2)) lo) rfl rfl (by omega) (by omega) rfl ?_
              have hI9 := ia_60 (g := (upd ((uA ar 59 (upd (ar 59) s0 x1)) 60) s0 x2)) hI8
              have hF9 := fr_a (c := 60) (g := (upd ((uA ar 59 (upd (ar 59) s0 x1)) 60) s0 x2)) hF8 (by decide)
              refine to_n 1 (fr' := (71, [(0, .ref 49), (1, .int x1), (2, .int x2), (3, .int (nI n2))], [.ref 49], gh S a b (upd sc 4901 0) (uA (uA ar 59 (upd (ar 59) s0 x1)) 60 (upd ((uA ar 59 (upd (ar 59) s0 x1)) 60) s0 x2)) lo, ex, 0, 0)) rfl ?_
              refine to_get rfl rfl rfl rfl ?_
              refine to_n 1 (fr' := (75, [(0, .ref 49), (1, .int x1), (2, .int x2), (3, .int (nI n2))], [.ref 49, .ref 61], gh S a b (upd sc 4901 0) (uA (uA ar 59 (upd (ar 59) s0 x1)) 60 (upd ((uA ar 59 (upd (ar 59) s0 x1)) 60) s0 x2)) lo, ex, 0, 0)) rfl ?_
              refine to_getR (v := (nI s0)) rfl rfl rfl rfl es0 ?_
              refine to_n 1 (fr' := (79, [(0, .ref 49), (1, .int x1), (2, .int x2), (3, .int (nI n2))], [.int (nI n2), .int (nI s0), .ref 61], gh S a b (upd sc 4901 0) (uA (uA ar 59 (upd (ar 59) s0 x1)) 60 (upd ((uA ar 59 (upd (ar 59) s0 x1)) 60) s0 x2)) lo, ex, 0, 0)) rfl ?_
              refine to_iasR (i := s0) (h' := gh S a b (upd sc 4901 0) (uA (uA (uA ar 59 (upd (ar 59) s0 x1)) 60 (upd ((uA ar 59 (upd (ar 59) s0 x1)) 60) s0 x2)) 61 (upd ((uA (uA ar 59 (upd (ar 59) s0 x1)) 60 (upd ((uA ar 59 (upd (ar 59) s0 x1)) 60) s0 x2)) 61) s0 (nI n2))) lo) rfl rfl (by omega) (by omega) rfl ?_
              have hI10 := ia_61 (i := s0) (v := (nI n2)) hI9 (rl_n (n := n2) (by omega))
              have hF10 := fr_a (c := 61) (g := (upd ((uA (uA ar 59 (upd (ar 59) s0 x1)) 60 (upd ((uA ar 59 (upd (ar 59) s0 x1)) 60) s0 x2)) 61) s0 (nI n2))) hF9 (by decide)
              refine to_n 1 (fr' := (81, [(0, .ref 49), (1, .int x1), (2, .int x2), (3, .int (nI n2))], [.ref 49], gh S a b (upd sc 4901 0) (uA (uA (uA ar 59 (upd (ar 59) s0 x1)) 60 (upd ((uA ar 59 (upd (ar 59) s0 x1)) 60) s0 x2)) 61 (upd ((uA (uA ar 59 (upd (ar 59) s0 x1)) 60 (upd ((uA ar 59 (upd (ar 59) s0 x1)) 60) s0 x2)) 61) s0 (nI n2))) lo, ex, 0, 0)) rfl ?_
              refine to_get rfl rfl rfl rfl ?_
              refine to_n 1 (fr' := (85, [(0, .ref 49), (1, .int x1), (2, .int x2), (3, .int (nI n2))], [.ref 49, .ref 62], gh S a b (upd sc 4901 0) (uA (uA (uA ar 59 (upd (ar 59) s0 x1)) 60 (upd ((uA ar 59 (upd (ar 59) s0 x1)) 60) s0 x2)) 61 (upd ((uA (uA ar 59 (upd (ar 59) s0 x1)) 60 (upd ((uA ar 59 (upd (ar 59) s0 x1)) 60) s0 x2)) 61) s0 (nI n2))) lo, ex, 0, 0)) rfl ?_
              refine to_getR (v := (nI s0)) rfl rfl rfl rfl es0 ?_
              refine to_n 1 (fr' := (89, [(0, .ref 49), (1, .int x1), (2, .int x2), (3, .int (nI n2))], [.int (-1), .int (nI s0), .ref 62], gh S a b (upd sc 4901 0) (uA (uA (uA ar 59 (upd (ar 59) s0 x1)) 60 (upd ((uA ar 59 (upd (ar 59) s0 x1)) 60) s0 x2)) 61 (upd ((uA (uA ar 59 (upd (ar 59) s0 x1)) 60 (upd ((uA ar 59 (upd (ar 59) s0 x1)) 60) s0 x2)) 61) s0 (nI n2))) lo, ex, 0, 0)) rfl ?_
              refine to_iasR (i := s0) (h' := gh S a b (upd sc 4901 0) (uA (uA (uA (uA ar 59 (upd (ar 59) s0 x1)) 60 (upd ((uA ar 59 (upd (ar 59) s0 x1)) 60) s0 x2)) 61 (upd ((uA (uA ar 59 (upd (ar 59) s0 x1)) 60 (upd ((uA ar 59 (upd (ar 59) s0 x1)) 60) s0 x2)) 61) s0 (nI n2))) 62 (upd ((uA (uA (uA ar 59 (upd (ar 59) s0 x1)) 60 (upd ((uA ar 59 (upd (ar 59) s0 x1)) 60) s0 x2)) 61 (upd ((uA (uA ar 59 (upd (ar 59) s0 x1)) 60 (upd ((uA ar 59 (upd (ar 59) s0 x1)) 60) s0 x2)) 61) s0 (nI n2))) 62) s0 (-1))) lo) rfl rfl (by omega) (by omega) rfl ?_
              have hI11 := ia_62 (i := s0) (v := (-1)) hI10 (rq_m)
              have hF11 := fr_a (c := 62) (g := (upd ((uA (uA (uA ar 59 (upd (ar 59) s0 x1)) 60 (upd ((uA ar 59 (upd (ar 59) s0 x1)) 60) s0 x2)) 61 (upd ((uA (uA ar 59 (upd (ar 59) s0 x1)) 60 (upd ((uA ar 59 (upd (ar 59) s0 x1)) 60) s0 x2)) 61) s0 (nI n2))) 62) s0 (-1))) hF10 (by decide)
              refine to_n 2 (fr' := (92, [(0, .ref 49), (1, .int x1), (2, .int x2), (3, .int (nI n2))], [.ref 49, .ref 49], gh S a b (upd sc 4901 0) (uA (uA (uA (uA ar 59 (upd (ar 59) s0 x1)) 60 (upd ((uA ar 59 (upd (ar 59) s0 x1)) 60) s0 x2)) 61 (upd ((uA (uA ar 59 (upd (ar 59) s0 x1)) 60 (upd ((uA ar 59 (upd (ar 59) s0 x1)) 60) s0 x2)) 61) s0 (nI n2))) 62 (upd ((uA (uA (uA ar 59 (upd (ar 59) s0 x1)) 60 (upd ((uA ar 59 (upd (ar 59) s0 x1)) 60) s0 x2)) 61 (upd ((uA (uA ar 59 (upd (ar 59) s0 x1)) 60 (upd ((uA ar 59 (upd (ar 59) s0 x1)) 60) s0 x2)) 61) s0 (nI n2))) 62) s0 (-1))) lo, ex, 0, 0)) rfl ?_
              refine to_getR (v := (nI s0)) rfl rfl rfl rfl es0 ?_
              refine to_n 1 (fr' := (96, [(0, .ref 49), (1, .int x1), (2, .int x2), (3, .int (nI n2))], [.int 1, .int (nI s0), .ref 49], gh S a b (upd sc 4901 0) (uA (uA (uA (uA ar 59 (upd (ar 59) s0 x1)) 60 (upd ((uA ar 59 (upd (ar 59) s0 x1)) 60) s0 x2)) 61 (upd ((uA (uA ar 59 (upd (ar 59) s0 x1)) 60 (upd ((uA ar 59 (upd (ar 59) s0 x1)) 60) s0 x2)) 61) s0 (nI n2))) 62 (upd ((uA (uA (uA ar 59 (upd (ar 59) s0 x1)) 60 (upd ((uA ar 59 (upd (ar 59) s0 x1)) 60) s0 x2)) 61 (upd ((uA (uA ar 59 (upd (ar 59) s0 x1)) 60 (upd ((uA ar 59 (upd (ar 59) s0 x1)) 60) s0 x2)) 61) s0 (nI n2))) 62) s0 (-1))) lo, ex, 0, 0)) rfl ?_
              refine to_addN (x := s0) (y := 1) rfl ?_
              refine to_putR (h' := gh S a b (upd (upd sc 4901 0) 4906 (nI (s0 + 1))) (uA (uA (uA (uA ar 59 (upd (ar 59) s0 x1)) 60 (upd ((uA ar 59 (upd (ar 59) s0 x1)) 60) s0 x2)) 61 (upd ((uA (uA ar 59 (upd (ar 59) s0 x1)) 60 (upd ((uA ar 59 (upd (ar 59) s0 x1)) 60) s0 x2)) 61) s0 (nI n2))) 62 (upd ((uA (uA (uA ar 59 (upd (ar 59) s0 x1)) 60 (upd ((uA ar 59 (upd (ar 59) s0 x1)) 60) s0 x2)) 61 (upd ((uA (uA ar 59 (upd (ar 59) s0 x1)) 60 (upd ((uA ar 59 (upd (ar 59) s0 x1)) 60) s0 x2)) 61) s0 (nI n2))) 62) s0 (-1))) lo) rfl rfl rfl (Nat.le_of_ble_eq_true rfl) rfl rfl ?_
              have hI12 := ip_4906 (v := (nI (s0 + 1))) hI11 (rl_n (n := (s0 + 1)) (by omega))
              have hF12 := fr_s (k := 4906) (v := (nI (s0 + 1))) hF11 (by decide)
              refine to_n 1 (fr' := (101, [(0, .ref 49), (1, .int x1), (2, .int x2), (3, .int (nI n2))], [.ref 49], gh S a b (upd (upd sc 4901 0) 4906 (nI (s0 + 1))) (uA (uA (uA (uA ar 59 (upd (ar 59) s0 x1)) 60 (upd ((uA ar 59 (upd (ar 59) s0 x1)) 60) s0 x2)) 61 (upd ((uA (uA ar 59 (upd (ar 59) s0 x1)) 60 (upd ((uA ar 59 (upd (ar 59) s0 x1)) 60) s0 x2)) 61) s0 (nI n2))) 62 (upd ((uA (uA (uA ar 59 (upd (ar 59) s0 x1)) 60 (upd ((uA ar 59 (upd (ar 59) s0 x1)) 60) s0 x2)) 61 (upd ((uA (uA ar 59 (upd (ar 59) s0 x1)) 60 (upd ((uA ar 59 (upd (ar 59) s0 x1)) 60) s0 x2)) 61) s0 (nI n2))) 62) s0 (-1))) lo, ex, 0, 0)) rfl ?_
              refine to_getR (v := (nI (s0 + 1))) rfl rfl rfl rfl rfl ?_
              refine to_n 1 (fr' := (105, [(0, .ref 49), (1, .int x1), (2, .int x2), (3, .int (nI n2))], [.int 1, .int (nI (s0 + 1))], gh S a b (upd (upd sc 4901 0) 4906 (nI (s0 + 1))) (uA (uA (uA (uA ar 59 (upd (ar 59) s0 x1)) 60 (upd ((uA ar 59 (upd (ar 59) s0 x1)) 60) s0 x2)) 61 (upd ((uA (uA ar 59 (upd (ar 59) s0 x1)) 60 (upd ((uA ar 59 (upd (ar 59) s0 x1)) 60) s0 x2)) 61) s0 (nI n2))) 62 (upd ((uA (uA (uA ar 59 (upd (ar 59) s0 x1)) 60 (upd ((uA ar 59 (upd (ar 59) s0 x1)) 60) s0 x2)) 61 (upd ((uA (uA ar 59 (upd (ar 59) s0 x1)) 60 (upd ((uA ar 59 (upd (ar 59) s0 x1)) 60) s0 x2)) 61) s0 (nI n2))) 62) s0 (-1))) lo, ex, 0, 0)) rfl ?_
              refine to_subN (x := (s0 + 1)) (y := 1) rfl (by omega) ?_
              exact to_rt (i := .ireturn) (tg := []) rfl rfl ⟨_, _, _, ⟨hI12, hF12, (Or.inl ⟨has_in hn2 (by omega), ⟨s0, by omega, es0, Or.inl ⟨⟨⟨Int32.not_lt.mp q4, Int32.not_lt.mp q5⟩, Int32.not_lt.mp q6, q7⟩, by omega, by exact congrArg nI (by omega), rfl⟩⟩, rfl⟩)⟩, rfl⟩
            · refine to_n 1 (fr' := (49, [(0, .ref 49), (1, .int x1), (2, .int x2), (3, .int (nI n2))], [.int (-1)], gh S a b (upd sc 4901 0) ar lo, ex, 0, 0)) rfl ?_
              exact to_rt (i := .ireturn) (tg := []) rfl rfl ⟨_, _, _, ⟨hI1, hF1, (Or.inl ⟨has_in hn2 (by omega), ⟨s0, by omega, es0, Or.inr ⟨(fun w => q7 w.1.2.2), rfl, rfl⟩⟩, rfl⟩)⟩, rfl⟩
  · refine to_cp (q := 109) (M1 := an_X10_isCell) (rest := []) rfl rfl (by decide) rfl ⟨_, rfl⟩ (mc_isCell_0 hW w2 d) (fun x2 hx2 => ?_)
    obtain rfl := hx2
    refine to_eq (fr' := (10, [(0, .ref 49), (1, .int x1), (2, .int x2), (3, .int x3)], [.int 0], gh S a b (upd sc 4901 0) ar lo, ex, 0, 0)) rfl ?_
    refine to_n 2 (fr' := (14, [(0, .ref 49), (1, .int x1), (2, .int x2), (3, .int x3)], [.ref 49], gh S a b (upd sc 4901 0) ar lo, ex, 0, 0)) rfl ?_
    refine to_ci (q := 108) (M1 := an_X10_fail) (rest := []) rfl rfl (by decide) rfl ⟨_, rfl⟩ (sf_X10_fail hW hI1  d) (fun x13 sc13 ar13 hx13 => ?_)
    obtain ⟨hI13, hG13, hx13⟩ := hx13
    have hF13 := fr_t hF1 hG13 (by decide) (by decide)
    have hp13 := hx13
    have hF13w : sc13 4906 = sc 4906 := (hG13.1 4906 (by decide)).trans rfl
    refine to_eq (fr' := (17, [(0, .ref 49), (1, .int x1), (2, .int x2), (3, .int x3)], [.int x13], gh S a b sc13 ar13 lo, ex, 0, 0)) rfl ?_
    exact to_rt (i := .ireturn) (tg := []) rfl rfl ⟨_, _, _, ⟨hI13, hF13, (Or.inr ⟨w2, hF13w, hp13⟩)⟩, rfl⟩
set_option maxRecDepth 20000 in
theorem sf_X10_feed {X : Nat × (Nat → Int32)} {S a b : Nat} {sc : Nat → Int32} {ar : Nat → Nat → Int32} {lo : Nat → Int64} {ex : Bool} (hW : Wd S a b) (hI : Iv S sc ar) (x1 : Int32) (x2 : Int32) (x3 : Int32) (x4 : Int32) (x5 : Int32) (d : Nat)  : ci X S a b (d + 1) 117 [.ref 49, .int x1, .int x2, .int x3, .int x4, .int x5] sc ar lo ex (fun x sc' ar' => Iv S sc' ar' ∧ Fr [4901, 4908] [67] sc ar sc' ar' ∧ (fe_P 4908 x sc sc' ∧ ((x = -1 ∧ ar' 67 = ar 67) ∨ ∃ s : Nat, sc 4908 = nI s ∧ s + 20 ≤ 400 ∧ (∀ t, t < s → ar' 67 t = ar 67 t) ∧ ∀ m, m < 20 → ar' 67 (s + m) = fz_ x1 x2 x3 x4 x5 m &&& 255))) := by
  obtain ⟨ha1, ha8, hb1, hb8, hab, hS1, hS⟩ := id hW
  obtain ⟨t0, ht0, et0⟩ := iv_s4908 hI
  refine ci_of (M := an_X10_feed) rfl (Nat.le_of_ble_eq_true rfl) ?_
  have hF : Fr [4901, 4908] [67] sc ar sc ar := fr_0
  refine to_eq (fr' := (0, [(0, .ref 49), (1, .int x1), (2, .int x2), (3, .int x3), (4, .int x4), (5, .int x5)], [], gh S a b sc ar lo, ex, 0, 0)) rfl ?_
  have c23_19 : ∀ (tp : Nat) (sc1 : Nat → Int32) (ar1 : Nat → Nat → Int32), sc1 4908 = nI tp → tp = t0 + 19 → t0 + 20 ≤ 400 → (∀ t, t < t0 → ar1 67 t = ar 67 t) → (∀ m, m < 19 → ar1 67 (t0 + m) = fz_ x1 x2 x3 x4 x5 m &&& 255) → Iv S sc1 ar1 → Fr [4901, 4908] [67] sc ar sc1 ar1 → ag_To X d an_X10_feed (23, [(0, .ref 49), (1, .int x1), (2, .int x2), (3, .int x3), (4, .int x4), (5, .int x5), (6, .int 19)], [], gh S a b sc1 ar1 lo, ex, 0, 0) (qi S a b lo ex (fun x sc' ar' => Iv S sc' ar' ∧ Fr [4901, 4908] [67] sc ar sc' ar' ∧ (fe_P 4908 x sc sc' ∧ ((x = -1 ∧ ar' 67 = ar 67) ∨ ∃ s : Nat, sc 4908 = nI s ∧ s + 20 ≤ 400 ∧ (∀ t, t < s → ar' 67 t = ar 67 t) ∧ ∀ m, m < 20 → ar' 67 (s + m) = fz_ x1 x2 x3 x4 x5 m &&& 255)))) := by
    intro tp sc1 ar1 hc23_0 hc23_1 hc23_2 hc23_3 hc23_4 hI1 hF1
    refine to_n 18 (fr' := (79, [(0, .ref 49), (1, .int x1), (2, .int x2), (3, .int x3), (4, .int x4), (5, .int x5), (6, .int 19), (7, .int x5)], [.ref 49], gh S a b sc1 ar1 lo, ex, 0, 0)) rfl ?_
    refine to_get rfl rfl rfl rfl ?_
    refine to_n 1 (fr' := (83, [(0, .ref 49), (1, .int x1), (2, .int x2), (3, .int x3), (4, .int x4), (5, .int x5), (6, .int 19), (7, .int x5)], [.ref 49, .ref 67], gh S a b sc1 ar1 lo, ex, 0, 0)) rfl ?_
    refine to_getR (v := (nI tp)) rfl rfl rfl rfl hc23_0 ?_
    refine to_n 11 (fr' := (103, [(0, .ref 49), (1, .int x1), (2, .int x2), (3, .int x3), (4, .int x4), (5, .int x5), (6, .int 19), (7, .int x5)], [.int ((x5 >>> (0 &&& 31)) &&& 255), .int (nI tp), .ref 67], gh S a b sc1 ar1 lo, ex, 0, 0)) rfl ?_
    refine to_iasR (i := tp) (h' := gh S a b sc1 (uA ar1 67 (upd (ar1 67) tp ((x5 >>> (0 &&& 31)) &&& 255))) lo) rfl rfl (by omega) (by omega) rfl ?_
    have hI2 := ia_67 (g := (upd (ar1 67) tp ((x5 >>> (0 &&& 31)) &&& 255))) hI1
    have hF2 := fr_a (c := 67) (g := (upd (ar1 67) tp ((x5 >>> (0 &&& 31)) &&& 255))) hF1 (by decide)
    refine to_n 2 (fr' := (106, [(0, .ref 49), (1, .int x1), (2, .int x2), (3, .int x3), (4, .int x4), (5, .int x5), (6, .int 19), (7, .int x5)], [.ref 49, .ref 49], gh S a b sc1 (uA ar1 67 (upd (ar1 67) tp ((x5 >>> (0 &&& 31)) &&& 255))) lo, ex, 0, 0)) rfl ?_
    refine to_getR (v := (nI tp)) rfl rfl rfl rfl hc23_0 ?_
    refine to_n 1 (fr' := (110, [(0, .ref 49), (1, .int x1), (2, .int x2), (3, .int x3), (4, .int x4), (5, .int x5), (6, .int 19), (7, .int x5)], [.int 1, .int (nI tp), .ref 49], gh S a b sc1 (uA ar1 67 (upd (ar1 67) tp ((x5 >>> (0 &&& 31)) &&& 255))) lo, ex, 0, 0)) rfl ?_
    refine to_addN (x := tp) (y := 1) rfl ?_
    refine to_putR (h' := gh S a b (upd sc1 4908 (nI (tp + 1))) (uA ar1 67 (upd (ar1 67) tp ((x5 >>> (0 &&& 31)) &&& 255))) lo) rfl rfl rfl (Nat.le_of_ble_eq_true rfl) rfl rfl ?_
    have hI3 := ip_4908 (v := (nI (tp + 1))) hI2 (rl_n (n := (tp + 1)) (by omega))
    have hF3 := fr_s (k := 4908) (v := (nI (tp + 1))) hF2 (by decide)
    refine to_n 6 (fr' := (121, [(0, .ref 49), (1, .int x1), (2, .int x2), (3, .int x3), (4, .int x4), (5, .int x5), (6, .int 20), (7, .int x5)], [.ref 49], gh S a b (upd sc1 4908 (nI (tp + 1))) (uA ar1 67 (upd (ar1 67) tp ((x5 >>> (0 &&& 31)) &&& 255))) lo, ex, 0, 0)) rfl ?_
    refine to_getR (v := (nI (tp + 1))) rfl rfl rfl rfl rfl ?_
    exact to_rt (i := .ireturn) (tg := []) rfl rfl ⟨_, _, _, ⟨hI3, hF3, ⟨⟨t0, by omega, et0, Or.inl ⟨by omega, by exact congrArg nI (by omega), (show (upd sc1 4908 (nI (tp + 1))) 4908 = nI (tp + 1) from rfl).trans (congrArg nI (by omega))⟩⟩, Or.inr ⟨t0, et0, by omega, fun t ht => (show (upd (ar1 67) tp ((x5 >>> (0 &&& 31)) &&& 255)) t = _ from ug_ne (by omega)).trans (hc23_3 t ht), al_up (P := fun m => (uA ar1 67 (upd (ar1 67) tp ((x5 >>> (0 &&& 31)) &&& 255))) 67 (t0 + m) = fz_ x1 x2 x3 x4 x5 m &&& 255) (fun m hm => (show (upd (ar1 67) tp ((x5 >>> (0 &&& 31)) &&& 255)) (t0 + m) = _ from ug_ne (by omega)).trans (hc23_4 m hm)) (show (upd (ar1 67) tp ((x5 >>> (0 &&& 31)) &&& 255)) (t0 + 19) = _ from by rw [← hc23_1]; exact ug_eq)⟩⟩⟩, rfl⟩
  have c23_18 : ∀ (tp : Nat) (sc4 : Nat → Int32) (ar4 : Nat → Nat → Int32), sc4 4908 = nI tp → tp = t0 + 18 → t0 + 20 ≤ 400 → (∀ t, t < t0 → ar4 67 t = ar 67 t) → (∀ m, m < 18 → ar4 67 (t0 + m) = fz_ x1 x2 x3 x4 x5 m &&& 255) → Iv S sc4 ar4 → Fr [4901, 4908] [67] sc ar sc4 ar4 → ag_To X d an_X10_feed (23, [(0, .ref 49), (1, .int x1), (2, .int x2), (3, .int x3), (4, .int x4), (5, .int x5), (6, .int 18)], [], gh S a b sc4 ar4 lo, ex, 0, 0) (qi S a b lo ex (fun x sc' ar' => Iv S sc' ar' ∧ Fr [4901, 4908] [67] sc ar sc' ar' ∧ (fe_P 4908 x sc sc' ∧ ((x = -1 ∧ ar' 67 = ar 67) ∨ ∃ s : Nat, sc 4908 = nI s ∧ s + 20 ≤ 400 ∧ (∀ t, t < s → ar' 67 t = ar 67 t) ∧ ∀ m, m < 20 → ar' 67 (s + m) = fz_ x1 x2 x3 x4 x5 m &&& 255)))) := by
    intro tp sc4 ar4 hc23_0 hc23_1 hc23_2 hc23_3 hc23_4 hI4 hF4
    refine to_n 18 (fr' := (79, [(0, .ref 49), (1, .int x1), (2, .int x2), (3, .int x3), (4, .int x4), (5, .int x5), (6, .int 18), (7, .int x5)], [.ref 49], gh S a b sc4 ar4 lo, ex, 0, 0)) rfl ?_
    refine to_get rfl rfl rfl rfl ?_
    refine to_n 1 (fr' := (83, [(0, .ref 49), (1, .int x1), (2, .int x2), (3, .int x3), (4, .int x4), (5, .int x5), (6, .int 18), (7, .int x5)], [.ref 49, .ref 67], gh S a b sc4 ar4 lo, ex, 0, 0)) rfl ?_
    refine to_getR (v := (nI tp)) rfl rfl rfl rfl hc23_0 ?_
    refine to_n 11 (fr' := (103, [(0, .ref 49), (1, .int x1), (2, .int x2), (3, .int x3), (4, .int x4), (5, .int x5), (6, .int 18), (7, .int x5)], [.int ((x5 >>> (8 &&& 31)) &&& 255), .int (nI tp), .ref 67], gh S a b sc4 ar4 lo, ex, 0, 0)) rfl ?_
    refine to_iasR (i := tp) (h' := gh S a b sc4 (uA ar4 67 (upd (ar4 67) tp ((x5 >>> (8 &&& 31)) &&& 255))) lo) rfl rfl (by omega) (by omega) rfl ?_
    have hI5 := ia_67 (g := (upd (ar4 67) tp ((x5 >>> (8 &&& 31)) &&& 255))) hI4
    have hF5 := fr_a (c := 67) (g := (upd (ar4 67) tp ((x5 >>> (8 &&& 31)) &&& 255))) hF4 (by decide)
    refine to_n 2 (fr' := (106, [(0, .ref 49), (1, .int x1), (2, .int x2), (3, .int x3), (4, .int x4), (5, .int x5), (6, .int 18), (7, .int x5)], [.ref 49, .ref 49], gh S a b sc4 (uA ar4 67 (upd (ar4 67) tp ((x5 >>> (8 &&& 31)) &&& 255))) lo, ex, 0, 0)) rfl ?_
    refine to_getR (v := (nI tp)) rfl rfl rfl rfl hc23_0 ?_
    refine to_n 1 (fr' := (110, [(0, .ref 49), (1, .int x1), (2, .int x2), (3, .int x3), (4, .int x4), (5, .int x5), (6, .int 18), (7, .int x5)], [.int 1, .int (nI tp), .ref 49], gh S a b sc4 (uA ar4 67 (upd (ar4 67) tp ((x5 >>> (8 &&& 31)) &&& 255))) lo, ex, 0, 0)) rfl ?_
    refine to_addN (x := tp) (y := 1) rfl ?_
    refine to_putR (h' := gh S a b (upd sc4 4908 (nI (tp + 1))) (uA ar4 67 (upd (ar4 67) tp ((x5 >>> (8 &&& 31)) &&& 255))) lo) rfl rfl rfl (Nat.le_of_ble_eq_true rfl) rfl rfl ?_
    have hI6 := ip_4908 (v := (nI (tp + 1))) hI5 (rl_n (n := (tp + 1)) (by omega))
    have hF6 := fr_s (k := 4908) (v := (nI (tp + 1))) hF5 (by decide)
    refine to_n 2 (fr' := (23, [(0, .ref 49), (1, .int x1), (2, .int x2), (3, .int x3), (4, .int x4), (5, .int x5), (6, .int 19), (7, .int x5)], [], gh S a b (upd sc4 4908 (nI (tp + 1))) (uA ar4 67 (upd (ar4 67) tp ((x5 >>> (8 &&& 31)) &&& 255))) lo, ex, 0, 0)) rfl ?_
    refine to_lv (lv := [(0, .ref 49), (1, .int x1), (2, .int x2), (3, .int x3), (4, .int x4), (5, .int x5), (6, .int 19)]) rfl ⟨rfl, rfl, rfl, rfl, rfl, rfl, rfl, trivial⟩ ?_
    exact c23_19 (tp + 1) (upd sc4 4908 (nI (tp + 1))) (uA ar4 67 (upd (ar4 67) tp ((x5 >>> (8 &&& 31)) &&& 255))) (rfl) (by omega) (by omega) (fun t ht => (show (upd (ar4 67) tp ((x5 >>> (8 &&& 31)) &&& 255)) t = _ from ug_ne (by omega)).trans (hc23_3 t ht)) (al_up (P := fun m => (uA ar4 67 (upd (ar4 67) tp ((x5 >>> (8 &&& 31)) &&& 255))) 67 (t0 + m) = fz_ x1 x2 x3 x4 x5 m &&& 255) (fun m hm => (show (upd (ar4 67) tp ((x5 >>> (8 &&& 31)) &&& 255)) (t0 + m) = _ from ug_ne (by omega)).trans (hc23_4 m hm)) (show (upd (ar4 67) tp ((x5 >>> (8 &&& 31)) &&& 255)) (t0 + 18) = _ from by rw [← hc23_1]; exact ug_eq)) hI6 hF6
  have c23_17 : ∀ (tp : Nat) (sc7 : Nat → Int32) (ar7 : Nat → Nat → Int32), sc7 4908 = nI tp → tp = t0 + 17 → t0 + 20 ≤ 400 → (∀ t, t < t0 → ar7 67 t = ar 67 t) → (∀ m, m < 17 → ar7 67 (t0 + m) = fz_ x1 x2 x3 x4 x5 m &&& 255) → Iv S sc7 ar7 → Fr [4901, 4908] [67] sc ar sc7 ar7 → ag_To X d an_X10_feed (23, [(0, .ref 49), (1, .int x1), (2, .int x2), (3, .int x3), (4, .int x4), (5, .int x5), (6, .int 17)], [], gh S a b sc7 ar7 lo, ex, 0, 0) (qi S a b lo ex (fun x sc' ar' => Iv S sc' ar' ∧ Fr [4901, 4908] [67] sc ar sc' ar' ∧ (fe_P 4908 x sc sc' ∧ ((x = -1 ∧ ar' 67 = ar 67) ∨ ∃ s : Nat, sc 4908 = nI s ∧ s + 20 ≤ 400 ∧ (∀ t, t < s → ar' 67 t = ar 67 t) ∧ ∀ m, m < 20 → ar' 67 (s + m) = fz_ x1 x2 x3 x4 x5 m &&& 255)))) := by
    intro tp sc7 ar7 hc23_0 hc23_1 hc23_2 hc23_3 hc23_4 hI7 hF7
    refine to_n 18 (fr' := (79, [(0, .ref 49), (1, .int x1), (2, .int x2), (3, .int x3), (4, .int x4), (5, .int x5), (6, .int 17), (7, .int x5)], [.ref 49], gh S a b sc7 ar7 lo, ex, 0, 0)) rfl ?_
    refine to_get rfl rfl rfl rfl ?_
    refine to_n 1 (fr' := (83, [(0, .ref 49), (1, .int x1), (2, .int x2), (3, .int x3), (4, .int x4), (5, .int x5), (6, .int 17), (7, .int x5)], [.ref 49, .ref 67], gh S a b sc7 ar7 lo, ex, 0, 0)) rfl ?_
    refine to_getR (v := (nI tp)) rfl rfl rfl rfl hc23_0 ?_
    refine to_n 11 (fr' := (103, [(0, .ref 49), (1, .int x1), (2, .int x2), (3, .int x3), (4, .int x4), (5, .int x5), (6, .int 17), (7, .int x5)], [.int ((x5 >>> (16 &&& 31)) &&& 255), .int (nI tp), .ref 67], gh S a b sc7 ar7 lo, ex, 0, 0)) rfl ?_
    refine to_iasR (i := tp) (h' := gh S a b sc7 (uA ar7 67 (upd (ar7 67) tp ((x5 >>> (16 &&& 31)) &&& 255))) lo) rfl rfl (by omega) (by omega) rfl ?_
    have hI8 := ia_67 (g := (upd (ar7 67) tp ((x5 >>> (16 &&& 31)) &&& 255))) hI7
    have hF8 := fr_a (c := 67) (g := (upd (ar7 67) tp ((x5 >>> (16 &&& 31)) &&& 255))) hF7 (by decide)
    refine to_n 2 (fr' := (106, [(0, .ref 49), (1, .int x1), (2, .int x2), (3, .int x3), (4, .int x4), (5, .int x5), (6, .int 17), (7, .int x5)], [.ref 49, .ref 49], gh S a b sc7 (uA ar7 67 (upd (ar7 67) tp ((x5 >>> (16 &&& 31)) &&& 255))) lo, ex, 0, 0)) rfl ?_
    refine to_getR (v := (nI tp)) rfl rfl rfl rfl hc23_0 ?_
    refine to_n 1 (fr' := (110, [(0, .ref 49), (1, .int x1), (2, .int x2), (3, .int x3), (4, .int x4), (5, .int x5), (6, .int 17), (7, .int x5)], [.int 1, .int (nI tp), .ref 49], gh S a b sc7 (uA ar7 67 (upd (ar7 67) tp ((x5 >>> (16 &&& 31)) &&& 255))) lo, ex, 0, 0)) rfl ?_
    refine to_addN (x := tp) (y := 1) rfl ?_
    refine to_putR (h' := gh S a b (upd sc7 4908 (nI (tp + 1))) (uA ar7 67 (upd (ar7 67) tp ((x5 >>> (16 &&& 31)) &&& 255))) lo) rfl rfl rfl (Nat.le_of_ble_eq_true rfl) rfl rfl ?_
    have hI9 := ip_4908 (v := (nI (tp + 1))) hI8 (rl_n (n := (tp + 1)) (by omega))
    have hF9 := fr_s (k := 4908) (v := (nI (tp + 1))) hF8 (by decide)
    refine to_n 2 (fr' := (23, [(0, .ref 49), (1, .int x1), (2, .int x2), (3, .int x3), (4, .int x4), (5, .int x5), (6, .int 18), (7, .int x5)], [], gh S a b (upd sc7 4908 (nI (tp + 1))) (uA ar7 67 (upd (ar7 67) tp ((x5 >>> (16 &&& 31)) &&& 255))) lo, ex, 0, 0)) rfl ?_
    refine to_lv (lv := [(0, .ref 49), (1, .int x1), (2, .int x2), (3, .int x3), (4, .int x4), (5, .int x5), (6, .int 18)]) rfl ⟨rfl, rfl, rfl, rfl, rfl, rfl, rfl, trivial⟩ ?_
    exact c23_18 (tp + 1) (upd sc7 4908 (nI (tp + 1))) (uA ar7 67 (upd (ar7 67) tp ((x5 >>> (16 &&& 31)) &&& 255))) (rfl) (by omega) (by omega) (fun t ht => (show (upd (ar7 67) tp ((x5 >>> (16 &&& 31)) &&& 255)) t = _ from ug_ne (by omega)).trans (hc23_3 t ht)) (al_up (P := fun m => (uA ar7 67 (upd (ar7 67) tp ((x5 >>> (16 &&& 31)) &&& 255))) 67 (t0 + m) = fz_ x1 x2 x3 x4 x5 m &&& 255) (fun m hm => (show (upd (ar7 67) tp ((x5 >>> (16 &&& 31)) &&& 255)) (t0 + m) = _ from ug_ne (by omega)).trans (hc23_4 m hm)) (show (upd (ar7 67) tp ((x5 >>> (16 &&& 31)) &&& 255)) (t0 + 17) = _ from by rw [← hc23_1]; exact ug_eq)) hI9 hF9
  have c23_16 : ∀ (tp : Nat) (sc10 : Nat → Int32) (ar10 : Nat → Nat → Int32), sc10 4908 = nI tp → tp = t0 + 16 → t0 + 20 ≤ 400 → (∀ t, t < t0 → ar10 67 t = ar 67 t) → (∀ m, m < 16 → ar10 67 (t0 + m) = fz_ x1 x2 x3 x4 x5 m &&& 255) → Iv S sc10 ar10 → Fr [4901, 4908] [67] sc ar sc10 ar10 → ag_To X d an_X10_feed (23, [(0, .ref 49), (1, .int x1), (2, .int x2), (3, .int x3), (4, .int x4), (5, .int x5), (6, .int 16)], [], gh S a b sc10 ar10 lo, ex, 0, 0) (qi S a b lo ex (fun x sc' ar' => Iv S sc' ar' ∧ Fr [4901, 4908] [67] sc ar sc' ar' ∧ (fe_P 4908 x sc sc' ∧ ((x = -1 ∧ ar' 67 = ar 67) ∨ ∃ s : Nat, sc 4908 = nI s ∧ s + 20 ≤ 400 ∧ (∀ t, t < s → ar' 67 t = ar 67 t) ∧ ∀ m, m < 20 → ar' 67 (s + m) = fz_ x1 x2 x3 x4 x5 m &&& 255)))) := by
    intro tp sc10 ar10 hc23_0 hc23_1 hc23_2 hc23_3 hc23_4 hI10 hF10
    refine to_n 18 (fr' := (79, [(0, .ref 49), (1, .int x1), (2, .int x2), (3, .int x3), (4, .int x4), (5, .int x5), (6, .int 16), (7, .int x5)], [.ref 49], gh S a b sc10 ar10 lo, ex, 0, 0)) rfl ?_
    refine to_get rfl rfl rfl rfl ?_
    refine to_n 1 (fr' := (83, [(0, .ref 49), (1, .int x1), (2, .int x2), (3, .int x3), (4, .int x4), (5, .int x5), (6, .int 16), (7, .int x5)], [.ref 49, .ref 67], gh S a b sc10 ar10 lo, ex, 0, 0)) rfl ?_
    refine to_getR (v := (nI tp)) rfl rfl rfl rfl hc23_0 ?_
    refine to_n 11 (fr' := (103, [(0, .ref 49), (1, .int x1), (2, .int x2), (3, .int x3), (4, .int x4), (5, .int x5), (6, .int 16), (7, .int x5)], [.int ((x5 >>> (24 &&& 31)) &&& 255), .int (nI tp), .ref 67], gh S a b sc10 ar10 lo, ex, 0, 0)) rfl ?_
    refine to_iasR (i := tp) (h' := gh S a b sc10 (uA ar10 67 (upd (ar10 67) tp ((x5 >>> (24 &&& 31)) &&& 255))) lo) rfl rfl (by omega) (by omega) rfl ?_
    have hI11 := ia_67 (g := (upd (ar10 67) tp ((x5 >>> (24 &&& 31)) &&& 255))) hI10
    have hF11 := fr_a (c := 67) (g := (upd (ar10 67) tp ((x5 >>> (24 &&& 31)) &&& 255))) hF10 (by decide)
    refine to_n 2 (fr' := (106, [(0, .ref 49), (1, .int x1), (2, .int x2), (3, .int x3), (4, .int x4), (5, .int x5), (6, .int 16), (7, .int x5)], [.ref 49, .ref 49], gh S a b sc10 (uA ar10 67 (upd (ar10 67) tp ((x5 >>> (24 &&& 31)) &&& 255))) lo, ex, 0, 0)) rfl ?_
    refine to_getR (v := (nI tp)) rfl rfl rfl rfl hc23_0 ?_
    refine to_n 1 (fr' := (110, [(0, .ref 49), (1, .int x1), (2, .int x2), (3, .int x3), (4, .int x4), (5, .int x5), (6, .int 16), (7, .int x5)], [.int 1, .int (nI tp), .ref 49], gh S a b sc10 (uA ar10 67 (upd (ar10 67) tp ((x5 >>> (24 &&& 31)) &&& 255))) lo, ex, 0, 0)) rfl ?_
    refine to_addN (x := tp) (y := 1) rfl ?_
    refine to_putR (h' := gh S a b (upd sc10 4908 (nI (tp + 1))) (uA ar10 67 (upd (ar10 67) tp ((x5 >>> (24 &&& 31)) &&& 255))) lo) rfl rfl rfl (Nat.le_of_ble_eq_true rfl) rfl rfl ?_
    have hI12 := ip_4908 (v := (nI (tp + 1))) hI11 (rl_n (n := (tp + 1)) (by omega))
    have hF12 := fr_s (k := 4908) (v := (nI (tp + 1))) hF11 (by decide)
    refine to_n 2 (fr' := (23, [(0, .ref 49), (1, .int x1), (2, .int x2), (3, .int x3), (4, .int x4), (5, .int x5), (6, .int 17), (7, .int x5)], [], gh S a b (upd sc10 4908 (nI (tp + 1))) (uA ar10 67 (upd (ar10 67) tp ((x5 >>> (24 &&& 31)) &&& 255))) lo, ex, 0, 0)) rfl ?_
    refine to_lv (lv := [(0, .ref 49), (1, .int x1), (2, .int x2), (3, .int x3), (4, .int x4), (5, .int x5), (6, .int 17)]) rfl ⟨rfl, rfl, rfl, rfl, rfl, rfl, rfl, trivial⟩ ?_
    exact c23_17 (tp + 1) (upd sc10 4908 (nI (tp + 1))) (uA ar10 67 (upd (ar10 67) tp ((x5 >>> (24 &&& 31)) &&& 255))) (rfl) (by omega) (by omega) (fun t ht => (show (upd (ar10 67) tp ((x5 >>> (24 &&& 31)) &&& 255)) t = _ from ug_ne (by omega)).trans (hc23_3 t ht)) (al_up (P := fun m => (uA ar10 67 (upd (ar10 67) tp ((x5 >>> (24 &&& 31)) &&& 255))) 67 (t0 + m) = fz_ x1 x2 x3 x4 x5 m &&& 255) (fun m hm => (show (upd (ar10 67) tp ((x5 >>> (24 &&& 31)) &&& 255)) (t0 + m) = _ from ug_ne (by omega)).trans (hc23_4 m hm)) (show (upd (ar10 67) tp ((x5 >>> (24 &&& 31)) &&& 255)) (t0 + 16) = _ from by rw [← hc23_1]; exact ug_eq)) hI12 hF12
  have c23_15 : ∀ (tp : Nat) (sc13 : Nat → Int32) (ar13 : Nat → Nat → Int32), sc13 4908 = nI tp → tp = t0 + 15 → t0 + 20 ≤ 400 → (∀ t, t < t0 → ar13 67 t = ar 67 t) → (∀ m, m < 15 → ar13 67 (t0 + m) = fz_ x1 x2 x3 x4 x5 m &&& 255) → Iv S sc13 ar13 → Fr [4901, 4908] [67] sc ar sc13 ar13 → ag_To X d an_X10_feed (23, [(0, .ref 49), (1, .int x1), (2, .int x2), (3, .int x3), (4, .int x4), (5, .int x5), (6, .int 15)], [], gh S a b sc13 ar13 lo, ex, 0, 0) (qi S a b lo ex (fun x sc' ar' => Iv S sc' ar' ∧ Fr [4901, 4908] [67] sc ar sc' ar' ∧ (fe_P 4908 x sc sc' ∧ ((x = -1 ∧ ar' 67 = ar 67) ∨ ∃ s : Nat, sc 4908 = nI s ∧ s + 20 ≤ 400 ∧ (∀ t, t < s → ar' 67 t = ar 67 t) ∧ ∀ m, m < 20 → ar' 67 (s + m) = fz_ x1 x2 x3 x4 x5 m &&& 255)))) := by
    intro tp sc13 ar13 hc23_0 hc23_1 hc23_2 hc23_3 hc23_4 hI13 hF13
    refine to_n 19 (fr' := (79, [(0, .ref 49), (1, .int x1), (2, .int x2), (3, .int x3), (4, .int x4), (5, .int x5), (6, .int 15), (7, .int x4)], [.ref 49], gh S a b sc13 ar13 lo, ex, 0, 0)) rfl ?_
    refine to_get rfl rfl rfl rfl ?_
    refine to_n 1 (fr' := (83, [(0, .ref 49), (1, .int x1), (2, .int x2), (3, .int x3), (4, .int x4), (5, .int x5), (6, .int 15), (7, .int x4)], [.ref 49, .ref 67], gh S a b sc13 ar13 lo, ex, 0, 0)) rfl ?_
    refine to_getR (v := (nI tp)) rfl rfl rfl rfl hc23_0 ?_
    refine to_n 11 (fr' := (103, [(0, .ref 49), (1, .int x1), (2, .int x2), (3, .int x3), (4, .int x4), (5, .int x5), (6, .int 15), (7, .int x4)], [.int ((x4 >>> (0 &&& 31)) &&& 255), .int (nI tp), .ref 67], gh S a b sc13 ar13 lo, ex, 0, 0)) rfl ?_
    refine to_iasR (i := tp) (h' := gh S a b sc13 (uA ar13 67 (upd (ar13 67) tp ((x4 >>> (0 &&& 31)) &&& 255))) lo) rfl rfl (by omega) (by omega) rfl ?_
    have hI14 := ia_67 (g := (upd (ar13 67) tp ((x4 >>> (0 &&& 31)) &&& 255))) hI13
    have hF14 := fr_a (c := 67) (g := (upd (ar13 67) tp ((x4 >>> (0 &&& 31)) &&& 255))) hF13 (by decide)
    refine to_n 2 (fr' := (106, [(0, .ref 49), (1, .int x1), (2, .int x2), (3, .int x3), (4, .int x4), (5, .int x5), (6, .int 15), (7, .int x4)], [.ref 49, .ref 49], gh S a b sc13 (uA ar13 67 (upd (ar13 67) tp ((x4 >>> (0 &&& 31)) &&& 255))) lo, ex, 0, 0)) rfl ?_
    refine to_getR (v := (nI tp)) rfl rfl rfl rfl hc23_0 ?_
    refine to_n 1 (fr' := (110, [(0, .ref 49), (1, .int x1), (2, .int x2), (3, .int x3), (4, .int x4), (5, .int x5), (6, .int 15), (7, .int x4)], [.int 1, .int (nI tp), .ref 49], gh S a b sc13 (uA ar13 67 (upd (ar13 67) tp ((x4 >>> (0 &&& 31)) &&& 255))) lo, ex, 0, 0)) rfl ?_
    refine to_addN (x := tp) (y := 1) rfl ?_
    refine to_putR (h' := gh S a b (upd sc13 4908 (nI (tp + 1))) (uA ar13 67 (upd (ar13 67) tp ((x4 >>> (0 &&& 31)) &&& 255))) lo) rfl rfl rfl (Nat.le_of_ble_eq_true rfl) rfl rfl ?_
    have hI15 := ip_4908 (v := (nI (tp + 1))) hI14 (rl_n (n := (tp + 1)) (by omega))
    have hF15 := fr_s (k := 4908) (v := (nI (tp + 1))) hF14 (by decide)
    refine to_n 2 (fr' := (23, [(0, .ref 49), (1, .int x1), (2, .int x2), (3, .int x3), (4, .int x4), (5, .int x5), (6, .int 16), (7, .int x4)], [], gh S a b (upd sc13 4908 (nI (tp + 1))) (uA ar13 67 (upd (ar13 67) tp ((x4 >>> (0 &&& 31)) &&& 255))) lo, ex, 0, 0)) rfl ?_
    refine to_lv (lv := [(0, .ref 49), (1, .int x1), (2, .int x2), (3, .int x3), (4, .int x4), (5, .int x5), (6, .int 16)]) rfl ⟨rfl, rfl, rfl, rfl, rfl, rfl, rfl, trivial⟩ ?_
    exact c23_16 (tp + 1) (upd sc13 4908 (nI (tp + 1))) (uA ar13 67 (upd (ar13 67) tp ((x4 >>> (0 &&& 31)) &&& 255))) (rfl) (by omega) (by omega) (fun t ht => (show (upd (ar13 67) tp ((x4 >>> (0 &&& 31)) &&& 255)) t = _ from ug_ne (by omega)).trans (hc23_3 t ht)) (al_up (P := fun m => (uA ar13 67 (upd (ar13 67) tp ((x4 >>> (0 &&& 31)) &&& 255))) 67 (t0 + m) = fz_ x1 x2 x3 x4 x5 m &&& 255) (fun m hm => (show (upd (ar13 67) tp ((x4 >>> (0 &&& 31)) &&& 255)) (t0 + m) = _ from ug_ne (by omega)).trans (hc23_4 m hm)) (show (upd (ar13 67) tp ((x4 >>> (0 &&& 31)) &&& 255)) (t0 + 15) = _ from by rw [← hc23_1]; exact ug_eq)) hI15 hF15
  have c23_14 : ∀ (tp : Nat) (sc16 : Nat → Int32) (ar16 : Nat → Nat → Int32), sc16 4908 = nI tp → tp = t0 + 14 → t0 + 20 ≤ 400 → (∀ t, t < t0 → ar16 67 t = ar 67 t) → (∀ m, m < 14 → ar16 67 (t0 + m) = fz_ x1 x2 x3 x4 x5 m &&& 255) → Iv S sc16 ar16 → Fr [4901, 4908] [67] sc ar sc16 ar16 → ag_To X d an_X10_feed (23, [(0, .ref 49), (1, .int x1), (2, .int x2), (3, .int x3), (4, .int x4), (5, .int x5), (6, .int 14)], [], gh S a b sc16 ar16 lo, ex, 0, 0) (qi S a b lo ex (fun x sc' ar' => Iv S sc' ar' ∧ Fr [4901, 4908] [67] sc ar sc' ar' ∧ (fe_P 4908 x sc sc' ∧ ((x = -1 ∧ ar' 67 = ar 67) ∨ ∃ s : Nat, sc 4908 = nI s ∧ s + 20 ≤ 400 ∧ (∀ t, t < s → ar' 67 t = ar 67 t) ∧ ∀ m, m < 20 → ar' 67 (s + m) = fz_ x1 x2 x3 x4 x5 m &&& 255)))) := by
    intro tp sc16 ar16 hc23_0 hc23_1 hc23_2 hc23_3 hc23_4 hI16 hF16
    refine to_n 19 (fr' := (79, [(0, .ref 49), (1, .int x1), (2, .int x2), (3, .int x3), (4, .int x4), (5, .int x5), (6, .int 14), (7, .int x4)], [.ref 49], gh S a b sc16 ar16 lo, ex, 0, 0)) rfl ?_
    refine to_get rfl rfl rfl rfl ?_
    refine to_n 1 (fr' := (83, [(0, .ref 49), (1, .int x1), (2, .int x2), (3, .int x3), (4, .int x4), (5, .int x5), (6, .int 14), (7, .int x4)], [.ref 49, .ref 67], gh S a b sc16 ar16 lo, ex, 0, 0)) rfl ?_
    refine to_getR (v := (nI tp)) rfl rfl rfl rfl hc23_0 ?_
    refine to_n 11 (fr' := (103, [(0, .ref 49), (1, .int x1), (2, .int x2), (3, .int x3), (4, .int x4), (5, .int x5), (6, .int 14), (7, .int x4)], [.int ((x4 >>> (8 &&& 31)) &&& 255), .int (nI tp), .ref 67], gh S a b sc16 ar16 lo, ex, 0, 0)) rfl ?_
    refine to_iasR (i := tp) (h' := gh S a b sc16 (uA ar16 67 (upd (ar16 67) tp ((x4 >>> (8 &&& 31)) &&& 255))) lo) rfl rfl (by omega) (by omega) rfl ?_
    have hI17 := ia_67 (g := (upd (ar16 67) tp ((x4 >>> (8 &&& 31)) &&& 255))) hI16
    have hF17 := fr_a (c := 67) (g := (upd (ar16 67) tp ((x4 >>> (8 &&& 31)) &&& 255))) hF16 (by decide)
    refine to_n 2 (fr' := (106, [(0, .ref 49), (1, .int x1), (2, .int x2), (3, .int x3), (4, .int x4), (5, .int x5), (6, .int 14), (7, .int x4)], [.ref 49, .ref 49], gh S a b sc16 (uA ar16 67 (upd (ar16 67) tp ((x4 >>> (8 &&& 31)) &&& 255))) lo, ex, 0, 0)) rfl ?_
    refine to_getR (v := (nI tp)) rfl rfl rfl rfl hc23_0 ?_
    refine to_n 1 (fr' := (110, [(0, .ref 49), (1, .int x1), (2, .int x2), (3, .int x3), (4, .int x4), (5, .int x5), (6, .int 14), (7, .int x4)], [.int 1, .int (nI tp), .ref 49], gh S a b sc16 (uA ar16 67 (upd (ar16 67) tp ((x4 >>> (8 &&& 31)) &&& 255))) lo, ex, 0, 0)) rfl ?_
    refine to_addN (x := tp) (y := 1) rfl ?_
    refine to_putR (h' := gh S a b (upd sc16 4908 (nI (tp + 1))) (uA ar16 67 (upd (ar16 67) tp ((x4 >>> (8 &&& 31)) &&& 255))) lo) rfl rfl rfl (Nat.le_of_ble_eq_true rfl) rfl rfl ?_
    have hI18 := ip_4908 (v := (nI (tp + 1))) hI17 (rl_n (n := (tp + 1)) (by omega))
    have hF18 := fr_s (k := 4908) (v := (nI (tp + 1))) hF17 (by decide)
    refine to_n 2 (fr' := (23, [(0, .ref 49), (1, .int x1), (2, .int x2), (3, .int x3), (4, .int x4), (5, .int x5), (6, .int 15), (7, .int x4)], [], gh S a b (upd sc16 4908 (nI (tp + 1))) (uA ar16 67 (upd (ar16 67) tp ((x4 >>> (8 &&& 31)) &&& 255))) lo, ex, 0, 0)) rfl ?_
    refine to_lv (lv := [(0, .ref 49), (1, .int x1), (2, .int x2), (3, .int x3), (4, .int x4), (5, .int x5), (6, .int 15)]) rfl ⟨rfl, rfl, rfl, rfl, rfl, rfl, rfl, trivial⟩ ?_
    exact c23_15 (tp + 1) (upd sc16 4908 (nI (tp + 1))) (uA ar16 67 (upd (ar16 67) tp ((x4 >>> (8 &&& 31)) &&& 255))) (rfl) (by omega) (by omega) (fun t ht => (show (upd (ar16 67) tp ((x4 >>> (8 &&& 31)) &&& 255)) t = _ from ug_ne (by omega)).trans (hc23_3 t ht)) (al_up (P := fun m => (uA ar16 67 (upd (ar16 67) tp ((x4 >>> (8 &&& 31)) &&& 255))) 67 (t0 + m) = fz_ x1 x2 x3 x4 x5 m &&& 255) (fun m hm => (show (upd (ar16 67) tp ((x4 >>> (8 &&& 31)) &&& 255)) (t0 + m) = _ from ug_ne (by omega)).trans (hc23_4 m hm)) (show (upd (ar16 67) tp ((x4 >>> (8 &&& 31)) &&& 255)) (t0 + 14) = _ from by rw [← hc23_1]; exact ug_eq)) hI18 hF18
  have c23_13 : ∀ (tp : Nat) (sc19 : Nat → Int32) (ar19 : Nat → Nat → Int32), sc19 4908 = nI tp → tp = t0 + 13 → t0 + 20 ≤ 400 → (∀ t, t < t0 → ar19 67 t = ar 67 t) → (∀ m, m < 13 → ar19 67 (t0 + m) = fz_ x1 x2 x3 x4 x5 m &&& 255) → Iv S sc19 ar19 → Fr [4901, 4908] [67] sc ar sc19 ar19 → ag_To X d an_X10_feed (23, [(0, .ref 49), (1, .int x1), (2, .int x2), (3, .int x3), (4, .int x4), (5, .int x5), (6, .int 13)], [], gh S a b sc19 ar19 lo, ex, 0, 0) (qi S a b lo ex (fun x sc' ar' => Iv S sc' ar' ∧ Fr [4901, 4908] [67] sc ar sc' ar' ∧ (fe_P 4908 x sc sc' ∧ ((x = -1 ∧ ar' 67 = ar 67) ∨ ∃ s : Nat, sc 4908 = nI s ∧ s + 20 ≤ 400 ∧ (∀ t, t < s → ar' 67 t = ar 67 t) ∧ ∀ m, m < 20 → ar' 67 (s + m) = fz_ x1 x2 x3 x4 x5 m &&& 255)))) := by
    intro tp sc19 ar19 hc23_0 hc23_1 hc23_2 hc23_3 hc23_4 hI19 hF19
    refine to_n 19 (fr' := (79, [(0, .ref 49), (1, .int x1), (2, .int x2), (3, .int x3), (4, .int x4), (5, .int x5), (6, .int 13), (7, .int x4)], [.ref 49], gh S a b sc19 ar19 lo, ex, 0, 0)) rfl ?_
    refine to_get rfl rfl rfl rfl ?_
    refine to_n 1 (fr' := (83, [(0, .ref 49), (1, .int x1), (2, .int x2), (3, .int x3), (4, .int x4), (5, .int x5), (6, .int 13), (7, .int x4)], [.ref 49, .ref 67], gh S a b sc19 ar19 lo, ex, 0, 0)) rfl ?_
    refine to_getR (v := (nI tp)) rfl rfl rfl rfl hc23_0 ?_
    refine to_n 11 (fr' := (103, [(0, .ref 49), (1, .int x1), (2, .int x2), (3, .int x3), (4, .int x4), (5, .int x5), (6, .int 13), (7, .int x4)], [.int ((x4 >>> (16 &&& 31)) &&& 255), .int (nI tp), .ref 67], gh S a b sc19 ar19 lo, ex, 0, 0)) rfl ?_
    refine to_iasR (i := tp) (h' := gh S a b sc19 (uA ar19 67 (upd (ar19 67) tp ((x4 >>> (16 &&& 31)) &&& 255))) lo) rfl rfl (by omega) (by omega) rfl ?_
    have hI20 := ia_67 (g := (upd (ar19 67) tp ((x4 >>> (16 &&& 31)) &&& 255))) hI19
    have hF20 := fr_a (c := 67) (g := (upd (ar19 67) tp ((x4 >>> (16 &&& 31)) &&& 255))) hF19 (by decide)
    refine to_n 2 (fr' := (106, [(0, .ref 49), (1, .int x1), (2, .int x2), (3, .int x3), (4, .int x4), (5, .int x5), (6, .int 13), (7, .int x4)], [.ref 49, .ref 49], gh S a b sc19 (uA ar19 67 (upd (ar19 67) tp ((x4 >>> (16 &&& 31)) &&& 255))) lo, ex, 0, 0)) rfl ?_
    refine to_getR (v := (nI tp)) rfl rfl rfl rfl hc23_0 ?_
    refine to_n 1 (fr' := (110, [(0, .ref 49), (1, .int x1), (2, .int x2), (3, .int x3), (4, .int x4), (5, .int x5), (6, .int 13), (7, .int x4)], [.int 1, .int (nI tp), .ref 49], gh S a b sc19 (uA ar19 67 (upd (ar19 67) tp ((x4 >>> (16 &&& 31)) &&& 255))) lo, ex, 0, 0)) rfl ?_
    refine to_addN (x := tp) (y := 1) rfl ?_
    refine to_putR (h' := gh S a b (upd sc19 4908 (nI (tp + 1))) (uA ar19 67 (upd (ar19 67) tp ((x4 >>> (16 &&& 31)) &&& 255))) lo) rfl rfl rfl (Nat.le_of_ble_eq_true rfl) rfl rfl ?_
    have hI21 := ip_4908 (v := (nI (tp + 1))) hI20 (rl_n (n := (tp + 1)) (by omega))
    have hF21 := fr_s (k := 4908) (v := (nI (tp + 1))) hF20 (by decide)
    refine to_n 2 (fr' := (23, [(0, .ref 49), (1, .int x1), (2, .int x2), (3, .int x3), (4, .int x4), (5, .int x5), (6, .int 14), (7, .int x4)], [], gh S a b (upd sc19 4908 (nI (tp + 1))) (uA ar19 67 (upd (ar19 67) tp ((x4 >>> (16 &&& 31)) &&& 255))) lo, ex, 0, 0)) rfl ?_
    refine to_lv (lv := [(0, .ref 49), (1, .int x1), (2, .int x2), (3, .int x3), (4, .int x4), (5, .int x5), (6, .int 14)]) rfl ⟨rfl, rfl, rfl, rfl, rfl, rfl, rfl, trivial⟩ ?_
    exact c23_14 (tp + 1) (upd sc19 4908 (nI (tp + 1))) (uA ar19 67 (upd (ar19 67) tp ((x4 >>> (16 &&& 31)) &&& 255))) (rfl) (by omega) (by omega) (fun t ht => (show (upd (ar19 67) tp ((x4 >>> (16 &&& 31)) &&& 255)) t = _ from ug_ne (by omega)).trans (hc23_3 t ht)) (al_up (P := fun m => (uA ar19 67 (upd (ar19 67) tp ((x4 >>> (16 &&& 31)) &&& 255))) 67 (t0 + m) = fz_ x1 x2 x3 x4 x5 m &&& 255) (fun m hm => (show (upd (ar19 67) tp ((x4 >>> (16 &&& 31)) &&& 255)) (t0 + m) = _ from ug_ne (by omega)).trans (hc23_4 m hm)) (show (upd (ar19 67) tp ((x4 >>> (16 &&& 31)) &&& 255)) (t0 + 13) = _ from by rw [← hc23_1]; exact ug_eq)) hI21 hF21
  have c23_12 : ∀ (tp : Nat) (sc22 : Nat → Int32) (ar22 : Nat → Nat → Int32), sc22 4908 = nI tp → tp = t0 + 12 → t0 + 20 ≤ 400 → (∀ t, t < t0 → ar22 67 t = ar 67 t) → (∀ m, m < 12 → ar22 67 (t0 + m) = fz_ x1 x2 x3 x4 x5 m &&& 255) → Iv S sc22 ar22 → Fr [4901, 4908] [67] sc ar sc22 ar22 → ag_To X d an_X10_feed (23, [(0, .ref 49), (1, .int x1), (2, .int x2), (3, .int x3), (4, .int x4), (5, .int x5), (6, .int 12)], [], gh S a b sc22 ar22 lo, ex, 0, 0) (qi S a b lo ex (fun x sc' ar' => Iv S sc' ar' ∧ Fr [4901, 4908] [67] sc ar sc' ar' ∧ (fe_P 4908 x sc sc' ∧ ((x = -1 ∧ ar' 67 = ar 67) ∨ ∃ s : Nat, sc 4908 = nI s ∧ s + 20 ≤ 400 ∧ (∀ t, t < s → ar' 67 t = ar 67 t) ∧ ∀ m, m < 20 → ar' 67 (s + m) = fz_ x1 x2 x3 x4 x5 m &&& 255)))) := by
    intro tp sc22 ar22 hc23_0 hc23_1 hc23_2 hc23_3 hc23_4 hI22 hF22
    refine to_n 19 (fr' := (79, [(0, .ref 49), (1, .int x1), (2, .int x2), (3, .int x3), (4, .int x4), (5, .int x5), (6, .int 12), (7, .int x4)], [.ref 49], gh S a b sc22 ar22 lo, ex, 0, 0)) rfl ?_
    refine to_get rfl rfl rfl rfl ?_
    refine to_n 1 (fr' := (83, [(0, .ref 49), (1, .int x1), (2, .int x2), (3, .int x3), (4, .int x4), (5, .int x5), (6, .int 12), (7, .int x4)], [.ref 49, .ref 67], gh S a b sc22 ar22 lo, ex, 0, 0)) rfl ?_
    refine to_getR (v := (nI tp)) rfl rfl rfl rfl hc23_0 ?_
    refine to_n 11 (fr' := (103, [(0, .ref 49), (1, .int x1), (2, .int x2), (3, .int x3), (4, .int x4), (5, .int x5), (6, .int 12), (7, .int x4)], [.int ((x4 >>> (24 &&& 31)) &&& 255), .int (nI tp), .ref 67], gh S a b sc22 ar22 lo, ex, 0, 0)) rfl ?_
    refine to_iasR (i := tp) (h' := gh S a b sc22 (uA ar22 67 (upd (ar22 67) tp ((x4 >>> (24 &&& 31)) &&& 255))) lo) rfl rfl (by omega) (by omega) rfl ?_
    have hI23 := ia_67 (g := (upd (ar22 67) tp ((x4 >>> (24 &&& 31)) &&& 255))) hI22
    have hF23 := fr_a (c := 67) (g := (upd (ar22 67) tp ((x4 >>> (24 &&& 31)) &&& 255))) hF22 (by decide)
    refine to_n 2 (fr' := (106, [(0, .ref 49), (1, .int x1), (2, .int x2), (3, .int x3), (4, .int x4), (5, .int x5), (6, .int 12), (7, .int x4)], [.ref 49, .ref 49], gh S a b sc22 (uA ar22 67 (upd (ar22 67) tp ((x4 >>> (24 &&& 31)) &&& 255))) lo, ex, 0, 0)) rfl ?_
    refine to_getR (v := (nI tp)) rfl rfl rfl rfl hc23_0 ?_
    refine to_n 1 (fr' := (110, [(0, .ref 49), (1, .int x1), (2, .int x2), (3, .int x3), (4, .int x4), (5, .int x5), (6, .int 12), (7, .int x4)], [.int 1, .int (nI tp), .ref 49], gh S a b sc22 (uA ar22 67 (upd (ar22 67) tp ((x4 >>> (24 &&& 31)) &&& 255))) lo, ex, 0, 0)) rfl ?_
    refine to_addN (x := tp) (y := 1) rfl ?_
    refine to_putR (h' := gh S a b (upd sc22 4908 (nI (tp + 1))) (uA ar22 67 (upd (ar22 67) tp ((x4 >>> (24 &&& 31)) &&& 255))) lo) rfl rfl rfl (Nat.le_of_ble_eq_true rfl) rfl rfl ?_
    have hI24 := ip_4908 (v := (nI (tp + 1))) hI23 (rl_n (n := (tp + 1)) (by omega))
    have hF24 := fr_s (k := 4908) (v := (nI (tp + 1))) hF23 (by decide)
    refine to_n 2 (fr' := (23, [(0, .ref 49), (1, .int x1), (2, .int x2), (3, .int x3), (4, .int x4), (5, .int x5), (6, .int 13), (7, .int x4)], [], gh S a b (upd sc22 4908 (nI (tp + 1))) (uA ar22 67 (upd (ar22 67) tp ((x4 >>> (24 &&& 31)) &&& 255))) lo, ex, 0, 0)) rfl ?_
    refine to_lv (lv := [(0, .ref 49), (1, .int x1), (2, .int x2), (3, .int x3), (4, .int x4), (5, .int x5), (6, .int 13)]) rfl ⟨rfl, rfl, rfl, rfl, rfl, rfl, rfl, trivial⟩ ?_
    exact c23_13 (tp + 1) (upd sc22 4908 (nI (tp + 1))) (uA ar22 67 (upd (ar22 67) tp ((x4 >>> (24 &&& 31)) &&& 255))) (rfl) (by omega) (by omega) (fun t ht => (show (upd (ar22 67) tp ((x4 >>> (24 &&& 31)) &&& 255)) t = _ from ug_ne (by omega)).trans (hc23_3 t ht)) (al_up (P := fun m => (uA ar22 67 (upd (ar22 67) tp ((x4 >>> (24 &&& 31)) &&& 255))) 67 (t0 + m) = fz_ x1 x2 x3 x4 x5 m &&& 255) (fun m hm => (show (upd (ar22 67) tp ((x4 >>> (24 &&& 31)) &&& 255)) (t0 + m) = _ from ug_ne (by omega)).trans (hc23_4 m hm)) (show (upd (ar22 67) tp ((x4 >>> (24 &&& 31)) &&& 255)) (t0 + 12) = _ from by rw [← hc23_1]; exact ug_eq)) hI24 hF24
  have c23_11 : ∀ (tp : Nat) (sc25 : Nat → Int32) (ar25 : Nat → Nat → Int32), sc25 4908 = nI tp → tp = t0 + 11 → t0 + 20 ≤ 400 → (∀ t, t < t0 → ar25 67 t = ar 67 t) → (∀ m, m < 11 → ar25 67 (t0 + m) = fz_ x1 x2 x3 x4 x5 m &&& 255) → Iv S sc25 ar25 → Fr [4901, 4908] [67] sc ar sc25 ar25 → ag_To X d an_X10_feed (23, [(0, .ref 49), (1, .int x1), (2, .int x2), (3, .int x3), (4, .int x4), (5, .int x5), (6, .int 11)], [], gh S a b sc25 ar25 lo, ex, 0, 0) (qi S a b lo ex (fun x sc' ar' => Iv S sc' ar' ∧ Fr [4901, 4908] [67] sc ar sc' ar' ∧ (fe_P 4908 x sc sc' ∧ ((x = -1 ∧ ar' 67 = ar 67) ∨ ∃ s : Nat, sc 4908 = nI s ∧ s + 20 ≤ 400 ∧ (∀ t, t < s → ar' 67 t = ar 67 t) ∧ ∀ m, m < 20 → ar' 67 (s + m) = fz_ x1 x2 x3 x4 x5 m &&& 255)))) := by
    intro tp sc25 ar25 hc23_0 hc23_1 hc23_2 hc23_3 hc23_4 hI25 hF25
    refine to_n 16 (fr' := (79, [(0, .ref 49), (1, .int x1), (2, .int x2), (3, .int x3), (4, .int x4), (5, .int x5), (6, .int 11), (7, .int x3)], [.ref 49], gh S a b sc25 ar25 lo, ex, 0, 0)) rfl ?_
    refine to_get rfl rfl rfl rfl ?_
    refine to_n 1 (fr' := (83, [(0, .ref 49), (1, .int x1), (2, .int x2), (3, .int x3), (4, .int x4), (5, .int x5), (6, .int 11), (7, .int x3)], [.ref 49, .ref 67], gh S a b sc25 ar25 lo, ex, 0, 0)) rfl ?_
    refine to_getR (v := (nI tp)) rfl rfl rfl rfl hc23_0 ?_
    refine to_n 11 (fr' := (103, [(0, .ref 49), (1, .int x1), (2, .int x2), (3, .int x3), (4, .int x4), (5, .int x5), (6, .int 11), (7, .int x3)], [.int ((x3 >>> (0 &&& 31)) &&& 255), .int (nI tp), .ref 67], gh S a b sc25 ar25 lo, ex, 0, 0)) rfl ?_
    refine to_iasR (i := tp) (h' := gh S a b sc25 (uA ar25 67 (upd (ar25 67) tp ((x3 >>> (0 &&& 31)) &&& 255))) lo) rfl rfl (by omega) (by omega) rfl ?_
    have hI26 := ia_67 (g := (upd (ar25 67) tp ((x3 >>> (0 &&& 31)) &&& 255))) hI25
    have hF26 := fr_a (c := 67) (g := (upd (ar25 67) tp ((x3 >>> (0 &&& 31)) &&& 255))) hF25 (by decide)
    refine to_n 2 (fr' := (106, [(0, .ref 49), (1, .int x1), (2, .int x2), (3, .int x3), (4, .int x4), (5, .int x5), (6, .int 11), (7, .int x3)], [.ref 49, .ref 49], gh S a b sc25 (uA ar25 67 (upd (ar25 67) tp ((x3 >>> (0 &&& 31)) &&& 255))) lo, ex, 0, 0)) rfl ?_
    refine to_getR (v := (nI tp)) rfl rfl rfl rfl hc23_0 ?_
    refine to_n 1 (fr' := (110, [(0, .ref 49), (1, .int x1), (2, .int x2), (3, .int x3), (4, .int x4), (5, .int x5), (6, .int 11), (7, .int x3)], [.int 1, .int (nI tp), .ref 49], gh S a b sc25 (uA ar25 67 (upd (ar25 67) tp ((x3 >>> (0 &&& 31)) &&& 255))) lo, ex, 0, 0)) rfl ?_
    refine to_addN (x := tp) (y := 1) rfl ?_
    refine to_putR (h' := gh S a b (upd sc25 4908 (nI (tp + 1))) (uA ar25 67 (upd (ar25 67) tp ((x3 >>> (0 &&& 31)) &&& 255))) lo) rfl rfl rfl (Nat.le_of_ble_eq_true rfl) rfl rfl ?_
    have hI27 := ip_4908 (v := (nI (tp + 1))) hI26 (rl_n (n := (tp + 1)) (by omega))
    have hF27 := fr_s (k := 4908) (v := (nI (tp + 1))) hF26 (by decide)
    refine to_n 2 (fr' := (23, [(0, .ref 49), (1, .int x1), (2, .int x2), (3, .int x3), (4, .int x4), (5, .int x5), (6, .int 12), (7, .int x3)], [], gh S a b (upd sc25 4908 (nI (tp + 1))) (uA ar25 67 (upd (ar25 67) tp ((x3 >>> (0 &&& 31)) &&& 255))) lo, ex, 0, 0)) rfl ?_
    refine to_lv (lv := [(0, .ref 49), (1, .int x1), (2, .int x2), (3, .int x3), (4, .int x4), (5, .int x5), (6, .int 12)]) rfl ⟨rfl, rfl, rfl, rfl, rfl, rfl, rfl, trivial⟩ ?_
    exact c23_12 (tp + 1) (upd sc25 4908 (nI (tp + 1))) (uA ar25 67 (upd (ar25 67) tp ((x3 >>> (0 &&& 31)) &&& 255))) (rfl) (by omega) (by omega) (fun t ht => (show (upd (ar25 67) tp ((x3 >>> (0 &&& 31)) &&& 255)) t = _ from ug_ne (by omega)).trans (hc23_3 t ht)) (al_up (P := fun m => (uA ar25 67 (upd (ar25 67) tp ((x3 >>> (0 &&& 31)) &&& 255))) 67 (t0 + m) = fz_ x1 x2 x3 x4 x5 m &&& 255) (fun m hm => (show (upd (ar25 67) tp ((x3 >>> (0 &&& 31)) &&& 255)) (t0 + m) = _ from ug_ne (by omega)).trans (hc23_4 m hm)) (show (upd (ar25 67) tp ((x3 >>> (0 &&& 31)) &&& 255)) (t0 + 11) = _ from by rw [← hc23_1]; exact ug_eq)) hI27 hF27
  have c23_10 : ∀ (tp : Nat) (sc28 : Nat → Int32) (ar28 : Nat → Nat → Int32), sc28 4908 = nI tp → tp = t0 + 10 → t0 + 20 ≤ 400 → (∀ t, t < t0 → ar28 67 t = ar 67 t) → (∀ m, m < 10 → ar28 67 (t0 + m) = fz_ x1 x2 x3 x4 x5 m &&& 255) → Iv S sc28 ar28 → Fr [4901, 4908] [67] sc ar sc28 ar28 → ag_To X d an_X10_feed (23, [(0, .ref 49), (1, .int x1), (2, .int x2), (3, .int x3), (4, .int x4), (5, .int x5), (6, .int 10)], [], gh S a b sc28 ar28 lo, ex, 0, 0) (qi S a b lo ex (fun x sc' ar' => Iv S sc' ar' ∧ Fr [4901, 4908] [67] sc ar sc' ar' ∧ (fe_P 4908 x sc sc' ∧ ((x = -1 ∧ ar' 67 = ar 67) ∨ ∃ s : Nat, sc 4908 = nI s ∧ s + 20 ≤ 400 ∧ (∀ t, t < s → ar' 67 t = ar 67 t) ∧ ∀ m, m < 20 → ar' 67 (s + m) = fz_ x1 x2 x3 x4 x5 m &&& 255)))) := by
    intro tp sc28 ar28 hc23_0 hc23_1 hc23_2 hc23_3 hc23_4 hI28 hF28
    refine to_n 16 (fr' := (79, [(0, .ref 49), (1, .int x1), (2, .int x2), (3, .int x3), (4, .int x4), (5, .int x5), (6, .int 10), (7, .int x3)], [.ref 49], gh S a b sc28 ar28 lo, ex, 0, 0)) rfl ?_
    refine to_get rfl rfl rfl rfl ?_
    refine to_n 1 (fr' := (83, [(0, .ref 49), (1, .int x1), (2, .int x2), (3, .int x3), (4, .int x4), (5, .int x5), (6, .int 10), (7, .int x3)], [.ref 49, .ref 67], gh S a b sc28 ar28 lo, ex, 0, 0)) rfl ?_
    refine to_getR (v := (nI tp)) rfl rfl rfl rfl hc23_0 ?_
    refine to_n 11 (fr' := (103, [(0, .ref 49), (1, .int x1), (2, .int x2), (3, .int x3), (4, .int x4), (5, .int x5), (6, .int 10), (7, .int x3)], [.int ((x3 >>> (8 &&& 31)) &&& 255), .int (nI tp), .ref 67], gh S a b sc28 ar28 lo, ex, 0, 0)) rfl ?_
    refine to_iasR (i := tp) (h' := gh S a b sc28 (uA ar28 67 (upd (ar28 67) tp ((x3 >>> (8 &&& 31)) &&& 255))) lo) rfl rfl (by omega) (by omega) rfl ?_
    have hI29 := ia_67 (g := (upd (ar28 67) tp ((x3 >>> (8 &&& 31)) &&& 255))) hI28
    have hF29 := fr_a (c := 67) (g := (upd (ar28 67) tp ((x3 >>> (8 &&& 31)) &&& 255))) hF28 (by decide)
    refine to_n 2 (fr' := (106, [(0, .ref 49), (1, .int x1), (2, .int x2), (3, .int x3), (4, .int x4), (5, .int x5), (6, .int 10), (7, .int x3)], [.ref 49, .ref 49], gh S a b sc28 (uA ar28 67 (upd (ar28 67) tp ((x3 >>> (8 &&& 31)) &&& 255))) lo, ex, 0, 0)) rfl ?_
    refine to_getR (v := (nI tp)) rfl rfl rfl rfl hc23_0 ?_
    refine to_n 1 (fr' := (110, [(0, .ref 49), (1, .int x1), (2, .int x2), (3, .int x3), (4, .int x4), (5, .int x5), (6, .int 10), (7, .int x3)], [.int 1, .int (nI tp), .ref 49], gh S a b sc28 (uA ar28 67 (upd (ar28 67) tp ((x3 >>> (8 &&& 31)) &&& 255))) lo, ex, 0, 0)) rfl ?_
    refine to_addN (x := tp) (y := 1) rfl ?_
    refine to_putR (h' := gh S a b (upd sc28 4908 (nI (tp + 1))) (uA ar28 67 (upd (ar28 67) tp ((x3 >>> (8 &&& 31)) &&& 255))) lo) rfl rfl rfl (Nat.le_of_ble_eq_true rfl) rfl rfl ?_
    have hI30 := ip_4908 (v := (nI (tp + 1))) hI29 (rl_n (n := (tp + 1)) (by omega))
    have hF30 := fr_s (k := 4908) (v := (nI (tp + 1))) hF29 (by decide)
    refine to_n 2 (fr' := (23, [(0, .ref 49), (1, .int x1), (2, .int x2), (3, .int x3), (4, .int x4), (5, .int x5), (6, .int 11), (7, .int x3)], [], gh S a b (upd sc28 4908 (nI (tp + 1))) (uA ar28 67 (upd (ar28 67) tp ((x3 >>> (8 &&& 31)) &&& 255))) lo, ex, 0, 0)) rfl ?_
    refine to_lv (lv := [(0, .ref 49), (1, .int x1), (2, .int x2), (3, .int x3), (4, .int x4), (5, .int x5), (6, .int 11)]) rfl ⟨rfl, rfl, rfl, rfl, rfl, rfl, rfl, trivial⟩ ?_
    exact c23_11 (tp + 1) (upd sc28 4908 (nI (tp + 1))) (uA ar28 67 (upd (ar28 67) tp ((x3 >>> (8 &&& 31)) &&& 255))) (rfl) (by omega) (by omega) (fun t ht => (show (upd (ar28 67) tp ((x3 >>> (8 &&& 31)) &&& 255)) t = _ from ug_ne (by omega)).trans (hc23_3 t ht)) (al_up (P := fun m => (uA ar28 67 (upd (ar28 67) tp ((x3 >>> (8 &&& 31)) &&& 255))) 67 (t0 + m) = fz_ x1 x2 x3 x4 x5 m &&& 255) (fun m hm => (show (upd (ar28 67) tp ((x3 >>> (8 &&& 31)) &&& 255)) (t0 + m) = _ from ug_ne (by omega)).trans (hc23_4 m hm)) (show (upd (ar28 67) tp ((x3 >>> (8 &&& 31)) &&& 255)) (t0 + 10) = _ from by rw [← hc23_1]; exact ug_eq)) hI30 hF30
  have c23_9 : ∀ (tp : Nat) (sc31 : Nat → Int32) (ar31 : Nat → Nat → Int32), sc31 4908 = nI tp → tp = t0 + 9 → t0 + 20 ≤ 400 → (∀ t, t < t0 → ar31 67 t = ar 67 t) → (∀ m, m < 9 → ar31 67 (t0 + m) = fz_ x1 x2 x3 x4 x5 m &&& 255) → Iv S sc31 ar31 → Fr [4901, 4908] [67] sc ar sc31 ar31 → ag_To X d an_X10_feed (23, [(0, .ref 49), (1, .int x1), (2, .int x2), (3, .int x3), (4, .int x4), (5, .int x5), (6, .int 9)], [], gh S a b sc31 ar31 lo, ex, 0, 0) (qi S a b lo ex (fun x sc' ar' => Iv S sc' ar' ∧ Fr [4901, 4908] [67] sc ar sc' ar' ∧ (fe_P 4908 x sc sc' ∧ ((x = -1 ∧ ar' 67 = ar 67) ∨ ∃ s : Nat, sc 4908 = nI s ∧ s + 20 ≤ 400 ∧ (∀ t, t < s → ar' 67 t = ar 67 t) ∧ ∀ m, m < 20 → ar' 67 (s + m) = fz_ x1 x2 x3 x4 x5 m &&& 255)))) := by
    intro tp sc31 ar31 hc23_0 hc23_1 hc23_2 hc23_3 hc23_4 hI31 hF31
    refine to_n 16 (fr' := (79, [(0, .ref 49), (1, .int x1), (2, .int x2), (3, .int x3), (4, .int x4), (5, .int x5), (6, .int 9), (7, .int x3)], [.ref 49], gh S a b sc31 ar31 lo, ex, 0, 0)) rfl ?_
    refine to_get rfl rfl rfl rfl ?_
    refine to_n 1 (fr' := (83, [(0, .ref 49), (1, .int x1), (2, .int x2), (3, .int x3), (4, .int x4), (5, .int x5), (6, .int 9), (7, .int x3)], [.ref 49, .ref 67], gh S a b sc31 ar31 lo, ex, 0, 0)) rfl ?_
    refine to_getR (v := (nI tp)) rfl rfl rfl rfl hc23_0 ?_
    refine to_n 11 (fr' := (103, [(0, .ref 49), (1, .int x1), (2, .int x2), (3, .int x3), (4, .int x4), (5, .int x5), (6, .int 9), (7, .int x3)], [.int ((x3 >>> (16 &&& 31)) &&& 255), .int (nI tp), .ref 67], gh S a b sc31 ar31 lo, ex, 0, 0)) rfl ?_
    refine to_iasR (i := tp) (h' := gh S a b sc31 (uA ar31 67 (upd (ar31 67) tp ((x3 >>> (16 &&& 31)) &&& 255))) lo) rfl rfl (by omega) (by omega) rfl ?_
    have hI32 := ia_67 (g := (upd (ar31 67) tp ((x3 >>> (16 &&& 31)) &&& 255))) hI31
    have hF32 := fr_a (c := 67) (g := (upd (ar31 67) tp ((x3 >>> (16 &&& 31)) &&& 255))) hF31 (by decide)
    refine to_n 2 (fr' := (106, [(0, .ref 49), (1, .int x1), (2, .int x2), (3, .int x3), (4, .int x4), (5, .int x5), (6, .int 9), (7, .int x3)], [.ref 49, .ref 49], gh S a b sc31 (uA ar31 67 (upd (ar31 67) tp ((x3 >>> (16 &&& 31)) &&& 255))) lo, ex, 0, 0)) rfl ?_
    refine to_getR (v := (nI tp)) rfl rfl rfl rfl hc23_0 ?_
    refine to_n 1 (fr' := (110, [(0, .ref 49), (1, .int x1), (2, .int x2), (3, .int x3), (4, .int x4), (5, .int x5), (6, .int 9), (7, .int x3)], [.int 1, .int (nI tp), .ref 49], gh S a b sc31 (uA ar31 67 (upd (ar31 67) tp ((x3 >>> (16 &&& 31)) &&& 255))) lo, ex, 0, 0)) rfl ?_
    refine to_addN (x := tp) (y := 1) rfl ?_
    refine to_putR (h' := gh S a b (upd sc31 4908 (nI (tp + 1))) (uA ar31 67 (upd (ar31 67) tp ((x3 >>> (16 &&& 31)) &&& 255))) lo) rfl rfl rfl (Nat.le_of_ble_eq_true rfl) rfl rfl ?_
    have hI33 := ip_4908 (v := (nI (tp + 1))) hI32 (rl_n (n := (tp + 1)) (by omega))
    have hF33 := fr_s (k := 4908) (v := (nI (tp + 1))) hF32 (by decide)
    refine to_n 2 (fr' := (23, [(0, .ref 49), (1, .int x1), (2, .int x2), (3, .int x3), (4, .int x4), (5, .int x5), (6, .int 10), (7, .int x3)], [], gh S a b (upd sc31 4908 (nI (tp + 1))) (uA ar31 67 (upd (ar31 67) tp ((x3 >>> (16 &&& 31)) &&& 255))) lo, ex, 0, 0)) rfl ?_
    refine to_lv (lv := [(0, .ref 49), (1, .int x1), (2, .int x2), (3, .int x3), (4, .int x4), (5, .int x5), (6, .int 10)]) rfl ⟨rfl, rfl, rfl, rfl, rfl, rfl, rfl, trivial⟩ ?_
    exact c23_10 (tp + 1) (upd sc31 4908 (nI (tp + 1))) (uA ar31 67 (upd (ar31 67) tp ((x3 >>> (16 &&& 31)) &&& 255))) (rfl) (by omega) (by omega) (fun t ht => (show (upd (ar31 67) tp ((x3 >>> (16 &&& 31)) &&& 255)) t = _ from ug_ne (by omega)).trans (hc23_3 t ht)) (al_up (P := fun m => (uA ar31 67 (upd (ar31 67) tp ((x3 >>> (16 &&& 31)) &&& 255))) 67 (t0 + m) = fz_ x1 x2 x3 x4 x5 m &&& 255) (fun m hm => (show (upd (ar31 67) tp ((x3 >>> (16 &&& 31)) &&& 255)) (t0 + m) = _ from ug_ne (by omega)).trans (hc23_4 m hm)) (show (upd (ar31 67) tp ((x3 >>> (16 &&& 31)) &&& 255)) (t0 + 9) = _ from by rw [← hc23_1]; exact ug_eq)) hI33 hF33
  have c23_8 : ∀ (tp : Nat) (sc34 : Nat → Int32) (ar34 : Nat → Nat → Int32), sc34 4908 = nI tp → tp = t0 + 8 → t0 + 20 ≤ 400 → (∀ t, t < t0 → ar34 67 t = ar 67 t) → (∀ m, m < 8 → ar34 67 (t0 + m) = fz_ x1 x2 x3 x4 x5 m &&& 255) → Iv S sc34 ar34 → Fr [4901, 4908] [67] sc ar sc34 ar34 → ag_To X d an_X10_feed (23, [(0, .ref 49), (1, .int x1), (2, .int x2), (3, .int x3), (4, .int x4), (5, .int x5), (6, .int 8)], [], gh S a b sc34 ar34 lo, ex, 0, 0) (qi S a b lo ex (fun x sc' ar' => Iv S sc' ar' ∧ Fr [4901, 4908] [67] sc ar sc' ar' ∧ (fe_P 4908 x sc sc' ∧ ((x = -1 ∧ ar' 67 = ar 67) ∨ ∃ s : Nat, sc 4908 = nI s ∧ s + 20 ≤ 400 ∧ (∀ t, t < s → ar' 67 t = ar 67 t) ∧ ∀ m, m < 20 → ar' 67 (s + m) = fz_ x1 x2 x3 x4 x5 m &&& 255)))) := by
    intro tp sc34 ar34 hc23_0 hc23_1 hc23_2 hc23_3 hc23_4 hI34 hF34
    refine to_n 16 (fr' := (79, [(0, .ref 49), (1, .int x1), (2, .int x2), (3, .int x3), (4, .int x4), (5, .int x5), (6, .int 8), (7, .int x3)], [.ref 49], gh S a b sc34 ar34 lo, ex, 0, 0)) rfl ?_
    refine to_get rfl rfl rfl rfl ?_
    refine to_n 1 (fr' := (83, [(0, .ref 49), (1, .int x1), (2, .int x2), (3, .int x3), (4, .int x4), (5, .int x5), (6, .int 8), (7, .int x3)], [.ref 49, .ref 67], gh S a b sc34 ar34 lo, ex, 0, 0)) rfl ?_
    refine to_getR (v := (nI tp)) rfl rfl rfl rfl hc23_0 ?_
    refine to_n 11 (fr' := (103, [(0, .ref 49), (1, .int x1), (2, .int x2), (3, .int x3), (4, .int x4), (5, .int x5), (6, .int 8), (7, .int x3)], [.int ((x3 >>> (24 &&& 31)) &&& 255), .int (nI tp), .ref 67], gh S a b sc34 ar34 lo, ex, 0, 0)) rfl ?_
    refine to_iasR (i := tp) (h' := gh S a b sc34 (uA ar34 67 (upd (ar34 67) tp ((x3 >>> (24 &&& 31)) &&& 255))) lo) rfl rfl (by omega) (by omega) rfl ?_
    have hI35 := ia_67 (g := (upd (ar34 67) tp ((x3 >>> (24 &&& 31)) &&& 255))) hI34
    have hF35 := fr_a (c := 67) (g := (upd (ar34 67) tp ((x3 >>> (24 &&& 31)) &&& 255))) hF34 (by decide)
    refine to_n 2 (fr' := (106, [(0, .ref 49), (1, .int x1), (2, .int x2), (3, .int x3), (4, .int x4), (5, .int x5), (6, .int 8), (7, .int x3)], [.ref 49, .ref 49], gh S a b sc34 (uA ar34 67 (upd (ar34 67) tp ((x3 >>> (24 &&& 31)) &&& 255))) lo, ex, 0, 0)) rfl ?_
    refine to_getR (v := (nI tp)) rfl rfl rfl rfl hc23_0 ?_
    refine to_n 1 (fr' := (110, [(0, .ref 49), (1, .int x1), (2, .int x2), (3, .int x3), (4, .int x4), (5, .int x5), (6, .int 8), (7, .int x3)], [.int 1, .int (nI tp), .ref 49], gh S a b sc34 (uA ar34 67 (upd (ar34 67) tp ((x3 >>> (24 &&& 31)) &&& 255))) lo, ex, 0, 0)) rfl ?_
    refine to_addN (x := tp) (y := 1) rfl ?_
    refine to_putR (h' := gh S a b (upd sc34 4908 (nI (tp + 1))) (uA ar34 67 (upd (ar34 67) tp ((x3 >>> (24 &&& 31)) &&& 255))) lo) rfl rfl rfl (Nat.le_of_ble_eq_true rfl) rfl rfl ?_
    have hI36 := ip_4908 (v := (nI (tp + 1))) hI35 (rl_n (n := (tp + 1)) (by omega))
    have hF36 := fr_s (k := 4908) (v := (nI (tp + 1))) hF35 (by decide)
    refine to_n 2 (fr' := (23, [(0, .ref 49), (1, .int x1), (2, .int x2), (3, .int x3), (4, .int x4), (5, .int x5), (6, .int 9), (7, .int x3)], [], gh S a b (upd sc34 4908 (nI (tp + 1))) (uA ar34 67 (upd (ar34 67) tp ((x3 >>> (24 &&& 31)) &&& 255))) lo, ex, 0, 0)) rfl ?_
    refine to_lv (lv := [(0, .ref 49), (1, .int x1), (2, .int x2), (3, .int x3), (4, .int x4), (5, .int x5), (6, .int 9)]) rfl ⟨rfl, rfl, rfl, rfl, rfl, rfl, rfl, trivial⟩ ?_
    exact c23_9 (tp + 1) (upd sc34 4908 (nI (tp + 1))) (uA ar34 67 (upd (ar34 67) tp ((x3 >>> (24 &&& 31)) &&& 255))) (rfl) (by omega) (by omega) (fun t ht => (show (upd (ar34 67) tp ((x3 >>> (24 &&& 31)) &&& 255)) t = _ from ug_ne (by omega)).trans (hc23_3 t ht)) (al_up (P := fun m => (uA ar34 67 (upd (ar34 67) tp ((x3 >>> (24 &&& 31)) &&& 255))) 67 (t0 + m) = fz_ x1 x2 x3 x4 x5 m &&& 255) (fun m hm => (show (upd (ar34 67) tp ((x3 >>> (24 &&& 31)) &&& 255)) (t0 + m) = _ from ug_ne (by omega)).trans (hc23_4 m hm)) (show (upd (ar34 67) tp ((x3 >>> (24 &&& 31)) &&& 255)) (t0 + 8) = _ from by rw [← hc23_1]; exact ug_eq)) hI36 hF36
  have c23_7 : ∀ (tp : Nat) (sc37 : Nat → Int32) (ar37 : Nat → Nat → Int32), sc37 4908 = nI tp → tp = t0 + 7 → t0 + 20 ≤ 400 → (∀ t, t < t0 → ar37 67 t = ar 67 t) → (∀ m, m < 7 → ar37 67 (t0 + m) = fz_ x1 x2 x3 x4 x5 m &&& 255) → Iv S sc37 ar37 → Fr [4901, 4908] [67] sc ar sc37 ar37 → ag_To X d an_X10_feed (23, [(0, .ref 49), (1, .int x1), (2, .int x2), (3, .int x3), (4, .int x4), (5, .int x5), (6, .int 7)], [], gh S a b sc37 ar37 lo, ex, 0, 0) (qi S a b lo ex (fun x sc' ar' => Iv S sc' ar' ∧ Fr [4901, 4908] [67] sc ar sc' ar' ∧ (fe_P 4908 x sc sc' ∧ ((x = -1 ∧ ar' 67 = ar 67) ∨ ∃ s : Nat, sc 4908 = nI s ∧ s + 20 ≤ 400 ∧ (∀ t, t < s → ar' 67 t = ar 67 t) ∧ ∀ m, m < 20 → ar' 67 (s + m) = fz_ x1 x2 x3 x4 x5 m &&& 255)))) := by
    intro tp sc37 ar37 hc23_0 hc23_1 hc23_2 hc23_3 hc23_4 hI37 hF37
    refine to_n 13 (fr' := (79, [(0, .ref 49), (1, .int x1), (2, .int x2), (3, .int x3), (4, .int x4), (5, .int x5), (6, .int 7), (7, .int x2)], [.ref 49], gh S a b sc37 ar37 lo, ex, 0, 0)) rfl ?_
    refine to_get rfl rfl rfl rfl ?_
    refine to_n 1 (fr' := (83, [(0, .ref 49), (1, .int x1), (2, .int x2), (3, .int x3), (4, .int x4), (5, .int x5), (6, .int 7), (7, .int x2)], [.ref 49, .ref 67], gh S a b sc37 ar37 lo, ex, 0, 0)) rfl ?_
    refine to_getR (v := (nI tp)) rfl rfl rfl rfl hc23_0 ?_
    refine to_n 11 (fr' := (103, [(0, .ref 49), (1, .int x1), (2, .int x2), (3, .int x3), (4, .int x4), (5, .int x5), (6, .int 7), (7, .int x2)], [.int ((x2 >>> (0 &&& 31)) &&& 255), .int (nI tp), .ref 67], gh S a b sc37 ar37 lo, ex, 0, 0)) rfl ?_
    refine to_iasR (i := tp) (h' := gh S a b sc37 (uA ar37 67 (upd (ar37 67) tp ((x2 >>> (0 &&& 31)) &&& 255))) lo) rfl rfl (by omega) (by omega) rfl ?_
    have hI38 := ia_67 (g := (upd (ar37 67) tp ((x2 >>> (0 &&& 31)) &&& 255))) hI37
    have hF38 := fr_a (c := 67) (g := (upd (ar37 67) tp ((x2 >>> (0 &&& 31)) &&& 255))) hF37 (by decide)
    refine to_n 2 (fr' := (106, [(0, .ref 49), (1, .int x1), (2, .int x2), (3, .int x3), (4, .int x4), (5, .int x5), (6, .int 7), (7, .int x2)], [.ref 49, .ref 49], gh S a b sc37 (uA ar37 67 (upd (ar37 67) tp ((x2 >>> (0 &&& 31)) &&& 255))) lo, ex, 0, 0)) rfl ?_
    refine to_getR (v := (nI tp)) rfl rfl rfl rfl hc23_0 ?_
    refine to_n 1 (fr' := (110, [(0, .ref 49), (1, .int x1), (2, .int x2), (3, .int x3), (4, .int x4), (5, .int x5), (6, .int 7), (7, .int x2)], [.int 1, .int (nI tp), .ref 49], gh S a b sc37 (uA ar37 67 (upd (ar37 67) tp ((x2 >>> (0 &&& 31)) &&& 255))) lo, ex, 0, 0)) rfl ?_
    refine to_addN (x := tp) (y := 1) rfl ?_
    refine to_putR (h' := gh S a b (upd sc37 4908 (nI (tp + 1))) (uA ar37 67 (upd (ar37 67) tp ((x2 >>> (0 &&& 31)) &&& 255))) lo) rfl rfl rfl (Nat.le_of_ble_eq_true rfl) rfl rfl ?_
    have hI39 := ip_4908 (v := (nI (tp + 1))) hI38 (rl_n (n := (tp + 1)) (by omega))
    have hF39 := fr_s (k := 4908) (v := (nI (tp + 1))) hF38 (by decide)
    refine to_n 2 (fr' := (23, [(0, .ref 49), (1, .int x1), (2, .int x2), (3, .int x3), (4, .int x4), (5, .int x5), (6, .int 8), (7, .int x2)], [], gh S a b (upd sc37 4908 (nI (tp + 1))) (uA ar37 67 (upd (ar37 67) tp ((x2 >>> (0 &&& 31)) &&& 255))) lo, ex, 0, 0)) rfl ?_
    refine to_lv (lv := [(0, .ref 49), (1, .int x1), (2, .int x2), (3, .int x3), (4, .int x4), (5, .int x5), (6, .int 8)]) rfl ⟨rfl, rfl, rfl, rfl, rfl, rfl, rfl, trivial⟩ ?_
    exact c23_8 (tp + 1) (upd sc37 4908 (nI (tp + 1))) (uA ar37 67 (upd (ar37 67) tp ((x2 >>> (0 &&& 31)) &&& 255))) (rfl) (by omega) (by omega) (fun t ht => (show (upd (ar37 67) tp ((x2 >>> (0 &&& 31)) &&& 255)) t = _ from ug_ne (by omega)).trans (hc23_3 t ht)) (al_up (P := fun m => (uA ar37 67 (upd (ar37 67) tp ((x2 >>> (0 &&& 31)) &&& 255))) 67 (t0 + m) = fz_ x1 x2 x3 x4 x5 m &&& 255) (fun m hm => (show (upd (ar37 67) tp ((x2 >>> (0 &&& 31)) &&& 255)) (t0 + m) = _ from ug_ne (by omega)).trans (hc23_4 m hm)) (show (upd (ar37 67) tp ((x2 >>> (0 &&& 31)) &&& 255)) (t0 + 7) = _ from by rw [← hc23_1]; exact ug_eq)) hI39 hF39
  have c23_6 : ∀ (tp : Nat) (sc40 : Nat → Int32) (ar40 : Nat → Nat → Int32), sc40 4908 = nI tp → tp = t0 + 6 → t0 + 20 ≤ 400 → (∀ t, t < t0 → ar40 67 t = ar 67 t) → (∀ m, m < 6 → ar40 67 (t0 + m) = fz_ x1 x2 x3 x4 x5 m &&& 255) → Iv S sc40 ar40 → Fr [4901, 4908] [67] sc ar sc40 ar40 → ag_To X d an_X10_feed (23, [(0, .ref 49), (1, .int x1), (2, .int x2), (3, .int x3), (4, .int x4), (5, .int x5), (6, .int 6)], [], gh S a b sc40 ar40 lo, ex, 0, 0) (qi S a b lo ex (fun x sc' ar' => Iv S sc' ar' ∧ Fr [4901, 4908] [67] sc ar sc' ar' ∧ (fe_P 4908 x sc sc' ∧ ((x = -1 ∧ ar' 67 = ar 67) ∨ ∃ s : Nat, sc 4908 = nI s ∧ s + 20 ≤ 400 ∧ (∀ t, t < s → ar' 67 t = ar 67 t) ∧ ∀ m, m < 20 → ar' 67 (s + m) = fz_ x1 x2 x3 x4 x5 m &&& 255)))) := by
    intro tp sc40 ar40 hc23_0 hc23_1 hc23_2 hc23_3 hc23_4 hI40 hF40
    refine to_n 13 (fr' := (79, [(0, .ref 49), (1, .int x1), (2, .int x2), (3, .int x3), (4, .int x4), (5, .int x5), (6, .int 6), (7, .int x2)], [.ref 49], gh S a b sc40 ar40 lo, ex, 0, 0)) rfl ?_
    refine to_get rfl rfl rfl rfl ?_
    refine to_n 1 (fr' := (83, [(0, .ref 49), (1, .int x1), (2, .int x2), (3, .int x3), (4, .int x4), (5, .int x5), (6, .int 6), (7, .int x2)], [.ref 49, .ref 67], gh S a b sc40 ar40 lo, ex, 0, 0)) rfl ?_
    refine to_getR (v := (nI tp)) rfl rfl rfl rfl hc23_0 ?_
    refine to_n 11 (fr' := (103, [(0, .ref 49), (1, .int x1), (2, .int x2), (3, .int x3), (4, .int x4), (5, .int x5), (6, .int 6), (7, .int x2)], [.int ((x2 >>> (8 &&& 31)) &&& 255), .int (nI tp), .ref 67], gh S a b sc40 ar40 lo, ex, 0, 0)) rfl ?_
    refine to_iasR (i := tp) (h' := gh S a b sc40 (uA ar40 67 (upd (ar40 67) tp ((x2 >>> (8 &&& 31)) &&& 255))) lo) rfl rfl (by omega) (by omega) rfl ?_
    have hI41 := ia_67 (g := (upd (ar40 67) tp ((x2 >>> (8 &&& 31)) &&& 255))) hI40
    have hF41 := fr_a (c := 67) (g := (upd (ar40 67) tp ((x2 >>> (8 &&& 31)) &&& 255))) hF40 (by decide)
    refine to_n 2 (fr' := (106, [(0, .ref 49), (1, .int x1), (2, .int x2), (3, .int x3), (4, .int x4), (5, .int x5), (6, .int 6), (7, .int x2)], [.ref 49, .ref 49], gh S a b sc40 (uA ar40 67 (upd (ar40 67) tp ((x2 >>> (8 &&& 31)) &&& 255))) lo, ex, 0, 0)) rfl ?_
    refine to_getR (v := (nI tp)) rfl rfl rfl rfl hc23_0 ?_
    refine to_n 1 (fr' := (110, [(0, .ref 49), (1, .int x1), (2, .int x2), (3, .int x3), (4, .int x4), (5, .int x5), (6, .int 6), (7, .int x2)], [.int 1, .int (nI tp), .ref 49], gh S a b sc40 (uA ar40 67 (upd (ar40 67) tp ((x2 >>> (8 &&& 31)) &&& 255))) lo, ex, 0, 0)) rfl ?_
    refine to_addN (x := tp) (y := 1) rfl ?_
    refine to_putR (h' := gh S a b (upd sc40 4908 (nI (tp + 1))) (uA ar40 67 (upd (ar40 67) tp ((x2 >>> (8 &&& 31)) &&& 255))) lo) rfl rfl rfl (Nat.le_of_ble_eq_true rfl) rfl rfl ?_
    have hI42 := ip_4908 (v := (nI (tp + 1))) hI41 (rl_n (n := (tp + 1)) (by omega))
    have hF42 := fr_s (k := 4908) (v := (nI (tp + 1))) hF41 (by decide)
    refine to_n 2 (fr' := (23, [(0, .ref 49), (1, .int x1), (2, .int x2), (3, .int x3), (4, .int x4), (5, .int x5), (6, .int 7), (7, .int x2)], [], gh S a b (upd sc40 4908 (nI (tp + 1))) (uA ar40 67 (upd (ar40 67) tp ((x2 >>> (8 &&& 31)) &&& 255))) lo, ex, 0, 0)) rfl ?_
    refine to_lv (lv := [(0, .ref 49), (1, .int x1), (2, .int x2), (3, .int x3), (4, .int x4), (5, .int x5), (6, .int 7)]) rfl ⟨rfl, rfl, rfl, rfl, rfl, rfl, rfl, trivial⟩ ?_
    exact c23_7 (tp + 1) (upd sc40 4908 (nI (tp + 1))) (uA ar40 67 (upd (ar40 67) tp ((x2 >>> (8 &&& 31)) &&& 255))) (rfl) (by omega) (by omega) (fun t ht => (show (upd (ar40 67) tp ((x2 >>> (8 &&& 31)) &&& 255)) t = _ from ug_ne (by omega)).trans (hc23_3 t ht)) (al_up (P := fun m => (uA ar40 67 (upd (ar40 67) tp ((x2 >>> (8 &&& 31)) &&& 255))) 67 (t0 + m) = fz_ x1 x2 x3 x4 x5 m &&& 255) (fun m hm => (show (upd (ar40 67) tp ((x2 >>> (8 &&& 31)) &&& 255)) (t0 + m) = _ from ug_ne (by omega)).trans (hc23_4 m hm)) (show (upd (ar40 67) tp ((x2 >>> (8 &&& 31)) &&& 255)) (t0 + 6) = _ from by rw [← hc23_1]; exact ug_eq)) hI42 hF42
  have c23_5 : ∀ (tp : Nat) (sc43 : Nat → Int32) (ar43 : Nat → Nat → Int32), sc43 4908 = nI tp → tp = t0 + 5 → t0 + 20 ≤ 400 → (∀ t, t < t0 → ar43 67 t = ar 67 t) → (∀ m, m < 5 → ar43 67 (t0 + m) = fz_ x1 x2 x3 x4 x5 m &&& 255) → Iv S sc43 ar43 → Fr [4901, 4908] [67] sc ar sc43 ar43 → ag_To X d an_X10_feed (23, [(0, .ref 49), (1, .int x1), (2, .int x2), (3, .int x3), (4, .int x4), (5, .int x5), (6, .int 5)], [], gh S a b sc43 ar43 lo, ex, 0, 0) (qi S a b lo ex (fun x sc' ar' => Iv S sc' ar' ∧ Fr [4901, 4908] [67] sc ar sc' ar' ∧ (fe_P 4908 x sc sc' ∧ ((x = -1 ∧ ar' 67 = ar 67) ∨ ∃ s : Nat, sc 4908 = nI s ∧ s + 20 ≤ 400 ∧ (∀ t, t < s → ar' 67 t = ar 67 t) ∧ ∀ m, m < 20 → ar' 67 (s + m) = fz_ x1 x2 x3 x4 x5 m &&& 255)))) := by
    intro tp sc43 ar43 hc23_0 hc23_1 hc23_2 hc23_3 hc23_4 hI43 hF43
    refine to_n 13 (fr' := (79, [(0, .ref 49), (1, .int x1), (2, .int x2), (3, .int x3), (4, .int x4), (5, .int x5), (6, .int 5), (7, .int x2)], [.ref 49], gh S a b sc43 ar43 lo, ex, 0, 0)) rfl ?_
    refine to_get rfl rfl rfl rfl ?_
    refine to_n 1 (fr' := (83, [(0, .ref 49), (1, .int x1), (2, .int x2), (3, .int x3), (4, .int x4), (5, .int x5), (6, .int 5), (7, .int x2)], [.ref 49, .ref 67], gh S a b sc43 ar43 lo, ex, 0, 0)) rfl ?_
    refine to_getR (v := (nI tp)) rfl rfl rfl rfl hc23_0 ?_
    refine to_n 11 (fr' := (103, [(0, .ref 49), (1, .int x1), (2, .int x2), (3, .int x3), (4, .int x4), (5, .int x5), (6, .int 5), (7, .int x2)], [.int ((x2 >>> (16 &&& 31)) &&& 255), .int (nI tp), .ref 67], gh S a b sc43 ar43 lo, ex, 0, 0)) rfl ?_
    refine to_iasR (i := tp) (h' := gh S a b sc43 (uA ar43 67 (upd (ar43 67) tp ((x2 >>> (16 &&& 31)) &&& 255))) lo) rfl rfl (by omega) (by omega) rfl ?_
    have hI44 := ia_67 (g := (upd (ar43 67) tp ((x2 >>> (16 &&& 31)) &&& 255))) hI43
    have hF44 := fr_a (c := 67) (g := (upd (ar43 67) tp ((x2 >>> (16 &&& 31)) &&& 255))) hF43 (by decide)
    refine to_n 2 (fr' := (106, [(0, .ref 49), (1, .int x1), (2, .int x2), (3, .int x3), (4, .int x4), (5, .int x5), (6, .int 5), (7, .int x2)], [.ref 49, .ref 49], gh S a b sc43 (uA ar43 67 (upd (ar43 67) tp ((x2 >>> (16 &&& 31)) &&& 255))) lo, ex, 0, 0)) rfl ?_
    refine to_getR (v := (nI tp)) rfl rfl rfl rfl hc23_0 ?_
    refine to_n 1 (fr' := (110, [(0, .ref 49), (1, .int x1), (2, .int x2), (3, .int x3), (4, .int x4), (5, .int x5), (6, .int 5), (7, .int x2)], [.int 1, .int (nI tp), .ref 49], gh S a b sc43 (uA ar43 67 (upd (ar43 67) tp ((x2 >>> (16 &&& 31)) &&& 255))) lo, ex, 0, 0)) rfl ?_
    refine to_addN (x := tp) (y := 1) rfl ?_
    refine to_putR (h' := gh S a b (upd sc43 4908 (nI (tp + 1))) (uA ar43 67 (upd (ar43 67) tp ((x2 >>> (16 &&& 31)) &&& 255))) lo) rfl rfl rfl (Nat.le_of_ble_eq_true rfl) rfl rfl ?_
    have hI45 := ip_4908 (v := (nI (tp + 1))) hI44 (rl_n (n := (tp + 1)) (by omega))
    have hF45 := fr_s (k := 4908) (v := (nI (tp + 1))) hF44 (by decide)
    refine to_n 2 (fr' := (23, [(0, .ref 49), (1, .int x1), (2, .int x2), (3, .int x3), (4, .int x4), (5, .int x5), (6, .int 6), (7, .int x2)], [], gh S a b (upd sc43 4908 (nI (tp + 1))) (uA ar43 67 (upd (ar43 67) tp ((x2 >>> (16 &&& 31)) &&& 255))) lo, ex, 0, 0)) rfl ?_
    refine to_lv (lv := [(0, .ref 49), (1, .int x1), (2, .int x2), (3, .int x3), (4, .int x4), (5, .int x5), (6, .int 6)]) rfl ⟨rfl, rfl, rfl, rfl, rfl, rfl, rfl, trivial⟩ ?_
    exact c23_6 (tp + 1) (upd sc43 4908 (nI (tp + 1))) (uA ar43 67 (upd (ar43 67) tp ((x2 >>> (16 &&& 31)) &&& 255))) (rfl) (by omega) (by omega) (fun t ht => (show (upd (ar43 67) tp ((x2 >>> (16 &&& 31)) &&& 255)) t = _ from ug_ne (by omega)).trans (hc23_3 t ht)) (al_up (P := fun m => (uA ar43 67 (upd (ar43 67) tp ((x2 >>> (16 &&& 31)) &&& 255))) 67 (t0 + m) = fz_ x1 x2 x3 x4 x5 m &&& 255) (fun m hm => (show (upd (ar43 67) tp ((x2 >>> (16 &&& 31)) &&& 255)) (t0 + m) = _ from ug_ne (by omega)).trans (hc23_4 m hm)) (show (upd (ar43 67) tp ((x2 >>> (16 &&& 31)) &&& 255)) (t0 + 5) = _ from by rw [← hc23_1]; exact ug_eq)) hI45 hF45
  have c23_4 : ∀ (tp : Nat) (sc46 : Nat → Int32) (ar46 : Nat → Nat → Int32), sc46 4908 = nI tp → tp = t0 + 4 → t0 + 20 ≤ 400 → (∀ t, t < t0 → ar46 67 t = ar 67 t) → (∀ m, m < 4 → ar46 67 (t0 + m) = fz_ x1 x2 x3 x4 x5 m &&& 255) → Iv S sc46 ar46 → Fr [4901, 4908] [67] sc ar sc46 ar46 → ag_To X d an_X10_feed (23, [(0, .ref 49), (1, .int x1), (2, .int x2), (3, .int x3), (4, .int x4), (5, .int x5), (6, .int 4)], [], gh S a b sc46 ar46 lo, ex, 0, 0) (qi S a b lo ex (fun x sc' ar' => Iv S sc' ar' ∧ Fr [4901, 4908] [67] sc ar sc' ar' ∧ (fe_P 4908 x sc sc' ∧ ((x = -1 ∧ ar' 67 = ar 67) ∨ ∃ s : Nat, sc 4908 = nI s ∧ s + 20 ≤ 400 ∧ (∀ t, t < s → ar' 67 t = ar 67 t) ∧ ∀ m, m < 20 → ar' 67 (s + m) = fz_ x1 x2 x3 x4 x5 m &&& 255)))) := by
    intro tp sc46 ar46 hc23_0 hc23_1 hc23_2 hc23_3 hc23_4 hI46 hF46
    refine to_n 13 (fr' := (79, [(0, .ref 49), (1, .int x1), (2, .int x2), (3, .int x3), (4, .int x4), (5, .int x5), (6, .int 4), (7, .int x2)], [.ref 49], gh S a b sc46 ar46 lo, ex, 0, 0)) rfl ?_
    refine to_get rfl rfl rfl rfl ?_
    refine to_n 1 (fr' := (83, [(0, .ref 49), (1, .int x1), (2, .int x2), (3, .int x3), (4, .int x4), (5, .int x5), (6, .int 4), (7, .int x2)], [.ref 49, .ref 67], gh S a b sc46 ar46 lo, ex, 0, 0)) rfl ?_
    refine to_getR (v := (nI tp)) rfl rfl rfl rfl hc23_0 ?_
    refine to_n 11 (fr' := (103, [(0, .ref 49), (1, .int x1), (2, .int x2), (3, .int x3), (4, .int x4), (5, .int x5), (6, .int 4), (7, .int x2)], [.int ((x2 >>> (24 &&& 31)) &&& 255), .int (nI tp), .ref 67], gh S a b sc46 ar46 lo, ex, 0, 0)) rfl ?_
    refine to_iasR (i := tp) (h' := gh S a b sc46 (uA ar46 67 (upd (ar46 67) tp ((x2 >>> (24 &&& 31)) &&& 255))) lo) rfl rfl (by omega) (by omega) rfl ?_
    have hI47 := ia_67 (g := (upd (ar46 67) tp ((x2 >>> (24 &&& 31)) &&& 255))) hI46
    have hF47 := fr_a (c := 67) (g := (upd (ar46 67) tp ((x2 >>> (24 &&& 31)) &&& 255))) hF46 (by decide)
    refine to_n 2 (fr' := (106, [(0, .ref 49), (1, .int x1), (2, .int x2), (3, .int x3), (4, .int x4), (5, .int x5), (6, .int 4), (7, .int x2)], [.ref 49, .ref 49], gh S a b sc46 (uA ar46 67 (upd (ar46 67) tp ((x2 >>> (24 &&& 31)) &&& 255))) lo, ex, 0, 0)) rfl ?_
    refine to_getR (v := (nI tp)) rfl rfl rfl rfl hc23_0 ?_
    refine to_n 1 (fr' := (110, [(0, .ref 49), (1, .int x1), (2, .int x2), (3, .int x3), (4, .int x4), (5, .int x5), (6, .int 4), (7, .int x2)], [.int 1, .int (nI tp), .ref 49], gh S a b sc46 (uA ar46 67 (upd (ar46 67) tp ((x2 >>> (24 &&& 31)) &&& 255))) lo, ex, 0, 0)) rfl ?_
    refine to_addN (x := tp) (y := 1) rfl ?_
    refine to_putR (h' := gh S a b (upd sc46 4908 (nI (tp + 1))) (uA ar46 67 (upd (ar46 67) tp ((x2 >>> (24 &&& 31)) &&& 255))) lo) rfl rfl rfl (Nat.le_of_ble_eq_true rfl) rfl rfl ?_
    have hI48 := ip_4908 (v := (nI (tp + 1))) hI47 (rl_n (n := (tp + 1)) (by omega))
    have hF48 := fr_s (k := 4908) (v := (nI (tp + 1))) hF47 (by decide)
    refine to_n 2 (fr' := (23, [(0, .ref 49), (1, .int x1), (2, .int x2), (3, .int x3), (4, .int x4), (5, .int x5), (6, .int 5), (7, .int x2)], [], gh S a b (upd sc46 4908 (nI (tp + 1))) (uA ar46 67 (upd (ar46 67) tp ((x2 >>> (24 &&& 31)) &&& 255))) lo, ex, 0, 0)) rfl ?_
    refine to_lv (lv := [(0, .ref 49), (1, .int x1), (2, .int x2), (3, .int x3), (4, .int x4), (5, .int x5), (6, .int 5)]) rfl ⟨rfl, rfl, rfl, rfl, rfl, rfl, rfl, trivial⟩ ?_
    exact c23_5 (tp + 1) (upd sc46 4908 (nI (tp + 1))) (uA ar46 67 (upd (ar46 67) tp ((x2 >>> (24 &&& 31)) &&& 255))) (rfl) (by omega) (by omega) (fun t ht => (show (upd (ar46 67) tp ((x2 >>> (24 &&& 31)) &&& 255)) t = _ from ug_ne (by omega)).trans (hc23_3 t ht)) (al_up (P := fun m => (uA ar46 67 (upd (ar46 67) tp ((x2 >>> (24 &&& 31)) &&& 255))) 67 (t0 + m) = fz_ x1 x2 x3 x4 x5 m &&& 255) (fun m hm => (show (upd (ar46 67) tp ((x2 >>> (24 &&& 31)) &&& 255)) (t0 + m) = _ from ug_ne (by omega)).trans (hc23_4 m hm)) (show (upd (ar46 67) tp ((x2 >>> (24 &&& 31)) &&& 255)) (t0 + 4) = _ from by rw [← hc23_1]; exact ug_eq)) hI48 hF48
  have c23_3 : ∀ (tp : Nat) (sc49 : Nat → Int32) (ar49 : Nat → Nat → Int32), sc49 4908 = nI tp → tp = t0 + 3 → t0 + 20 ≤ 400 → (∀ t, t < t0 → ar49 67 t = ar 67 t) → (∀ m, m < 3 → ar49 67 (t0 + m) = fz_ x1 x2 x3 x4 x5 m &&& 255) → Iv S sc49 ar49 → Fr [4901, 4908] [67] sc ar sc49 ar49 → ag_To X d an_X10_feed (23, [(0, .ref 49), (1, .int x1), (2, .int x2), (3, .int x3), (4, .int x4), (5, .int x5), (6, .int 3)], [], gh S a b sc49 ar49 lo, ex, 0, 0) (qi S a b lo ex (fun x sc' ar' => Iv S sc' ar' ∧ Fr [4901, 4908] [67] sc ar sc' ar' ∧ (fe_P 4908 x sc sc' ∧ ((x = -1 ∧ ar' 67 = ar 67) ∨ ∃ s : Nat, sc 4908 = nI s ∧ s + 20 ≤ 400 ∧ (∀ t, t < s → ar' 67 t = ar 67 t) ∧ ∀ m, m < 20 → ar' 67 (s + m) = fz_ x1 x2 x3 x4 x5 m &&& 255)))) := by
    intro tp sc49 ar49 hc23_0 hc23_1 hc23_2 hc23_3 hc23_4 hI49 hF49
    refine to_n 10 (fr' := (79, [(0, .ref 49), (1, .int x1), (2, .int x2), (3, .int x3), (4, .int x4), (5, .int x5), (6, .int 3), (7, .int x1)], [.ref 49], gh S a b sc49 ar49 lo, ex, 0, 0)) rfl ?_
    refine to_get rfl rfl rfl rfl ?_
    refine to_n 1 (fr' := (83, [(0, .ref 49), (1, .int x1), (2, .int x2), (3, .int x3), (4, .int x4), (5, .int x5), (6, .int 3), (7, .int x1)], [.ref 49, .ref 67], gh S a b sc49 ar49 lo, ex, 0, 0)) rfl ?_
    refine to_getR (v := (nI tp)) rfl rfl rfl rfl hc23_0 ?_
    refine to_n 11 (fr' := (103, [(0, .ref 49), (1, .int x1), (2, .int x2), (3, .int x3), (4, .int x4), (5, .int x5), (6, .int 3), (7, .int x1)], [.int ((x1 >>> (0 &&& 31)) &&& 255), .int (nI tp), .ref 67], gh S a b sc49 ar49 lo, ex, 0, 0)) rfl ?_
    refine to_iasR (i := tp) (h' := gh S a b sc49 (uA ar49 67 (upd (ar49 67) tp ((x1 >>> (0 &&& 31)) &&& 255))) lo) rfl rfl (by omega) (by omega) rfl ?_
    have hI50 := ia_67 (g := (upd (ar49 67) tp ((x1 >>> (0 &&& 31)) &&& 255))) hI49
    have hF50 := fr_a (c := 67) (g := (upd (ar49 67) tp ((x1 >>> (0 &&& 31)) &&& 255))) hF49 (by decide)
    refine to_n 2 (fr' := (106, [(0, .ref 49), (1, .int x1), (2, .int x2), (3, .int x3), (4, .int x4), (5, .int x5), (6, .int 3), (7, .int x1)], [.ref 49, .ref 49], gh S a b sc49 (uA ar49 67 (upd (ar49 67) tp ((x1 >>> (0 &&& 31)) &&& 255))) lo, ex, 0, 0)) rfl ?_
    refine to_getR (v := (nI tp)) rfl rfl rfl rfl hc23_0 ?_
    refine to_n 1 (fr' := (110, [(0, .ref 49), (1, .int x1), (2, .int x2), (3, .int x3), (4, .int x4), (5, .int x5), (6, .int 3), (7, .int x1)], [.int 1, .int (nI tp), .ref 49], gh S a b sc49 (uA ar49 67 (upd (ar49 67) tp ((x1 >>> (0 &&& 31)) &&& 255))) lo, ex, 0, 0)) rfl ?_
    refine to_addN (x := tp) (y := 1) rfl ?_
    refine to_putR (h' := gh S a b (upd sc49 4908 (nI (tp + 1))) (uA ar49 67 (upd (ar49 67) tp ((x1 >>> (0 &&& 31)) &&& 255))) lo) rfl rfl rfl (Nat.le_of_ble_eq_true rfl) rfl rfl ?_
    have hI51 := ip_4908 (v := (nI (tp + 1))) hI50 (rl_n (n := (tp + 1)) (by omega))
    have hF51 := fr_s (k := 4908) (v := (nI (tp + 1))) hF50 (by decide)
    refine to_n 2 (fr' := (23, [(0, .ref 49), (1, .int x1), (2, .int x2), (3, .int x3), (4, .int x4), (5, .int x5), (6, .int 4), (7, .int x1)], [], gh S a b (upd sc49 4908 (nI (tp + 1))) (uA ar49 67 (upd (ar49 67) tp ((x1 >>> (0 &&& 31)) &&& 255))) lo, ex, 0, 0)) rfl ?_
    refine to_lv (lv := [(0, .ref 49), (1, .int x1), (2, .int x2), (3, .int x3), (4, .int x4), (5, .int x5), (6, .int 4)]) rfl ⟨rfl, rfl, rfl, rfl, rfl, rfl, rfl, trivial⟩ ?_
    exact c23_4 (tp + 1) (upd sc49 4908 (nI (tp + 1))) (uA ar49 67 (upd (ar49 67) tp ((x1 >>> (0 &&& 31)) &&& 255))) (rfl) (by omega) (by omega) (fun t ht => (show (upd (ar49 67) tp ((x1 >>> (0 &&& 31)) &&& 255)) t = _ from ug_ne (by omega)).trans (hc23_3 t ht)) (al_up (P := fun m => (uA ar49 67 (upd (ar49 67) tp ((x1 >>> (0 &&& 31)) &&& 255))) 67 (t0 + m) = fz_ x1 x2 x3 x4 x5 m &&& 255) (fun m hm => (show (upd (ar49 67) tp ((x1 >>> (0 &&& 31)) &&& 255)) (t0 + m) = _ from ug_ne (by omega)).trans (hc23_4 m hm)) (show (upd (ar49 67) tp ((x1 >>> (0 &&& 31)) &&& 255)) (t0 + 3) = _ from by rw [← hc23_1]; exact ug_eq)) hI51 hF51
  have c23_2 : ∀ (tp : Nat) (sc52 : Nat → Int32) (ar52 : Nat → Nat → Int32), sc52 4908 = nI tp → tp = t0 + 2 → t0 + 20 ≤ 400 → (∀ t, t < t0 → ar52 67 t = ar 67 t) → (∀ m, m < 2 → ar52 67 (t0 + m) = fz_ x1 x2 x3 x4 x5 m &&& 255) → Iv S sc52 ar52 → Fr [4901, 4908] [67] sc ar sc52 ar52 → ag_To X d an_X10_feed (23, [(0, .ref 49), (1, .int x1), (2, .int x2), (3, .int x3), (4, .int x4), (5, .int x5), (6, .int 2)], [], gh S a b sc52 ar52 lo, ex, 0, 0) (qi S a b lo ex (fun x sc' ar' => Iv S sc' ar' ∧ Fr [4901, 4908] [67] sc ar sc' ar' ∧ (fe_P 4908 x sc sc' ∧ ((x = -1 ∧ ar' 67 = ar 67) ∨ ∃ s : Nat, sc 4908 = nI s ∧ s + 20 ≤ 400 ∧ (∀ t, t < s → ar' 67 t = ar 67 t) ∧ ∀ m, m < 20 → ar' 67 (s + m) = fz_ x1 x2 x3 x4 x5 m &&& 255)))) := by
    intro tp sc52 ar52 hc23_0 hc23_1 hc23_2 hc23_3 hc23_4 hI52 hF52
    refine to_n 10 (fr' := (79, [(0, .ref 49), (1, .int x1), (2, .int x2), (3, .int x3), (4, .int x4), (5, .int x5), (6, .int 2), (7, .int x1)], [.ref 49], gh S a b sc52 ar52 lo, ex, 0, 0)) rfl ?_
    refine to_get rfl rfl rfl rfl ?_
    refine to_n 1 (fr' := (83, [(0, .ref 49), (1, .int x1), (2, .int x2), (3, .int x3), (4, .int x4), (5, .int x5), (6, .int 2), (7, .int x1)], [.ref 49, .ref 67], gh S a b sc52 ar52 lo, ex, 0, 0)) rfl ?_
    refine to_getR (v := (nI tp)) rfl rfl rfl rfl hc23_0 ?_
    refine to_n 11 (fr' := (103, [(0, .ref 49), (1, .int x1), (2, .int x2), (3, .int x3), (4, .int x4), (5, .int x5), (6, .int 2), (7, .int x1)], [.int ((x1 >>> (8 &&& 31)) &&& 255), .int (nI tp), .ref 67], gh S a b sc52 ar52 lo, ex, 0, 0)) rfl ?_
    refine to_iasR (i := tp) (h' := gh S a b sc52 (uA ar52 67 (upd (ar52 67) tp ((x1 >>> (8 &&& 31)) &&& 255))) lo) rfl rfl (by omega) (by omega) rfl ?_
    have hI53 := ia_67 (g := (upd (ar52 67) tp ((x1 >>> (8 &&& 31)) &&& 255))) hI52
    have hF53 := fr_a (c := 67) (g := (upd (ar52 67) tp ((x1 >>> (8 &&& 31)) &&& 255))) hF52 (by decide)
    refine to_n 2 (fr' := (106, [(0, .ref 49), (1, .int x1), (2, .int x2), (3, .int x3), (4, .int x4), (5, .int x5), (6, .int 2), (7, .int x1)], [.ref 49, .ref 49], gh S a b sc52 (uA ar52 67 (upd (ar52 67) tp ((x1 >>> (8 &&& 31)) &&& 255))) lo, ex, 0, 0)) rfl ?_
    refine to_getR (v := (nI tp)) rfl rfl rfl rfl hc23_0 ?_
    refine to_n 1 (fr' := (110, [(0, .ref 49), (1, .int x1), (2, .int x2), (3, .int x3), (4, .int x4), (5, .int x5), (6, .int 2), (7, .int x1)], [.int 1, .int (nI tp), .ref 49], gh S a b sc52 (uA ar52 67 (upd (ar52 67) tp ((x1 >>> (8 &&& 31)) &&& 255))) lo, ex, 0, 0)) rfl ?_
    refine to_addN (x := tp) (y := 1) rfl ?_
    refine to_putR (h' := gh S a b (upd sc52 4908 (nI (tp + 1))) (uA ar52 67 (upd (ar52 67) tp ((x1 >>> (8 &&& 31)) &&& 255))) lo) rfl rfl rfl (Nat.le_of_ble_eq_true rfl) rfl rfl ?_
    have hI54 := ip_4908 (v := (nI (tp + 1))) hI53 (rl_n (n := (tp + 1)) (by omega))
    have hF54 := fr_s (k := 4908) (v := (nI (tp + 1))) hF53 (by decide)
    refine to_n 2 (fr' := (23, [(0, .ref 49), (1, .int x1), (2, .int x2), (3, .int x3), (4, .int x4), (5, .int x5), (6, .int 3), (7, .int x1)], [], gh S a b (upd sc52 4908 (nI (tp + 1))) (uA ar52 67 (upd (ar52 67) tp ((x1 >>> (8 &&& 31)) &&& 255))) lo, ex, 0, 0)) rfl ?_
    refine to_lv (lv := [(0, .ref 49), (1, .int x1), (2, .int x2), (3, .int x3), (4, .int x4), (5, .int x5), (6, .int 3)]) rfl ⟨rfl, rfl, rfl, rfl, rfl, rfl, rfl, trivial⟩ ?_
    exact c23_3 (tp + 1) (upd sc52 4908 (nI (tp + 1))) (uA ar52 67 (upd (ar52 67) tp ((x1 >>> (8 &&& 31)) &&& 255))) (rfl) (by omega) (by omega) (fun t ht => (show (upd (ar52 67) tp ((x1 >>> (8 &&& 31)) &&& 255)) t = _ from ug_ne (by omega)).trans (hc23_3 t ht)) (al_up (P := fun m => (uA ar52 67 (upd (ar52 67) tp ((x1 >>> (8 &&& 31)) &&& 255))) 67 (t0 + m) = fz_ x1 x2 x3 x4 x5 m &&& 255) (fun m hm => (show (upd (ar52 67) tp ((x1 >>> (8 &&& 31)) &&& 255)) (t0 + m) = _ from ug_ne (by omega)).trans (hc23_4 m hm)) (show (upd (ar52 67) tp ((x1 >>> (8 &&& 31)) &&& 255)) (t0 + 2) = _ from by rw [← hc23_1]; exact ug_eq)) hI54 hF54
  have c23_1 : ∀ (tp : Nat) (sc55 : Nat → Int32) (ar55 : Nat → Nat → Int32), sc55 4908 = nI tp → tp = t0 + 1 → t0 + 20 ≤ 400 → (∀ t, t < t0 → ar55 67 t = ar 67 t) → (∀ m, m < 1 → ar55 67 (t0 + m) = fz_ x1 x2 x3 x4 x5 m &&& 255) → Iv S sc55 ar55 → Fr [4901, 4908] [67] sc ar sc55 ar55 → ag_To X d an_X10_feed (23, [(0, .ref 49), (1, .int x1), (2, .int x2), (3, .int x3), (4, .int x4), (5, .int x5), (6, .int 1)], [], gh S a b sc55 ar55 lo, ex, 0, 0) (qi S a b lo ex (fun x sc' ar' => Iv S sc' ar' ∧ Fr [4901, 4908] [67] sc ar sc' ar' ∧ (fe_P 4908 x sc sc' ∧ ((x = -1 ∧ ar' 67 = ar 67) ∨ ∃ s : Nat, sc 4908 = nI s ∧ s + 20 ≤ 400 ∧ (∀ t, t < s → ar' 67 t = ar 67 t) ∧ ∀ m, m < 20 → ar' 67 (s + m) = fz_ x1 x2 x3 x4 x5 m &&& 255)))) := by
    intro tp sc55 ar55 hc23_0 hc23_1 hc23_2 hc23_3 hc23_4 hI55 hF55
    refine to_n 10 (fr' := (79, [(0, .ref 49), (1, .int x1), (2, .int x2), (3, .int x3), (4, .int x4), (5, .int x5), (6, .int 1), (7, .int x1)], [.ref 49], gh S a b sc55 ar55 lo, ex, 0, 0)) rfl ?_
    refine to_get rfl rfl rfl rfl ?_
    refine to_n 1 (fr' := (83, [(0, .ref 49), (1, .int x1), (2, .int x2), (3, .int x3), (4, .int x4), (5, .int x5), (6, .int 1), (7, .int x1)], [.ref 49, .ref 67], gh S a b sc55 ar55 lo, ex, 0, 0)) rfl ?_
    refine to_getR (v := (nI tp)) rfl rfl rfl rfl hc23_0 ?_
    refine to_n 11 (fr' := (103, [(0, .ref 49), (1, .int x1), (2, .int x2), (3, .int x3), (4, .int x4), (5, .int x5), (6, .int 1), (7, .int x1)], [.int ((x1 >>> (16 &&& 31)) &&& 255), .int (nI tp), .ref 67], gh S a b sc55 ar55 lo, ex, 0, 0)) rfl ?_
    refine to_iasR (i := tp) (h' := gh S a b sc55 (uA ar55 67 (upd (ar55 67) tp ((x1 >>> (16 &&& 31)) &&& 255))) lo) rfl rfl (by omega) (by omega) rfl ?_
    have hI56 := ia_67 (g := (upd (ar55 67) tp ((x1 >>> (16 &&& 31)) &&& 255))) hI55
    have hF56 := fr_a (c := 67) (g := (upd (ar55 67) tp ((x1 >>> (16 &&& 31)) &&& 255))) hF55 (by decide)
    refine to_n 2 (fr' := (106, [(0, .ref 49), (1, .int x1), (2, .int x2), (3, .int x3), (4, .int x4), (5, .int x5), (6, .int 1), (7, .int x1)], [.ref 49, .ref 49], gh S a b sc55 (uA ar55 67 (upd (ar55 67) tp ((x1 >>> (16 &&& 31)) &&& 255))) lo, ex, 0, 0)) rfl ?_
    refine to_getR (v := (nI tp)) rfl rfl rfl rfl hc23_0 ?_
    refine to_n 1 (fr' := (110, [(0, .ref 49), (1, .int x1), (2, .int x2), (3, .int x3), (4, .int x4), (5, .int x5), (6, .int 1), (7, .int x1)], [.int 1, .int (nI tp), .ref 49], gh S a b sc55 (uA ar55 67 (upd (ar55 67) tp ((x1 >>> (16 &&& 31)) &&& 255))) lo, ex, 0, 0)) rfl ?_
    refine to_addN (x := tp) (y := 1) rfl ?_
    refine to_putR (h' := gh S a b (upd sc55 4908 (nI (tp + 1))) (uA ar55 67 (upd (ar55 67) tp ((x1 >>> (16 &&& 31)) &&& 255))) lo) rfl rfl rfl (Nat.le_of_ble_eq_true rfl) rfl rfl ?_
    have hI57 := ip_4908 (v := (nI (tp + 1))) hI56 (rl_n (n := (tp + 1)) (by omega))
    have hF57 := fr_s (k := 4908) (v := (nI (tp + 1))) hF56 (by decide)
    refine to_n 2 (fr' := (23, [(0, .ref 49), (1, .int x1), (2, .int x2), (3, .int x3), (4, .int x4), (5, .int x5), (6, .int 2), (7, .int x1)], [], gh S a b (upd sc55 4908 (nI (tp + 1))) (uA ar55 67 (upd (ar55 67) tp ((x1 >>> (16 &&& 31)) &&& 255))) lo, ex, 0, 0)) rfl ?_
    refine to_lv (lv := [(0, .ref 49), (1, .int x1), (2, .int x2), (3, .int x3), (4, .int x4), (5, .int x5), (6, .int 2)]) rfl ⟨rfl, rfl, rfl, rfl, rfl, rfl, rfl, trivial⟩ ?_
    exact c23_2 (tp + 1) (upd sc55 4908 (nI (tp + 1))) (uA ar55 67 (upd (ar55 67) tp ((x1 >>> (16 &&& 31)) &&& 255))) (rfl) (by omega) (by omega) (fun t ht => (show (upd (ar55 67) tp ((x1 >>> (16 &&& 31)) &&& 255)) t = _ from ug_ne (by omega)).trans (hc23_3 t ht)) (al_up (P := fun m => (uA ar55 67 (upd (ar55 67) tp ((x1 >>> (16 &&& 31)) &&& 255))) 67 (t0 + m) = fz_ x1 x2 x3 x4 x5 m &&& 255) (fun m hm => (show (upd (ar55 67) tp ((x1 >>> (16 &&& 31)) &&& 255)) (t0 + m) = _ from ug_ne (by omega)).trans (hc23_4 m hm)) (show (upd (ar55 67) tp ((x1 >>> (16 &&& 31)) &&& 255)) (t0 + 1) = _ from by rw [← hc23_1]; exact ug_eq)) hI57 hF57
  refine to_n 2 (fr' := (2, [(0, .ref 49), (1, .int x1), (2, .int x2), (3, .int x3), (4, .int x4), (5, .int x5)], [.int 0, .ref 49], gh S a b sc ar lo, ex, 0, 0)) rfl ?_
  refine to_putR (h' := gh S a b (upd sc 4901 0) ar lo) rfl rfl rfl (Nat.le_of_ble_eq_true rfl) rfl rfl ?_
  have hI58 := ip_4901 (v := 0) hI 
  have hF58 := fr_s (k := 4901) (v := 0) hF (by decide)
  refine to_n 1 (fr' := (6, [(0, .ref 49), (1, .int x1), (2, .int x2), (3, .int x3), (4, .int x4), (5, .int x5)], [.ref 49], gh S a b (upd sc 4901 0) ar lo, ex, 0, 0)) rfl ?_
  refine to_getR (v := (nI t0)) rfl rfl rfl rfl et0 ?_
  refine to_n 1 (fr' := (11, [(0, .ref 49), (1, .int x1), (2, .int x2), (3, .int x3), (4, .int x4), (5, .int x5)], [.int 20, .int (nI t0)], gh S a b (upd sc 4901 0) ar lo, ex, 0, 0)) rfl ?_
  refine to_addN (x := t0) (y := 20) rfl ?_
  refine to_n 1 (fr' := (15, [(0, .ref 49), (1, .int x1), (2, .int x2), (3, .int x3), (4, .int x4), (5, .int x5)], [.int 400, .int (nI (t0 + 20))], gh S a b (upd sc 4901 0) ar lo, ex, 0, 0)) rfl ?_
  refine to_nc_le (t := 20) (x := (t0 + 20)) (y := 400) rfl (by omega) (by omega) (fun q59 => ?_) (fun q59 => ?_)
  · refine to_n 12 (fr' := (79, [(0, .ref 49), (1, .int x1), (2, .int x2), (3, .int x3), (4, .int x4), (5, .int x5), (6, .int 0), (7, .int x1)], [.ref 49], gh S a b (upd sc 4901 0) ar lo, ex, 0, 0)) rfl ?_
    refine to_get rfl rfl rfl rfl ?_
    refine to_n 1 (fr' := (83, [(0, .ref 49), (1, .int x1), (2, .int x2), (3, .int x3), (4, .int x4), (5, .int x5), (6, .int 0), (7, .int x1)], [.ref 49, .ref 67], gh S a b (upd sc 4901 0) ar lo, ex, 0, 0)) rfl ?_
    refine to_getR (v := (nI t0)) rfl rfl rfl rfl et0 ?_
    refine to_n 11 (fr' := (103, [(0, .ref 49), (1, .int x1), (2, .int x2), (3, .int x3), (4, .int x4), (5, .int x5), (6, .int 0), (7, .int x1)], [.int ((x1 >>> (24 &&& 31)) &&& 255), .int (nI t0), .ref 67], gh S a b (upd sc 4901 0) ar lo, ex, 0, 0)) rfl ?_
    refine to_iasR (i := t0) (h' := gh S a b (upd sc 4901 0) (uA ar 67 (upd (ar 67) t0 ((x1 >>> (24 &&& 31)) &&& 255))) lo) rfl rfl (by omega) (by omega) rfl ?_
    have hI60 := ia_67 (g := (upd (ar 67) t0 ((x1 >>> (24 &&& 31)) &&& 255))) hI58
    have hF60 := fr_a (c := 67) (g := (upd (ar 67) t0 ((x1 >>> (24 &&& 31)) &&& 255))) hF58 (by decide)
    refine to_n 2 (fr' := (106, [(0, .ref 49), (1, .int x1), (2, .int x2), (3, .int x3), (4, .int x4), (5, .int x5), (6, .int 0), (7, .int x1)], [.ref 49, .ref 49], gh S a b (upd sc 4901 0) (uA ar 67 (upd (ar 67) t0 ((x1 >>> (24 &&& 31)) &&& 255))) lo, ex, 0, 0)) rfl ?_
    refine to_getR (v := (nI t0)) rfl rfl rfl rfl et0 ?_
    refine to_n 1 (fr' := (110, [(0, .ref 49), (1, .int x1), (2, .int x2), (3, .int x3), (4, .int x4), (5, .int x5), (6, .int 0), (7, .int x1)], [.int 1, .int (nI t0), .ref 49], gh S a b (upd sc 4901 0) (uA ar 67 (upd (ar 67) t0 ((x1 >>> (24 &&& 31)) &&& 255))) lo, ex, 0, 0)) rfl ?_
    refine to_addN (x := t0) (y := 1) rfl ?_
    refine to_putR (h' := gh S a b (upd (upd sc 4901 0) 4908 (nI (t0 + 1))) (uA ar 67 (upd (ar 67) t0 ((x1 >>> (24 &&& 31)) &&& 255))) lo) rfl rfl rfl (Nat.le_of_ble_eq_true rfl) rfl rfl ?_
    have hI61 := ip_4908 (v := (nI (t0 + 1))) hI60 (rl_n (n := (t0 + 1)) (by omega))
    have hF61 := fr_s (k := 4908) (v := (nI (t0 + 1))) hF60 (by decide)
    refine to_n 2 (fr' := (23, [(0, .ref 49), (1, .int x1), (2, .int x2), (3, .int x3), (4, .int x4), (5, .int x5), (6, .int 1), (7, .int x1)], [], gh S a b (upd (upd sc 4901 0) 4908 (nI (t0 + 1))) (uA ar 67 (upd (ar 67) t0 ((x1 >>> (24 &&& 31)) &&& 255))) lo, ex, 0, 0)) rfl ?_
    refine to_lv (lv := [(0, .ref 49), (1, .int x1), (2, .int x2), (3, .int x3), (4, .int x4), (5, .int x5), (6, .int 1)]) rfl ⟨rfl, rfl, rfl, rfl, rfl, rfl, rfl, trivial⟩ ?_
    exact c23_1 (t0 + 1) (upd (upd sc 4901 0) 4908 (nI (t0 + 1))) (uA ar 67 (upd (ar 67) t0 ((x1 >>> (24 &&& 31)) &&& 255))) (rfl) (by omega) (by omega) (fun t ht => (show (upd (ar 67) t0 ((x1 >>> (24 &&& 31)) &&& 255)) t = _ from ug_ne (by omega))) (al_up (P := fun m => (uA ar 67 (upd (ar 67) t0 ((x1 >>> (24 &&& 31)) &&& 255))) 67 (t0 + m) = fz_ x1 x2 x3 x4 x5 m &&& 255) (fun m hm => absurd hm (Nat.not_lt_zero _)) (show (upd (ar 67) t0 ((x1 >>> (24 &&& 31)) &&& 255)) (t0 + 0) = _ from ug_eq)) hI61 hF61
  · refine to_n 1 (fr' := (19, [(0, .ref 49), (1, .int x1), (2, .int x2), (3, .int x3), (4, .int x4), (5, .int x5)], [.int (-1)], gh S a b (upd sc 4901 0) ar lo, ex, 0, 0)) rfl ?_
    exact to_rt (i := .ireturn) (tg := []) rfl rfl ⟨_, _, _, ⟨hI58, hF58, ⟨⟨t0, by omega, et0, Or.inr ⟨by omega, rfl, rfl⟩⟩, Or.inl ⟨rfl, rfl⟩⟩⟩, rfl⟩
set_option maxRecDepth 20000 in
theorem sf_X10_light {X : Nat × (Nat → Int32)} {S a b : Nat} {sc : Nat → Int32} {ar : Nat → Nat → Int32} {lo : Nat → Int64} {ex : Bool} (hW : Wd S a b) (hI : Iv S sc ar) (x1 : Int32) (hL : Lw sc ar) (d : Nat)  : ci X S a b (d + 7) 143 [.ref 49, .int x1] sc ar lo ex (fun x sc' ar' => Iv S sc' ar' ∧ Fr [4901, 4943] [51, 62, 66, 72] sc ar sc' ar' ∧ True) := by
  obtain ⟨ha1, ha8, hb1, hb8, hab, hS1, hS⟩ := id hW
  refine ci_of (M := an_X10_light) rfl (Nat.le_of_ble_eq_true rfl) ?_
  have hF : Fr [4901, 4943] [51, 62, 66, 72] sc ar sc ar := fr_0
  refine to_eq (fr' := (0, [(0, .ref 49), (1, .int x1)], [], gh S a b sc ar lo, ex, 0, 0)) rfl ?_
  have c51 : ∀ m : Nat, ∀ (k1 : Nat) (y : Int32) (i : Nat) (sc1 : Nat → Int32) (ar1 : Nat → Nat → Int32), 9 ≤ i + m → k1 < S → i ≤ 9 → Iv S sc1 ar1 → Fr [4901, 4943] [51, 62, 66, 72] sc ar sc1 ar1 → ag_To X (d + 6) an_X10_light (51, [(0, .ref 49), (1, .int (nI k1)), (2, .int y), (3, .int (nI i))], [], gh S a b sc1 ar1 lo, ex, 0, 0) (qi S a b lo ex (fun x sc' ar' => Iv S sc' ar' ∧ Fr [4901, 4943] [51, 62, 66, 72] sc ar sc' ar' ∧ True)) := by
    intro m
    induction m with
    | zero =>
      intro k1 y i sc1 ar1 hm hc51_0 hc51_1 hI1 hF1
      refine to_n 2 (fr' := (53, [(0, .ref 49), (1, .int (nI k1)), (2, .int y), (3, .int (nI i))], [.ref 49, .int (nI i)], gh S a b sc1 ar1 lo, ex, 0, 0)) rfl ?_
      obtain ⟨n2, hn2, e2⟩ := iv_s4906 hI1
      refine to_getR (v := (nI n2)) rfl rfl rfl rfl e2 ?_
      refine to_nc_ge_T (t := 83) (x := i) (y := n2) rfl (by omega) (by omega) (by omega) ?_
      refine to_n 1 (fr' := (84, [(0, .ref 49), (1, .int (nI k1)), (2, .int y), (3, .int (nI i))], [.int y], gh S a b sc1 ar1 lo, ex, 0, 0)) rfl ?_
      exact to_rt (i := .ireturn) (tg := []) rfl rfl ⟨_, _, _, ⟨hI1, hF1, trivial⟩, rfl⟩
    | succ m ih =>
      intro k1 y i sc1 ar1 hm hc51_0 hc51_1 hI1 hF1
      refine to_n 2 (fr' := (53, [(0, .ref 49), (1, .int (nI k1)), (2, .int y), (3, .int (nI i))], [.ref 49, .int (nI i)], gh S a b sc1 ar1 lo, ex, 0, 0)) rfl ?_
      obtain ⟨n3, hn3, e3⟩ := iv_s4906 hI1
      refine to_getR (v := (nI n3)) rfl rfl rfl rfl e3 ?_
      refine to_nc_ge (t := 83) (x := i) (y := n3) rfl (by omega) (by omega) (fun q4 => ?_) (fun q4 => ?_)
      · refine to_n 1 (fr' := (84, [(0, .ref 49), (1, .int (nI k1)), (2, .int y), (3, .int (nI i))], [.int y], gh S a b sc1 ar1 lo, ex, 0, 0)) rfl ?_
        exact to_rt (i := .ireturn) (tg := []) rfl rfl ⟨_, _, _, ⟨hI1, hF1, trivial⟩, rfl⟩
      · refine to_n 2 (fr' := (61, [(0, .ref 49), (1, .int (nI k1)), (2, .int y), (3, .int (nI i))], [.ref 49, .int y], gh S a b sc1 ar1 lo, ex, 0, 0)) rfl ?_
        refine to_get rfl rfl rfl rfl ?_
        refine to_n 1 (fr' := (65, [(0, .ref 49), (1, .int (nI k1)), (2, .int y), (3, .int (nI i))], [.int (nI i), .ref 62, .int y], gh S a b sc1 ar1 lo, ex, 0, 0)) rfl ?_
        rcases iv_a62 hI1 i with e5 | ⟨n5, hn5, e5⟩
        · refine to_ialR (i := i) (v := (-1)) rfl (by decide) rfl (by omega) (by omega) e5 ?_
          refine to_n 1 (fr' := (67, [(0, .ref 49), (1, .int (nI k1)), (2, .int y), (3, .int (nI i))], [.int (nI k1), .int (-1), .int y], gh S a b sc1 ar1 lo, ex, 0, 0)) rfl ?_
          refine to_ic_ne_T (t := 74) (x := (-1)) (y := (nI k1)) rfl (fun w => nI_neg (n := k1) (x := (-1)) (by omega) (by decide) w.symm) ?_
          refine to_n 4 (fr' := (80, [(0, .ref 49), (1, .int (nI k1)), (2, .int (y + 0)), (3, .int ((nI i) + 1))], [], gh S a b sc1 ar1 lo, ex, 0, 0)) rfl ?_
          rw [nI_1 i]
          refine to_n 1 (fr' := (51, [(0, .ref 49), (1, .int (nI k1)), (2, .int (y + 0)), (3, .int (nI (i + 1)))], [], gh S a b sc1 ar1 lo, ex, 0, 0)) rfl ?_
          exact ih k1 (y + 0) (i + 1) sc1 ar1 (by omega) (by omega) (by omega) hI1 hF1
        · refine to_ialR (i := i) (v := (nI n5)) rfl (by decide) rfl (by omega) (by omega) e5 ?_
          refine to_n 1 (fr' := (67, [(0, .ref 49), (1, .int (nI k1)), (2, .int y), (3, .int (nI i))], [.int (nI k1), .int (nI n5), .int y], gh S a b sc1 ar1 lo, ex, 0, 0)) rfl ?_
          refine to_nc_ne (t := 74) (x := n5) (y := k1) rfl (by omega) (by omega) (fun q6 => ?_) (fun q6 => ?_)
          · refine to_n 4 (fr' := (80, [(0, .ref 49), (1, .int (nI k1)), (2, .int (y + 0)), (3, .int ((nI i) + 1))], [], gh S a b sc1 ar1 lo, ex, 0, 0)) rfl ?_
            rw [nI_1 i]
            refine to_n 1 (fr' := (51, [(0, .ref 49), (1, .int (nI k1)), (2, .int (y + 0)), (3, .int (nI (i + 1)))], [], gh S a b sc1 ar1 lo, ex, 0, 0)) rfl ?_
            exact ih k1 (y + 0) (i + 1) sc1 ar1 (by omega) (by omega) (by omega) hI1 hF1
          · refine to_n 5 (fr' := (80, [(0, .ref 49), (1, .int (nI k1)), (2, .int (y + 1)), (3, .int ((nI i) + 1))], [], gh S a b sc1 ar1 lo, ex, 0, 0)) rfl ?_
            rw [nI_1 i]
            refine to_n 1 (fr' := (51, [(0, .ref 49), (1, .int (nI k1)), (2, .int (y + 1)), (3, .int (nI (i + 1)))], [], gh S a b sc1 ar1 lo, ex, 0, 0)) rfl ?_
            exact ih k1 (y + 1) (i + 1) sc1 ar1 (by omega) (by omega) (by omega) hI1 hF1
  refine to_n 2 (fr' := (2, [(0, .ref 49), (1, .int x1)], [.int 0, .ref 49], gh S a b sc ar lo, ex, 0, 0)) rfl ?_
  refine to_putR (h' := gh S a b (upd sc 4901 0) ar lo) rfl rfl rfl (Nat.le_of_ble_eq_true rfl) rfl rfl ?_
  have hI7 := ip_4901 (v := 0) hI 
  have hF7 := fr_s (k := 4901) (v := 0) hF (by decide)
  refine to_n 2 (fr' := (7, [(0, .ref 49), (1, .int x1)], [.int x1, .ref 49], gh S a b (upd sc 4901 0) ar lo, ex, 0, 0)) rfl ?_
  rcases has_or (x := x1) (B := S) (by omega) with ⟨n8, hn8, e8⟩ | w8
  · rw [e8]
    refine to_cp (q := 109) (M1 := an_X10_isCell) (rest := []) rfl rfl (by decide) rfl ⟨_, rfl⟩ (mc_isCell_1 (n := n8) hW (by omega) (d + 5)) (fun x8 hx8 => ?_)
    obtain rfl := hx8
    refine to_eq (fr' := (10, [(0, .ref 49), (1, .int (nI n8))], [.int 1], gh S a b (upd sc 4901 0) ar lo, ex, 0, 0)) rfl ?_
    refine to_n 2 (fr' := (19, [(0, .ref 49), (1, .int (nI n8))], [.ref 49], gh S a b (upd sc 4901 0) ar lo, ex, 0, 0)) rfl ?_
    refine to_get rfl rfl rfl rfl ?_
    refine to_n 1 (fr' := (23, [(0, .ref 49), (1, .int (nI n8))], [.int (nI n8), .ref 51], gh S a b (upd sc 4901 0) ar lo, ex, 0, 0)) rfl ?_
    refine to_ialR (i := n8) (v := ((ar 51) n8)) rfl (by decide) rfl (by omega) (by omega) rfl ?_
    refine to_if_eq (t := 29) rfl (fun q9 => ?_) (fun q9 => ?_)
    · refine to_n 1 (fr' := (30, [(0, .ref 49), (1, .int (nI n8))], [.ref 49], gh S a b (upd sc 4901 0) ar lo, ex, 0, 0)) rfl ?_
      refine to_get rfl rfl rfl rfl ?_
      refine to_n 2 (fr' := (35, [(0, .ref 49), (1, .int (nI n8))], [.int 1, .int (nI n8), .ref 51], gh S a b (upd sc 4901 0) ar lo, ex, 0, 0)) rfl ?_
      refine to_iasR (i := n8) (h' := gh S a b (upd sc 4901 0) (uA ar 51 (upd (ar 51) n8 1)) lo) rfl rfl (by omega) (by omega) rfl ?_
      have hI10 := ia_51 (g := (upd (ar 51) n8 1)) hI7
      have hF10 := fr_a (c := 51) (g := (upd (ar 51) n8 1)) hF7 (by decide)
      refine to_n 3 (fr' := (39, [(0, .ref 49), (1, .int (nI n8))], [.int 1, .int (nI n8), .ref 49], gh S a b (upd sc 4901 0) (uA ar 51 (upd (ar 51) n8 1)) lo, ex, 0, 0)) rfl ?_
      refine to_cv (q := 141) (M1 := an_X10_noGoal) (rest := []) rfl rfl (by decide) rfl ⟨_, rfl⟩ (sf_X10_noGoal hW hI10 (nI n8) 1 (d + 5)) (fun sc11 ar11 hx11 => ?_)
      obtain ⟨hI11, hG11⟩ := hx11
      have hF11 := fr_t hF10 hG11 (by decide) (by decide)
      refine to_eq (fr' := (42, [(0, .ref 49), (1, .int (nI n8))], [], gh S a b sc11 ar11 lo, ex, 0, 0)) rfl ?_
      refine to_n 2 (fr' := (44, [(0, .ref 49), (1, .int (nI n8))], [.int (nI n8), .ref 49], gh S a b sc11 ar11 lo, ex, 0, 0)) rfl ?_
      refine to_cv (q := 142) (M1 := an_X10_ring) (rest := []) rfl rfl (by decide) rfl ⟨_, rfl⟩ (sf_X10_ring hW hI11 n8 (by omega) (lw_fr hL hF11 (by decide) (by decide) (by decide) (by decide)) d) (fun sc12 ar12 hx12 => ?_)
      obtain ⟨hI12, hG12⟩ := hx12
      have hF12 := fr_t hF11 hG12 (by decide) (by decide)
      refine to_eq (fr' := (47, [(0, .ref 49), (1, .int (nI n8))], [], gh S a b sc12 ar12 lo, ex, 0, 0)) rfl ?_
      refine to_n 4 (fr' := (51, [(0, .ref 49), (1, .int (nI n8)), (2, .int 0), (3, .int 0)], [], gh S a b sc12 ar12 lo, ex, 0, 0)) rfl ?_
      exact c51 (9 - 0) n8 0 0 sc12 ar12 (by omega) (by omega) (by omega) hI12 hF12
    · refine to_n 1 (fr' := (28, [(0, .ref 49), (1, .int (nI n8))], [.int (-1)], gh S a b (upd sc 4901 0) ar lo, ex, 0, 0)) rfl ?_
      exact to_rt (i := .ireturn) (tg := []) rfl rfl ⟨_, _, _, ⟨hI7, hF7, trivial⟩, rfl⟩
  · refine to_cp (q := 109) (M1 := an_X10_isCell) (rest := []) rfl rfl (by decide) rfl ⟨_, rfl⟩ (mc_isCell_0 hW w8 (d + 5)) (fun x8 hx8 => ?_)
    obtain rfl := hx8
    refine to_eq (fr' := (10, [(0, .ref 49), (1, .int x1)], [.int 0], gh S a b (upd sc 4901 0) ar lo, ex, 0, 0)) rfl ?_
    refine to_n 2 (fr' := (14, [(0, .ref 49), (1, .int x1)], [.ref 49], gh S a b (upd sc 4901 0) ar lo, ex, 0, 0)) rfl ?_
    refine to_ci (q := 108) (M1 := an_X10_fail) (rest := []) rfl rfl (by decide) rfl ⟨_, rfl⟩ (sf_X10_fail hW hI7  (d + 5)) (fun x13 sc13 ar13 hx13 => ?_)
    obtain ⟨hI13, hG13, hx13⟩ := hx13
    have hF13 := fr_t hF7 hG13 (by decide) (by decide)
    have hp13 := hx13
    refine to_eq (fr' := (17, [(0, .ref 49), (1, .int x1)], [.int x13], gh S a b sc13 ar13 lo, ex, 0, 0)) rfl ?_
    exact to_rt (i := .ireturn) (tg := []) rfl rfl ⟨_, _, _, ⟨hI13, hF13, trivial⟩, rfl⟩
set_option maxRecDepth 20000 in
theorem sf_X10_aim {X : Nat × (Nat → Int32)} {S a b : Nat} {sc : Nat → Int32} {ar : Nat → Nat → Int32} {lo : Nat → Int64} {ex : Bool} (hW : Wd S a b) (hI : Iv S sc ar) (x1 : Int32) (x2 : Int32) (k3 : Nat) (hk3 : k3 < 2) (d : Nat)  : ci X S a b (d + 2) 144 [.ref 49, .int x1, .int x2, .int (nI k3)] sc ar lo ex (fun x sc' ar' => Iv S sc' ar' ∧ Fr [4901] [57, 62, 66] sc ar sc' ar' ∧ rl x 2) := by
  obtain ⟨ha1, ha8, hb1, hb8, hab, hS1, hS⟩ := id hW
  refine ci_of (M := an_X10_aim) rfl (Nat.le_of_ble_eq_true rfl) ?_
  have hF : Fr [4901] [57, 62, 66] sc ar sc ar := fr_0
  refine to_eq (fr' := (0, [(0, .ref 49), (1, .int x1), (2, .int x2), (3, .int (nI k3))], [], gh S a b sc ar lo, ex, 0, 0)) rfl ?_
  have c71 : ∀ m : Nat, ∀ (c1 : Nat) (k1 : Nat) (i : Nat) (sc1 : Nat → Int32) (ar1 : Nat → Nat → Int32), i + m = 64 → c1 < 8 → k1 < S → Iv S sc1 ar1 → Fr [4901] [57, 62, 66] sc ar sc1 ar1 → ag_To X (d + 1) an_X10_aim (71, [(0, .ref 49), (1, .int (nI c1)), (2, .int (nI k1)), (3, .int (nI k3)), (4, .int (nI i))], [], gh S a b sc1 ar1 lo, ex, 0, 0) (qi S a b lo ex (fun x sc' ar' => Iv S sc' ar' ∧ Fr [4901] [57, 62, 66] sc ar sc' ar' ∧ rl x 2)) := by
    intro m
    induction m with
    | zero =>
      intro c1 k1 i sc1 ar1 hm hc71_0 hc71_1 hI1 hF1
      refine to_n 2 (fr' := (75, [(0, .ref 49), (1, .int (nI c1)), (2, .int (nI k1)), (3, .int (nI k3)), (4, .int (nI i))], [.int 64, .int (nI i)], gh S a b sc1 ar1 lo, ex, 0, 0)) rfl ?_
      refine to_nc_ge_T (t := 103) (x := i) (y := 64) rfl (by omega) (by omega) (by omega) ?_
      refine to_n 1 (fr' := (104, [(0, .ref 49), (1, .int (nI c1)), (2, .int (nI k1)), (3, .int (nI k3)), (4, .int (nI i))], [.ref 49], gh S a b sc1 ar1 lo, ex, 0, 0)) rfl ?_
      refine to_get rfl rfl rfl rfl ?_
      refine to_n 2 (fr' := (109, [(0, .ref 49), (1, .int (nI c1)), (2, .int (nI k1)), (3, .int (nI k3)), (4, .int (nI i))], [.int (nI k1), .int (nI c1), .ref 62], gh S a b sc1 ar1 lo, ex, 0, 0)) rfl ?_
      refine to_iasR (i := c1) (h' := gh S a b sc1 (uA ar1 62 (upd (ar1 62) c1 (nI k1))) lo) rfl rfl (by omega) (by omega) rfl ?_
      have hI2 := ia_62 (i := c1) (v := (nI k1)) hI1 (rq_n (n := k1) (by omega))
      have hF2 := fr_a (c := 62) (g := (upd (ar1 62) c1 (nI k1))) hF1 (by decide)
      refine to_n 1 (fr' := (111, [(0, .ref 49), (1, .int (nI c1)), (2, .int (nI k1)), (3, .int (nI k3)), (4, .int (nI i))], [.ref 49], gh S a b sc1 (uA ar1 62 (upd (ar1 62) c1 (nI k1))) lo, ex, 0, 0)) rfl ?_
      refine to_get rfl rfl rfl rfl ?_
      refine to_n 2 (fr' := (116, [(0, .ref 49), (1, .int (nI c1)), (2, .int (nI k1)), (3, .int (nI k3)), (4, .int (nI i))], [.int (nI k3), .int (nI c1), .ref 66], gh S a b sc1 (uA ar1 62 (upd (ar1 62) c1 (nI k1))) lo, ex, 0, 0)) rfl ?_
      refine to_zasR (i := c1) (h' := gh S a b sc1 (uA (uA ar1 62 (upd (ar1 62) c1 (nI k1))) 66 (upd ((uA ar1 62 (upd (ar1 62) c1 (nI k1))) 66) c1 (vp_nar .boolean (nI k3)))) lo) rfl rfl (by omega) (by omega) rfl ?_
      have hI3 := ia_66 (g := (upd ((uA ar1 62 (upd (ar1 62) c1 (nI k1))) 66) c1 (vp_nar .boolean (nI k3)))) hI2
      have hF3 := fr_a (c := 66) (g := (upd ((uA ar1 62 (upd (ar1 62) c1 (nI k1))) 66) c1 (vp_nar .boolean (nI k3)))) hF2 (by decide)
      refine to_n 1 (fr' := (118, [(0, .ref 49), (1, .int (nI c1)), (2, .int (nI k1)), (3, .int (nI k3)), (4, .int (nI i))], [.int 1], gh S a b sc1 (uA (uA ar1 62 (upd (ar1 62) c1 (nI k1))) 66 (upd ((uA ar1 62 (upd (ar1 62) c1 (nI k1))) 66) c1 (vp_nar .boolean (nI k3)))) lo, ex, 0, 0)) rfl ?_
      exact to_rt (i := .ireturn) (tg := []) rfl rfl ⟨_, _, _, ⟨hI3, hF3, rl_n (n := 1) (by omega)⟩, rfl⟩
    | succ m ih =>
      intro c1 k1 i sc1 ar1 hm hc71_0 hc71_1 hI1 hF1
      refine to_n 2 (fr' := (75, [(0, .ref 49), (1, .int (nI c1)), (2, .int (nI k1)), (3, .int (nI k3)), (4, .int (nI i))], [.int 64, .int (nI i)], gh S a b sc1 ar1 lo, ex, 0, 0)) rfl ?_
      refine to_nc_ge_F (t := 103) (x := i) (y := 64) rfl (by omega) (by omega) (by omega) ?_
      refine to_n 1 (fr' := (79, [(0, .ref 49), (1, .int (nI c1)), (2, .int (nI k1)), (3, .int (nI k3)), (4, .int (nI i))], [.ref 49], gh S a b sc1 ar1 lo, ex, 0, 0)) rfl ?_
      refine to_get rfl rfl rfl rfl ?_
      refine to_n 1 (fr' := (84, [(0, .ref 49), (1, .int (nI c1)), (2, .int (nI k1)), (3, .int (nI k3)), (4, .int (nI i))], [.int (nI i), .ref 57], gh S a b sc1 ar1 lo, ex, 0, 0)) rfl ?_
      rcases iv_a57 hI1 i with e4 | ⟨n4, hn4, e4⟩
      · refine to_ialR (i := i) (v := (-1)) rfl (by decide) rfl (by omega) (by omega) e4 ?_
        refine to_n 1 (fr' := (86, [(0, .ref 49), (1, .int (nI c1)), (2, .int (nI k1)), (3, .int (nI k3)), (4, .int (nI i))], [.int (nI c1), .int (-1)], gh S a b sc1 ar1 lo, ex, 0, 0)) rfl ?_
        refine to_ic_ne_T (t := 97) (x := (-1)) (y := (nI c1)) rfl (fun w => nI_neg (n := c1) (x := (-1)) (by omega) (by decide) w.symm) ?_
        refine to_n 1 (fr' := (100, [(0, .ref 49), (1, .int (nI c1)), (2, .int (nI k1)), (3, .int (nI k3)), (4, .int ((nI i) + 1))], [], gh S a b sc1 ar1 lo, ex, 0, 0)) rfl ?_
        rw [nI_1 i]
        refine to_n 1 (fr' := (71, [(0, .ref 49), (1, .int (nI c1)), (2, .int (nI k1)), (3, .int (nI k3)), (4, .int (nI (i + 1)))], [], gh S a b sc1 ar1 lo, ex, 0, 0)) rfl ?_
        exact ih c1 k1 (i + 1) sc1 ar1 (by omega) (by omega) (by omega) hI1 hF1
      · refine to_ialR (i := i) (v := (nI n4)) rfl (by decide) rfl (by omega) (by omega) e4 ?_
        refine to_n 1 (fr' := (86, [(0, .ref 49), (1, .int (nI c1)), (2, .int (nI k1)), (3, .int (nI k3)), (4, .int (nI i))], [.int (nI c1), .int (nI n4)], gh S a b sc1 ar1 lo, ex, 0, 0)) rfl ?_
        refine to_nc_ne (t := 97) (x := n4) (y := c1) rfl (by omega) (by omega) (fun q5 => ?_) (fun q5 => ?_)
        · refine to_n 1 (fr' := (100, [(0, .ref 49), (1, .int (nI c1)), (2, .int (nI k1)), (3, .int (nI k3)), (4, .int ((nI i) + 1))], [], gh S a b sc1 ar1 lo, ex, 0, 0)) rfl ?_
          rw [nI_1 i]
          refine to_n 1 (fr' := (71, [(0, .ref 49), (1, .int (nI c1)), (2, .int (nI k1)), (3, .int (nI k3)), (4, .int (nI (i + 1)))], [], gh S a b sc1 ar1 lo, ex, 0, 0)) rfl ?_
          exact ih c1 k1 (i + 1) sc1 ar1 (by omega) (by omega) (by omega) hI1 hF1
        · refine to_n 1 (fr' := (90, [(0, .ref 49), (1, .int (nI c1)), (2, .int (nI k1)), (3, .int (nI k3)), (4, .int (nI i))], [.ref 49], gh S a b sc1 ar1 lo, ex, 0, 0)) rfl ?_
          refine to_get rfl rfl rfl rfl ?_
          refine to_n 2 (fr' := (96, [(0, .ref 49), (1, .int (nI c1)), (2, .int (nI k1)), (3, .int (nI k3)), (4, .int (nI i))], [.int (-1), .int (nI i), .ref 57], gh S a b sc1 ar1 lo, ex, 0, 0)) rfl ?_
          refine to_iasR (i := i) (h' := gh S a b sc1 (uA ar1 57 (upd (ar1 57) i (-1))) lo) rfl rfl (by omega) (by omega) rfl ?_
          have hI6 := ia_57 (i := i) (v := (-1)) hI1 (rq_m)
          have hF6 := fr_a (c := 57) (g := (upd (ar1 57) i (-1))) hF1 (by decide)
          refine to_n 1 (fr' := (100, [(0, .ref 49), (1, .int (nI c1)), (2, .int (nI k1)), (3, .int (nI k3)), (4, .int ((nI i) + 1))], [], gh S a b sc1 (uA ar1 57 (upd (ar1 57) i (-1))) lo, ex, 0, 0)) rfl ?_
          rw [nI_1 i]
          refine to_n 1 (fr' := (71, [(0, .ref 49), (1, .int (nI c1)), (2, .int (nI k1)), (3, .int (nI k3)), (4, .int (nI (i + 1)))], [], gh S a b sc1 (uA ar1 57 (upd (ar1 57) i (-1))) lo, ex, 0, 0)) rfl ?_
          exact ih c1 k1 (i + 1) sc1 (uA ar1 57 (upd (ar1 57) i (-1))) (by omega) (by omega) (by omega) hI6 hF6
  refine to_n 2 (fr' := (2, [(0, .ref 49), (1, .int x1), (2, .int x2), (3, .int (nI k3))], [.int 0, .ref 49], gh S a b sc ar lo, ex, 0, 0)) rfl ?_
  refine to_putR (h' := gh S a b (upd sc 4901 0) ar lo) rfl rfl rfl (Nat.le_of_ble_eq_true rfl) rfl rfl ?_
  have hI7 := ip_4901 (v := 0) hI 
  have hF7 := fr_s (k := 4901) (v := 0) hF (by decide)
  refine to_n 2 (fr' := (7, [(0, .ref 49), (1, .int x1), (2, .int x2), (3, .int (nI k3))], [.int x1, .ref 49], gh S a b (upd sc 4901 0) ar lo, ex, 0, 0)) rfl ?_
  obtain ⟨n8, hn8, e8⟩ := iv_s4906 hI7
  rcases has_or (x := x1) (B := n8) (by omega) with ⟨n9, hn9, e9⟩ | w9
  · rw [e9]
    refine to_cp (q := 110) (M1 := an_X10_isCompany) (rest := []) rfl rfl (by decide) rfl ⟨_, rfl⟩ (mc_isCompany_1 (n := n9) e8 (by omega) d) (fun x9 hx9 => ?_)
    obtain rfl := hx9
    refine to_eq (fr' := (10, [(0, .ref 49), (1, .int (nI n9)), (2, .int x2), (3, .int (nI k3))], [.int 1], gh S a b (upd sc 4901 0) ar lo, ex, 0, 0)) rfl ?_
    refine to_n 3 (fr' := (15, [(0, .ref 49), (1, .int (nI n9)), (2, .int x2), (3, .int (nI k3))], [.int x2, .ref 49], gh S a b (upd sc 4901 0) ar lo, ex, 0, 0)) rfl ?_
    rcases has_or (x := x2) (B := S) (by omega) with ⟨n10, hn10, e10⟩ | w10
    · rw [e10]
      refine to_cp (q := 109) (M1 := an_X10_isCell) (rest := []) rfl rfl (by decide) rfl ⟨_, rfl⟩ (mc_isCell_1 (n := n10) hW (by omega) d) (fun x10 hx10 => ?_)
      obtain rfl := hx10
      refine to_eq (fr' := (18, [(0, .ref 49), (1, .int (nI n9)), (2, .int (nI n10)), (3, .int (nI k3))], [.int 1], gh S a b (upd sc 4901 0) ar lo, ex, 0, 0)) rfl ?_
      refine to_n 2 (fr' := (29, [(0, .ref 49), (1, .int (nI n9)), (2, .int (nI n10)), (3, .int (nI k3))], [.ref 49], gh S a b (upd sc 4901 0) ar lo, ex, 0, 0)) rfl ?_
      refine to_get rfl rfl rfl rfl ?_
      refine to_n 1 (fr' := (33, [(0, .ref 49), (1, .int (nI n9)), (2, .int (nI n10)), (3, .int (nI k3))], [.int (nI n10), .ref 51], gh S a b (upd sc 4901 0) ar lo, ex, 0, 0)) rfl ?_
      refine to_ialR (i := n10) (v := ((ar 51) n10)) rfl (by decide) rfl (by omega) (by omega) rfl ?_
      refine to_n 1 (fr' := (35, [(0, .ref 49), (1, .int (nI n9)), (2, .int (nI n10)), (3, .int (nI k3))], [.int (nI k3), .int ((ar 51) n10)], gh S a b (upd sc 4901 0) ar lo, ex, 0, 0)) rfl ?_
      refine to_nf_eq (t := 42) (x := k3) rfl (by omega) (fun q11 => ?_) (fun q11 => ?_)
      · refine to_n 1 (fr' := (43, [(0, .ref 49), (1, .int (nI n9)), (2, .int (nI n10)), (3, .int (nI k3))], [.int 1, .int ((ar 51) n10)], gh S a b (upd sc 4901 0) ar lo, ex, 0, 0)) rfl ?_
        refine to_ic_ne (t := 66) rfl (fun q12 => ?_) (fun q12 => ?_)
        · refine to_n 1 (fr' := (67, [(0, .ref 49), (1, .int (nI n9)), (2, .int (nI n10)), (3, .int (nI k3))], [.int 0], gh S a b (upd sc 4901 0) ar lo, ex, 0, 0)) rfl ?_
          exact to_rt (i := .ireturn) (tg := []) rfl rfl ⟨_, _, _, ⟨hI7, hF7, rl_n (n := 0) (by omega)⟩, rfl⟩
        · refine to_n 1 (fr' := (47, [(0, .ref 49), (1, .int (nI n9)), (2, .int (nI n10)), (3, .int (nI k3))], [.ref 49], gh S a b (upd sc 4901 0) ar lo, ex, 0, 0)) rfl ?_
          refine to_get rfl rfl rfl rfl ?_
          refine to_n 1 (fr' := (51, [(0, .ref 49), (1, .int (nI n9)), (2, .int (nI n10)), (3, .int (nI k3))], [.int (nI n9), .ref 62], gh S a b (upd sc 4901 0) ar lo, ex, 0, 0)) rfl ?_
          rcases iv_a62 hI7 n9 with e13 | ⟨n13, hn13, e13⟩
          · refine to_ialR (i := n9) (v := (-1)) rfl (by decide) rfl (by omega) (by omega) e13 ?_
            refine to_n 1 (fr' := (53, [(0, .ref 49), (1, .int (nI n9)), (2, .int (nI n10)), (3, .int (nI k3))], [.int (nI n10), .int (-1)], gh S a b (upd sc 4901 0) ar lo, ex, 0, 0)) rfl ?_
            refine to_ic_ne_T (t := 68) (x := (-1)) (y := (nI n10)) rfl (fun w => nI_neg (n := n10) (x := (-1)) (by omega) (by decide) w.symm) ?_
            refine to_n 2 (fr' := (71, [(0, .ref 49), (1, .int (nI n9)), (2, .int (nI n10)), (3, .int (nI k3)), (4, .int 0)], [], gh S a b (upd sc 4901 0) ar lo, ex, 0, 0)) rfl ?_
            exact c71 (64 - 0) n9 n10 0 (upd sc 4901 0) ar (by omega) (by omega) (by omega) hI7 hF7
          · refine to_ialR (i := n9) (v := (nI n13)) rfl (by decide) rfl (by omega) (by omega) e13 ?_
            refine to_n 1 (fr' := (53, [(0, .ref 49), (1, .int (nI n9)), (2, .int (nI n10)), (3, .int (nI k3))], [.int (nI n10), .int (nI n13)], gh S a b (upd sc 4901 0) ar lo, ex, 0, 0)) rfl ?_
            refine to_nc_ne (t := 68) (x := n13) (y := n10) rfl (by omega) (by omega) (fun q14 => ?_) (fun q14 => ?_)
            · refine to_n 2 (fr' := (71, [(0, .ref 49), (1, .int (nI n9)), (2, .int (nI n10)), (3, .int (nI k3)), (4, .int 0)], [], gh S a b (upd sc 4901 0) ar lo, ex, 0, 0)) rfl ?_
              exact c71 (64 - 0) n9 n10 0 (upd sc 4901 0) ar (by omega) (by omega) (by omega) hI7 hF7
            · refine to_n 1 (fr' := (57, [(0, .ref 49), (1, .int (nI n9)), (2, .int (nI n10)), (3, .int (nI k3))], [.ref 49], gh S a b (upd sc 4901 0) ar lo, ex, 0, 0)) rfl ?_
              refine to_get rfl rfl rfl rfl ?_
              refine to_n 1 (fr' := (61, [(0, .ref 49), (1, .int (nI n9)), (2, .int (nI n10)), (3, .int (nI k3))], [.int (nI n9), .ref 66], gh S a b (upd sc 4901 0) ar lo, ex, 0, 0)) rfl ?_
              refine to_zalR (i := n9) (v := ((ar 66) n9)) rfl rfl (by omega) (by omega) rfl ?_
              refine to_n 1 (fr' := (63, [(0, .ref 49), (1, .int (nI n9)), (2, .int (nI n10)), (3, .int (nI k3))], [.int (nI k3), .int ((ar 66) n9)], gh S a b (upd sc 4901 0) ar lo, ex, 0, 0)) rfl ?_
              refine to_ic_ne (t := 68) rfl (fun q15 => ?_) (fun q15 => ?_)
              · refine to_n 2 (fr' := (71, [(0, .ref 49), (1, .int (nI n9)), (2, .int (nI n10)), (3, .int (nI k3)), (4, .int 0)], [], gh S a b (upd sc 4901 0) ar lo, ex, 0, 0)) rfl ?_
                exact c71 (64 - 0) n9 n10 0 (upd sc 4901 0) ar (by omega) (by omega) (by omega) hI7 hF7
              · refine to_n 1 (fr' := (67, [(0, .ref 49), (1, .int (nI n9)), (2, .int (nI n10)), (3, .int (nI k3))], [.int 0], gh S a b (upd sc 4901 0) ar lo, ex, 0, 0)) rfl ?_
                exact to_rt (i := .ireturn) (tg := []) rfl rfl ⟨_, _, _, ⟨hI7, hF7, rl_n (n := 0) (by omega)⟩, rfl⟩
      · refine to_n 2 (fr' := (43, [(0, .ref 49), (1, .int (nI n9)), (2, .int (nI n10)), (3, .int (nI k3))], [.int 0, .int ((ar 51) n10)], gh S a b (upd sc 4901 0) ar lo, ex, 0, 0)) rfl ?_
        refine to_ic_ne (t := 66) rfl (fun q16 => ?_) (fun q16 => ?_)
        · refine to_n 1 (fr' := (67, [(0, .ref 49), (1, .int (nI n9)), (2, .int (nI n10)), (3, .int (nI k3))], [.int 0], gh S a b (upd sc 4901 0) ar lo, ex, 0, 0)) rfl ?_
          exact to_rt (i := .ireturn) (tg := []) rfl rfl ⟨_, _, _, ⟨hI7, hF7, rl_n (n := 0) (by omega)⟩, rfl⟩
        · refine to_n 1 (fr' := (47, [(0, .ref 49), (1, .int (nI n9)), (2, .int (nI n10)), (3, .int (nI k3))], [.ref 49], gh S a b (upd sc 4901 0) ar lo, ex, 0, 0)) rfl ?_
          refine to_get rfl rfl rfl rfl ?_
          refine to_n 1 (fr' := (51, [(0, .ref 49), (1, .int (nI n9)), (2, .int (nI n10)), (3, .int (nI k3))], [.int (nI n9), .ref 62], gh S a b (upd sc 4901 0) ar lo, ex, 0, 0)) rfl ?_
          rcases iv_a62 hI7 n9 with e17 | ⟨n17, hn17, e17⟩
          · refine to_ialR (i := n9) (v := (-1)) rfl (by decide) rfl (by omega) (by omega) e17 ?_
            refine to_n 1 (fr' := (53, [(0, .ref 49), (1, .int (nI n9)), (2, .int (nI n10)), (3, .int (nI k3))], [.int (nI n10), .int (-1)], gh S a b (upd sc 4901 0) ar lo, ex, 0, 0)) rfl ?_
            refine to_ic_ne_T (t := 68) (x := (-1)) (y := (nI n10)) rfl (fun w => nI_neg (n := n10) (x := (-1)) (by omega) (by decide) w.symm) ?_
            refine to_n 2 (fr' := (71, [(0, .ref 49), (1, .int (nI n9)), (2, .int (nI n10)), (3, .int (nI k3)), (4, .int 0)], [], gh S a b (upd sc 4901 0) ar lo, ex, 0, 0)) rfl ?_
            exact c71 (64 - 0) n9 n10 0 (upd sc 4901 0) ar (by omega) (by omega) (by omega) hI7 hF7
          · refine to_ialR (i := n9) (v := (nI n17)) rfl (by decide) rfl (by omega) (by omega) e17 ?_
            refine to_n 1 (fr' := (53, [(0, .ref 49), (1, .int (nI n9)), (2, .int (nI n10)), (3, .int (nI k3))], [.int (nI n10), .int (nI n17)], gh S a b (upd sc 4901 0) ar lo, ex, 0, 0)) rfl ?_
            refine to_nc_ne (t := 68) (x := n17) (y := n10) rfl (by omega) (by omega) (fun q18 => ?_) (fun q18 => ?_)
            · refine to_n 2 (fr' := (71, [(0, .ref 49), (1, .int (nI n9)), (2, .int (nI n10)), (3, .int (nI k3)), (4, .int 0)], [], gh S a b (upd sc 4901 0) ar lo, ex, 0, 0)) rfl ?_
              exact c71 (64 - 0) n9 n10 0 (upd sc 4901 0) ar (by omega) (by omega) (by omega) hI7 hF7
            · refine to_n 1 (fr' := (57, [(0, .ref 49), (1, .int (nI n9)), (2, .int (nI n10)), (3, .int (nI k3))], [.ref 49], gh S a b (upd sc 4901 0) ar lo, ex, 0, 0)) rfl ?_
              refine to_get rfl rfl rfl rfl ?_
              refine to_n 1 (fr' := (61, [(0, .ref 49), (1, .int (nI n9)), (2, .int (nI n10)), (3, .int (nI k3))], [.int (nI n9), .ref 66], gh S a b (upd sc 4901 0) ar lo, ex, 0, 0)) rfl ?_
              refine to_zalR (i := n9) (v := ((ar 66) n9)) rfl rfl (by omega) (by omega) rfl ?_
              refine to_n 1 (fr' := (63, [(0, .ref 49), (1, .int (nI n9)), (2, .int (nI n10)), (3, .int (nI k3))], [.int (nI k3), .int ((ar 66) n9)], gh S a b (upd sc 4901 0) ar lo, ex, 0, 0)) rfl ?_
              refine to_ic_ne (t := 68) rfl (fun q19 => ?_) (fun q19 => ?_)
              · refine to_n 2 (fr' := (71, [(0, .ref 49), (1, .int (nI n9)), (2, .int (nI n10)), (3, .int (nI k3)), (4, .int 0)], [], gh S a b (upd sc 4901 0) ar lo, ex, 0, 0)) rfl ?_
                exact c71 (64 - 0) n9 n10 0 (upd sc 4901 0) ar (by omega) (by omega) (by omega) hI7 hF7
              · refine to_n 1 (fr' := (67, [(0, .ref 49), (1, .int (nI n9)), (2, .int (nI n10)), (3, .int (nI k3))], [.int 0], gh S a b (upd sc 4901 0) ar lo, ex, 0, 0)) rfl ?_
                exact to_rt (i := .ireturn) (tg := []) rfl rfl ⟨_, _, _, ⟨hI7, hF7, rl_n (n := 0) (by omega)⟩, rfl⟩
    · refine to_cp (q := 109) (M1 := an_X10_isCell) (rest := []) rfl rfl (by decide) rfl ⟨_, rfl⟩ (mc_isCell_0 hW w10 d) (fun x10 hx10 => ?_)
      obtain rfl := hx10
      refine to_eq (fr' := (18, [(0, .ref 49), (1, .int (nI n9)), (2, .int x2), (3, .int (nI k3))], [.int 0], gh S a b (upd sc 4901 0) ar lo, ex, 0, 0)) rfl ?_
      refine to_n 2 (fr' := (22, [(0, .ref 49), (1, .int (nI n9)), (2, .int x2), (3, .int (nI k3))], [.ref 49], gh S a b (upd sc 4901 0) ar lo, ex, 0, 0)) rfl ?_
      refine to_ci (q := 108) (M1 := an_X10_fail) (rest := []) rfl rfl (by decide) rfl ⟨_, rfl⟩ (sf_X10_fail hW hI7  d) (fun x20 sc20 ar20 hx20 => ?_)
      obtain ⟨hI20, hG20, hx20⟩ := hx20
      have hF20 := fr_t hF7 hG20 (by decide) (by decide)
      have hp20 := hx20
      refine to_eq (fr' := (25, [(0, .ref 49), (1, .int (nI n9)), (2, .int x2), (3, .int (nI k3))], [.int x20], gh S a b sc20 ar20 lo, ex, 0, 0)) rfl ?_
      refine to_n 2 (fr' := (27, [(0, .ref 49), (1, .int (nI n9)), (2, .int x2), (3, .int (nI k3))], [.int 0], gh S a b sc20 ar20 lo, ex, 0, 0)) rfl ?_
      exact to_rt (i := .ireturn) (tg := []) rfl rfl ⟨_, _, _, ⟨hI20, hF20, rl_n (n := 0) (by omega)⟩, rfl⟩
  · refine to_cp (q := 110) (M1 := an_X10_isCompany) (rest := []) rfl rfl (by decide) rfl ⟨_, rfl⟩ (mc_isCompany_0 e8 w9 d) (fun x9 hx9 => ?_)
    obtain rfl := hx9
    refine to_eq (fr' := (10, [(0, .ref 49), (1, .int x1), (2, .int x2), (3, .int (nI k3))], [.int 0], gh S a b (upd sc 4901 0) ar lo, ex, 0, 0)) rfl ?_
    refine to_n 2 (fr' := (22, [(0, .ref 49), (1, .int x1), (2, .int x2), (3, .int (nI k3))], [.ref 49], gh S a b (upd sc 4901 0) ar lo, ex, 0, 0)) rfl ?_
    refine to_ci (q := 108) (M1 := an_X10_fail) (rest := []) rfl rfl (by decide) rfl ⟨_, rfl⟩ (sf_X10_fail hW hI7  d) (fun x21 sc21 ar21 hx21 => ?_)
    obtain ⟨hI21, hG21, hx21⟩ := hx21
    have hF21 := fr_t hF7 hG21 (by decide) (by decide)
    have hp21 := hx21
    refine to_eq (fr' := (25, [(0, .ref 49), (1, .int x1), (2, .int x2), (3, .int (nI k3))], [.int x21], gh S a b sc21 ar21 lo, ex, 0, 0)) rfl ?_
    refine to_n 2 (fr' := (27, [(0, .ref 49), (1, .int x1), (2, .int x2), (3, .int (nI k3))], [.int 0], gh S a b sc21 ar21 lo, ex, 0, 0)) rfl ?_
    exact to_rt (i := .ireturn) (tg := []) rfl rfl ⟨_, _, _, ⟨hI21, hF21, rl_n (n := 0) (by omega)⟩, rfl⟩
set_option maxRecDepth 20000 in
theorem sf_X10_send {X : Nat × (Nat → Int32)} {S a b : Nat} {sc : Nat → Int32} {ar : Nat → Nat → Int32} {lo : Nat → Int64} {ex : Bool} (hW : Wd S a b) (hI : Iv S sc ar) (x1 : Int32) (x2 : Int32) (d : Nat)  : ci X S a b (d + 3) 145 [.ref 49, .int x1, .int x2] sc ar lo ex (fun x sc' ar' => Iv S sc' ar' ∧ Fr [4901] [57, 62, 66] sc ar sc' ar' ∧ rl x 2) := by
  obtain ⟨ha1, ha8, hb1, hb8, hab, hS1, hS⟩ := id hW
  refine ci_of (M := an_X10_send) rfl (Nat.le_of_ble_eq_true rfl) ?_
  have hF : Fr [4901] [57, 62, 66] sc ar sc ar := fr_0
  refine to_eq (fr' := (0, [(0, .ref 49), (1, .int x1), (2, .int x2)], [], gh S a b sc ar lo, ex, 0, 0)) rfl ?_
  refine to_n 4 (fr' := (4, [(0, .ref 49), (1, .int x1), (2, .int x2)], [.int 0, .int x2, .int x1, .ref 49], gh S a b sc ar lo, ex, 0, 0)) rfl ?_
  refine to_ci (q := 144) (M1 := an_X10_aim) (rest := []) rfl rfl (by decide) rfl ⟨_, rfl⟩ (sf_X10_aim hW hI x1 x2 0 (by omega) d) (fun x1 sc1 ar1 hx1 => ?_)
  obtain ⟨hI1, hG1, hx1⟩ := hx1
  have hF1 := fr_t hF hG1 (by decide) (by decide)
  obtain ⟨n1, hn1, rfl⟩ := hx1
  refine to_eq (fr' := (7, [(0, .ref 49), (1, .int x1), (2, .int x2)], [.int (nI n1)], gh S a b sc1 ar1 lo, ex, 0, 0)) rfl ?_
  exact to_rt (i := .ireturn) (tg := []) rfl (ai_rtz (rl_n (n := n1) (by omega))) ⟨_, _, _, ⟨hI1, hF1, rl_n (n := n1) (by omega)⟩, rfl⟩
set_option maxRecDepth 20000 in
theorem sf_X10_pull {X : Nat × (Nat → Int32)} {S a b : Nat} {sc : Nat → Int32} {ar : Nat → Nat → Int32} {lo : Nat → Int64} {ex : Bool} (hW : Wd S a b) (hI : Iv S sc ar) (x1 : Int32) (x2 : Int32) (d : Nat)  : ci X S a b (d + 3) 146 [.ref 49, .int x1, .int x2] sc ar lo ex (fun x sc' ar' => Iv S sc' ar' ∧ Fr [4901] [57, 62, 66] sc ar sc' ar' ∧ rl x 2) := by
  obtain ⟨ha1, ha8, hb1, hb8, hab, hS1, hS⟩ := id hW
  refine ci_of (M := an_X10_pull) rfl (Nat.le_of_ble_eq_true rfl) ?_
  have hF : Fr [4901] [57, 62, 66] sc ar sc ar := fr_0
  refine to_eq (fr' := (0, [(0, .ref 49), (1, .int x1), (2, .int x2)], [], gh S a b sc ar lo, ex, 0, 0)) rfl ?_
  refine to_n 4 (fr' := (4, [(0, .ref 49), (1, .int x1), (2, .int x2)], [.int 1, .int x2, .int x1, .ref 49], gh S a b sc ar lo, ex, 0, 0)) rfl ?_
  refine to_ci (q := 144) (M1 := an_X10_aim) (rest := []) rfl rfl (by decide) rfl ⟨_, rfl⟩ (sf_X10_aim hW hI x1 x2 1 (by omega) d) (fun x1 sc1 ar1 hx1 => ?_)
  obtain ⟨hI1, hG1, hx1⟩ := hx1
  have hF1 := fr_t hF hG1 (by decide) (by decide)
  obtain ⟨n1, hn1, rfl⟩ := hx1
  refine to_eq (fr' := (7, [(0, .ref 49), (1, .int x1), (2, .int x2)], [.int (nI n1)], gh S a b sc1 ar1 lo, ex, 0, 0)) rfl ?_
  exact to_rt (i := .ireturn) (tg := []) rfl (ai_rtz (rl_n (n := n1) (by omega))) ⟨_, _, _, ⟨hI1, hF1, rl_n (n := n1) (by omega)⟩, rfl⟩
set_option maxRecDepth 20000 in
theorem sf_X10_hours {X : Nat × (Nat → Int32)} {S a b : Nat} {sc : Nat → Int32} {ar : Nat → Nat → Int32} {lo : Nat → Int64} {ex : Bool} (hW : Wd S a b) (hI : Iv S sc ar) (x1 : Int32) (hL : Lw sc ar) (d : Nat)  : ci X S a b (d + 7) 156 [.ref 49, .int x1] sc ar lo ex (fun x sc' ar' => Iv S sc' ar' ∧ Fr [4901, 4904, 4910, 4943] [51, 54, 55, 56, 57, 61, 62, 63, 64, 65, 66, 72, 74, 75, 76] sc ar sc' ar' ∧ ((∃ h n : Nat, sc 4904 = nI h ∧ x1 = nI n ∧ n ≤ 100 ∧ h + n ≤ 2400 ∧ x = nI (h + n) ∧ sc' 4904 = nI (h + n) ∧ sc' 4901 = 0) ∨ ((∀ h n : Nat, sc 4904 = nI h → x1 = nI n → n ≤ 100 → h + n ≤ 2400 → False) ∧ sc' 4904 = sc 4904 ∧ sc' 4901 = 1))) := by
  obtain ⟨ha1, ha8, hb1, hb8, hab, hS1, hS⟩ := id hW
  obtain ⟨h0, hh0, eh0⟩ := iv_s4904 hI
  refine ci_of (M := an_X10_hours) rfl (Nat.le_of_ble_eq_true rfl) ?_
  have hF : Fr [4901, 4904, 4910, 4943] [51, 54, 55, 56, 57, 61, 62, 63, 64, 65, 66, 72, 74, 75, 76] sc ar sc ar := fr_0
  refine to_eq (fr' := (0, [(0, .ref 49), (1, .int x1)], [], gh S a b sc ar lo, ex, 0, 0)) rfl ?_
  have c44 : ∀ m : Nat, ∀ (nn : Nat) (h : Nat) (nw : Nat) (sc1 : Nat → Int32) (ar1 : Nat → Nat → Int32), 100 ≤ h + m → sc1 4904 = nI nw → h ≤ nn → nn ≤ 100 → h0 + nn ≤ 2400 → nw = h0 + h → x1 = nI nn → h ≤ 100 → sc1 4901 = 0 → Iv S sc1 ar1 → Fr [4901, 4904, 4910, 4943] [51, 54, 55, 56, 57, 61, 62, 63, 64, 65, 66, 72, 74, 75, 76] sc ar sc1 ar1 → ag_To X (d + 6) an_X10_hours (44, [(0, .ref 49), (1, .int (nI nn)), (2, .int (nI S)), (3, .int (nI h))], [], gh S a b sc1 ar1 lo, ex, 0, 0) (qi S a b lo ex (fun x sc' ar' => Iv S sc' ar' ∧ Fr [4901, 4904, 4910, 4943] [51, 54, 55, 56, 57, 61, 62, 63, 64, 65, 66, 72, 74, 75, 76] sc ar sc' ar' ∧ ((∃ h n : Nat, sc 4904 = nI h ∧ x1 = nI n ∧ n ≤ 100 ∧ h + n ≤ 2400 ∧ x = nI (h + n) ∧ sc' 4904 = nI (h + n) ∧ sc' 4901 = 0) ∨ ((∀ h n : Nat, sc 4904 = nI h → x1 = nI n → n ≤ 100 → h + n ≤ 2400 → False) ∧ sc' 4904 = sc 4904 ∧ sc' 4901 = 1)))) := by
    intro m
    induction m with
    | zero =>
      intro nn h nw sc1 ar1 hm hc44_0 hc44_1 hc44_2 hc44_3 hc44_4 hc44_5 hc44_6 hc44_7 hI1 hF1
      refine to_n 2 (fr' := (46, [(0, .ref 49), (1, .int (nI nn)), (2, .int (nI S)), (3, .int (nI h))], [.int (nI nn), .int (nI h)], gh S a b sc1 ar1 lo, ex, 0, 0)) rfl ?_
      refine to_nc_ge_T (t := 216) (x := h) (y := nn) rfl (by omega) (by omega) (by omega) ?_
      refine to_n 1 (fr' := (217, [(0, .ref 49), (1, .int (nI nn)), (2, .int (nI S)), (3, .int (nI h))], [.ref 49], gh S a b sc1 ar1 lo, ex, 0, 0)) rfl ?_
      refine to_getR (v := (nI nw)) rfl rfl rfl rfl hc44_0 ?_
      exact to_rt (i := .ireturn) (tg := []) rfl rfl ⟨_, _, _, ⟨hI1, hF1, (Or.inl ⟨h0, nn, eh0, hc44_5, by omega, by omega, by rw [show h0 + nn = nw by omega], by rw [show h0 + nn = nw by omega]; exact hc44_0, hc44_7⟩)⟩, rfl⟩
    | succ m ih =>
      intro nn h nw sc1 ar1 hm hc44_0 hc44_1 hc44_2 hc44_3 hc44_4 hc44_5 hc44_6 hc44_7 hI1 hF1
      have c172 : ∀ m : Nat, ∀ (i : Nat) (sc2 : Nat → Int32) (ar2 : Nat → Nat → Int32), i + m = S → sc2 4904 = nI nw → h < nn → sc2 4901 = 0 → Iv S sc2 ar2 → Fr [4901, 4904, 4910, 4943] [51, 54, 55, 56, 57, 61, 62, 63, 64, 65, 66, 72, 74, 75, 76] sc ar sc2 ar2 → ag_To X (d + 6) an_X10_hours (172, [(0, .ref 49), (1, .int (nI nn)), (2, .int (nI S)), (3, .int (nI h)), (4, .int (nI i))], [], gh S a b sc2 ar2 lo, ex, 0, 0) (qi S a b lo ex (fun x sc' ar' => Iv S sc' ar' ∧ Fr [4901, 4904, 4910, 4943] [51, 54, 55, 56, 57, 61, 62, 63, 64, 65, 66, 72, 74, 75, 76] sc ar sc' ar' ∧ ((∃ h n : Nat, sc 4904 = nI h ∧ x1 = nI n ∧ n ≤ 100 ∧ h + n ≤ 2400 ∧ x = nI (h + n) ∧ sc' 4904 = nI (h + n) ∧ sc' 4901 = 0) ∨ ((∀ h n : Nat, sc 4904 = nI h → x1 = nI n → n ≤ 100 → h + n ≤ 2400 → False) ∧ sc' 4904 = sc 4904 ∧ sc' 4901 = 1)))) := by
        intro m
        induction m with
        | zero =>
          intro i sc2 ar2 hm hc172_0 hc172_1 hc172_2 hI2 hF2
          refine to_n 2 (fr' := (175, [(0, .ref 49), (1, .int (nI nn)), (2, .int (nI S)), (3, .int (nI h)), (4, .int (nI i))], [.int (nI S), .int (nI i)], gh S a b sc2 ar2 lo, ex, 0, 0)) rfl ?_
          refine to_nc_ge_T (t := 200) (x := i) (y := S) rfl (by omega) (by omega) (by omega) ?_
          refine to_n 2 (fr' := (202, [(0, .ref 49), (1, .int (nI nn)), (2, .int (nI S)), (3, .int (nI h)), (4, .int (nI i))], [.ref 49, .ref 49], gh S a b sc2 ar2 lo, ex, 0, 0)) rfl ?_
          refine to_getR (v := (nI nw)) rfl rfl rfl rfl hc172_0 ?_
          refine to_n 1 (fr' := (206, [(0, .ref 49), (1, .int (nI nn)), (2, .int (nI S)), (3, .int (nI h)), (4, .int (nI i))], [.int 1, .int (nI nw), .ref 49], gh S a b sc2 ar2 lo, ex, 0, 0)) rfl ?_
          refine to_addN (x := nw) (y := 1) rfl ?_
          refine to_putR (h' := gh S a b (upd sc2 4904 (nI (nw + 1))) ar2 lo) rfl rfl rfl (Nat.le_of_ble_eq_true rfl) rfl rfl ?_
          have hI3 := ip_4904 (v := (nI (nw + 1))) hI2 (rl_n (n := (nw + 1)) (by omega))
          have hF3 := fr_s (k := 4904) (v := (nI (nw + 1))) hF2 (by decide)
          refine to_n 1 (fr' := (213, [(0, .ref 49), (1, .int (nI nn)), (2, .int (nI S)), (3, .int ((nI h) + 1)), (4, .int (nI i))], [], gh S a b (upd sc2 4904 (nI (nw + 1))) ar2 lo, ex, 0, 0)) rfl ?_
          rw [nI_1 h]
          refine to_n 1 (fr' := (44, [(0, .ref 49), (1, .int (nI nn)), (2, .int (nI S)), (3, .int (nI (h + 1))), (4, .int (nI i))], [], gh S a b (upd sc2 4904 (nI (nw + 1))) ar2 lo, ex, 0, 0)) rfl ?_
          refine to_lv (lv := [(0, .ref 49), (1, .int (nI nn)), (2, .int (nI S)), (3, .int (nI (h + 1)))]) rfl ⟨rfl, rfl, rfl, rfl, trivial⟩ ?_
          exact ih nn (h + 1) (nw + 1) (upd sc2 4904 (nI (nw + 1))) ar2 (by omega) (rfl) (by omega) (by omega) (by omega) (by omega) hc44_5 (by omega) (hc172_2) hI3 hF3
        | succ m ih =>
          intro i sc2 ar2 hm hc172_0 hc172_1 hc172_2 hI2 hF2
          refine to_n 2 (fr' := (175, [(0, .ref 49), (1, .int (nI nn)), (2, .int (nI S)), (3, .int (nI h)), (4, .int (nI i))], [.int (nI S), .int (nI i)], gh S a b sc2 ar2 lo, ex, 0, 0)) rfl ?_
          refine to_nc_ge_F (t := 200) (x := i) (y := S) rfl (by omega) (by omega) (by omega) ?_
          refine to_n 1 (fr' := (179, [(0, .ref 49), (1, .int (nI nn)), (2, .int (nI S)), (3, .int (nI h)), (4, .int (nI i))], [.ref 49], gh S a b sc2 ar2 lo, ex, 0, 0)) rfl ?_
          refine to_get rfl rfl rfl rfl ?_
          refine to_n 1 (fr' := (184, [(0, .ref 49), (1, .int (nI nn)), (2, .int (nI S)), (3, .int (nI h)), (4, .int (nI i))], [.int (nI i), .ref 76], gh S a b sc2 ar2 lo, ex, 0, 0)) rfl ?_
          refine to_zalR (i := i) (v := ((ar2 76) i)) rfl rfl (by omega) (by omega) rfl ?_
          refine to_if_eq (t := 194) rfl (fun q4 => ?_) (fun q4 => ?_)
          · refine to_n 1 (fr' := (197, [(0, .ref 49), (1, .int (nI nn)), (2, .int (nI S)), (3, .int (nI h)), (4, .int ((nI i) + 1))], [], gh S a b sc2 ar2 lo, ex, 0, 0)) rfl ?_
            rw [nI_1 i]
            refine to_n 1 (fr' := (172, [(0, .ref 49), (1, .int (nI nn)), (2, .int (nI S)), (3, .int (nI h)), (4, .int (nI (i + 1)))], [], gh S a b sc2 ar2 lo, ex, 0, 0)) rfl ?_
            exact ih (i + 1) sc2 ar2 (by omega) (hc172_0) (by omega) (hc172_2) hI2 hF2
          · refine to_n 2 (fr' := (191, [(0, .ref 49), (1, .int (nI nn)), (2, .int (nI S)), (3, .int (nI h)), (4, .int (nI i))], [.int (nI i), .ref 49], gh S a b sc2 ar2 lo, ex, 0, 0)) rfl ?_
            refine to_cv (q := 142) (M1 := an_X10_ring) (rest := []) rfl rfl (by decide) rfl ⟨_, rfl⟩ (sf_X10_ring hW hI2 i (by omega) (lw_fr hL hF2 (by decide) (by decide) (by decide) (by decide)) d) (fun sc5 ar5 hx5 => ?_)
            obtain ⟨hI5, hG5⟩ := hx5
            have hF5 := fr_t hF2 hG5 (by decide) (by decide)
            have k5_4904 : sc5 4904 = (nI nw) := (hG5.1 4904 (by decide)).trans hc172_0
            have k5_4901 : sc5 4901 = 0 := (hG5.1 4901 (by decide)).trans hc172_2
            refine to_eq (fr' := (194, [(0, .ref 49), (1, .int (nI nn)), (2, .int (nI S)), (3, .int (nI h)), (4, .int (nI i))], [], gh S a b sc5 ar5 lo, ex, 0, 0)) rfl ?_
            refine to_n 1 (fr' := (197, [(0, .ref 49), (1, .int (nI nn)), (2, .int (nI S)), (3, .int (nI h)), (4, .int ((nI i) + 1))], [], gh S a b sc5 ar5 lo, ex, 0, 0)) rfl ?_
            rw [nI_1 i]
            refine to_n 1 (fr' := (172, [(0, .ref 49), (1, .int (nI nn)), (2, .int (nI S)), (3, .int (nI h)), (4, .int (nI (i + 1)))], [], gh S a b sc5 ar5 lo, ex, 0, 0)) rfl ?_
            exact ih (i + 1) sc5 ar5 (by omega) (k5_4904) (by omega) (k5_4901) hI5 hF5
      have c140 : ∀ m : Nat, ∀ (i : Nat) (sc6 : Nat → Int32) (ar6 : Nat → Nat → Int32), i + m = S → sc6 4904 = nI nw → h < nn → sc6 4901 = 0 → Iv S sc6 ar6 → Fr [4901, 4904, 4910, 4943] [51, 54, 55, 56, 57, 61, 62, 63, 64, 65, 66, 72, 74, 75, 76] sc ar sc6 ar6 → ag_To X (d + 6) an_X10_hours (140, [(0, .ref 49), (1, .int (nI nn)), (2, .int (nI S)), (3, .int (nI h)), (4, .int (nI i))], [], gh S a b sc6 ar6 lo, ex, 0, 0) (qi S a b lo ex (fun x sc' ar' => Iv S sc' ar' ∧ Fr [4901, 4904, 4910, 4943] [51, 54, 55, 56, 57, 61, 62, 63, 64, 65, 66, 72, 74, 75, 76] sc ar sc' ar' ∧ ((∃ h n : Nat, sc 4904 = nI h ∧ x1 = nI n ∧ n ≤ 100 ∧ h + n ≤ 2400 ∧ x = nI (h + n) ∧ sc' 4904 = nI (h + n) ∧ sc' 4901 = 0) ∨ ((∀ h n : Nat, sc 4904 = nI h → x1 = nI n → n ≤ 100 → h + n ≤ 2400 → False) ∧ sc' 4904 = sc 4904 ∧ sc' 4901 = 1)))) := by
        intro m
        induction m with
        | zero =>
          intro i sc6 ar6 hm hc140_0 hc140_1 hc140_2 hI6 hF6
          refine to_n 2 (fr' := (143, [(0, .ref 49), (1, .int (nI nn)), (2, .int (nI S)), (3, .int (nI h)), (4, .int (nI i))], [.int (nI S), .int (nI i)], gh S a b sc6 ar6 lo, ex, 0, 0)) rfl ?_
          refine to_nc_ge_T (t := 169) (x := i) (y := S) rfl (by omega) (by omega) (by omega) ?_
          refine to_n 2 (fr' := (172, [(0, .ref 49), (1, .int (nI nn)), (2, .int (nI S)), (3, .int (nI h)), (4, .int 0)], [], gh S a b sc6 ar6 lo, ex, 0, 0)) rfl ?_
          exact c172 (S - 0) 0 sc6 ar6 (by omega) (hc140_0) (by omega) (hc140_2) hI6 hF6
        | succ m ih =>
          intro i sc6 ar6 hm hc140_0 hc140_1 hc140_2 hI6 hF6
          refine to_n 2 (fr' := (143, [(0, .ref 49), (1, .int (nI nn)), (2, .int (nI S)), (3, .int (nI h)), (4, .int (nI i))], [.int (nI S), .int (nI i)], gh S a b sc6 ar6 lo, ex, 0, 0)) rfl ?_
          refine to_nc_ge_F (t := 169) (x := i) (y := S) rfl (by omega) (by omega) (by omega) ?_
          refine to_n 1 (fr' := (147, [(0, .ref 49), (1, .int (nI nn)), (2, .int (nI S)), (3, .int (nI h)), (4, .int (nI i))], [.ref 49], gh S a b sc6 ar6 lo, ex, 0, 0)) rfl ?_
          refine to_get rfl rfl rfl rfl ?_
          refine to_n 1 (fr' := (152, [(0, .ref 49), (1, .int (nI nn)), (2, .int (nI S)), (3, .int (nI h)), (4, .int (nI i))], [.int (nI i), .ref 76], gh S a b sc6 ar6 lo, ex, 0, 0)) rfl ?_
          refine to_zalR (i := i) (v := ((ar6 76) i)) rfl rfl (by omega) (by omega) rfl ?_
          refine to_if_eq (t := 163) rfl (fun q7 => ?_) (fun q7 => ?_)
          · refine to_n 1 (fr' := (166, [(0, .ref 49), (1, .int (nI nn)), (2, .int (nI S)), (3, .int (nI h)), (4, .int ((nI i) + 1))], [], gh S a b sc6 ar6 lo, ex, 0, 0)) rfl ?_
            rw [nI_1 i]
            refine to_n 1 (fr' := (140, [(0, .ref 49), (1, .int (nI nn)), (2, .int (nI S)), (3, .int (nI h)), (4, .int (nI (i + 1)))], [], gh S a b sc6 ar6 lo, ex, 0, 0)) rfl ?_
            exact ih (i + 1) sc6 ar6 (by omega) (hc140_0) (by omega) (hc140_2) hI6 hF6
          · refine to_n 3 (fr' := (160, [(0, .ref 49), (1, .int (nI nn)), (2, .int (nI S)), (3, .int (nI h)), (4, .int (nI i))], [.int 1, .int (nI i), .ref 49], gh S a b sc6 ar6 lo, ex, 0, 0)) rfl ?_
            refine to_cv (q := 141) (M1 := an_X10_noGoal) (rest := []) rfl rfl (by decide) rfl ⟨_, rfl⟩ (sf_X10_noGoal hW hI6 (nI i) 1 (d + 5)) (fun sc8 ar8 hx8 => ?_)
            obtain ⟨hI8, hG8⟩ := hx8
            have hF8 := fr_t hF6 hG8 (by decide) (by decide)
            have k8_4904 : sc8 4904 = (nI nw) := (hG8.1 4904 (by decide)).trans hc140_0
            have k8_4901 : sc8 4901 = 0 := (hG8.1 4901 (by decide)).trans hc140_2
            refine to_eq (fr' := (163, [(0, .ref 49), (1, .int (nI nn)), (2, .int (nI S)), (3, .int (nI h)), (4, .int (nI i))], [], gh S a b sc8 ar8 lo, ex, 0, 0)) rfl ?_
            refine to_n 1 (fr' := (166, [(0, .ref 49), (1, .int (nI nn)), (2, .int (nI S)), (3, .int (nI h)), (4, .int ((nI i) + 1))], [], gh S a b sc8 ar8 lo, ex, 0, 0)) rfl ?_
            rw [nI_1 i]
            refine to_n 1 (fr' := (140, [(0, .ref 49), (1, .int (nI nn)), (2, .int (nI S)), (3, .int (nI h)), (4, .int (nI (i + 1)))], [], gh S a b sc8 ar8 lo, ex, 0, 0)) rfl ?_
            exact ih (i + 1) sc8 ar8 (by omega) (k8_4904) (by omega) (k8_4901) hI8 hF8
      have c104 : ∀ m : Nat, ∀ (i : Nat) (sc9 : Nat → Int32) (ar9 : Nat → Nat → Int32), i + m = S → sc9 4904 = nI nw → h < nn → sc9 4901 = 0 → Iv S sc9 ar9 → Fr [4901, 4904, 4910, 4943] [51, 54, 55, 56, 57, 61, 62, 63, 64, 65, 66, 72, 74, 75, 76] sc ar sc9 ar9 → ag_To X (d + 6) an_X10_hours (104, [(0, .ref 49), (1, .int (nI nn)), (2, .int (nI S)), (3, .int (nI h)), (4, .int (nI i))], [], gh S a b sc9 ar9 lo, ex, 0, 0) (qi S a b lo ex (fun x sc' ar' => Iv S sc' ar' ∧ Fr [4901, 4904, 4910, 4943] [51, 54, 55, 56, 57, 61, 62, 63, 64, 65, 66, 72, 74, 75, 76] sc ar sc' ar' ∧ ((∃ h n : Nat, sc 4904 = nI h ∧ x1 = nI n ∧ n ≤ 100 ∧ h + n ≤ 2400 ∧ x = nI (h + n) ∧ sc' 4904 = nI (h + n) ∧ sc' 4901 = 0) ∨ ((∀ h n : Nat, sc 4904 = nI h → x1 = nI n → n ≤ 100 → h + n ≤ 2400 → False) ∧ sc' 4904 = sc 4904 ∧ sc' 4901 = 1)))) := by
        intro m
        induction m with
        | zero =>
          intro i sc9 ar9 hm hc104_0 hc104_1 hc104_2 hI9 hF9
          refine to_n 2 (fr' := (107, [(0, .ref 49), (1, .int (nI nn)), (2, .int (nI S)), (3, .int (nI h)), (4, .int (nI i))], [.int (nI S), .int (nI i)], gh S a b sc9 ar9 lo, ex, 0, 0)) rfl ?_
          refine to_nc_ge_T (t := 133) (x := i) (y := S) rfl (by omega) (by omega) (by omega) ?_
          refine to_n 1 (fr' := (134, [(0, .ref 49), (1, .int (nI nn)), (2, .int (nI S)), (3, .int (nI h)), (4, .int (nI i))], [.ref 49], gh S a b sc9 ar9 lo, ex, 0, 0)) rfl ?_
          refine to_cv (q := 155) (M1 := an_X10_warm) (rest := []) rfl rfl (by decide) rfl ⟨_, rfl⟩ (sf_X10_warm hW hI9  (d + 4)) (fun sc10 ar10 hx10 => ?_)
          obtain ⟨hI10, hG10⟩ := hx10
          have hF10 := fr_t hF9 hG10 (by decide) (by decide)
          have k10_4904 : sc10 4904 = (nI nw) := (hG10.1 4904 (by decide)).trans hc104_0
          have k10_4901 : sc10 4901 = 0 := (hG10.1 4901 (by decide)).trans hc104_2
          refine to_eq (fr' := (137, [(0, .ref 49), (1, .int (nI nn)), (2, .int (nI S)), (3, .int (nI h)), (4, .int (nI i))], [], gh S a b sc10 ar10 lo, ex, 0, 0)) rfl ?_
          refine to_n 2 (fr' := (140, [(0, .ref 49), (1, .int (nI nn)), (2, .int (nI S)), (3, .int (nI h)), (4, .int 0)], [], gh S a b sc10 ar10 lo, ex, 0, 0)) rfl ?_
          exact c140 (S - 0) 0 sc10 ar10 (by omega) (k10_4904) (by omega) (k10_4901) hI10 hF10
        | succ m ih =>
          intro i sc9 ar9 hm hc104_0 hc104_1 hc104_2 hI9 hF9
          refine to_n 2 (fr' := (107, [(0, .ref 49), (1, .int (nI nn)), (2, .int (nI S)), (3, .int (nI h)), (4, .int (nI i))], [.int (nI S), .int (nI i)], gh S a b sc9 ar9 lo, ex, 0, 0)) rfl ?_
          refine to_nc_ge_F (t := 133) (x := i) (y := S) rfl (by omega) (by omega) (by omega) ?_
          refine to_n 1 (fr' := (111, [(0, .ref 49), (1, .int (nI nn)), (2, .int (nI S)), (3, .int (nI h)), (4, .int (nI i))], [.ref 49], gh S a b sc9 ar9 lo, ex, 0, 0)) rfl ?_
          refine to_get rfl rfl rfl rfl ?_
          refine to_n 1 (fr' := (116, [(0, .ref 49), (1, .int (nI nn)), (2, .int (nI S)), (3, .int (nI h)), (4, .int (nI i))], [.int (nI i), .ref 51], gh S a b sc9 ar9 lo, ex, 0, 0)) rfl ?_
          refine to_ialR (i := i) (v := ((ar9 51) i)) rfl (by decide) rfl (by omega) (by omega) rfl ?_
          refine to_n 1 (fr' := (118, [(0, .ref 49), (1, .int (nI nn)), (2, .int (nI S)), (3, .int (nI h)), (4, .int (nI i))], [.int 1, .int ((ar9 51) i)], gh S a b sc9 ar9 lo, ex, 0, 0)) rfl ?_
          refine to_ic_ne (t := 127) rfl (fun q11 => ?_) (fun q11 => ?_)
          · refine to_n 1 (fr' := (130, [(0, .ref 49), (1, .int (nI nn)), (2, .int (nI S)), (3, .int (nI h)), (4, .int ((nI i) + 1))], [], gh S a b sc9 ar9 lo, ex, 0, 0)) rfl ?_
            rw [nI_1 i]
            refine to_n 1 (fr' := (104, [(0, .ref 49), (1, .int (nI nn)), (2, .int (nI S)), (3, .int (nI h)), (4, .int (nI (i + 1)))], [], gh S a b sc9 ar9 lo, ex, 0, 0)) rfl ?_
            exact ih (i + 1) sc9 ar9 (by omega) (hc104_0) (by omega) (hc104_2) hI9 hF9
          · refine to_n 2 (fr' := (124, [(0, .ref 49), (1, .int (nI nn)), (2, .int (nI S)), (3, .int (nI h)), (4, .int (nI i))], [.int (nI i), .ref 49], gh S a b sc9 ar9 lo, ex, 0, 0)) rfl ?_
            refine to_cv (q := 154) (M1 := an_X10_burn) (rest := []) rfl rfl (by decide) rfl ⟨_, rfl⟩ (sf_X10_burn hW hI9 i (by omega) (lw_fr hL hF9 (by decide) (by decide) (by decide) (by decide)) d) (fun sc12 ar12 hx12 => ?_)
            obtain ⟨hI12, hG12⟩ := hx12
            have hF12 := fr_t hF9 hG12 (by decide) (by decide)
            have k12_4904 : sc12 4904 = (nI nw) := (hG12.1 4904 (by decide)).trans hc104_0
            have k12_4901 : sc12 4901 = 0 := (hG12.1 4901 (by decide)).trans hc104_2
            refine to_eq (fr' := (127, [(0, .ref 49), (1, .int (nI nn)), (2, .int (nI S)), (3, .int (nI h)), (4, .int (nI i))], [], gh S a b sc12 ar12 lo, ex, 0, 0)) rfl ?_
            refine to_n 1 (fr' := (130, [(0, .ref 49), (1, .int (nI nn)), (2, .int (nI S)), (3, .int (nI h)), (4, .int ((nI i) + 1))], [], gh S a b sc12 ar12 lo, ex, 0, 0)) rfl ?_
            rw [nI_1 i]
            refine to_n 1 (fr' := (104, [(0, .ref 49), (1, .int (nI nn)), (2, .int (nI S)), (3, .int (nI h)), (4, .int (nI (i + 1)))], [], gh S a b sc12 ar12 lo, ex, 0, 0)) rfl ?_
            exact ih (i + 1) sc12 ar12 (by omega) (k12_4904) (by omega) (k12_4901) hI12 hF12
      have c80 : ∀ m : Nat, ∀ (i : Nat) (sc13 : Nat → Int32) (ar13 : Nat → Nat → Int32), 9 ≤ i + m → sc13 4904 = nI nw → h < nn → i ≤ 9 → sc13 4901 = 0 → Iv S sc13 ar13 → Fr [4901, 4904, 4910, 4943] [51, 54, 55, 56, 57, 61, 62, 63, 64, 65, 66, 72, 74, 75, 76] sc ar sc13 ar13 → ag_To X (d + 6) an_X10_hours (80, [(0, .ref 49), (1, .int (nI nn)), (2, .int (nI S)), (3, .int (nI h)), (4, .int (nI i))], [], gh S a b sc13 ar13 lo, ex, 0, 0) (qi S a b lo ex (fun x sc' ar' => Iv S sc' ar' ∧ Fr [4901, 4904, 4910, 4943] [51, 54, 55, 56, 57, 61, 62, 63, 64, 65, 66, 72, 74, 75, 76] sc ar sc' ar' ∧ ((∃ h n : Nat, sc 4904 = nI h ∧ x1 = nI n ∧ n ≤ 100 ∧ h + n ≤ 2400 ∧ x = nI (h + n) ∧ sc' 4904 = nI (h + n) ∧ sc' 4901 = 0) ∨ ((∀ h n : Nat, sc 4904 = nI h → x1 = nI n → n ≤ 100 → h + n ≤ 2400 → False) ∧ sc' 4904 = sc 4904 ∧ sc' 4901 = 1)))) := by
        intro m
        induction m with
        | zero =>
          intro i sc13 ar13 hm hc80_0 hc80_1 hc80_2 hc80_3 hI13 hF13
          refine to_n 2 (fr' := (83, [(0, .ref 49), (1, .int (nI nn)), (2, .int (nI S)), (3, .int (nI h)), (4, .int (nI i))], [.ref 49, .int (nI i)], gh S a b sc13 ar13 lo, ex, 0, 0)) rfl ?_
          obtain ⟨n14, hn14, e14⟩ := iv_s4906 hI13
          refine to_getR (v := (nI n14)) rfl rfl rfl rfl e14 ?_
          refine to_nc_ge_T (t := 101) (x := i) (y := n14) rfl (by omega) (by omega) (by omega) ?_
          refine to_n 2 (fr' := (104, [(0, .ref 49), (1, .int (nI nn)), (2, .int (nI S)), (3, .int (nI h)), (4, .int 0)], [], gh S a b sc13 ar13 lo, ex, 0, 0)) rfl ?_
          exact c104 (S - 0) 0 sc13 ar13 (by omega) (hc80_0) (by omega) (hc80_3) hI13 hF13
        | succ m ih =>
          intro i sc13 ar13 hm hc80_0 hc80_1 hc80_2 hc80_3 hI13 hF13
          refine to_n 2 (fr' := (83, [(0, .ref 49), (1, .int (nI nn)), (2, .int (nI S)), (3, .int (nI h)), (4, .int (nI i))], [.ref 49, .int (nI i)], gh S a b sc13 ar13 lo, ex, 0, 0)) rfl ?_
          obtain ⟨n15, hn15, e15⟩ := iv_s4906 hI13
          refine to_getR (v := (nI n15)) rfl rfl rfl rfl e15 ?_
          refine to_nc_ge (t := 101) (x := i) (y := n15) rfl (by omega) (by omega) (fun q16 => ?_) (fun q16 => ?_)
          · refine to_n 2 (fr' := (104, [(0, .ref 49), (1, .int (nI nn)), (2, .int (nI S)), (3, .int (nI h)), (4, .int 0)], [], gh S a b sc13 ar13 lo, ex, 0, 0)) rfl ?_
            exact c104 (S - 0) 0 sc13 ar13 (by omega) (hc80_0) (by omega) (hc80_3) hI13 hF13
          · refine to_n 2 (fr' := (92, [(0, .ref 49), (1, .int (nI nn)), (2, .int (nI S)), (3, .int (nI h)), (4, .int (nI i))], [.int (nI i), .ref 49], gh S a b sc13 ar13 lo, ex, 0, 0)) rfl ?_
            refine to_cv (q := 153) (M1 := an_X10_work) (rest := []) rfl rfl (by decide) rfl ⟨_, rfl⟩ (sf_X10_work hW hI13 i (by omega) (d + 3)) (fun sc17 ar17 hx17 => ?_)
            obtain ⟨hI17, hG17⟩ := hx17
            have hF17 := fr_t hF13 hG17 (by decide) (by decide)
            have k17_4904 : sc17 4904 = (nI nw) := (hG17.1 4904 (by decide)).trans hc80_0
            have k17_4901 : sc17 4901 = 0 := (hG17.1 4901 (by decide)).trans hc80_3
            refine to_eq (fr' := (95, [(0, .ref 49), (1, .int (nI nn)), (2, .int (nI S)), (3, .int (nI h)), (4, .int (nI i))], [], gh S a b sc17 ar17 lo, ex, 0, 0)) rfl ?_
            refine to_n 1 (fr' := (98, [(0, .ref 49), (1, .int (nI nn)), (2, .int (nI S)), (3, .int (nI h)), (4, .int ((nI i) + 1))], [], gh S a b sc17 ar17 lo, ex, 0, 0)) rfl ?_
            rw [nI_1 i]
            refine to_n 1 (fr' := (80, [(0, .ref 49), (1, .int (nI nn)), (2, .int (nI S)), (3, .int (nI h)), (4, .int (nI (i + 1)))], [], gh S a b sc17 ar17 lo, ex, 0, 0)) rfl ?_
            exact ih (i + 1) sc17 ar17 (by omega) (k17_4904) (by omega) (by omega) (k17_4901) hI17 hF17
      have c52 : ∀ m : Nat, ∀ (i : Nat) (sc18 : Nat → Int32) (ar18 : Nat → Nat → Int32), 9 ≤ i + m → sc18 4904 = nI nw → h < nn → i ≤ 9 → sc18 4901 = 0 → Iv S sc18 ar18 → Fr [4901, 4904, 4910, 4943] [51, 54, 55, 56, 57, 61, 62, 63, 64, 65, 66, 72, 74, 75, 76] sc ar sc18 ar18 → ag_To X (d + 6) an_X10_hours (52, [(0, .ref 49), (1, .int (nI nn)), (2, .int (nI S)), (3, .int (nI h)), (4, .int (nI i))], [], gh S a b sc18 ar18 lo, ex, 0, 0) (qi S a b lo ex (fun x sc' ar' => Iv S sc' ar' ∧ Fr [4901, 4904, 4910, 4943] [51, 54, 55, 56, 57, 61, 62, 63, 64, 65, 66, 72, 74, 75, 76] sc ar sc' ar' ∧ ((∃ h n : Nat, sc 4904 = nI h ∧ x1 = nI n ∧ n ≤ 100 ∧ h + n ≤ 2400 ∧ x = nI (h + n) ∧ sc' 4904 = nI (h + n) ∧ sc' 4901 = 0) ∨ ((∀ h n : Nat, sc 4904 = nI h → x1 = nI n → n ≤ 100 → h + n ≤ 2400 → False) ∧ sc' 4904 = sc 4904 ∧ sc' 4901 = 1)))) := by
        intro m
        induction m with
        | zero =>
          intro i sc18 ar18 hm hc52_0 hc52_1 hc52_2 hc52_3 hI18 hF18
          refine to_n 2 (fr' := (55, [(0, .ref 49), (1, .int (nI nn)), (2, .int (nI S)), (3, .int (nI h)), (4, .int (nI i))], [.ref 49, .int (nI i)], gh S a b sc18 ar18 lo, ex, 0, 0)) rfl ?_
          obtain ⟨n19, hn19, e19⟩ := iv_s4906 hI18
          refine to_getR (v := (nI n19)) rfl rfl rfl rfl e19 ?_
          refine to_nc_ge_T (t := 73) (x := i) (y := n19) rfl (by omega) (by omega) (by omega) ?_
          refine to_n 1 (fr' := (74, [(0, .ref 49), (1, .int (nI nn)), (2, .int (nI S)), (3, .int (nI h)), (4, .int (nI i))], [.ref 49], gh S a b sc18 ar18 lo, ex, 0, 0)) rfl ?_
          refine to_cv (q := 151) (M1 := an_X10_roofs) (rest := []) rfl rfl (by decide) rfl ⟨_, rfl⟩ (sf_X10_roofs hW hI18  (d + 3)) (fun sc20 ar20 hx20 => ?_)
          obtain ⟨hI20, hG20⟩ := hx20
          have hF20 := fr_t hF18 hG20 (by decide) (by decide)
          have k20_4904 : sc20 4904 = (nI nw) := (hG20.1 4904 (by decide)).trans hc52_0
          have k20_4901 : sc20 4901 = 0 := (hG20.1 4901 (by decide)).trans hc52_3
          refine to_eq (fr' := (77, [(0, .ref 49), (1, .int (nI nn)), (2, .int (nI S)), (3, .int (nI h)), (4, .int (nI i))], [], gh S a b sc20 ar20 lo, ex, 0, 0)) rfl ?_
          refine to_n 2 (fr' := (80, [(0, .ref 49), (1, .int (nI nn)), (2, .int (nI S)), (3, .int (nI h)), (4, .int 0)], [], gh S a b sc20 ar20 lo, ex, 0, 0)) rfl ?_
          exact c80 (9 - 0) 0 sc20 ar20 (by omega) (k20_4904) (by omega) (by omega) (k20_4901) hI20 hF20
        | succ m ih =>
          intro i sc18 ar18 hm hc52_0 hc52_1 hc52_2 hc52_3 hI18 hF18
          refine to_n 2 (fr' := (55, [(0, .ref 49), (1, .int (nI nn)), (2, .int (nI S)), (3, .int (nI h)), (4, .int (nI i))], [.ref 49, .int (nI i)], gh S a b sc18 ar18 lo, ex, 0, 0)) rfl ?_
          obtain ⟨n21, hn21, e21⟩ := iv_s4906 hI18
          refine to_getR (v := (nI n21)) rfl rfl rfl rfl e21 ?_
          refine to_nc_ge (t := 73) (x := i) (y := n21) rfl (by omega) (by omega) (fun q22 => ?_) (fun q22 => ?_)
          · refine to_n 1 (fr' := (74, [(0, .ref 49), (1, .int (nI nn)), (2, .int (nI S)), (3, .int (nI h)), (4, .int (nI i))], [.ref 49], gh S a b sc18 ar18 lo, ex, 0, 0)) rfl ?_
            refine to_cv (q := 151) (M1 := an_X10_roofs) (rest := []) rfl rfl (by decide) rfl ⟨_, rfl⟩ (sf_X10_roofs hW hI18  (d + 3)) (fun sc23 ar23 hx23 => ?_)
            obtain ⟨hI23, hG23⟩ := hx23
            have hF23 := fr_t hF18 hG23 (by decide) (by decide)
            have k23_4904 : sc23 4904 = (nI nw) := (hG23.1 4904 (by decide)).trans hc52_0
            have k23_4901 : sc23 4901 = 0 := (hG23.1 4901 (by decide)).trans hc52_3
            refine to_eq (fr' := (77, [(0, .ref 49), (1, .int (nI nn)), (2, .int (nI S)), (3, .int (nI h)), (4, .int (nI i))], [], gh S a b sc23 ar23 lo, ex, 0, 0)) rfl ?_
            refine to_n 2 (fr' := (80, [(0, .ref 49), (1, .int (nI nn)), (2, .int (nI S)), (3, .int (nI h)), (4, .int 0)], [], gh S a b sc23 ar23 lo, ex, 0, 0)) rfl ?_
            exact c80 (9 - 0) 0 sc23 ar23 (by omega) (k23_4904) (by omega) (by omega) (k23_4901) hI23 hF23
          · refine to_n 2 (fr' := (64, [(0, .ref 49), (1, .int (nI nn)), (2, .int (nI S)), (3, .int (nI h)), (4, .int (nI i))], [.int (nI i), .ref 49], gh S a b sc18 ar18 lo, ex, 0, 0)) rfl ?_
            refine to_cv (q := 150) (M1 := an_X10_go) (rest := []) rfl rfl (by decide) rfl ⟨_, rfl⟩ (sf_X10_go hW hI18 i (by omega) (d + 2)) (fun sc24 ar24 hx24 => ?_)
            obtain ⟨hI24, hG24⟩ := hx24
            have hF24 := fr_t hF18 hG24 (by decide) (by decide)
            have k24_4904 : sc24 4904 = (nI nw) := (hG24.1 4904 (by decide)).trans hc52_0
            have k24_4901 : sc24 4901 = 0 := (hG24.1 4901 (by decide)).trans hc52_3
            refine to_eq (fr' := (67, [(0, .ref 49), (1, .int (nI nn)), (2, .int (nI S)), (3, .int (nI h)), (4, .int (nI i))], [], gh S a b sc24 ar24 lo, ex, 0, 0)) rfl ?_
            refine to_n 1 (fr' := (70, [(0, .ref 49), (1, .int (nI nn)), (2, .int (nI S)), (3, .int (nI h)), (4, .int ((nI i) + 1))], [], gh S a b sc24 ar24 lo, ex, 0, 0)) rfl ?_
            rw [nI_1 i]
            refine to_n 1 (fr' := (52, [(0, .ref 49), (1, .int (nI nn)), (2, .int (nI S)), (3, .int (nI h)), (4, .int (nI (i + 1)))], [], gh S a b sc24 ar24 lo, ex, 0, 0)) rfl ?_
            exact ih (i + 1) sc24 ar24 (by omega) (k24_4904) (by omega) (by omega) (k24_4901) hI24 hF24
      refine to_n 2 (fr' := (46, [(0, .ref 49), (1, .int (nI nn)), (2, .int (nI S)), (3, .int (nI h))], [.int (nI nn), .int (nI h)], gh S a b sc1 ar1 lo, ex, 0, 0)) rfl ?_
      refine to_nc_ge (t := 216) (x := h) (y := nn) rfl (by omega) (by omega) (fun q25 => ?_) (fun q25 => ?_)
      · refine to_n 1 (fr' := (217, [(0, .ref 49), (1, .int (nI nn)), (2, .int (nI S)), (3, .int (nI h))], [.ref 49], gh S a b sc1 ar1 lo, ex, 0, 0)) rfl ?_
        refine to_getR (v := (nI nw)) rfl rfl rfl rfl hc44_0 ?_
        exact to_rt (i := .ireturn) (tg := []) rfl rfl ⟨_, _, _, ⟨hI1, hF1, (Or.inl ⟨h0, nn, eh0, hc44_5, by omega, by omega, by rw [show h0 + nn = nw by omega], by rw [show h0 + nn = nw by omega]; exact hc44_0, hc44_7⟩)⟩, rfl⟩
      · refine to_n 2 (fr' := (52, [(0, .ref 49), (1, .int (nI nn)), (2, .int (nI S)), (3, .int (nI h)), (4, .int 0)], [], gh S a b sc1 ar1 lo, ex, 0, 0)) rfl ?_
        exact c52 (9 - 0) 0 sc1 ar1 (by omega) (hc44_0) (by omega) (by omega) (hc44_7) hI1 hF1
  refine to_n 2 (fr' := (2, [(0, .ref 49), (1, .int x1)], [.int 0, .ref 49], gh S a b sc ar lo, ex, 0, 0)) rfl ?_
  refine to_putR (h' := gh S a b (upd sc 4901 0) ar lo) rfl rfl rfl (Nat.le_of_ble_eq_true rfl) rfl rfl ?_
  have hI26 := ip_4901 (v := 0) hI 
  have hF26 := fr_s (k := 4901) (v := 0) hF (by decide)
  refine to_n 1 (fr' := (6, [(0, .ref 49), (1, .int x1)], [.int x1], gh S a b (upd sc 4901 0) ar lo, ex, 0, 0)) rfl ?_
  refine to_if_lt (t := 27) rfl (fun q27 => ?_) (fun q27 => ?_)
  · refine to_n 1 (fr' := (28, [(0, .ref 49), (1, .int x1)], [.ref 49], gh S a b (upd sc 4901 0) ar lo, ex, 0, 0)) rfl ?_
    refine to_ci (q := 108) (M1 := an_X10_fail) (rest := []) rfl rfl (by decide) rfl ⟨_, rfl⟩ (sf_X10_fail hW hI26  (d + 5)) (fun x29 sc29 ar29 hx29 => ?_)
    obtain ⟨hI29, hG29, hx29⟩ := hx29
    have hF29 := fr_t hF26 hG29 (by decide) (by decide)
    have k29_4904 : sc29 4904 = (nI h0) := (hG29.1 4904 (by decide)).trans eh0
    have hp29 := hx29
    have hF29w : sc29 4904 = sc 4904 := (hG29.1 4904 (by decide)).trans rfl
    refine to_eq (fr' := (31, [(0, .ref 49), (1, .int x1)], [.int x29], gh S a b sc29 ar29 lo, ex, 0, 0)) rfl ?_
    exact to_rt (i := .ireturn) (tg := []) rfl rfl ⟨_, _, _, ⟨hI29, hF29, (Or.inr ⟨(fun h n _ e hn _ => nI_neg (by omega) q27 e.symm), hF29w, hp29⟩)⟩, rfl⟩
  · obtain ⟨n28, hn28, e28⟩ := nI_of q27
    refine to_eq (fr' := (9, [(0, .ref 49), (1, .int (nI n28))], [], gh S a b (upd sc 4901 0) ar lo, ex, 0, 0)) (by rw [e28]) ?_
    refine to_eq (fr' := (9, [(0, .ref 49), (1, .int (nI n28))], [], gh S a b (upd sc 4901 0) ar lo, ex, 0, 0)) rfl ?_
    refine to_n 2 (fr' := (12, [(0, .ref 49), (1, .int (nI n28))], [.int 100, .int (nI n28)], gh S a b (upd sc 4901 0) ar lo, ex, 0, 0)) rfl ?_
    refine to_nc_gt (t := 27) (x := n28) (y := 100) rfl (by omega) (by omega) (fun q30 => ?_) (fun q30 => ?_)
    · refine to_n 1 (fr' := (28, [(0, .ref 49), (1, .int (nI n28))], [.ref 49], gh S a b (upd sc 4901 0) ar lo, ex, 0, 0)) rfl ?_
      refine to_ci (q := 108) (M1 := an_X10_fail) (rest := []) rfl rfl (by decide) rfl ⟨_, rfl⟩ (sf_X10_fail hW hI26  (d + 5)) (fun x31 sc31 ar31 hx31 => ?_)
      obtain ⟨hI31, hG31, hx31⟩ := hx31
      have hF31 := fr_t hF26 hG31 (by decide) (by decide)
      have k31_4904 : sc31 4904 = (nI h0) := (hG31.1 4904 (by decide)).trans eh0
      have hp31 := hx31
      have hF31w : sc31 4904 = sc 4904 := (hG31.1 4904 (by decide)).trans rfl
      refine to_eq (fr' := (31, [(0, .ref 49), (1, .int (nI n28))], [.int x31], gh S a b sc31 ar31 lo, ex, 0, 0)) rfl ?_
      exact to_rt (i := .ireturn) (tg := []) rfl rfl ⟨_, _, _, ⟨hI31, hF31, (Or.inr ⟨(fun h n eh e hn hs => by have a1 : h0 = h := (nI_eq (by omega) (by omega)).mp (eh0.symm.trans eh); have a2 : n28 = n := (nI_eq (by omega) (by omega)).mp (e28.symm.trans e); omega), hF31w, hp31⟩)⟩, rfl⟩
    · refine to_n 1 (fr' := (16, [(0, .ref 49), (1, .int (nI n28))], [.ref 49], gh S a b (upd sc 4901 0) ar lo, ex, 0, 0)) rfl ?_
      refine to_getR (v := (nI h0)) rfl rfl rfl rfl eh0 ?_
      refine to_n 1 (fr' := (20, [(0, .ref 49), (1, .int (nI n28))], [.int (nI n28), .int (nI h0)], gh S a b (upd sc 4901 0) ar lo, ex, 0, 0)) rfl ?_
      refine to_addN (x := h0) (y := n28) rfl ?_
      refine to_n 1 (fr' := (24, [(0, .ref 49), (1, .int (nI n28))], [.int 2400, .int (nI (h0 + n28))], gh S a b (upd sc 4901 0) ar lo, ex, 0, 0)) rfl ?_
      refine to_nc_le (t := 32) (x := (h0 + n28)) (y := 2400) rfl (by omega) (by omega) (fun q32 => ?_) (fun q32 => ?_)
      · refine to_n 1 (fr' := (33, [(0, .ref 49), (1, .int (nI n28))], [.ref 49], gh S a b (upd sc 4901 0) ar lo, ex, 0, 0)) rfl ?_
        refine to_get rfl rfl rfl rfl ?_
        refine to_n 1 (fr' := (37, [(0, .ref 49), (1, .int (nI n28))], [.ref 49, .int (nI a)], gh S a b (upd sc 4901 0) ar lo, ex, 0, 0)) rfl ?_
        refine to_get rfl rfl rfl rfl ?_
        refine to_mulN (x := a) (y := b) rfl ?_
        rw [hab]
        refine to_n 3 (fr' := (44, [(0, .ref 49), (1, .int (nI n28)), (2, .int (nI S)), (3, .int 0)], [], gh S a b (upd sc 4901 0) ar lo, ex, 0, 0)) rfl ?_
        exact c44 (100 - 0) n28 0 h0 (upd sc 4901 0) ar (by omega) (eh0) (by omega) (by omega) (by omega) (by omega) e28 (by omega) (rfl) hI26 hF26
      · refine to_n 1 (fr' := (28, [(0, .ref 49), (1, .int (nI n28))], [.ref 49], gh S a b (upd sc 4901 0) ar lo, ex, 0, 0)) rfl ?_
        refine to_ci (q := 108) (M1 := an_X10_fail) (rest := []) rfl rfl (by decide) rfl ⟨_, rfl⟩ (sf_X10_fail hW hI26  (d + 5)) (fun x33 sc33 ar33 hx33 => ?_)
        obtain ⟨hI33, hG33, hx33⟩ := hx33
        have hF33 := fr_t hF26 hG33 (by decide) (by decide)
        have k33_4904 : sc33 4904 = (nI h0) := (hG33.1 4904 (by decide)).trans eh0
        have hp33 := hx33
        have hF33w : sc33 4904 = sc 4904 := (hG33.1 4904 (by decide)).trans rfl
        refine to_eq (fr' := (31, [(0, .ref 49), (1, .int (nI n28))], [.int x33], gh S a b sc33 ar33 lo, ex, 0, 0)) rfl ?_
        exact to_rt (i := .ireturn) (tg := []) rfl rfl ⟨_, _, _, ⟨hI33, hF33, (Or.inr ⟨(fun h n eh e hn hs => by have a1 : h0 = h := (nI_eq (by omega) (by omega)).mp (eh0.symm.trans eh); have a2 : n28 = n := (nI_eq (by omega) (by omega)).mp (e28.symm.trans e); omega), hF33w, hp33⟩)⟩, rfl⟩
set_option maxRecDepth 20000 in
theorem sf_X10_cell {X : Nat × (Nat → Int32)} {S a b : Nat} {sc : Nat → Int32} {ar : Nat → Nat → Int32} {lo : Nat → Int64} {ex : Bool} (hW : Wd S a b) (hI : Iv S sc ar) (x1 : Int32) (x2 : Int32) (d : Nat)  : ci X S a b (d + 2) 157 [.ref 49, .int x1, .int x2] sc ar lo ex (fun x sc' ar' => Iv S sc' ar' ∧ Fr [4901] [] sc ar sc' ar' ∧ True) := by
  obtain ⟨ha1, ha8, hb1, hb8, hab, hS1, hS⟩ := id hW
  refine ci_of (M := an_X10_cell) rfl (Nat.le_of_ble_eq_true rfl) ?_
  have hF : Fr [4901] [] sc ar sc ar := fr_0
  refine to_eq (fr' := (0, [(0, .ref 49), (1, .int x1), (2, .int x2)], [], gh S a b sc ar lo, ex, 0, 0)) rfl ?_
  refine to_n 2 (fr' := (2, [(0, .ref 49), (1, .int x1), (2, .int x2)], [.int 0, .ref 49], gh S a b sc ar lo, ex, 0, 0)) rfl ?_
  refine to_putR (h' := gh S a b (upd sc 4901 0) ar lo) rfl rfl rfl (Nat.le_of_ble_eq_true rfl) rfl rfl ?_
  have hI1 := ip_4901 (v := 0) hI 
  have hF1 := fr_s (k := 4901) (v := 0) hF (by decide)
  refine to_n 2 (fr' := (7, [(0, .ref 49), (1, .int x1), (2, .int x2)], [.int x1, .ref 49], gh S a b (upd sc 4901 0) ar lo, ex, 0, 0)) rfl ?_
  rcases has_or (x := x1) (B := S) (by omega) with ⟨n2, hn2, e2⟩ | w2
  · rw [e2]
    refine to_cp (q := 109) (M1 := an_X10_isCell) (rest := []) rfl rfl (by decide) rfl ⟨_, rfl⟩ (mc_isCell_1 (n := n2) hW (by omega) d) (fun x2 hx2 => ?_)
    obtain rfl := hx2
    refine to_eq (fr' := (10, [(0, .ref 49), (1, .int (nI n2)), (2, .int x2)], [.int 1], gh S a b (upd sc 4901 0) ar lo, ex, 0, 0)) rfl ?_
    refine to_n 2 (fr' := (19, [(0, .ref 49), (1, .int (nI n2)), (2, .int x2)], [.int x2], gh S a b (upd sc 4901 0) ar lo, ex, 0, 0)) rfl ?_
    refine to_tb (x := x2) rfl rfl (by decide) (fun t ht => ?_)
    obtain rfl | rfl | rfl | rfl | rfl | rfl | rfl | rfl | rfl : t = 64 ∨ t = 71 ∨ t = 78 ∨ t = 85 ∨ t = 92 ∨ t = 99 ∨ t = 106 ∨ t = 113 ∨ t = 128 := by simpa using to_mem (l := [64, 71, 78, 85, 92, 99, 106, 113, 128]) ht (by decide)
    · refine to_eq (fr' := (64, [(0, .ref 49), (1, .int (nI n2)), (2, .int x2)], [], gh S a b (upd sc 4901 0) ar lo, ex, 0, 0)) rfl ?_
      refine to_n 1 (fr' := (65, [(0, .ref 49), (1, .int (nI n2)), (2, .int x2)], [.ref 49], gh S a b (upd sc 4901 0) ar lo, ex, 0, 0)) rfl ?_
      refine to_get rfl rfl rfl rfl ?_
      refine to_n 1 (fr' := (69, [(0, .ref 49), (1, .int (nI n2)), (2, .int x2)], [.int (nI n2), .ref 51], gh S a b (upd sc 4901 0) ar lo, ex, 0, 0)) rfl ?_
      refine to_ialR (i := n2) (v := ((ar 51) n2)) rfl (by decide) rfl (by omega) (by omega) rfl ?_
      exact to_rt (i := .ireturn) (tg := []) rfl rfl ⟨_, _, _, ⟨hI1, hF1, trivial⟩, rfl⟩
    · refine to_eq (fr' := (71, [(0, .ref 49), (1, .int (nI n2)), (2, .int x2)], [], gh S a b (upd sc 4901 0) ar lo, ex, 0, 0)) rfl ?_
      refine to_n 1 (fr' := (72, [(0, .ref 49), (1, .int (nI n2)), (2, .int x2)], [.ref 49], gh S a b (upd sc 4901 0) ar lo, ex, 0, 0)) rfl ?_
      refine to_get rfl rfl rfl rfl ?_
      refine to_n 1 (fr' := (76, [(0, .ref 49), (1, .int (nI n2)), (2, .int x2)], [.int (nI n2), .ref 52], gh S a b (upd sc 4901 0) ar lo, ex, 0, 0)) rfl ?_
      refine to_ialR (i := n2) (v := ((ar 52) n2)) rfl (by decide) rfl (by omega) (by omega) rfl ?_
      exact to_rt (i := .ireturn) (tg := []) rfl rfl ⟨_, _, _, ⟨hI1, hF1, trivial⟩, rfl⟩
    · refine to_eq (fr' := (78, [(0, .ref 49), (1, .int (nI n2)), (2, .int x2)], [], gh S a b (upd sc 4901 0) ar lo, ex, 0, 0)) rfl ?_
      refine to_n 1 (fr' := (79, [(0, .ref 49), (1, .int (nI n2)), (2, .int x2)], [.ref 49], gh S a b (upd sc 4901 0) ar lo, ex, 0, 0)) rfl ?_
      refine to_get rfl rfl rfl rfl ?_
      refine to_n 1 (fr' := (83, [(0, .ref 49), (1, .int (nI n2)), (2, .int x2)], [.int (nI n2), .ref 53], gh S a b (upd sc 4901 0) ar lo, ex, 0, 0)) rfl ?_
      refine to_ialR (i := n2) (v := ((ar 53) n2)) rfl (by decide) rfl (by omega) (by omega) rfl ?_
      exact to_rt (i := .ireturn) (tg := []) rfl rfl ⟨_, _, _, ⟨hI1, hF1, trivial⟩, rfl⟩
    · refine to_eq (fr' := (85, [(0, .ref 49), (1, .int (nI n2)), (2, .int x2)], [], gh S a b (upd sc 4901 0) ar lo, ex, 0, 0)) rfl ?_
      refine to_n 1 (fr' := (86, [(0, .ref 49), (1, .int (nI n2)), (2, .int x2)], [.ref 49], gh S a b (upd sc 4901 0) ar lo, ex, 0, 0)) rfl ?_
      refine to_get rfl rfl rfl rfl ?_
      refine to_n 1 (fr' := (90, [(0, .ref 49), (1, .int (nI n2)), (2, .int x2)], [.int (nI n2), .ref 54], gh S a b (upd sc 4901 0) ar lo, ex, 0, 0)) rfl ?_
      refine to_ialR (i := n2) (v := ((ar 54) n2)) rfl (by decide) rfl (by omega) (by omega) rfl ?_
      exact to_rt (i := .ireturn) (tg := []) rfl rfl ⟨_, _, _, ⟨hI1, hF1, trivial⟩, rfl⟩
    · refine to_eq (fr' := (92, [(0, .ref 49), (1, .int (nI n2)), (2, .int x2)], [], gh S a b (upd sc 4901 0) ar lo, ex, 0, 0)) rfl ?_
      refine to_n 1 (fr' := (93, [(0, .ref 49), (1, .int (nI n2)), (2, .int x2)], [.ref 49], gh S a b (upd sc 4901 0) ar lo, ex, 0, 0)) rfl ?_
      refine to_get rfl rfl rfl rfl ?_
      refine to_n 1 (fr' := (97, [(0, .ref 49), (1, .int (nI n2)), (2, .int x2)], [.int (nI n2), .ref 55], gh S a b (upd sc 4901 0) ar lo, ex, 0, 0)) rfl ?_
      refine to_ialR (i := n2) (v := ((ar 55) n2)) rfl (by decide) rfl (by omega) (by omega) rfl ?_
      exact to_rt (i := .ireturn) (tg := []) rfl rfl ⟨_, _, _, ⟨hI1, hF1, trivial⟩, rfl⟩
    · refine to_eq (fr' := (99, [(0, .ref 49), (1, .int (nI n2)), (2, .int x2)], [], gh S a b (upd sc 4901 0) ar lo, ex, 0, 0)) rfl ?_
      refine to_n 1 (fr' := (100, [(0, .ref 49), (1, .int (nI n2)), (2, .int x2)], [.ref 49], gh S a b (upd sc 4901 0) ar lo, ex, 0, 0)) rfl ?_
      refine to_get rfl rfl rfl rfl ?_
      refine to_n 1 (fr' := (104, [(0, .ref 49), (1, .int (nI n2)), (2, .int x2)], [.int (nI n2), .ref 56], gh S a b (upd sc 4901 0) ar lo, ex, 0, 0)) rfl ?_
      refine to_ialR (i := n2) (v := ((ar 56) n2)) rfl (by decide) rfl (by omega) (by omega) rfl ?_
      exact to_rt (i := .ireturn) (tg := []) rfl rfl ⟨_, _, _, ⟨hI1, hF1, trivial⟩, rfl⟩
    · refine to_eq (fr' := (106, [(0, .ref 49), (1, .int (nI n2)), (2, .int x2)], [], gh S a b (upd sc 4901 0) ar lo, ex, 0, 0)) rfl ?_
      refine to_n 1 (fr' := (107, [(0, .ref 49), (1, .int (nI n2)), (2, .int x2)], [.ref 49], gh S a b (upd sc 4901 0) ar lo, ex, 0, 0)) rfl ?_
      refine to_get rfl rfl rfl rfl ?_
      refine to_n 1 (fr' := (111, [(0, .ref 49), (1, .int (nI n2)), (2, .int x2)], [.int (nI n2), .ref 57], gh S a b (upd sc 4901 0) ar lo, ex, 0, 0)) rfl ?_
      rcases iv_a57 hI1 n2 with e3 | ⟨n3, hn3, e3⟩
      · refine to_ialR (i := n2) (v := (-1)) rfl (by decide) rfl (by omega) (by omega) e3 ?_
        exact to_rt (i := .ireturn) (tg := []) rfl rfl ⟨_, _, _, ⟨hI1, hF1, trivial⟩, rfl⟩
      · refine to_ialR (i := n2) (v := (nI n3)) rfl (by decide) rfl (by omega) (by omega) e3 ?_
        exact to_rt (i := .ireturn) (tg := []) rfl rfl ⟨_, _, _, ⟨hI1, hF1, trivial⟩, rfl⟩
    · refine to_eq (fr' := (113, [(0, .ref 49), (1, .int (nI n2)), (2, .int x2)], [], gh S a b (upd sc 4901 0) ar lo, ex, 0, 0)) rfl ?_
      refine to_n 1 (fr' := (114, [(0, .ref 49), (1, .int (nI n2)), (2, .int x2)], [.ref 49], gh S a b (upd sc 4901 0) ar lo, ex, 0, 0)) rfl ?_
      refine to_get rfl rfl rfl rfl ?_
      refine to_n 1 (fr' := (118, [(0, .ref 49), (1, .int (nI n2)), (2, .int x2)], [.int (nI n2), .ref 58], gh S a b (upd sc 4901 0) ar lo, ex, 0, 0)) rfl ?_
      refine to_zalR (i := n2) (v := ((ar 58) n2)) rfl rfl (by omega) (by omega) rfl ?_
      refine to_if_eq (t := 126) rfl (fun q4 => ?_) (fun q4 => ?_)
      · refine to_n 1 (fr' := (127, [(0, .ref 49), (1, .int (nI n2)), (2, .int x2)], [.int 0], gh S a b (upd sc 4901 0) ar lo, ex, 0, 0)) rfl ?_
        exact to_rt (i := .ireturn) (tg := []) rfl rfl ⟨_, _, _, ⟨hI1, hF1, trivial⟩, rfl⟩
      · refine to_n 2 (fr' := (127, [(0, .ref 49), (1, .int (nI n2)), (2, .int x2)], [.int 1], gh S a b (upd sc 4901 0) ar lo, ex, 0, 0)) rfl ?_
        exact to_rt (i := .ireturn) (tg := []) rfl rfl ⟨_, _, _, ⟨hI1, hF1, trivial⟩, rfl⟩
    · refine to_eq (fr' := (128, [(0, .ref 49), (1, .int (nI n2)), (2, .int x2)], [], gh S a b (upd sc 4901 0) ar lo, ex, 0, 0)) rfl ?_
      refine to_n 1 (fr' := (129, [(0, .ref 49), (1, .int (nI n2)), (2, .int x2)], [.ref 49], gh S a b (upd sc 4901 0) ar lo, ex, 0, 0)) rfl ?_
      refine to_ci (q := 108) (M1 := an_X10_fail) (rest := []) rfl rfl (by decide) rfl ⟨_, rfl⟩ (sf_X10_fail hW hI1  d) (fun x5 sc5 ar5 hx5 => ?_)
      obtain ⟨hI5, hG5, hx5⟩ := hx5
      have hF5 := fr_t hF1 hG5 (by decide) (by decide)
      have hp5 := hx5
      refine to_eq (fr' := (132, [(0, .ref 49), (1, .int (nI n2)), (2, .int x2)], [.int x5], gh S a b sc5 ar5 lo, ex, 0, 0)) rfl ?_
      exact to_rt (i := .ireturn) (tg := []) rfl rfl ⟨_, _, _, ⟨hI5, hF5, trivial⟩, rfl⟩
  · refine to_cp (q := 109) (M1 := an_X10_isCell) (rest := []) rfl rfl (by decide) rfl ⟨_, rfl⟩ (mc_isCell_0 hW w2 d) (fun x2 hx2 => ?_)
    obtain rfl := hx2
    refine to_eq (fr' := (10, [(0, .ref 49), (1, .int x1), (2, .int x2)], [.int 0], gh S a b (upd sc 4901 0) ar lo, ex, 0, 0)) rfl ?_
    refine to_n 2 (fr' := (14, [(0, .ref 49), (1, .int x1), (2, .int x2)], [.ref 49], gh S a b (upd sc 4901 0) ar lo, ex, 0, 0)) rfl ?_
    refine to_ci (q := 108) (M1 := an_X10_fail) (rest := []) rfl rfl (by decide) rfl ⟨_, rfl⟩ (sf_X10_fail hW hI1  d) (fun x6 sc6 ar6 hx6 => ?_)
    obtain ⟨hI6, hG6, hx6⟩ := hx6
    have hF6 := fr_t hF1 hG6 (by decide) (by decide)
    have hp6 := hx6
    refine to_eq (fr' := (17, [(0, .ref 49), (1, .int x1), (2, .int x2)], [.int x6], gh S a b sc6 ar6 lo, ex, 0, 0)) rfl ?_
    exact to_rt (i := .ireturn) (tg := []) rfl rfl ⟨_, _, _, ⟨hI6, hF6, trivial⟩, rfl⟩
set_option maxRecDepth 20000 in
theorem sf_X10_of {X : Nat × (Nat → Int32)} {S a b : Nat} {sc : Nat → Int32} {ar : Nat → Nat → Int32} {lo : Nat → Int64} {ex : Bool} (hW : Wd S a b) (hI : Iv S sc ar) (x1 : Int32) (x2 : Int32) (d : Nat)  : ci X S a b (d + 2) 158 [.ref 49, .int x1, .int x2] sc ar lo ex (fun x sc' ar' => Iv S sc' ar' ∧ Fr [4901] [] sc ar sc' ar' ∧ True) := by
  obtain ⟨ha1, ha8, hb1, hb8, hab, hS1, hS⟩ := id hW
  refine ci_of (M := an_X10_of) rfl (Nat.le_of_ble_eq_true rfl) ?_
  have hF : Fr [4901] [] sc ar sc ar := fr_0
  refine to_eq (fr' := (0, [(0, .ref 49), (1, .int x1), (2, .int x2)], [], gh S a b sc ar lo, ex, 0, 0)) rfl ?_
  refine to_n 2 (fr' := (2, [(0, .ref 49), (1, .int x1), (2, .int x2)], [.int 0, .ref 49], gh S a b sc ar lo, ex, 0, 0)) rfl ?_
  refine to_putR (h' := gh S a b (upd sc 4901 0) ar lo) rfl rfl rfl (Nat.le_of_ble_eq_true rfl) rfl rfl ?_
  have hI1 := ip_4901 (v := 0) hI 
  have hF1 := fr_s (k := 4901) (v := 0) hF (by decide)
  refine to_n 2 (fr' := (7, [(0, .ref 49), (1, .int x1), (2, .int x2)], [.int x1, .ref 49], gh S a b (upd sc 4901 0) ar lo, ex, 0, 0)) rfl ?_
  obtain ⟨n2, hn2, e2⟩ := iv_s4906 hI1
  rcases has_or (x := x1) (B := n2) (by omega) with ⟨n3, hn3, e3⟩ | w3
  · rw [e3]
    refine to_cp (q := 110) (M1 := an_X10_isCompany) (rest := []) rfl rfl (by decide) rfl ⟨_, rfl⟩ (mc_isCompany_1 (n := n3) e2 (by omega) d) (fun x3 hx3 => ?_)
    obtain rfl := hx3
    refine to_eq (fr' := (10, [(0, .ref 49), (1, .int (nI n3)), (2, .int x2)], [.int 1], gh S a b (upd sc 4901 0) ar lo, ex, 0, 0)) rfl ?_
    refine to_n 2 (fr' := (19, [(0, .ref 49), (1, .int (nI n3)), (2, .int x2)], [.int x2], gh S a b (upd sc 4901 0) ar lo, ex, 0, 0)) rfl ?_
    refine to_tb (x := x2) rfl rfl (by decide) (fun t ht => ?_)
    obtain rfl | rfl | rfl | rfl | rfl | rfl | rfl | rfl | rfl : t = 64 ∨ t = 71 ∨ t = 78 ∨ t = 85 ∨ t = 92 ∨ t = 117 ∨ t = 124 ∨ t = 131 ∨ t = 138 := by simpa using to_mem (l := [64, 71, 78, 85, 92, 117, 124, 131, 138]) ht (by decide)
    · refine to_eq (fr' := (64, [(0, .ref 49), (1, .int (nI n3)), (2, .int x2)], [], gh S a b (upd sc 4901 0) ar lo, ex, 0, 0)) rfl ?_
      refine to_n 1 (fr' := (65, [(0, .ref 49), (1, .int (nI n3)), (2, .int x2)], [.ref 49], gh S a b (upd sc 4901 0) ar lo, ex, 0, 0)) rfl ?_
      refine to_get rfl rfl rfl rfl ?_
      refine to_n 1 (fr' := (69, [(0, .ref 49), (1, .int (nI n3)), (2, .int x2)], [.int (nI n3), .ref 59], gh S a b (upd sc 4901 0) ar lo, ex, 0, 0)) rfl ?_
      refine to_ialR (i := n3) (v := ((ar 59) n3)) rfl (by decide) rfl (by omega) (by omega) rfl ?_
      exact to_rt (i := .ireturn) (tg := []) rfl rfl ⟨_, _, _, ⟨hI1, hF1, trivial⟩, rfl⟩
    · refine to_eq (fr' := (71, [(0, .ref 49), (1, .int (nI n3)), (2, .int x2)], [], gh S a b (upd sc 4901 0) ar lo, ex, 0, 0)) rfl ?_
      refine to_n 1 (fr' := (72, [(0, .ref 49), (1, .int (nI n3)), (2, .int x2)], [.ref 49], gh S a b (upd sc 4901 0) ar lo, ex, 0, 0)) rfl ?_
      refine to_get rfl rfl rfl rfl ?_
      refine to_n 1 (fr' := (76, [(0, .ref 49), (1, .int (nI n3)), (2, .int x2)], [.int (nI n3), .ref 60], gh S a b (upd sc 4901 0) ar lo, ex, 0, 0)) rfl ?_
      refine to_ialR (i := n3) (v := ((ar 60) n3)) rfl (by decide) rfl (by omega) (by omega) rfl ?_
      exact to_rt (i := .ireturn) (tg := []) rfl rfl ⟨_, _, _, ⟨hI1, hF1, trivial⟩, rfl⟩
    · refine to_eq (fr' := (78, [(0, .ref 49), (1, .int (nI n3)), (2, .int x2)], [], gh S a b (upd sc 4901 0) ar lo, ex, 0, 0)) rfl ?_
      refine to_n 1 (fr' := (79, [(0, .ref 49), (1, .int (nI n3)), (2, .int x2)], [.ref 49], gh S a b (upd sc 4901 0) ar lo, ex, 0, 0)) rfl ?_
      refine to_get rfl rfl rfl rfl ?_
      refine to_n 1 (fr' := (83, [(0, .ref 49), (1, .int (nI n3)), (2, .int x2)], [.int (nI n3), .ref 61], gh S a b (upd sc 4901 0) ar lo, ex, 0, 0)) rfl ?_
      obtain ⟨n4, hn4, e4⟩ := iv_a61 hI1 n3
      refine to_ialR (i := n3) (v := (nI n4)) rfl (by decide) rfl (by omega) (by omega) e4 ?_
      exact to_rt (i := .ireturn) (tg := []) rfl rfl ⟨_, _, _, ⟨hI1, hF1, trivial⟩, rfl⟩
    · refine to_eq (fr' := (85, [(0, .ref 49), (1, .int (nI n3)), (2, .int x2)], [], gh S a b (upd sc 4901 0) ar lo, ex, 0, 0)) rfl ?_
      refine to_n 1 (fr' := (86, [(0, .ref 49), (1, .int (nI n3)), (2, .int x2)], [.ref 49], gh S a b (upd sc 4901 0) ar lo, ex, 0, 0)) rfl ?_
      refine to_get rfl rfl rfl rfl ?_
      refine to_n 1 (fr' := (90, [(0, .ref 49), (1, .int (nI n3)), (2, .int x2)], [.int (nI n3), .ref 62], gh S a b (upd sc 4901 0) ar lo, ex, 0, 0)) rfl ?_
      rcases iv_a62 hI1 n3 with e5 | ⟨n5, hn5, e5⟩
      · refine to_ialR (i := n3) (v := (-1)) rfl (by decide) rfl (by omega) (by omega) e5 ?_
        exact to_rt (i := .ireturn) (tg := []) rfl rfl ⟨_, _, _, ⟨hI1, hF1, trivial⟩, rfl⟩
      · refine to_ialR (i := n3) (v := (nI n5)) rfl (by decide) rfl (by omega) (by omega) e5 ?_
        exact to_rt (i := .ireturn) (tg := []) rfl rfl ⟨_, _, _, ⟨hI1, hF1, trivial⟩, rfl⟩
    · refine to_eq (fr' := (92, [(0, .ref 49), (1, .int (nI n3)), (2, .int x2)], [], gh S a b (upd sc 4901 0) ar lo, ex, 0, 0)) rfl ?_
      refine to_n 1 (fr' := (93, [(0, .ref 49), (1, .int (nI n3)), (2, .int x2)], [.ref 49], gh S a b (upd sc 4901 0) ar lo, ex, 0, 0)) rfl ?_
      refine to_get rfl rfl rfl rfl ?_
      refine to_n 1 (fr' := (97, [(0, .ref 49), (1, .int (nI n3)), (2, .int x2)], [.int (nI n3), .ref 62], gh S a b (upd sc 4901 0) ar lo, ex, 0, 0)) rfl ?_
      rcases iv_a62 hI1 n3 with e6 | ⟨n6, hn6, e6⟩
      · refine to_ialR (i := n3) (v := (-1)) rfl (by decide) rfl (by omega) (by omega) e6 ?_
        refine to_n 3 (fr' := (116, [(0, .ref 49), (1, .int (nI n3)), (2, .int x2)], [.int 0], gh S a b (upd sc 4901 0) ar lo, ex, 0, 0)) rfl ?_
        exact to_rt (i := .ireturn) (tg := []) rfl rfl ⟨_, _, _, ⟨hI1, hF1, trivial⟩, rfl⟩
      · refine to_ialR (i := n3) (v := (nI n6)) rfl (by decide) rfl (by omega) (by omega) e6 ?_
        refine to_n 1 (fr' := (99, [(0, .ref 49), (1, .int (nI n3)), (2, .int x2)], [.int (-1), .int (nI n6)], gh S a b (upd sc 4901 0) ar lo, ex, 0, 0)) rfl ?_
        refine to_ic_eq_F (t := 115) (x := (nI n6)) (y := (-1)) rfl (nI_neg (by omega) (by decide)) ?_
        refine to_n 1 (fr' := (103, [(0, .ref 49), (1, .int (nI n3)), (2, .int x2)], [.ref 49], gh S a b (upd sc 4901 0) ar lo, ex, 0, 0)) rfl ?_
        refine to_get rfl rfl rfl rfl ?_
        refine to_n 1 (fr' := (107, [(0, .ref 49), (1, .int (nI n3)), (2, .int x2)], [.int (nI n3), .ref 66], gh S a b (upd sc 4901 0) ar lo, ex, 0, 0)) rfl ?_
        refine to_zalR (i := n3) (v := ((ar 66) n3)) rfl rfl (by omega) (by omega) rfl ?_
        refine to_if_eq (t := 115) rfl (fun q7 => ?_) (fun q7 => ?_)
        · refine to_n 1 (fr' := (116, [(0, .ref 49), (1, .int (nI n3)), (2, .int x2)], [.int 0], gh S a b (upd sc 4901 0) ar lo, ex, 0, 0)) rfl ?_
          exact to_rt (i := .ireturn) (tg := []) rfl rfl ⟨_, _, _, ⟨hI1, hF1, trivial⟩, rfl⟩
        · refine to_n 2 (fr' := (116, [(0, .ref 49), (1, .int (nI n3)), (2, .int x2)], [.int 1], gh S a b (upd sc 4901 0) ar lo, ex, 0, 0)) rfl ?_
          exact to_rt (i := .ireturn) (tg := []) rfl rfl ⟨_, _, _, ⟨hI1, hF1, trivial⟩, rfl⟩
    · refine to_eq (fr' := (117, [(0, .ref 49), (1, .int (nI n3)), (2, .int x2)], [], gh S a b (upd sc 4901 0) ar lo, ex, 0, 0)) rfl ?_
      refine to_n 1 (fr' := (118, [(0, .ref 49), (1, .int (nI n3)), (2, .int x2)], [.ref 49], gh S a b (upd sc 4901 0) ar lo, ex, 0, 0)) rfl ?_
      refine to_get rfl rfl rfl rfl ?_
      refine to_n 1 (fr' := (122, [(0, .ref 49), (1, .int (nI n3)), (2, .int x2)], [.int (nI n3), .ref 63], gh S a b (upd sc 4901 0) ar lo, ex, 0, 0)) rfl ?_
      refine to_ialR (i := n3) (v := ((ar 63) n3)) rfl (by decide) rfl (by omega) (by omega) rfl ?_
      exact to_rt (i := .ireturn) (tg := []) rfl rfl ⟨_, _, _, ⟨hI1, hF1, trivial⟩, rfl⟩
    · refine to_eq (fr' := (124, [(0, .ref 49), (1, .int (nI n3)), (2, .int x2)], [], gh S a b (upd sc 4901 0) ar lo, ex, 0, 0)) rfl ?_
      refine to_n 1 (fr' := (125, [(0, .ref 49), (1, .int (nI n3)), (2, .int x2)], [.ref 49], gh S a b (upd sc 4901 0) ar lo, ex, 0, 0)) rfl ?_
      refine to_get rfl rfl rfl rfl ?_
      refine to_n 1 (fr' := (129, [(0, .ref 49), (1, .int (nI n3)), (2, .int x2)], [.int (nI n3), .ref 64], gh S a b (upd sc 4901 0) ar lo, ex, 0, 0)) rfl ?_
      refine to_ialR (i := n3) (v := ((ar 64) n3)) rfl (by decide) rfl (by omega) (by omega) rfl ?_
      exact to_rt (i := .ireturn) (tg := []) rfl rfl ⟨_, _, _, ⟨hI1, hF1, trivial⟩, rfl⟩
    · refine to_eq (fr' := (131, [(0, .ref 49), (1, .int (nI n3)), (2, .int x2)], [], gh S a b (upd sc 4901 0) ar lo, ex, 0, 0)) rfl ?_
      refine to_n 1 (fr' := (132, [(0, .ref 49), (1, .int (nI n3)), (2, .int x2)], [.ref 49], gh S a b (upd sc 4901 0) ar lo, ex, 0, 0)) rfl ?_
      refine to_get rfl rfl rfl rfl ?_
      refine to_n 1 (fr' := (136, [(0, .ref 49), (1, .int (nI n3)), (2, .int x2)], [.int (nI n3), .ref 65], gh S a b (upd sc 4901 0) ar lo, ex, 0, 0)) rfl ?_
      refine to_ialR (i := n3) (v := ((ar 65) n3)) rfl (by decide) rfl (by omega) (by omega) rfl ?_
      exact to_rt (i := .ireturn) (tg := []) rfl rfl ⟨_, _, _, ⟨hI1, hF1, trivial⟩, rfl⟩
    · refine to_eq (fr' := (138, [(0, .ref 49), (1, .int (nI n3)), (2, .int x2)], [], gh S a b (upd sc 4901 0) ar lo, ex, 0, 0)) rfl ?_
      refine to_n 1 (fr' := (139, [(0, .ref 49), (1, .int (nI n3)), (2, .int x2)], [.ref 49], gh S a b (upd sc 4901 0) ar lo, ex, 0, 0)) rfl ?_
      refine to_ci (q := 108) (M1 := an_X10_fail) (rest := []) rfl rfl (by decide) rfl ⟨_, rfl⟩ (sf_X10_fail hW hI1  d) (fun x8 sc8 ar8 hx8 => ?_)
      obtain ⟨hI8, hG8, hx8⟩ := hx8
      have hF8 := fr_t hF1 hG8 (by decide) (by decide)
      have hp8 := hx8
      refine to_eq (fr' := (142, [(0, .ref 49), (1, .int (nI n3)), (2, .int x2)], [.int x8], gh S a b sc8 ar8 lo, ex, 0, 0)) rfl ?_
      exact to_rt (i := .ireturn) (tg := []) rfl rfl ⟨_, _, _, ⟨hI8, hF8, trivial⟩, rfl⟩
  · refine to_cp (q := 110) (M1 := an_X10_isCompany) (rest := []) rfl rfl (by decide) rfl ⟨_, rfl⟩ (mc_isCompany_0 e2 w3 d) (fun x3 hx3 => ?_)
    obtain rfl := hx3
    refine to_eq (fr' := (10, [(0, .ref 49), (1, .int x1), (2, .int x2)], [.int 0], gh S a b (upd sc 4901 0) ar lo, ex, 0, 0)) rfl ?_
    refine to_n 2 (fr' := (14, [(0, .ref 49), (1, .int x1), (2, .int x2)], [.ref 49], gh S a b (upd sc 4901 0) ar lo, ex, 0, 0)) rfl ?_
    refine to_ci (q := 108) (M1 := an_X10_fail) (rest := []) rfl rfl (by decide) rfl ⟨_, rfl⟩ (sf_X10_fail hW hI1  d) (fun x9 sc9 ar9 hx9 => ?_)
    obtain ⟨hI9, hG9, hx9⟩ := hx9
    have hF9 := fr_t hF1 hG9 (by decide) (by decide)
    have hp9 := hx9
    refine to_eq (fr' := (17, [(0, .ref 49), (1, .int x1), (2, .int x2)], [.int x9], gh S a b sc9 ar9 lo, ex, 0, 0)) rfl ?_
    exact to_rt (i := .ireturn) (tg := []) rfl rfl ⟨_, _, _, ⟨hI9, hF9, trivial⟩, rfl⟩
set_option maxRecDepth 20000 in
theorem sf_X10_breaks {X : Nat × (Nat → Int32)} {S a b : Nat} {sc : Nat → Int32} {ar : Nat → Nat → Int32} {lo : Nat → Int64} {ex : Bool} (hW : Wd S a b) (hI : Iv S sc ar) (x1 : Int32) (d : Nat)  : ci X S a b (d + 5) 164 [.ref 49, .int x1] sc ar lo ex (fun x sc' ar' => Iv S sc' ar' ∧ Fr [4901, 4952] [77, 78, 79, 80, 81, 82, 83, 84] sc ar sc' ar' ∧ True) := by
  obtain ⟨ha1, ha8, hb1, hb8, hab, hS1, hS⟩ := id hW
  refine ci_of (M := an_X10_breaks) rfl (Nat.le_of_ble_eq_true rfl) ?_
  have hF : Fr [4901, 4952] [77, 78, 79, 80, 81, 82, 83, 84] sc ar sc ar := fr_0
  refine to_eq (fr' := (0, [(0, .ref 49), (1, .int x1)], [], gh S a b sc ar lo, ex, 0, 0)) rfl ?_
  have c71 : ∀ m : Nat, ∀ (t1 : Nat) (lf : Nat) (i : Nat) (cu : Nat) (sc1 : Nat → Int32) (ar1 : Nat → Nat → Int32), i + m = S → sc1 4952 = nI cu → t1 < S → lf < 6 → cu ≤ i → Iv S sc1 ar1 → Fr [4901, 4952] [77, 78, 79, 80, 81, 82, 83, 84] sc ar sc1 ar1 → ag_To X (d + 4) an_X10_breaks (71, [(0, .ref 49), (1, .int (nI t1)), (2, .int (nI lf)), (3, .int (nI i))], [], gh S a b sc1 ar1 lo, ex, 0, 0) (qi S a b lo ex (fun x sc' ar' => Iv S sc' ar' ∧ Fr [4901, 4952] [77, 78, 79, 80, 81, 82, 83, 84] sc ar sc' ar' ∧ True)) := by
    intro m
    induction m with
    | zero =>
      intro t1 lf i cu sc1 ar1 hm hc71_0 hc71_1 hc71_2 hc71_3 hI1 hF1
      refine to_n 2 (fr' := (73, [(0, .ref 49), (1, .int (nI t1)), (2, .int (nI lf)), (3, .int (nI i))], [.ref 49, .int (nI i)], gh S a b sc1 ar1 lo, ex, 0, 0)) rfl ?_
      refine to_get rfl rfl rfl rfl ?_
      refine to_n 1 (fr' := (77, [(0, .ref 49), (1, .int (nI t1)), (2, .int (nI lf)), (3, .int (nI i))], [.ref 49, .int (nI a), .int (nI i)], gh S a b sc1 ar1 lo, ex, 0, 0)) rfl ?_
      refine to_get rfl rfl rfl rfl ?_
      refine to_mulN (x := a) (y := b) rfl ?_
      rw [hab]
      refine to_nc_ge_T (t := 162) (x := i) (y := S) rfl (by omega) (by omega) (by omega) ?_
      refine to_n 1 (fr' := (163, [(0, .ref 49), (1, .int (nI t1)), (2, .int (nI lf)), (3, .int (nI i))], [.ref 49], gh S a b sc1 ar1 lo, ex, 0, 0)) rfl ?_
      refine to_getR (v := (nI cu)) rfl rfl rfl rfl hc71_0 ?_
      exact to_rt (i := .ireturn) (tg := []) rfl rfl ⟨_, _, _, ⟨hI1, hF1, trivial⟩, rfl⟩
    | succ m ih =>
      intro t1 lf i cu sc1 ar1 hm hc71_0 hc71_1 hc71_2 hc71_3 hI1 hF1
      refine to_n 2 (fr' := (73, [(0, .ref 49), (1, .int (nI t1)), (2, .int (nI lf)), (3, .int (nI i))], [.ref 49, .int (nI i)], gh S a b sc1 ar1 lo, ex, 0, 0)) rfl ?_
      refine to_get rfl rfl rfl rfl ?_
      refine to_n 1 (fr' := (77, [(0, .ref 49), (1, .int (nI t1)), (2, .int (nI lf)), (3, .int (nI i))], [.ref 49, .int (nI a), .int (nI i)], gh S a b sc1 ar1 lo, ex, 0, 0)) rfl ?_
      refine to_get rfl rfl rfl rfl ?_
      refine to_mulN (x := a) (y := b) rfl ?_
      rw [hab]
      refine to_nc_ge_F (t := 162) (x := i) (y := S) rfl (by omega) (by omega) (by omega) ?_
      refine to_n 1 (fr' := (85, [(0, .ref 49), (1, .int (nI t1)), (2, .int (nI lf)), (3, .int (nI i))], [.int (nI lf)], gh S a b sc1 ar1 lo, ex, 0, 0)) rfl ?_
      refine to_nf_le (t := 162) (x := lf) rfl (by omega) (fun q2 => ?_) (fun q2 => ?_)
      · refine to_n 1 (fr' := (163, [(0, .ref 49), (1, .int (nI t1)), (2, .int (nI lf)), (3, .int (nI i))], [.ref 49], gh S a b sc1 ar1 lo, ex, 0, 0)) rfl ?_
        refine to_getR (v := (nI cu)) rfl rfl rfl rfl hc71_0 ?_
        exact to_rt (i := .ireturn) (tg := []) rfl rfl ⟨_, _, _, ⟨hI1, hF1, trivial⟩, rfl⟩
      · refine to_n 1 (fr' := (89, [(0, .ref 49), (1, .int (nI t1)), (2, .int (nI lf)), (3, .int (nI i))], [.ref 49], gh S a b sc1 ar1 lo, ex, 0, 0)) rfl ?_
        refine to_get rfl rfl rfl rfl ?_
        refine to_n 1 (fr' := (93, [(0, .ref 49), (1, .int (nI t1)), (2, .int (nI lf)), (3, .int (nI i))], [.int (nI i), .ref 51], gh S a b sc1 ar1 lo, ex, 0, 0)) rfl ?_
        refine to_ialR (i := i) (v := ((ar1 51) i)) rfl (by decide) rfl (by omega) (by omega) rfl ?_
        refine to_if_ne (t := 156) rfl (fun q3 => ?_) (fun q3 => ?_)
        · refine to_n 1 (fr' := (159, [(0, .ref 49), (1, .int (nI t1)), (2, .int (nI lf)), (3, .int ((nI i) + 1))], [], gh S a b sc1 ar1 lo, ex, 0, 0)) rfl ?_
          rw [nI_1 i]
          refine to_n 1 (fr' := (71, [(0, .ref 49), (1, .int (nI t1)), (2, .int (nI lf)), (3, .int (nI (i + 1)))], [], gh S a b sc1 ar1 lo, ex, 0, 0)) rfl ?_
          exact ih t1 lf (i + 1) cu sc1 ar1 (by omega) (hc71_0) (by omega) (by omega) (by omega) hI1 hF1
        · refine to_n 2 (fr' := (99, [(0, .ref 49), (1, .int (nI t1)), (2, .int (nI lf)), (3, .int (nI i))], [.int (nI t1), .int (nI i)], gh S a b sc1 ar1 lo, ex, 0, 0)) rfl ?_
          refine to_nc_ne (t := 105) (x := i) (y := t1) rfl (by omega) (by omega) (fun q4 => ?_) (fun q4 => ?_)
          · refine to_n 1 (fr' := (106, [(0, .ref 49), (1, .int (nI t1)), (2, .int (nI lf)), (3, .int (nI i))], [.ref 49], gh S a b sc1 ar1 lo, ex, 0, 0)) rfl ?_
            refine to_get rfl rfl rfl rfl ?_
            refine to_n 2 (fr' := (111, [(0, .ref 49), (1, .int (nI t1)), (2, .int (nI lf)), (3, .int (nI i))], [.int 1, .int (nI i), .ref 77], gh S a b sc1 ar1 lo, ex, 0, 0)) rfl ?_
            refine to_zasR (i := i) (h' := gh S a b sc1 (uA ar1 77 (upd (ar1 77) i (vp_nar .boolean 1))) lo) rfl rfl (by omega) (by omega) rfl ?_
            have hI5 := ia_77 (g := (upd (ar1 77) i (vp_nar .boolean 1))) hI1
            have hF5 := fr_a (c := 77) (g := (upd (ar1 77) i (vp_nar .boolean 1))) hF1 (by decide)
            refine to_n 2 (fr' := (114, [(0, .ref 49), (1, .int (nI t1)), (2, .int (nI lf)), (3, .int (nI i))], [.int (nI t1), .ref 49], gh S a b sc1 (uA ar1 77 (upd (ar1 77) i (vp_nar .boolean 1))) lo, ex, 0, 0)) rfl ?_
            refine to_ci (q := 163) (M1 := an_X10_least) (rest := []) rfl rfl (by decide) rfl ⟨_, rfl⟩ (sf_X10_least hW hI5 (nI t1) d) (fun x6 sc6 ar6 hx6 => ?_)
            obtain ⟨hI6, hG6, hx6⟩ := hx6
            have hF6 := fr_t hF5 hG6 (by decide) (by decide)
            have k6_4952 : sc6 4952 = (nI cu) := (hG6.1 4952 (by decide)).trans hc71_0
            obtain ⟨n6, hn6, rfl⟩ := hx6
            refine to_eq (fr' := (117, [(0, .ref 49), (1, .int (nI t1)), (2, .int (nI lf)), (3, .int (nI i))], [.int (nI n6)], gh S a b sc6 ar6 lo, ex, 0, 0)) rfl ?_
            refine to_n 2 (fr' := (119, [(0, .ref 49), (1, .int (nI t1)), (2, .int (nI lf)), (3, .int (nI i))], [.int 1, .int (nI lf), .int (nI n6)], gh S a b sc6 ar6 lo, ex, 0, 0)) rfl ?_
            refine to_subN (x := lf) (y := 1) rfl (by omega) ?_
            refine to_nc_ne (t := 149) (x := n6) (y := (lf - 1)) rfl (by omega) (by omega) (fun q7 => ?_) (fun q7 => ?_)
            · refine to_n 1 (fr' := (150, [(0, .ref 49), (1, .int (nI t1)), (2, .int (nI lf)), (3, .int (nI i))], [.ref 49], gh S a b sc6 ar6 lo, ex, 0, 0)) rfl ?_
              refine to_get rfl rfl rfl rfl ?_
              refine to_n 2 (fr' := (155, [(0, .ref 49), (1, .int (nI t1)), (2, .int (nI lf)), (3, .int (nI i))], [.int 0, .int (nI i), .ref 77], gh S a b sc6 ar6 lo, ex, 0, 0)) rfl ?_
              refine to_zasR (i := i) (h' := gh S a b sc6 (uA ar6 77 (upd (ar6 77) i (vp_nar .boolean 0))) lo) rfl rfl (by omega) (by omega) rfl ?_
              have hI8 := ia_77 (g := (upd (ar6 77) i (vp_nar .boolean 0))) hI6
              have hF8 := fr_a (c := 77) (g := (upd (ar6 77) i (vp_nar .boolean 0))) hF6 (by decide)
              refine to_n 1 (fr' := (159, [(0, .ref 49), (1, .int (nI t1)), (2, .int (nI lf)), (3, .int ((nI i) + 1))], [], gh S a b sc6 (uA ar6 77 (upd (ar6 77) i (vp_nar .boolean 0))) lo, ex, 0, 0)) rfl ?_
              rw [nI_1 i]
              refine to_n 1 (fr' := (71, [(0, .ref 49), (1, .int (nI t1)), (2, .int (nI lf)), (3, .int (nI (i + 1)))], [], gh S a b sc6 (uA ar6 77 (upd (ar6 77) i (vp_nar .boolean 0))) lo, ex, 0, 0)) rfl ?_
              exact ih t1 lf (i + 1) cu sc6 (uA ar6 77 (upd (ar6 77) i (vp_nar .boolean 0))) (by omega) (k6_4952) (by omega) (by omega) (by omega) hI8 hF8
            · refine to_n 1 (fr' := (124, [(0, .ref 49), (1, .int (nI t1)), (2, .int (nI lf)), (3, .int (nI i))], [.ref 49], gh S a b sc6 ar6 lo, ex, 0, 0)) rfl ?_
              refine to_get rfl rfl rfl rfl ?_
              refine to_n 1 (fr' := (128, [(0, .ref 49), (1, .int (nI t1)), (2, .int (nI lf)), (3, .int (nI i))], [.ref 49, .ref 78], gh S a b sc6 ar6 lo, ex, 0, 0)) rfl ?_
              refine to_getR (v := (nI cu)) rfl rfl rfl rfl k6_4952 ?_
              refine to_n 1 (fr' := (132, [(0, .ref 49), (1, .int (nI t1)), (2, .int (nI lf)), (3, .int (nI i))], [.int (nI i), .int (nI cu), .ref 78], gh S a b sc6 ar6 lo, ex, 0, 0)) rfl ?_
              refine to_iasR (i := cu) (h' := gh S a b sc6 (uA ar6 78 (upd (ar6 78) cu (nI i))) lo) rfl rfl (by omega) (by omega) rfl ?_
              have hI9 := ia_78 (g := (upd (ar6 78) cu (nI i))) hI6
              have hF9 := fr_a (c := 78) (g := (upd (ar6 78) cu (nI i))) hF6 (by decide)
              refine to_n 2 (fr' := (135, [(0, .ref 49), (1, .int (nI t1)), (2, .int (nI lf)), (3, .int (nI i))], [.ref 49, .ref 49], gh S a b sc6 (uA ar6 78 (upd (ar6 78) cu (nI i))) lo, ex, 0, 0)) rfl ?_
              refine to_getR (v := (nI cu)) rfl rfl rfl rfl k6_4952 ?_
              refine to_n 1 (fr' := (139, [(0, .ref 49), (1, .int (nI t1)), (2, .int (nI lf)), (3, .int (nI i))], [.int 1, .int (nI cu), .ref 49], gh S a b sc6 (uA ar6 78 (upd (ar6 78) cu (nI i))) lo, ex, 0, 0)) rfl ?_
              refine to_addN (x := cu) (y := 1) rfl ?_
              refine to_putR (h' := gh S a b (upd sc6 4952 (nI (cu + 1))) (uA ar6 78 (upd (ar6 78) cu (nI i))) lo) rfl rfl rfl (Nat.le_of_ble_eq_true rfl) rfl rfl ?_
              have hI10 := ip_4952 (v := (nI (cu + 1))) hI9 (rl_n (n := (cu + 1)) (by omega))
              have hF10 := fr_s (k := 4952) (v := (nI (cu + 1))) hF9 (by decide)
              refine to_n 1 (fr' := (146, [(0, .ref 49), (1, .int (nI t1)), (2, .int ((nI lf) + (-1))), (3, .int (nI i))], [], gh S a b (upd sc6 4952 (nI (cu + 1))) (uA ar6 78 (upd (ar6 78) cu (nI i))) lo, ex, 0, 0)) rfl ?_
              rw [nI_dec (show 1 ≤ lf by omega)]
              refine to_n 2 (fr' := (159, [(0, .ref 49), (1, .int (nI t1)), (2, .int (nI (lf - 1))), (3, .int ((nI i) + 1))], [], gh S a b (upd sc6 4952 (nI (cu + 1))) (uA ar6 78 (upd (ar6 78) cu (nI i))) lo, ex, 0, 0)) rfl ?_
              rw [nI_1 i]
              refine to_n 1 (fr' := (71, [(0, .ref 49), (1, .int (nI t1)), (2, .int (nI (lf - 1))), (3, .int (nI (i + 1)))], [], gh S a b (upd sc6 4952 (nI (cu + 1))) (uA ar6 78 (upd (ar6 78) cu (nI i))) lo, ex, 0, 0)) rfl ?_
              exact ih t1 (lf - 1) (i + 1) (cu + 1) (upd sc6 4952 (nI (cu + 1))) (uA ar6 78 (upd (ar6 78) cu (nI i))) (by omega) (rfl) (by omega) (by omega) (by omega) hI10 hF10
          · refine to_n 2 (fr' := (159, [(0, .ref 49), (1, .int (nI t1)), (2, .int (nI lf)), (3, .int ((nI i) + 1))], [], gh S a b sc1 ar1 lo, ex, 0, 0)) rfl ?_
            rw [nI_1 i]
            refine to_n 1 (fr' := (71, [(0, .ref 49), (1, .int (nI t1)), (2, .int (nI lf)), (3, .int (nI (i + 1)))], [], gh S a b sc1 ar1 lo, ex, 0, 0)) rfl ?_
            exact ih t1 lf (i + 1) cu sc1 ar1 (by omega) (hc71_0) (by omega) (by omega) (by omega) hI1 hF1
  have c39 : ∀ m : Nat, ∀ (t1 : Nat) (i : Nat) (sc11 : Nat → Int32) (ar11 : Nat → Nat → Int32), i + m = 64 → t1 < S → Iv S sc11 ar11 → Fr [4901, 4952] [77, 78, 79, 80, 81, 82, 83, 84] sc ar sc11 ar11 → ag_To X (d + 4) an_X10_breaks (39, [(0, .ref 49), (1, .int (nI t1)), (2, .int (nI i))], [], gh S a b sc11 ar11 lo, ex, 0, 0) (qi S a b lo ex (fun x sc' ar' => Iv S sc' ar' ∧ Fr [4901, 4952] [77, 78, 79, 80, 81, 82, 83, 84] sc ar sc' ar' ∧ True)) := by
    intro m
    induction m with
    | zero =>
      intro t1 i sc11 ar11 hm hc39_0 hI11 hF11
      refine to_n 2 (fr' := (42, [(0, .ref 49), (1, .int (nI t1)), (2, .int (nI i))], [.int 64, .int (nI i)], gh S a b sc11 ar11 lo, ex, 0, 0)) rfl ?_
      refine to_nc_ge_T (t := 58) (x := i) (y := 64) rfl (by omega) (by omega) (by omega) ?_
      refine to_n 2 (fr' := (60, [(0, .ref 49), (1, .int (nI t1)), (2, .int (nI i))], [.int (nI t1), .ref 49], gh S a b sc11 ar11 lo, ex, 0, 0)) rfl ?_
      refine to_ci (q := 163) (M1 := an_X10_least) (rest := []) rfl rfl (by decide) rfl ⟨_, rfl⟩ (sf_X10_least hW hI11 (nI t1) d) (fun x12 sc12 ar12 hx12 => ?_)
      obtain ⟨hI12, hG12, hx12⟩ := hx12
      have hF12 := fr_t hF11 hG12 (by decide) (by decide)
      obtain ⟨n12, hn12, rfl⟩ := hx12
      refine to_eq (fr' := (63, [(0, .ref 49), (1, .int (nI t1)), (2, .int (nI i))], [.int (nI n12)], gh S a b sc12 ar12 lo, ex, 0, 0)) rfl ?_
      refine to_n 3 (fr' := (66, [(0, .ref 49), (1, .int (nI t1)), (2, .int (nI n12))], [.int 0, .ref 49], gh S a b sc12 ar12 lo, ex, 0, 0)) rfl ?_
      refine to_putR (h' := gh S a b (upd sc12 4952 0) ar12 lo) rfl rfl rfl (Nat.le_of_ble_eq_true rfl) rfl rfl ?_
      have hI13 := ip_4952 (v := 0) hI12 (rl_n (n := 0) (by omega))
      have hF13 := fr_s (k := 4952) (v := 0) hF12 (by decide)
      refine to_n 2 (fr' := (71, [(0, .ref 49), (1, .int (nI t1)), (2, .int (nI n12)), (3, .int 0)], [], gh S a b (upd sc12 4952 0) ar12 lo, ex, 0, 0)) rfl ?_
      exact c71 (S - 0) t1 n12 0 0 (upd sc12 4952 0) ar12 (by omega) (rfl) (by omega) (by omega) (by omega) hI13 hF13
    | succ m ih =>
      intro t1 i sc11 ar11 hm hc39_0 hI11 hF11
      refine to_n 2 (fr' := (42, [(0, .ref 49), (1, .int (nI t1)), (2, .int (nI i))], [.int 64, .int (nI i)], gh S a b sc11 ar11 lo, ex, 0, 0)) rfl ?_
      refine to_nc_ge_F (t := 58) (x := i) (y := 64) rfl (by omega) (by omega) (by omega) ?_
      refine to_n 1 (fr' := (46, [(0, .ref 49), (1, .int (nI t1)), (2, .int (nI i))], [.ref 49], gh S a b sc11 ar11 lo, ex, 0, 0)) rfl ?_
      refine to_get rfl rfl rfl rfl ?_
      refine to_n 2 (fr' := (51, [(0, .ref 49), (1, .int (nI t1)), (2, .int (nI i))], [.int 0, .int (nI i), .ref 77], gh S a b sc11 ar11 lo, ex, 0, 0)) rfl ?_
      refine to_zasR (i := i) (h' := gh S a b sc11 (uA ar11 77 (upd (ar11 77) i (vp_nar .boolean 0))) lo) rfl rfl (by omega) (by omega) rfl ?_
      have hI14 := ia_77 (g := (upd (ar11 77) i (vp_nar .boolean 0))) hI11
      have hF14 := fr_a (c := 77) (g := (upd (ar11 77) i (vp_nar .boolean 0))) hF11 (by decide)
      refine to_n 1 (fr' := (55, [(0, .ref 49), (1, .int (nI t1)), (2, .int ((nI i) + 1))], [], gh S a b sc11 (uA ar11 77 (upd (ar11 77) i (vp_nar .boolean 0))) lo, ex, 0, 0)) rfl ?_
      rw [nI_1 i]
      refine to_n 1 (fr' := (39, [(0, .ref 49), (1, .int (nI t1)), (2, .int (nI (i + 1)))], [], gh S a b sc11 (uA ar11 77 (upd (ar11 77) i (vp_nar .boolean 0))) lo, ex, 0, 0)) rfl ?_
      exact ih t1 (i + 1) sc11 (uA ar11 77 (upd (ar11 77) i (vp_nar .boolean 0))) (by omega) (by omega) hI14 hF14
  refine to_n 2 (fr' := (2, [(0, .ref 49), (1, .int x1)], [.int 0, .ref 49], gh S a b sc ar lo, ex, 0, 0)) rfl ?_
  refine to_putR (h' := gh S a b (upd sc 4901 0) ar lo) rfl rfl rfl (Nat.le_of_ble_eq_true rfl) rfl rfl ?_
  have hI15 := ip_4901 (v := 0) hI 
  have hF15 := fr_s (k := 4901) (v := 0) hF (by decide)
  refine to_n 2 (fr' := (7, [(0, .ref 49), (1, .int x1)], [.int x1, .ref 49], gh S a b (upd sc 4901 0) ar lo, ex, 0, 0)) rfl ?_
  rcases has_or (x := x1) (B := S) (by omega) with ⟨n16, hn16, e16⟩ | w16
  · rw [e16]
    refine to_cp (q := 109) (M1 := an_X10_isCell) (rest := []) rfl rfl (by decide) rfl ⟨_, rfl⟩ (mc_isCell_1 (n := n16) hW (by omega) (d + 3)) (fun x16 hx16 => ?_)
    obtain rfl := hx16
    refine to_eq (fr' := (10, [(0, .ref 49), (1, .int (nI n16))], [.int 1], gh S a b (upd sc 4901 0) ar lo, ex, 0, 0)) rfl ?_
    refine to_n 2 (fr' := (19, [(0, .ref 49), (1, .int (nI n16))], [.ref 49], gh S a b (upd sc 4901 0) ar lo, ex, 0, 0)) rfl ?_
    refine to_get rfl rfl rfl rfl ?_
    refine to_n 1 (fr' := (23, [(0, .ref 49), (1, .int (nI n16))], [.int (nI n16), .ref 51], gh S a b (upd sc 4901 0) ar lo, ex, 0, 0)) rfl ?_
    refine to_ialR (i := n16) (v := ((ar 51) n16)) rfl (by decide) rfl (by omega) (by omega) rfl ?_
    refine to_if_ne (t := 35) rfl (fun q17 => ?_) (fun q17 => ?_)
    · refine to_n 1 (fr' := (36, [(0, .ref 49), (1, .int (nI n16))], [.int (-1)], gh S a b (upd sc 4901 0) ar lo, ex, 0, 0)) rfl ?_
      exact to_rt (i := .ireturn) (tg := []) rfl rfl ⟨_, _, _, ⟨hI15, hF15, trivial⟩, rfl⟩
    · refine to_n 2 (fr' := (29, [(0, .ref 49), (1, .int (nI n16))], [.int (nI n16), .ref 49], gh S a b (upd sc 4901 0) ar lo, ex, 0, 0)) rfl ?_
      refine to_cp (q := 159) (M1 := an_X10_isSource) (rest := []) rfl rfl (by decide) rfl ⟨_, rfl⟩ (sf_X10_isSource hW hI15 n16 (by omega) (d + 2)) (fun x18 hx18 => ?_)
      obtain ⟨n18, hn18, rfl⟩ := hx18
      refine to_eq (fr' := (32, [(0, .ref 49), (1, .int (nI n16))], [.int (nI n18)], gh S a b (upd sc 4901 0) ar lo, ex, 0, 0)) rfl ?_
      refine to_nf_eq (t := 37) (x := n18) rfl (by omega) (fun q19 => ?_) (fun q19 => ?_)
      · refine to_n 2 (fr' := (39, [(0, .ref 49), (1, .int (nI n16)), (2, .int 0)], [], gh S a b (upd sc 4901 0) ar lo, ex, 0, 0)) rfl ?_
        exact c39 (64 - 0) n16 0 (upd sc 4901 0) ar (by omega) (by omega) hI15 hF15
      · refine to_n 1 (fr' := (36, [(0, .ref 49), (1, .int (nI n16))], [.int (-1)], gh S a b (upd sc 4901 0) ar lo, ex, 0, 0)) rfl ?_
        exact to_rt (i := .ireturn) (tg := []) rfl rfl ⟨_, _, _, ⟨hI15, hF15, trivial⟩, rfl⟩
  · refine to_cp (q := 109) (M1 := an_X10_isCell) (rest := []) rfl rfl (by decide) rfl ⟨_, rfl⟩ (mc_isCell_0 hW w16 (d + 3)) (fun x16 hx16 => ?_)
    obtain rfl := hx16
    refine to_eq (fr' := (10, [(0, .ref 49), (1, .int x1)], [.int 0], gh S a b (upd sc 4901 0) ar lo, ex, 0, 0)) rfl ?_
    refine to_n 2 (fr' := (14, [(0, .ref 49), (1, .int x1)], [.ref 49], gh S a b (upd sc 4901 0) ar lo, ex, 0, 0)) rfl ?_
    refine to_ci (q := 108) (M1 := an_X10_fail) (rest := []) rfl rfl (by decide) rfl ⟨_, rfl⟩ (sf_X10_fail hW hI15  (d + 3)) (fun x20 sc20 ar20 hx20 => ?_)
    obtain ⟨hI20, hG20, hx20⟩ := hx20
    have hF20 := fr_t hF15 hG20 (by decide) (by decide)
    have hp20 := hx20
    refine to_eq (fr' := (17, [(0, .ref 49), (1, .int x1)], [.int x20], gh S a b sc20 ar20 lo, ex, 0, 0)) rfl ?_
    exact to_rt (i := .ireturn) (tg := []) rfl rfl ⟨_, _, _, ⟨hI20, hF20, trivial⟩, rfl⟩
set_option maxRecDepth 20000 in
theorem sf_X10_breaker {X : Nat × (Nat → Int32)} {S a b : Nat} {sc : Nat → Int32} {ar : Nat → Nat → Int32} {lo : Nat → Int64} {ex : Bool} (hW : Wd S a b) (hI : Iv S sc ar) (x1 : Int32) (d : Nat)  : ci X S a b (d + 2) 165 [.ref 49, .int x1] sc ar lo ex (fun x sc' ar' => Iv S sc' ar' ∧ Fr [4901] [] sc ar sc' ar' ∧ True) := by
  obtain ⟨ha1, ha8, hb1, hb8, hab, hS1, hS⟩ := id hW
  refine ci_of (M := an_X10_breaker) rfl (Nat.le_of_ble_eq_true rfl) ?_
  have hF : Fr [4901] [] sc ar sc ar := fr_0
  refine to_eq (fr' := (0, [(0, .ref 49), (1, .int x1)], [], gh S a b sc ar lo, ex, 0, 0)) rfl ?_
  refine to_n 2 (fr' := (2, [(0, .ref 49), (1, .int x1)], [.int 0, .ref 49], gh S a b sc ar lo, ex, 0, 0)) rfl ?_
  refine to_putR (h' := gh S a b (upd sc 4901 0) ar lo) rfl rfl rfl (Nat.le_of_ble_eq_true rfl) rfl rfl ?_
  have hI1 := ip_4901 (v := 0) hI 
  have hF1 := fr_s (k := 4901) (v := 0) hF (by decide)
  refine to_n 1 (fr' := (6, [(0, .ref 49), (1, .int x1)], [.int x1], gh S a b (upd sc 4901 0) ar lo, ex, 0, 0)) rfl ?_
  refine to_if_lt (t := 17) rfl (fun q2 => ?_) (fun q2 => ?_)
  · refine to_n 1 (fr' := (18, [(0, .ref 49), (1, .int x1)], [.ref 49], gh S a b (upd sc 4901 0) ar lo, ex, 0, 0)) rfl ?_
    refine to_ci (q := 108) (M1 := an_X10_fail) (rest := []) rfl rfl (by decide) rfl ⟨_, rfl⟩ (sf_X10_fail hW hI1  d) (fun x4 sc4 ar4 hx4 => ?_)
    obtain ⟨hI4, hG4, hx4⟩ := hx4
    have hF4 := fr_t hF1 hG4 (by decide) (by decide)
    have hp4 := hx4
    refine to_eq (fr' := (21, [(0, .ref 49), (1, .int x1)], [.int x4], gh S a b sc4 ar4 lo, ex, 0, 0)) rfl ?_
    refine to_n 1 (fr' := (30, [(0, .ref 49), (1, .int x1)], [.int x4], gh S a b sc4 ar4 lo, ex, 0, 0)) rfl ?_
    exact to_rt (i := .ireturn) (tg := []) rfl rfl ⟨_, _, _, ⟨hI4, hF4, trivial⟩, rfl⟩
  · obtain ⟨n3, hn3, e3⟩ := nI_of q2
    rw [e3]
    refine to_eq (fr' := (9, [(0, .ref 49), (1, .int (nI n3))], [], gh S a b (upd sc 4901 0) ar lo, ex, 0, 0)) rfl ?_
    refine to_n 2 (fr' := (11, [(0, .ref 49), (1, .int (nI n3))], [.ref 49, .int (nI n3)], gh S a b (upd sc 4901 0) ar lo, ex, 0, 0)) rfl ?_
    obtain ⟨n5, hn5, e5⟩ := iv_s4952 hI1
    refine to_getR (v := (nI n5)) rfl rfl rfl rfl e5 ?_
    refine to_nc_lt (t := 24) (x := n3) (y := n5) rfl (by omega) (by omega) (fun q6 => ?_) (fun q6 => ?_)
    · refine to_n 1 (fr' := (25, [(0, .ref 49), (1, .int (nI n3))], [.ref 49], gh S a b (upd sc 4901 0) ar lo, ex, 0, 0)) rfl ?_
      refine to_get rfl rfl rfl rfl ?_
      refine to_n 1 (fr' := (29, [(0, .ref 49), (1, .int (nI n3))], [.int (nI n3), .ref 78], gh S a b (upd sc 4901 0) ar lo, ex, 0, 0)) rfl ?_
      refine to_ialR (i := n3) (v := ((ar 78) n3)) rfl (by decide) rfl (by omega) (by omega) rfl ?_
      exact to_rt (i := .ireturn) (tg := []) rfl rfl ⟨_, _, _, ⟨hI1, hF1, trivial⟩, rfl⟩
    · refine to_n 1 (fr' := (18, [(0, .ref 49), (1, .int (nI n3))], [.ref 49], gh S a b (upd sc 4901 0) ar lo, ex, 0, 0)) rfl ?_
      refine to_ci (q := 108) (M1 := an_X10_fail) (rest := []) rfl rfl (by decide) rfl ⟨_, rfl⟩ (sf_X10_fail hW hI1  d) (fun x7 sc7 ar7 hx7 => ?_)
      obtain ⟨hI7, hG7, hx7⟩ := hx7
      have hF7 := fr_t hF1 hG7 (by decide) (by decide)
      have hp7 := hx7
      refine to_eq (fr' := (21, [(0, .ref 49), (1, .int (nI n3))], [.int x7], gh S a b sc7 ar7 lo, ex, 0, 0)) rfl ?_
      refine to_n 1 (fr' := (30, [(0, .ref 49), (1, .int (nI n3))], [.int x7], gh S a b sc7 ar7 lo, ex, 0, 0)) rfl ?_
      exact to_rt (i := .ireturn) (tg := []) rfl rfl ⟨_, _, _, ⟨hI7, hF7, trivial⟩, rfl⟩
set_option maxRecDepth 20000 in
theorem sf_X10_count {X : Nat × (Nat → Int32)} {S a b : Nat} {sc : Nat → Int32} {ar : Nat → Nat → Int32} {lo : Nat → Int64} {ex : Bool} (hW : Wd S a b) (hI : Iv S sc ar) (x1 : Int32) (d : Nat)  : ci X S a b (d + 2) 166 [.ref 49, .int x1] sc ar lo ex (fun x sc' ar' => Iv S sc' ar' ∧ Fr [4901] [] sc ar sc' ar' ∧ True) := by
  obtain ⟨ha1, ha8, hb1, hb8, hab, hS1, hS⟩ := id hW
  refine ci_of (M := an_X10_count) rfl (Nat.le_of_ble_eq_true rfl) ?_
  have hF : Fr [4901] [] sc ar sc ar := fr_0
  refine to_eq (fr' := (0, [(0, .ref 49), (1, .int x1)], [], gh S a b sc ar lo, ex, 0, 0)) rfl ?_
  refine to_n 2 (fr' := (2, [(0, .ref 49), (1, .int x1)], [.int 0, .ref 49], gh S a b sc ar lo, ex, 0, 0)) rfl ?_
  refine to_putR (h' := gh S a b (upd sc 4901 0) ar lo) rfl rfl rfl (Nat.le_of_ble_eq_true rfl) rfl rfl ?_
  have hI1 := ip_4901 (v := 0) hI 
  have hF1 := fr_s (k := 4901) (v := 0) hF (by decide)
  refine to_n 1 (fr' := (6, [(0, .ref 49), (1, .int x1)], [.int x1], gh S a b (upd sc 4901 0) ar lo, ex, 0, 0)) rfl ?_
  refine to_tb (x := x1) rfl rfl (by decide) (fun t ht => ?_)
  obtain rfl | rfl | rfl | rfl | rfl | rfl | rfl | rfl | rfl | rfl | rfl : t = 60 ∨ t = 65 ∨ t = 71 ∨ t = 77 ∨ t = 83 ∨ t = 89 ∨ t = 94 ∨ t = 99 ∨ t = 104 ∨ t = 109 ∨ t = 114 := by simpa using to_mem (l := [60, 65, 71, 77, 83, 89, 94, 99, 104, 109, 114]) ht (by decide)
  · refine to_eq (fr' := (60, [(0, .ref 49), (1, .int x1)], [], gh S a b (upd sc 4901 0) ar lo, ex, 0, 0)) rfl ?_
    refine to_n 1 (fr' := (61, [(0, .ref 49), (1, .int x1)], [.ref 49], gh S a b (upd sc 4901 0) ar lo, ex, 0, 0)) rfl ?_
    obtain ⟨n2, hn2, e2⟩ := iv_s4904 hI1
    refine to_getR (v := (nI n2)) rfl rfl rfl rfl e2 ?_
    exact to_rt (i := .ireturn) (tg := []) rfl rfl ⟨_, _, _, ⟨hI1, hF1, trivial⟩, rfl⟩
  · refine to_eq (fr' := (65, [(0, .ref 49), (1, .int x1)], [], gh S a b (upd sc 4901 0) ar lo, ex, 0, 0)) rfl ?_
    refine to_n 2 (fr' := (67, [(0, .ref 49), (1, .int x1)], [.int 1, .ref 49], gh S a b (upd sc 4901 0) ar lo, ex, 0, 0)) rfl ?_
    refine to_cp (q := 134) (M1 := an_X10_many) (rest := []) rfl rfl (by decide) rfl ⟨_, rfl⟩ (sf_X10_many hW hI1 1 d) (fun x3 hx3 => ?_)
    refine to_eq (fr' := (70, [(0, .ref 49), (1, .int x1)], [.int x3], gh S a b (upd sc 4901 0) ar lo, ex, 0, 0)) rfl ?_
    exact to_rt (i := .ireturn) (tg := []) rfl rfl ⟨_, _, _, ⟨hI1, hF1, trivial⟩, rfl⟩
  · refine to_eq (fr' := (71, [(0, .ref 49), (1, .int x1)], [], gh S a b (upd sc 4901 0) ar lo, ex, 0, 0)) rfl ?_
    refine to_n 2 (fr' := (73, [(0, .ref 49), (1, .int x1)], [.int 0, .ref 49], gh S a b (upd sc 4901 0) ar lo, ex, 0, 0)) rfl ?_
    refine to_cp (q := 134) (M1 := an_X10_many) (rest := []) rfl rfl (by decide) rfl ⟨_, rfl⟩ (sf_X10_many hW hI1 0 d) (fun x4 hx4 => ?_)
    refine to_eq (fr' := (76, [(0, .ref 49), (1, .int x1)], [.int x4], gh S a b (upd sc 4901 0) ar lo, ex, 0, 0)) rfl ?_
    exact to_rt (i := .ireturn) (tg := []) rfl rfl ⟨_, _, _, ⟨hI1, hF1, trivial⟩, rfl⟩
  · refine to_eq (fr' := (77, [(0, .ref 49), (1, .int x1)], [], gh S a b (upd sc 4901 0) ar lo, ex, 0, 0)) rfl ?_
    refine to_n 2 (fr' := (79, [(0, .ref 49), (1, .int x1)], [.int 2, .ref 49], gh S a b (upd sc 4901 0) ar lo, ex, 0, 0)) rfl ?_
    refine to_cp (q := 134) (M1 := an_X10_many) (rest := []) rfl rfl (by decide) rfl ⟨_, rfl⟩ (sf_X10_many hW hI1 2 d) (fun x5 hx5 => ?_)
    refine to_eq (fr' := (82, [(0, .ref 49), (1, .int x1)], [.int x5], gh S a b (upd sc 4901 0) ar lo, ex, 0, 0)) rfl ?_
    exact to_rt (i := .ireturn) (tg := []) rfl rfl ⟨_, _, _, ⟨hI1, hF1, trivial⟩, rfl⟩
  · refine to_eq (fr' := (83, [(0, .ref 49), (1, .int x1)], [], gh S a b (upd sc 4901 0) ar lo, ex, 0, 0)) rfl ?_
    refine to_n 2 (fr' := (85, [(0, .ref 49), (1, .int x1)], [.int 3, .ref 49], gh S a b (upd sc 4901 0) ar lo, ex, 0, 0)) rfl ?_
    refine to_cp (q := 134) (M1 := an_X10_many) (rest := []) rfl rfl (by decide) rfl ⟨_, rfl⟩ (sf_X10_many hW hI1 3 d) (fun x6 hx6 => ?_)
    refine to_eq (fr' := (88, [(0, .ref 49), (1, .int x1)], [.int x6], gh S a b (upd sc 4901 0) ar lo, ex, 0, 0)) rfl ?_
    exact to_rt (i := .ireturn) (tg := []) rfl rfl ⟨_, _, _, ⟨hI1, hF1, trivial⟩, rfl⟩
  · refine to_eq (fr' := (89, [(0, .ref 49), (1, .int x1)], [], gh S a b (upd sc 4901 0) ar lo, ex, 0, 0)) rfl ?_
    refine to_n 1 (fr' := (90, [(0, .ref 49), (1, .int x1)], [.ref 49], gh S a b (upd sc 4901 0) ar lo, ex, 0, 0)) rfl ?_
    obtain ⟨n7, hn7, e7⟩ := iv_s4906 hI1
    refine to_getR (v := (nI n7)) rfl rfl rfl rfl e7 ?_
    exact to_rt (i := .ireturn) (tg := []) rfl rfl ⟨_, _, _, ⟨hI1, hF1, trivial⟩, rfl⟩
  · refine to_eq (fr' := (94, [(0, .ref 49), (1, .int x1)], [], gh S a b (upd sc 4901 0) ar lo, ex, 0, 0)) rfl ?_
    refine to_n 1 (fr' := (95, [(0, .ref 49), (1, .int x1)], [.ref 49], gh S a b (upd sc 4901 0) ar lo, ex, 0, 0)) rfl ?_
    obtain ⟨n8, hn8, e8⟩ := iv_s4907 hI1
    refine to_getR (v := (nI n8)) rfl rfl rfl rfl e8 ?_
    exact to_rt (i := .ireturn) (tg := []) rfl rfl ⟨_, _, _, ⟨hI1, hF1, trivial⟩, rfl⟩
  · refine to_eq (fr' := (99, [(0, .ref 49), (1, .int x1)], [], gh S a b (upd sc 4901 0) ar lo, ex, 0, 0)) rfl ?_
    refine to_n 1 (fr' := (100, [(0, .ref 49), (1, .int x1)], [.ref 49], gh S a b (upd sc 4901 0) ar lo, ex, 0, 0)) rfl ?_
    refine to_getR (v := ((upd sc 4901 0) 4910)) rfl rfl rfl rfl rfl ?_
    exact to_rt (i := .ireturn) (tg := []) rfl rfl ⟨_, _, _, ⟨hI1, hF1, trivial⟩, rfl⟩
  · refine to_eq (fr' := (104, [(0, .ref 49), (1, .int x1)], [], gh S a b (upd sc 4901 0) ar lo, ex, 0, 0)) rfl ?_
    refine to_n 1 (fr' := (105, [(0, .ref 49), (1, .int x1)], [.ref 49], gh S a b (upd sc 4901 0) ar lo, ex, 0, 0)) rfl ?_
    obtain ⟨n9, hn9, e9⟩ := iv_s4908 hI1
    refine to_getR (v := (nI n9)) rfl rfl rfl rfl e9 ?_
    exact to_rt (i := .ireturn) (tg := []) rfl rfl ⟨_, _, _, ⟨hI1, hF1, trivial⟩, rfl⟩
  · refine to_eq (fr' := (109, [(0, .ref 49), (1, .int x1)], [], gh S a b (upd sc 4901 0) ar lo, ex, 0, 0)) rfl ?_
    refine to_n 1 (fr' := (110, [(0, .ref 49), (1, .int x1)], [.ref 49], gh S a b (upd sc 4901 0) ar lo, ex, 0, 0)) rfl ?_
    obtain ⟨n10, hn10, e10⟩ := iv_s4907 hI1
    refine to_cp (q := 133) (M1 := an_X10_force) (rest := []) rfl rfl (by decide) rfl ⟨_, rfl⟩ (sf_force hW hI1 n10 (by omega) e10 d) (fun x11 hx11 => ?_)
    obtain ⟨hx11, hp11⟩ := hx11
    rcases hx11 with rfl | ⟨n11, hn11, rfl⟩
    · refine to_eq (fr' := (113, [(0, .ref 49), (1, .int x1)], [.int (-1)], gh S a b (upd sc 4901 0) ar lo, ex, 0, 0)) rfl ?_
      exact to_rt (i := .ireturn) (tg := []) rfl rfl ⟨_, _, _, ⟨hI1, hF1, trivial⟩, rfl⟩
    · refine to_eq (fr' := (113, [(0, .ref 49), (1, .int x1)], [.int (nI n11)], gh S a b (upd sc 4901 0) ar lo, ex, 0, 0)) rfl ?_
      exact to_rt (i := .ireturn) (tg := []) rfl rfl ⟨_, _, _, ⟨hI1, hF1, trivial⟩, rfl⟩
  · refine to_eq (fr' := (114, [(0, .ref 49), (1, .int x1)], [], gh S a b (upd sc 4901 0) ar lo, ex, 0, 0)) rfl ?_
    refine to_n 1 (fr' := (115, [(0, .ref 49), (1, .int x1)], [.ref 49], gh S a b (upd sc 4901 0) ar lo, ex, 0, 0)) rfl ?_
    refine to_ci (q := 108) (M1 := an_X10_fail) (rest := []) rfl rfl (by decide) rfl ⟨_, rfl⟩ (sf_X10_fail hW hI1  d) (fun x12 sc12 ar12 hx12 => ?_)
    obtain ⟨hI12, hG12, hx12⟩ := hx12
    have hF12 := fr_t hF1 hG12 (by decide) (by decide)
    have hp12 := hx12
    refine to_eq (fr' := (118, [(0, .ref 49), (1, .int x1)], [.int x12], gh S a b sc12 ar12 lo, ex, 0, 0)) rfl ?_
    exact to_rt (i := .ireturn) (tg := []) rfl rfl ⟨_, _, _, ⟨hI12, hF12, trivial⟩, rfl⟩
set_option maxRecDepth 20000 in
theorem sf_X10_wind {X : Nat × (Nat → Int32)} {S a b : Nat} {sc : Nat → Int32} {ar : Nat → Nat → Int32} {lo : Nat → Int64} {ex : Bool} (hW : Wd S a b) (hI : Iv S sc ar) (x1 : Int32) (d : Nat)  : ci X S a b (d + 2) 115 [.ref 49, .int x1] sc ar lo ex (fun x sc' ar' => Iv S sc' ar' ∧ Fr [4901, 4905] [] sc ar sc' ar' ∧ ((0 ≤ x1 ∧ x1 ≤ 4 ∧ x = sc 4905 ∧ sc' 4905 = x1 ∧ sc' 4901 = 0) ∨ (¬ (0 ≤ x1 ∧ x1 ≤ 4) ∧ sc' 4905 = sc 4905 ∧ sc' 4901 = 1))) := by
  obtain ⟨ha1, ha8, hb1, hb8, hab, hS1, hS⟩ := id hW
  refine ci_of (M := an_X10_wind) rfl (Nat.le_of_ble_eq_true rfl) ?_
  have hF : Fr [4901, 4905] [] sc ar sc ar := fr_0
  refine to_eq (fr' := (0, [(0, .ref 49), (1, .int x1)], [], gh S a b sc ar lo, ex, 0, 0)) rfl ?_
  refine to_n 2 (fr' := (2, [(0, .ref 49), (1, .int x1)], [.int 0, .ref 49], gh S a b sc ar lo, ex, 0, 0)) rfl ?_
  refine to_putR (h' := gh S a b (upd sc 4901 0) ar lo) rfl rfl rfl (Nat.le_of_ble_eq_true rfl) rfl rfl ?_
  have hI1 := ip_4901 (v := 0) hI 
  have hF1 := fr_s (k := 4901) (v := 0) hF (by decide)
  refine to_n 1 (fr' := (6, [(0, .ref 49), (1, .int x1)], [.int x1], gh S a b (upd sc 4901 0) ar lo, ex, 0, 0)) rfl ?_
  refine to_if_lt (t := 14) rfl (fun q2 => ?_) (fun q2 => ?_)
  · refine to_n 1 (fr' := (15, [(0, .ref 49), (1, .int x1)], [.ref 49], gh S a b (upd sc 4901 0) ar lo, ex, 0, 0)) rfl ?_
    refine to_ci (q := 108) (M1 := an_X10_fail) (rest := []) rfl rfl (by decide) rfl ⟨_, rfl⟩ (sf_X10_fail hW hI1  d) (fun x3 sc3 ar3 hx3 => ?_)
    obtain ⟨hI3, hG3, hx3⟩ := hx3
    have hF3 := fr_t hF1 hG3 (by decide) (by decide)
    have hp3 := hx3
    have hF3w : sc3 4905 = sc 4905 := (hG3.1 4905 (by decide)).trans rfl
    refine to_eq (fr' := (18, [(0, .ref 49), (1, .int x1)], [.int x3], gh S a b sc3 ar3 lo, ex, 0, 0)) rfl ?_
    exact to_rt (i := .ireturn) (tg := []) rfl rfl ⟨_, _, _, ⟨hI3, hF3, (Or.inr ⟨(fun w => Int32.not_lt.mpr w.1 q2), hF3w, hp3⟩)⟩, rfl⟩
  · refine to_n 2 (fr' := (11, [(0, .ref 49), (1, .int x1)], [.int 4, .int x1], gh S a b (upd sc 4901 0) ar lo, ex, 0, 0)) rfl ?_
    refine to_ic_le (t := 19) rfl (fun q4 => ?_) (fun q4 => ?_)
    · refine to_n 1 (fr' := (20, [(0, .ref 49), (1, .int x1)], [.ref 49], gh S a b (upd sc 4901 0) ar lo, ex, 0, 0)) rfl ?_
      refine to_getR (v := ((upd sc 4901 0) 4905)) rfl rfl rfl rfl rfl ?_
      refine to_n 3 (fr' := (26, [(0, .ref 49), (1, .int x1), (2, .int ((upd sc 4901 0) 4905))], [.int x1, .ref 49], gh S a b (upd sc 4901 0) ar lo, ex, 0, 0)) rfl ?_
      refine to_putR (h' := gh S a b (upd (upd sc 4901 0) 4905 x1) ar lo) rfl rfl rfl (Nat.le_of_ble_eq_true rfl) rfl rfl ?_
      have hI5 := ip_4905 (v := x1) hI1 
      have hF5 := fr_s (k := 4905) (v := x1) hF1 (by decide)
      refine to_n 1 (fr' := (30, [(0, .ref 49), (1, .int x1), (2, .int ((upd sc 4901 0) 4905))], [.int ((upd sc 4901 0) 4905)], gh S a b (upd (upd sc 4901 0) 4905 x1) ar lo, ex, 0, 0)) rfl ?_
      exact to_rt (i := .ireturn) (tg := []) rfl rfl ⟨_, _, _, ⟨hI5, hF5, (Or.inl ⟨Int32.not_lt.mp q2, q4, rfl, rfl, rfl⟩)⟩, rfl⟩
    · refine to_n 1 (fr' := (15, [(0, .ref 49), (1, .int x1)], [.ref 49], gh S a b (upd sc 4901 0) ar lo, ex, 0, 0)) rfl ?_
      refine to_ci (q := 108) (M1 := an_X10_fail) (rest := []) rfl rfl (by decide) rfl ⟨_, rfl⟩ (sf_X10_fail hW hI1  d) (fun x6 sc6 ar6 hx6 => ?_)
      obtain ⟨hI6, hG6, hx6⟩ := hx6
      have hF6 := fr_t hF1 hG6 (by decide) (by decide)
      have hp6 := hx6
      have hF6w : sc6 4905 = sc 4905 := (hG6.1 4905 (by decide)).trans rfl
      refine to_eq (fr' := (18, [(0, .ref 49), (1, .int x1)], [.int x6], gh S a b sc6 ar6 lo, ex, 0, 0)) rfl ?_
      exact to_rt (i := .ireturn) (tg := []) rfl rfl ⟨_, _, _, ⟨hI6, hF6, (Or.inr ⟨(fun w => q4 w.2), hF6w, hp6⟩)⟩, rfl⟩
