/-! LawReader -/
set_option maxRecDepth 20000 in
theorem sf_X5_advance {X : Nat × (Nat → Int32)} {S a b : Nat} {sc : Nat → Int32} {ar : Nat → Nat → Int32} {lo : Nat → Int64} {ex : Bool} (hW : Wd S a b) (hI : Iv S sc ar)  (d : Nat)  : cv X S a b (d + 1) 53 [.ref 24] sc ar lo ex (fun sc' ar' => Iv S sc' ar' ∧ Fr [2404, 2405] [] sc ar sc' ar') := by
  obtain ⟨ha1, ha8, hb1, hb8, hab, hS1, hS⟩ := id hW
  refine cv_of (M := an_X5_advance) rfl (Nat.le_of_ble_eq_true rfl) ?_
  have hF : Fr [2404, 2405] [] sc ar sc ar := fr_0
  refine to_eq (fr' := (0, [(0, .ref 24)], [], gh S a b sc ar lo, ex, 0, 0)) rfl ?_
  refine to_n 1 (fr' := (1, [(0, .ref 24)], [.ref 24], gh S a b sc ar lo, ex, 0, 0)) rfl ?_
  obtain ⟨n1, hn1, e1⟩ := iv_s2404 hI
  refine to_getR (v := (nI n1)) rfl rfl rfl rfl e1 ?_
  refine to_n 1 (fr' := (5, [(0, .ref 24)], [.int 1, .int (nI n1)], gh S a b sc ar lo, ex, 0, 0)) rfl ?_
  refine to_addN (x := n1) (y := 1) rfl ?_
  refine to_n 1 (fr' := (7, [(0, .ref 24)], [.ref 24, .int (nI (n1 + 1))], gh S a b sc ar lo, ex, 0, 0)) rfl ?_
  refine to_get rfl rfl rfl rfl ?_
  obtain ⟨n2, hn2, e2⟩ := iv_s2602 hI
  refine to_getR (v := (nI n2)) rfl rfl rfl rfl e2 ?_
  refine to_nc_ge (t := 42) (x := (n1 + 1)) (y := n2) rfl (by omega) (by omega) (fun q3 => ?_) (fun q3 => ?_)
  · exact to_rt (i := .return_) (tg := []) rfl rfl ⟨_, _, ⟨hI, hF⟩, rfl⟩
  · refine to_n 2 (fr' := (18, [(0, .ref 24)], [.ref 24, .ref 24], gh S a b sc ar lo, ex, 0, 0)) rfl ?_
    refine to_getR (v := (nI n1)) rfl rfl rfl rfl e1 ?_
    refine to_n 1 (fr' := (22, [(0, .ref 24)], [.int 1, .int (nI n1), .ref 24], gh S a b sc ar lo, ex, 0, 0)) rfl ?_
    refine to_addN (x := n1) (y := 1) rfl ?_
    refine to_putR (h' := gh S a b (upd sc 2404 (nI (n1 + 1))) ar lo) rfl rfl rfl (Nat.le_of_ble_eq_true rfl) rfl rfl ?_
    have hI4 := ip_2404 (v := (nI (n1 + 1))) hI (rl_n (n := (n1 + 1)) (by omega))
    have hF4 := fr_s (k := 2404) (v := (nI (n1 + 1))) hF (by decide)
    refine to_n 2 (fr' := (28, [(0, .ref 24)], [.ref 24, .ref 24], gh S a b (upd sc 2404 (nI (n1 + 1))) ar lo, ex, 0, 0)) rfl ?_
    refine to_get rfl rfl rfl rfl ?_
    refine to_get rfl rfl rfl rfl ?_
    refine to_n 1 (fr' := (35, [(0, .ref 24)], [.ref 24, .ref 27, .ref 24], gh S a b (upd sc 2404 (nI (n1 + 1))) ar lo, ex, 0, 0)) rfl ?_
    refine to_getR (v := (nI (n1 + 1))) rfl rfl rfl rfl rfl ?_
    refine to_ialR (i := (n1 + 1)) (v := ((ar 27) (n1 + 1))) rfl (by decide) rfl (by omega) (by omega) rfl ?_
    refine to_putR (h' := gh S a b (upd (upd sc 2404 (nI (n1 + 1))) 2405 ((ar 27) (n1 + 1))) ar lo) rfl rfl rfl (Nat.le_of_ble_eq_true rfl) rfl rfl ?_
    have hI5 := ip_2405 (v := ((ar 27) (n1 + 1))) hI4 
    have hF5 := fr_s (k := 2405) (v := ((ar 27) (n1 + 1))) hF4 (by decide)
    exact to_rt (i := .return_) (tg := []) rfl rfl ⟨_, _, ⟨hI5, hF5⟩, rfl⟩
set_option maxRecDepth 20000 in
theorem sf_X5_emit {X : Nat × (Nat → Int32)} {S a b : Nat} {sc : Nat → Int32} {ar : Nat → Nat → Int32} {lo : Nat → Int64} {ex : Bool} (hW : Wd S a b) (hI : Iv S sc ar) (x1 : Int32) (d : Nat)  : cv X S a b (d + 1) 52 [.ref 24, .int x1] sc ar lo ex (fun sc' ar' => Iv S sc' ar' ∧ Fr [2401] [25] sc ar sc' ar') := by
  obtain ⟨ha1, ha8, hb1, hb8, hab, hS1, hS⟩ := id hW
  refine cv_of (M := an_X5_emit) rfl (Nat.le_of_ble_eq_true rfl) ?_
  have hF : Fr [2401] [25] sc ar sc ar := fr_0
  refine to_eq (fr' := (0, [(0, .ref 24), (1, .int x1)], [], gh S a b sc ar lo, ex, 0, 0)) rfl ?_
  refine to_n 1 (fr' := (1, [(0, .ref 24), (1, .int x1)], [.ref 24], gh S a b sc ar lo, ex, 0, 0)) rfl ?_
  obtain ⟨n1, hn1, e1⟩ := iv_s2401 hI
  refine to_getR (v := (nI n1)) rfl rfl rfl rfl e1 ?_
  refine to_n 1 (fr' := (5, [(0, .ref 24), (1, .int x1)], [.ref 24, .int (nI n1)], gh S a b sc ar lo, ex, 0, 0)) rfl ?_
  refine to_get rfl rfl rfl rfl ?_
  refine to_len rfl (by decide) rfl (by decide) ?_
  refine to_eq (fr' := (9, [(0, .ref 24), (1, .int x1)], [.int (nI 400), .int (nI n1)], gh S a b sc ar lo, ex, 0, 0)) rfl ?_
  refine to_nc_ge (t := 32) (x := n1) (y := 400) rfl (by omega) (by omega) (fun q2 => ?_) (fun q2 => ?_)
  · exact to_rt (i := .return_) (tg := []) rfl rfl ⟨_, _, ⟨hI, hF⟩, rfl⟩
  · refine to_n 1 (fr' := (13, [(0, .ref 24), (1, .int x1)], [.ref 24], gh S a b sc ar lo, ex, 0, 0)) rfl ?_
    refine to_get rfl rfl rfl rfl ?_
    refine to_n 1 (fr' := (17, [(0, .ref 24), (1, .int x1)], [.ref 24, .ref 25], gh S a b sc ar lo, ex, 0, 0)) rfl ?_
    refine to_getR (v := (nI n1)) rfl rfl rfl rfl e1 ?_
    refine to_n 1 (fr' := (21, [(0, .ref 24), (1, .int x1)], [.int x1, .int (nI n1), .ref 25], gh S a b sc ar lo, ex, 0, 0)) rfl ?_
    refine to_iasR (i := n1) (h' := gh S a b sc (uA ar 25 (upd (ar 25) n1 x1)) lo) rfl rfl (by omega) (by omega) rfl ?_
    have hI3 := ia_25 (g := (upd (ar 25) n1 x1)) hI
    have hF3 := fr_a (c := 25) (g := (upd (ar 25) n1 x1)) hF (by decide)
    refine to_n 2 (fr' := (24, [(0, .ref 24), (1, .int x1)], [.ref 24, .ref 24], gh S a b sc (uA ar 25 (upd (ar 25) n1 x1)) lo, ex, 0, 0)) rfl ?_
    refine to_getR (v := (nI n1)) rfl rfl rfl rfl e1 ?_
    refine to_n 1 (fr' := (28, [(0, .ref 24), (1, .int x1)], [.int 1, .int (nI n1), .ref 24], gh S a b sc (uA ar 25 (upd (ar 25) n1 x1)) lo, ex, 0, 0)) rfl ?_
    refine to_addN (x := n1) (y := 1) rfl ?_
    refine to_putR (h' := gh S a b (upd sc 2401 (nI (n1 + 1))) (uA ar 25 (upd (ar 25) n1 x1)) lo) rfl rfl rfl (Nat.le_of_ble_eq_true rfl) rfl rfl ?_
    have hI4 := ip_2401 (v := (nI (n1 + 1))) hI3 (rl_n (n := (n1 + 1)) (by omega))
    have hF4 := fr_s (k := 2401) (v := (nI (n1 + 1))) hF3 (by decide)
    exact to_rt (i := .return_) (tg := []) rfl rfl ⟨_, _, ⟨hI4, hF4⟩, rfl⟩
set_option maxRecDepth 20000 in
theorem sf_X5_fail {X : Nat × (Nat → Int32)} {S a b : Nat} {sc : Nat → Int32} {ar : Nat → Nat → Int32} {lo : Nat → Int64} {ex : Bool} (hW : Wd S a b) (hI : Iv S sc ar) (x1 : Int32) (d : Nat)  : ci X S a b (d + 1) 51 [.ref 24, .int x1] sc ar lo ex (fun x sc' ar' => Iv S sc' ar' ∧ Fr [2402] [] sc ar sc' ar' ∧ rl x 2) := by
  obtain ⟨ha1, ha8, hb1, hb8, hab, hS1, hS⟩ := id hW
  refine ci_of (M := an_X5_fail) rfl (Nat.le_of_ble_eq_true rfl) ?_
  have hF : Fr [2402] [] sc ar sc ar := fr_0
  refine to_eq (fr' := (0, [(0, .ref 24), (1, .int x1)], [], gh S a b sc ar lo, ex, 0, 0)) rfl ?_
  refine to_n 2 (fr' := (2, [(0, .ref 24), (1, .int x1)], [.int x1, .ref 24], gh S a b sc ar lo, ex, 0, 0)) rfl ?_
  refine to_putR (h' := gh S a b (upd sc 2402 x1) ar lo) rfl rfl rfl (Nat.le_of_ble_eq_true rfl) rfl rfl ?_
  have hI1 := ip_2402 (v := x1) hI 
  have hF1 := fr_s (k := 2402) (v := x1) hF (by decide)
  refine to_n 1 (fr' := (6, [(0, .ref 24), (1, .int x1)], [.int 0], gh S a b (upd sc 2402 x1) ar lo, ex, 0, 0)) rfl ?_
  exact to_rt (i := .ireturn) (tg := []) rfl rfl ⟨_, _, _, ⟨hI1, hF1, rl_n (n := 0) (by omega)⟩, rfl⟩
set_option maxRecDepth 20000 in
theorem sf_X5_isNumberOrName {X : Nat × (Nat → Int32)} {S a b : Nat} {sc : Nat → Int32} {ar : Nat → Nat → Int32} {lo : Nat → Int64} {ex : Bool} (hW : Wd S a b) (hI : Iv S sc ar)  (d : Nat)  : cp X S a b (d + 1) 48 [.ref 24] sc ar lo ex (fun x => rl x 2) := by
  obtain ⟨ha1, ha8, hb1, hb8, hab, hS1, hS⟩ := id hW
  refine cp_of (M := an_X5_isNumberOrName) rfl (Nat.le_of_ble_eq_true rfl) ?_
  refine to_eq (fr' := (0, [(0, .ref 24)], [], gh S a b sc ar lo, ex, 0, 0)) rfl ?_
  refine to_n 1 (fr' := (1, [(0, .ref 24)], [.ref 24], gh S a b sc ar lo, ex, 0, 0)) rfl ?_
  refine to_getR (v := (sc 2405)) rfl rfl rfl rfl rfl ?_
  refine to_if_ge (t := 25) rfl (fun q1 => ?_) (fun q1 => ?_)
  · refine to_n 2 (fr' := (30, [(0, .ref 24)], [.int 1], gh S a b sc ar lo, ex, 0, 0)) rfl ?_
    exact to_rt (i := .ireturn) (tg := []) rfl rfl ⟨_, rl_n (n := 1) (by omega), rfl⟩
  · refine to_n 1 (fr' := (8, [(0, .ref 24)], [.ref 24], gh S a b sc ar lo, ex, 0, 0)) rfl ?_
    refine to_getR (v := (sc 2405)) rfl rfl rfl rfl rfl ?_
    refine to_n 1 (fr' := (13, [(0, .ref 24)], [.int (-20), .int (sc 2405)], gh S a b sc ar lo, ex, 0, 0)) rfl ?_
    refine to_ic_gt (t := 29) rfl (fun q2 => ?_) (fun q2 => ?_)
    · refine to_n 1 (fr' := (30, [(0, .ref 24)], [.int 0], gh S a b sc ar lo, ex, 0, 0)) rfl ?_
      exact to_rt (i := .ireturn) (tg := []) rfl rfl ⟨_, rl_n (n := 0) (by omega), rfl⟩
    · refine to_n 1 (fr' := (17, [(0, .ref 24)], [.ref 24], gh S a b sc ar lo, ex, 0, 0)) rfl ?_
      refine to_getR (v := (sc 2405)) rfl rfl rfl rfl rfl ?_
      refine to_n 1 (fr' := (22, [(0, .ref 24)], [.int (-27), .int (sc 2405)], gh S a b sc ar lo, ex, 0, 0)) rfl ?_
      refine to_ic_lt (t := 29) rfl (fun q3 => ?_) (fun q3 => ?_)
      · refine to_n 1 (fr' := (30, [(0, .ref 24)], [.int 0], gh S a b sc ar lo, ex, 0, 0)) rfl ?_
        exact to_rt (i := .ireturn) (tg := []) rfl rfl ⟨_, rl_n (n := 0) (by omega), rfl⟩
      · refine to_n 2 (fr' := (30, [(0, .ref 24)], [.int 1], gh S a b sc ar lo, ex, 0, 0)) rfl ?_
        exact to_rt (i := .ireturn) (tg := []) rfl rfl ⟨_, rl_n (n := 1) (by omega), rfl⟩
set_option maxRecDepth 20000 in
theorem sf_X5_beginsPart {X : Nat × (Nat → Int32)} {S a b : Nat} {sc : Nat → Int32} {ar : Nat → Nat → Int32} {lo : Nat → Int64} {ex : Bool} (hW : Wd S a b) (hI : Iv S sc ar)  (d : Nat)  : cp X S a b (d + 2) 49 [.ref 24] sc ar lo ex (fun x => rl x 2) := by
  obtain ⟨ha1, ha8, hb1, hb8, hab, hS1, hS⟩ := id hW
  refine cp_of (M := an_X5_beginsPart) rfl (Nat.le_of_ble_eq_true rfl) ?_
  refine to_eq (fr' := (0, [(0, .ref 24)], [], gh S a b sc ar lo, ex, 0, 0)) rfl ?_
  refine to_n 1 (fr' := (1, [(0, .ref 24)], [.ref 24], gh S a b sc ar lo, ex, 0, 0)) rfl ?_
  refine to_getR (v := (sc 2405)) rfl rfl rfl rfl rfl ?_
  refine to_n 1 (fr' := (6, [(0, .ref 24)], [.int (-4), .int (sc 2405)], gh S a b sc ar lo, ex, 0, 0)) rfl ?_
  refine to_ic_eq (t := 25) rfl (fun q1 => ?_) (fun q1 => ?_)
  · refine to_n 2 (fr' := (30, [(0, .ref 24)], [.int 1], gh S a b sc ar lo, ex, 0, 0)) rfl ?_
    exact to_rt (i := .ireturn) (tg := []) rfl rfl ⟨_, rl_n (n := 1) (by omega), rfl⟩
  · refine to_n 1 (fr' := (10, [(0, .ref 24)], [.ref 24], gh S a b sc ar lo, ex, 0, 0)) rfl ?_
    refine to_getR (v := (sc 2405)) rfl rfl rfl rfl rfl ?_
    refine to_n 1 (fr' := (15, [(0, .ref 24)], [.int (-3), .int (sc 2405)], gh S a b sc ar lo, ex, 0, 0)) rfl ?_
    refine to_ic_eq (t := 25) rfl (fun q2 => ?_) (fun q2 => ?_)
    · refine to_n 2 (fr' := (30, [(0, .ref 24)], [.int 1], gh S a b sc ar lo, ex, 0, 0)) rfl ?_
      exact to_rt (i := .ireturn) (tg := []) rfl rfl ⟨_, rl_n (n := 1) (by omega), rfl⟩
    · refine to_n 1 (fr' := (19, [(0, .ref 24)], [.ref 24], gh S a b sc ar lo, ex, 0, 0)) rfl ?_
      refine to_cp (q := 48) (M1 := an_X5_isNumberOrName) (rest := []) rfl rfl (by decide) rfl ⟨_, rfl⟩ (sf_X5_isNumberOrName hW hI  d) (fun x3 hx3 => ?_)
      obtain ⟨n3, hn3, rfl⟩ := hx3
      refine to_eq (fr' := (22, [(0, .ref 24)], [.int (nI n3)], gh S a b sc ar lo, ex, 0, 0)) rfl ?_
      refine to_nf_eq (t := 29) (x := n3) rfl (by omega) (fun q4 => ?_) (fun q4 => ?_)
      · refine to_n 1 (fr' := (30, [(0, .ref 24)], [.int 0], gh S a b sc ar lo, ex, 0, 0)) rfl ?_
        exact to_rt (i := .ireturn) (tg := []) rfl rfl ⟨_, rl_n (n := 0) (by omega), rfl⟩
      · refine to_n 2 (fr' := (30, [(0, .ref 24)], [.int 1], gh S a b sc ar lo, ex, 0, 0)) rfl ?_
        exact to_rt (i := .ireturn) (tg := []) rfl rfl ⟨_, rl_n (n := 1) (by omega), rfl⟩
set_option maxRecDepth 20000 in
theorem sf_X5_faultOfPart {X : Nat × (Nat → Int32)} {S a b : Nat} {sc : Nat → Int32} {ar : Nat → Nat → Int32} {lo : Nat → Int64} {ex : Bool} (hW : Wd S a b) (hI : Iv S sc ar)  (d : Nat)  : cp X S a b (d + 1) 50 [.ref 24] sc ar lo ex (fun x => True) := by
  obtain ⟨ha1, ha8, hb1, hb8, hab, hS1, hS⟩ := id hW
  refine cp_of (M := an_X5_faultOfPart) rfl (Nat.le_of_ble_eq_true rfl) ?_
  refine to_eq (fr' := (0, [(0, .ref 24)], [], gh S a b sc ar lo, ex, 0, 0)) rfl ?_
  refine to_n 1 (fr' := (1, [(0, .ref 24)], [.ref 24], gh S a b sc ar lo, ex, 0, 0)) rfl ?_
  refine to_getR (v := (sc 2405)) rfl rfl rfl rfl rfl ?_
  refine to_n 1 (fr' := (6, [(0, .ref 24)], [.int (-3), .int (sc 2405)], gh S a b sc ar lo, ex, 0, 0)) rfl ?_
  refine to_ic_ne (t := 11) rfl (fun q1 => ?_) (fun q1 => ?_)
  · refine to_n 1 (fr' := (12, [(0, .ref 24)], [.ref 24], gh S a b sc ar lo, ex, 0, 0)) rfl ?_
    refine to_getR (v := (sc 2405)) rfl rfl rfl rfl rfl ?_
    refine to_n 1 (fr' := (17, [(0, .ref 24)], [.int (-12), .int (sc 2405)], gh S a b sc ar lo, ex, 0, 0)) rfl ?_
    refine to_ic_gt (t := 33) rfl (fun q2 => ?_) (fun q2 => ?_)
    · refine to_n 1 (fr' := (34, [(0, .ref 24)], [.int 1], gh S a b sc ar lo, ex, 0, 0)) rfl ?_
      exact to_rt (i := .ireturn) (tg := []) rfl rfl ⟨_, trivial, rfl⟩
    · refine to_n 1 (fr' := (21, [(0, .ref 24)], [.ref 24], gh S a b sc ar lo, ex, 0, 0)) rfl ?_
      refine to_getR (v := (sc 2405)) rfl rfl rfl rfl rfl ?_
      refine to_n 1 (fr' := (26, [(0, .ref 24)], [.int (-17), .int (sc 2405)], gh S a b sc ar lo, ex, 0, 0)) rfl ?_
      refine to_ic_lt (t := 33) rfl (fun q3 => ?_) (fun q3 => ?_)
      · refine to_n 1 (fr' := (34, [(0, .ref 24)], [.int 1], gh S a b sc ar lo, ex, 0, 0)) rfl ?_
        exact to_rt (i := .ireturn) (tg := []) rfl rfl ⟨_, trivial, rfl⟩
      · refine to_n 2 (fr' := (34, [(0, .ref 24)], [.int 3], gh S a b sc ar lo, ex, 0, 0)) rfl ?_
        exact to_rt (i := .ireturn) (tg := []) rfl rfl ⟨_, trivial, rfl⟩
  · refine to_n 1 (fr' := (10, [(0, .ref 24)], [.int 2], gh S a b sc ar lo, ex, 0, 0)) rfl ?_
    exact to_rt (i := .ireturn) (tg := []) rfl rfl ⟨_, trivial, rfl⟩
set_option maxRecDepth 20000 in
theorem sf_X5_place {X : Nat × (Nat → Int32)} {S a b : Nat} {sc : Nat → Int32} {ar : Nat → Nat → Int32} {lo : Nat → Int64} {ex : Bool} (hW : Wd S a b) (hI : Iv S sc ar)  (d : Nat)  : cp X S a b (d + 1) 42 [.ref 24] sc ar lo ex (fun x => True) := by
  obtain ⟨ha1, ha8, hb1, hb8, hab, hS1, hS⟩ := id hW
  refine cp_of (M := an_X5_place) rfl (Nat.le_of_ble_eq_true rfl) ?_
  refine to_eq (fr' := (0, [(0, .ref 24)], [], gh S a b sc ar lo, ex, 0, 0)) rfl ?_
  refine to_n 1 (fr' := (1, [(0, .ref 24)], [.ref 24], gh S a b sc ar lo, ex, 0, 0)) rfl ?_
  refine to_get rfl rfl rfl rfl ?_
  refine to_get rfl rfl rfl rfl ?_
  refine to_n 1 (fr' := (8, [(0, .ref 24)], [.ref 24, .ref 28], gh S a b sc ar lo, ex, 0, 0)) rfl ?_
  obtain ⟨n1, hn1, e1⟩ := iv_s2404 hI
  refine to_getR (v := (nI n1)) rfl rfl rfl rfl e1 ?_
  refine to_ialR (i := n1) (v := ((ar 28) n1)) rfl (by decide) rfl (by omega) (by omega) rfl ?_
  exact to_rt (i := .ireturn) (tg := []) rfl rfl ⟨_, trivial, rfl⟩
set_option maxRecDepth 20000 in
theorem sf_X5_readPart {X : Nat × (Nat → Int32)} {S a b : Nat} {sc : Nat → Int32} {ar : Nat → Nat → Int32} {lo : Nat → Int64} {ex : Bool} (hW : Wd S a b) (hI : Iv S sc ar) (w : Nat) (hw : w < 7) (d : Nat) (hE : ∀ (sc : Nat → Int32) (ar : Nat → Nat → Int32), Iv S sc ar → ci X S a b (d + 3) 44 [.ref 24, .int (nI (w + 1))] sc ar lo ex (fun x sc' ar' => Iv S sc' ar' ∧ Fr [2401, 2402, 2404, 2405] [25] sc ar sc' ar' ∧ rl x 2)) : ci X S a b (d + 4) 47 [.ref 24, .int (nI w)] sc ar lo ex (fun x sc' ar' => Iv S sc' ar' ∧ Fr [2401, 2402, 2404, 2405] [25] sc ar sc' ar' ∧ rl x 2) := by
  obtain ⟨ha1, ha8, hb1, hb8, hab, hS1, hS⟩ := id hW
  refine ci_of (M := an_X5_readPart) rfl (Nat.le_of_ble_eq_true rfl) ?_
  have hF : Fr [2401, 2402, 2404, 2405] [25] sc ar sc ar := fr_0
  refine to_eq (fr' := (0, [(0, .ref 24), (1, .int (nI w))], [], gh S a b sc ar lo, ex, 0, 0)) rfl ?_
  refine to_n 1 (fr' := (1, [(0, .ref 24), (1, .int (nI w))], [.ref 24], gh S a b sc ar lo, ex, 0, 0)) rfl ?_
  refine to_getR (v := (sc 2405)) rfl rfl rfl rfl rfl ?_
  refine to_n 1 (fr' := (6, [(0, .ref 24), (1, .int (nI w))], [.int (-4), .int (sc 2405)], gh S a b sc ar lo, ex, 0, 0)) rfl ?_
  refine to_ic_ne (t := 40) rfl (fun q1 => ?_) (fun q1 => ?_)
  · refine to_n 1 (fr' := (41, [(0, .ref 24), (1, .int (nI w))], [.ref 24], gh S a b sc ar lo, ex, 0, 0)) rfl ?_
    refine to_cp (q := 48) (M1 := an_X5_isNumberOrName) (rest := []) rfl rfl (by decide) rfl ⟨_, rfl⟩ (sf_X5_isNumberOrName hW hI  (d + 2)) (fun x2 hx2 => ?_)
    obtain ⟨n2, hn2, rfl⟩ := hx2
    refine to_eq (fr' := (44, [(0, .ref 24), (1, .int (nI w))], [.int (nI n2)], gh S a b sc ar lo, ex, 0, 0)) rfl ?_
    refine to_nf_eq (t := 58) (x := n2) rfl (by omega) (fun q3 => ?_) (fun q3 => ?_)
    · refine to_n 2 (fr' := (60, [(0, .ref 24), (1, .int (nI w))], [.ref 24, .ref 24], gh S a b sc ar lo, ex, 0, 0)) rfl ?_
      refine to_cp (q := 50) (M1 := an_X5_faultOfPart) (rest := [.ref 24]) rfl rfl (by decide) rfl ⟨_, rfl⟩ (sf_X5_faultOfPart hW hI  (d + 2)) (fun x4 hx4 => ?_)
      refine to_eq (fr' := (63, [(0, .ref 24), (1, .int (nI w))], [.int x4, .ref 24], gh S a b sc ar lo, ex, 0, 0)) rfl ?_
      refine to_ci (q := 51) (M1 := an_X5_fail) (rest := []) rfl rfl (by decide) rfl ⟨_, rfl⟩ (sf_X5_fail hW hI x4 (d + 2)) (fun x5 sc5 ar5 hx5 => ?_)
      obtain ⟨hI5, hG5, hx5⟩ := hx5
      have hF5 := fr_t hF hG5 (by decide) (by decide)
      obtain ⟨n5, hn5, rfl⟩ := hx5
      refine to_eq (fr' := (66, [(0, .ref 24), (1, .int (nI w))], [.int (nI n5)], gh S a b sc5 ar5 lo, ex, 0, 0)) rfl ?_
      exact to_rt (i := .ireturn) (tg := []) rfl (ai_rtz (rl_n (n := n5) (by omega))) ⟨_, _, _, ⟨hI5, hF5, rl_n (n := n5) (by omega)⟩, rfl⟩
    · refine to_n 2 (fr' := (49, [(0, .ref 24), (1, .int (nI w))], [.ref 24, .ref 24], gh S a b sc ar lo, ex, 0, 0)) rfl ?_
      refine to_getR (v := (sc 2405)) rfl rfl rfl rfl rfl ?_
      refine to_cv (q := 52) (M1 := an_X5_emit) (rest := []) rfl rfl (by decide) rfl ⟨_, rfl⟩ (sf_X5_emit hW hI (sc 2405) (d + 2)) (fun sc6 ar6 hx6 => ?_)
      obtain ⟨hI6, hG6⟩ := hx6
      have hF6 := fr_t hF hG6 (by decide) (by decide)
      refine to_eq (fr' := (55, [(0, .ref 24), (1, .int (nI w))], [], gh S a b sc6 ar6 lo, ex, 0, 0)) rfl ?_
      refine to_n 2 (fr' := (68, [(0, .ref 24), (1, .int (nI w))], [.ref 24], gh S a b sc6 ar6 lo, ex, 0, 0)) rfl ?_
      refine to_cv (q := 53) (M1 := an_X5_advance) (rest := []) rfl rfl (by decide) rfl ⟨_, rfl⟩ (sf_X5_advance hW hI6  (d + 2)) (fun sc7 ar7 hx7 => ?_)
      obtain ⟨hI7, hG7⟩ := hx7
      have hF7 := fr_t hF6 hG7 (by decide) (by decide)
      refine to_eq (fr' := (71, [(0, .ref 24), (1, .int (nI w))], [], gh S a b sc7 ar7 lo, ex, 0, 0)) rfl ?_
      refine to_n 1 (fr' := (72, [(0, .ref 24), (1, .int (nI w))], [.int 1], gh S a b sc7 ar7 lo, ex, 0, 0)) rfl ?_
      exact to_rt (i := .ireturn) (tg := []) rfl rfl ⟨_, _, _, ⟨hI7, hF7, rl_n (n := 1) (by omega)⟩, rfl⟩
  · refine to_n 1 (fr' := (10, [(0, .ref 24), (1, .int (nI w))], [.ref 24], gh S a b sc ar lo, ex, 0, 0)) rfl ?_
    refine to_cv (q := 53) (M1 := an_X5_advance) (rest := []) rfl rfl (by decide) rfl ⟨_, rfl⟩ (sf_X5_advance hW hI  (d + 2)) (fun sc8 ar8 hx8 => ?_)
    obtain ⟨hI8, hG8⟩ := hx8
    have hF8 := fr_t hF hG8 (by decide) (by decide)
    refine to_eq (fr' := (13, [(0, .ref 24), (1, .int (nI w))], [], gh S a b sc8 ar8 lo, ex, 0, 0)) rfl ?_
    refine to_n 3 (fr' := (16, [(0, .ref 24), (1, .int (nI w))], [.int 1, .int (nI w), .ref 24], gh S a b sc8 ar8 lo, ex, 0, 0)) rfl ?_
    refine to_addN (x := w) (y := 1) rfl ?_
    refine to_ci (q := 44) (M1 := an_X5_readExpr) (rest := []) rfl rfl (by decide) rfl ⟨_, rfl⟩ (hE sc8 ar8 hI8) (fun x9 sc9 ar9 hx9 => ?_)
    obtain ⟨hI9, hG9, hx9⟩ := hx9
    have hF9 := fr_t hF8 hG9 (by decide) (by decide)
    obtain ⟨n9, hn9, rfl⟩ := hx9
    refine to_eq (fr' := (20, [(0, .ref 24), (1, .int (nI w))], [.int (nI n9)], gh S a b sc9 ar9 lo, ex, 0, 0)) rfl ?_
    refine to_nf_ne (t := 25) (x := n9) rfl (by omega) (fun q10 => ?_) (fun q10 => ?_)
    · refine to_n 1 (fr' := (26, [(0, .ref 24), (1, .int (nI w))], [.ref 24], gh S a b sc9 ar9 lo, ex, 0, 0)) rfl ?_
      refine to_getR (v := (sc9 2405)) rfl rfl rfl rfl rfl ?_
      refine to_n 1 (fr' := (31, [(0, .ref 24), (1, .int (nI w))], [.int (-5), .int (sc9 2405)], gh S a b sc9 ar9 lo, ex, 0, 0)) rfl ?_
      refine to_ic_eq (t := 67) rfl (fun q11 => ?_) (fun q11 => ?_)
      · refine to_n 1 (fr' := (68, [(0, .ref 24), (1, .int (nI w))], [.ref 24], gh S a b sc9 ar9 lo, ex, 0, 0)) rfl ?_
        refine to_cv (q := 53) (M1 := an_X5_advance) (rest := []) rfl rfl (by decide) rfl ⟨_, rfl⟩ (sf_X5_advance hW hI9  (d + 2)) (fun sc12 ar12 hx12 => ?_)
        obtain ⟨hI12, hG12⟩ := hx12
        have hF12 := fr_t hF9 hG12 (by decide) (by decide)
        refine to_eq (fr' := (71, [(0, .ref 24), (1, .int (nI w))], [], gh S a b sc12 ar12 lo, ex, 0, 0)) rfl ?_
        refine to_n 1 (fr' := (72, [(0, .ref 24), (1, .int (nI w))], [.int 1], gh S a b sc12 ar12 lo, ex, 0, 0)) rfl ?_
        exact to_rt (i := .ireturn) (tg := []) rfl rfl ⟨_, _, _, ⟨hI12, hF12, rl_n (n := 1) (by omega)⟩, rfl⟩
      · refine to_n 2 (fr' := (36, [(0, .ref 24), (1, .int (nI w))], [.int 1, .ref 24], gh S a b sc9 ar9 lo, ex, 0, 0)) rfl ?_
        refine to_ci (q := 51) (M1 := an_X5_fail) (rest := []) rfl rfl (by decide) rfl ⟨_, rfl⟩ (sf_X5_fail hW hI9 1 (d + 2)) (fun x13 sc13 ar13 hx13 => ?_)
        obtain ⟨hI13, hG13, hx13⟩ := hx13
        have hF13 := fr_t hF9 hG13 (by decide) (by decide)
        obtain ⟨n13, hn13, rfl⟩ := hx13
        refine to_eq (fr' := (39, [(0, .ref 24), (1, .int (nI w))], [.int (nI n13)], gh S a b sc13 ar13 lo, ex, 0, 0)) rfl ?_
        exact to_rt (i := .ireturn) (tg := []) rfl (ai_rtz (rl_n (n := n13) (by omega))) ⟨_, _, _, ⟨hI13, hF13, rl_n (n := n13) (by omega)⟩, rfl⟩
    · refine to_n 1 (fr' := (24, [(0, .ref 24), (1, .int (nI w))], [.int 0], gh S a b sc9 ar9 lo, ex, 0, 0)) rfl ?_
      exact to_rt (i := .ireturn) (tg := []) rfl rfl ⟨_, _, _, ⟨hI9, hF9, rl_n (n := 0) (by omega)⟩, rfl⟩
set_option maxRecDepth 20000 in
theorem sf_X5_readSum {X : Nat × (Nat → Int32)} {S a b : Nat} {sc : Nat → Int32} {ar : Nat → Nat → Int32} {lo : Nat → Int64} {ex : Bool} (hW : Wd S a b) (hI : Iv S sc ar) (w : Nat) (hw : w < 7) (d : Nat) (hE : ∀ (sc : Nat → Int32) (ar : Nat → Nat → Int32), Iv S sc ar → ci X S a b (d + 4) 47 [.ref 24, .int (nI w)] sc ar lo ex (fun x sc' ar' => Iv S sc' ar' ∧ Fr [2401, 2402, 2404, 2405] [25] sc ar sc' ar' ∧ rl x 2)) : ci X S a b (d + 5) 46 [.ref 24, .int (nI w)] sc ar lo ex (fun x sc' ar' => Iv S sc' ar' ∧ Fr [2401, 2402, 2404, 2405] [25] sc ar sc' ar' ∧ rl x 2) := by
  obtain ⟨ha1, ha8, hb1, hb8, hab, hS1, hS⟩ := id hW
  refine ci_of (M := an_X5_readSum) rfl (Nat.le_of_ble_eq_true rfl) ?_
  have hF : Fr [2401, 2402, 2404, 2405] [25] sc ar sc ar := fr_0
  refine to_eq (fr' := (0, [(0, .ref 24), (1, .int (nI w))], [], gh S a b sc ar lo, ex, 0, 0)) rfl ?_
  have c76 : ∀  (sc1 : Nat → Int32) (ar1 : Nat → Nat → Int32), Iv S sc1 ar1 → Fr [2401, 2402, 2404, 2405] [25] sc ar sc1 ar1 → ag_To X (d + 4) an_X5_readSum (76, [(0, .ref 24)], [], gh S a b sc1 ar1 lo, ex, 0, 0) (qi S a b lo ex (fun x sc' ar' => Iv S sc' ar' ∧ Fr [2401, 2402, 2404, 2405] [25] sc ar sc' ar' ∧ rl x 2)) := by
    intro sc1 ar1 hI1 hF1
    refine to_n 1 (fr' := (77, [(0, .ref 24)], [.int 1], gh S a b sc1 ar1 lo, ex, 0, 0)) rfl ?_
    exact to_rt (i := .ireturn) (tg := []) rfl rfl ⟨_, _, _, ⟨hI1, hF1, rl_n (n := 1) (by omega)⟩, rfl⟩
  have c12 : ∀ m : Nat, ∀ (i : Nat) (sc2 : Nat → Int32) (ar2 : Nat → Nat → Int32), i + m = 400 → Iv S sc2 ar2 → Fr [2401, 2402, 2404, 2405] [25] sc ar sc2 ar2 → ag_To X (d + 4) an_X5_readSum (12, [(0, .ref 24), (1, .int (nI w)), (2, .int (nI i))], [], gh S a b sc2 ar2 lo, ex, 0, 0) (qi S a b lo ex (fun x sc' ar' => Iv S sc' ar' ∧ Fr [2401, 2402, 2404, 2405] [25] sc ar sc' ar' ∧ rl x 2)) := by
    intro m
    induction m with
    | zero =>
      intro i sc2 ar2 hm hI2 hF2
      refine to_n 2 (fr' := (16, [(0, .ref 24), (1, .int (nI w)), (2, .int (nI i))], [.int 400, .int (nI i)], gh S a b sc2 ar2 lo, ex, 0, 0)) rfl ?_
      refine to_nc_ge_T (t := 76) (x := i) (y := 400) rfl (by omega) (by omega) (by omega) ?_
      refine to_lv (lv := [(0, .ref 24)]) rfl ⟨rfl, trivial⟩ ?_
      exact c76 sc2 ar2 hI2 hF2
    | succ m ih =>
      intro i sc2 ar2 hm hI2 hF2
      have c46 : ∀  (sc3 : Nat → Int32) (ar3 : Nat → Nat → Int32), Iv S sc3 ar3 → Fr [2401, 2402, 2404, 2405] [25] sc ar sc3 ar3 → ag_To X (d + 4) an_X5_readSum (46, [(0, .ref 24), (1, .int (nI w)), (2, .int (nI i))], [], gh S a b sc3 ar3 lo, ex, 0, 0) (qi S a b lo ex (fun x sc' ar' => Iv S sc' ar' ∧ Fr [2401, 2402, 2404, 2405] [25] sc ar sc' ar' ∧ rl x 2)) := by
        intro sc3 ar3 hI3 hF3
        refine to_n 1 (fr' := (47, [(0, .ref 24), (1, .int (nI w)), (2, .int (nI i))], [.ref 24], gh S a b sc3 ar3 lo, ex, 0, 0)) rfl ?_
        refine to_getR (v := (sc3 2405)) rfl rfl rfl rfl rfl ?_
        refine to_n 2 (fr' := (52, [(0, .ref 24), (1, .int (nI w)), (2, .int (nI i)), (3, .int (sc3 2405))], [.ref 24], gh S a b sc3 ar3 lo, ex, 0, 0)) rfl ?_
        refine to_cv (q := 53) (M1 := an_X5_advance) (rest := []) rfl rfl (by decide) rfl ⟨_, rfl⟩ (sf_X5_advance hW hI3  (d + 3)) (fun sc4 ar4 hx4 => ?_)
        obtain ⟨hI4, hG4⟩ := hx4
        have hF4 := fr_t hF3 hG4 (by decide) (by decide)
        refine to_eq (fr' := (55, [(0, .ref 24), (1, .int (nI w)), (2, .int (nI i)), (3, .int (sc3 2405))], [], gh S a b sc4 ar4 lo, ex, 0, 0)) rfl ?_
        refine to_n 2 (fr' := (57, [(0, .ref 24), (1, .int (nI w)), (2, .int (nI i)), (3, .int (sc3 2405))], [.int (nI w), .ref 24], gh S a b sc4 ar4 lo, ex, 0, 0)) rfl ?_
        refine to_ci (q := 47) (M1 := an_X5_readPart) (rest := []) rfl rfl (by decide) rfl ⟨_, rfl⟩ (hE sc4 ar4 hI4) (fun x5 sc5 ar5 hx5 => ?_)
        obtain ⟨hI5, hG5, hx5⟩ := hx5
        have hF5 := fr_t hF4 hG5 (by decide) (by decide)
        obtain ⟨n5, hn5, rfl⟩ := hx5
        refine to_eq (fr' := (60, [(0, .ref 24), (1, .int (nI w)), (2, .int (nI i)), (3, .int (sc3 2405))], [.int (nI n5)], gh S a b sc5 ar5 lo, ex, 0, 0)) rfl ?_
        refine to_nf_ne (t := 65) (x := n5) rfl (by omega) (fun q6 => ?_) (fun q6 => ?_)
        · refine to_n 2 (fr' := (67, [(0, .ref 24), (1, .int (nI w)), (2, .int (nI i)), (3, .int (sc3 2405))], [.int (sc3 2405), .ref 24], gh S a b sc5 ar5 lo, ex, 0, 0)) rfl ?_
          refine to_cv (q := 52) (M1 := an_X5_emit) (rest := []) rfl rfl (by decide) rfl ⟨_, rfl⟩ (sf_X5_emit hW hI5 (sc3 2405) (d + 3)) (fun sc7 ar7 hx7 => ?_)
          obtain ⟨hI7, hG7⟩ := hx7
          have hF7 := fr_t hF5 hG7 (by decide) (by decide)
          refine to_eq (fr' := (70, [(0, .ref 24), (1, .int (nI w)), (2, .int (nI i)), (3, .int (sc3 2405))], [], gh S a b sc7 ar7 lo, ex, 0, 0)) rfl ?_
          refine to_n 1 (fr' := (73, [(0, .ref 24), (1, .int (nI w)), (2, .int ((nI i) + 1)), (3, .int (sc3 2405))], [], gh S a b sc7 ar7 lo, ex, 0, 0)) rfl ?_
          rw [nI_1 i]
          refine to_n 1 (fr' := (12, [(0, .ref 24), (1, .int (nI w)), (2, .int (nI (i + 1))), (3, .int (sc3 2405))], [], gh S a b sc7 ar7 lo, ex, 0, 0)) rfl ?_
          refine to_lv (lv := [(0, .ref 24), (1, .int (nI w)), (2, .int (nI (i + 1)))]) rfl ⟨rfl, rfl, rfl, trivial⟩ ?_
          exact ih (i + 1) sc7 ar7 (by omega) hI7 hF7
        · refine to_n 1 (fr' := (64, [(0, .ref 24), (1, .int (nI w)), (2, .int (nI i)), (3, .int (sc3 2405))], [.int 0], gh S a b sc5 ar5 lo, ex, 0, 0)) rfl ?_
          exact to_rt (i := .ireturn) (tg := []) rfl rfl ⟨_, _, _, ⟨hI5, hF5, rl_n (n := 0) (by omega)⟩, rfl⟩
      refine to_n 2 (fr' := (16, [(0, .ref 24), (1, .int (nI w)), (2, .int (nI i))], [.int 400, .int (nI i)], gh S a b sc2 ar2 lo, ex, 0, 0)) rfl ?_
      refine to_nc_ge_F (t := 76) (x := i) (y := 400) rfl (by omega) (by omega) (by omega) ?_
      refine to_n 1 (fr' := (20, [(0, .ref 24), (1, .int (nI w)), (2, .int (nI i))], [.ref 24], gh S a b sc2 ar2 lo, ex, 0, 0)) rfl ?_
      refine to_getR (v := (sc2 2405)) rfl rfl rfl rfl rfl ?_
      refine to_n 1 (fr' := (25, [(0, .ref 24), (1, .int (nI w)), (2, .int (nI i))], [.int (-7), .int (sc2 2405)], gh S a b sc2 ar2 lo, ex, 0, 0)) rfl ?_
      refine to_ic_eq (t := 46) rfl (fun q8 => ?_) (fun q8 => ?_)
      · exact c46 sc2 ar2 hI2 hF2
      · refine to_n 1 (fr' := (29, [(0, .ref 24), (1, .int (nI w)), (2, .int (nI i))], [.ref 24], gh S a b sc2 ar2 lo, ex, 0, 0)) rfl ?_
        refine to_getR (v := (sc2 2405)) rfl rfl rfl rfl rfl ?_
        refine to_n 1 (fr' := (34, [(0, .ref 24), (1, .int (nI w)), (2, .int (nI i))], [.int (-8), .int (sc2 2405)], gh S a b sc2 ar2 lo, ex, 0, 0)) rfl ?_
        refine to_ic_eq (t := 46) rfl (fun q9 => ?_) (fun q9 => ?_)
        · exact c46 sc2 ar2 hI2 hF2
        · refine to_n 1 (fr' := (38, [(0, .ref 24), (1, .int (nI w)), (2, .int (nI i))], [.ref 24], gh S a b sc2 ar2 lo, ex, 0, 0)) rfl ?_
          refine to_getR (v := (sc2 2405)) rfl rfl rfl rfl rfl ?_
          refine to_n 1 (fr' := (43, [(0, .ref 24), (1, .int (nI w)), (2, .int (nI i))], [.int (-9), .int (sc2 2405)], gh S a b sc2 ar2 lo, ex, 0, 0)) rfl ?_
          refine to_ic_ne (t := 76) rfl (fun q10 => ?_) (fun q10 => ?_)
          · refine to_lv (lv := [(0, .ref 24)]) rfl ⟨rfl, trivial⟩ ?_
            exact c76 sc2 ar2 hI2 hF2
          · exact c46 sc2 ar2 hI2 hF2
  refine to_n 2 (fr' := (2, [(0, .ref 24), (1, .int (nI w))], [.int (nI w), .ref 24], gh S a b sc ar lo, ex, 0, 0)) rfl ?_
  refine to_ci (q := 47) (M1 := an_X5_readPart) (rest := []) rfl rfl (by decide) rfl ⟨_, rfl⟩ (hE sc ar hI) (fun x11 sc11 ar11 hx11 => ?_)
  obtain ⟨hI11, hG11, hx11⟩ := hx11
  have hF11 := fr_t hF hG11 (by decide) (by decide)
  obtain ⟨n11, hn11, rfl⟩ := hx11
  refine to_eq (fr' := (5, [(0, .ref 24), (1, .int (nI w))], [.int (nI n11)], gh S a b sc11 ar11 lo, ex, 0, 0)) rfl ?_
  refine to_nf_ne (t := 10) (x := n11) rfl (by omega) (fun q12 => ?_) (fun q12 => ?_)
  · refine to_n 2 (fr' := (12, [(0, .ref 24), (1, .int (nI w)), (2, .int 0)], [], gh S a b sc11 ar11 lo, ex, 0, 0)) rfl ?_
    exact c12 (400 - 0) 0 sc11 ar11 (by omega) hI11 hF11
  · refine to_n 1 (fr' := (9, [(0, .ref 24), (1, .int (nI w))], [.int 0], gh S a b sc11 ar11 lo, ex, 0, 0)) rfl ?_
    exact to_rt (i := .ireturn) (tg := []) rfl rfl ⟨_, _, _, ⟨hI11, hF11, rl_n (n := 0) (by omega)⟩, rfl⟩
set_option maxRecDepth 20000 in
theorem sf_X5_readTest {X : Nat × (Nat → Int32)} {S a b : Nat} {sc : Nat → Int32} {ar : Nat → Nat → Int32} {lo : Nat → Int64} {ex : Bool} (hW : Wd S a b) (hI : Iv S sc ar) (w : Nat) (hw : w < 7) (d : Nat) (hE : ∀ (sc : Nat → Int32) (ar : Nat → Nat → Int32), Iv S sc ar → ci X S a b (d + 5) 46 [.ref 24, .int (nI w)] sc ar lo ex (fun x sc' ar' => Iv S sc' ar' ∧ Fr [2401, 2402, 2404, 2405] [25] sc ar sc' ar' ∧ rl x 2)) : ci X S a b (d + 6) 45 [.ref 24, .int (nI w)] sc ar lo ex (fun x sc' ar' => Iv S sc' ar' ∧ Fr [2401, 2402, 2404, 2405] [25] sc ar sc' ar' ∧ rl x 2) := by
  obtain ⟨ha1, ha8, hb1, hb8, hab, hS1, hS⟩ := id hW
  refine ci_of (M := an_X5_readTest) rfl (Nat.le_of_ble_eq_true rfl) ?_
  have hF : Fr [2401, 2402, 2404, 2405] [25] sc ar sc ar := fr_0
  refine to_eq (fr' := (0, [(0, .ref 24), (1, .int (nI w))], [], gh S a b sc ar lo, ex, 0, 0)) rfl ?_
  have c85 : ∀  (sc1 : Nat → Int32) (ar1 : Nat → Nat → Int32), Iv S sc1 ar1 → Fr [2401, 2402, 2404, 2405] [25] sc ar sc1 ar1 → ag_To X (d + 5) an_X5_readTest (85, [(0, .ref 24)], [], gh S a b sc1 ar1 lo, ex, 0, 0) (qi S a b lo ex (fun x sc' ar' => Iv S sc' ar' ∧ Fr [2401, 2402, 2404, 2405] [25] sc ar sc' ar' ∧ rl x 2)) := by
    intro sc1 ar1 hI1 hF1
    refine to_n 1 (fr' := (86, [(0, .ref 24)], [.int 1], gh S a b sc1 ar1 lo, ex, 0, 0)) rfl ?_
    exact to_rt (i := .ireturn) (tg := []) rfl rfl ⟨_, _, _, ⟨hI1, hF1, rl_n (n := 1) (by omega)⟩, rfl⟩
  have c75 : ∀ (n : Nat) (sc2 : Nat → Int32) (ar2 : Nat → Nat → Int32), n < 2 → Iv S sc2 ar2 → Fr [2401, 2402, 2404, 2405] [25] sc ar sc2 ar2 → ag_To X (d + 5) an_X5_readTest (75, [(0, .ref 24), (1, .int (nI w)), (2, .int (nI n))], [], gh S a b sc2 ar2 lo, ex, 0, 0) (qi S a b lo ex (fun x sc' ar' => Iv S sc' ar' ∧ Fr [2401, 2402, 2404, 2405] [25] sc ar sc' ar' ∧ rl x 2)) := by
    intro n sc2 ar2 hc75_0 hI2 hF2
    refine to_n 1 (fr' := (76, [(0, .ref 24), (1, .int (nI w)), (2, .int (nI n))], [.int (nI n)], gh S a b sc2 ar2 lo, ex, 0, 0)) rfl ?_
    refine to_nf_eq (t := 85) (x := n) rfl (by omega) (fun q3 => ?_) (fun q3 => ?_)
    · refine to_lv (lv := [(0, .ref 24)]) rfl ⟨rfl, trivial⟩ ?_
      exact c85 sc2 ar2 hI2 hF2
    · refine to_n 2 (fr' := (82, [(0, .ref 24), (1, .int (nI w)), (2, .int (nI n))], [.int (-16), .ref 24], gh S a b sc2 ar2 lo, ex, 0, 0)) rfl ?_
      refine to_cv (q := 52) (M1 := an_X5_emit) (rest := []) rfl rfl (by decide) rfl ⟨_, rfl⟩ (sf_X5_emit hW hI2 (-16) (d + 4)) (fun sc4 ar4 hx4 => ?_)
      obtain ⟨hI4, hG4⟩ := hx4
      have hF4 := fr_t hF2 hG4 (by decide) (by decide)
      refine to_eq (fr' := (85, [(0, .ref 24), (1, .int (nI w)), (2, .int (nI n))], [], gh S a b sc4 ar4 lo, ex, 0, 0)) rfl ?_
      refine to_lv (lv := [(0, .ref 24)]) rfl ⟨rfl, trivial⟩ ?_
      exact c85 sc4 ar4 hI4 hF4
  have c51 : ∀ (n : Nat) (sc5 : Nat → Int32) (ar5 : Nat → Nat → Int32), n < 2 → Iv S sc5 ar5 → Fr [2401, 2402, 2404, 2405] [25] sc ar sc5 ar5 → ag_To X (d + 5) an_X5_readTest (51, [(0, .ref 24), (1, .int (nI w)), (2, .int (nI n))], [], gh S a b sc5 ar5 lo, ex, 0, 0) (qi S a b lo ex (fun x sc' ar' => Iv S sc' ar' ∧ Fr [2401, 2402, 2404, 2405] [25] sc ar sc' ar' ∧ rl x 2)) := by
    intro n sc5 ar5 hc51_0 hI5 hF5
    refine to_n 1 (fr' := (52, [(0, .ref 24), (1, .int (nI w)), (2, .int (nI n))], [.ref 24], gh S a b sc5 ar5 lo, ex, 0, 0)) rfl ?_
    refine to_getR (v := (sc5 2405)) rfl rfl rfl rfl rfl ?_
    refine to_n 2 (fr' := (57, [(0, .ref 24), (1, .int (nI w)), (2, .int (nI n)), (3, .int (sc5 2405))], [.ref 24], gh S a b sc5 ar5 lo, ex, 0, 0)) rfl ?_
    refine to_cv (q := 53) (M1 := an_X5_advance) (rest := []) rfl rfl (by decide) rfl ⟨_, rfl⟩ (sf_X5_advance hW hI5  (d + 4)) (fun sc6 ar6 hx6 => ?_)
    obtain ⟨hI6, hG6⟩ := hx6
    have hF6 := fr_t hF5 hG6 (by decide) (by decide)
    refine to_eq (fr' := (60, [(0, .ref 24), (1, .int (nI w)), (2, .int (nI n)), (3, .int (sc5 2405))], [], gh S a b sc6 ar6 lo, ex, 0, 0)) rfl ?_
    refine to_n 2 (fr' := (62, [(0, .ref 24), (1, .int (nI w)), (2, .int (nI n)), (3, .int (sc5 2405))], [.int (nI w), .ref 24], gh S a b sc6 ar6 lo, ex, 0, 0)) rfl ?_
    refine to_ci (q := 46) (M1 := an_X5_readSum) (rest := []) rfl rfl (by decide) rfl ⟨_, rfl⟩ (hE sc6 ar6 hI6) (fun x7 sc7 ar7 hx7 => ?_)
    obtain ⟨hI7, hG7, hx7⟩ := hx7
    have hF7 := fr_t hF6 hG7 (by decide) (by decide)
    obtain ⟨n7, hn7, rfl⟩ := hx7
    refine to_eq (fr' := (65, [(0, .ref 24), (1, .int (nI w)), (2, .int (nI n)), (3, .int (sc5 2405))], [.int (nI n7)], gh S a b sc7 ar7 lo, ex, 0, 0)) rfl ?_
    refine to_nf_ne (t := 70) (x := n7) rfl (by omega) (fun q8 => ?_) (fun q8 => ?_)
    · refine to_n 2 (fr' := (72, [(0, .ref 24), (1, .int (nI w)), (2, .int (nI n)), (3, .int (sc5 2405))], [.int (sc5 2405), .ref 24], gh S a b sc7 ar7 lo, ex, 0, 0)) rfl ?_
      refine to_cv (q := 52) (M1 := an_X5_emit) (rest := []) rfl rfl (by decide) rfl ⟨_, rfl⟩ (sf_X5_emit hW hI7 (sc5 2405) (d + 4)) (fun sc9 ar9 hx9 => ?_)
      obtain ⟨hI9, hG9⟩ := hx9
      have hF9 := fr_t hF7 hG9 (by decide) (by decide)
      refine to_eq (fr' := (75, [(0, .ref 24), (1, .int (nI w)), (2, .int (nI n)), (3, .int (sc5 2405))], [], gh S a b sc9 ar9 lo, ex, 0, 0)) rfl ?_
      refine to_lv (lv := [(0, .ref 24), (1, .int (nI w)), (2, .int (nI n))]) rfl ⟨rfl, rfl, rfl, trivial⟩ ?_
      exact c75 n sc9 ar9 (by omega) hI9 hF9
    · refine to_n 1 (fr' := (69, [(0, .ref 24), (1, .int (nI w)), (2, .int (nI n)), (3, .int (sc5 2405))], [.int 0], gh S a b sc7 ar7 lo, ex, 0, 0)) rfl ?_
      exact to_rt (i := .ireturn) (tg := []) rfl rfl ⟨_, _, _, ⟨hI7, hF7, rl_n (n := 0) (by omega)⟩, rfl⟩
  have c23 : ∀ (n : Nat) (sc10 : Nat → Int32) (ar10 : Nat → Nat → Int32), n < 2 → Iv S sc10 ar10 → Fr [2401, 2402, 2404, 2405] [25] sc ar sc10 ar10 → ag_To X (d + 5) an_X5_readTest (23, [(0, .ref 24), (1, .int (nI w)), (2, .int (nI n))], [], gh S a b sc10 ar10 lo, ex, 0, 0) (qi S a b lo ex (fun x sc' ar' => Iv S sc' ar' ∧ Fr [2401, 2402, 2404, 2405] [25] sc ar sc' ar' ∧ rl x 2)) := by
    intro n sc10 ar10 hc23_0 hI10 hF10
    refine to_n 2 (fr' := (25, [(0, .ref 24), (1, .int (nI w)), (2, .int (nI n))], [.int (nI w), .ref 24], gh S a b sc10 ar10 lo, ex, 0, 0)) rfl ?_
    refine to_ci (q := 46) (M1 := an_X5_readSum) (rest := []) rfl rfl (by decide) rfl ⟨_, rfl⟩ (hE sc10 ar10 hI10) (fun x11 sc11 ar11 hx11 => ?_)
    obtain ⟨hI11, hG11, hx11⟩ := hx11
    have hF11 := fr_t hF10 hG11 (by decide) (by decide)
    obtain ⟨n11, hn11, rfl⟩ := hx11
    refine to_eq (fr' := (28, [(0, .ref 24), (1, .int (nI w)), (2, .int (nI n))], [.int (nI n11)], gh S a b sc11 ar11 lo, ex, 0, 0)) rfl ?_
    refine to_nf_ne (t := 33) (x := n11) rfl (by omega) (fun q12 => ?_) (fun q12 => ?_)
    · refine to_n 1 (fr' := (34, [(0, .ref 24), (1, .int (nI w)), (2, .int (nI n))], [.ref 24], gh S a b sc11 ar11 lo, ex, 0, 0)) rfl ?_
      refine to_getR (v := (sc11 2405)) rfl rfl rfl rfl rfl ?_
      refine to_n 1 (fr' := (39, [(0, .ref 24), (1, .int (nI w)), (2, .int (nI n))], [.int (-10), .int (sc11 2405)], gh S a b sc11 ar11 lo, ex, 0, 0)) rfl ?_
      refine to_ic_eq (t := 51) rfl (fun q13 => ?_) (fun q13 => ?_)
      · exact c51 n sc11 ar11 (by omega) hI11 hF11
      · refine to_n 1 (fr' := (43, [(0, .ref 24), (1, .int (nI w)), (2, .int (nI n))], [.ref 24], gh S a b sc11 ar11 lo, ex, 0, 0)) rfl ?_
        refine to_getR (v := (sc11 2405)) rfl rfl rfl rfl rfl ?_
        refine to_n 1 (fr' := (48, [(0, .ref 24), (1, .int (nI w)), (2, .int (nI n))], [.int (-11), .int (sc11 2405)], gh S a b sc11 ar11 lo, ex, 0, 0)) rfl ?_
        refine to_ic_ne (t := 75) rfl (fun q14 => ?_) (fun q14 => ?_)
        · exact c75 n sc11 ar11 (by omega) hI11 hF11
        · exact c51 n sc11 ar11 (by omega) hI11 hF11
    · refine to_n 1 (fr' := (32, [(0, .ref 24), (1, .int (nI w)), (2, .int (nI n))], [.int 0], gh S a b sc11 ar11 lo, ex, 0, 0)) rfl ?_
      exact to_rt (i := .ireturn) (tg := []) rfl rfl ⟨_, _, _, ⟨hI11, hF11, rl_n (n := 0) (by omega)⟩, rfl⟩
  refine to_n 1 (fr' := (1, [(0, .ref 24), (1, .int (nI w))], [.ref 24], gh S a b sc ar lo, ex, 0, 0)) rfl ?_
  refine to_getR (v := (sc 2405)) rfl rfl rfl rfl rfl ?_
  refine to_n 1 (fr' := (6, [(0, .ref 24), (1, .int (nI w))], [.int (-16), .int (sc 2405)], gh S a b sc ar lo, ex, 0, 0)) rfl ?_
  refine to_ic_ne (t := 13) rfl (fun q15 => ?_) (fun q15 => ?_)
  · refine to_n 4 (fr' := (23, [(0, .ref 24), (1, .int (nI w)), (2, .int 0)], [], gh S a b sc ar lo, ex, 0, 0)) rfl ?_
    exact c23 0 sc ar (by omega) hI hF
  · refine to_n 6 (fr' := (20, [(0, .ref 24), (1, .int (nI w)), (2, .int 1)], [.ref 24], gh S a b sc ar lo, ex, 0, 0)) rfl ?_
    refine to_cv (q := 53) (M1 := an_X5_advance) (rest := []) rfl rfl (by decide) rfl ⟨_, rfl⟩ (sf_X5_advance hW hI  (d + 4)) (fun sc16 ar16 hx16 => ?_)
    obtain ⟨hI16, hG16⟩ := hx16
    have hF16 := fr_t hF hG16 (by decide) (by decide)
    refine to_eq (fr' := (23, [(0, .ref 24), (1, .int (nI w)), (2, .int 1)], [], gh S a b sc16 ar16 lo, ex, 0, 0)) rfl ?_
    exact c23 1 sc16 ar16 (by omega) hI16 hF16
set_option maxRecDepth 20000 in
theorem sf_X5_readExpr {X : Nat × (Nat → Int32)} {S a b : Nat} {sc : Nat → Int32} {ar : Nat → Nat → Int32} {lo : Nat → Int64} {ex : Bool} (hW : Wd S a b) (hI : Iv S sc ar) (w : Nat) (hw : w < 7) (d : Nat) (hE : ∀ (sc : Nat → Int32) (ar : Nat → Nat → Int32), Iv S sc ar → ci X S a b (d + 6) 45 [.ref 24, .int (nI w)] sc ar lo ex (fun x sc' ar' => Iv S sc' ar' ∧ Fr [2401, 2402, 2404, 2405] [25] sc ar sc' ar' ∧ rl x 2)) : ci X S a b (d + 7) 44 [.ref 24, .int (nI w)] sc ar lo ex (fun x sc' ar' => Iv S sc' ar' ∧ Fr [2401, 2402, 2404, 2405] [25] sc ar sc' ar' ∧ rl x 2) := by
  obtain ⟨ha1, ha8, hb1, hb8, hab, hS1, hS⟩ := id hW
  refine ci_of (M := an_X5_readExpr) rfl (Nat.le_of_ble_eq_true rfl) ?_
  have hF : Fr [2401, 2402, 2404, 2405] [25] sc ar sc ar := fr_0
  refine to_eq (fr' := (0, [(0, .ref 24), (1, .int (nI w))], [], gh S a b sc ar lo, ex, 0, 0)) rfl ?_
  have c102 : ∀  (sc1 : Nat → Int32) (ar1 : Nat → Nat → Int32), Iv S sc1 ar1 → Fr [2401, 2402, 2404, 2405] [25] sc ar sc1 ar1 → ag_To X (d + 6) an_X5_readExpr (102, [(0, .ref 24)], [], gh S a b sc1 ar1 lo, ex, 0, 0) (qi S a b lo ex (fun x sc' ar' => Iv S sc' ar' ∧ Fr [2401, 2402, 2404, 2405] [25] sc ar sc' ar' ∧ rl x 2)) := by
    intro sc1 ar1 hI1 hF1
    refine to_n 1 (fr' := (103, [(0, .ref 24)], [.int 1], gh S a b sc1 ar1 lo, ex, 0, 0)) rfl ?_
    exact to_rt (i := .ireturn) (tg := []) rfl rfl ⟨_, _, _, ⟨hI1, hF1, rl_n (n := 1) (by omega)⟩, rfl⟩
  have c47 : ∀ m : Nat, ∀ (i : Nat) (sc2 : Nat → Int32) (ar2 : Nat → Nat → Int32), i + m = 400 → Iv S sc2 ar2 → Fr [2401, 2402, 2404, 2405] [25] sc ar sc2 ar2 → ag_To X (d + 6) an_X5_readExpr (47, [(0, .ref 24), (1, .int (nI w)), (2, .int (nI i))], [], gh S a b sc2 ar2 lo, ex, 0, 0) (qi S a b lo ex (fun x sc' ar' => Iv S sc' ar' ∧ Fr [2401, 2402, 2404, 2405] [25] sc ar sc' ar' ∧ rl x 2)) := by
    intro m
    induction m with
    | zero =>
      intro i sc2 ar2 hm hI2 hF2
      refine to_n 2 (fr' := (51, [(0, .ref 24), (1, .int (nI w)), (2, .int (nI i))], [.int 400, .int (nI i)], gh S a b sc2 ar2 lo, ex, 0, 0)) rfl ?_
      refine to_nc_ge_T (t := 102) (x := i) (y := 400) rfl (by omega) (by omega) (by omega) ?_
      refine to_lv (lv := [(0, .ref 24)]) rfl ⟨rfl, trivial⟩ ?_
      exact c102 sc2 ar2 hI2 hF2
    | succ m ih =>
      intro i sc2 ar2 hm hI2 hF2
      have c72 : ∀  (sc3 : Nat → Int32) (ar3 : Nat → Nat → Int32), Iv S sc3 ar3 → Fr [2401, 2402, 2404, 2405] [25] sc ar sc3 ar3 → ag_To X (d + 6) an_X5_readExpr (72, [(0, .ref 24), (1, .int (nI w)), (2, .int (nI i))], [], gh S a b sc3 ar3 lo, ex, 0, 0) (qi S a b lo ex (fun x sc' ar' => Iv S sc' ar' ∧ Fr [2401, 2402, 2404, 2405] [25] sc ar sc' ar' ∧ rl x 2)) := by
        intro sc3 ar3 hI3 hF3
        refine to_n 1 (fr' := (73, [(0, .ref 24), (1, .int (nI w)), (2, .int (nI i))], [.ref 24], gh S a b sc3 ar3 lo, ex, 0, 0)) rfl ?_
        refine to_getR (v := (sc3 2405)) rfl rfl rfl rfl rfl ?_
        refine to_n 2 (fr' := (78, [(0, .ref 24), (1, .int (nI w)), (2, .int (nI i)), (3, .int (sc3 2405))], [.ref 24], gh S a b sc3 ar3 lo, ex, 0, 0)) rfl ?_
        refine to_cv (q := 53) (M1 := an_X5_advance) (rest := []) rfl rfl (by decide) rfl ⟨_, rfl⟩ (sf_X5_advance hW hI3  (d + 5)) (fun sc4 ar4 hx4 => ?_)
        obtain ⟨hI4, hG4⟩ := hx4
        have hF4 := fr_t hF3 hG4 (by decide) (by decide)
        refine to_eq (fr' := (81, [(0, .ref 24), (1, .int (nI w)), (2, .int (nI i)), (3, .int (sc3 2405))], [], gh S a b sc4 ar4 lo, ex, 0, 0)) rfl ?_
        refine to_n 2 (fr' := (83, [(0, .ref 24), (1, .int (nI w)), (2, .int (nI i)), (3, .int (sc3 2405))], [.int (nI w), .ref 24], gh S a b sc4 ar4 lo, ex, 0, 0)) rfl ?_
        refine to_ci (q := 45) (M1 := an_X5_readTest) (rest := []) rfl rfl (by decide) rfl ⟨_, rfl⟩ (hE sc4 ar4 hI4) (fun x5 sc5 ar5 hx5 => ?_)
        obtain ⟨hI5, hG5, hx5⟩ := hx5
        have hF5 := fr_t hF4 hG5 (by decide) (by decide)
        obtain ⟨n5, hn5, rfl⟩ := hx5
        refine to_eq (fr' := (86, [(0, .ref 24), (1, .int (nI w)), (2, .int (nI i)), (3, .int (sc3 2405))], [.int (nI n5)], gh S a b sc5 ar5 lo, ex, 0, 0)) rfl ?_
        refine to_nf_ne (t := 91) (x := n5) rfl (by omega) (fun q6 => ?_) (fun q6 => ?_)
        · refine to_n 2 (fr' := (93, [(0, .ref 24), (1, .int (nI w)), (2, .int (nI i)), (3, .int (sc3 2405))], [.int (sc3 2405), .ref 24], gh S a b sc5 ar5 lo, ex, 0, 0)) rfl ?_
          refine to_cv (q := 52) (M1 := an_X5_emit) (rest := []) rfl rfl (by decide) rfl ⟨_, rfl⟩ (sf_X5_emit hW hI5 (sc3 2405) (d + 5)) (fun sc7 ar7 hx7 => ?_)
          obtain ⟨hI7, hG7⟩ := hx7
          have hF7 := fr_t hF5 hG7 (by decide) (by decide)
          refine to_eq (fr' := (96, [(0, .ref 24), (1, .int (nI w)), (2, .int (nI i)), (3, .int (sc3 2405))], [], gh S a b sc7 ar7 lo, ex, 0, 0)) rfl ?_
          refine to_n 1 (fr' := (99, [(0, .ref 24), (1, .int (nI w)), (2, .int ((nI i) + 1)), (3, .int (sc3 2405))], [], gh S a b sc7 ar7 lo, ex, 0, 0)) rfl ?_
          rw [nI_1 i]
          refine to_n 1 (fr' := (47, [(0, .ref 24), (1, .int (nI w)), (2, .int (nI (i + 1))), (3, .int (sc3 2405))], [], gh S a b sc7 ar7 lo, ex, 0, 0)) rfl ?_
          refine to_lv (lv := [(0, .ref 24), (1, .int (nI w)), (2, .int (nI (i + 1)))]) rfl ⟨rfl, rfl, rfl, trivial⟩ ?_
          exact ih (i + 1) sc7 ar7 (by omega) hI7 hF7
        · refine to_n 1 (fr' := (90, [(0, .ref 24), (1, .int (nI w)), (2, .int (nI i)), (3, .int (sc3 2405))], [.int 0], gh S a b sc5 ar5 lo, ex, 0, 0)) rfl ?_
          exact to_rt (i := .ireturn) (tg := []) rfl rfl ⟨_, _, _, ⟨hI5, hF5, rl_n (n := 0) (by omega)⟩, rfl⟩
      refine to_n 2 (fr' := (51, [(0, .ref 24), (1, .int (nI w)), (2, .int (nI i))], [.int 400, .int (nI i)], gh S a b sc2 ar2 lo, ex, 0, 0)) rfl ?_
      refine to_nc_ge_F (t := 102) (x := i) (y := 400) rfl (by omega) (by omega) (by omega) ?_
      refine to_n 1 (fr' := (55, [(0, .ref 24), (1, .int (nI w)), (2, .int (nI i))], [.ref 24], gh S a b sc2 ar2 lo, ex, 0, 0)) rfl ?_
      refine to_getR (v := (sc2 2405)) rfl rfl rfl rfl rfl ?_
      refine to_n 1 (fr' := (60, [(0, .ref 24), (1, .int (nI w)), (2, .int (nI i))], [.int (-14), .int (sc2 2405)], gh S a b sc2 ar2 lo, ex, 0, 0)) rfl ?_
      refine to_ic_eq (t := 72) rfl (fun q8 => ?_) (fun q8 => ?_)
      · exact c72 sc2 ar2 hI2 hF2
      · refine to_n 1 (fr' := (64, [(0, .ref 24), (1, .int (nI w)), (2, .int (nI i))], [.ref 24], gh S a b sc2 ar2 lo, ex, 0, 0)) rfl ?_
        refine to_getR (v := (sc2 2405)) rfl rfl rfl rfl rfl ?_
        refine to_n 1 (fr' := (69, [(0, .ref 24), (1, .int (nI w)), (2, .int (nI i))], [.int (-15), .int (sc2 2405)], gh S a b sc2 ar2 lo, ex, 0, 0)) rfl ?_
        refine to_ic_ne (t := 102) rfl (fun q9 => ?_) (fun q9 => ?_)
        · refine to_lv (lv := [(0, .ref 24)]) rfl ⟨rfl, trivial⟩ ?_
          exact c102 sc2 ar2 hI2 hF2
        · exact c72 sc2 ar2 hI2 hF2
  refine to_n 2 (fr' := (3, [(0, .ref 24), (1, .int (nI w))], [.int 6, .int (nI w)], gh S a b sc ar lo, ex, 0, 0)) rfl ?_
  refine to_nc_lt (t := 35) (x := w) (y := 6) rfl (by omega) (by omega) (fun q10 => ?_) (fun q10 => ?_)
  · refine to_n 2 (fr' := (37, [(0, .ref 24), (1, .int (nI w))], [.int (nI w), .ref 24], gh S a b sc ar lo, ex, 0, 0)) rfl ?_
    refine to_ci (q := 45) (M1 := an_X5_readTest) (rest := []) rfl rfl (by decide) rfl ⟨_, rfl⟩ (hE sc ar hI) (fun x11 sc11 ar11 hx11 => ?_)
    obtain ⟨hI11, hG11, hx11⟩ := hx11
    have hF11 := fr_t hF hG11 (by decide) (by decide)
    obtain ⟨n11, hn11, rfl⟩ := hx11
    refine to_eq (fr' := (40, [(0, .ref 24), (1, .int (nI w))], [.int (nI n11)], gh S a b sc11 ar11 lo, ex, 0, 0)) rfl ?_
    refine to_nf_ne (t := 45) (x := n11) rfl (by omega) (fun q12 => ?_) (fun q12 => ?_)
    · refine to_n 2 (fr' := (47, [(0, .ref 24), (1, .int (nI w)), (2, .int 0)], [], gh S a b sc11 ar11 lo, ex, 0, 0)) rfl ?_
      exact c47 (400 - 0) 0 sc11 ar11 (by omega) hI11 hF11
    · refine to_n 1 (fr' := (44, [(0, .ref 24), (1, .int (nI w))], [.int 0], gh S a b sc11 ar11 lo, ex, 0, 0)) rfl ?_
      exact to_rt (i := .ireturn) (tg := []) rfl rfl ⟨_, _, _, ⟨hI11, hF11, rl_n (n := 0) (by omega)⟩, rfl⟩
  · refine to_n 2 (fr' := (8, [(0, .ref 24), (1, .int (nI w))], [.ref 24, .ref 24], gh S a b sc ar lo, ex, 0, 0)) rfl ?_
    refine to_getR (v := (sc 2405)) rfl rfl rfl rfl rfl ?_
    refine to_n 1 (fr' := (13, [(0, .ref 24), (1, .int (nI w))], [.int (-16), .int (sc 2405), .ref 24], gh S a b sc ar lo, ex, 0, 0)) rfl ?_
    refine to_ic_eq (t := 23) rfl (fun q13 => ?_) (fun q13 => ?_)
    · refine to_n 2 (fr' := (31, [(0, .ref 24), (1, .int (nI w))], [.int 2, .ref 24], gh S a b sc ar lo, ex, 0, 0)) rfl ?_
      refine to_ci (q := 51) (M1 := an_X5_fail) (rest := []) rfl rfl (by decide) rfl ⟨_, rfl⟩ (sf_X5_fail hW hI 2 (d + 5)) (fun x14 sc14 ar14 hx14 => ?_)
      obtain ⟨hI14, hG14, hx14⟩ := hx14
      have hF14 := fr_t hF hG14 (by decide) (by decide)
      obtain ⟨n14, hn14, rfl⟩ := hx14
      refine to_eq (fr' := (34, [(0, .ref 24), (1, .int (nI w))], [.int (nI n14)], gh S a b sc14 ar14 lo, ex, 0, 0)) rfl ?_
      exact to_rt (i := .ireturn) (tg := []) rfl (ai_rtz (rl_n (n := n14) (by omega))) ⟨_, _, _, ⟨hI14, hF14, rl_n (n := n14) (by omega)⟩, rfl⟩
    · refine to_n 1 (fr' := (17, [(0, .ref 24), (1, .int (nI w))], [.ref 24, .ref 24], gh S a b sc ar lo, ex, 0, 0)) rfl ?_
      refine to_cp (q := 49) (M1 := an_X5_beginsPart) (rest := [.ref 24]) rfl rfl (by decide) rfl ⟨_, rfl⟩ (sf_X5_beginsPart hW hI  (d + 4)) (fun x15 hx15 => ?_)
      obtain ⟨n15, hn15, rfl⟩ := hx15
      refine to_eq (fr' := (20, [(0, .ref 24), (1, .int (nI w))], [.int (nI n15), .ref 24], gh S a b sc ar lo, ex, 0, 0)) rfl ?_
      refine to_nf_eq (t := 27) (x := n15) rfl (by omega) (fun q16 => ?_) (fun q16 => ?_)
      · refine to_n 1 (fr' := (28, [(0, .ref 24), (1, .int (nI w))], [.ref 24, .ref 24], gh S a b sc ar lo, ex, 0, 0)) rfl ?_
        refine to_cp (q := 50) (M1 := an_X5_faultOfPart) (rest := [.ref 24]) rfl rfl (by decide) rfl ⟨_, rfl⟩ (sf_X5_faultOfPart hW hI  (d + 5)) (fun x17 hx17 => ?_)
        refine to_eq (fr' := (31, [(0, .ref 24), (1, .int (nI w))], [.int x17, .ref 24], gh S a b sc ar lo, ex, 0, 0)) rfl ?_
        refine to_ci (q := 51) (M1 := an_X5_fail) (rest := []) rfl rfl (by decide) rfl ⟨_, rfl⟩ (sf_X5_fail hW hI x17 (d + 5)) (fun x18 sc18 ar18 hx18 => ?_)
        obtain ⟨hI18, hG18, hx18⟩ := hx18
        have hF18 := fr_t hF hG18 (by decide) (by decide)
        obtain ⟨n18, hn18, rfl⟩ := hx18
        refine to_eq (fr' := (34, [(0, .ref 24), (1, .int (nI w))], [.int (nI n18)], gh S a b sc18 ar18 lo, ex, 0, 0)) rfl ?_
        exact to_rt (i := .ireturn) (tg := []) rfl (ai_rtz (rl_n (n := n18) (by omega))) ⟨_, _, _, ⟨hI18, hF18, rl_n (n := n18) (by omega)⟩, rfl⟩
      · refine to_n 2 (fr' := (31, [(0, .ref 24), (1, .int (nI w))], [.int 2, .ref 24], gh S a b sc ar lo, ex, 0, 0)) rfl ?_
        refine to_ci (q := 51) (M1 := an_X5_fail) (rest := []) rfl rfl (by decide) rfl ⟨_, rfl⟩ (sf_X5_fail hW hI 2 (d + 5)) (fun x19 sc19 ar19 hx19 => ?_)
        obtain ⟨hI19, hG19, hx19⟩ := hx19
        have hF19 := fr_t hF hG19 (by decide) (by decide)
        obtain ⟨n19, hn19, rfl⟩ := hx19
        refine to_eq (fr' := (34, [(0, .ref 24), (1, .int (nI w))], [.int (nI n19)], gh S a b sc19 ar19 lo, ex, 0, 0)) rfl ?_
        exact to_rt (i := .ireturn) (tg := []) rfl (ai_rtz (rl_n (n := n19) (by omega))) ⟨_, _, _, ⟨hI19, hF19, rl_n (n := n19) (by omega)⟩, rfl⟩
