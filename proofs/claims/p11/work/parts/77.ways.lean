/-! Ways, FireBreak -/
set_option maxRecDepth 20000 in
theorem sf_X8_spread {X : Nat × (Nat → Int32)} {S a b : Nat} {sc : Nat → Int32} {ar : Nat → Nat → Int32} {lo : Nat → Int64} {ex : Bool} (hW : Wd S a b) (hI : Iv S sc ar) (k1 : Nat) (hk1 : k1 < S) (g : Nat) (hg : g < S) (c : Nat) (hc : c < 1000) (t : zT) (hg : Gd S a b ar) (hz : ZSt S t sc ar) (d : Nat)  : cv X S a b (d + 2) 71 [.ref 36, .int (nI k1), .int (nI g), .int (nI c)] sc ar lo ex (fun sc' ar' => Iv S sc' ar' ∧ Fr [3603] [37, 38] sc ar sc' ar' ∧ ZSt S (zsp S a b g (ar 5) c k1 4 t) sc' ar') := by
  obtain ⟨ha1, ha8, hb1, hb8, hab, hS1, hS⟩ := id hW
  refine cv_of (M := an_X8_spread) rfl (Nat.le_of_ble_eq_true rfl) ?_
  have hF : Fr [3603] [37, 38] sc ar sc ar := fr_0
  refine to_eq (fr' := (0, [(0, .ref 36), (1, .int (nI k1)), (2, .int (nI g)), (3, .int (nI c))], [], gh S a b sc ar lo, ex, 0, 0)) rfl ?_
  have c3 : ∀ m : Nat, ∀ (i : Nat) (sc1 : Nat → Int32) (ar1 : Nat → Nat → Int32), i + m = 4 → ZSt S (zsp S a b g (ar 5) c k1 i t) sc1 ar1 → Iv S sc1 ar1 → Fr [3603] [37, 38] sc ar sc1 ar1 → ag_To X (d + 1) an_X8_spread (3, [(0, .ref 36), (1, .int (nI k1)), (2, .int (nI g)), (3, .int (nI c)), (4, .int (nI i))], [], gh S a b sc1 ar1 lo, ex, 0, 0) (qv S a b lo ex (fun sc' ar' => Iv S sc' ar' ∧ Fr [3603] [37, 38] sc ar sc' ar' ∧ ZSt S (zsp S a b g (ar 5) c k1 4 t) sc' ar')) := by
    intro m
    induction m with
    | zero =>
      intro i sc1 ar1 hm hc3_0 hI1 hF1
      refine to_n 2 (fr' := (6, [(0, .ref 36), (1, .int (nI k1)), (2, .int (nI g)), (3, .int (nI c)), (4, .int (nI i))], [.int 4, .int (nI i)], gh S a b sc1 ar1 lo, ex, 0, 0)) rfl ?_
      refine to_nc_ge_T (t := 115) (x := i) (y := 4) rfl (by omega) (by omega) (by omega) ?_
      exact to_rt (i := .return_) (tg := []) rfl rfl ⟨_, _, ⟨hI1, hF1, (by have e9 : i = 4 := (by omega); rw [e9] at hc3_0; exact hc3_0)⟩, rfl⟩
    | succ m ih =>
      intro i sc1 ar1 hm hc3_0 hI1 hF1
      have c109 : ∀  (sc2 : Nat → Int32) (ar2 : Nat → Nat → Int32), ZSt S (zsp S a b g (ar 5) c k1 (i + 1) t) sc2 ar2 → Iv S sc2 ar2 → Fr [3603] [37, 38] sc ar sc2 ar2 → ag_To X (d + 1) an_X8_spread (109, [(0, .ref 36), (1, .int (nI k1)), (2, .int (nI g)), (3, .int (nI c)), (4, .int (nI i))], [], gh S a b sc2 ar2 lo, ex, 0, 0) (qv S a b lo ex (fun sc' ar' => Iv S sc' ar' ∧ Fr [3603] [37, 38] sc ar sc' ar' ∧ ZSt S (zsp S a b g (ar 5) c k1 4 t) sc' ar')) := by
        intro sc2 ar2 hc109_0 hI2 hF2
        refine to_n 1 (fr' := (112, [(0, .ref 36), (1, .int (nI k1)), (2, .int (nI g)), (3, .int (nI c)), (4, .int ((nI i) + 1))], [], gh S a b sc2 ar2 lo, ex, 0, 0)) rfl ?_
        rw [nI_1 i]
        refine to_n 1 (fr' := (3, [(0, .ref 36), (1, .int (nI k1)), (2, .int (nI g)), (3, .int (nI c)), (4, .int (nI (i + 1)))], [], gh S a b sc2 ar2 lo, ex, 0, 0)) rfl ?_
        exact ih (i + 1) sc2 ar2 (by omega) hc109_0 hI2 hF2
      refine to_n 2 (fr' := (6, [(0, .ref 36), (1, .int (nI k1)), (2, .int (nI g)), (3, .int (nI c)), (4, .int (nI i))], [.int 4, .int (nI i)], gh S a b sc1 ar1 lo, ex, 0, 0)) rfl ?_
      refine to_nc_ge_F (t := 115) (x := i) (y := 4) rfl (by omega) (by omega) (by omega) ?_
      refine to_n 1 (fr' := (10, [(0, .ref 36), (1, .int (nI k1)), (2, .int (nI g)), (3, .int (nI c)), (4, .int (nI i))], [.ref 36], gh S a b sc1 ar1 lo, ex, 0, 0)) rfl ?_
      refine to_get rfl rfl rfl rfl ?_
      refine to_get rfl rfl rfl rfl ?_
      refine to_n 2 (fr' := (18, [(0, .ref 36), (1, .int (nI k1)), (2, .int (nI g)), (3, .int (nI c)), (4, .int (nI i))], [.int (nI k1), .int 4, .ref 4], gh S a b sc1 ar1 lo, ex, 0, 0)) rfl ?_
      refine to_mulN (x := 4) (y := k1) rfl ?_
      refine to_n 1 (fr' := (21, [(0, .ref 36), (1, .int (nI k1)), (2, .int (nI g)), (3, .int (nI c)), (4, .int (nI i))], [.int (nI i), .int (nI (4 * k1)), .ref 4], gh S a b sc1 ar1 lo, ex, 0, 0)) rfl ?_
      refine to_addN (x := (4 * k1)) (y := i) rfl ?_
      refine to_ialR (i := ((4 * k1) + i)) (v := (ar 4 ((4 * k1) + i))) rfl (by decide) rfl (by omega) (by omega) (congrFun (hF1.2 4 (by decide)) ((4 * k1) + i)) ?_
      refine to_n 2 (fr' := (26, [(0, .ref 36), (1, .int (nI k1)), (2, .int (nI g)), (3, .int (nI c)), (4, .int (nI i)), (5, .int (ar 4 ((4 * k1) + i)))], [.ref 36], gh S a b sc1 ar1 lo, ex, 0, 0)) rfl ?_
      refine to_get rfl rfl rfl rfl ?_
      refine to_n 1 (fr' := (31, [(0, .ref 36), (1, .int (nI k1)), (2, .int (nI g)), (3, .int (nI c)), (4, .int (nI i)), (5, .int (ar 4 ((4 * k1) + i)))], [.int (ar 4 ((4 * k1) + i)), .ref 1], gh S a b sc1 ar1 lo, ex, 0, 0)) rfl ?_
      rcases has_or (x := (ar 4 ((4 * k1) + i))) (B := S) (by omega) with ⟨n3, hn3, e3⟩ | w3
      · rw [e3]
        refine to_cp (q := 2) (M1 := an_X0_has) (rest := []) rfl rfl (by decide) rfl ⟨_, rfl⟩ (sf_has_1 (n := n3)  (by omega) d) (fun x3 hx3 => ?_)
        obtain rfl := hx3
        refine to_eq (fr' := (34, [(0, .ref 36), (1, .int (nI k1)), (2, .int (nI g)), (3, .int (nI c)), (4, .int (nI i)), (5, .int (nI n3))], [.int 1], gh S a b sc1 ar1 lo, ex, 0, 0)) rfl ?_
        refine to_n 3 (fr' := (40, [(0, .ref 36), (1, .int (nI k1)), (2, .int (nI g)), (3, .int (nI c)), (4, .int (nI i)), (5, .int (nI n3))], [.int (nI g), .int (nI n3)], gh S a b sc1 ar1 lo, ex, 0, 0)) rfl ?_
        refine to_nc_eq (t := 109) (x := n3) (y := g) rfl (by omega) (by omega) (fun q4 => ?_) (fun q4 => ?_)
        · refine to_lv (lv := [(0, .ref 36), (1, .int (nI k1)), (2, .int (nI g)), (3, .int (nI c)), (4, .int (nI i))]) rfl ⟨rfl, rfl, rfl, rfl, rfl, trivial⟩ ?_
          exact c109 sc1 ar1 (by show ZSt S (zs1 S g (ar 5) c (znn a b k1 i) (zsp S a b g (ar 5) c k1 i t)) _ _; exact zs1_no hc3_0 (fun w => w.2.1 ((zsd hW hg hk1 (by omega) hn3 e3).trans q4))) hI1 hF1
        · refine to_n 1 (fr' := (44, [(0, .ref 36), (1, .int (nI k1)), (2, .int (nI g)), (3, .int (nI c)), (4, .int (nI i)), (5, .int (nI n3))], [.ref 36], gh S a b sc1 ar1 lo, ex, 0, 0)) rfl ?_
          refine to_get rfl rfl rfl rfl ?_
          refine to_n 1 (fr' := (49, [(0, .ref 36), (1, .int (nI k1)), (2, .int (nI g)), (3, .int (nI c)), (4, .int (nI i)), (5, .int (nI n3))], [.int (nI n3), .ref 37], gh S a b sc1 ar1 lo, ex, 0, 0)) rfl ?_
          refine to_ialR (i := n3) (v := ((ar1 37) n3)) rfl (by decide) rfl (by omega) (by omega) rfl ?_
          refine to_n 1 (fr' := (51, [(0, .ref 36), (1, .int (nI k1)), (2, .int (nI g)), (3, .int (nI c)), (4, .int (nI i)), (5, .int (nI n3))], [.int (-1), .int ((ar1 37) n3)], gh S a b sc1 ar1 lo, ex, 0, 0)) rfl ?_
          refine to_ic_ne (t := 109) rfl (fun q5 => ?_) (fun q5 => ?_)
          · refine to_lv (lv := [(0, .ref 36), (1, .int (nI k1)), (2, .int (nI g)), (3, .int (nI c)), (4, .int (nI i))]) rfl ⟨rfl, rfl, rfl, rfl, rfl, trivial⟩ ?_
            exact c109 sc1 ar1 (by show ZSt S (zs1 S g (ar 5) c (znn a b k1 i) (zsp S a b g (ar 5) c k1 i t)) _ _; exact zs1_no hc3_0 (fun w => w.2.2.1 (by rw [(zsd hW hg hk1 (by omega) hn3 e3)]; exact zs_set hc3_0 hn3 q5))) hI1 hF1
          · refine to_n 1 (fr' := (55, [(0, .ref 36), (1, .int (nI k1)), (2, .int (nI g)), (3, .int (nI c)), (4, .int (nI i)), (5, .int (nI n3))], [.ref 36], gh S a b sc1 ar1 lo, ex, 0, 0)) rfl ?_
            refine to_get rfl rfl rfl rfl ?_
            refine to_get rfl rfl rfl rfl ?_
            refine to_n 1 (fr' := (63, [(0, .ref 36), (1, .int (nI k1)), (2, .int (nI g)), (3, .int (nI c)), (4, .int (nI i)), (5, .int (nI n3))], [.int (nI n3), .ref 5], gh S a b sc1 ar1 lo, ex, 0, 0)) rfl ?_
            refine to_ialR (i := n3) (v := (ar 5 n3)) rfl (by decide) rfl (by omega) (by omega) (congrFun (hF1.2 5 (by decide)) n3) ?_
            refine to_n 1 (fr' := (65, [(0, .ref 36), (1, .int (nI k1)), (2, .int (nI g)), (3, .int (nI c)), (4, .int (nI i)), (5, .int (nI n3))], [.int 1, .int (ar 5 n3)], gh S a b sc1 ar1 lo, ex, 0, 0)) rfl ?_
            refine to_ic_eq (t := 109) rfl (fun q6 => ?_) (fun q6 => ?_)
            · refine to_lv (lv := [(0, .ref 36), (1, .int (nI k1)), (2, .int (nI g)), (3, .int (nI c)), (4, .int (nI i))]) rfl ⟨rfl, rfl, rfl, rfl, rfl, trivial⟩ ?_
              exact c109 sc1 ar1 (by show ZSt S (zs1 S g (ar 5) c (znn a b k1 i) (zsp S a b g (ar 5) c k1 i t)) _ _; exact zs1_no hc3_0 (fun w => w.2.2.2 (by rw [(zsd hW hg hk1 (by omega) hn3 e3)]; exact q6))) hI1 hF1
            · obtain ⟨n7, hn7, e7⟩ := iv_s3603 hI1
              have hroom := zs_room hS hc3_0 hn3 q5 e7 (by omega)
              refine to_n 1 (fr' := (69, [(0, .ref 36), (1, .int (nI k1)), (2, .int (nI g)), (3, .int (nI c)), (4, .int (nI i)), (5, .int (nI n3))], [.ref 36], gh S a b sc1 ar1 lo, ex, 0, 0)) rfl ?_
              refine to_getR (v := (nI n7)) rfl rfl rfl rfl e7 ?_
              refine to_n 1 (fr' := (73, [(0, .ref 36), (1, .int (nI k1)), (2, .int (nI g)), (3, .int (nI c)), (4, .int (nI i)), (5, .int (nI n3))], [.ref 36, .int (nI n7)], gh S a b sc1 ar1 lo, ex, 0, 0)) rfl ?_
              refine to_get rfl rfl rfl rfl ?_
              refine to_len rfl (by decide) rfl (by decide) ?_
              refine to_eq (fr' := (77, [(0, .ref 36), (1, .int (nI k1)), (2, .int (nI g)), (3, .int (nI c)), (4, .int (nI i)), (5, .int (nI n3))], [.int (nI S), .int (nI n7)], gh S a b sc1 ar1 lo, ex, 0, 0)) rfl ?_
              refine to_nc_ge_F (t := 109) (x := n7) (y := S) rfl (by omega) (by omega) (by omega) ?_
              refine to_n 1 (fr' := (81, [(0, .ref 36), (1, .int (nI k1)), (2, .int (nI g)), (3, .int (nI c)), (4, .int (nI i)), (5, .int (nI n3))], [.ref 36], gh S a b sc1 ar1 lo, ex, 0, 0)) rfl ?_
              refine to_get rfl rfl rfl rfl ?_
              refine to_n 2 (fr' := (87, [(0, .ref 36), (1, .int (nI k1)), (2, .int (nI g)), (3, .int (nI c)), (4, .int (nI i)), (5, .int (nI n3))], [.int (nI c), .int (nI n3), .ref 37], gh S a b sc1 ar1 lo, ex, 0, 0)) rfl ?_
              refine to_iasR (i := n3) (h' := gh S a b sc1 (uA ar1 37 (upd (ar1 37) n3 (nI c))) lo) rfl rfl (by omega) (by omega) rfl ?_
              have hI8 := ia_37 (g := (upd (ar1 37) n3 (nI c))) hI1
              have hF8 := fr_a (c := 37) (g := (upd (ar1 37) n3 (nI c))) hF1 (by decide)
              refine to_n 1 (fr' := (89, [(0, .ref 36), (1, .int (nI k1)), (2, .int (nI g)), (3, .int (nI c)), (4, .int (nI i)), (5, .int (nI n3))], [.ref 36], gh S a b sc1 (uA ar1 37 (upd (ar1 37) n3 (nI c))) lo, ex, 0, 0)) rfl ?_
              refine to_get rfl rfl rfl rfl ?_
              refine to_n 1 (fr' := (93, [(0, .ref 36), (1, .int (nI k1)), (2, .int (nI g)), (3, .int (nI c)), (4, .int (nI i)), (5, .int (nI n3))], [.ref 36, .ref 38], gh S a b sc1 (uA ar1 37 (upd (ar1 37) n3 (nI c))) lo, ex, 0, 0)) rfl ?_
              refine to_getR (v := (nI n7)) rfl rfl rfl rfl e7 ?_
              refine to_n 1 (fr' := (98, [(0, .ref 36), (1, .int (nI k1)), (2, .int (nI g)), (3, .int (nI c)), (4, .int (nI i)), (5, .int (nI n3))], [.int (nI n3), .int (nI n7), .ref 38], gh S a b sc1 (uA ar1 37 (upd (ar1 37) n3 (nI c))) lo, ex, 0, 0)) rfl ?_
              refine to_iasR (i := n7) (h' := gh S a b sc1 (uA (uA ar1 37 (upd (ar1 37) n3 (nI c))) 38 (upd ((uA ar1 37 (upd (ar1 37) n3 (nI c))) 38) n7 (nI n3))) lo) rfl rfl (by omega) (by omega) rfl ?_
              have hI9 := ia_38 (i := n7) (v := (nI n3)) hI8 (rl_n (n := n3) (by omega))
              have hF9 := fr_a (c := 38) (g := (upd ((uA ar1 37 (upd (ar1 37) n3 (nI c))) 38) n7 (nI n3))) hF8 (by decide)
              refine to_n 2 (fr' := (101, [(0, .ref 36), (1, .int (nI k1)), (2, .int (nI g)), (3, .int (nI c)), (4, .int (nI i)), (5, .int (nI n3))], [.ref 36, .ref 36], gh S a b sc1 (uA (uA ar1 37 (upd (ar1 37) n3 (nI c))) 38 (upd ((uA ar1 37 (upd (ar1 37) n3 (nI c))) 38) n7 (nI n3))) lo, ex, 0, 0)) rfl ?_
              refine to_getR (v := (nI n7)) rfl rfl rfl rfl e7 ?_
              refine to_n 1 (fr' := (105, [(0, .ref 36), (1, .int (nI k1)), (2, .int (nI g)), (3, .int (nI c)), (4, .int (nI i)), (5, .int (nI n3))], [.int 1, .int (nI n7), .ref 36], gh S a b sc1 (uA (uA ar1 37 (upd (ar1 37) n3 (nI c))) 38 (upd ((uA ar1 37 (upd (ar1 37) n3 (nI c))) 38) n7 (nI n3))) lo, ex, 0, 0)) rfl ?_
              refine to_addN (x := n7) (y := 1) rfl ?_
              refine to_putR (h' := gh S a b (upd sc1 3603 (nI (n7 + 1))) (uA (uA ar1 37 (upd (ar1 37) n3 (nI c))) 38 (upd ((uA ar1 37 (upd (ar1 37) n3 (nI c))) 38) n7 (nI n3))) lo) rfl rfl rfl (Nat.le_of_ble_eq_true rfl) rfl rfl ?_
              have hI10 := ip_3603 (v := (nI (n7 + 1))) hI9 (rl_n (n := (n7 + 1)) (by omega))
              have hF10 := fr_s (k := 3603) (v := (nI (n7 + 1))) hF9 (by decide)
              refine to_lv (lv := [(0, .ref 36), (1, .int (nI k1)), (2, .int (nI g)), (3, .int (nI c)), (4, .int (nI i))]) rfl ⟨rfl, rfl, rfl, rfl, rfl, trivial⟩ ?_
              exact c109 (upd sc1 3603 (nI (n7 + 1))) (uA (uA ar1 37 (upd (ar1 37) n3 (nI c))) 38 (upd ((uA ar1 37 (upd (ar1 37) n3 (nI c))) 38) n7 (nI n3))) (by show ZSt S (zs1 S g (ar 5) c (znn a b k1 i) (zsp S a b g (ar 5) c k1 i t)) _ _; rw [(zsd hW hg hk1 (by omega) hn3 e3)]; exact zs1_put hc hc3_0 hn3 q4 q5 q6 hroom.2) hI10 hF10
      · refine to_cp (q := 2) (M1 := an_X0_has) (rest := []) rfl rfl (by decide) rfl ⟨_, rfl⟩ (sf_has_0  w3 d) (fun x3 hx3 => ?_)
        obtain rfl := hx3
        refine to_eq (fr' := (34, [(0, .ref 36), (1, .int (nI k1)), (2, .int (nI g)), (3, .int (nI c)), (4, .int (nI i)), (5, .int (ar 4 ((4 * k1) + i)))], [.int 0], gh S a b sc1 ar1 lo, ex, 0, 0)) rfl ?_
        refine to_n 1 (fr' := (109, [(0, .ref 36), (1, .int (nI k1)), (2, .int (nI g)), (3, .int (nI c)), (4, .int (nI i)), (5, .int (ar 4 ((4 * k1) + i)))], [], gh S a b sc1 ar1 lo, ex, 0, 0)) rfl ?_
        refine to_lv (lv := [(0, .ref 36), (1, .int (nI k1)), (2, .int (nI g)), (3, .int (nI c)), (4, .int (nI i))]) rfl ⟨rfl, rfl, rfl, rfl, rfl, trivial⟩ ?_
        exact c109 sc1 ar1 (by show ZSt S (zs1 S g (ar 5) c (znn a b k1 i) (zsp S a b g (ar 5) c k1 i t)) _ _; exact zs1_no hc3_0 (fun w => zsd0 hW hg hk1 (by omega) w3 w.1)) hI1 hF1
  refine to_n 2 (fr' := (3, [(0, .ref 36), (1, .int (nI k1)), (2, .int (nI g)), (3, .int (nI c)), (4, .int 0)], [], gh S a b sc ar lo, ex, 0, 0)) rfl ?_
  exact c3 (4 - 0) 0 sc ar (by omega) hz hI hF
set_option maxRecDepth 20000 in
theorem sf_X8_reckonSteps {X : Nat × (Nat → Int32)} {S a b : Nat} {sc : Nat → Int32} {ar : Nat → Nat → Int32} {lo : Nat → Int64} {ex : Bool} (hW : Wd S a b) (hI : Iv S sc ar) (k1 : Nat) (hk1 : k1 < S) (hg : Gd S a b ar) (d : Nat)  : cv X S a b (d + 3) 70 [.ref 36, .int (nI k1)] sc ar lo ex (fun sc' ar' => Iv S sc' ar' ∧ Fr [3603] [37, 38] sc ar sc' ar' ∧ ZP S a k1 (ar 5) (ar' 37)) := by
  obtain ⟨ha1, ha8, hb1, hb8, hab, hS1, hS⟩ := id hW
  refine cv_of (M := an_X8_reckonSteps) rfl (Nat.le_of_ble_eq_true rfl) ?_
  have hF : Fr [3603] [37, 38] sc ar sc ar := fr_0
  refine to_eq (fr' := (0, [(0, .ref 36), (1, .int (nI k1))], [], gh S a b sc ar lo, ex, 0, 0)) rfl ?_
  have c22 : ∀ m : Nat, ∀ (i : Nat) (sc1 : Nat → Int32) (ar1 : Nat → Nat → Int32), S ≤ i + m → ZL S a b k1 (ar 5) i sc1 ar1 → i ≤ S → Iv S sc1 ar1 → Fr [3603] [37, 38] sc ar sc1 ar1 → ag_To X (d + 2) an_X8_reckonSteps (22, [(0, .ref 36), (1, .int (nI k1)), (2, .int (nI i))], [], gh S a b sc1 ar1 lo, ex, 0, 0) (qv S a b lo ex (fun sc' ar' => Iv S sc' ar' ∧ Fr [3603] [37, 38] sc ar sc' ar' ∧ ZP S a k1 (ar 5) (ar' 37))) := by
    intro m
    induction m with
    | zero =>
      intro i sc1 ar1 hm hc22_0 hc22_1 hI1 hF1
      refine to_n 2 (fr' := (24, [(0, .ref 36), (1, .int (nI k1)), (2, .int (nI i))], [.ref 36, .int (nI i)], gh S a b sc1 ar1 lo, ex, 0, 0)) rfl ?_
      obtain ⟨n2, hn2, e2⟩ := iv_s3603 hI1
      refine to_getR (v := (nI n2)) rfl rfl rfl rfl e2 ?_
      refine to_nc_ge (t := 66) (x := i) (y := n2) rfl (by omega) (by omega) (fun q3 => ?_) (fun q3 => ?_)
      · exact to_rt (i := .return_) (tg := []) rfl rfl ⟨_, _, ⟨hI1, hF1, (zl_e hW hc22_0 e2 (by omega) (by omega))⟩, rfl⟩
      · refine to_n 2 (fr' := (32, [(0, .ref 36), (1, .int (nI k1)), (2, .int (nI i))], [.ref 36, .int (nI i)], gh S a b sc1 ar1 lo, ex, 0, 0)) rfl ?_
        refine to_get rfl rfl rfl rfl ?_
        refine to_len rfl (by decide) rfl (by decide) ?_
        refine to_eq (fr' := (36, [(0, .ref 36), (1, .int (nI k1)), (2, .int (nI i))], [.int (nI S), .int (nI i)], gh S a b sc1 ar1 lo, ex, 0, 0)) rfl ?_
        refine to_nc_ge_T (t := 66) (x := i) (y := S) rfl (by omega) (by omega) (by omega) ?_
        exact to_rt (i := .return_) (tg := []) rfl rfl ⟨_, _, ⟨hI1, hF1, (zl_e hW hc22_0 e2 (by omega) (by omega))⟩, rfl⟩
    | succ m ih =>
      intro i sc1 ar1 hm hc22_0 hc22_1 hI1 hF1
      obtain ⟨T, hT, hB⟩ := id hc22_0
      refine to_n 2 (fr' := (24, [(0, .ref 36), (1, .int (nI k1)), (2, .int (nI i))], [.ref 36, .int (nI i)], gh S a b sc1 ar1 lo, ex, 0, 0)) rfl ?_
      obtain ⟨n4, hn4, e4⟩ := iv_s3603 hI1
      refine to_getR (v := (nI n4)) rfl rfl rfl rfl e4 ?_
      refine to_nc_ge (t := 66) (x := i) (y := n4) rfl (by omega) (by omega) (fun q5 => ?_) (fun q5 => ?_)
      · exact to_rt (i := .return_) (tg := []) rfl rfl ⟨_, _, ⟨hI1, hF1, (zl_e hW hc22_0 e4 (by omega) (by omega))⟩, rfl⟩
      · refine to_n 2 (fr' := (32, [(0, .ref 36), (1, .int (nI k1)), (2, .int (nI i))], [.ref 36, .int (nI i)], gh S a b sc1 ar1 lo, ex, 0, 0)) rfl ?_
        refine to_get rfl rfl rfl rfl ?_
        refine to_len rfl (by decide) rfl (by decide) ?_
        refine to_eq (fr' := (36, [(0, .ref 36), (1, .int (nI k1)), (2, .int (nI i))], [.int (nI S), .int (nI i)], gh S a b sc1 ar1 lo, ex, 0, 0)) rfl ?_
        refine to_nc_ge (t := 66) (x := i) (y := S) rfl (by omega) (by omega) (fun q6 => ?_) (fun q6 => ?_)
        · exact to_rt (i := .return_) (tg := []) rfl rfl ⟨_, _, ⟨hI1, hF1, (zl_e hW hc22_0 e4 (by omega) (by omega))⟩, rfl⟩
        · refine to_n 1 (fr' := (40, [(0, .ref 36), (1, .int (nI k1)), (2, .int (nI i))], [.ref 36], gh S a b sc1 ar1 lo, ex, 0, 0)) rfl ?_
          refine to_get rfl rfl rfl rfl ?_
          refine to_n 1 (fr' := (44, [(0, .ref 36), (1, .int (nI k1)), (2, .int (nI i))], [.int (nI i), .ref 38], gh S a b sc1 ar1 lo, ex, 0, 0)) rfl ?_
          obtain ⟨n7, hn7, e7⟩ := iv_a38 hI1 i
          refine to_ialR (i := i) (v := (nI n7)) rfl (by decide) rfl (by omega) (by omega) e7 ?_
          refine to_n 5 (fr' := (50, [(0, .ref 36), (1, .int (nI k1)), (2, .int (nI i)), (3, .int (nI n7))], [.ref 36, .int (nI k1), .int (nI n7), .ref 36], gh S a b sc1 ar1 lo, ex, 0, 0)) rfl ?_
          refine to_get rfl rfl rfl rfl ?_
          refine to_n 1 (fr' := (54, [(0, .ref 36), (1, .int (nI k1)), (2, .int (nI i)), (3, .int (nI n7))], [.int (nI n7), .ref 37, .int (nI k1), .int (nI n7), .ref 36], gh S a b sc1 ar1 lo, ex, 0, 0)) rfl ?_
          obtain ⟨hT6, hT7, hT8, hT9⟩ := zl_at hS hT hB e4 (by omega) (by omega) e7 (by omega)
          refine to_ialR (i := n7) (v := nI (T.1 n7)) rfl (by decide) rfl (by omega) (by omega) hT9 ?_
          refine to_n 1 (fr' := (56, [(0, .ref 36), (1, .int (nI k1)), (2, .int (nI i)), (3, .int (nI n7))], [.int 1, .int (nI (T.1 n7)), .int (nI k1), .int (nI n7), .ref 36], gh S a b sc1 ar1 lo, ex, 0, 0)) rfl ?_
          refine to_addN (x := (T.1 n7)) (y := 1) rfl ?_
          have hat := hT9
          refine to_cv (q := 71) (M1 := an_X8_spread) (rest := []) rfl rfl (by decide) rfl ⟨_, rfl⟩ (sf_X8_spread hW hI1 n7 (by omega) k1 (by omega) ((T.1 n7) + 1) (by omega) T (gd_fr hg hF1 (by decide) (by decide) (by decide)) hT d) (fun sc8 ar8 hx8 => ?_)
          obtain ⟨hI8, hG8, hx8⟩ := hx8
          have hF8 := fr_t hF1 hG8 (by decide) (by decide)
          rw [hF1.2 5 (by decide)] at hx8
          refine to_eq (fr' := (60, [(0, .ref 36), (1, .int (nI k1)), (2, .int (nI i)), (3, .int (nI n7))], [], gh S a b sc8 ar8 lo, ex, 0, 0)) rfl ?_
          refine to_n 1 (fr' := (63, [(0, .ref 36), (1, .int (nI k1)), (2, .int ((nI i) + 1)), (3, .int (nI n7))], [], gh S a b sc8 ar8 lo, ex, 0, 0)) rfl ?_
          rw [nI_1 i]
          refine to_n 1 (fr' := (22, [(0, .ref 36), (1, .int (nI k1)), (2, .int (nI (i + 1))), (3, .int (nI n7))], [], gh S a b sc8 ar8 lo, ex, 0, 0)) rfl ?_
          refine to_lv (lv := [(0, .ref 36), (1, .int (nI k1)), (2, .int (nI (i + 1)))]) rfl ⟨rfl, rfl, rfl, trivial⟩ ?_
          exact ih (i + 1) sc8 ar8 (by omega) (zl_s hW hB hT6 (by rw [hT7]; exact hx8)) (by omega) hI8 hF8
  refine to_n 1 (fr' := (1, [(0, .ref 36), (1, .int (nI k1))], [.ref 36], gh S a b sc ar lo, ex, 0, 0)) rfl ?_
  refine to_get rfl rfl rfl rfl ?_
  refine to_n 1 (fr' := (5, [(0, .ref 36), (1, .int (nI k1))], [.int (-1), .ref 37], gh S a b sc ar lo, ex, 0, 0)) rfl ?_
  refine to_fill (q := 168) (n := S) (f := (ar 37)) (rest := []) (h2 := gh S a b sc (uA ar 37 (fun j => if j < S then (-1) else (ar 37) j)) lo) rfl rfl (by decide) rfl trivial (by decide) rfl (by omega) rfl (d + 1) rfl rfl ?_
  have hI9 := ia_37 (g := (fun j => if j < S then (-1) else (ar 37) j)) hI
  have hF9 := fr_a (c := 37) (g := (fun j => if j < S then (-1) else (ar 37) j)) hF (by decide)
  refine to_eq (fr' := (8, [(0, .ref 36), (1, .int (nI k1))], [], gh S a b sc (uA ar 37 (fun j => if j < S then (-1) else (ar 37) j)) lo, ex, 0, 0)) rfl ?_
  refine to_n 2 (fr' := (10, [(0, .ref 36), (1, .int (nI k1))], [.int 0, .ref 36], gh S a b sc (uA ar 37 (fun j => if j < S then (-1) else (ar 37) j)) lo, ex, 0, 0)) rfl ?_
  refine to_putR (h' := gh S a b (upd sc 3603 0) (uA ar 37 (fun j => if j < S then (-1) else (ar 37) j)) lo) rfl rfl rfl (Nat.le_of_ble_eq_true rfl) rfl rfl ?_
  have hI10 := ip_3603 (v := 0) hI9 (rl_n (n := 0) (by omega))
  have hF10 := fr_s (k := 3603) (v := 0) hF9 (by decide)
  refine to_n 4 (fr' := (17, [(0, .ref 36), (1, .int (nI k1))], [.int 0, .int (nI k1), .int (nI k1), .ref 36], gh S a b (upd sc 3603 0) (uA ar 37 (fun j => if j < S then (-1) else (ar 37) j)) lo, ex, 0, 0)) rfl ?_
  refine to_cv (q := 71) (M1 := an_X8_spread) (rest := []) rfl rfl (by decide) rfl ⟨_, rfl⟩ (sf_X8_spread hW hI10 k1 (by omega) k1 (by omega) 0 (by omega) (fun _ => 1000, fun _ => 0, 0) (gd_fr hg hF10 (by decide) (by decide) (by decide)) (zs_0 (fun k hk => (show (fun j => if j < S then (-1) else (ar 37) j) k = -1 from if_pos hk)) rfl) d) (fun sc11 ar11 hx11 => ?_)
  obtain ⟨hI11, hG11, hx11⟩ := hx11
  have hF11 := fr_t hF10 hG11 (by decide) (by decide)
  refine to_eq (fr' := (20, [(0, .ref 36), (1, .int (nI k1))], [], gh S a b sc11 ar11 lo, ex, 0, 0)) rfl ?_
  refine to_n 2 (fr' := (22, [(0, .ref 36), (1, .int (nI k1)), (2, .int 0)], [], gh S a b sc11 ar11 lo, ex, 0, 0)) rfl ?_
  exact c22 (S - 0) 0 sc11 ar11 (by omega) (zl_0 hW hk1 hx11) (by omega) hI11 hF11
set_option maxRecDepth 20000 in
theorem sf_X8_stepTowards {X : Nat × (Nat → Int32)} {S a b : Nat} {sc : Nat → Int32} {ar : Nat → Nat → Int32} {lo : Nat → Int64} {ex : Bool} (hW : Wd S a b) (hI : Iv S sc ar) (k1 : Nat) (hk1 : k1 < S) (k2 : Nat) (hk2 : k2 < S) (hg : Gd S a b ar) (d : Nat)  : ci X S a b (d + 4) 69 [.ref 36, .int (nI k1), .int (nI k2)] sc ar lo ex (fun x sc' ar' => Iv S sc' ar' ∧ Fr [3603] [37, 38] sc ar sc' ar' ∧ rl x S ∧ x = nI (zgo S a k2 (ar 5) k1)) := by
  obtain ⟨ha1, ha8, hb1, hb8, hab, hS1, hS⟩ := id hW
  refine ci_of (M := an_X8_stepTowards) rfl (Nat.le_of_ble_eq_true rfl) ?_
  have hF : Fr [3603] [37, 38] sc ar sc ar := fr_0
  refine to_eq (fr' := (0, [(0, .ref 36), (1, .int (nI k1)), (2, .int (nI k2))], [], gh S a b sc ar lo, ex, 0, 0)) rfl ?_
  have c19 : ∀ m : Nat, ∀ (y : Nat) (z : Nat) (i : Nat) (sc1 : Nat → Int32) (ar1 : Nat → Nat → Int32), i + m = 4 → y < S → ZW S a k2 (ar 5) (ar1 37) → (∀ k : Nat, k < S → rq (ar1 37 k) 1000) → ZTN S a b k1 (ar1 37) i y z → z < 1000 → Iv S sc1 ar1 → Fr [3603] [37, 38] sc ar sc1 ar1 → ag_To X (d + 3) an_X8_stepTowards (19, [(0, .ref 36), (1, .int (nI k1)), (2, .int (nI k2)), (3, .int (nI y)), (4, .int (nI z)), (5, .int (nI i))], [], gh S a b sc1 ar1 lo, ex, 0, 0) (qi S a b lo ex (fun x sc' ar' => Iv S sc' ar' ∧ Fr [3603] [37, 38] sc ar sc' ar' ∧ rl x S ∧ x = nI (zgo S a k2 (ar 5) k1))) := by
    intro m
    induction m with
    | zero =>
      intro y z i sc1 ar1 hm hc19_0 hc19_1 hc19_2 hc19_3 hc19_4 hI1 hF1
      refine to_n 2 (fr' := (22, [(0, .ref 36), (1, .int (nI k1)), (2, .int (nI k2)), (3, .int (nI y)), (4, .int (nI z)), (5, .int (nI i))], [.int 4, .int (nI i)], gh S a b sc1 ar1 lo, ex, 0, 0)) rfl ?_
      refine to_nc_ge_T (t := 94) (x := i) (y := 4) rfl (by omega) (by omega) (by omega) ?_
      refine to_n 1 (fr' := (95, [(0, .ref 36), (1, .int (nI k1)), (2, .int (nI k2)), (3, .int (nI y)), (4, .int (nI z)), (5, .int (nI i))], [.int (nI y)], gh S a b sc1 ar1 lo, ex, 0, 0)) rfl ?_
      exact to_rt (i := .ireturn) (tg := []) rfl rfl ⟨_, _, _, ⟨hI1, hF1, ⟨rl_n (n := y) (by omega), (ztn_e hW hk1 hc19_1 (by have e9 : i = 4 := (by omega); rw [e9] at hc19_3; exact hc19_3))⟩⟩, rfl⟩
    | succ m ih =>
      intro y z i sc1 ar1 hm hc19_0 hc19_1 hc19_2 hc19_3 hc19_4 hI1 hF1
      refine to_n 2 (fr' := (22, [(0, .ref 36), (1, .int (nI k1)), (2, .int (nI k2)), (3, .int (nI y)), (4, .int (nI z)), (5, .int (nI i))], [.int 4, .int (nI i)], gh S a b sc1 ar1 lo, ex, 0, 0)) rfl ?_
      refine to_nc_ge_F (t := 94) (x := i) (y := 4) rfl (by omega) (by omega) (by omega) ?_
      refine to_n 1 (fr' := (26, [(0, .ref 36), (1, .int (nI k1)), (2, .int (nI k2)), (3, .int (nI y)), (4, .int (nI z)), (5, .int (nI i))], [.ref 36], gh S a b sc1 ar1 lo, ex, 0, 0)) rfl ?_
      refine to_get rfl rfl rfl rfl ?_
      refine to_get rfl rfl rfl rfl ?_
      refine to_n 2 (fr' := (34, [(0, .ref 36), (1, .int (nI k1)), (2, .int (nI k2)), (3, .int (nI y)), (4, .int (nI z)), (5, .int (nI i))], [.int (nI k1), .int 4, .ref 4], gh S a b sc1 ar1 lo, ex, 0, 0)) rfl ?_
      refine to_mulN (x := 4) (y := k1) rfl ?_
      refine to_n 1 (fr' := (37, [(0, .ref 36), (1, .int (nI k1)), (2, .int (nI k2)), (3, .int (nI y)), (4, .int (nI z)), (5, .int (nI i))], [.int (nI i), .int (nI (4 * k1)), .ref 4], gh S a b sc1 ar1 lo, ex, 0, 0)) rfl ?_
      refine to_addN (x := (4 * k1)) (y := i) rfl ?_
      refine to_ialR (i := ((4 * k1) + i)) (v := (ar 4 ((4 * k1) + i))) rfl (by decide) rfl (by omega) (by omega) (congrFun (hF1.2 4 (by decide)) ((4 * k1) + i)) ?_
      refine to_n 2 (fr' := (42, [(0, .ref 36), (1, .int (nI k1)), (2, .int (nI k2)), (3, .int (nI y)), (4, .int (nI z)), (5, .int (nI i)), (6, .int (ar 4 ((4 * k1) + i)))], [.ref 36], gh S a b sc1 ar1 lo, ex, 0, 0)) rfl ?_
      refine to_get rfl rfl rfl rfl ?_
      refine to_n 1 (fr' := (47, [(0, .ref 36), (1, .int (nI k1)), (2, .int (nI k2)), (3, .int (nI y)), (4, .int (nI z)), (5, .int (nI i)), (6, .int (ar 4 ((4 * k1) + i)))], [.int (ar 4 ((4 * k1) + i)), .ref 1], gh S a b sc1 ar1 lo, ex, 0, 0)) rfl ?_
      rcases has_or (x := (ar 4 ((4 * k1) + i))) (B := S) (by omega) with ⟨n2, hn2, e2⟩ | w2
      · rw [e2]
        refine to_cp (q := 2) (M1 := an_X0_has) (rest := []) rfl rfl (by decide) rfl ⟨_, rfl⟩ (sf_has_1 (n := n2)  (by omega) (d + 2)) (fun x2 hx2 => ?_)
        obtain rfl := hx2
        refine to_eq (fr' := (50, [(0, .ref 36), (1, .int (nI k1)), (2, .int (nI k2)), (3, .int (nI y)), (4, .int (nI z)), (5, .int (nI i)), (6, .int (nI n2))], [.int 1], gh S a b sc1 ar1 lo, ex, 0, 0)) rfl ?_
        refine to_n 2 (fr' := (54, [(0, .ref 36), (1, .int (nI k1)), (2, .int (nI k2)), (3, .int (nI y)), (4, .int (nI z)), (5, .int (nI i)), (6, .int (nI n2))], [.ref 36], gh S a b sc1 ar1 lo, ex, 0, 0)) rfl ?_
        refine to_get rfl rfl rfl rfl ?_
        refine to_n 1 (fr' := (59, [(0, .ref 36), (1, .int (nI k1)), (2, .int (nI k2)), (3, .int (nI y)), (4, .int (nI z)), (5, .int (nI i)), (6, .int (nI n2))], [.int (nI n2), .ref 37], gh S a b sc1 ar1 lo, ex, 0, 0)) rfl ?_
        rcases hc19_2 n2 (by omega) with e3 | ⟨n3, hn3, e3⟩
        · refine to_ialR (i := n2) (v := (-1)) rfl (by decide) rfl (by omega) (by omega) e3 ?_
          refine to_n 3 (fr' := (91, [(0, .ref 36), (1, .int (nI k1)), (2, .int (nI k2)), (3, .int (nI y)), (4, .int (nI z)), (5, .int ((nI i) + 1)), (6, .int (nI n2))], [], gh S a b sc1 ar1 lo, ex, 0, 0)) rfl ?_
          rw [nI_1 i]
          refine to_n 1 (fr' := (19, [(0, .ref 36), (1, .int (nI k1)), (2, .int (nI k2)), (3, .int (nI y)), (4, .int (nI z)), (5, .int (nI (i + 1))), (6, .int (nI n2))], [], gh S a b sc1 ar1 lo, ex, 0, 0)) rfl ?_
          refine to_lv (lv := [(0, .ref 36), (1, .int (nI k1)), (2, .int (nI k2)), (3, .int (nI y)), (4, .int (nI z)), (5, .int (nI (i + 1)))]) rfl ⟨rfl, rfl, rfl, rfl, rfl, rfl, trivial⟩ ?_
          exact ih y z (i + 1) sc1 ar1 (by omega) (by omega) hc19_1 hc19_2 (ztn_no hc19_3 (zn_of2 hW hg hk1 (by omega) hn2 e2 e3)) (by omega) hI1 hF1
        · refine to_ialR (i := n2) (v := (nI n3)) rfl (by decide) rfl (by omega) (by omega) e3 ?_
          refine to_n 1 (fr' := (61, [(0, .ref 36), (1, .int (nI k1)), (2, .int (nI k2)), (3, .int (nI y)), (4, .int (nI z)), (5, .int (nI i)), (6, .int (nI n2))], [.int (-1), .int (nI n3)], gh S a b sc1 ar1 lo, ex, 0, 0)) rfl ?_
          refine to_ic_eq_F (t := 88) (x := (nI n3)) (y := (-1)) rfl (nI_neg (by omega) (by decide)) ?_
          refine to_n 1 (fr' := (65, [(0, .ref 36), (1, .int (nI k1)), (2, .int (nI k2)), (3, .int (nI y)), (4, .int (nI z)), (5, .int (nI i)), (6, .int (nI n2))], [.ref 36], gh S a b sc1 ar1 lo, ex, 0, 0)) rfl ?_
          refine to_get rfl rfl rfl rfl ?_
          refine to_n 1 (fr' := (70, [(0, .ref 36), (1, .int (nI k1)), (2, .int (nI k2)), (3, .int (nI y)), (4, .int (nI z)), (5, .int (nI i)), (6, .int (nI n2))], [.int (nI n2), .ref 37], gh S a b sc1 ar1 lo, ex, 0, 0)) rfl ?_
          refine to_ialR (i := n2) (v := (nI n3)) rfl (by decide) rfl (by omega) (by omega) e3 ?_
          refine to_n 1 (fr' := (73, [(0, .ref 36), (1, .int (nI k1)), (2, .int (nI k2)), (3, .int (nI y)), (4, .int (nI z)), (5, .int (nI i)), (6, .int (nI n2))], [.int (nI z), .int (nI n3)], gh S a b sc1 ar1 lo, ex, 0, 0)) rfl ?_
          refine to_nc_ge (t := 88) (x := n3) (y := z) rfl (by omega) (by omega) (fun q4 => ?_) (fun q4 => ?_)
          · refine to_n 1 (fr' := (91, [(0, .ref 36), (1, .int (nI k1)), (2, .int (nI k2)), (3, .int (nI y)), (4, .int (nI z)), (5, .int ((nI i) + 1)), (6, .int (nI n2))], [], gh S a b sc1 ar1 lo, ex, 0, 0)) rfl ?_
            rw [nI_1 i]
            refine to_n 1 (fr' := (19, [(0, .ref 36), (1, .int (nI k1)), (2, .int (nI k2)), (3, .int (nI y)), (4, .int (nI z)), (5, .int (nI (i + 1))), (6, .int (nI n2))], [], gh S a b sc1 ar1 lo, ex, 0, 0)) rfl ?_
            refine to_lv (lv := [(0, .ref 36), (1, .int (nI k1)), (2, .int (nI k2)), (3, .int (nI y)), (4, .int (nI z)), (5, .int (nI (i + 1)))]) rfl ⟨rfl, rfl, rfl, rfl, rfl, rfl, trivial⟩ ?_
            exact ih y z (i + 1) sc1 ar1 (by omega) (by omega) hc19_1 hc19_2 (ztn_o hW hk1 (by omega) hc19_1 hc19_3 (zc_of hW hg hk1 (by omega) hn2 (by omega) e2 e3) (by omega)) (by omega) hI1 hF1
          · refine to_n 1 (fr' := (77, [(0, .ref 36), (1, .int (nI k1)), (2, .int (nI k2)), (3, .int (nI y)), (4, .int (nI z)), (5, .int (nI i)), (6, .int (nI n2))], [.ref 36], gh S a b sc1 ar1 lo, ex, 0, 0)) rfl ?_
            refine to_get rfl rfl rfl rfl ?_
            refine to_n 1 (fr' := (82, [(0, .ref 36), (1, .int (nI k1)), (2, .int (nI k2)), (3, .int (nI y)), (4, .int (nI z)), (5, .int (nI i)), (6, .int (nI n2))], [.int (nI n2), .ref 37], gh S a b sc1 ar1 lo, ex, 0, 0)) rfl ?_
            refine to_ialR (i := n2) (v := (nI n3)) rfl (by decide) rfl (by omega) (by omega) e3 ?_
            refine to_n 4 (fr' := (91, [(0, .ref 36), (1, .int (nI k1)), (2, .int (nI k2)), (3, .int (nI n2)), (4, .int (nI n3)), (5, .int ((nI i) + 1)), (6, .int (nI n2))], [], gh S a b sc1 ar1 lo, ex, 0, 0)) rfl ?_
            rw [nI_1 i]
            refine to_n 1 (fr' := (19, [(0, .ref 36), (1, .int (nI k1)), (2, .int (nI k2)), (3, .int (nI n2)), (4, .int (nI n3)), (5, .int (nI (i + 1))), (6, .int (nI n2))], [], gh S a b sc1 ar1 lo, ex, 0, 0)) rfl ?_
            refine to_lv (lv := [(0, .ref 36), (1, .int (nI k1)), (2, .int (nI k2)), (3, .int (nI n2)), (4, .int (nI n3)), (5, .int (nI (i + 1)))]) rfl ⟨rfl, rfl, rfl, rfl, rfl, rfl, trivial⟩ ?_
            exact ih n2 n3 (i + 1) sc1 ar1 (by omega) (by omega) hc19_1 hc19_2 (ztn_y hS hc19_1 hc19_3 (zc_of hW hg hk1 (by omega) hn2 (by omega) e2 e3) (by omega)) (by omega) hI1 hF1
      · refine to_cp (q := 2) (M1 := an_X0_has) (rest := []) rfl rfl (by decide) rfl ⟨_, rfl⟩ (sf_has_0  w2 (d + 2)) (fun x2 hx2 => ?_)
        obtain rfl := hx2
        refine to_eq (fr' := (50, [(0, .ref 36), (1, .int (nI k1)), (2, .int (nI k2)), (3, .int (nI y)), (4, .int (nI z)), (5, .int (nI i)), (6, .int (ar 4 ((4 * k1) + i)))], [.int 0], gh S a b sc1 ar1 lo, ex, 0, 0)) rfl ?_
        refine to_n 2 (fr' := (91, [(0, .ref 36), (1, .int (nI k1)), (2, .int (nI k2)), (3, .int (nI y)), (4, .int (nI z)), (5, .int ((nI i) + 1)), (6, .int (ar 4 ((4 * k1) + i)))], [], gh S a b sc1 ar1 lo, ex, 0, 0)) rfl ?_
        rw [nI_1 i]
        refine to_n 1 (fr' := (19, [(0, .ref 36), (1, .int (nI k1)), (2, .int (nI k2)), (3, .int (nI y)), (4, .int (nI z)), (5, .int (nI (i + 1))), (6, .int (ar 4 ((4 * k1) + i)))], [], gh S a b sc1 ar1 lo, ex, 0, 0)) rfl ?_
        refine to_lv (lv := [(0, .ref 36), (1, .int (nI k1)), (2, .int (nI k2)), (3, .int (nI y)), (4, .int (nI z)), (5, .int (nI (i + 1)))]) rfl ⟨rfl, rfl, rfl, rfl, rfl, rfl, trivial⟩ ?_
        exact ih y z (i + 1) sc1 ar1 (by omega) (by omega) hc19_1 hc19_2 (ztn_no hc19_3 (zn_of hW hg hk1 (by omega) w2)) (by omega) hI1 hF1
  refine to_n 2 (fr' := (2, [(0, .ref 36), (1, .int (nI k1)), (2, .int (nI k2))], [.int (nI k2), .ref 36], gh S a b sc ar lo, ex, 0, 0)) rfl ?_
  refine to_cv (q := 70) (M1 := an_X8_reckonSteps) (rest := []) rfl rfl (by decide) rfl ⟨_, rfl⟩ (sf_X8_reckonSteps hW hI k2 (by omega) (gd_fr hg hF (by decide) (by decide) (by decide)) d) (fun sc5 ar5 hx5 => ?_)
  obtain ⟨hI5, hG5, hx5⟩ := hx5
  have hF5 := fr_t hF hG5 (by decide) (by decide)
  obtain ⟨hD5, hR5⟩ := hx5
  refine to_eq (fr' := (5, [(0, .ref 36), (1, .int (nI k1)), (2, .int (nI k2))], [], gh S a b sc5 ar5 lo, ex, 0, 0)) rfl ?_
  refine to_n 3 (fr' := (8, [(0, .ref 36), (1, .int (nI k1)), (2, .int (nI k2)), (3, .int (nI k1))], [.ref 36], gh S a b sc5 ar5 lo, ex, 0, 0)) rfl ?_
  refine to_get rfl rfl rfl rfl ?_
  refine to_get rfl rfl rfl rfl ?_
  refine to_n 3 (fr' := (19, [(0, .ref 36), (1, .int (nI k1)), (2, .int (nI k2)), (3, .int (nI k1)), (4, .int (nI S)), (5, .int 0)], [], gh S a b sc5 ar5 lo, ex, 0, 0)) rfl ?_
  exact c19 (4 - 0) k1 S 0 sc5 ar5 (by omega) (by omega) hD5 hR5 (Or.inl ⟨ZN_0, rfl, rfl⟩) (by omega) hI5 hF5
set_option maxRecDepth 20000 in
theorem sf_X2_see {X : Nat × (Nat → Int32)} {S a b : Nat} {sc : Nat → Int32} {ar : Nat → Nat → Int32} {lo : Nat → Int64} {ex : Bool} (hW : Wd S a b) (hI : Iv S sc ar) (k1 : Nat) (hk1 : k1 < (2 * S)) (x1 : Int32) (hx1 : rt x1 (2 * S)) (d : Nat)  : cv X S a b (d + 1) 26 [.ref 39, .int (nI k1), .int x1] sc ar lo ex (fun sc' ar' => Iv S sc' ar' ∧ Fr [3911] [46, 47] sc ar sc' ar') := by
  obtain ⟨ha1, ha8, hb1, hb8, hab, hS1, hS⟩ := id hW
  refine cv_of (M := an_X2_see) rfl (Nat.le_of_ble_eq_true rfl) ?_
  have hF : Fr [3911] [46, 47] sc ar sc ar := fr_0
  refine to_eq (fr' := (0, [(0, .ref 39), (1, .int (nI k1)), (2, .int x1)], [], gh S a b sc ar lo, ex, 0, 0)) rfl ?_
  rcases hx1 with rfl | rfl | ⟨n1, hn1, rfl⟩
  · refine to_eq (fr' := (0, [(0, .ref 39), (1, .int (nI k1)), (2, .int (-1))], [], gh S a b sc ar lo, ex, 0, 0)) rfl ?_
    refine to_n 1 (fr' := (1, [(0, .ref 39), (1, .int (nI k1)), (2, .int (-1))], [.ref 39], gh S a b sc ar lo, ex, 0, 0)) rfl ?_
    refine to_get rfl rfl rfl rfl ?_
    refine to_n 1 (fr' := (5, [(0, .ref 39), (1, .int (nI k1)), (2, .int (-1))], [.int (nI k1), .ref 46], gh S a b sc ar lo, ex, 0, 0)) rfl ?_
    rcases iv_a46 hI k1 with e2 | e2 | ⟨n2, hn2, e2⟩
    · refine to_ialR (i := k1) (v := (-1)) rfl (by decide) rfl (by omega) (by omega) e2 ?_
      refine to_n 3 (fr' := (11, [(0, .ref 39), (1, .int (nI k1)), (2, .int (-1))], [.ref 39], gh S a b sc ar lo, ex, 0, 0)) rfl ?_
      obtain ⟨n3, hn3, e3⟩ := iv_s3911 hI
      refine to_getR (v := (nI n3)) rfl rfl rfl rfl e3 ?_
      refine to_n 1 (fr' := (15, [(0, .ref 39), (1, .int (nI k1)), (2, .int (-1))], [.ref 39, .int (nI n3)], gh S a b sc ar lo, ex, 0, 0)) rfl ?_
      refine to_get rfl rfl rfl rfl ?_
      refine to_len rfl (by decide) rfl (by decide) ?_
      refine to_eq (fr' := (19, [(0, .ref 39), (1, .int (nI k1)), (2, .int (-1))], [.int (nI (2 * S)), .int (nI n3)], gh S a b sc ar lo, ex, 0, 0)) rfl ?_
      refine to_nc_ge (t := 49) (x := n3) (y := (2 * S)) rfl (by omega) (by omega) (fun q4 => ?_) (fun q4 => ?_)
      · exact to_rt (i := .return_) (tg := []) rfl rfl ⟨_, _, ⟨hI, hF⟩, rfl⟩
      · refine to_n 1 (fr' := (23, [(0, .ref 39), (1, .int (nI k1)), (2, .int (-1))], [.ref 39], gh S a b sc ar lo, ex, 0, 0)) rfl ?_
        refine to_get rfl rfl rfl rfl ?_
        refine to_n 2 (fr' := (28, [(0, .ref 39), (1, .int (nI k1)), (2, .int (-1))], [.int (-1), .int (nI k1), .ref 46], gh S a b sc ar lo, ex, 0, 0)) rfl ?_
        refine to_iasR (i := k1) (h' := gh S a b sc (uA ar 46 (upd (ar 46) k1 (-1))) lo) rfl rfl (by omega) (by omega) rfl ?_
        have hI5 := ia_46 (i := k1) (v := (-1)) hI (rt_m)
        have hF5 := fr_a (c := 46) (g := (upd (ar 46) k1 (-1))) hF (by decide)
        refine to_n 1 (fr' := (30, [(0, .ref 39), (1, .int (nI k1)), (2, .int (-1))], [.ref 39], gh S a b sc (uA ar 46 (upd (ar 46) k1 (-1))) lo, ex, 0, 0)) rfl ?_
        refine to_get rfl rfl rfl rfl ?_
        refine to_n 1 (fr' := (34, [(0, .ref 39), (1, .int (nI k1)), (2, .int (-1))], [.ref 39, .ref 47], gh S a b sc (uA ar 46 (upd (ar 46) k1 (-1))) lo, ex, 0, 0)) rfl ?_
        refine to_getR (v := (nI n3)) rfl rfl rfl rfl e3 ?_
        refine to_n 1 (fr' := (38, [(0, .ref 39), (1, .int (nI k1)), (2, .int (-1))], [.int (nI k1), .int (nI n3), .ref 47], gh S a b sc (uA ar 46 (upd (ar 46) k1 (-1))) lo, ex, 0, 0)) rfl ?_
        refine to_iasR (i := n3) (h' := gh S a b sc (uA (uA ar 46 (upd (ar 46) k1 (-1))) 47 (upd ((uA ar 46 (upd (ar 46) k1 (-1))) 47) n3 (nI k1))) lo) rfl rfl (by omega) (by omega) rfl ?_
        have hI6 := ia_47 (i := n3) (v := (nI k1)) hI5 (rl_n (n := k1) (by omega))
        have hF6 := fr_a (c := 47) (g := (upd ((uA ar 46 (upd (ar 46) k1 (-1))) 47) n3 (nI k1))) hF5 (by decide)
        refine to_n 2 (fr' := (41, [(0, .ref 39), (1, .int (nI k1)), (2, .int (-1))], [.ref 39, .ref 39], gh S a b sc (uA (uA ar 46 (upd (ar 46) k1 (-1))) 47 (upd ((uA ar 46 (upd (ar 46) k1 (-1))) 47) n3 (nI k1))) lo, ex, 0, 0)) rfl ?_
        refine to_getR (v := (nI n3)) rfl rfl rfl rfl e3 ?_
        refine to_n 1 (fr' := (45, [(0, .ref 39), (1, .int (nI k1)), (2, .int (-1))], [.int 1, .int (nI n3), .ref 39], gh S a b sc (uA (uA ar 46 (upd (ar 46) k1 (-1))) 47 (upd ((uA ar 46 (upd (ar 46) k1 (-1))) 47) n3 (nI k1))) lo, ex, 0, 0)) rfl ?_
        refine to_addN (x := n3) (y := 1) rfl ?_
        refine to_putR (h' := gh S a b (upd sc 3911 (nI (n3 + 1))) (uA (uA ar 46 (upd (ar 46) k1 (-1))) 47 (upd ((uA ar 46 (upd (ar 46) k1 (-1))) 47) n3 (nI k1))) lo) rfl rfl rfl (Nat.le_of_ble_eq_true rfl) rfl rfl ?_
        have hI7 := ip_3911 (v := (nI (n3 + 1))) hI6 (rl_n (n := (n3 + 1)) (by omega))
        have hF7 := fr_s (k := 3911) (v := (nI (n3 + 1))) hF6 (by decide)
        exact to_rt (i := .return_) (tg := []) rfl rfl ⟨_, _, ⟨hI7, hF7⟩, rfl⟩
    · refine to_ialR (i := k1) (v := (-2)) rfl (by decide) rfl (by omega) (by omega) e2 ?_
      refine to_n 2 (fr' := (49, [(0, .ref 39), (1, .int (nI k1)), (2, .int (-1))], [], gh S a b sc ar lo, ex, 0, 0)) rfl ?_
      exact to_rt (i := .return_) (tg := []) rfl rfl ⟨_, _, ⟨hI, hF⟩, rfl⟩
    · refine to_ialR (i := k1) (v := (nI n2)) rfl (by decide) rfl (by omega) (by omega) e2 ?_
      refine to_n 1 (fr' := (7, [(0, .ref 39), (1, .int (nI k1)), (2, .int (-1))], [.int (-1), .int (nI n2)], gh S a b sc ar lo, ex, 0, 0)) rfl ?_
      refine to_ic_ne_T (t := 49) (x := (nI n2)) (y := (-1)) rfl (nI_neg (by omega) (by decide)) ?_
      exact to_rt (i := .return_) (tg := []) rfl rfl ⟨_, _, ⟨hI, hF⟩, rfl⟩
  · refine to_eq (fr' := (0, [(0, .ref 39), (1, .int (nI k1)), (2, .int (-2))], [], gh S a b sc ar lo, ex, 0, 0)) rfl ?_
    refine to_n 1 (fr' := (1, [(0, .ref 39), (1, .int (nI k1)), (2, .int (-2))], [.ref 39], gh S a b sc ar lo, ex, 0, 0)) rfl ?_
    refine to_get rfl rfl rfl rfl ?_
    refine to_n 1 (fr' := (5, [(0, .ref 39), (1, .int (nI k1)), (2, .int (-2))], [.int (nI k1), .ref 46], gh S a b sc ar lo, ex, 0, 0)) rfl ?_
    rcases iv_a46 hI k1 with e8 | e8 | ⟨n8, hn8, e8⟩
    · refine to_ialR (i := k1) (v := (-1)) rfl (by decide) rfl (by omega) (by omega) e8 ?_
      refine to_n 3 (fr' := (11, [(0, .ref 39), (1, .int (nI k1)), (2, .int (-2))], [.ref 39], gh S a b sc ar lo, ex, 0, 0)) rfl ?_
      obtain ⟨n9, hn9, e9⟩ := iv_s3911 hI
      refine to_getR (v := (nI n9)) rfl rfl rfl rfl e9 ?_
      refine to_n 1 (fr' := (15, [(0, .ref 39), (1, .int (nI k1)), (2, .int (-2))], [.ref 39, .int (nI n9)], gh S a b sc ar lo, ex, 0, 0)) rfl ?_
      refine to_get rfl rfl rfl rfl ?_
      refine to_len rfl (by decide) rfl (by decide) ?_
      refine to_eq (fr' := (19, [(0, .ref 39), (1, .int (nI k1)), (2, .int (-2))], [.int (nI (2 * S)), .int (nI n9)], gh S a b sc ar lo, ex, 0, 0)) rfl ?_
      refine to_nc_ge (t := 49) (x := n9) (y := (2 * S)) rfl (by omega) (by omega) (fun q10 => ?_) (fun q10 => ?_)
      · exact to_rt (i := .return_) (tg := []) rfl rfl ⟨_, _, ⟨hI, hF⟩, rfl⟩
      · refine to_n 1 (fr' := (23, [(0, .ref 39), (1, .int (nI k1)), (2, .int (-2))], [.ref 39], gh S a b sc ar lo, ex, 0, 0)) rfl ?_
        refine to_get rfl rfl rfl rfl ?_
        refine to_n 2 (fr' := (28, [(0, .ref 39), (1, .int (nI k1)), (2, .int (-2))], [.int (-2), .int (nI k1), .ref 46], gh S a b sc ar lo, ex, 0, 0)) rfl ?_
        refine to_iasR (i := k1) (h' := gh S a b sc (uA ar 46 (upd (ar 46) k1 (-2))) lo) rfl rfl (by omega) (by omega) rfl ?_
        have hI11 := ia_46 (i := k1) (v := (-2)) hI (rt_2)
        have hF11 := fr_a (c := 46) (g := (upd (ar 46) k1 (-2))) hF (by decide)
        refine to_n 1 (fr' := (30, [(0, .ref 39), (1, .int (nI k1)), (2, .int (-2))], [.ref 39], gh S a b sc (uA ar 46 (upd (ar 46) k1 (-2))) lo, ex, 0, 0)) rfl ?_
        refine to_get rfl rfl rfl rfl ?_
        refine to_n 1 (fr' := (34, [(0, .ref 39), (1, .int (nI k1)), (2, .int (-2))], [.ref 39, .ref 47], gh S a b sc (uA ar 46 (upd (ar 46) k1 (-2))) lo, ex, 0, 0)) rfl ?_
        refine to_getR (v := (nI n9)) rfl rfl rfl rfl e9 ?_
        refine to_n 1 (fr' := (38, [(0, .ref 39), (1, .int (nI k1)), (2, .int (-2))], [.int (nI k1), .int (nI n9), .ref 47], gh S a b sc (uA ar 46 (upd (ar 46) k1 (-2))) lo, ex, 0, 0)) rfl ?_
        refine to_iasR (i := n9) (h' := gh S a b sc (uA (uA ar 46 (upd (ar 46) k1 (-2))) 47 (upd ((uA ar 46 (upd (ar 46) k1 (-2))) 47) n9 (nI k1))) lo) rfl rfl (by omega) (by omega) rfl ?_
        have hI12 := ia_47 (i := n9) (v := (nI k1)) hI11 (rl_n (n := k1) (by omega))
        have hF12 := fr_a (c := 47) (g := (upd ((uA ar 46 (upd (ar 46) k1 (-2))) 47) n9 (nI k1))) hF11 (by decide)
        refine to_n 2 (fr' := (41, [(0, .ref 39), (1, .int (nI k1)), (2, .int (-2))], [.ref 39, .ref 39], gh S a b sc (uA (uA ar 46 (upd (ar 46) k1 (-2))) 47 (upd ((uA ar 46 (upd (ar 46) k1 (-2))) 47) n9 (nI k1))) lo, ex, 0, 0)) rfl ?_
        refine to_getR (v := (nI n9)) rfl rfl rfl rfl e9 ?_
        refine to_n 1 (fr' := (45, [(0, .ref 39), (1, .int (nI k1)), (2, .int (-2))], [.int 1, .int (nI n9), .ref 39], gh S a b sc (uA (uA ar 46 (upd (ar 46) k1 (-2))) 47 (upd ((uA ar 46 (upd (ar 46) k1 (-2))) 47) n9 (nI k1))) lo, ex, 0, 0)) rfl ?_
        refine to_addN (x := n9) (y := 1) rfl ?_
        refine to_putR (h' := gh S a b (upd sc 3911 (nI (n9 + 1))) (uA (uA ar 46 (upd (ar 46) k1 (-2))) 47 (upd ((uA ar 46 (upd (ar 46) k1 (-2))) 47) n9 (nI k1))) lo) rfl rfl rfl (Nat.le_of_ble_eq_true rfl) rfl rfl ?_
        have hI13 := ip_3911 (v := (nI (n9 + 1))) hI12 (rl_n (n := (n9 + 1)) (by omega))
        have hF13 := fr_s (k := 3911) (v := (nI (n9 + 1))) hF12 (by decide)
        exact to_rt (i := .return_) (tg := []) rfl rfl ⟨_, _, ⟨hI13, hF13⟩, rfl⟩
    · refine to_ialR (i := k1) (v := (-2)) rfl (by decide) rfl (by omega) (by omega) e8 ?_
      refine to_n 2 (fr' := (49, [(0, .ref 39), (1, .int (nI k1)), (2, .int (-2))], [], gh S a b sc ar lo, ex, 0, 0)) rfl ?_
      exact to_rt (i := .return_) (tg := []) rfl rfl ⟨_, _, ⟨hI, hF⟩, rfl⟩
    · refine to_ialR (i := k1) (v := (nI n8)) rfl (by decide) rfl (by omega) (by omega) e8 ?_
      refine to_n 1 (fr' := (7, [(0, .ref 39), (1, .int (nI k1)), (2, .int (-2))], [.int (-1), .int (nI n8)], gh S a b sc ar lo, ex, 0, 0)) rfl ?_
      refine to_ic_ne_T (t := 49) (x := (nI n8)) (y := (-1)) rfl (nI_neg (by omega) (by decide)) ?_
      exact to_rt (i := .return_) (tg := []) rfl rfl ⟨_, _, ⟨hI, hF⟩, rfl⟩
  · refine to_eq (fr' := (0, [(0, .ref 39), (1, .int (nI k1)), (2, .int (nI n1))], [], gh S a b sc ar lo, ex, 0, 0)) rfl ?_
    refine to_n 1 (fr' := (1, [(0, .ref 39), (1, .int (nI k1)), (2, .int (nI n1))], [.ref 39], gh S a b sc ar lo, ex, 0, 0)) rfl ?_
    refine to_get rfl rfl rfl rfl ?_
    refine to_n 1 (fr' := (5, [(0, .ref 39), (1, .int (nI k1)), (2, .int (nI n1))], [.int (nI k1), .ref 46], gh S a b sc ar lo, ex, 0, 0)) rfl ?_
    rcases iv_a46 hI k1 with e14 | e14 | ⟨n14, hn14, e14⟩
    · refine to_ialR (i := k1) (v := (-1)) rfl (by decide) rfl (by omega) (by omega) e14 ?_
      refine to_n 3 (fr' := (11, [(0, .ref 39), (1, .int (nI k1)), (2, .int (nI n1))], [.ref 39], gh S a b sc ar lo, ex, 0, 0)) rfl ?_
      obtain ⟨n15, hn15, e15⟩ := iv_s3911 hI
      refine to_getR (v := (nI n15)) rfl rfl rfl rfl e15 ?_
      refine to_n 1 (fr' := (15, [(0, .ref 39), (1, .int (nI k1)), (2, .int (nI n1))], [.ref 39, .int (nI n15)], gh S a b sc ar lo, ex, 0, 0)) rfl ?_
      refine to_get rfl rfl rfl rfl ?_
      refine to_len rfl (by decide) rfl (by decide) ?_
      refine to_eq (fr' := (19, [(0, .ref 39), (1, .int (nI k1)), (2, .int (nI n1))], [.int (nI (2 * S)), .int (nI n15)], gh S a b sc ar lo, ex, 0, 0)) rfl ?_
      refine to_nc_ge (t := 49) (x := n15) (y := (2 * S)) rfl (by omega) (by omega) (fun q16 => ?_) (fun q16 => ?_)
      · exact to_rt (i := .return_) (tg := []) rfl rfl ⟨_, _, ⟨hI, hF⟩, rfl⟩
      · refine to_n 1 (fr' := (23, [(0, .ref 39), (1, .int (nI k1)), (2, .int (nI n1))], [.ref 39], gh S a b sc ar lo, ex, 0, 0)) rfl ?_
        refine to_get rfl rfl rfl rfl ?_
        refine to_n 2 (fr' := (28, [(0, .ref 39), (1, .int (nI k1)), (2, .int (nI n1))], [.int (nI n1), .int (nI k1), .ref 46], gh S a b sc ar lo, ex, 0, 0)) rfl ?_
        refine to_iasR (i := k1) (h' := gh S a b sc (uA ar 46 (upd (ar 46) k1 (nI n1))) lo) rfl rfl (by omega) (by omega) rfl ?_
        have hI17 := ia_46 (i := k1) (v := (nI n1)) hI (rt_n (n := n1) (by omega))
        have hF17 := fr_a (c := 46) (g := (upd (ar 46) k1 (nI n1))) hF (by decide)
        refine to_n 1 (fr' := (30, [(0, .ref 39), (1, .int (nI k1)), (2, .int (nI n1))], [.ref 39], gh S a b sc (uA ar 46 (upd (ar 46) k1 (nI n1))) lo, ex, 0, 0)) rfl ?_
        refine to_get rfl rfl rfl rfl ?_
        refine to_n 1 (fr' := (34, [(0, .ref 39), (1, .int (nI k1)), (2, .int (nI n1))], [.ref 39, .ref 47], gh S a b sc (uA ar 46 (upd (ar 46) k1 (nI n1))) lo, ex, 0, 0)) rfl ?_
        refine to_getR (v := (nI n15)) rfl rfl rfl rfl e15 ?_
        refine to_n 1 (fr' := (38, [(0, .ref 39), (1, .int (nI k1)), (2, .int (nI n1))], [.int (nI k1), .int (nI n15), .ref 47], gh S a b sc (uA ar 46 (upd (ar 46) k1 (nI n1))) lo, ex, 0, 0)) rfl ?_
        refine to_iasR (i := n15) (h' := gh S a b sc (uA (uA ar 46 (upd (ar 46) k1 (nI n1))) 47 (upd ((uA ar 46 (upd (ar 46) k1 (nI n1))) 47) n15 (nI k1))) lo) rfl rfl (by omega) (by omega) rfl ?_
        have hI18 := ia_47 (i := n15) (v := (nI k1)) hI17 (rl_n (n := k1) (by omega))
        have hF18 := fr_a (c := 47) (g := (upd ((uA ar 46 (upd (ar 46) k1 (nI n1))) 47) n15 (nI k1))) hF17 (by decide)
        refine to_n 2 (fr' := (41, [(0, .ref 39), (1, .int (nI k1)), (2, .int (nI n1))], [.ref 39, .ref 39], gh S a b sc (uA (uA ar 46 (upd (ar 46) k1 (nI n1))) 47 (upd ((uA ar 46 (upd (ar 46) k1 (nI n1))) 47) n15 (nI k1))) lo, ex, 0, 0)) rfl ?_
        refine to_getR (v := (nI n15)) rfl rfl rfl rfl e15 ?_
        refine to_n 1 (fr' := (45, [(0, .ref 39), (1, .int (nI k1)), (2, .int (nI n1))], [.int 1, .int (nI n15), .ref 39], gh S a b sc (uA (uA ar 46 (upd (ar 46) k1 (nI n1))) 47 (upd ((uA ar 46 (upd (ar 46) k1 (nI n1))) 47) n15 (nI k1))) lo, ex, 0, 0)) rfl ?_
        refine to_addN (x := n15) (y := 1) rfl ?_
        refine to_putR (h' := gh S a b (upd sc 3911 (nI (n15 + 1))) (uA (uA ar 46 (upd (ar 46) k1 (nI n1))) 47 (upd ((uA ar 46 (upd (ar 46) k1 (nI n1))) 47) n15 (nI k1))) lo) rfl rfl rfl (Nat.le_of_ble_eq_true rfl) rfl rfl ?_
        have hI19 := ip_3911 (v := (nI (n15 + 1))) hI18 (rl_n (n := (n15 + 1)) (by omega))
        have hF19 := fr_s (k := 3911) (v := (nI (n15 + 1))) hF18 (by decide)
        exact to_rt (i := .return_) (tg := []) rfl rfl ⟨_, _, ⟨hI19, hF19⟩, rfl⟩
    · refine to_ialR (i := k1) (v := (-2)) rfl (by decide) rfl (by omega) (by omega) e14 ?_
      refine to_n 2 (fr' := (49, [(0, .ref 39), (1, .int (nI k1)), (2, .int (nI n1))], [], gh S a b sc ar lo, ex, 0, 0)) rfl ?_
      exact to_rt (i := .return_) (tg := []) rfl rfl ⟨_, _, ⟨hI, hF⟩, rfl⟩
    · refine to_ialR (i := k1) (v := (nI n14)) rfl (by decide) rfl (by omega) (by omega) e14 ?_
      refine to_n 1 (fr' := (7, [(0, .ref 39), (1, .int (nI k1)), (2, .int (nI n1))], [.int (-1), .int (nI n14)], gh S a b sc ar lo, ex, 0, 0)) rfl ?_
      refine to_ic_ne_T (t := 49) (x := (nI n14)) (y := (-1)) rfl (nI_neg (by omega) (by decide)) ?_
      exact to_rt (i := .return_) (tg := []) rfl rfl ⟨_, _, ⟨hI, hF⟩, rfl⟩
set_option maxRecDepth 20000 in
theorem sf_X2_turn {X : Nat × (Nat → Int32)} {S a b : Nat} {sc : Nat → Int32} {ar : Nat → Nat → Int32} {lo : Nat → Int64} {ex : Bool} (hW : Wd S a b) (hI : Iv S sc ar) (x1 : Int32) (hx1 : rt x1 (2 * S)) (k1 : Nat) (hk1 : k1 < (2 * S)) (d : Nat)  : cv X S a b (d + 1) 22 [.ref 39, .int x1, .int (nI k1)] sc ar lo ex (fun sc' ar' => Iv S sc' ar' ∧ Fr [] [43, 44, 45] sc ar sc' ar') := by
  obtain ⟨ha1, ha8, hb1, hb8, hab, hS1, hS⟩ := id hW
  refine cv_of (M := an_X2_turn) rfl (Nat.le_of_ble_eq_true rfl) ?_
  have hF : Fr [] [43, 44, 45] sc ar sc ar := fr_0
  refine to_eq (fr' := (0, [(0, .ref 39), (1, .int x1), (2, .int (nI k1))], [], gh S a b sc ar lo, ex, 0, 0)) rfl ?_
  rcases hx1 with rfl | rfl | ⟨n1, hn1, rfl⟩
  · refine to_eq (fr' := (0, [(0, .ref 39), (1, .int (-1)), (2, .int (nI k1))], [], gh S a b sc ar lo, ex, 0, 0)) rfl ?_
    refine to_n 2 (fr' := (2, [(0, .ref 39), (1, .int (-1)), (2, .int (nI k1))], [.ref 39, .int (nI k1)], gh S a b sc ar lo, ex, 0, 0)) rfl ?_
    refine to_get rfl rfl rfl rfl ?_
    refine to_nc_lt (t := 28) (x := k1) (y := S) rfl (by omega) (by omega) (fun q2 => ?_) (fun q2 => ?_)
    · refine to_n 2 (fr' := (30, [(0, .ref 39), (1, .int (-1)), (2, .int (nI k1))], [.ref 39, .int (-1)], gh S a b sc ar lo, ex, 0, 0)) rfl ?_
      refine to_get rfl rfl rfl rfl ?_
      refine to_ic_ge_F (t := 47) (x := (-1)) (y := (nI S)) rfl (Int32.not_le.mpr (neg_lt (x := (-1)) (n := S) (by omega) (by decide))) ?_
      refine to_n 1 (fr' := (37, [(0, .ref 39), (1, .int (-1)), (2, .int (nI k1))], [.ref 39], gh S a b sc ar lo, ex, 0, 0)) rfl ?_
      refine to_get rfl rfl rfl rfl ?_
      refine to_n 2 (fr' := (43, [(0, .ref 39), (1, .int (-1)), (2, .int (nI k1))], [.int (-2), .int (nI k1), .ref 44], gh S a b sc ar lo, ex, 0, 0)) rfl ?_
      refine to_iasR (i := k1) (h' := gh S a b sc (uA ar 44 (upd (ar 44) k1 (-2))) lo) rfl rfl (by omega) (by omega) rfl ?_
      have hI3 := ia_44 (g := (upd (ar 44) k1 (-2))) hI
      have hF3 := fr_a (c := 44) (g := (upd (ar 44) k1 (-2))) hF (by decide)
      refine to_n 1 (fr' := (91, [(0, .ref 39), (1, .int (-1)), (2, .int (nI k1))], [], gh S a b sc (uA ar 44 (upd (ar 44) k1 (-2))) lo, ex, 0, 0)) rfl ?_
      exact to_rt (i := .return_) (tg := []) rfl rfl ⟨_, _, ⟨hI3, hF3⟩, rfl⟩
    · refine to_n 3 (fr' := (11, [(0, .ref 39), (1, .int (-1)), (2, .int (nI k1))], [.ref 39, .int (nI k1), .int (-1)], gh S a b sc ar lo, ex, 0, 0)) rfl ?_
      refine to_get rfl rfl rfl rfl ?_
      refine to_subN (x := k1) (y := S) rfl (by omega) ?_
      refine to_ic_ne_T (t := 91) (x := (-1)) (y := (nI (k1 - S))) rfl (fun w => nI_neg (n := (k1 - S)) (x := (-1)) (by omega) (by decide) w.symm) ?_
      exact to_rt (i := .return_) (tg := []) rfl rfl ⟨_, _, ⟨hI, hF⟩, rfl⟩
  · refine to_eq (fr' := (0, [(0, .ref 39), (1, .int (-2)), (2, .int (nI k1))], [], gh S a b sc ar lo, ex, 0, 0)) rfl ?_
    refine to_n 2 (fr' := (2, [(0, .ref 39), (1, .int (-2)), (2, .int (nI k1))], [.ref 39, .int (nI k1)], gh S a b sc ar lo, ex, 0, 0)) rfl ?_
    refine to_get rfl rfl rfl rfl ?_
    refine to_nc_lt (t := 28) (x := k1) (y := S) rfl (by omega) (by omega) (fun q4 => ?_) (fun q4 => ?_)
    · refine to_n 2 (fr' := (30, [(0, .ref 39), (1, .int (-2)), (2, .int (nI k1))], [.ref 39, .int (-2)], gh S a b sc ar lo, ex, 0, 0)) rfl ?_
      refine to_get rfl rfl rfl rfl ?_
      refine to_ic_ge_F (t := 47) (x := (-2)) (y := (nI S)) rfl (Int32.not_le.mpr (neg_lt (x := (-2)) (n := S) (by omega) (by decide))) ?_
      refine to_n 1 (fr' := (37, [(0, .ref 39), (1, .int (-2)), (2, .int (nI k1))], [.ref 39], gh S a b sc ar lo, ex, 0, 0)) rfl ?_
      refine to_get rfl rfl rfl rfl ?_
      refine to_n 2 (fr' := (43, [(0, .ref 39), (1, .int (-2)), (2, .int (nI k1))], [.int (-2), .int (nI k1), .ref 44], gh S a b sc ar lo, ex, 0, 0)) rfl ?_
      refine to_iasR (i := k1) (h' := gh S a b sc (uA ar 44 (upd (ar 44) k1 (-2))) lo) rfl rfl (by omega) (by omega) rfl ?_
      have hI5 := ia_44 (g := (upd (ar 44) k1 (-2))) hI
      have hF5 := fr_a (c := 44) (g := (upd (ar 44) k1 (-2))) hF (by decide)
      refine to_n 1 (fr' := (91, [(0, .ref 39), (1, .int (-2)), (2, .int (nI k1))], [], gh S a b sc (uA ar 44 (upd (ar 44) k1 (-2))) lo, ex, 0, 0)) rfl ?_
      exact to_rt (i := .return_) (tg := []) rfl rfl ⟨_, _, ⟨hI5, hF5⟩, rfl⟩
    · refine to_n 3 (fr' := (11, [(0, .ref 39), (1, .int (-2)), (2, .int (nI k1))], [.ref 39, .int (nI k1), .int (-2)], gh S a b sc ar lo, ex, 0, 0)) rfl ?_
      refine to_get rfl rfl rfl rfl ?_
      refine to_subN (x := k1) (y := S) rfl (by omega) ?_
      refine to_ic_ne_T (t := 91) (x := (-2)) (y := (nI (k1 - S))) rfl (fun w => nI_neg (n := (k1 - S)) (x := (-2)) (by omega) (by decide) w.symm) ?_
      exact to_rt (i := .return_) (tg := []) rfl rfl ⟨_, _, ⟨hI, hF⟩, rfl⟩
  · refine to_eq (fr' := (0, [(0, .ref 39), (1, .int (nI n1)), (2, .int (nI k1))], [], gh S a b sc ar lo, ex, 0, 0)) rfl ?_
    refine to_n 2 (fr' := (2, [(0, .ref 39), (1, .int (nI n1)), (2, .int (nI k1))], [.ref 39, .int (nI k1)], gh S a b sc ar lo, ex, 0, 0)) rfl ?_
    refine to_get rfl rfl rfl rfl ?_
    refine to_nc_lt (t := 28) (x := k1) (y := S) rfl (by omega) (by omega) (fun q6 => ?_) (fun q6 => ?_)
    · refine to_n 2 (fr' := (30, [(0, .ref 39), (1, .int (nI n1)), (2, .int (nI k1))], [.ref 39, .int (nI n1)], gh S a b sc ar lo, ex, 0, 0)) rfl ?_
      refine to_get rfl rfl rfl rfl ?_
      refine to_nc_ge (t := 47) (x := n1) (y := S) rfl (by omega) (by omega) (fun q7 => ?_) (fun q7 => ?_)
      · refine to_n 2 (fr' := (49, [(0, .ref 39), (1, .int (nI n1)), (2, .int (nI k1))], [.ref 39, .int (nI n1)], gh S a b sc ar lo, ex, 0, 0)) rfl ?_
        refine to_get rfl rfl rfl rfl ?_
        refine to_subN (x := n1) (y := S) rfl (by omega) ?_
        refine to_n 1 (fr' := (54, [(0, .ref 39), (1, .int (nI n1)), (2, .int (nI k1))], [.int (nI k1), .int (nI (n1 - S))], gh S a b sc ar lo, ex, 0, 0)) rfl ?_
        refine to_nc_ne (t := 67) (x := (n1 - S)) (y := k1) rfl (by omega) (by omega) (fun q8 => ?_) (fun q8 => ?_)
        · refine to_n 1 (fr' := (68, [(0, .ref 39), (1, .int (nI n1)), (2, .int (nI k1))], [.ref 39], gh S a b sc ar lo, ex, 0, 0)) rfl ?_
          refine to_get rfl rfl rfl rfl ?_
          refine to_n 3 (fr' := (74, [(0, .ref 39), (1, .int (nI n1)), (2, .int (nI k1))], [.ref 39, .int (nI n1), .int (nI k1), .ref 44], gh S a b sc ar lo, ex, 0, 0)) rfl ?_
          refine to_get rfl rfl rfl rfl ?_
          refine to_subN (x := n1) (y := S) rfl (by omega) ?_
          refine to_iasR (i := k1) (h' := gh S a b sc (uA ar 44 (upd (ar 44) k1 (nI (n1 - S)))) lo) rfl rfl (by omega) (by omega) rfl ?_
          have hI9 := ia_44 (g := (upd (ar 44) k1 (nI (n1 - S)))) hI
          have hF9 := fr_a (c := 44) (g := (upd (ar 44) k1 (nI (n1 - S)))) hF (by decide)
          refine to_n 1 (fr' := (80, [(0, .ref 39), (1, .int (nI n1)), (2, .int (nI k1))], [.ref 39], gh S a b sc (uA ar 44 (upd (ar 44) k1 (nI (n1 - S)))) lo, ex, 0, 0)) rfl ?_
          refine to_get rfl rfl rfl rfl ?_
          refine to_n 2 (fr' := (85, [(0, .ref 39), (1, .int (nI n1)), (2, .int (nI k1))], [.ref 39, .int (nI n1), .ref 45], gh S a b sc (uA ar 44 (upd (ar 44) k1 (nI (n1 - S)))) lo, ex, 0, 0)) rfl ?_
          refine to_get rfl rfl rfl rfl ?_
          refine to_subN (x := n1) (y := S) rfl (by omega) ?_
          refine to_n 1 (fr' := (90, [(0, .ref 39), (1, .int (nI n1)), (2, .int (nI k1))], [.int (nI k1), .int (nI (n1 - S)), .ref 45], gh S a b sc (uA ar 44 (upd (ar 44) k1 (nI (n1 - S)))) lo, ex, 0, 0)) rfl ?_
          refine to_iasR (i := (n1 - S)) (h' := gh S a b sc (uA (uA ar 44 (upd (ar 44) k1 (nI (n1 - S)))) 45 (upd ((uA ar 44 (upd (ar 44) k1 (nI (n1 - S)))) 45) (n1 - S) (nI k1))) lo) rfl rfl (by omega) (by omega) rfl ?_
          have hI10 := ia_45 (g := (upd ((uA ar 44 (upd (ar 44) k1 (nI (n1 - S)))) 45) (n1 - S) (nI k1))) hI9
          have hF10 := fr_a (c := 45) (g := (upd ((uA ar 44 (upd (ar 44) k1 (nI (n1 - S)))) 45) (n1 - S) (nI k1))) hF9 (by decide)
          exact to_rt (i := .return_) (tg := []) rfl rfl ⟨_, _, ⟨hI10, hF10⟩, rfl⟩
        · refine to_n 1 (fr' := (58, [(0, .ref 39), (1, .int (nI n1)), (2, .int (nI k1))], [.ref 39], gh S a b sc ar lo, ex, 0, 0)) rfl ?_
          refine to_get rfl rfl rfl rfl ?_
          refine to_n 2 (fr' := (63, [(0, .ref 39), (1, .int (nI n1)), (2, .int (nI k1))], [.int 0, .int (nI k1), .ref 43], gh S a b sc ar lo, ex, 0, 0)) rfl ?_
          refine to_zasR (i := k1) (h' := gh S a b sc (uA ar 43 (upd (ar 43) k1 (vp_nar .boolean 0))) lo) rfl rfl (by omega) (by omega) rfl ?_
          have hI11 := ia_43 (g := (upd (ar 43) k1 (vp_nar .boolean 0))) hI
          have hF11 := fr_a (c := 43) (g := (upd (ar 43) k1 (vp_nar .boolean 0))) hF (by decide)
          refine to_n 1 (fr' := (91, [(0, .ref 39), (1, .int (nI n1)), (2, .int (nI k1))], [], gh S a b sc (uA ar 43 (upd (ar 43) k1 (vp_nar .boolean 0))) lo, ex, 0, 0)) rfl ?_
          exact to_rt (i := .return_) (tg := []) rfl rfl ⟨_, _, ⟨hI11, hF11⟩, rfl⟩
      · refine to_n 1 (fr' := (37, [(0, .ref 39), (1, .int (nI n1)), (2, .int (nI k1))], [.ref 39], gh S a b sc ar lo, ex, 0, 0)) rfl ?_
        refine to_get rfl rfl rfl rfl ?_
        refine to_n 2 (fr' := (43, [(0, .ref 39), (1, .int (nI n1)), (2, .int (nI k1))], [.int (-2), .int (nI k1), .ref 44], gh S a b sc ar lo, ex, 0, 0)) rfl ?_
        refine to_iasR (i := k1) (h' := gh S a b sc (uA ar 44 (upd (ar 44) k1 (-2))) lo) rfl rfl (by omega) (by omega) rfl ?_
        have hI12 := ia_44 (g := (upd (ar 44) k1 (-2))) hI
        have hF12 := fr_a (c := 44) (g := (upd (ar 44) k1 (-2))) hF (by decide)
        refine to_n 1 (fr' := (91, [(0, .ref 39), (1, .int (nI n1)), (2, .int (nI k1))], [], gh S a b sc (uA ar 44 (upd (ar 44) k1 (-2))) lo, ex, 0, 0)) rfl ?_
        exact to_rt (i := .return_) (tg := []) rfl rfl ⟨_, _, ⟨hI12, hF12⟩, rfl⟩
    · refine to_n 3 (fr' := (11, [(0, .ref 39), (1, .int (nI n1)), (2, .int (nI k1))], [.ref 39, .int (nI k1), .int (nI n1)], gh S a b sc ar lo, ex, 0, 0)) rfl ?_
      refine to_get rfl rfl rfl rfl ?_
      refine to_subN (x := k1) (y := S) rfl (by omega) ?_
      refine to_nc_ne (t := 91) (x := n1) (y := (k1 - S)) rfl (by omega) (by omega) (fun q13 => ?_) (fun q13 => ?_)
      · exact to_rt (i := .return_) (tg := []) rfl rfl ⟨_, _, ⟨hI, hF⟩, rfl⟩
      · refine to_n 1 (fr' := (19, [(0, .ref 39), (1, .int (nI n1)), (2, .int (nI k1))], [.ref 39], gh S a b sc ar lo, ex, 0, 0)) rfl ?_
        refine to_get rfl rfl rfl rfl ?_
        refine to_n 2 (fr' := (24, [(0, .ref 39), (1, .int (nI n1)), (2, .int (nI k1))], [.int 1, .int (nI n1), .ref 43], gh S a b sc ar lo, ex, 0, 0)) rfl ?_
        refine to_zasR (i := n1) (h' := gh S a b sc (uA ar 43 (upd (ar 43) n1 (vp_nar .boolean 1))) lo) rfl rfl (by omega) (by omega) rfl ?_
        have hI14 := ia_43 (g := (upd (ar 43) n1 (vp_nar .boolean 1))) hI
        have hF14 := fr_a (c := 43) (g := (upd (ar 43) n1 (vp_nar .boolean 1))) hF (by decide)
        refine to_n 1 (fr' := (91, [(0, .ref 39), (1, .int (nI n1)), (2, .int (nI k1))], [], gh S a b sc (uA ar 43 (upd (ar 43) n1 (vp_nar .boolean 1))) lo, ex, 0, 0)) rfl ?_
        exact to_rt (i := .return_) (tg := []) rfl rfl ⟨_, _, ⟨hI14, hF14⟩, rfl⟩
set_option maxRecDepth 20000 in
theorem sf_X2_goOnFromEntry {X : Nat × (Nat → Int32)} {S a b : Nat} {sc : Nat → Int32} {ar : Nat → Nat → Int32} {lo : Nat → Int64} {ex : Bool} (hW : Wd S a b) (hI : Iv S sc ar) (k1 : Nat) (hk1 : k1 < S) (d : Nat)  : cv X S a b (d + 2) 24 [.ref 39, .int (nI k1)] sc ar lo ex (fun sc' ar' => Iv S sc' ar' ∧ Fr [3911] [46, 47] sc ar sc' ar') := by
  obtain ⟨ha1, ha8, hb1, hb8, hab, hS1, hS⟩ := id hW
  refine cv_of (M := an_X2_goOnFromEntry) rfl (Nat.le_of_ble_eq_true rfl) ?_
  have hF : Fr [3911] [46, 47] sc ar sc ar := fr_0
  refine to_eq (fr' := (0, [(0, .ref 39), (1, .int (nI k1))], [], gh S a b sc ar lo, ex, 0, 0)) rfl ?_
  refine to_n 1 (fr' := (1, [(0, .ref 39), (1, .int (nI k1))], [.ref 39], gh S a b sc ar lo, ex, 0, 0)) rfl ?_
  refine to_get rfl rfl rfl rfl ?_
  refine to_n 1 (fr' := (5, [(0, .ref 39), (1, .int (nI k1))], [.int (nI k1), .ref 43], gh S a b sc ar lo, ex, 0, 0)) rfl ?_
  refine to_zalR (i := k1) (v := ((ar 43) k1)) rfl rfl (by omega) (by omega) rfl ?_
  refine to_if_ne (t := 23) rfl (fun q1 => ?_) (fun q1 => ?_)
  · refine to_n 1 (fr' := (24, [(0, .ref 39), (1, .int (nI k1))], [.ref 39], gh S a b sc ar lo, ex, 0, 0)) rfl ?_
    refine to_get rfl rfl rfl rfl ?_
    refine to_n 1 (fr' := (28, [(0, .ref 39), (1, .int (nI k1))], [.ref 39, .ref 1], gh S a b sc ar lo, ex, 0, 0)) rfl ?_
    refine to_get rfl rfl rfl rfl ?_
    refine to_n 1 (fr' := (32, [(0, .ref 39), (1, .int (nI k1))], [.int (nI k1), .ref 44, .ref 1], gh S a b sc ar lo, ex, 0, 0)) rfl ?_
    refine to_ialR (i := k1) (v := ((ar 44) k1)) rfl (by decide) rfl (by omega) (by omega) rfl ?_
    rcases has_or (x := ((ar 44) k1)) (B := S) (by omega) with ⟨n2, hn2, e2⟩ | w2
    · rw [e2]
      refine to_cp (q := 2) (M1 := an_X0_has) (rest := []) rfl rfl (by decide) rfl ⟨_, rfl⟩ (sf_has_1 (n := n2)  (by omega) d) (fun x2 hx2 => ?_)
      obtain rfl := hx2
      refine to_eq (fr' := (36, [(0, .ref 39), (1, .int (nI k1))], [.int 1], gh S a b sc ar lo, ex, 0, 0)) rfl ?_
      refine to_n 3 (fr' := (41, [(0, .ref 39), (1, .int (nI k1))], [.ref 39, .ref 39], gh S a b sc ar lo, ex, 0, 0)) rfl ?_
      refine to_get rfl rfl rfl rfl ?_
      refine to_n 1 (fr' := (45, [(0, .ref 39), (1, .int (nI k1))], [.ref 39, .int (nI S), .ref 39], gh S a b sc ar lo, ex, 0, 0)) rfl ?_
      refine to_get rfl rfl rfl rfl ?_
      refine to_n 1 (fr' := (49, [(0, .ref 39), (1, .int (nI k1))], [.int (nI k1), .ref 44, .int (nI S), .ref 39], gh S a b sc ar lo, ex, 0, 0)) rfl ?_
      refine to_ialR (i := k1) (v := (nI n2)) rfl (by decide) rfl (by omega) (by omega) e2 ?_
      refine to_addN (x := S) (y := n2) rfl ?_
      refine to_n 1 (fr' := (52, [(0, .ref 39), (1, .int (nI k1))], [.int (nI k1), .int (nI (S + n2)), .ref 39], gh S a b sc ar lo, ex, 0, 0)) rfl ?_
      refine to_cv (q := 26) (M1 := an_X2_see) (rest := []) rfl rfl (by decide) rfl ⟨_, rfl⟩ (sf_X2_see hW hI (S + n2) (by omega) (nI k1) (rt_n (n := k1) (by omega)) d) (fun sc3 ar3 hx3 => ?_)
      obtain ⟨hI3, hG3⟩ := hx3
      have hF3 := fr_t hF hG3 (by decide) (by decide)
      refine to_eq (fr' := (55, [(0, .ref 39), (1, .int (nI k1))], [], gh S a b sc3 ar3 lo, ex, 0, 0)) rfl ?_
      exact to_rt (i := .return_) (tg := []) rfl rfl ⟨_, _, ⟨hI3, hF3⟩, rfl⟩
    · refine to_cp (q := 2) (M1 := an_X0_has) (rest := []) rfl rfl (by decide) rfl ⟨_, rfl⟩ (sf_has_0  w2 d) (fun x2 hx2 => ?_)
      obtain rfl := hx2
      refine to_eq (fr' := (36, [(0, .ref 39), (1, .int (nI k1))], [.int 0], gh S a b sc ar lo, ex, 0, 0)) rfl ?_
      refine to_n 1 (fr' := (55, [(0, .ref 39), (1, .int (nI k1))], [], gh S a b sc ar lo, ex, 0, 0)) rfl ?_
      exact to_rt (i := .return_) (tg := []) rfl rfl ⟨_, _, ⟨hI, hF⟩, rfl⟩
  · refine to_n 2 (fr' := (11, [(0, .ref 39), (1, .int (nI k1))], [.ref 39, .ref 39], gh S a b sc ar lo, ex, 0, 0)) rfl ?_
    refine to_get rfl rfl rfl rfl ?_
    refine to_n 1 (fr' := (15, [(0, .ref 39), (1, .int (nI k1))], [.int (nI k1), .int (nI S), .ref 39], gh S a b sc ar lo, ex, 0, 0)) rfl ?_
    refine to_addN (x := S) (y := k1) rfl ?_
    refine to_n 1 (fr' := (17, [(0, .ref 39), (1, .int (nI k1))], [.int (nI k1), .int (nI (S + k1)), .ref 39], gh S a b sc ar lo, ex, 0, 0)) rfl ?_
    refine to_cv (q := 26) (M1 := an_X2_see) (rest := []) rfl rfl (by decide) rfl ⟨_, rfl⟩ (sf_X2_see hW hI (S + k1) (by omega) (nI k1) (rt_n (n := k1) (by omega)) d) (fun sc4 ar4 hx4 => ?_)
    obtain ⟨hI4, hG4⟩ := hx4
    have hF4 := fr_t hF hG4 (by decide) (by decide)
    refine to_eq (fr' := (20, [(0, .ref 39), (1, .int (nI k1))], [], gh S a b sc4 ar4 lo, ex, 0, 0)) rfl ?_
    refine to_n 1 (fr' := (55, [(0, .ref 39), (1, .int (nI k1))], [], gh S a b sc4 ar4 lo, ex, 0, 0)) rfl ?_
    exact to_rt (i := .return_) (tg := []) rfl rfl ⟨_, _, ⟨hI4, hF4⟩, rfl⟩
set_option maxRecDepth 20000 in
theorem sf_X2_goOnFromExit {X : Nat × (Nat → Int32)} {S a b : Nat} {sc : Nat → Int32} {ar : Nat → Nat → Int32} {lo : Nat → Int64} {ex : Bool} (hW : Wd S a b) (hI : Iv S sc ar) (k1 : Nat) (hk1 : k1 < S) (d : Nat)  : ci X S a b (d + 2) 25 [.ref 39, .int (nI k1)] sc ar lo ex (fun x sc' ar' => Iv S sc' ar' ∧ Fr [3911] [46, 47] sc ar sc' ar' ∧ rl x 2) := by
  obtain ⟨ha1, ha8, hb1, hb8, hab, hS1, hS⟩ := id hW
  refine ci_of (M := an_X2_goOnFromExit) rfl (Nat.le_of_ble_eq_true rfl) ?_
  have hF : Fr [3911] [46, 47] sc ar sc ar := fr_0
  refine to_eq (fr' := (0, [(0, .ref 39), (1, .int (nI k1))], [], gh S a b sc ar lo, ex, 0, 0)) rfl ?_
  have c2 : ∀ m : Nat, ∀ (i : Nat) (sc1 : Nat → Int32) (ar1 : Nat → Nat → Int32), i + m = 4 → Iv S sc1 ar1 → Fr [3911] [46, 47] sc ar sc1 ar1 → ag_To X (d + 1) an_X2_goOnFromExit (2, [(0, .ref 39), (1, .int (nI k1)), (2, .int (nI i))], [], gh S a b sc1 ar1 lo, ex, 0, 0) (qi S a b lo ex (fun x sc' ar' => Iv S sc' ar' ∧ Fr [3911] [46, 47] sc ar sc' ar' ∧ rl x 2)) := by
    intro m
    induction m with
    | zero =>
      intro i sc1 ar1 hm hI1 hF1
      refine to_n 2 (fr' := (4, [(0, .ref 39), (1, .int (nI k1)), (2, .int (nI i))], [.int 4, .int (nI i)], gh S a b sc1 ar1 lo, ex, 0, 0)) rfl ?_
      refine to_nc_ge_T (t := 68) (x := i) (y := 4) rfl (by omega) (by omega) (by omega) ?_
      refine to_n 1 (fr' := (69, [(0, .ref 39), (1, .int (nI k1)), (2, .int (nI i))], [.ref 39], gh S a b sc1 ar1 lo, ex, 0, 0)) rfl ?_
      refine to_get rfl rfl rfl rfl ?_
      refine to_n 1 (fr' := (73, [(0, .ref 39), (1, .int (nI k1)), (2, .int (nI i))], [.int (nI k1), .ref 43], gh S a b sc1 ar1 lo, ex, 0, 0)) rfl ?_
      refine to_zalR (i := k1) (v := ((ar1 43) k1)) rfl rfl (by omega) (by omega) rfl ?_
      refine to_if_eq (t := 88) rfl (fun q2 => ?_) (fun q2 => ?_)
      · refine to_n 1 (fr' := (89, [(0, .ref 39), (1, .int (nI k1)), (2, .int (nI i))], [.int 0], gh S a b sc1 ar1 lo, ex, 0, 0)) rfl ?_
        exact to_rt (i := .ireturn) (tg := []) rfl rfl ⟨_, _, _, ⟨hI1, hF1, rl_n (n := 0) (by omega)⟩, rfl⟩
      · refine to_n 3 (fr' := (80, [(0, .ref 39), (1, .int (nI k1)), (2, .int (nI i))], [.ref 39, .int (nI k1), .ref 39], gh S a b sc1 ar1 lo, ex, 0, 0)) rfl ?_
        refine to_get rfl rfl rfl rfl ?_
        refine to_n 1 (fr' := (84, [(0, .ref 39), (1, .int (nI k1)), (2, .int (nI i))], [.int (nI k1), .int (nI S), .int (nI k1), .ref 39], gh S a b sc1 ar1 lo, ex, 0, 0)) rfl ?_
        refine to_addN (x := S) (y := k1) rfl ?_
        refine to_cv (q := 26) (M1 := an_X2_see) (rest := []) rfl rfl (by decide) rfl ⟨_, rfl⟩ (sf_X2_see hW hI1 k1 (by omega) (nI (S + k1)) (rt_n (n := (S + k1)) (by omega)) d) (fun sc3 ar3 hx3 => ?_)
        obtain ⟨hI3, hG3⟩ := hx3
        have hF3 := fr_t hF1 hG3 (by decide) (by decide)
        refine to_eq (fr' := (88, [(0, .ref 39), (1, .int (nI k1)), (2, .int (nI i))], [], gh S a b sc3 ar3 lo, ex, 0, 0)) rfl ?_
        refine to_n 1 (fr' := (89, [(0, .ref 39), (1, .int (nI k1)), (2, .int (nI i))], [.int 0], gh S a b sc3 ar3 lo, ex, 0, 0)) rfl ?_
        exact to_rt (i := .ireturn) (tg := []) rfl rfl ⟨_, _, _, ⟨hI3, hF3, rl_n (n := 0) (by omega)⟩, rfl⟩
    | succ m ih =>
      intro i sc1 ar1 hm hI1 hF1
      refine to_n 2 (fr' := (4, [(0, .ref 39), (1, .int (nI k1)), (2, .int (nI i))], [.int 4, .int (nI i)], gh S a b sc1 ar1 lo, ex, 0, 0)) rfl ?_
      refine to_nc_ge_F (t := 68) (x := i) (y := 4) rfl (by omega) (by omega) (by omega) ?_
      refine to_n 1 (fr' := (8, [(0, .ref 39), (1, .int (nI k1)), (2, .int (nI i))], [.ref 39], gh S a b sc1 ar1 lo, ex, 0, 0)) rfl ?_
      refine to_get rfl rfl rfl rfl ?_
      refine to_get rfl rfl rfl rfl ?_
      refine to_n 2 (fr' := (16, [(0, .ref 39), (1, .int (nI k1)), (2, .int (nI i))], [.int (nI k1), .int 4, .ref 4], gh S a b sc1 ar1 lo, ex, 0, 0)) rfl ?_
      refine to_mulN (x := 4) (y := k1) rfl ?_
      refine to_n 1 (fr' := (18, [(0, .ref 39), (1, .int (nI k1)), (2, .int (nI i))], [.int (nI i), .int (nI (4 * k1)), .ref 4], gh S a b sc1 ar1 lo, ex, 0, 0)) rfl ?_
      refine to_addN (x := (4 * k1)) (y := i) rfl ?_
      refine to_ialR (i := ((4 * k1) + i)) (v := ((ar1 4) ((4 * k1) + i))) rfl (by decide) rfl (by omega) (by omega) rfl ?_
      refine to_n 3 (fr' := (23, [(0, .ref 39), (1, .int (nI k1)), (2, .int (nI i)), (3, .int ((ar1 4) ((4 * k1) + i)))], [.ref 39, .int ((ar1 4) ((4 * k1) + i))], gh S a b sc1 ar1 lo, ex, 0, 0)) rfl ?_
      refine to_getR (v := (sc1 3912)) rfl rfl rfl rfl rfl ?_
      refine to_ic_ne (t := 31) rfl (fun q4 => ?_) (fun q4 => ?_)
      · refine to_n 1 (fr' := (32, [(0, .ref 39), (1, .int (nI k1)), (2, .int (nI i)), (3, .int ((ar1 4) ((4 * k1) + i)))], [.ref 39], gh S a b sc1 ar1 lo, ex, 0, 0)) rfl ?_
        refine to_get rfl rfl rfl rfl ?_
        refine to_n 1 (fr' := (36, [(0, .ref 39), (1, .int (nI k1)), (2, .int (nI i)), (3, .int ((ar1 4) ((4 * k1) + i)))], [.int ((ar1 4) ((4 * k1) + i)), .ref 1], gh S a b sc1 ar1 lo, ex, 0, 0)) rfl ?_
        rcases has_or (x := ((ar1 4) ((4 * k1) + i))) (B := S) (by omega) with ⟨n5, hn5, e5⟩ | w5
        · rw [e5]
          refine to_cp (q := 2) (M1 := an_X0_has) (rest := []) rfl rfl (by decide) rfl ⟨_, rfl⟩ (sf_has_1 (n := n5)  (by omega) d) (fun x5 hx5 => ?_)
          obtain rfl := hx5
          refine to_eq (fr' := (39, [(0, .ref 39), (1, .int (nI k1)), (2, .int (nI i)), (3, .int (nI n5))], [.int 1], gh S a b sc1 ar1 lo, ex, 0, 0)) rfl ?_
          refine to_n 2 (fr' := (43, [(0, .ref 39), (1, .int (nI k1)), (2, .int (nI i)), (3, .int (nI n5))], [.ref 39], gh S a b sc1 ar1 lo, ex, 0, 0)) rfl ?_
          refine to_get rfl rfl rfl rfl ?_
          refine to_n 1 (fr' := (47, [(0, .ref 39), (1, .int (nI k1)), (2, .int (nI i)), (3, .int (nI n5))], [.int (nI n5), .ref 41], gh S a b sc1 ar1 lo, ex, 0, 0)) rfl ?_
          refine to_zalR (i := n5) (v := ((ar1 41) n5)) rfl rfl (by omega) (by omega) rfl ?_
          refine to_if_eq (t := 62) rfl (fun q6 => ?_) (fun q6 => ?_)
          · refine to_n 1 (fr' := (65, [(0, .ref 39), (1, .int (nI k1)), (2, .int ((nI i) + 1)), (3, .int (nI n5))], [], gh S a b sc1 ar1 lo, ex, 0, 0)) rfl ?_
            rw [nI_1 i]
            refine to_n 1 (fr' := (2, [(0, .ref 39), (1, .int (nI k1)), (2, .int (nI (i + 1))), (3, .int (nI n5))], [], gh S a b sc1 ar1 lo, ex, 0, 0)) rfl ?_
            refine to_lv (lv := [(0, .ref 39), (1, .int (nI k1)), (2, .int (nI (i + 1)))]) rfl ⟨rfl, rfl, rfl, trivial⟩ ?_
            exact ih (i + 1) sc1 ar1 (by omega) hI1 hF1
          · refine to_n 3 (fr' := (54, [(0, .ref 39), (1, .int (nI k1)), (2, .int (nI i)), (3, .int (nI n5))], [.ref 39, .int (nI n5), .ref 39], gh S a b sc1 ar1 lo, ex, 0, 0)) rfl ?_
            refine to_get rfl rfl rfl rfl ?_
            refine to_n 1 (fr' := (58, [(0, .ref 39), (1, .int (nI k1)), (2, .int (nI i)), (3, .int (nI n5))], [.int (nI k1), .int (nI S), .int (nI n5), .ref 39], gh S a b sc1 ar1 lo, ex, 0, 0)) rfl ?_
            refine to_addN (x := S) (y := k1) rfl ?_
            refine to_cv (q := 26) (M1 := an_X2_see) (rest := []) rfl rfl (by decide) rfl ⟨_, rfl⟩ (sf_X2_see hW hI1 n5 (by omega) (nI (S + k1)) (rt_n (n := (S + k1)) (by omega)) d) (fun sc7 ar7 hx7 => ?_)
            obtain ⟨hI7, hG7⟩ := hx7
            have hF7 := fr_t hF1 hG7 (by decide) (by decide)
            refine to_eq (fr' := (62, [(0, .ref 39), (1, .int (nI k1)), (2, .int (nI i)), (3, .int (nI n5))], [], gh S a b sc7 ar7 lo, ex, 0, 0)) rfl ?_
            refine to_n 1 (fr' := (65, [(0, .ref 39), (1, .int (nI k1)), (2, .int ((nI i) + 1)), (3, .int (nI n5))], [], gh S a b sc7 ar7 lo, ex, 0, 0)) rfl ?_
            rw [nI_1 i]
            refine to_n 1 (fr' := (2, [(0, .ref 39), (1, .int (nI k1)), (2, .int (nI (i + 1))), (3, .int (nI n5))], [], gh S a b sc7 ar7 lo, ex, 0, 0)) rfl ?_
            refine to_lv (lv := [(0, .ref 39), (1, .int (nI k1)), (2, .int (nI (i + 1)))]) rfl ⟨rfl, rfl, rfl, trivial⟩ ?_
            exact ih (i + 1) sc7 ar7 (by omega) hI7 hF7
        · refine to_cp (q := 2) (M1 := an_X0_has) (rest := []) rfl rfl (by decide) rfl ⟨_, rfl⟩ (sf_has_0  w5 d) (fun x5 hx5 => ?_)
          obtain rfl := hx5
          refine to_eq (fr' := (39, [(0, .ref 39), (1, .int (nI k1)), (2, .int (nI i)), (3, .int ((ar1 4) ((4 * k1) + i)))], [.int 0], gh S a b sc1 ar1 lo, ex, 0, 0)) rfl ?_
          refine to_n 2 (fr' := (65, [(0, .ref 39), (1, .int (nI k1)), (2, .int ((nI i) + 1)), (3, .int ((ar1 4) ((4 * k1) + i)))], [], gh S a b sc1 ar1 lo, ex, 0, 0)) rfl ?_
          rw [nI_1 i]
          refine to_n 1 (fr' := (2, [(0, .ref 39), (1, .int (nI k1)), (2, .int (nI (i + 1))), (3, .int ((ar1 4) ((4 * k1) + i)))], [], gh S a b sc1 ar1 lo, ex, 0, 0)) rfl ?_
          refine to_lv (lv := [(0, .ref 39), (1, .int (nI k1)), (2, .int (nI (i + 1)))]) rfl ⟨rfl, rfl, rfl, trivial⟩ ?_
          exact ih (i + 1) sc1 ar1 (by omega) hI1 hF1
      · refine to_n 1 (fr' := (30, [(0, .ref 39), (1, .int (nI k1)), (2, .int (nI i)), (3, .int ((ar1 4) ((4 * k1) + i)))], [.int 1], gh S a b sc1 ar1 lo, ex, 0, 0)) rfl ?_
        exact to_rt (i := .ireturn) (tg := []) rfl rfl ⟨_, _, _, ⟨hI1, hF1, rl_n (n := 1) (by omega)⟩, rfl⟩
  refine to_n 2 (fr' := (2, [(0, .ref 39), (1, .int (nI k1)), (2, .int 0)], [], gh S a b sc ar lo, ex, 0, 0)) rfl ?_
  exact c2 (4 - 0) 0 sc ar (by omega) hI hF
set_option maxRecDepth 20000 in
theorem sf_X2_search {X : Nat × (Nat → Int32)} {S a b : Nat} {sc : Nat → Int32} {ar : Nat → Nat → Int32} {lo : Nat → Int64} {ex : Bool} (hW : Wd S a b) (hI : Iv S sc ar) (x1 : Int32) (d : Nat)  : ci X S a b (d + 3) 23 [.ref 39, .int x1] sc ar lo ex (fun x sc' ar' => Iv S sc' ar' ∧ Fr [3911] [46, 47] sc ar sc' ar' ∧ rq x S) := by
  obtain ⟨ha1, ha8, hb1, hb8, hab, hS1, hS⟩ := id hW
  refine ci_of (M := an_X2_search) rfl (Nat.le_of_ble_eq_true rfl) ?_
  have hF : Fr [3911] [46, 47] sc ar sc ar := fr_0
  refine to_eq (fr' := (0, [(0, .ref 39), (1, .int x1)], [], gh S a b sc ar lo, ex, 0, 0)) rfl ?_
  have c65 : ∀ m : Nat, ∀ (w : Int32) (i : Nat) (sc1 : Nat → Int32) (ar1 : Nat → Nat → Int32), (2 * S) ≤ i + m → i ≤ (2 * S) → Iv S sc1 ar1 → Fr [3911] [46, 47] sc ar sc1 ar1 → ag_To X (d + 2) an_X2_search (65, [(0, .ref 39), (1, .int w), (2, .int (nI i))], [], gh S a b sc1 ar1 lo, ex, 0, 0) (qi S a b lo ex (fun x sc' ar' => Iv S sc' ar' ∧ Fr [3911] [46, 47] sc ar sc' ar' ∧ rq x S)) := by
    intro m
    induction m with
    | zero =>
      intro w i sc1 ar1 hm hc65_0 hI1 hF1
      refine to_n 2 (fr' := (67, [(0, .ref 39), (1, .int w), (2, .int (nI i))], [.ref 39, .int (nI i)], gh S a b sc1 ar1 lo, ex, 0, 0)) rfl ?_
      obtain ⟨n2, hn2, e2⟩ := iv_s3911 hI1
      refine to_getR (v := (nI n2)) rfl rfl rfl rfl e2 ?_
      refine to_nc_ge (t := 131) (x := i) (y := n2) rfl (by omega) (by omega) (fun q3 => ?_) (fun q3 => ?_)
      · refine to_n 1 (fr' := (132, [(0, .ref 39), (1, .int w), (2, .int (nI i))], [.int (-1)], gh S a b sc1 ar1 lo, ex, 0, 0)) rfl ?_
        exact to_rt (i := .ireturn) (tg := []) rfl rfl ⟨_, _, _, ⟨hI1, hF1, rq_m⟩, rfl⟩
      · refine to_n 2 (fr' := (75, [(0, .ref 39), (1, .int w), (2, .int (nI i))], [.ref 39, .int (nI i)], gh S a b sc1 ar1 lo, ex, 0, 0)) rfl ?_
        refine to_get rfl rfl rfl rfl ?_
        refine to_len rfl (by decide) rfl (by decide) ?_
        refine to_eq (fr' := (79, [(0, .ref 39), (1, .int w), (2, .int (nI i))], [.int (nI (2 * S)), .int (nI i)], gh S a b sc1 ar1 lo, ex, 0, 0)) rfl ?_
        refine to_nc_ge_T (t := 131) (x := i) (y := (2 * S)) rfl (by omega) (by omega) (by omega) ?_
        refine to_n 1 (fr' := (132, [(0, .ref 39), (1, .int w), (2, .int (nI i))], [.int (-1)], gh S a b sc1 ar1 lo, ex, 0, 0)) rfl ?_
        exact to_rt (i := .ireturn) (tg := []) rfl rfl ⟨_, _, _, ⟨hI1, hF1, rq_m⟩, rfl⟩
    | succ m ih =>
      intro w i sc1 ar1 hm hc65_0 hI1 hF1
      refine to_n 2 (fr' := (67, [(0, .ref 39), (1, .int w), (2, .int (nI i))], [.ref 39, .int (nI i)], gh S a b sc1 ar1 lo, ex, 0, 0)) rfl ?_
      obtain ⟨n4, hn4, e4⟩ := iv_s3911 hI1
      refine to_getR (v := (nI n4)) rfl rfl rfl rfl e4 ?_
      refine to_nc_ge (t := 131) (x := i) (y := n4) rfl (by omega) (by omega) (fun q5 => ?_) (fun q5 => ?_)
      · refine to_n 1 (fr' := (132, [(0, .ref 39), (1, .int w), (2, .int (nI i))], [.int (-1)], gh S a b sc1 ar1 lo, ex, 0, 0)) rfl ?_
        exact to_rt (i := .ireturn) (tg := []) rfl rfl ⟨_, _, _, ⟨hI1, hF1, rq_m⟩, rfl⟩
      · refine to_n 2 (fr' := (75, [(0, .ref 39), (1, .int w), (2, .int (nI i))], [.ref 39, .int (nI i)], gh S a b sc1 ar1 lo, ex, 0, 0)) rfl ?_
        refine to_get rfl rfl rfl rfl ?_
        refine to_len rfl (by decide) rfl (by decide) ?_
        refine to_eq (fr' := (79, [(0, .ref 39), (1, .int w), (2, .int (nI i))], [.int (nI (2 * S)), .int (nI i)], gh S a b sc1 ar1 lo, ex, 0, 0)) rfl ?_
        refine to_nc_ge (t := 131) (x := i) (y := (2 * S)) rfl (by omega) (by omega) (fun q6 => ?_) (fun q6 => ?_)
        · refine to_n 1 (fr' := (132, [(0, .ref 39), (1, .int w), (2, .int (nI i))], [.int (-1)], gh S a b sc1 ar1 lo, ex, 0, 0)) rfl ?_
          exact to_rt (i := .ireturn) (tg := []) rfl rfl ⟨_, _, _, ⟨hI1, hF1, rq_m⟩, rfl⟩
        · refine to_n 1 (fr' := (83, [(0, .ref 39), (1, .int w), (2, .int (nI i))], [.ref 39], gh S a b sc1 ar1 lo, ex, 0, 0)) rfl ?_
          refine to_get rfl rfl rfl rfl ?_
          refine to_n 1 (fr' := (87, [(0, .ref 39), (1, .int w), (2, .int (nI i))], [.int (nI i), .ref 47], gh S a b sc1 ar1 lo, ex, 0, 0)) rfl ?_
          obtain ⟨n7, hn7, e7⟩ := iv_a47 hI1 i
          refine to_ialR (i := i) (v := (nI n7)) rfl (by decide) rfl (by omega) (by omega) e7 ?_
          refine to_n 3 (fr' := (91, [(0, .ref 39), (1, .int w), (2, .int (nI i)), (3, .int (nI n7))], [.ref 39, .int (nI n7)], gh S a b sc1 ar1 lo, ex, 0, 0)) rfl ?_
          refine to_get rfl rfl rfl rfl ?_
          refine to_nc_ge (t := 105) (x := n7) (y := S) rfl (by omega) (by omega) (fun q8 => ?_) (fun q8 => ?_)
          · refine to_n 3 (fr' := (108, [(0, .ref 39), (1, .int w), (2, .int (nI i)), (3, .int (nI n7))], [.ref 39, .int (nI n7), .ref 39], gh S a b sc1 ar1 lo, ex, 0, 0)) rfl ?_
            refine to_get rfl rfl rfl rfl ?_
            refine to_subN (x := n7) (y := S) rfl (by omega) ?_
            refine to_ci (q := 25) (M1 := an_X2_goOnFromExit) (rest := []) rfl rfl (by decide) rfl ⟨_, rfl⟩ (sf_X2_goOnFromExit hW hI1 (n7 - S) (by omega) d) (fun x9 sc9 ar9 hx9 => ?_)
            obtain ⟨hI9, hG9, hx9⟩ := hx9
            have hF9 := fr_t hF1 hG9 (by decide) (by decide)
            obtain ⟨n9, hn9, rfl⟩ := hx9
            refine to_eq (fr' := (115, [(0, .ref 39), (1, .int w), (2, .int (nI i)), (3, .int (nI n7))], [.int (nI n9)], gh S a b sc9 ar9 lo, ex, 0, 0)) rfl ?_
            refine to_nf_eq (t := 125) (x := n9) rfl (by omega) (fun q10 => ?_) (fun q10 => ?_)
            · refine to_n 1 (fr' := (128, [(0, .ref 39), (1, .int w), (2, .int ((nI i) + 1)), (3, .int (nI n7))], [], gh S a b sc9 ar9 lo, ex, 0, 0)) rfl ?_
              rw [nI_1 i]
              refine to_n 1 (fr' := (65, [(0, .ref 39), (1, .int w), (2, .int (nI (i + 1))), (3, .int (nI n7))], [], gh S a b sc9 ar9 lo, ex, 0, 0)) rfl ?_
              refine to_lv (lv := [(0, .ref 39), (1, .int w), (2, .int (nI (i + 1)))]) rfl ⟨rfl, rfl, rfl, trivial⟩ ?_
              exact ih w (i + 1) sc9 ar9 (by omega) (by omega) hI9 hF9
            · refine to_n 2 (fr' := (120, [(0, .ref 39), (1, .int w), (2, .int (nI i)), (3, .int (nI n7))], [.ref 39, .int (nI n7)], gh S a b sc9 ar9 lo, ex, 0, 0)) rfl ?_
              refine to_get rfl rfl rfl rfl ?_
              refine to_subN (x := n7) (y := S) rfl (by omega) ?_
              exact to_rt (i := .ireturn) (tg := []) rfl rfl ⟨_, _, _, ⟨hI9, hF9, rq_n (n := (n7 - S)) (by omega)⟩, rfl⟩
          · refine to_n 2 (fr' := (99, [(0, .ref 39), (1, .int w), (2, .int (nI i)), (3, .int (nI n7))], [.int (nI n7), .ref 39], gh S a b sc1 ar1 lo, ex, 0, 0)) rfl ?_
            refine to_cv (q := 24) (M1 := an_X2_goOnFromEntry) (rest := []) rfl rfl (by decide) rfl ⟨_, rfl⟩ (sf_X2_goOnFromEntry hW hI1 n7 (by omega) d) (fun sc11 ar11 hx11 => ?_)
            obtain ⟨hI11, hG11⟩ := hx11
            have hF11 := fr_t hF1 hG11 (by decide) (by decide)
            refine to_eq (fr' := (102, [(0, .ref 39), (1, .int w), (2, .int (nI i)), (3, .int (nI n7))], [], gh S a b sc11 ar11 lo, ex, 0, 0)) rfl ?_
            refine to_n 2 (fr' := (128, [(0, .ref 39), (1, .int w), (2, .int ((nI i) + 1)), (3, .int (nI n7))], [], gh S a b sc11 ar11 lo, ex, 0, 0)) rfl ?_
            rw [nI_1 i]
            refine to_n 1 (fr' := (65, [(0, .ref 39), (1, .int w), (2, .int (nI (i + 1))), (3, .int (nI n7))], [], gh S a b sc11 ar11 lo, ex, 0, 0)) rfl ?_
            refine to_lv (lv := [(0, .ref 39), (1, .int w), (2, .int (nI (i + 1)))]) rfl ⟨rfl, rfl, rfl, trivial⟩ ?_
            exact ih w (i + 1) sc11 ar11 (by omega) (by omega) hI11 hF11
  have c15 : ∀ m : Nat, ∀ (i : Nat) (sc12 : Nat → Int32) (ar12 : Nat → Nat → Int32), i + m = S → Iv S sc12 ar12 → Fr [3911] [46, 47] sc ar sc12 ar12 → ag_To X (d + 2) an_X2_search (15, [(0, .ref 39), (1, .int x1), (2, .int (nI i))], [], gh S a b sc12 ar12 lo, ex, 0, 0) (qi S a b lo ex (fun x sc' ar' => Iv S sc' ar' ∧ Fr [3911] [46, 47] sc ar sc' ar' ∧ rq x S)) := by
    intro m
    induction m with
    | zero =>
      intro i sc12 ar12 hm hI12 hF12
      refine to_n 2 (fr' := (17, [(0, .ref 39), (1, .int x1), (2, .int (nI i))], [.ref 39, .int (nI i)], gh S a b sc12 ar12 lo, ex, 0, 0)) rfl ?_
      refine to_get rfl rfl rfl rfl ?_
      refine to_nc_ge_T (t := 45) (x := i) (y := S) rfl (by omega) (by omega) (by omega) ?_
      refine to_n 1 (fr' := (46, [(0, .ref 39), (1, .int x1), (2, .int (nI i))], [.ref 39], gh S a b sc12 ar12 lo, ex, 0, 0)) rfl ?_
      refine to_get rfl rfl rfl rfl ?_
      refine to_n 1 (fr' := (50, [(0, .ref 39), (1, .int x1), (2, .int (nI i))], [.int x1, .ref 1], gh S a b sc12 ar12 lo, ex, 0, 0)) rfl ?_
      rcases has_or (x := x1) (B := S) (by omega) with ⟨n13, hn13, e13⟩ | w13
      · rw [e13]
        refine to_cp (q := 2) (M1 := an_X0_has) (rest := []) rfl rfl (by decide) rfl ⟨_, rfl⟩ (sf_has_1 (n := n13)  (by omega) (d + 1)) (fun x13 hx13 => ?_)
        obtain rfl := hx13
        refine to_eq (fr' := (53, [(0, .ref 39), (1, .int (nI n13)), (2, .int (nI i))], [.int 1], gh S a b sc12 ar12 lo, ex, 0, 0)) rfl ?_
        refine to_n 4 (fr' := (60, [(0, .ref 39), (1, .int (nI n13)), (2, .int (nI i))], [.int (-2), .int (nI n13), .ref 39], gh S a b sc12 ar12 lo, ex, 0, 0)) rfl ?_
        refine to_cv (q := 26) (M1 := an_X2_see) (rest := []) rfl rfl (by decide) rfl ⟨_, rfl⟩ (sf_X2_see hW hI12 n13 (by omega) (-2) (rt_2) (d + 1)) (fun sc14 ar14 hx14 => ?_)
        obtain ⟨hI14, hG14⟩ := hx14
        have hF14 := fr_t hF12 hG14 (by decide) (by decide)
        refine to_eq (fr' := (63, [(0, .ref 39), (1, .int (nI n13)), (2, .int (nI i))], [], gh S a b sc14 ar14 lo, ex, 0, 0)) rfl ?_
        refine to_n 2 (fr' := (65, [(0, .ref 39), (1, .int (nI n13)), (2, .int 0)], [], gh S a b sc14 ar14 lo, ex, 0, 0)) rfl ?_
        exact c65 ((2 * S) - 0) (nI n13) 0 sc14 ar14 (by omega) (by omega) hI14 hF14
      · refine to_cp (q := 2) (M1 := an_X0_has) (rest := []) rfl rfl (by decide) rfl ⟨_, rfl⟩ (sf_has_0  w13 (d + 1)) (fun x13 hx13 => ?_)
        obtain rfl := hx13
        refine to_eq (fr' := (53, [(0, .ref 39), (1, .int x1), (2, .int (nI i))], [.int 0], gh S a b sc12 ar12 lo, ex, 0, 0)) rfl ?_
        refine to_n 3 (fr' := (65, [(0, .ref 39), (1, .int x1), (2, .int 0)], [], gh S a b sc12 ar12 lo, ex, 0, 0)) rfl ?_
        exact c65 ((2 * S) - 0) x1 0 sc12 ar12 (by omega) (by omega) hI12 hF12
    | succ m ih =>
      intro i sc12 ar12 hm hI12 hF12
      refine to_n 2 (fr' := (17, [(0, .ref 39), (1, .int x1), (2, .int (nI i))], [.ref 39, .int (nI i)], gh S a b sc12 ar12 lo, ex, 0, 0)) rfl ?_
      refine to_get rfl rfl rfl rfl ?_
      refine to_nc_ge_F (t := 45) (x := i) (y := S) rfl (by omega) (by omega) (by omega) ?_
      refine to_n 1 (fr' := (24, [(0, .ref 39), (1, .int x1), (2, .int (nI i))], [.ref 39], gh S a b sc12 ar12 lo, ex, 0, 0)) rfl ?_
      refine to_get rfl rfl rfl rfl ?_
      refine to_n 1 (fr' := (28, [(0, .ref 39), (1, .int x1), (2, .int (nI i))], [.int (nI i), .ref 42], gh S a b sc12 ar12 lo, ex, 0, 0)) rfl ?_
      refine to_zalR (i := i) (v := ((ar12 42) i)) rfl rfl (by omega) (by omega) rfl ?_
      refine to_if_eq (t := 39) rfl (fun q15 => ?_) (fun q15 => ?_)
      · refine to_n 1 (fr' := (42, [(0, .ref 39), (1, .int x1), (2, .int ((nI i) + 1))], [], gh S a b sc12 ar12 lo, ex, 0, 0)) rfl ?_
        rw [nI_1 i]
        refine to_n 1 (fr' := (15, [(0, .ref 39), (1, .int x1), (2, .int (nI (i + 1)))], [], gh S a b sc12 ar12 lo, ex, 0, 0)) rfl ?_
        exact ih (i + 1) sc12 ar12 (by omega) hI12 hF12
      · refine to_n 3 (fr' := (36, [(0, .ref 39), (1, .int x1), (2, .int (nI i))], [.int (-2), .int (nI i), .ref 39], gh S a b sc12 ar12 lo, ex, 0, 0)) rfl ?_
        refine to_cv (q := 26) (M1 := an_X2_see) (rest := []) rfl rfl (by decide) rfl ⟨_, rfl⟩ (sf_X2_see hW hI12 i (by omega) (-2) (rt_2) (d + 1)) (fun sc16 ar16 hx16 => ?_)
        obtain ⟨hI16, hG16⟩ := hx16
        have hF16 := fr_t hF12 hG16 (by decide) (by decide)
        refine to_eq (fr' := (39, [(0, .ref 39), (1, .int x1), (2, .int (nI i))], [], gh S a b sc16 ar16 lo, ex, 0, 0)) rfl ?_
        refine to_n 1 (fr' := (42, [(0, .ref 39), (1, .int x1), (2, .int ((nI i) + 1))], [], gh S a b sc16 ar16 lo, ex, 0, 0)) rfl ?_
        rw [nI_1 i]
        refine to_n 1 (fr' := (15, [(0, .ref 39), (1, .int x1), (2, .int (nI (i + 1)))], [], gh S a b sc16 ar16 lo, ex, 0, 0)) rfl ?_
        exact ih (i + 1) sc16 ar16 (by omega) hI16 hF16
  refine to_n 1 (fr' := (1, [(0, .ref 39), (1, .int x1)], [.ref 39], gh S a b sc ar lo, ex, 0, 0)) rfl ?_
  refine to_get rfl rfl rfl rfl ?_
  refine to_n 1 (fr' := (5, [(0, .ref 39), (1, .int x1)], [.int (-1), .ref 46], gh S a b sc ar lo, ex, 0, 0)) rfl ?_
  refine to_fill (q := 168) (n := (2 * S)) (f := (ar 46)) (rest := []) (h2 := gh S a b sc (uA ar 46 (fun j => if j < (2 * S) then (-1) else (ar 46) j)) lo) rfl rfl (by decide) rfl trivial (by decide) rfl (by omega) rfl (d + 1) rfl rfl ?_
  have hI17 := ig_46 (g := (fun j => if j < (2 * S) then (-1) else (ar 46) j)) hI (fill_at (P := fun x => rt x (2 * S)) (iv_a46 hI) rt_m)
  have hF17 := fr_a (c := 46) (g := (fun j => if j < (2 * S) then (-1) else (ar 46) j)) hF (by decide)
  refine to_eq (fr' := (8, [(0, .ref 39), (1, .int x1)], [], gh S a b sc (uA ar 46 (fun j => if j < (2 * S) then (-1) else (ar 46) j)) lo, ex, 0, 0)) rfl ?_
  refine to_n 2 (fr' := (10, [(0, .ref 39), (1, .int x1)], [.int 0, .ref 39], gh S a b sc (uA ar 46 (fun j => if j < (2 * S) then (-1) else (ar 46) j)) lo, ex, 0, 0)) rfl ?_
  refine to_putR (h' := gh S a b (upd sc 3911 0) (uA ar 46 (fun j => if j < (2 * S) then (-1) else (ar 46) j)) lo) rfl rfl rfl (Nat.le_of_ble_eq_true rfl) rfl rfl ?_
  have hI18 := ip_3911 (v := 0) hI17 (rl_n (n := 0) (by omega))
  have hF18 := fr_s (k := 3911) (v := 0) hF17 (by decide)
  refine to_n 2 (fr' := (15, [(0, .ref 39), (1, .int x1), (2, .int 0)], [], gh S a b (upd sc 3911 0) (uA ar 46 (fun j => if j < (2 * S) then (-1) else (ar 46) j)) lo, ex, 0, 0)) rfl ?_
  exact c15 (S - 0) 0 (upd sc 3911 0) (uA ar 46 (fun j => if j < (2 * S) then (-1) else (ar 46) j)) (by omega) hI18 hF18
set_option maxRecDepth 20000 in
theorem sf_X2_addRow {X : Nat × (Nat → Int32)} {S a b : Nat} {sc : Nat → Int32} {ar : Nat → Nat → Int32} {lo : Nat → Int64} {ex : Bool} (hW : Wd S a b) (hI : Iv S sc ar)  (d : Nat)  : ci X S a b (d + 4) 21 [.ref 39] sc ar lo ex (fun x sc' ar' => Iv S sc' ar' ∧ Fr [3911] [43, 44, 45, 46, 47] sc ar sc' ar' ∧ rl x 2) := by
  obtain ⟨ha1, ha8, hb1, hb8, hab, hS1, hS⟩ := id hW
  refine ci_of (M := an_X2_addRow) rfl (Nat.le_of_ble_eq_true rfl) ?_
  have hF : Fr [3911] [43, 44, 45, 46, 47] sc ar sc ar := fr_0
  refine to_eq (fr' := (0, [(0, .ref 39)], [], gh S a b sc ar lo, ex, 0, 0)) rfl ?_
  have c30 : ∀ m : Nat, ∀ (w : Int32) (y : Int32) (i : Nat) (sc1 : Nat → Int32) (ar1 : Nat → Nat → Int32), i + m = (2 * S) → Iv S sc1 ar1 → Fr [3911] [43, 44, 45, 46, 47] sc ar sc1 ar1 → ag_To X (d + 3) an_X2_addRow (30, [(0, .ref 39), (1, .int w), (2, .int y), (3, .int (nI i))], [], gh S a b sc1 ar1 lo, ex, 0, 0) (qi S a b lo ex (fun x sc' ar' => Iv S sc' ar' ∧ Fr [3911] [43, 44, 45, 46, 47] sc ar sc' ar' ∧ rl x 2)) := by
    intro m
    induction m with
    | zero =>
      intro w y i sc1 ar1 hm hI1 hF1
      refine to_n 3 (fr' := (33, [(0, .ref 39), (1, .int w), (2, .int y), (3, .int (nI i))], [.ref 39, .int 2, .int (nI i)], gh S a b sc1 ar1 lo, ex, 0, 0)) rfl ?_
      refine to_get rfl rfl rfl rfl ?_
      refine to_mulN (x := 2) (y := S) rfl ?_
      refine to_nc_ge_T (t := 78) (x := i) (y := (2 * S)) rfl (by omega) (by omega) (by omega) ?_
      refine to_n 1 (fr' := (79, [(0, .ref 39), (1, .int w), (2, .int y), (3, .int (nI i))], [.int 1], gh S a b sc1 ar1 lo, ex, 0, 0)) rfl ?_
      exact to_rt (i := .ireturn) (tg := []) rfl rfl ⟨_, _, _, ⟨hI1, hF1, rl_n (n := 1) (by omega)⟩, rfl⟩
    | succ m ih =>
      intro w y i sc1 ar1 hm hI1 hF1
      refine to_n 3 (fr' := (33, [(0, .ref 39), (1, .int w), (2, .int y), (3, .int (nI i))], [.ref 39, .int 2, .int (nI i)], gh S a b sc1 ar1 lo, ex, 0, 0)) rfl ?_
      refine to_get rfl rfl rfl rfl ?_
      refine to_mulN (x := 2) (y := S) rfl ?_
      refine to_nc_ge_F (t := 78) (x := i) (y := (2 * S)) rfl (by omega) (by omega) (by omega) ?_
      refine to_n 1 (fr' := (41, [(0, .ref 39), (1, .int w), (2, .int y), (3, .int (nI i))], [.int y], gh S a b sc1 ar1 lo, ex, 0, 0)) rfl ?_
      refine to_if_lt (t := 78) rfl (fun q2 => ?_) (fun q2 => ?_)
      · refine to_n 1 (fr' := (79, [(0, .ref 39), (1, .int w), (2, .int y), (3, .int (nI i))], [.int 1], gh S a b sc1 ar1 lo, ex, 0, 0)) rfl ?_
        exact to_rt (i := .ireturn) (tg := []) rfl rfl ⟨_, _, _, ⟨hI1, hF1, rl_n (n := 1) (by omega)⟩, rfl⟩
      · obtain ⟨n3, hn3, e3⟩ := nI_of q2
        rw [e3]
        refine to_eq (fr' := (44, [(0, .ref 39), (1, .int w), (2, .int (nI n3)), (3, .int (nI i))], [], gh S a b sc1 ar1 lo, ex, 0, 0)) rfl ?_
        refine to_n 3 (fr' := (47, [(0, .ref 39), (1, .int w), (2, .int (nI n3)), (3, .int (nI i))], [.ref 39, .int 2, .int (nI n3)], gh S a b sc1 ar1 lo, ex, 0, 0)) rfl ?_
        refine to_get rfl rfl rfl rfl ?_
        refine to_mulN (x := 2) (y := S) rfl ?_
        refine to_nc_ge (t := 78) (x := n3) (y := (2 * S)) rfl (by omega) (by omega) (fun q4 => ?_) (fun q4 => ?_)
        · refine to_n 1 (fr' := (79, [(0, .ref 39), (1, .int w), (2, .int (nI n3)), (3, .int (nI i))], [.int 1], gh S a b sc1 ar1 lo, ex, 0, 0)) rfl ?_
          exact to_rt (i := .ireturn) (tg := []) rfl rfl ⟨_, _, _, ⟨hI1, hF1, rl_n (n := 1) (by omega)⟩, rfl⟩
        · refine to_n 1 (fr' := (55, [(0, .ref 39), (1, .int w), (2, .int (nI n3)), (3, .int (nI i))], [.ref 39], gh S a b sc1 ar1 lo, ex, 0, 0)) rfl ?_
          refine to_get rfl rfl rfl rfl ?_
          refine to_n 1 (fr' := (59, [(0, .ref 39), (1, .int w), (2, .int (nI n3)), (3, .int (nI i))], [.int (nI n3), .ref 46], gh S a b sc1 ar1 lo, ex, 0, 0)) rfl ?_
          rcases iv_a46 hI1 n3 with e5 | e5 | ⟨n5, hn5, e5⟩
          · refine to_ialR (i := n3) (v := (-1)) rfl (by decide) rfl (by omega) (by omega) e5 ?_
            refine to_n 4 (fr' := (66, [(0, .ref 39), (1, .int w), (2, .int (nI n3)), (3, .int (nI i)), (4, .int (-1))], [.int (nI n3), .int (-1), .ref 39], gh S a b sc1 ar1 lo, ex, 0, 0)) rfl ?_
            refine to_cv (q := 22) (M1 := an_X2_turn) (rest := []) rfl rfl (by decide) rfl ⟨_, rfl⟩ (sf_X2_turn hW hI1 (-1) (rt_m) n3 (by omega) (d + 2)) (fun sc6 ar6 hx6 => ?_)
            obtain ⟨hI6, hG6⟩ := hx6
            have hF6 := fr_t hF1 hG6 (by decide) (by decide)
            refine to_eq (fr' := (69, [(0, .ref 39), (1, .int w), (2, .int (nI n3)), (3, .int (nI i)), (4, .int (-1))], [], gh S a b sc6 ar6 lo, ex, 0, 0)) rfl ?_
            refine to_n 3 (fr' := (75, [(0, .ref 39), (1, .int w), (2, .int (-1)), (3, .int ((nI i) + 1)), (4, .int (-1))], [], gh S a b sc6 ar6 lo, ex, 0, 0)) rfl ?_
            rw [nI_1 i]
            refine to_n 1 (fr' := (30, [(0, .ref 39), (1, .int w), (2, .int (-1)), (3, .int (nI (i + 1))), (4, .int (-1))], [], gh S a b sc6 ar6 lo, ex, 0, 0)) rfl ?_
            refine to_lv (lv := [(0, .ref 39), (1, .int w), (2, .int (-1)), (3, .int (nI (i + 1)))]) rfl ⟨rfl, rfl, rfl, rfl, trivial⟩ ?_
            exact ih w (-1) (i + 1) sc6 ar6 (by omega) hI6 hF6
          · refine to_ialR (i := n3) (v := (-2)) rfl (by decide) rfl (by omega) (by omega) e5 ?_
            refine to_n 4 (fr' := (66, [(0, .ref 39), (1, .int w), (2, .int (nI n3)), (3, .int (nI i)), (4, .int (-2))], [.int (nI n3), .int (-2), .ref 39], gh S a b sc1 ar1 lo, ex, 0, 0)) rfl ?_
            refine to_cv (q := 22) (M1 := an_X2_turn) (rest := []) rfl rfl (by decide) rfl ⟨_, rfl⟩ (sf_X2_turn hW hI1 (-2) (rt_2) n3 (by omega) (d + 2)) (fun sc7 ar7 hx7 => ?_)
            obtain ⟨hI7, hG7⟩ := hx7
            have hF7 := fr_t hF1 hG7 (by decide) (by decide)
            refine to_eq (fr' := (69, [(0, .ref 39), (1, .int w), (2, .int (nI n3)), (3, .int (nI i)), (4, .int (-2))], [], gh S a b sc7 ar7 lo, ex, 0, 0)) rfl ?_
            refine to_n 3 (fr' := (75, [(0, .ref 39), (1, .int w), (2, .int (-2)), (3, .int ((nI i) + 1)), (4, .int (-2))], [], gh S a b sc7 ar7 lo, ex, 0, 0)) rfl ?_
            rw [nI_1 i]
            refine to_n 1 (fr' := (30, [(0, .ref 39), (1, .int w), (2, .int (-2)), (3, .int (nI (i + 1))), (4, .int (-2))], [], gh S a b sc7 ar7 lo, ex, 0, 0)) rfl ?_
            refine to_lv (lv := [(0, .ref 39), (1, .int w), (2, .int (-2)), (3, .int (nI (i + 1)))]) rfl ⟨rfl, rfl, rfl, rfl, trivial⟩ ?_
            exact ih w (-2) (i + 1) sc7 ar7 (by omega) hI7 hF7
          · refine to_ialR (i := n3) (v := (nI n5)) rfl (by decide) rfl (by omega) (by omega) e5 ?_
            refine to_n 4 (fr' := (66, [(0, .ref 39), (1, .int w), (2, .int (nI n3)), (3, .int (nI i)), (4, .int (nI n5))], [.int (nI n3), .int (nI n5), .ref 39], gh S a b sc1 ar1 lo, ex, 0, 0)) rfl ?_
            refine to_cv (q := 22) (M1 := an_X2_turn) (rest := []) rfl rfl (by decide) rfl ⟨_, rfl⟩ (sf_X2_turn hW hI1 (nI n5) (rt_n (n := n5) (by omega)) n3 (by omega) (d + 2)) (fun sc8 ar8 hx8 => ?_)
            obtain ⟨hI8, hG8⟩ := hx8
            have hF8 := fr_t hF1 hG8 (by decide) (by decide)
            refine to_eq (fr' := (69, [(0, .ref 39), (1, .int w), (2, .int (nI n3)), (3, .int (nI i)), (4, .int (nI n5))], [], gh S a b sc8 ar8 lo, ex, 0, 0)) rfl ?_
            refine to_n 3 (fr' := (75, [(0, .ref 39), (1, .int w), (2, .int (nI n5)), (3, .int ((nI i) + 1)), (4, .int (nI n5))], [], gh S a b sc8 ar8 lo, ex, 0, 0)) rfl ?_
            rw [nI_1 i]
            refine to_n 1 (fr' := (30, [(0, .ref 39), (1, .int w), (2, .int (nI n5)), (3, .int (nI (i + 1))), (4, .int (nI n5))], [], gh S a b sc8 ar8 lo, ex, 0, 0)) rfl ?_
            refine to_lv (lv := [(0, .ref 39), (1, .int w), (2, .int (nI n5)), (3, .int (nI (i + 1)))]) rfl ⟨rfl, rfl, rfl, rfl, trivial⟩ ?_
            exact ih w (nI n5) (i + 1) sc8 ar8 (by omega) hI8 hF8
  refine to_n 2 (fr' := (2, [(0, .ref 39)], [.int (-1), .ref 39], gh S a b sc ar lo, ex, 0, 0)) rfl ?_
  refine to_ci (q := 23) (M1 := an_X2_search) (rest := []) rfl rfl (by decide) rfl ⟨_, rfl⟩ (sf_X2_search hW hI (-1) d) (fun x9 sc9 ar9 hx9 => ?_)
  obtain ⟨hI9, hG9, hx9⟩ := hx9
  have hF9 := fr_t hF hG9 (by decide) (by decide)
  rcases hx9 with rfl | ⟨n9, hn9, rfl⟩
  · refine to_eq (fr' := (5, [(0, .ref 39)], [.int (-1)], gh S a b sc9 ar9 lo, ex, 0, 0)) rfl ?_
    refine to_n 5 (fr' := (12, [(0, .ref 39), (1, .int (-1))], [.int 0], gh S a b sc9 ar9 lo, ex, 0, 0)) rfl ?_
    exact to_rt (i := .ireturn) (tg := []) rfl rfl ⟨_, _, _, ⟨hI9, hF9, rl_n (n := 0) (by omega)⟩, rfl⟩
  · refine to_eq (fr' := (5, [(0, .ref 39)], [.int (nI n9)], gh S a b sc9 ar9 lo, ex, 0, 0)) rfl ?_
    refine to_n 3 (fr' := (8, [(0, .ref 39), (1, .int (nI n9))], [.int (-1), .int (nI n9)], gh S a b sc9 ar9 lo, ex, 0, 0)) rfl ?_
    refine to_ic_ne_T (t := 13) (x := (nI n9)) (y := (-1)) rfl (nI_neg (by omega) (by decide)) ?_
    refine to_n 1 (fr' := (14, [(0, .ref 39), (1, .int (nI n9))], [.ref 39], gh S a b sc9 ar9 lo, ex, 0, 0)) rfl ?_
    refine to_get rfl rfl rfl rfl ?_
    refine to_n 2 (fr' := (20, [(0, .ref 39), (1, .int (nI n9))], [.int (-3), .int (nI n9), .ref 45], gh S a b sc9 ar9 lo, ex, 0, 0)) rfl ?_
    refine to_iasR (i := n9) (h' := gh S a b sc9 (uA ar9 45 (upd (ar9 45) n9 (-3))) lo) rfl rfl (by omega) (by omega) rfl ?_
    have hI10 := ia_45 (g := (upd (ar9 45) n9 (-3))) hI9
    have hF10 := fr_a (c := 45) (g := (upd (ar9 45) n9 (-3))) hF9 (by decide)
    refine to_n 1 (fr' := (22, [(0, .ref 39), (1, .int (nI n9))], [.ref 39], gh S a b sc9 (uA ar9 45 (upd (ar9 45) n9 (-3))) lo, ex, 0, 0)) rfl ?_
    refine to_get rfl rfl rfl rfl ?_
    refine to_n 1 (fr' := (26, [(0, .ref 39), (1, .int (nI n9))], [.int (nI n9), .int (nI S)], gh S a b sc9 (uA ar9 45 (upd (ar9 45) n9 (-3))) lo, ex, 0, 0)) rfl ?_
    refine to_addN (x := S) (y := n9) rfl ?_
    refine to_n 3 (fr' := (30, [(0, .ref 39), (1, .int (nI n9)), (2, .int (nI (S + n9))), (3, .int 0)], [], gh S a b sc9 (uA ar9 45 (upd (ar9 45) n9 (-3))) lo, ex, 0, 0)) rfl ?_
    exact c30 ((2 * S) - 0) (nI n9) (nI (S + n9)) 0 sc9 (uA ar9 45 (upd (ar9 45) n9 (-3))) (by omega) hI10 hF10
set_option maxRecDepth 20000 in
theorem sf_X2_isInSomeBreak {X : Nat × (Nat → Int32)} {S a b : Nat} {sc : Nat → Int32} {ar : Nat → Nat → Int32} {lo : Nat → Int64} {ex : Bool} (hW : Wd S a b) (hI : Iv S sc ar) (k1 : Nat) (hk1 : k1 < S) (d : Nat)  : ci X S a b (d + 4) 27 [.ref 39, .int (nI k1)] sc ar lo ex (fun x sc' ar' => Iv S sc' ar' ∧ Fr [3911] [46, 47] sc ar sc' ar' ∧ rl x 2) := by
  obtain ⟨ha1, ha8, hb1, hb8, hab, hS1, hS⟩ := id hW
  refine ci_of (M := an_X2_isInSomeBreak) rfl (Nat.le_of_ble_eq_true rfl) ?_
  have hF : Fr [3911] [46, 47] sc ar sc ar := fr_0
  refine to_eq (fr' := (0, [(0, .ref 39), (1, .int (nI k1))], [], gh S a b sc ar lo, ex, 0, 0)) rfl ?_
  refine to_n 1 (fr' := (1, [(0, .ref 39), (1, .int (nI k1))], [.ref 39], gh S a b sc ar lo, ex, 0, 0)) rfl ?_
  refine to_get rfl rfl rfl rfl ?_
  refine to_n 1 (fr' := (5, [(0, .ref 39), (1, .int (nI k1))], [.int (nI k1), .ref 43], gh S a b sc ar lo, ex, 0, 0)) rfl ?_
  refine to_zalR (i := k1) (v := ((ar 43) k1)) rfl rfl (by omega) (by omega) rfl ?_
  refine to_if_eq (t := 37) rfl (fun q1 => ?_) (fun q1 => ?_)
  · refine to_n 1 (fr' := (38, [(0, .ref 39), (1, .int (nI k1))], [.int 0], gh S a b sc ar lo, ex, 0, 0)) rfl ?_
    exact to_rt (i := .ireturn) (tg := []) rfl rfl ⟨_, _, _, ⟨hI, hF, rl_n (n := 0) (by omega)⟩, rfl⟩
  · refine to_n 2 (fr' := (11, [(0, .ref 39), (1, .int (nI k1))], [.int (nI k1), .ref 39], gh S a b sc ar lo, ex, 0, 0)) rfl ?_
    refine to_ci (q := 23) (M1 := an_X2_search) (rest := []) rfl rfl (by decide) rfl ⟨_, rfl⟩ (sf_X2_search hW hI (nI k1) d) (fun x2 sc2 ar2 hx2 => ?_)
    obtain ⟨hI2, hG2, hx2⟩ := hx2
    have hF2 := fr_t hF hG2 (by decide) (by decide)
    rcases hx2 with rfl | ⟨n2, hn2, rfl⟩
    · refine to_eq (fr' := (14, [(0, .ref 39), (1, .int (nI k1))], [.int (-1)], gh S a b sc2 ar2 lo, ex, 0, 0)) rfl ?_
      refine to_n 3 (fr' := (19, [(0, .ref 39), (1, .int (nI k1))], [.ref 39], gh S a b sc2 ar2 lo, ex, 0, 0)) rfl ?_
      refine to_get rfl rfl rfl rfl ?_
      refine to_n 1 (fr' := (23, [(0, .ref 39), (1, .int (nI k1))], [.ref 39, .ref 46], gh S a b sc2 ar2 lo, ex, 0, 0)) rfl ?_
      refine to_get rfl rfl rfl rfl ?_
      refine to_n 1 (fr' := (27, [(0, .ref 39), (1, .int (nI k1))], [.int (nI k1), .int (nI S), .ref 46], gh S a b sc2 ar2 lo, ex, 0, 0)) rfl ?_
      refine to_addN (x := S) (y := k1) rfl ?_
      rcases iv_a46 hI2 (S + k1) with e3 | e3 | ⟨n3, hn3, e3⟩
      · refine to_ialR (i := (S + k1)) (v := (-1)) rfl (by decide) rfl (by omega) (by omega) e3 ?_
        refine to_n 4 (fr' := (38, [(0, .ref 39), (1, .int (nI k1))], [.int 1], gh S a b sc2 ar2 lo, ex, 0, 0)) rfl ?_
        exact to_rt (i := .ireturn) (tg := []) rfl rfl ⟨_, _, _, ⟨hI2, hF2, rl_n (n := 1) (by omega)⟩, rfl⟩
      · refine to_ialR (i := (S + k1)) (v := (-2)) rfl (by decide) rfl (by omega) (by omega) e3 ?_
        refine to_n 3 (fr' := (38, [(0, .ref 39), (1, .int (nI k1))], [.int 0], gh S a b sc2 ar2 lo, ex, 0, 0)) rfl ?_
        exact to_rt (i := .ireturn) (tg := []) rfl rfl ⟨_, _, _, ⟨hI2, hF2, rl_n (n := 0) (by omega)⟩, rfl⟩
      · refine to_ialR (i := (S + k1)) (v := (nI n3)) rfl (by decide) rfl (by omega) (by omega) e3 ?_
        refine to_n 1 (fr' := (30, [(0, .ref 39), (1, .int (nI k1))], [.int (-1), .int (nI n3)], gh S a b sc2 ar2 lo, ex, 0, 0)) rfl ?_
        refine to_ic_ne_T (t := 37) (x := (nI n3)) (y := (-1)) rfl (nI_neg (by omega) (by decide)) ?_
        refine to_n 1 (fr' := (38, [(0, .ref 39), (1, .int (nI k1))], [.int 0], gh S a b sc2 ar2 lo, ex, 0, 0)) rfl ?_
        exact to_rt (i := .ireturn) (tg := []) rfl rfl ⟨_, _, _, ⟨hI2, hF2, rl_n (n := 0) (by omega)⟩, rfl⟩
    · refine to_eq (fr' := (14, [(0, .ref 39), (1, .int (nI k1))], [.int (nI n2)], gh S a b sc2 ar2 lo, ex, 0, 0)) rfl ?_
      refine to_n 1 (fr' := (15, [(0, .ref 39), (1, .int (nI k1))], [.int (-1), .int (nI n2)], gh S a b sc2 ar2 lo, ex, 0, 0)) rfl ?_
      refine to_ic_ne_T (t := 37) (x := (nI n2)) (y := (-1)) rfl (nI_neg (by omega) (by decide)) ?_
      refine to_n 1 (fr' := (38, [(0, .ref 39), (1, .int (nI k1))], [.int 0], gh S a b sc2 ar2 lo, ex, 0, 0)) rfl ?_
      exact to_rt (i := .ireturn) (tg := []) rfl rfl ⟨_, _, _, ⟨hI2, hF2, rl_n (n := 0) (by omega)⟩, rfl⟩
set_option maxRecDepth 20000 in
theorem sf_X2_keep {X : Nat × (Nat → Int32)} {S a b : Nat} {sc : Nat → Int32} {ar : Nat → Nat → Int32} {lo : Nat → Int64} {ex : Bool} (hW : Wd S a b) (hI : Iv S sc ar) (k1 : Nat) (hk1 : k1 < S) (d : Nat)  : cv X S a b (d + 2) 28 [.ref 39, .int (nI k1)] sc ar lo ex (fun sc' ar' => Iv S sc' ar' ∧ Fr [3901] [40, 41, 42, 43] sc ar sc' ar') := by
  obtain ⟨ha1, ha8, hb1, hb8, hab, hS1, hS⟩ := id hW
  refine cv_of (M := an_X2_keep) rfl (Nat.le_of_ble_eq_true rfl) ?_
  have hF : Fr [3901] [40, 41, 42, 43] sc ar sc ar := fr_0
  refine to_eq (fr' := (0, [(0, .ref 39), (1, .int (nI k1))], [], gh S a b sc ar lo, ex, 0, 0)) rfl ?_
  have c91 : ∀ m : Nat, ∀ (w : Int32) (y : Int32) (i : Nat) (sc1 : Nat → Int32) (ar1 : Nat → Nat → Int32), i + m = S → Iv S sc1 ar1 → Fr [3901] [40, 41, 42, 43] sc ar sc1 ar1 → ag_To X (d + 1) an_X2_keep (91, [(0, .ref 39), (1, .int (nI k1)), (2, .int w), (3, .int y), (4, .int (nI i))], [], gh S a b sc1 ar1 lo, ex, 0, 0) (qv S a b lo ex (fun sc' ar' => Iv S sc' ar' ∧ Fr [3901] [40, 41, 42, 43] sc ar sc' ar')) := by
    intro m
    induction m with
    | zero =>
      intro w y i sc1 ar1 hm hI1 hF1
      refine to_n 2 (fr' := (94, [(0, .ref 39), (1, .int (nI k1)), (2, .int w), (3, .int y), (4, .int (nI i))], [.ref 39, .int (nI i)], gh S a b sc1 ar1 lo, ex, 0, 0)) rfl ?_
      refine to_get rfl rfl rfl rfl ?_
      refine to_nc_ge_T (t := 131) (x := i) (y := S) rfl (by omega) (by omega) (by omega) ?_
      refine to_n 1 (fr' := (132, [(0, .ref 39), (1, .int (nI k1)), (2, .int w), (3, .int y), (4, .int (nI i))], [.ref 39], gh S a b sc1 ar1 lo, ex, 0, 0)) rfl ?_
      refine to_get rfl rfl rfl rfl ?_
      refine to_n 2 (fr' := (137, [(0, .ref 39), (1, .int (nI k1)), (2, .int w), (3, .int y), (4, .int (nI i))], [.int 0, .int (nI k1), .ref 43], gh S a b sc1 ar1 lo, ex, 0, 0)) rfl ?_
      refine to_zasR (i := k1) (h' := gh S a b sc1 (uA ar1 43 (upd (ar1 43) k1 (vp_nar .boolean 0))) lo) rfl rfl (by omega) (by omega) rfl ?_
      have hI2 := ia_43 (g := (upd (ar1 43) k1 (vp_nar .boolean 0))) hI1
      have hF2 := fr_a (c := 43) (g := (upd (ar1 43) k1 (vp_nar .boolean 0))) hF1 (by decide)
      refine to_n 1 (fr' := (139, [(0, .ref 39), (1, .int (nI k1)), (2, .int w), (3, .int y), (4, .int (nI i))], [.ref 39], gh S a b sc1 (uA ar1 43 (upd (ar1 43) k1 (vp_nar .boolean 0))) lo, ex, 0, 0)) rfl ?_
      refine to_get rfl rfl rfl rfl ?_
      refine to_n 2 (fr' := (144, [(0, .ref 39), (1, .int (nI k1)), (2, .int w), (3, .int y), (4, .int (nI i))], [.int 0, .int (nI k1), .ref 41], gh S a b sc1 (uA ar1 43 (upd (ar1 43) k1 (vp_nar .boolean 0))) lo, ex, 0, 0)) rfl ?_
      refine to_zasR (i := k1) (h' := gh S a b sc1 (uA (uA ar1 43 (upd (ar1 43) k1 (vp_nar .boolean 0))) 41 (upd ((uA ar1 43 (upd (ar1 43) k1 (vp_nar .boolean 0))) 41) k1 (vp_nar .boolean 0))) lo) rfl rfl (by omega) (by omega) rfl ?_
      have hI3 := ia_41 (g := (upd ((uA ar1 43 (upd (ar1 43) k1 (vp_nar .boolean 0))) 41) k1 (vp_nar .boolean 0))) hI2
      have hF3 := fr_a (c := 41) (g := (upd ((uA ar1 43 (upd (ar1 43) k1 (vp_nar .boolean 0))) 41) k1 (vp_nar .boolean 0))) hF2 (by decide)
      refine to_n 1 (fr' := (146, [(0, .ref 39), (1, .int (nI k1)), (2, .int w), (3, .int y), (4, .int (nI i))], [.ref 39], gh S a b sc1 (uA (uA ar1 43 (upd (ar1 43) k1 (vp_nar .boolean 0))) 41 (upd ((uA ar1 43 (upd (ar1 43) k1 (vp_nar .boolean 0))) 41) k1 (vp_nar .boolean 0))) lo, ex, 0, 0)) rfl ?_
      refine to_get rfl rfl rfl rfl ?_
      refine to_n 2 (fr' := (151, [(0, .ref 39), (1, .int (nI k1)), (2, .int w), (3, .int y), (4, .int (nI i))], [.int 0, .int (nI k1), .ref 42], gh S a b sc1 (uA (uA ar1 43 (upd (ar1 43) k1 (vp_nar .boolean 0))) 41 (upd ((uA ar1 43 (upd (ar1 43) k1 (vp_nar .boolean 0))) 41) k1 (vp_nar .boolean 0))) lo, ex, 0, 0)) rfl ?_
      refine to_zasR (i := k1) (h' := gh S a b sc1 (uA (uA (uA ar1 43 (upd (ar1 43) k1 (vp_nar .boolean 0))) 41 (upd ((uA ar1 43 (upd (ar1 43) k1 (vp_nar .boolean 0))) 41) k1 (vp_nar .boolean 0))) 42 (upd ((uA (uA ar1 43 (upd (ar1 43) k1 (vp_nar .boolean 0))) 41 (upd ((uA ar1 43 (upd (ar1 43) k1 (vp_nar .boolean 0))) 41) k1 (vp_nar .boolean 0))) 42) k1 (vp_nar .boolean 0))) lo) rfl rfl (by omega) (by omega) rfl ?_
      have hI4 := ia_42 (g := (upd ((uA (uA ar1 43 (upd (ar1 43) k1 (vp_nar .boolean 0))) 41 (upd ((uA ar1 43 (upd (ar1 43) k1 (vp_nar .boolean 0))) 41) k1 (vp_nar .boolean 0))) 42) k1 (vp_nar .boolean 0))) hI3
      have hF4 := fr_a (c := 42) (g := (upd ((uA (uA ar1 43 (upd (ar1 43) k1 (vp_nar .boolean 0))) 41 (upd ((uA ar1 43 (upd (ar1 43) k1 (vp_nar .boolean 0))) 41) k1 (vp_nar .boolean 0))) 42) k1 (vp_nar .boolean 0))) hF3 (by decide)
      exact to_rt (i := .return_) (tg := []) rfl rfl ⟨_, _, ⟨hI4, hF4⟩, rfl⟩
    | succ m ih =>
      intro w y i sc1 ar1 hm hI1 hF1
      refine to_n 2 (fr' := (94, [(0, .ref 39), (1, .int (nI k1)), (2, .int w), (3, .int y), (4, .int (nI i))], [.ref 39, .int (nI i)], gh S a b sc1 ar1 lo, ex, 0, 0)) rfl ?_
      refine to_get rfl rfl rfl rfl ?_
      refine to_nc_ge_F (t := 131) (x := i) (y := S) rfl (by omega) (by omega) (by omega) ?_
      refine to_n 1 (fr' := (101, [(0, .ref 39), (1, .int (nI k1)), (2, .int w), (3, .int y), (4, .int (nI i))], [.ref 39], gh S a b sc1 ar1 lo, ex, 0, 0)) rfl ?_
      refine to_get rfl rfl rfl rfl ?_
      refine to_n 1 (fr' := (105, [(0, .ref 39), (1, .int (nI k1)), (2, .int w), (3, .int y), (4, .int (nI i))], [.int y, .ref 1], gh S a b sc1 ar1 lo, ex, 0, 0)) rfl ?_
      rcases has_or (x := y) (B := S) (by omega) with ⟨n5, hn5, e5⟩ | w5
      · rw [e5]
        refine to_cp (q := 2) (M1 := an_X0_has) (rest := []) rfl rfl (by decide) rfl ⟨_, rfl⟩ (sf_has_1 (n := n5)  (by omega) d) (fun x5 hx5 => ?_)
        obtain rfl := hx5
        refine to_eq (fr' := (108, [(0, .ref 39), (1, .int (nI k1)), (2, .int w), (3, .int (nI n5)), (4, .int (nI i))], [.int 1], gh S a b sc1 ar1 lo, ex, 0, 0)) rfl ?_
        refine to_n 2 (fr' := (112, [(0, .ref 39), (1, .int (nI k1)), (2, .int w), (3, .int (nI n5)), (4, .int (nI i))], [.ref 39], gh S a b sc1 ar1 lo, ex, 0, 0)) rfl ?_
        refine to_get rfl rfl rfl rfl ?_
        refine to_n 2 (fr' := (117, [(0, .ref 39), (1, .int (nI k1)), (2, .int w), (3, .int (nI n5)), (4, .int (nI i))], [.int 0, .int (nI n5), .ref 43], gh S a b sc1 ar1 lo, ex, 0, 0)) rfl ?_
        refine to_zasR (i := n5) (h' := gh S a b sc1 (uA ar1 43 (upd (ar1 43) n5 (vp_nar .boolean 0))) lo) rfl rfl (by omega) (by omega) rfl ?_
        have hI6 := ia_43 (g := (upd (ar1 43) n5 (vp_nar .boolean 0))) hI1
        have hF6 := fr_a (c := 43) (g := (upd (ar1 43) n5 (vp_nar .boolean 0))) hF1 (by decide)
        refine to_n 1 (fr' := (119, [(0, .ref 39), (1, .int (nI k1)), (2, .int w), (3, .int (nI n5)), (4, .int (nI i))], [.ref 39], gh S a b sc1 (uA ar1 43 (upd (ar1 43) n5 (vp_nar .boolean 0))) lo, ex, 0, 0)) rfl ?_
        refine to_get rfl rfl rfl rfl ?_
        refine to_n 1 (fr' := (123, [(0, .ref 39), (1, .int (nI k1)), (2, .int w), (3, .int (nI n5)), (4, .int (nI i))], [.int (nI n5), .ref 45], gh S a b sc1 (uA ar1 43 (upd (ar1 43) n5 (vp_nar .boolean 0))) lo, ex, 0, 0)) rfl ?_
        refine to_ialR (i := n5) (v := (((uA ar1 43 (upd (ar1 43) n5 (vp_nar .boolean 0))) 45) n5)) rfl (by decide) rfl (by omega) (by omega) rfl ?_
        refine to_n 2 (fr' := (128, [(0, .ref 39), (1, .int (nI k1)), (2, .int w), (3, .int (((uA ar1 43 (upd (ar1 43) n5 (vp_nar .boolean 0))) 45) n5)), (4, .int ((nI i) + 1))], [], gh S a b sc1 (uA ar1 43 (upd (ar1 43) n5 (vp_nar .boolean 0))) lo, ex, 0, 0)) rfl ?_
        rw [nI_1 i]
        refine to_n 1 (fr' := (91, [(0, .ref 39), (1, .int (nI k1)), (2, .int w), (3, .int (((uA ar1 43 (upd (ar1 43) n5 (vp_nar .boolean 0))) 45) n5)), (4, .int (nI (i + 1)))], [], gh S a b sc1 (uA ar1 43 (upd (ar1 43) n5 (vp_nar .boolean 0))) lo, ex, 0, 0)) rfl ?_
        exact ih w (((uA ar1 43 (upd (ar1 43) n5 (vp_nar .boolean 0))) 45) n5) (i + 1) sc1 (uA ar1 43 (upd (ar1 43) n5 (vp_nar .boolean 0))) (by omega) hI6 hF6
      · refine to_cp (q := 2) (M1 := an_X0_has) (rest := []) rfl rfl (by decide) rfl ⟨_, rfl⟩ (sf_has_0  w5 d) (fun x5 hx5 => ?_)
        obtain rfl := hx5
        refine to_eq (fr' := (108, [(0, .ref 39), (1, .int (nI k1)), (2, .int w), (3, .int y), (4, .int (nI i))], [.int 0], gh S a b sc1 ar1 lo, ex, 0, 0)) rfl ?_
        refine to_n 2 (fr' := (132, [(0, .ref 39), (1, .int (nI k1)), (2, .int w), (3, .int y), (4, .int (nI i))], [.ref 39], gh S a b sc1 ar1 lo, ex, 0, 0)) rfl ?_
        refine to_get rfl rfl rfl rfl ?_
        refine to_n 2 (fr' := (137, [(0, .ref 39), (1, .int (nI k1)), (2, .int w), (3, .int y), (4, .int (nI i))], [.int 0, .int (nI k1), .ref 43], gh S a b sc1 ar1 lo, ex, 0, 0)) rfl ?_
        refine to_zasR (i := k1) (h' := gh S a b sc1 (uA ar1 43 (upd (ar1 43) k1 (vp_nar .boolean 0))) lo) rfl rfl (by omega) (by omega) rfl ?_
        have hI7 := ia_43 (g := (upd (ar1 43) k1 (vp_nar .boolean 0))) hI1
        have hF7 := fr_a (c := 43) (g := (upd (ar1 43) k1 (vp_nar .boolean 0))) hF1 (by decide)
        refine to_n 1 (fr' := (139, [(0, .ref 39), (1, .int (nI k1)), (2, .int w), (3, .int y), (4, .int (nI i))], [.ref 39], gh S a b sc1 (uA ar1 43 (upd (ar1 43) k1 (vp_nar .boolean 0))) lo, ex, 0, 0)) rfl ?_
        refine to_get rfl rfl rfl rfl ?_
        refine to_n 2 (fr' := (144, [(0, .ref 39), (1, .int (nI k1)), (2, .int w), (3, .int y), (4, .int (nI i))], [.int 0, .int (nI k1), .ref 41], gh S a b sc1 (uA ar1 43 (upd (ar1 43) k1 (vp_nar .boolean 0))) lo, ex, 0, 0)) rfl ?_
        refine to_zasR (i := k1) (h' := gh S a b sc1 (uA (uA ar1 43 (upd (ar1 43) k1 (vp_nar .boolean 0))) 41 (upd ((uA ar1 43 (upd (ar1 43) k1 (vp_nar .boolean 0))) 41) k1 (vp_nar .boolean 0))) lo) rfl rfl (by omega) (by omega) rfl ?_
        have hI8 := ia_41 (g := (upd ((uA ar1 43 (upd (ar1 43) k1 (vp_nar .boolean 0))) 41) k1 (vp_nar .boolean 0))) hI7
        have hF8 := fr_a (c := 41) (g := (upd ((uA ar1 43 (upd (ar1 43) k1 (vp_nar .boolean 0))) 41) k1 (vp_nar .boolean 0))) hF7 (by decide)
        refine to_n 1 (fr' := (146, [(0, .ref 39), (1, .int (nI k1)), (2, .int w), (3, .int y), (4, .int (nI i))], [.ref 39], gh S a b sc1 (uA (uA ar1 43 (upd (ar1 43) k1 (vp_nar .boolean 0))) 41 (upd ((uA ar1 43 (upd (ar1 43) k1 (vp_nar .boolean 0))) 41) k1 (vp_nar .boolean 0))) lo, ex, 0, 0)) rfl ?_
        refine to_get rfl rfl rfl rfl ?_
        refine to_n 2 (fr' := (151, [(0, .ref 39), (1, .int (nI k1)), (2, .int w), (3, .int y), (4, .int (nI i))], [.int 0, .int (nI k1), .ref 42], gh S a b sc1 (uA (uA ar1 43 (upd (ar1 43) k1 (vp_nar .boolean 0))) 41 (upd ((uA ar1 43 (upd (ar1 43) k1 (vp_nar .boolean 0))) 41) k1 (vp_nar .boolean 0))) lo, ex, 0, 0)) rfl ?_
        refine to_zasR (i := k1) (h' := gh S a b sc1 (uA (uA (uA ar1 43 (upd (ar1 43) k1 (vp_nar .boolean 0))) 41 (upd ((uA ar1 43 (upd (ar1 43) k1 (vp_nar .boolean 0))) 41) k1 (vp_nar .boolean 0))) 42 (upd ((uA (uA ar1 43 (upd (ar1 43) k1 (vp_nar .boolean 0))) 41 (upd ((uA ar1 43 (upd (ar1 43) k1 (vp_nar .boolean 0))) 41) k1 (vp_nar .boolean 0))) 42) k1 (vp_nar .boolean 0))) lo) rfl rfl (by omega) (by omega) rfl ?_
        have hI9 := ia_42 (g := (upd ((uA (uA ar1 43 (upd (ar1 43) k1 (vp_nar .boolean 0))) 41 (upd ((uA ar1 43 (upd (ar1 43) k1 (vp_nar .boolean 0))) 41) k1 (vp_nar .boolean 0))) 42) k1 (vp_nar .boolean 0))) hI8
        have hF9 := fr_a (c := 42) (g := (upd ((uA (uA ar1 43 (upd (ar1 43) k1 (vp_nar .boolean 0))) 41 (upd ((uA ar1 43 (upd (ar1 43) k1 (vp_nar .boolean 0))) 41) k1 (vp_nar .boolean 0))) 42) k1 (vp_nar .boolean 0))) hF8 (by decide)
        exact to_rt (i := .return_) (tg := []) rfl rfl ⟨_, _, ⟨hI9, hF9⟩, rfl⟩
  have c42 : ∀ m : Nat, ∀ (y : Int32) (i : Nat) (sc10 : Nat → Int32) (ar10 : Nat → Nat → Int32), i + m = S → Iv S sc10 ar10 → Fr [3901] [40, 41, 42, 43] sc ar sc10 ar10 → ag_To X (d + 1) an_X2_keep (42, [(0, .ref 39), (1, .int (nI k1)), (2, .int y), (3, .int (nI i))], [], gh S a b sc10 ar10 lo, ex, 0, 0) (qv S a b lo ex (fun sc' ar' => Iv S sc' ar' ∧ Fr [3901] [40, 41, 42, 43] sc ar sc' ar')) := by
    intro m
    induction m with
    | zero =>
      intro y i sc10 ar10 hm hI10 hF10
      refine to_n 2 (fr' := (44, [(0, .ref 39), (1, .int (nI k1)), (2, .int y), (3, .int (nI i))], [.ref 39, .int (nI i)], gh S a b sc10 ar10 lo, ex, 0, 0)) rfl ?_
      refine to_get rfl rfl rfl rfl ?_
      refine to_nc_ge_T (t := 81) (x := i) (y := S) rfl (by omega) (by omega) (by omega) ?_
      refine to_n 1 (fr' := (82, [(0, .ref 39), (1, .int (nI k1)), (2, .int y), (3, .int (nI i))], [.ref 39], gh S a b sc10 ar10 lo, ex, 0, 0)) rfl ?_
      refine to_get rfl rfl rfl rfl ?_
      refine to_n 1 (fr' := (86, [(0, .ref 39), (1, .int (nI k1)), (2, .int y), (3, .int (nI i))], [.int (nI k1), .ref 45], gh S a b sc10 ar10 lo, ex, 0, 0)) rfl ?_
      refine to_ialR (i := k1) (v := ((ar10 45) k1)) rfl (by decide) rfl (by omega) (by omega) rfl ?_
      refine to_n 3 (fr' := (91, [(0, .ref 39), (1, .int (nI k1)), (2, .int y), (3, .int ((ar10 45) k1)), (4, .int 0)], [], gh S a b sc10 ar10 lo, ex, 0, 0)) rfl ?_
      exact c91 (S - 0) y ((ar10 45) k1) 0 sc10 ar10 (by omega) hI10 hF10
    | succ m ih =>
      intro y i sc10 ar10 hm hI10 hF10
      refine to_n 2 (fr' := (44, [(0, .ref 39), (1, .int (nI k1)), (2, .int y), (3, .int (nI i))], [.ref 39, .int (nI i)], gh S a b sc10 ar10 lo, ex, 0, 0)) rfl ?_
      refine to_get rfl rfl rfl rfl ?_
      refine to_nc_ge_F (t := 81) (x := i) (y := S) rfl (by omega) (by omega) (by omega) ?_
      refine to_n 1 (fr' := (51, [(0, .ref 39), (1, .int (nI k1)), (2, .int y), (3, .int (nI i))], [.ref 39], gh S a b sc10 ar10 lo, ex, 0, 0)) rfl ?_
      refine to_get rfl rfl rfl rfl ?_
      refine to_n 1 (fr' := (55, [(0, .ref 39), (1, .int (nI k1)), (2, .int y), (3, .int (nI i))], [.int y, .ref 1], gh S a b sc10 ar10 lo, ex, 0, 0)) rfl ?_
      rcases has_or (x := y) (B := S) (by omega) with ⟨n11, hn11, e11⟩ | w11
      · rw [e11]
        refine to_cp (q := 2) (M1 := an_X0_has) (rest := []) rfl rfl (by decide) rfl ⟨_, rfl⟩ (sf_has_1 (n := n11)  (by omega) d) (fun x11 hx11 => ?_)
        obtain rfl := hx11
        refine to_eq (fr' := (58, [(0, .ref 39), (1, .int (nI k1)), (2, .int (nI n11)), (3, .int (nI i))], [.int 1], gh S a b sc10 ar10 lo, ex, 0, 0)) rfl ?_
        refine to_n 2 (fr' := (62, [(0, .ref 39), (1, .int (nI k1)), (2, .int (nI n11)), (3, .int (nI i))], [.ref 39], gh S a b sc10 ar10 lo, ex, 0, 0)) rfl ?_
        refine to_get rfl rfl rfl rfl ?_
        refine to_n 2 (fr' := (67, [(0, .ref 39), (1, .int (nI k1)), (2, .int (nI n11)), (3, .int (nI i))], [.int 0, .int (nI n11), .ref 43], gh S a b sc10 ar10 lo, ex, 0, 0)) rfl ?_
        refine to_zasR (i := n11) (h' := gh S a b sc10 (uA ar10 43 (upd (ar10 43) n11 (vp_nar .boolean 0))) lo) rfl rfl (by omega) (by omega) rfl ?_
        have hI12 := ia_43 (g := (upd (ar10 43) n11 (vp_nar .boolean 0))) hI10
        have hF12 := fr_a (c := 43) (g := (upd (ar10 43) n11 (vp_nar .boolean 0))) hF10 (by decide)
        refine to_n 1 (fr' := (69, [(0, .ref 39), (1, .int (nI k1)), (2, .int (nI n11)), (3, .int (nI i))], [.ref 39], gh S a b sc10 (uA ar10 43 (upd (ar10 43) n11 (vp_nar .boolean 0))) lo, ex, 0, 0)) rfl ?_
        refine to_get rfl rfl rfl rfl ?_
        refine to_n 1 (fr' := (73, [(0, .ref 39), (1, .int (nI k1)), (2, .int (nI n11)), (3, .int (nI i))], [.int (nI n11), .ref 44], gh S a b sc10 (uA ar10 43 (upd (ar10 43) n11 (vp_nar .boolean 0))) lo, ex, 0, 0)) rfl ?_
        refine to_ialR (i := n11) (v := (((uA ar10 43 (upd (ar10 43) n11 (vp_nar .boolean 0))) 44) n11)) rfl (by decide) rfl (by omega) (by omega) rfl ?_
        refine to_n 2 (fr' := (78, [(0, .ref 39), (1, .int (nI k1)), (2, .int (((uA ar10 43 (upd (ar10 43) n11 (vp_nar .boolean 0))) 44) n11)), (3, .int ((nI i) + 1))], [], gh S a b sc10 (uA ar10 43 (upd (ar10 43) n11 (vp_nar .boolean 0))) lo, ex, 0, 0)) rfl ?_
        rw [nI_1 i]
        refine to_n 1 (fr' := (42, [(0, .ref 39), (1, .int (nI k1)), (2, .int (((uA ar10 43 (upd (ar10 43) n11 (vp_nar .boolean 0))) 44) n11)), (3, .int (nI (i + 1)))], [], gh S a b sc10 (uA ar10 43 (upd (ar10 43) n11 (vp_nar .boolean 0))) lo, ex, 0, 0)) rfl ?_
        exact ih (((uA ar10 43 (upd (ar10 43) n11 (vp_nar .boolean 0))) 44) n11) (i + 1) sc10 (uA ar10 43 (upd (ar10 43) n11 (vp_nar .boolean 0))) (by omega) hI12 hF12
      · refine to_cp (q := 2) (M1 := an_X0_has) (rest := []) rfl rfl (by decide) rfl ⟨_, rfl⟩ (sf_has_0  w11 d) (fun x11 hx11 => ?_)
        obtain rfl := hx11
        refine to_eq (fr' := (58, [(0, .ref 39), (1, .int (nI k1)), (2, .int y), (3, .int (nI i))], [.int 0], gh S a b sc10 ar10 lo, ex, 0, 0)) rfl ?_
        refine to_n 2 (fr' := (82, [(0, .ref 39), (1, .int (nI k1)), (2, .int y), (3, .int (nI i))], [.ref 39], gh S a b sc10 ar10 lo, ex, 0, 0)) rfl ?_
        refine to_get rfl rfl rfl rfl ?_
        refine to_n 1 (fr' := (86, [(0, .ref 39), (1, .int (nI k1)), (2, .int y), (3, .int (nI i))], [.int (nI k1), .ref 45], gh S a b sc10 ar10 lo, ex, 0, 0)) rfl ?_
        refine to_ialR (i := k1) (v := ((ar10 45) k1)) rfl (by decide) rfl (by omega) (by omega) rfl ?_
        refine to_n 3 (fr' := (91, [(0, .ref 39), (1, .int (nI k1)), (2, .int y), (3, .int ((ar10 45) k1)), (4, .int 0)], [], gh S a b sc10 ar10 lo, ex, 0, 0)) rfl ?_
        exact c91 (S - 0) y ((ar10 45) k1) 0 sc10 ar10 (by omega) hI10 hF10
  refine to_n 1 (fr' := (1, [(0, .ref 39), (1, .int (nI k1))], [.ref 39], gh S a b sc ar lo, ex, 0, 0)) rfl ?_
  obtain ⟨n13, hn13, e13⟩ := iv_s3901 hI
  refine to_getR (v := (nI n13)) rfl rfl rfl rfl e13 ?_
  refine to_n 1 (fr' := (5, [(0, .ref 39), (1, .int (nI k1))], [.ref 39, .int (nI n13)], gh S a b sc ar lo, ex, 0, 0)) rfl ?_
  refine to_get rfl rfl rfl rfl ?_
  refine to_len rfl (by decide) rfl (by decide) ?_
  refine to_eq (fr' := (9, [(0, .ref 39), (1, .int (nI k1))], [.int (nI 4), .int (nI n13)], gh S a b sc ar lo, ex, 0, 0)) rfl ?_
  refine to_nc_lt (t := 13) (x := n13) (y := 4) rfl (by omega) (by omega) (fun q14 => ?_) (fun q14 => ?_)
  · refine to_n 1 (fr' := (14, [(0, .ref 39), (1, .int (nI k1))], [.ref 39], gh S a b sc ar lo, ex, 0, 0)) rfl ?_
    refine to_get rfl rfl rfl rfl ?_
    refine to_n 1 (fr' := (18, [(0, .ref 39), (1, .int (nI k1))], [.ref 39, .ref 40], gh S a b sc ar lo, ex, 0, 0)) rfl ?_
    refine to_getR (v := (nI n13)) rfl rfl rfl rfl e13 ?_
    refine to_n 1 (fr' := (22, [(0, .ref 39), (1, .int (nI k1))], [.int (nI k1), .int (nI n13), .ref 40], gh S a b sc ar lo, ex, 0, 0)) rfl ?_
    refine to_iasR (i := n13) (h' := gh S a b sc (uA ar 40 (upd (ar 40) n13 (nI k1))) lo) rfl rfl (by omega) (by omega) rfl ?_
    have hI15 := ia_40 (g := (upd (ar 40) n13 (nI k1))) hI
    have hF15 := fr_a (c := 40) (g := (upd (ar 40) n13 (nI k1))) hF (by decide)
    refine to_n 2 (fr' := (25, [(0, .ref 39), (1, .int (nI k1))], [.ref 39, .ref 39], gh S a b sc (uA ar 40 (upd (ar 40) n13 (nI k1))) lo, ex, 0, 0)) rfl ?_
    refine to_getR (v := (nI n13)) rfl rfl rfl rfl e13 ?_
    refine to_n 1 (fr' := (29, [(0, .ref 39), (1, .int (nI k1))], [.int 1, .int (nI n13), .ref 39], gh S a b sc (uA ar 40 (upd (ar 40) n13 (nI k1))) lo, ex, 0, 0)) rfl ?_
    refine to_addN (x := n13) (y := 1) rfl ?_
    refine to_putR (h' := gh S a b (upd sc 3901 (nI (n13 + 1))) (uA ar 40 (upd (ar 40) n13 (nI k1))) lo) rfl rfl rfl (Nat.le_of_ble_eq_true rfl) rfl rfl ?_
    have hI16 := ip_3901 (v := (nI (n13 + 1))) hI15 (rl_n (n := (n13 + 1)) (by omega))
    have hF16 := fr_s (k := 3901) (v := (nI (n13 + 1))) hF15 (by decide)
    refine to_n 1 (fr' := (34, [(0, .ref 39), (1, .int (nI k1))], [.ref 39], gh S a b (upd sc 3901 (nI (n13 + 1))) (uA ar 40 (upd (ar 40) n13 (nI k1))) lo, ex, 0, 0)) rfl ?_
    refine to_get rfl rfl rfl rfl ?_
    refine to_n 1 (fr' := (38, [(0, .ref 39), (1, .int (nI k1))], [.int (nI k1), .ref 44], gh S a b (upd sc 3901 (nI (n13 + 1))) (uA ar 40 (upd (ar 40) n13 (nI k1))) lo, ex, 0, 0)) rfl ?_
    refine to_ialR (i := k1) (v := (((uA ar 40 (upd (ar 40) n13 (nI k1))) 44) k1)) rfl (by decide) rfl (by omega) (by omega) rfl ?_
    refine to_n 3 (fr' := (42, [(0, .ref 39), (1, .int (nI k1)), (2, .int (((uA ar 40 (upd (ar 40) n13 (nI k1))) 44) k1)), (3, .int 0)], [], gh S a b (upd sc 3901 (nI (n13 + 1))) (uA ar 40 (upd (ar 40) n13 (nI k1))) lo, ex, 0, 0)) rfl ?_
    exact c42 (S - 0) (((uA ar 40 (upd (ar 40) n13 (nI k1))) 44) k1) 0 (upd sc 3901 (nI (n13 + 1))) (uA ar 40 (upd (ar 40) n13 (nI k1))) (by omega) hI16 hF16
  · exact to_rt (i := .return_) (tg := []) rfl rfl ⟨_, _, ⟨hI, hF⟩, rfl⟩
set_option maxRecDepth 20000 in
theorem sf_X2_plan {X : Nat × (Nat → Int32)} {S a b : Nat} {sc : Nat → Int32} {ar : Nat → Nat → Int32} {lo : Nat → Int64} {ex : Bool} (hW : Wd S a b) (hI : Iv S sc ar) (x1 : Int32) (d : Nat)  : cv X S a b (d + 5) 20 [.ref 39, .int x1] sc ar lo ex (fun sc' ar' => Iv S sc' ar' ∧ Fr [3901, 3911, 3912] [40, 41, 42, 43, 44, 45, 46, 47] sc ar sc' ar') := by
  obtain ⟨ha1, ha8, hb1, hb8, hab, hS1, hS⟩ := id hW
  refine cv_of (M := an_X2_plan) rfl (Nat.le_of_ble_eq_true rfl) ?_
  have hF : Fr [3901, 3911, 3912] [40, 41, 42, 43, 44, 45, 46, 47] sc ar sc ar := fr_0
  refine to_eq (fr' := (0, [(0, .ref 39), (1, .int x1)], [], gh S a b sc ar lo, ex, 0, 0)) rfl ?_
  have c114 : ∀ m : Nat, ∀ (r : Nat) (i : Nat) (sc1 : Nat → Int32) (ar1 : Nat → Nat → Int32), i + m = S → r ≤ 4 → Iv S sc1 ar1 → Fr [3901, 3911, 3912] [40, 41, 42, 43, 44, 45, 46, 47] sc ar sc1 ar1 → ag_To X (d + 4) an_X2_plan (114, [(0, .ref 39), (1, .int x1), (2, .int (nI r)), (3, .int (nI i))], [], gh S a b sc1 ar1 lo, ex, 0, 0) (qv S a b lo ex (fun sc' ar' => Iv S sc' ar' ∧ Fr [3901, 3911, 3912] [40, 41, 42, 43, 44, 45, 46, 47] sc ar sc' ar')) := by
    intro m
    induction m with
    | zero =>
      intro r i sc1 ar1 hm hc114_0 hI1 hF1
      refine to_n 2 (fr' := (116, [(0, .ref 39), (1, .int x1), (2, .int (nI r)), (3, .int (nI i))], [.ref 39, .int (nI i)], gh S a b sc1 ar1 lo, ex, 0, 0)) rfl ?_
      refine to_get rfl rfl rfl rfl ?_
      refine to_nc_ge_T (t := 149) (x := i) (y := S) rfl (by omega) (by omega) (by omega) ?_
      exact to_rt (i := .return_) (tg := []) rfl rfl ⟨_, _, ⟨hI1, hF1⟩, rfl⟩
    | succ m ih =>
      intro r i sc1 ar1 hm hc114_0 hI1 hF1
      refine to_n 2 (fr' := (116, [(0, .ref 39), (1, .int x1), (2, .int (nI r)), (3, .int (nI i))], [.ref 39, .int (nI i)], gh S a b sc1 ar1 lo, ex, 0, 0)) rfl ?_
      refine to_get rfl rfl rfl rfl ?_
      refine to_nc_ge_F (t := 149) (x := i) (y := S) rfl (by omega) (by omega) (by omega) ?_
      refine to_n 1 (fr' := (123, [(0, .ref 39), (1, .int x1), (2, .int (nI r)), (3, .int (nI i))], [.ref 39], gh S a b sc1 ar1 lo, ex, 0, 0)) rfl ?_
      obtain ⟨n2, hn2, e2⟩ := iv_s3901 hI1
      refine to_getR (v := (nI n2)) rfl rfl rfl rfl e2 ?_
      refine to_n 1 (fr' := (127, [(0, .ref 39), (1, .int x1), (2, .int (nI r)), (3, .int (nI i))], [.int (nI r), .int (nI n2)], gh S a b sc1 ar1 lo, ex, 0, 0)) rfl ?_
      refine to_nc_ge (t := 149) (x := n2) (y := r) rfl (by omega) (by omega) (fun q3 => ?_) (fun q3 => ?_)
      · exact to_rt (i := .return_) (tg := []) rfl rfl ⟨_, _, ⟨hI1, hF1⟩, rfl⟩
      · refine to_n 2 (fr' := (132, [(0, .ref 39), (1, .int x1), (2, .int (nI r)), (3, .int (nI i))], [.int (nI i), .ref 39], gh S a b sc1 ar1 lo, ex, 0, 0)) rfl ?_
        refine to_ci (q := 27) (M1 := an_X2_isInSomeBreak) (rest := []) rfl rfl (by decide) rfl ⟨_, rfl⟩ (sf_X2_isInSomeBreak hW hI1 i (by omega) d) (fun x4 sc4 ar4 hx4 => ?_)
        obtain ⟨hI4, hG4, hx4⟩ := hx4
        have hF4 := fr_t hF1 hG4 (by decide) (by decide)
        obtain ⟨n4, hn4, rfl⟩ := hx4
        refine to_eq (fr' := (135, [(0, .ref 39), (1, .int x1), (2, .int (nI r)), (3, .int (nI i))], [.int (nI n4)], gh S a b sc4 ar4 lo, ex, 0, 0)) rfl ?_
        refine to_nf_eq (t := 143) (x := n4) rfl (by omega) (fun q5 => ?_) (fun q5 => ?_)
        · refine to_n 1 (fr' := (146, [(0, .ref 39), (1, .int x1), (2, .int (nI r)), (3, .int ((nI i) + 1))], [], gh S a b sc4 ar4 lo, ex, 0, 0)) rfl ?_
          rw [nI_1 i]
          refine to_n 1 (fr' := (114, [(0, .ref 39), (1, .int x1), (2, .int (nI r)), (3, .int (nI (i + 1)))], [], gh S a b sc4 ar4 lo, ex, 0, 0)) rfl ?_
          exact ih r (i + 1) sc4 ar4 (by omega) (by omega) hI4 hF4
        · refine to_n 2 (fr' := (140, [(0, .ref 39), (1, .int x1), (2, .int (nI r)), (3, .int (nI i))], [.int (nI i), .ref 39], gh S a b sc4 ar4 lo, ex, 0, 0)) rfl ?_
          refine to_cv (q := 28) (M1 := an_X2_keep) (rest := []) rfl rfl (by decide) rfl ⟨_, rfl⟩ (sf_X2_keep hW hI4 i (by omega) (d + 2)) (fun sc6 ar6 hx6 => ?_)
          obtain ⟨hI6, hG6⟩ := hx6
          have hF6 := fr_t hF4 hG6 (by decide) (by decide)
          refine to_eq (fr' := (143, [(0, .ref 39), (1, .int x1), (2, .int (nI r)), (3, .int (nI i))], [], gh S a b sc6 ar6 lo, ex, 0, 0)) rfl ?_
          refine to_n 1 (fr' := (146, [(0, .ref 39), (1, .int x1), (2, .int (nI r)), (3, .int ((nI i) + 1))], [], gh S a b sc6 ar6 lo, ex, 0, 0)) rfl ?_
          rw [nI_1 i]
          refine to_n 1 (fr' := (114, [(0, .ref 39), (1, .int x1), (2, .int (nI r)), (3, .int (nI (i + 1)))], [], gh S a b sc6 ar6 lo, ex, 0, 0)) rfl ?_
          exact ih r (i + 1) sc6 ar6 (by omega) (by omega) hI6 hF6
  have c94 : ∀ m : Nat, ∀ (i : Nat) (sc7 : Nat → Int32) (ar7 : Nat → Nat → Int32), i + m = 4 → Iv S sc7 ar7 → Fr [3901, 3911, 3912] [40, 41, 42, 43, 44, 45, 46, 47] sc ar sc7 ar7 → ag_To X (d + 4) an_X2_plan (94, [(0, .ref 39), (1, .int x1), (2, .int (nI i))], [], gh S a b sc7 ar7 lo, ex, 0, 0) (qv S a b lo ex (fun sc' ar' => Iv S sc' ar' ∧ Fr [3901, 3911, 3912] [40, 41, 42, 43, 44, 45, 46, 47] sc ar sc' ar')) := by
    intro m
    induction m with
    | zero =>
      intro i sc7 ar7 hm hI7 hF7
      refine to_n 2 (fr' := (96, [(0, .ref 39), (1, .int x1), (2, .int (nI i))], [.int 4, .int (nI i)], gh S a b sc7 ar7 lo, ex, 0, 0)) rfl ?_
      refine to_nc_ge_T (t := 112) (x := i) (y := 4) rfl (by omega) (by omega) (by omega) ?_
      refine to_n 2 (fr' := (114, [(0, .ref 39), (1, .int x1), (2, .int (nI i)), (3, .int 0)], [], gh S a b sc7 ar7 lo, ex, 0, 0)) rfl ?_
      exact c114 (S - 0) i 0 sc7 ar7 (by omega) (by omega) hI7 hF7
    | succ m ih =>
      intro i sc7 ar7 hm hI7 hF7
      refine to_n 2 (fr' := (96, [(0, .ref 39), (1, .int x1), (2, .int (nI i))], [.int 4, .int (nI i)], gh S a b sc7 ar7 lo, ex, 0, 0)) rfl ?_
      refine to_nc_ge_F (t := 112) (x := i) (y := 4) rfl (by omega) (by omega) (by omega) ?_
      refine to_n 1 (fr' := (100, [(0, .ref 39), (1, .int x1), (2, .int (nI i))], [.ref 39], gh S a b sc7 ar7 lo, ex, 0, 0)) rfl ?_
      refine to_ci (q := 21) (M1 := an_X2_addRow) (rest := []) rfl rfl (by decide) rfl ⟨_, rfl⟩ (sf_X2_addRow hW hI7  d) (fun x8 sc8 ar8 hx8 => ?_)
      obtain ⟨hI8, hG8, hx8⟩ := hx8
      have hF8 := fr_t hF7 hG8 (by decide) (by decide)
      obtain ⟨n8, hn8, rfl⟩ := hx8
      refine to_eq (fr' := (103, [(0, .ref 39), (1, .int x1), (2, .int (nI i))], [.int (nI n8)], gh S a b sc8 ar8 lo, ex, 0, 0)) rfl ?_
      refine to_nf_eq (t := 112) (x := n8) rfl (by omega) (fun q9 => ?_) (fun q9 => ?_)
      · refine to_n 2 (fr' := (114, [(0, .ref 39), (1, .int x1), (2, .int (nI i)), (3, .int 0)], [], gh S a b sc8 ar8 lo, ex, 0, 0)) rfl ?_
        exact c114 (S - 0) i 0 sc8 ar8 (by omega) (by omega) hI8 hF8
      · refine to_n 1 (fr' := (109, [(0, .ref 39), (1, .int x1), (2, .int ((nI i) + 1))], [], gh S a b sc8 ar8 lo, ex, 0, 0)) rfl ?_
        rw [nI_1 i]
        refine to_n 1 (fr' := (94, [(0, .ref 39), (1, .int x1), (2, .int (nI (i + 1)))], [], gh S a b sc8 ar8 lo, ex, 0, 0)) rfl ?_
        exact ih (i + 1) sc8 ar8 (by omega) hI8 hF8
  have c12 : ∀ m : Nat, ∀ (i : Nat) (sc10 : Nat → Int32) (ar10 : Nat → Nat → Int32), i + m = S → Iv S sc10 ar10 → Fr [3901, 3911, 3912] [40, 41, 42, 43, 44, 45, 46, 47] sc ar sc10 ar10 → ag_To X (d + 4) an_X2_plan (12, [(0, .ref 39), (1, .int x1), (2, .int (nI i))], [], gh S a b sc10 ar10 lo, ex, 0, 0) (qv S a b lo ex (fun sc' ar' => Iv S sc' ar' ∧ Fr [3901, 3911, 3912] [40, 41, 42, 43, 44, 45, 46, 47] sc ar sc' ar')) := by
    intro m
    induction m with
    | zero =>
      intro i sc10 ar10 hm hI10 hF10
      refine to_n 2 (fr' := (14, [(0, .ref 39), (1, .int x1), (2, .int (nI i))], [.ref 39, .int (nI i)], gh S a b sc10 ar10 lo, ex, 0, 0)) rfl ?_
      refine to_get rfl rfl rfl rfl ?_
      refine to_nc_ge_T (t := 92) (x := i) (y := S) rfl (by omega) (by omega) (by omega) ?_
      refine to_n 2 (fr' := (94, [(0, .ref 39), (1, .int x1), (2, .int 0)], [], gh S a b sc10 ar10 lo, ex, 0, 0)) rfl ?_
      exact c94 (4 - 0) 0 sc10 ar10 (by omega) hI10 hF10
    | succ m ih =>
      intro i sc10 ar10 hm hI10 hF10
      have c79 : ∀  (sc11 : Nat → Int32) (ar11 : Nat → Nat → Int32), Iv S sc11 ar11 → Fr [3901, 3911, 3912] [40, 41, 42, 43, 44, 45, 46, 47] sc ar sc11 ar11 → ag_To X (d + 4) an_X2_plan (79, [(0, .ref 39), (1, .int x1), (2, .int (nI i))], [], gh S a b sc11 ar11 lo, ex, 0, 0) (qv S a b lo ex (fun sc' ar' => Iv S sc' ar' ∧ Fr [3901, 3911, 3912] [40, 41, 42, 43, 44, 45, 46, 47] sc ar sc' ar')) := by
        intro sc11 ar11 hI11 hF11
        refine to_n 1 (fr' := (80, [(0, .ref 39), (1, .int x1), (2, .int (nI i))], [.ref 39], gh S a b sc11 ar11 lo, ex, 0, 0)) rfl ?_
        refine to_get rfl rfl rfl rfl ?_
        refine to_n 2 (fr' := (85, [(0, .ref 39), (1, .int x1), (2, .int (nI i))], [.int 0, .int (nI i), .ref 43], gh S a b sc11 ar11 lo, ex, 0, 0)) rfl ?_
        refine to_zasR (i := i) (h' := gh S a b sc11 (uA ar11 43 (upd (ar11 43) i (vp_nar .boolean 0))) lo) rfl rfl (by omega) (by omega) rfl ?_
        have hI12 := ia_43 (g := (upd (ar11 43) i (vp_nar .boolean 0))) hI11
        have hF12 := fr_a (c := 43) (g := (upd (ar11 43) i (vp_nar .boolean 0))) hF11 (by decide)
        refine to_n 1 (fr' := (89, [(0, .ref 39), (1, .int x1), (2, .int ((nI i) + 1))], [], gh S a b sc11 (uA ar11 43 (upd (ar11 43) i (vp_nar .boolean 0))) lo, ex, 0, 0)) rfl ?_
        rw [nI_1 i]
        refine to_n 1 (fr' := (12, [(0, .ref 39), (1, .int x1), (2, .int (nI (i + 1)))], [], gh S a b sc11 (uA ar11 43 (upd (ar11 43) i (vp_nar .boolean 0))) lo, ex, 0, 0)) rfl ?_
        exact ih (i + 1) sc11 (uA ar11 43 (upd (ar11 43) i (vp_nar .boolean 0))) (by omega) hI12 hF12
      refine to_n 2 (fr' := (14, [(0, .ref 39), (1, .int x1), (2, .int (nI i))], [.ref 39, .int (nI i)], gh S a b sc10 ar10 lo, ex, 0, 0)) rfl ?_
      refine to_get rfl rfl rfl rfl ?_
      refine to_nc_ge_F (t := 92) (x := i) (y := S) rfl (by omega) (by omega) (by omega) ?_
      refine to_n 1 (fr' := (21, [(0, .ref 39), (1, .int x1), (2, .int (nI i))], [.ref 39], gh S a b sc10 ar10 lo, ex, 0, 0)) rfl ?_
      refine to_get rfl rfl rfl rfl ?_
      refine to_n 2 (fr' := (26, [(0, .ref 39), (1, .int x1), (2, .int (nI i))], [.ref 39, .int (nI i), .ref 41], gh S a b sc10 ar10 lo, ex, 0, 0)) rfl ?_
      refine to_get rfl rfl rfl rfl ?_
      refine to_get rfl rfl rfl rfl ?_
      refine to_n 1 (fr' := (33, [(0, .ref 39), (1, .int x1), (2, .int (nI i))], [.int (nI i), .ref 5, .int (nI i), .ref 41], gh S a b sc10 ar10 lo, ex, 0, 0)) rfl ?_
      refine to_ialR (i := i) (v := ((ar10 5) i)) rfl (by decide) rfl (by omega) (by omega) rfl ?_
      refine to_if_ne (t := 46) rfl (fun q13 => ?_) (fun q13 => ?_)
      · refine to_n 1 (fr' := (47, [(0, .ref 39), (1, .int x1), (2, .int (nI i))], [.int 0, .int (nI i), .ref 41], gh S a b sc10 ar10 lo, ex, 0, 0)) rfl ?_
        refine to_zasR (i := i) (h' := gh S a b sc10 (uA ar10 41 (upd (ar10 41) i (vp_nar .boolean 0))) lo) rfl rfl (by omega) (by omega) rfl ?_
        have hI14 := ia_41 (g := (upd (ar10 41) i (vp_nar .boolean 0))) hI10
        have hF14 := fr_a (c := 41) (g := (upd (ar10 41) i (vp_nar .boolean 0))) hF10 (by decide)
        refine to_n 1 (fr' := (49, [(0, .ref 39), (1, .int x1), (2, .int (nI i))], [.ref 39], gh S a b sc10 (uA ar10 41 (upd (ar10 41) i (vp_nar .boolean 0))) lo, ex, 0, 0)) rfl ?_
        refine to_get rfl rfl rfl rfl ?_
        refine to_n 2 (fr' := (54, [(0, .ref 39), (1, .int x1), (2, .int (nI i))], [.ref 39, .int (nI i), .ref 42], gh S a b sc10 (uA ar10 41 (upd (ar10 41) i (vp_nar .boolean 0))) lo, ex, 0, 0)) rfl ?_
        refine to_get rfl rfl rfl rfl ?_
        refine to_n 1 (fr' := (58, [(0, .ref 39), (1, .int x1), (2, .int (nI i))], [.int (nI i), .ref 41, .int (nI i), .ref 42], gh S a b sc10 (uA ar10 41 (upd (ar10 41) i (vp_nar .boolean 0))) lo, ex, 0, 0)) rfl ?_
        refine to_zalR (i := i) (v := ((upd (ar10 41) i (vp_nar .boolean 0)) i)) rfl rfl (by omega) (by omega) rfl ?_
        refine to_if_eq (t := 77) rfl (fun q15 => ?_) (fun q15 => ?_)
        · refine to_n 1 (fr' := (78, [(0, .ref 39), (1, .int x1), (2, .int (nI i))], [.int 0, .int (nI i), .ref 42], gh S a b sc10 (uA ar10 41 (upd (ar10 41) i (vp_nar .boolean 0))) lo, ex, 0, 0)) rfl ?_
          refine to_zasR (i := i) (h' := gh S a b sc10 (uA (uA ar10 41 (upd (ar10 41) i (vp_nar .boolean 0))) 42 (upd ((uA ar10 41 (upd (ar10 41) i (vp_nar .boolean 0))) 42) i (vp_nar .boolean 0))) lo) rfl rfl (by omega) (by omega) rfl ?_
          have hI16 := ia_42 (g := (upd ((uA ar10 41 (upd (ar10 41) i (vp_nar .boolean 0))) 42) i (vp_nar .boolean 0))) hI14
          have hF16 := fr_a (c := 42) (g := (upd ((uA ar10 41 (upd (ar10 41) i (vp_nar .boolean 0))) 42) i (vp_nar .boolean 0))) hF14 (by decide)
          exact c79 sc10 (uA (uA ar10 41 (upd (ar10 41) i (vp_nar .boolean 0))) 42 (upd ((uA ar10 41 (upd (ar10 41) i (vp_nar .boolean 0))) 42) i (vp_nar .boolean 0))) hI16 hF16
        · refine to_n 1 (fr' := (63, [(0, .ref 39), (1, .int x1), (2, .int (nI i))], [.ref 39, .int (nI i), .ref 42], gh S a b sc10 (uA ar10 41 (upd (ar10 41) i (vp_nar .boolean 0))) lo, ex, 0, 0)) rfl ?_
          refine to_get rfl rfl rfl rfl ?_
          refine to_n 1 (fr' := (67, [(0, .ref 39), (1, .int x1), (2, .int (nI i))], [.int (nI i), .ref 1, .int (nI i), .ref 42], gh S a b sc10 (uA ar10 41 (upd (ar10 41) i (vp_nar .boolean 0))) lo, ex, 0, 0)) rfl ?_
          refine to_cp (q := 8) (M1 := an_X0_burningBeside) (rest := [.int (nI i), .ref 42]) rfl rfl (by decide) rfl ⟨_, rfl⟩ (sf_X0_burningBeside hW hI14 i (by omega) (d + 1)) (fun x17 hx17 => ?_)
          obtain ⟨n17, hn17, rfl⟩ := hx17
          refine to_eq (fr' := (70, [(0, .ref 39), (1, .int x1), (2, .int (nI i))], [.int (nI n17), .int (nI i), .ref 42], gh S a b sc10 (uA ar10 41 (upd (ar10 41) i (vp_nar .boolean 0))) lo, ex, 0, 0)) rfl ?_
          refine to_nf_eq (t := 77) (x := n17) rfl (by omega) (fun q18 => ?_) (fun q18 => ?_)
          · refine to_n 1 (fr' := (78, [(0, .ref 39), (1, .int x1), (2, .int (nI i))], [.int 0, .int (nI i), .ref 42], gh S a b sc10 (uA ar10 41 (upd (ar10 41) i (vp_nar .boolean 0))) lo, ex, 0, 0)) rfl ?_
            refine to_zasR (i := i) (h' := gh S a b sc10 (uA (uA ar10 41 (upd (ar10 41) i (vp_nar .boolean 0))) 42 (upd ((uA ar10 41 (upd (ar10 41) i (vp_nar .boolean 0))) 42) i (vp_nar .boolean 0))) lo) rfl rfl (by omega) (by omega) rfl ?_
            have hI19 := ia_42 (g := (upd ((uA ar10 41 (upd (ar10 41) i (vp_nar .boolean 0))) 42) i (vp_nar .boolean 0))) hI14
            have hF19 := fr_a (c := 42) (g := (upd ((uA ar10 41 (upd (ar10 41) i (vp_nar .boolean 0))) 42) i (vp_nar .boolean 0))) hF14 (by decide)
            exact c79 sc10 (uA (uA ar10 41 (upd (ar10 41) i (vp_nar .boolean 0))) 42 (upd ((uA ar10 41 (upd (ar10 41) i (vp_nar .boolean 0))) 42) i (vp_nar .boolean 0))) hI19 hF19
          · refine to_n 2 (fr' := (78, [(0, .ref 39), (1, .int x1), (2, .int (nI i))], [.int 1, .int (nI i), .ref 42], gh S a b sc10 (uA ar10 41 (upd (ar10 41) i (vp_nar .boolean 0))) lo, ex, 0, 0)) rfl ?_
            refine to_zasR (i := i) (h' := gh S a b sc10 (uA (uA ar10 41 (upd (ar10 41) i (vp_nar .boolean 0))) 42 (upd ((uA ar10 41 (upd (ar10 41) i (vp_nar .boolean 0))) 42) i (vp_nar .boolean 1))) lo) rfl rfl (by omega) (by omega) rfl ?_
            have hI20 := ia_42 (g := (upd ((uA ar10 41 (upd (ar10 41) i (vp_nar .boolean 0))) 42) i (vp_nar .boolean 1))) hI14
            have hF20 := fr_a (c := 42) (g := (upd ((uA ar10 41 (upd (ar10 41) i (vp_nar .boolean 0))) 42) i (vp_nar .boolean 1))) hF14 (by decide)
            exact c79 sc10 (uA (uA ar10 41 (upd (ar10 41) i (vp_nar .boolean 0))) 42 (upd ((uA ar10 41 (upd (ar10 41) i (vp_nar .boolean 0))) 42) i (vp_nar .boolean 1))) hI20 hF20
      · refine to_n 2 (fr' := (39, [(0, .ref 39), (1, .int x1), (2, .int (nI i))], [.int x1, .int (nI i), .int (nI i), .ref 41], gh S a b sc10 ar10 lo, ex, 0, 0)) rfl ?_
        refine to_ic_eq (t := 46) rfl (fun q21 => ?_) (fun q21 => ?_)
        · refine to_n 1 (fr' := (47, [(0, .ref 39), (1, .int x1), (2, .int (nI i))], [.int 0, .int (nI i), .ref 41], gh S a b sc10 ar10 lo, ex, 0, 0)) rfl ?_
          refine to_zasR (i := i) (h' := gh S a b sc10 (uA ar10 41 (upd (ar10 41) i (vp_nar .boolean 0))) lo) rfl rfl (by omega) (by omega) rfl ?_
          have hI22 := ia_41 (g := (upd (ar10 41) i (vp_nar .boolean 0))) hI10
          have hF22 := fr_a (c := 41) (g := (upd (ar10 41) i (vp_nar .boolean 0))) hF10 (by decide)
          refine to_n 1 (fr' := (49, [(0, .ref 39), (1, .int x1), (2, .int (nI i))], [.ref 39], gh S a b sc10 (uA ar10 41 (upd (ar10 41) i (vp_nar .boolean 0))) lo, ex, 0, 0)) rfl ?_
          refine to_get rfl rfl rfl rfl ?_
          refine to_n 2 (fr' := (54, [(0, .ref 39), (1, .int x1), (2, .int (nI i))], [.ref 39, .int (nI i), .ref 42], gh S a b sc10 (uA ar10 41 (upd (ar10 41) i (vp_nar .boolean 0))) lo, ex, 0, 0)) rfl ?_
          refine to_get rfl rfl rfl rfl ?_
          refine to_n 1 (fr' := (58, [(0, .ref 39), (1, .int x1), (2, .int (nI i))], [.int (nI i), .ref 41, .int (nI i), .ref 42], gh S a b sc10 (uA ar10 41 (upd (ar10 41) i (vp_nar .boolean 0))) lo, ex, 0, 0)) rfl ?_
          refine to_zalR (i := i) (v := ((upd (ar10 41) i (vp_nar .boolean 0)) i)) rfl rfl (by omega) (by omega) rfl ?_
          refine to_if_eq (t := 77) rfl (fun q23 => ?_) (fun q23 => ?_)
          · refine to_n 1 (fr' := (78, [(0, .ref 39), (1, .int x1), (2, .int (nI i))], [.int 0, .int (nI i), .ref 42], gh S a b sc10 (uA ar10 41 (upd (ar10 41) i (vp_nar .boolean 0))) lo, ex, 0, 0)) rfl ?_
            refine to_zasR (i := i) (h' := gh S a b sc10 (uA (uA ar10 41 (upd (ar10 41) i (vp_nar .boolean 0))) 42 (upd ((uA ar10 41 (upd (ar10 41) i (vp_nar .boolean 0))) 42) i (vp_nar .boolean 0))) lo) rfl rfl (by omega) (by omega) rfl ?_
            have hI24 := ia_42 (g := (upd ((uA ar10 41 (upd (ar10 41) i (vp_nar .boolean 0))) 42) i (vp_nar .boolean 0))) hI22
            have hF24 := fr_a (c := 42) (g := (upd ((uA ar10 41 (upd (ar10 41) i (vp_nar .boolean 0))) 42) i (vp_nar .boolean 0))) hF22 (by decide)
            exact c79 sc10 (uA (uA ar10 41 (upd (ar10 41) i (vp_nar .boolean 0))) 42 (upd ((uA ar10 41 (upd (ar10 41) i (vp_nar .boolean 0))) 42) i (vp_nar .boolean 0))) hI24 hF24
          · refine to_n 1 (fr' := (63, [(0, .ref 39), (1, .int x1), (2, .int (nI i))], [.ref 39, .int (nI i), .ref 42], gh S a b sc10 (uA ar10 41 (upd (ar10 41) i (vp_nar .boolean 0))) lo, ex, 0, 0)) rfl ?_
            refine to_get rfl rfl rfl rfl ?_
            refine to_n 1 (fr' := (67, [(0, .ref 39), (1, .int x1), (2, .int (nI i))], [.int (nI i), .ref 1, .int (nI i), .ref 42], gh S a b sc10 (uA ar10 41 (upd (ar10 41) i (vp_nar .boolean 0))) lo, ex, 0, 0)) rfl ?_
            refine to_cp (q := 8) (M1 := an_X0_burningBeside) (rest := [.int (nI i), .ref 42]) rfl rfl (by decide) rfl ⟨_, rfl⟩ (sf_X0_burningBeside hW hI22 i (by omega) (d + 1)) (fun x25 hx25 => ?_)
            obtain ⟨n25, hn25, rfl⟩ := hx25
            refine to_eq (fr' := (70, [(0, .ref 39), (1, .int x1), (2, .int (nI i))], [.int (nI n25), .int (nI i), .ref 42], gh S a b sc10 (uA ar10 41 (upd (ar10 41) i (vp_nar .boolean 0))) lo, ex, 0, 0)) rfl ?_
            refine to_nf_eq (t := 77) (x := n25) rfl (by omega) (fun q26 => ?_) (fun q26 => ?_)
            · refine to_n 1 (fr' := (78, [(0, .ref 39), (1, .int x1), (2, .int (nI i))], [.int 0, .int (nI i), .ref 42], gh S a b sc10 (uA ar10 41 (upd (ar10 41) i (vp_nar .boolean 0))) lo, ex, 0, 0)) rfl ?_
              refine to_zasR (i := i) (h' := gh S a b sc10 (uA (uA ar10 41 (upd (ar10 41) i (vp_nar .boolean 0))) 42 (upd ((uA ar10 41 (upd (ar10 41) i (vp_nar .boolean 0))) 42) i (vp_nar .boolean 0))) lo) rfl rfl (by omega) (by omega) rfl ?_
              have hI27 := ia_42 (g := (upd ((uA ar10 41 (upd (ar10 41) i (vp_nar .boolean 0))) 42) i (vp_nar .boolean 0))) hI22
              have hF27 := fr_a (c := 42) (g := (upd ((uA ar10 41 (upd (ar10 41) i (vp_nar .boolean 0))) 42) i (vp_nar .boolean 0))) hF22 (by decide)
              exact c79 sc10 (uA (uA ar10 41 (upd (ar10 41) i (vp_nar .boolean 0))) 42 (upd ((uA ar10 41 (upd (ar10 41) i (vp_nar .boolean 0))) 42) i (vp_nar .boolean 0))) hI27 hF27
            · refine to_n 2 (fr' := (78, [(0, .ref 39), (1, .int x1), (2, .int (nI i))], [.int 1, .int (nI i), .ref 42], gh S a b sc10 (uA ar10 41 (upd (ar10 41) i (vp_nar .boolean 0))) lo, ex, 0, 0)) rfl ?_
              refine to_zasR (i := i) (h' := gh S a b sc10 (uA (uA ar10 41 (upd (ar10 41) i (vp_nar .boolean 0))) 42 (upd ((uA ar10 41 (upd (ar10 41) i (vp_nar .boolean 0))) 42) i (vp_nar .boolean 1))) lo) rfl rfl (by omega) (by omega) rfl ?_
              have hI28 := ia_42 (g := (upd ((uA ar10 41 (upd (ar10 41) i (vp_nar .boolean 0))) 42) i (vp_nar .boolean 1))) hI22
              have hF28 := fr_a (c := 42) (g := (upd ((uA ar10 41 (upd (ar10 41) i (vp_nar .boolean 0))) 42) i (vp_nar .boolean 1))) hF22 (by decide)
              exact c79 sc10 (uA (uA ar10 41 (upd (ar10 41) i (vp_nar .boolean 0))) 42 (upd ((uA ar10 41 (upd (ar10 41) i (vp_nar .boolean 0))) 42) i (vp_nar .boolean 1))) hI28 hF28
        · refine to_n 2 (fr' := (47, [(0, .ref 39), (1, .int x1), (2, .int (nI i))], [.int 1, .int (nI i), .ref 41], gh S a b sc10 ar10 lo, ex, 0, 0)) rfl ?_
          refine to_zasR (i := i) (h' := gh S a b sc10 (uA ar10 41 (upd (ar10 41) i (vp_nar .boolean 1))) lo) rfl rfl (by omega) (by omega) rfl ?_
          have hI29 := ia_41 (g := (upd (ar10 41) i (vp_nar .boolean 1))) hI10
          have hF29 := fr_a (c := 41) (g := (upd (ar10 41) i (vp_nar .boolean 1))) hF10 (by decide)
          refine to_n 1 (fr' := (49, [(0, .ref 39), (1, .int x1), (2, .int (nI i))], [.ref 39], gh S a b sc10 (uA ar10 41 (upd (ar10 41) i (vp_nar .boolean 1))) lo, ex, 0, 0)) rfl ?_
          refine to_get rfl rfl rfl rfl ?_
          refine to_n 2 (fr' := (54, [(0, .ref 39), (1, .int x1), (2, .int (nI i))], [.ref 39, .int (nI i), .ref 42], gh S a b sc10 (uA ar10 41 (upd (ar10 41) i (vp_nar .boolean 1))) lo, ex, 0, 0)) rfl ?_
          refine to_get rfl rfl rfl rfl ?_
          refine to_n 1 (fr' := (58, [(0, .ref 39), (1, .int x1), (2, .int (nI i))], [.int (nI i), .ref 41, .int (nI i), .ref 42], gh S a b sc10 (uA ar10 41 (upd (ar10 41) i (vp_nar .boolean 1))) lo, ex, 0, 0)) rfl ?_
          refine to_zalR (i := i) (v := ((upd (ar10 41) i (vp_nar .boolean 1)) i)) rfl rfl (by omega) (by omega) rfl ?_
          refine to_if_eq (t := 77) rfl (fun q30 => ?_) (fun q30 => ?_)
          · refine to_n 1 (fr' := (78, [(0, .ref 39), (1, .int x1), (2, .int (nI i))], [.int 0, .int (nI i), .ref 42], gh S a b sc10 (uA ar10 41 (upd (ar10 41) i (vp_nar .boolean 1))) lo, ex, 0, 0)) rfl ?_
            refine to_zasR (i := i) (h' := gh S a b sc10 (uA (uA ar10 41 (upd (ar10 41) i (vp_nar .boolean 1))) 42 (upd ((uA ar10 41 (upd (ar10 41) i (vp_nar .boolean 1))) 42) i (vp_nar .boolean 0))) lo) rfl rfl (by omega) (by omega) rfl ?_
            have hI31 := ia_42 (g := (upd ((uA ar10 41 (upd (ar10 41) i (vp_nar .boolean 1))) 42) i (vp_nar .boolean 0))) hI29
            have hF31 := fr_a (c := 42) (g := (upd ((uA ar10 41 (upd (ar10 41) i (vp_nar .boolean 1))) 42) i (vp_nar .boolean 0))) hF29 (by decide)
            exact c79 sc10 (uA (uA ar10 41 (upd (ar10 41) i (vp_nar .boolean 1))) 42 (upd ((uA ar10 41 (upd (ar10 41) i (vp_nar .boolean 1))) 42) i (vp_nar .boolean 0))) hI31 hF31
          · refine to_n 1 (fr' := (63, [(0, .ref 39), (1, .int x1), (2, .int (nI i))], [.ref 39, .int (nI i), .ref 42], gh S a b sc10 (uA ar10 41 (upd (ar10 41) i (vp_nar .boolean 1))) lo, ex, 0, 0)) rfl ?_
            refine to_get rfl rfl rfl rfl ?_
            refine to_n 1 (fr' := (67, [(0, .ref 39), (1, .int x1), (2, .int (nI i))], [.int (nI i), .ref 1, .int (nI i), .ref 42], gh S a b sc10 (uA ar10 41 (upd (ar10 41) i (vp_nar .boolean 1))) lo, ex, 0, 0)) rfl ?_
            refine to_cp (q := 8) (M1 := an_X0_burningBeside) (rest := [.int (nI i), .ref 42]) rfl rfl (by decide) rfl ⟨_, rfl⟩ (sf_X0_burningBeside hW hI29 i (by omega) (d + 1)) (fun x32 hx32 => ?_)
            obtain ⟨n32, hn32, rfl⟩ := hx32
            refine to_eq (fr' := (70, [(0, .ref 39), (1, .int x1), (2, .int (nI i))], [.int (nI n32), .int (nI i), .ref 42], gh S a b sc10 (uA ar10 41 (upd (ar10 41) i (vp_nar .boolean 1))) lo, ex, 0, 0)) rfl ?_
            refine to_nf_eq (t := 77) (x := n32) rfl (by omega) (fun q33 => ?_) (fun q33 => ?_)
            · refine to_n 1 (fr' := (78, [(0, .ref 39), (1, .int x1), (2, .int (nI i))], [.int 0, .int (nI i), .ref 42], gh S a b sc10 (uA ar10 41 (upd (ar10 41) i (vp_nar .boolean 1))) lo, ex, 0, 0)) rfl ?_
              refine to_zasR (i := i) (h' := gh S a b sc10 (uA (uA ar10 41 (upd (ar10 41) i (vp_nar .boolean 1))) 42 (upd ((uA ar10 41 (upd (ar10 41) i (vp_nar .boolean 1))) 42) i (vp_nar .boolean 0))) lo) rfl rfl (by omega) (by omega) rfl ?_
              have hI34 := ia_42 (g := (upd ((uA ar10 41 (upd (ar10 41) i (vp_nar .boolean 1))) 42) i (vp_nar .boolean 0))) hI29
              have hF34 := fr_a (c := 42) (g := (upd ((uA ar10 41 (upd (ar10 41) i (vp_nar .boolean 1))) 42) i (vp_nar .boolean 0))) hF29 (by decide)
              exact c79 sc10 (uA (uA ar10 41 (upd (ar10 41) i (vp_nar .boolean 1))) 42 (upd ((uA ar10 41 (upd (ar10 41) i (vp_nar .boolean 1))) 42) i (vp_nar .boolean 0))) hI34 hF34
            · refine to_n 2 (fr' := (78, [(0, .ref 39), (1, .int x1), (2, .int (nI i))], [.int 1, .int (nI i), .ref 42], gh S a b sc10 (uA ar10 41 (upd (ar10 41) i (vp_nar .boolean 1))) lo, ex, 0, 0)) rfl ?_
              refine to_zasR (i := i) (h' := gh S a b sc10 (uA (uA ar10 41 (upd (ar10 41) i (vp_nar .boolean 1))) 42 (upd ((uA ar10 41 (upd (ar10 41) i (vp_nar .boolean 1))) 42) i (vp_nar .boolean 1))) lo) rfl rfl (by omega) (by omega) rfl ?_
              have hI35 := ia_42 (g := (upd ((uA ar10 41 (upd (ar10 41) i (vp_nar .boolean 1))) 42) i (vp_nar .boolean 1))) hI29
              have hF35 := fr_a (c := 42) (g := (upd ((uA ar10 41 (upd (ar10 41) i (vp_nar .boolean 1))) 42) i (vp_nar .boolean 1))) hF29 (by decide)
              exact c79 sc10 (uA (uA ar10 41 (upd (ar10 41) i (vp_nar .boolean 1))) 42 (upd ((uA ar10 41 (upd (ar10 41) i (vp_nar .boolean 1))) 42) i (vp_nar .boolean 1))) hI35 hF35
  refine to_n 2 (fr' := (2, [(0, .ref 39), (1, .int x1)], [.int x1, .ref 39], gh S a b sc ar lo, ex, 0, 0)) rfl ?_
  refine to_putR (h' := gh S a b (upd sc 3912 x1) ar lo) rfl rfl rfl (Nat.le_of_ble_eq_true rfl) rfl rfl ?_
  have hI36 := ip_3912 (v := x1) hI 
  have hF36 := fr_s (k := 3912) (v := x1) hF (by decide)
  refine to_n 2 (fr' := (7, [(0, .ref 39), (1, .int x1)], [.int 0, .ref 39], gh S a b (upd sc 3912 x1) ar lo, ex, 0, 0)) rfl ?_
  refine to_putR (h' := gh S a b (upd (upd sc 3912 x1) 3901 0) ar lo) rfl rfl rfl (Nat.le_of_ble_eq_true rfl) rfl rfl ?_
  have hI37 := ip_3901 (v := 0) hI36 (rl_n (n := 0) (by omega))
  have hF37 := fr_s (k := 3901) (v := 0) hF36 (by decide)
  refine to_n 2 (fr' := (12, [(0, .ref 39), (1, .int x1), (2, .int 0)], [], gh S a b (upd (upd sc 3912 x1) 3901 0) ar lo, ex, 0, 0)) rfl ?_
  exact c12 (S - 0) 0 (upd (upd sc 3912 x1) 3901 0) ar (by omega) hI37 hF37
