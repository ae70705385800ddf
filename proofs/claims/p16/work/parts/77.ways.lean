/-! Ways, FireBreak -/
set_option maxRecDepth 20000 in
theorem sf_X8_spread {X : Nat × (Nat → Int32)} {S a b : Nat} {sc : Nat → Int32} {ar : Nat → Nat → Int32} {lo : Nat → Int64} {ex : Bool} (hW : Wd S a b) (hI : Iv S sc ar) (k1 : Nat) (hk1 : k1 < S) (g : Nat) (hg : g < S) (c : Nat) (hc : c < 1000) (t : zT) (hg : Gd S a b ar) (hz : ZSt S t sc ar) (d : Nat)  : cv X S a b (d + 2) 71 [.ref 36, .int (nI k1), .int (nI g), .int (nI c)] sc ar lo ex (fun sc' ar' => Iv S sc' ar' ∧ Fr [3603] [37, 38] sc ar sc' ar' ∧ ZSt S (zsp S a b g (ar 5) c k1 4 t) sc' ar') := by
  obtain ⟨ha1, ha8, hb1, hb8, hab, hS1, hS⟩ := id hW
  refine cv_of (M := an_X8_spread) rfl (Nat.le_of_ble_eq_true rfl) ?_
  have hF : Fr [3603] [37, 38] sc ar sc ar := fr_0
  refine to_eq (fr' := (0, [(0, .ref 36), (1, .int (nI k1)), (2, .int (nI g)), (3, .int (nI c))], [], gh S a b sc ar lo, ex, 0, 0)) rfl ?_
  have c3 : ∀ m : Nat, ∀ (i : Nat) (sc1 : Nat → Int32) (ar1 : Nat → Nat → Int32), i + m = 4 → ZSt S (zsp S a b g (ar 5) c k1 i t) sc1 ar1 → Iv S sc1 ar1 → Fr [3603] [37, 38] sc ar sc1 ar1 → ag_To X (d + 1) an_X8_spread (3, [(0, .ref 36), (1, .int (nI k1)), (2, .int (nI g)), (3, .int (nI c)), (4, .int (nI i))], [], gh S a b sc1 ar1 lo, ex, 0, 0) (qv S a b lo ex (fun sc' ar' => Iv S sc' ar' ∧ Fr [3603] [37, 38] sc ar sc' ar' ∧ ZSt S (zsp S a b g (ar 5) c k1 4 t) sc' ar')) := by
    intro m
    induction m with
    | zero =>
      intro i sc1 ar1 hm hc3_0 hI1 hF1
      refine to_n 2 (fr' := (6, [(0, .ref 36), (1, .int (nI k1)), (2, .int (nI g)), (3, .int (nI c)), (4, .int (nI i))], [.int 4, .int (nI i)], gh S a b sc1 ar1 lo, ex, 0, 0)) rfl ?_
      refine to_nc_ge_T (t := 115) (x := i) (y := 4) rfl (by omega) (by omega) (by omega) ?_
      exact to_rt (i := .return_) (tg := []) rfl rfl ⟨_, _, ⟨hI1, hF1, (by have e9 : i = 4 := (by omega); rw [e9] at hc3_0; exact hc3_0)⟩, rfl⟩
    | succ m ih =>
      intro i sc1 ar1 hm hc3_0 hI1 hF1
      have c109 : ∀  (sc2 : Nat → Int32) (ar2 : Nat → Nat → Int32), ZSt S (zsp S a b g (ar 5) c k1 (i + 1) t) sc2 ar2 → Iv S sc2 ar2 → Fr [3603] [37, 38] sc ar sc2 ar2 → ag_To X (d + 1) an_X8_spread (109, [(0, .ref 36), (1, .int (nI k1)), (2, .int (nI g)), (3, .int (nI c)), (4, .int (nI i))], [], gh S a b sc2 ar2 lo, ex, 0, 0) (qv S a b lo ex (fun sc' ar' => Iv S sc' ar' ∧ Fr [3603] [37, 38] sc ar sc' ar' ∧ ZSt S (zsp S a b g (ar 5) c k1 4 t) sc' ar')) := by
        intro sc2 ar2 hc109_0 hI2 hF2
        refine to_n 1 (fr' := (112, [(0, .ref 36), (1, .int (nI k1)), (2, .int (nI g)), (3, .int (nI c)), (4, .int ((nI i) + 1))], [], gh S a b sc2 ar2 lo, ex, 0, 0)) rfl ?_
        rw [nI_1 i]
        refine to_n 1 (fr' := (3, [(0, .ref 36), (1, .int (nI k1)), (2, .int (nI g)), (3, .int (nI c)), (4, .int (nI (i + 1)))], [], gh S a b sc2 ar2 lo, ex, 0, 0)) rfl ?_
        exact ih (i + 1) sc2 ar2 (by omega) hc109_0 hI2 hF2
      refine to_n 2 (fr' := (6, [(0, .ref 36), (1, .int (nI k1)), (2, .int (nI g)), (3, .int (nI c)), (4, .int (nI i))], [.int 4, .int (nI i)], gh S a b sc1 ar1 lo, ex, 0, 0)) rfl ?_
      refine to_nc_ge_F (t := 115) (x := i) (y := 4) rfl (by omega) (by omega) (by omega) ?_
      refine to_n 1 (fr' := (10, [(0, .ref 36), (1, .int (nI k1)), (2, .int (nI g)), (3, .int (nI c)), (4, .int (nI i))], [.ref 36], gh S a b sc1 ar1 lo, ex, 0, 0)) rfl ?_
      refine to_get rfl rfl rfl rfl ?_
      refine to_get rfl rfl rfl rfl ?_
      refine to_n 2 (fr' := (18, [(0, .ref 36), (1, .int (nI k1)), (2, .int (nI g)), (3, .int (nI c)), (4, .int (nI i))], [.int (nI k1), .int 4, .ref 4], gh S a b sc1 ar1 lo, ex, 0, 0)) rfl ?_
      refine to_mulN (x := 4) (y := k1) rfl ?_
      refine to_n 1 (fr' := (21, [(0, .ref 36), (1, .int (nI k1)), (2, .int (nI g)), (3, .int (nI c)), (4, .int (nI i))], [.int (nI i), .int (nI (4 * k1)), .ref 4], gh S a b sc1 ar1 lo, ex, 0, 0)) rfl ?_
      refine to_addN (x := (4 * k1)) (y := i) rfl ?_
      refine to_ialR (i := ((4 * k1) + i)) (v := (ar 4 ((4 * k1) + i))) rfl (by decide) rfl (by omega) (by omega) (congrFun (hF1.2 4 (by decide)) ((4 * k1) + i)) ?_
      refine to_n 2 (fr' := (26, [(0, .ref 36), (1, .int (nI k1)), (2, .int (nI g)), (3, .int (nI c)), (4, .int (nI i)), (5, .int (ar 4 ((4 * k1) + i)))], [.ref 36], gh S a b sc1 ar1 lo, ex, 0, 0)) rfl ?_
      refine to_get rfl rfl rfl rfl ?_
      refine to_n 1 (fr' := (31, [(0, .ref 36), (1, .int (nI k1)), (2, .int (nI g)), (3, .int (nI c)), (4, .int (nI i)), (5, .int (ar 4 ((4 * k1) + i)))], [.int (ar 4 ((4 * k1) + i)), .ref 1], gh S a b sc1 ar1 lo, ex, 0, 0)) rfl ?_
      rcases has_or (x := (ar 4 ((4 * k1) + i))) (B := S) (by omega) with ⟨n3, hn3, e3⟩ | w3
      · rw [e3]
        refine to_cp (q := 2) (M1 := an_X0_has) (rest := []) rfl rfl (by decide) rfl ⟨_, rfl⟩ (sf_has_1 (n := n3)  (by omega) d) (fun x3 hx3 => ?_)
        obtain rfl := hx3
        refine to_eq (fr' := (34, [(0, .ref 36), (1, .int (nI k1)), (2, .int (nI g)), (3, .int (nI c)), (4, .int (nI i)), (5, .int (nI n3))], [.int 1], gh S a b sc1 ar1 lo, ex, 0, 0)) rfl ?_
        refine to_n 3 (fr' := (40, [(0, .ref 36), (1, .int (nI k1)), (2, .int (nI g)), (3, .int (nI c)), (4, .int (nI i)), (5, .int (nI n3))], [.int (nI g), .int (nI n3)], gh S a b sc1 ar1 lo, ex, 0, 0)) rfl ?_
        refine to_nc_eq (t := 109) (x := n3) (y := g) rfl (by omega) (by omega) (fun q4 => ?_) (fun q4 => ?_)
        · refine to_lv (lv := [(0, .ref 36), (1, .int (nI k1)), (2, .int (nI g)), (3, .int (nI c)), (4, .int (nI i))]) rfl ⟨rfl, rfl, rfl, rfl, rfl, trivial⟩ ?_
          exact c109 sc1 ar1 (by show ZSt S (zs1 S g (ar 5) c (znn a b k1 i) (zsp S a b g (ar 5) c k1 i t)) _ _; exact zs1_no hc3_0 (fun w => w.2.1 ((zsd hW hg hk1 (by omega) hn3 e3).trans q4))) hI1 hF1
        · refine to_n 1 (fr' := (44, [(0, .ref 36), (1, .int (nI k1)), (2, .int (nI g)), (3, .int (nI c)), (4, .int (nI i)), (5, .int (nI n3))], [.ref 36], gh S a b sc1 ar1 lo, ex, 0, 0)) rfl ?_
          refine to_get rfl rfl rfl rfl ?_
          refine to_n 1 (fr' := (49, [(0, .ref 36), (1, .int (nI k1)), (2, .int (nI g)), (3, .int (nI c)), (4, .int (nI i)), (5, .int (nI n3))], [.int (nI n3), .ref 37], gh S a b sc1 ar1 lo, ex, 0, 0)) rfl ?_
          refine to_ialR (i := n3) (v := ((ar1 37) n3)) rfl (by decide) rfl (by omega) (by omega) rfl ?_
          refine to_n 1 (fr' := (51, [(0, .ref 36), (1, .int (nI k1)), (2, .int (nI g)), (3, .int (nI c)), (4, .int (nI i)), (5, .int (nI n3))], [.int (-1), .int ((ar1 37) n3)], gh S a b sc1 ar1 lo, ex, 0, 0)) rfl ?_
          refine to_ic_ne (t := 109) rfl (fun q5 => ?_) (fun q5 => ?_)
          · refine to_lv (lv := [(0, .ref 36), (1, .int (nI k1)), (2, .int (nI g)), (3, .int (nI c)), (4, .int (nI i))]) rfl ⟨rfl, rfl, rfl, rfl, rfl, trivial⟩ ?_
            exact c109 sc1 ar1 (by show ZSt S (zs1 S g (ar 5) c (znn a b k1 i) (zsp S a b g (ar 5) c k1 i t)) _ _; exact zs1_no hc3_0 (fun w => w.2.2.1 (by rw [(zsd hW hg hk1 (by omega) hn3 e3)]; exact zs_set hc3_0 hn3 q5))) hI1 hF1
          · refine to_n 1 (fr' := (55, [(0, .ref 36), (1, .int (nI k1)), (2, .int (nI g)), (3, .int (nI c)), (4, .int (nI i)), (5, .int (nI n3))], [.ref 36], gh S a b sc1 ar1 lo, ex, 0, 0)) rfl ?_
            refine to_get rfl rfl rfl rfl ?_
            refine to_get rfl rfl rfl rfl ?_
            refine to_n 1 (fr' := (63, [(0, .ref 36), (1, .int (nI k1)), (2, .int (nI g)), (3, .int (nI c)), (4, .int (nI i)), (5, .int (nI n3))], [.int (nI n3), .ref 5], gh S a b sc1 ar1 lo, ex, 0, 0)) rfl ?_
            refine to_ialR (i := n3) (v := (ar 5 n3)) rfl (by decide) rfl (by omega) (by omega) (congrFun (hF1.2 5 (by decide)) n3) ?_
            refine to_n 1 (fr' := (65, [(0, .ref 36), (1, .int (nI k1)), (2, .int (nI g)), (3, .int (nI c)), (4, .int (nI i)), (5, .int (nI n3))], [.int 1, .int (ar 5 n3)], gh S a b sc1 ar1 lo, ex, 0, 0)) rfl ?_
            refine to_ic_eq (t := 109) rfl (fun q6 => ?_) (fun q6 => ?_)
            · refine to_lv (lv := [(0, .ref 36), (1, .int (nI k1)), (2, .int (nI g)), (3, .int (nI c)), (4, .int (nI i))]) rfl ⟨rfl, rfl, rfl, rfl, rfl, trivial⟩ ?_
              exact c109 sc1 ar1 (by show ZSt S (zs1 S g (ar 5) c (znn a b k1 i) (zsp S a b g (ar 5) c k1 i t)) _ _; exact zs1_no hc3_0 (fun w => w.2.2.2 (by rw [(zsd hW hg hk1 (by omega) hn3 e3)]; exact q6))) hI1 hF1
            · obtain ⟨n7, hn7, e7⟩ := iv_s3603 hI1
              have hroom := zs_room hS hc3_0 hn3 q5 e7 (by omega)
              refine to_n 1 (fr' := (69, [(0, .ref 36), (1, .int (nI k1)), (2, .int (nI g)), (3, .int (nI c)), (4, .int (nI i)), (5, .int (nI n3))], [.ref 36], gh S a b sc1 ar1 lo, ex, 0, 0)) rfl ?_
              refine to_getR (v := (nI n7)) rfl rfl rfl rfl e7 ?_
              refine to_n 1 (fr' := (73, [(0, .ref 36), (1, .int (nI k1)), (2, .int (nI g)), (3, .int (nI c)), (4, .int (nI i)), (5, .int (nI n3))], [.ref 36, .int (nI n7)], gh S a b sc1 ar1 lo, ex, 0, 0)) rfl ?_
              refine to_get rfl rfl rfl rfl ?_
              refine to_len rfl (by decide) rfl (by decide) ?_
              refine to_eq (fr' := (77, [(0, .ref 36), (1, .int (nI k1)), (2, .int (nI g)), (3, .int (nI c)), (4, .int (nI i)), (5, .int (nI n3))], [.int (nI S), .int (nI n7)], gh S a b sc1 ar1 lo, ex, 0, 0)) rfl ?_
              refine to_nc_ge_F (t := 109) (x := n7) (y := S) rfl (by omega) (by omega) (by omega) ?_
              refine to_n 1 (fr' := (81, [(0, .ref 36), (1, .int (nI k1)), (2, .int (nI g)), (3, .int (nI c)), (4, .int (nI i)), (5, .int (nI n3))], [.ref 36], gh S a b sc1 ar1 lo, ex, 0, 0)) rfl ?_
              refine to_get rfl rfl rfl rfl ?_
              refine to_n 2 (fr' := (87, [(0, .ref 36), (1, .int (nI k1)), (2, .int (nI g)), (3, .int (nI c)), (4, .int (nI i)), (5, .int (nI n3))], [.int (nI c), .int (nI n3), .ref 37], gh S a b sc1 ar1 lo, ex, 0, 0)) rfl ?_
              refine to_iasR (i := n3) (h' := gh S a b sc1 (uA ar1 37 (upd (ar1 37) n3 (nI c))) lo) rfl rfl (by omega) (by omega) rfl ?_
              have hI8 := ia_37 (g := (upd (ar1 37) n3 (nI c))) hI1
              have hF8 := fr_a (c := 37) (g := (upd (ar1 37) n3 (nI c))) hF1 (by decide)
              refine to_n 1 (fr' := (89, [(0, .ref 36), (1, .int (nI k1)), (2, .int (nI g)), (3, .int (nI c)), (4, .int (nI i)), (5, .int (nI n3))], [.ref 36], gh S a b sc1 (uA ar1 37 (upd (ar1 37) n3 (nI c))) lo, ex, 0, 0)) rfl ?_
              refine to_get rfl rfl rfl rfl ?_
              refine to_n 1 (fr' := (93, [(0, .ref 36), (1, .int (nI k1)), (2, .int (nI g)), (3, .int (nI c)), (4, .int (nI i)), (5, .int (nI n3))], [.ref 36, .ref 38], gh S a b sc1 (uA ar1 37 (upd (ar1 37) n3 (nI c))) lo, ex, 0, 0)) rfl ?_
              refine to_getR (v := (nI n7)) rfl rfl rfl rfl e7 ?_
              refine to_n 1 (fr' := (98, [(0, .ref 36), (1, .int (nI k1)), (2, .int (nI g)), (3, .int (nI c)), (4, .int (nI i)), (5, .int (nI n3))], [.int (nI n3), .int (nI n7), .ref 38], gh S a b sc1 (uA ar1 37 (upd (ar1 37) n3 (nI c))) lo, ex, 0, 0)) rfl ?_
              refine to_iasR (i := n7) (h' := gh S a b sc1 (uA (uA ar1 37 (upd (ar1 37) n3 (nI c))) 38 (upd ((uA ar1 37 (upd (ar1 37) n3 (nI c))) 38) n7 (nI n3))) lo) rfl rfl (by omega) (by omega) rfl ?_
              have hI9 := ia_38 (i := n7) (v := (nI n3)) hI8 (rl_n (n := n3) (by omega))
              have hF9 := fr_a (c := 38) (g := (upd ((uA ar1 37 (upd (ar1 37) n3 (nI c))) 38) n7 (nI n3))) hF8 (by decide)
              refine to_n 2 (fr' := (101, [(0, .ref 36), (1, .int (nI k1)), (2, .int (nI g)), (3, .int (nI c)), (4, .int (nI i)), (5, .int (nI n3))], [.ref 36, .ref 36], gh S a b sc1 (uA (uA ar1 37 (upd (ar1 37) n3 (nI c))) 38 (upd ((uA ar1 37 (upd (ar1 37) n3 (nI c))) 38) n7 (nI n3))) lo, ex, 0, 0)) rfl ?_
              refine to_getR (v := (nI n7)) rfl rfl rfl rfl e7 ?_
              refine to_n 1 (fr' := (105, [(0, .ref 36), (1, .int (nI k1)), (2, .int (nI g)), (3, .int (nI c)), (4, .int (nI i)), (5, .int (nI n3))], [.int 1, .int (nI n7), .ref 36], gh S a b sc1 (uA (uA ar1 37 (upd (ar1 37) n3 (nI c))) 38 (upd ((uA ar1 37 (upd (ar1 37) n3 (nI c))) 38) n7 (nI n3))) lo, ex, 0, 0)) rfl ?_
              refine to_addN (x := n7) (y := 1) rfl ?_
              refine to_putR (h' := gh S a b (upd sc1 3603 (nI (n7 + 1))) (uA (uA ar1 37 (upd (ar1 37) n3 (nI c))) 38 (upd ((uA ar1 37 (upd (ar1 37) n3 (nI c))) 38) n7 (nI n3))) lo) rfl rfl rfl (Nat.le_of_ble_eq_true rfl) rfl rfl ?_
              have hI10 := ip_3603 (v := (nI (n7 + 1))) hI9 (rl_n (n := (n7 + 1)) (by omega))
              have hF10 := fr_s (k := 3603) (v := (nI (n7 + 1))) hF9 (by decide)
              refine to_lv (lv := [(0, .ref 36), (1, .int (nI k1)), (2, .int (nI g)), (3, .int (nI c)), (4, .int (nI i))]) rfl ⟨rfl, rfl, rfl, rfl, rfl, trivial⟩ ?_
              exact c109 (upd sc1 3603 (nI (n7 + 1))) (uA (uA ar1 37 (upd (ar1 37) n3 (nI c))) 38 (upd ((uA ar1 37 (upd (ar1 37) n3 (nI c))) 38) n7 (nI n3))) (by show ZSt S (zs1 S g (ar 5) c (znn a b k1 i) (zsp S a b g (ar 5) c k1 i t)) _ _; rw [(zsd hW hg hk1 (by omega) hn3 e3)]; exact zs1_put hc hc3_0 hn3 q4 q5 q6 hroom.2) hI10 hF10
      · refine to_cp (q := 2) (M1 := an_X0_has) (rest := []) rfl rfl (by decide) rfl ⟨_, rfl⟩ (sf_has_0  w3 d) (fun x3 hx3 => ?_)
        obtain rfl := hx3
        refine to_eq (fr' := (34, [(0, .ref 36), (1, .int (nI k1)), (2, .int (nI g)), (3, .int (nI c)), (4, .int (nI i)), (5, .int (ar 4 ((4 * k1) + i)))], [.int 0], gh S a b sc1 ar1 lo, ex, 0, 0)) rfl ?_
        refine to_n 1 (fr' := (109, [(0, .ref 36), (1, .int (nI k1)), (2, .int (nI g)), (3, .int (nI c)), (4, .int (nI i)), (5, .int (ar 4 ((4 * k1) + i)))], [], gh S a b sc1 ar1 lo, ex, 0, 0)) rfl ?_
        refine to_lv (lv := [(0, .ref 36), (1, .int (nI k1)), (2, .int (nI g)), (3, .int (nI c)), (4, .int (nI i))]) rfl ⟨rfl, rfl, rfl, rfl, rfl, trivial⟩ ?_
        exact c109 sc1 ar1 (by show ZSt S (zs1 S g (ar 5) c (znn a b k1 i) (zsp S a b g (ar 5) c k1 i t)) _ _; exact zs1_no hc3_0 (fun w => zsd0 hW hg hk1 (by omega) w3 w.1)) hI1 hF1
  refine to_n 2 (fr' := (3, [(0, .ref 36), (1, .int (nI k1)), (2, .int (nI g)), (3, .int (nI c)), (4, .int 0)], [], gh S a b sc ar lo, ex, 0, 0)) rfl ?_
  exact c3 (4 - 0) 0 sc ar (by omega) hz hI hF
set_option maxRecDepth 20000 in
theorem sf_X8_reckonSteps {X : Nat × (Nat → Int32)} {S a b : Nat} {sc : Nat → Int32} {ar : Nat → Nat → Int32} {lo : Nat → Int64} {ex : Bool} (hW : Wd S a b) (hI : Iv S sc ar) (k1 : Nat) (hk1 : k1 < S) (hg : Gd S a b ar) (d : Nat)  : cv X S a b (d + 3) 70 [.ref 36, .int (nI k1)] sc ar lo ex (fun sc' ar' => Iv S sc' ar' ∧ Fr [3603] [37, 38] sc ar sc' ar' ∧ ZP S a k1 (ar 5) (ar' 37)) := by
  obtain ⟨ha1, ha8, hb1, hb8, hab, hS1, hS⟩ := id hW
  refine cv_of (M := an_X8_reckonSteps) rfl (Nat.le_of_ble_eq_true rfl) ?_
  have hF : Fr [3603] [37, 38] sc ar sc ar := fr_0
  refine to_eq (fr' := (0, [(0, .ref 36), (1, .int (nI k1))], [], gh S a b sc ar lo, ex, 0, 0)) rfl ?_
  have c22 : ∀ m : Nat, ∀ (i : Nat) (sc1 : Nat → Int32) (ar1 : Nat → Nat → Int32), S ≤ i + m → ZL S a b k1 (ar 5) i sc1 ar1 → i ≤ S → Iv S sc1 ar1 → Fr [3603] [37, 38] sc ar sc1 ar1 → ag_To X (d + 2) an_X8_reckonSteps (22, [(0, .ref 36), (1, .int (nI k1)), (2, .int (nI i))], [], gh S a b sc1 ar1 lo, ex, 0, 0) (qv S a b lo ex (fun sc' ar' => Iv S sc' ar' ∧ Fr [3603] [37, 38] sc ar sc' ar' ∧ ZP S a k1 (ar 5) (ar' 37))) := by
    intro m
    induction m with
    | zero =>
      intro i sc1 ar1 hm hc22_0 hc22_1 hI1 hF1
      refine to_n 2 (fr' := (24, [(0, .ref 36), (1, .int (nI k1)), (2, .int (nI i))], [.ref 36, .int (nI i)], gh S a b sc1 ar1 lo, ex, 0, 0)) rfl ?_
      obtain ⟨n2, hn2, e2⟩ := iv_s3603 hI1
      refine to_getR (v := (nI n2)) rfl rfl rfl rfl e2 ?_
      refine to_nc_ge (t := 66) (x := i) (y := n2) rfl (by omega) (by omega) (fun q3 => ?_) (fun q3 => ?_)
      · exact to_rt (i := .return_) (tg := []) rfl rfl ⟨_, _, ⟨hI1, hF1, (zl_e hW hc22_0 e2 (by omega) (by omega))⟩, rfl⟩
      · refine to_n 2 (fr' := (32, [(0, .ref 36), (1, .int (nI k1)), (2, .int (nI i))], [.ref 36, .int (nI i)], gh S a b sc1 ar1 lo, ex, 0, 0)) rfl ?_
        refine to_get rfl rfl rfl rfl ?_
        refine to_len rfl (by decide) rfl (by decide) ?_
        refine to_eq (fr' := (36, [(0, .ref 36), (1, .int (nI k1)), (2, .int (nI i))], [.int (nI S), .int (nI i)], gh S a b sc1 ar1 lo, ex, 0, 0)) rfl ?_
        refine to_nc_ge_T (t := 66) (x := i) (y := S) rfl (by omega) (by omega) (by omega) ?_
        exact to_rt (i := .return_) (tg := []) rfl rfl ⟨_, _, ⟨hI1, hF1, (zl_e hW hc22_0 e2 (by omega) (by omega))⟩, rfl⟩
    | succ m ih =>
      intro i sc1 ar1 hm hc22_0 hc22_1 hI1 hF1
      obtain ⟨T, hT, hB⟩ := id hc22_0
      refine to_n 2 (fr' := (24, [(0, .ref 36), (1, .int (nI k1)), (2, .int (nI i))], [.ref 36, .int (nI i)], gh S a b sc1 ar1 lo, ex, 0, 0)) rfl ?_
      obtain ⟨n4, hn4, e4⟩ := iv_s3603 hI1
      refine to_getR (v := (nI n4)) rfl rfl rfl rfl e4 ?_
      refine to_nc_ge (t := 66) (x := i) (y := n4) rfl (by omega) (by omega) (fun q5 => ?_) (fun q5 => ?_)
      · exact to_rt (i := .return_) (tg := []) rfl rfl ⟨_, _, ⟨hI1, hF1, (zl_e hW hc22_0 e4 (by omega) (by omega))⟩, rfl⟩
      · refine to_n 2 (fr' := (32, [(0, .ref 36), (1, .int (nI k1)), (2, .int (nI i))], [.ref 36, .int (nI i)], gh S a b sc1 ar1 lo, ex, 0, 0)) rfl ?_
        refine to_get rfl rfl rfl rfl ?_
        refine to_len rfl (by decide) rfl (by decide) ?_
        refine to_eq (fr' := (36, [(0, .ref 36), (1, .int (nI k1)), (2, .int (nI i))], [.int (nI S), .int (nI i)], gh S a b sc1 ar1 lo, ex, 0, 0)) rfl ?_
        refine to_nc_ge (t := 66) (x := i) (y := S) rfl (by omega) (by omega) (fun q6 => ?_) (fun q6 => ?_)
        · exact to_rt (i := .return_) (tg := []) rfl rfl ⟨_, _, ⟨hI1, hF1, (zl_e hW hc22_0 e4 (by omega) (by omega))⟩, rfl⟩
        · refine to_n 1 (fr' := (40, [(0, .ref 36), (1, .int (nI k1)), (2, .int (nI i))], [.ref 36], gh S a b sc1 ar1 lo, ex, 0, 0)) rfl ?_
          refine to_get rfl rfl rfl rfl ?_
          refine to_n 1 (fr' := (44, [(0, .ref 36), (1, .int (nI k1)), (2, .int (nI i))], [.int (nI i), .ref 38], gh S a b sc1 ar1 lo, ex, 0, 0)) rfl ?_
          obtain ⟨n7, hn7, e7⟩ := iv_a38 hI1 i
          refine to_ialR (i := i) (v := (nI n7)) rfl (by decide) rfl (by omega) (by omega) e7 ?_
          refine to_n 5 (fr' := (50, [(0, .ref 36), (1, .int (nI k1)), (2, .int (nI i)), (3, .int (nI n7))], [.ref 36, .int (nI k1), .int (nI n7), .ref 36], gh S a b sc1 ar1 lo, ex, 0, 0)) rfl ?_
          refine to_get rfl rfl rfl rfl ?_
          refine to_n 1 (fr' := (54, [(0, .ref 36), (1, .int (nI k1)), (2, .int (nI i)), (3, .int (nI n7))], [.int (nI n7), .ref 37, .int (nI k1), .int (nI n7), .ref 36], gh S a b sc1 ar1 lo, ex, 0, 0)) rfl ?_
          obtain ⟨hT6, hT7, hT8, hT9⟩ := zl_at hS hT hB e4 (by omega) (by omega) e7 (by omega)
          refine to_ialR (i := n7) (v := nI (T.1 n7)) rfl (by decide) rfl (by omega) (by omega) hT9 ?_
          refine to_n 1 (fr' := (56, [(0, .ref 36), (1, .int (nI k1)), (2, .int (nI i)), (3, .int (nI n7))], [.int 1, .int (nI (T.1 n7)), .int (nI k1), .int (nI n7), .ref 36], gh S a b sc1 ar1 lo, ex, 0, 0)) rfl ?_
          refine to_addN (x := (T.1 n7)) (y := 1) rfl ?_
          have hat := hT9
          refine to_cv (q := 71) (M1 := an_X8_spread) (rest := []) rfl rfl (by decide) rfl ⟨_, rfl⟩ (sf_X8_spread hW hI1 n7 (by omega) k1 (by omega) ((T.1 n7) + 1) (by omega) T (gd_fr hg hF1 (by decide) (by decide) (by decide)) hT d) (fun sc8 ar8 hx8 => ?_)
          obtain ⟨hI8, hG8, hx8⟩ := hx8
          have hF8 := fr_t hF1 hG8 (by decide) (by decide)
          rw [hF1.2 5 (by decide)] at hx8
          refine to_eq (fr' := (60, [(0, .ref 36), (1, .int (nI k1)), (2, .int (nI i)), (3, .int (nI n7))], [], gh S a b sc8 ar8 lo, ex, 0, 0)) rfl ?_
          refine to_n 1 (fr' := (63, [(0, .ref 36), (1, .int (nI k1)), (2, .int ((nI i) + 1)), (3, .int (nI n7))], [], gh S a b sc8 ar8 lo, ex, 0, 0)) rfl ?_
          rw [nI_1 i]
          refine to_n 1 (fr' := (22, [(0, .ref 36), (1, .int (nI k1)), (2, .int (nI (i + 1))), (3, .int (nI n7))], [], gh S a b sc8 ar8 lo, ex, 0, 0)) rfl ?_
          refine to_lv (lv := [(0, .ref 36), (1, .int (nI k1)), (2, .int (nI (i + 1)))]) rfl ⟨rfl, rfl, rfl, trivial⟩ ?_
          exact ih (i + 1) sc8 ar8 (by omega) (zl_s hW hB hT6 (by rw [hT7]; exact hx8)) (by omega) hI8 hF8
  refine to_n 1 (fr' := (1, [(0, .ref 36), (1, .int (nI k1))], [.ref 36], gh S a b sc ar lo, ex, 0, 0)) rfl ?_
  refine to_get rfl rfl rfl rfl ?_
  refine to_n 1 (fr' := (5, [(0, .ref 36), (1, .int (nI k1))], [.int (-1), .ref 37], gh S a b sc ar lo, ex, 0, 0)) rfl ?_
  refine to_fill (q := 168) (n := S) (f := (ar 37)) (rest := []) (h2 := gh S a b sc (uA ar 37 (fun j => if j < S then (-1) else (ar 37) j)) lo) rfl rfl (by decide) rfl trivial (by decide) rfl (by omega) rfl (d + 1) rfl rfl ?_
  have hI9 := ia_37 (g := (fun j => if j < S then (-1) else (ar 37) j)) hI
  have hF9 := fr_a (c := 37) (g := (fun j => if j < S then (-1) else (ar 37) j)) hF (by decide)
  refine to_eq (fr' := (8, [(0, .ref 36), (1, .int (nI k1))], [], gh S a b sc (uA ar 37 (fun j => if j < S then (-1) else (ar 37) j)) lo, ex, 0, 0)) rfl ?_
  refine to_n 2 (fr' := (10, [(0, .ref 36), (1, .int (nI k1))], [.int 0, .ref 36], gh S a b sc (uA ar 37 (fun j => if j < S then (-1) else (ar 37) j)) lo, ex, 0, 0)) rfl ?_
  refine to_putR (h' := gh S a b (upd sc 3603 0) (uA ar 37 (fun j => if j < S then (-1) else (ar 37) j)) lo) rfl rfl rfl (Nat.le_of_ble_eq_true rfl) rfl rfl ?_
  have hI10 := ip_3603 (v := 0) hI9 (rl_n (n := 0) (by omega))
  have hF10 := fr_s (k := 3603) (v := 0) hF9 (by decide)
  refine to_n 4 (fr' := (17, [(0, .ref 36), (1, .int (nI k1))], [.int 0, .int (nI k1), .int (nI k1), .ref 36], gh S a b (upd sc 3603 0) (uA ar 37 (fun j => if j < S then (-1) else (ar 37) j)) lo, ex, 0, 0)) rfl ?_
  refine to_cv (q := 71) (M1 := an_X8_spread) (rest := []) rfl rfl (by decide) rfl ⟨_, rfl⟩ (sf_X8_spread hW hI10 k1 (by omega) k1 (by omega) 0 (by omega) (fun _ => 1000, fun _ => 0, 0) (gd_fr hg hF10 (by decide) (by decide) (by decide)) (zs_0 (fun k hk => (show (fun j => if j < S then (-1) else (ar 37) j) k = -1 from if_pos hk)) rfl) d) (fun sc11 ar11 hx11 => ?_)
  obtain ⟨hI11, hG11, hx11⟩ := hx11
  have hF11 := fr_t hF10 hG11 (by decide) (by decide)
  refine to_eq (fr' := (20, [(0, .ref 36), (1, .int (nI k1))], [], gh S a b sc11 ar11 lo, ex, 0, 0)) rfl ?_
  refine to_n 2 (fr' := (22, [(0, .ref 36), (1, .int (nI k1)), (2, .int 0)], [], gh S a b sc11 ar11 lo, ex, 0, 0)) rfl ?_
  exact c22 (S - 0) 0 sc11 ar11 (by omega) (zl_0 hW hk1 hx11) (by omega) hI11 hF11
set_option maxRecDepth 20000 in
theorem sf_X8_stepTowards {X : Nat × (Nat → Int32)} {S a b : Nat} {sc : Nat → Int32} {ar : Nat → Nat → Int32} {lo : Nat → Int64} {ex : Bool} (hW : Wd S a b) (hI : Iv S sc ar) (k1 : Nat) (hk1 : k1 < S) (k2 : Nat) (hk2 : k2 < S) (hg : Gd S a b ar) (d : Nat)  : ci X S a b (d + 4) 69 [.ref 36, .int (nI k1), .int (nI k2)] sc ar lo ex (fun x sc' ar' => Iv S sc' ar' ∧ Fr [3603] [37, 38] sc ar sc' ar' ∧ rl x S ∧ x = nI (zgo S a k2 (ar 5) k1)) := by
  obtain ⟨ha1, ha8, hb1, hb8, hab, hS1, hS⟩ := id hW
  refine ci_of (M := an_X8_stepTowards) rfl (Nat.le_of_ble_eq_true rfl) ?_
  have hF : Fr [3603] [37, 38] sc ar sc ar := fr_0
  refine to_eq (fr' := (0, [(0, .ref 36), (1, .int (nI k1)), (2, .int (nI k2))], [], gh S a b sc ar lo, ex, 0, 0)) rfl ?_
  have c19 : ∀ m : Nat, ∀ (y : Nat) (z : Nat) (i : Nat) (sc1 : Nat → Int32) (ar1 : Nat → Nat → Int32), i + m = 4 → y < S → ZW S a k2 (ar 5) (ar1 37) → (∀ k : Nat, k < S → rq (ar1 37 k) 1000) → ZTN S a b k1 (ar1 37) i y z → z < 1000 → Iv S sc1 ar1 → Fr [3603] [37, 38] sc ar sc1 ar1 → ag_To X (d + 3) an_X8_stepTowards (19, [(0, .ref 36), (1, .int (nI k1)), (2, .int (nI k2)), (3, .int (nI y)), (4, .int (nI z)), (5, .int (nI i))], [], gh S a b sc1 ar1 lo, ex, 0, 0) (qi S a b lo ex (fun x sc' ar' => Iv S sc' ar' ∧ Fr [3603] [37, 38] sc ar sc' ar' ∧ rl x S ∧ x = nI (zgo S a k2 (ar 5) k1))) := by
    intro m
    induction m with
    | zero =>
      intro y z i sc1 ar1 hm hc19_0 hc19_1 hc19_2 hc19_3 hc19_4 hI1 hF1
      refine to_n 2 (fr' := (22, [(0, .ref 36), (1, .int (nI k1)), (2, .int (nI k2)), (3, .int (nI y)), (4, .int (nI z)), (5, .int (nI i))], [.int 4, .int (nI i)], gh S a b sc1 ar1 lo, ex, 0, 0)) rfl ?_
      refine to_nc_ge_T (t := 94) (x := i) (y := 4) rfl (by omega) (by omega) (by omega) ?_
      refine to_n 1 (fr' := (95, [(0, .ref 36), (1, .int (nI k1)), (2, .int (nI k2)), (3, .int (nI y)), (4, .int (nI z)), (5, .int (nI i))], [.int (nI y)], gh S a b sc1 ar1 lo, ex, 0, 0)) rfl ?_
      exact to_rt (i := .ireturn) (tg := []) rfl rfl ⟨_, _, _, ⟨hI1, hF1, ⟨rl_n (n := y) (by omega), (ztn_e hW hk1 hc19_1 (by have e9 : i = 4 := (by omega); rw [e9] at hc19_3; exact hc19_3))⟩⟩, rfl⟩
    | succ m ih =>
      intro y z i sc1 ar1 hm hc19_0 hc19_1 hc19_2 hc19_3 hc19_4 hI1 hF1
      refine to_n 2 (fr' := (22, [(0, .ref 36), (1, .int (nI k1)), (2, .int (nI k2)), (3, .int (nI y)), (4, .int (nI z)), (5, .int (nI i))], [.int 4, .int (nI i)], gh S a b sc1 ar1 lo, ex, 0, 0)) rfl ?_
      refine to_nc_ge_F (t := 94) (x := i) (y := 4) rfl (by omega) (by omega) (by omega) ?_
      refine to_n 1 (fr' := (26, [(0, .ref 36), (1, .int (nI k1)), (2, .int (nI k2)), (3, .int (nI y)), (4, .int (nI z)), (5, .int (nI i))], [.ref 36], gh S a b sc1 ar1 lo, ex, 0, 0)) rfl ?_
      refine to_get rfl rfl rfl rfl ?_
      refine to_get rfl rfl rfl rfl ?_
      refine to_n 2 (fr' := (34, [(0, .ref 36), (1, .int (nI k1)), (2, .int (nI k2)), (3, .int (nI y)), (4, .int (nI z)), (5, .int (nI i))], [.int (nI k1), .int 4, .ref 4], gh S a b sc1 ar1 lo, ex, 0, 0)) rfl ?_
      refine to_mulN (x := 4) (y := k1) rfl ?_
      refine to_n 1 (fr' := (37, [(0, .ref 36), (1, .int (nI k1)), (2, .int (nI k2)), (3, .int (nI y)), (4, .int (nI z)), (5, .int (nI i))], [.int (nI i), .int (nI (4 * k1)), .ref 4], gh S a b sc1 ar1 lo, ex, 0, 0)) rfl ?_
      refine to_addN (x := (4 * k1)) (y := i) rfl ?_
      refine to_ialR (i := ((4 * k1) + i)) (v := (ar 4 ((4 * k1) + i))) rfl (by decide) rfl (by omega) (by omega) (congrFun (hF1.2 4 (by decide)) ((4 * k1) + i)) ?_
      refine to_n 2 (fr' := (42, [(0, .ref 36), (1, .int (nI k1)), (2, .int (nI k2)), (3, .int (nI y)), (4, .int (nI z)), (5, .int (nI i)), (6, .int (ar 4 ((4 * k1) + i)))], [.ref 36], gh S a b sc1 ar1 lo, ex, 0, 0)) rfl ?_
      refine to_get rfl rfl rfl rfl ?_
      refine to_n 1 (fr' := (47, [(0, .ref 36), (1, .int (nI k1)), (2, .int (nI k2)), (3, .int (nI y)), (4, .int (nI z)), (5, .int (nI i)), (6, .int (ar 4 ((4 * k1) + i)))], [.int (ar 4 ((4 * k1) + i)), .ref 1], gh S a b sc1 ar1 lo, ex, 0, 0)) rfl ?_
      rcases has_or (x := (ar 4 ((4 * k1) + i))) (B := S) (by omega) with ⟨n2, hn2, e2⟩ | w2
      · rw [e2]
        refine to_cp (q := 2) (M1 := an_X0_has) (rest := []) rfl rfl (by decide) rfl ⟨_, rfl⟩ (sf_has_1 (n := n2)  (by omega) (d + 2)) (fun x2 hx2 => ?_)
        obtain rfl := hx2
        refine to_eq (fr' := (50, [(0, .ref 36), (1, .int (nI k1)), (2, .int (nI k2)), (3, .int (nI y)), (4, .int (nI z)), (5, .int (nI i)), (6, .int (nI n2))], [.int 1], gh S a b sc1 ar1 lo, ex, 0, 0)) rfl ?_
        refine to_n 2 (fr' := (54, [(0, .ref 36), (1, .int (nI k1)), (2, .int (nI k2)), (3, .int (nI y)), (4, .int (nI z)), (5, .int (nI i)), (6, .int (nI n2))], [.ref 36], gh S a b sc1 ar1 lo, ex, 0, 0)) rfl ?_
        refine to_get rfl rfl rfl rfl ?_
        refine to_n 1 (fr' := (59, [(0, .ref 36), (1, .int (nI k1)), (2, .int (nI k2)), (3, .int (nI y)), (4, .int (nI z)), (5, .int (nI i)), (6, .int (nI n2))], [.int (nI n2), .ref 37], gh S a b sc1 ar1 lo, ex, 0, 0)) rfl ?_
        rcases hc19_2 n2 (by omega) with e3 | ⟨n3, hn3, e3⟩
        · refine to_ialR (i := n2) (v := (-1)) rfl (by decide) rfl (by omega) (by omega) e3 ?_
          refine to_n 3 (fr' := (91, [(0, .ref 36), (1, .int (nI k1)), (2, .int (nI k2)), (3, .int (nI y)), (4, .int (nI z)), (5, .int ((nI i) + 1)), (6, .int (nI n2))], [], gh S a b sc1 ar1 lo, ex, 0, 0)) rfl ?_
          rw [nI_1 i]
          refine to_n 1 (fr' := (19, [(0, .ref 36), (1, .int (nI k1)), (2, .int (nI k2)), (3, .int (nI y)), (4, .int (nI z)), (5, .int (nI (i + 1))), (6, .int (nI n2))], [], gh S a b sc1 ar1 lo, ex, 0, 0)) rfl ?_
          refine to_lv (lv := [(0, .ref 36), (1, .int (nI k1)), (2, .int (nI k2)), (3, .int (nI y)), (4, .int (nI z)), (5, .int (nI (i + 1)))]) rfl ⟨rfl, rfl, rfl, rfl, rfl, rfl, trivial⟩ ?_
          exact ih y z (i + 1) sc1 ar1 (by omega) (by omega) hc19_1 hc19_2 (ztn_no hc19_3 (zn_of2 hW hg hk1 (by omega) hn2 e2 e3)) (by omega) hI1 hF1
        · refine to_ialR (i := n2) (v := (nI n3)) rfl (by decide) rfl (by omega) (by omega) e3 ?_
          refine to_n 1 (fr' := (61, [(0, .ref 36), (1, .int (nI k1)), (2, .int (nI k2)), (3, .int (nI y)), (4, .int (nI z)), (5, .int (nI i)), (6, .int (nI n2))], [.int (-1), .int (nI n3)], gh S a b sc1 ar1 lo, ex, 0, 0)) rfl ?_
          refine to_ic_eq_F (t := 88) (x := (nI n3)) (y := (-1)) rfl (nI_neg (by omega) (by decide)) ?_
          refine to_n 1 (fr' := (65, [(0, .ref 36), (1, .int (nI k1)), (2, .int (nI k2)), (3, .int (nI y)), (4, .int (nI z)), (5, .int (nI i)), (6, .int (nI n2))], [.ref 36], gh S a b sc1 ar1 lo, ex, 0, 0)) rfl ?_
          refine to_get rfl rfl rfl rfl ?_
          refine to_n 1 (fr' := (70, [(0, .ref 36), (1, .int (nI k1)), (2, .int (nI k2)), (3, .int (nI y)), (4, .int (nI z)), (5, .int (nI i)), (6, .int (nI n2))], [.int (nI n2), .ref 37], gh S a b sc1 ar1 lo, ex, 0, 0)) rfl ?_
          refine to_ialR (i := n2) (v := (nI n3)) rfl (by decide) rfl (by omega) (by omega) e3 ?_
          refine to_n 1 (fr' := (73, [(0, .ref 36), (1, .int (nI k1)), (2, .int (nI k2)), (3, .int (nI y)), (4, .int (nI z)), (5, .int (nI i)), (6, .int (nI n2))], [.int (nI z), .int (nI n3)], gh S a b sc1 ar1 lo, ex, 0, 0)) rfl ?_
          refine to_nc_ge (t := 88) (x := n3) (y := z) rfl (by omega) (by omega) (fun q4 => ?_) (fun q4 => ?_)
          · refine to_n 1 (fr' := (91, [(0, .ref 36), (1, .int (nI k1)), (2, .int (nI k2)), (3, .int (nI y)), (4, .int (nI z)), (5, .int ((nI i) + 1)), (6, .int (nI n2))], [], gh S a b sc1 ar1 lo, ex, 0, 0)) rfl ?_
            rw [nI_1 i]
            refine to_n 1 (fr' := (19, [(0, .ref 36), (1, .int (nI k1)), (2, .int (nI k2)), (3, .int (nI y)), (4, .int (nI z)), (5, .int (nI (i + 1))), (6, .int (nI n2))], [], gh S a b sc1 ar1 lo, ex, 0, 0)) rfl ?_
            refine to_lv (lv := [(0, .ref 36), (1, .int (nI k1)), (2, .int (nI k2)), (3, .int (nI y)), (4, .int (nI z)), (5, .int (nI (i + 1)))]) rfl ⟨rfl, rfl, rfl, rfl, rfl, rfl, trivial⟩ ?_
            exact ih y z (i + 1) sc1 ar1 (by omega) (by omega) hc19_1 hc19_2 (ztn_o hW hk1 (by omega) hc19_1 hc19_3 (zc_of hW hg hk1 (by omega) hn2 (by omega) e2 e3) (by omega)) (by omega) hI1 hF1
          · refine to_n 1 (fr' := (77, [(0, .ref 36), (1, .int (nI k1)), (2, .int (nI k2)), (3, .int (nI y)), (4, .int (nI z)), (5, .int (nI i)), (6, .int (nI n2))], [.ref 36], gh S a b sc1 ar1 lo, ex, 0, 0)) rfl ?_
            refine to_get rfl rfl rfl rfl ?_
            refine to_n 1 (fr' := (82, [(0, .ref 36), (1, .int (nI k1)), (2, .int (nI k2)), (3, .int (nI y)), (4, .int (nI z)), (5, .int (nI i)), (6, .int (nI n2))], [.int (nI n2), .ref 37], gh S a b sc1 ar1 lo, ex, 0, 0)) rfl ?_
            refine to_ialR (i := n2) (v := (nI n3)) rfl (by decide) rfl (by omega) (by omega) e3 ?_
            refine to_n 4 (fr' := (91, [(0, .ref 36), (1, .int (nI k1)), (2, .int (nI k2)), (3, .int (nI n2)), (4, .int (nI n3)), (5, .int ((nI i) + 1)), (6, .int (nI n2))], [], gh S a b sc1 ar1 lo, ex, 0, 0)) rfl ?_
            rw [nI_1 i]
            refine to_n 1 (fr' := (19, [(0, .ref 36), (1, .int (nI k1)), (2, .int (nI k2)), (3, .int (nI n2)), (4, .int (nI n3)), (5, .int (nI (i + 1))), (6, .int (nI n2))], [], gh S a b sc1 ar1 lo, ex, 0, 0)) rfl ?_
            refine to_lv (lv := [(0, .ref 36), (1, .int (nI k1)), (2, .int (nI k2)), (3, .int (nI n2)), (4, .int (nI n3)), (5, .int (nI (i + 1)))]) rfl ⟨rfl, rfl, rfl, rfl, rfl, rfl, trivial⟩ ?_
            exact ih n2 n3 (i + 1) sc1 ar1 (by omega) (by omega) hc19_1 hc19_2 (ztn_y hS hc19_1 hc19_3 (zc_of hW hg hk1 (by omega) hn2 (by omega) e2 e3) (by omega)) (by omega) hI1 hF1
      · refine to_cp (q := 2) (M1 := an_X0_has) (rest := []) rfl rfl (by decide) rfl ⟨_, rfl⟩ (sf_has_0  w2 (d + 2)) (fun x2 hx2 => ?_)
        obtain rfl := hx2
        refine to_eq (fr' := (50, [(0, .ref 36), (1, .int (nI k1)), (2, .int (nI k2)), (3, .int (nI y)), (4, .int (nI z)), (5, .int (nI i)), (6, .int (ar 4 ((4 * k1) + i)))], [.int 0], gh S a b sc1 ar1 lo, ex, 0, 0)) rfl ?_
        refine to_n 2 (fr' := (91, [(0, .ref 36), (1, .int (nI k1)), (2, .int (nI k2)), (3, .int (nI y)), (4, .int (nI z)), (5, .int ((nI i) + 1)), (6, .int (ar 4 ((4 * k1) + i)))], [], gh S a b sc1 ar1 lo, ex, 0, 0)) rfl ?_
        rw [nI_1 i]
        refine to_n 1 (fr' := (19, [(0, .ref 36), (1, .int (nI k1)), (2, .int (nI k2)), (3, .int (nI y)), (4, .int (nI z)), (5, .int (nI (i + 1))), (6, .int (ar 4 ((4 * k1) + i)))], [], gh S a b sc1 ar1 lo, ex, 0, 0)) rfl ?_
        refine to_lv (lv := [(0, .ref 36), (1, .int (nI k1)), (2, .int (nI k2)), (3, .int (nI y)), (4, .int (nI z)), (5, .int (nI (i + 1)))]) rfl ⟨rfl, rfl, rfl, rfl, rfl, rfl, trivial⟩ ?_
        exact ih y z (i + 1) sc1 ar1 (by omega) (by omega) hc19_1 hc19_2 (ztn_no hc19_3 (zn_of hW hg hk1 (by omega) w2)) (by omega) hI1 hF1
  refine to_n 2 (fr' := (2, [(0, .ref 36), (1, .int (nI k1)), (2, .int (nI k2))], [.int (nI k2), .ref 36], gh S a b sc ar lo, ex, 0, 0)) rfl ?_
  refine to_cv (q := 70) (M1 := an_X8_reckonSteps) (rest := []) rfl rfl (by decide) rfl ⟨_, rfl⟩ (sf_X8_reckonSteps hW hI k2 (by omega) (gd_fr hg hF (by decide) (by decide) (by decide)) d) (fun sc5 ar5 hx5 => ?_)
  obtain ⟨hI5, hG5, hx5⟩ := hx5
  have hF5 := fr_t hF hG5 (by decide) (by decide)
  obtain ⟨hD5, hR5⟩ := hx5
  refine to_eq (fr' := (5, [(0, .ref 36), (1, .int (nI k1)), (2, .int (nI k2))], [], gh S a b sc5 ar5 lo, ex, 0, 0)) rfl ?_
  refine to_n 3 (fr' := (8, [(0, .ref 36), (1, .int (nI k1)), (2, .int (nI k2)), (3, .int (nI k1))], [.ref 36], gh S a b sc5 ar5 lo, ex, 0, 0)) rfl ?_
  refine to_get rfl rfl rfl rfl ?_
  refine to_get rfl rfl rfl rfl ?_
  refine to_n 3 (fr' := (19, [(0, .ref 36), (1, .int (nI k1)), (2, .int (nI k2)), (3, .int (nI k1)), (4, .int (nI S)), (5, .int 0)], [], gh S a b sc5 ar5 lo, ex, 0, 0)) rfl ?_
  exact c19 (4 - 0) k1 S 0 sc5 ar5 (by omega) (by omega) hD5 hR5 (Or.inl ⟨ZN_0, rfl, rfl⟩) (by omega) hI5 hF5
set_option maxRecDepth 20000 in
theorem sf_X2_see {X : Nat × (Nat → Int32)} {S a b : Nat} {sc : Nat → Int32} {ar : Nat → Nat → Int32} {lo : Nat → Int64} {ex : Bool} (hW : Wd S a b) (hI : Iv S sc ar) (k1 : Nat) (hk1 : k1 < (2 * S)) (x1 : Int32) (hx1 : rt x1 (2 * S)) (q xt : Nat) (hq : sc 3911 = nI q) (hb : BQ S a b (ar 41) (ar 42) (ar 43) (ar 44) xt q (ar 46) (ar 47)) (he : ar 46 k1 = -1 → zed S a b (ar 41) (ar 42) (ar 43) (ar 44) xt (ar 46) k1 x1) (d : Nat)  : cv X S a b (d + 1) 26 [.ref 39, .int (nI k1), .int x1] sc ar lo ex (fun sc' ar' => Iv S sc' ar' ∧ Fr [3911] [46, 47] sc ar sc' ar' ∧ (∃ q2 : Nat, sc' 3911 = nI q2 ∧ BQ S a b (ar 41) (ar 42) (ar 43) (ar 44) xt q2 (ar' 46) (ar' 47) ∧ BM q q2 (ar 46) (ar 47) (ar' 46) (ar' 47) ∧ ¬ ar' 46 k1 = -1)) := by
  obtain ⟨ha1, ha8, hb1, hb8, hab, hS1, hS⟩ := id hW
  refine cv_of (M := an_X2_see) rfl (Nat.le_of_ble_eq_true rfl) ?_
  have hF : Fr [3911] [46, 47] sc ar sc ar := fr_0
  refine to_eq (fr' := (0, [(0, .ref 39), (1, .int (nI k1)), (2, .int x1)], [], gh S a b sc ar lo, ex, 0, 0)) rfl ?_
  rcases hx1 with rfl | rfl | ⟨n1, hn1, rfl⟩
  · refine to_eq (fr' := (0, [(0, .ref 39), (1, .int (nI k1)), (2, .int (-1))], [], gh S a b sc ar lo, ex, 0, 0)) rfl ?_
    refine to_n 1 (fr' := (1, [(0, .ref 39), (1, .int (nI k1)), (2, .int (-1))], [.ref 39], gh S a b sc ar lo, ex, 0, 0)) rfl ?_
    refine to_get rfl rfl rfl rfl ?_
    refine to_n 1 (fr' := (5, [(0, .ref 39), (1, .int (nI k1)), (2, .int (-1))], [.int (nI k1), .ref 46], gh S a b sc ar lo, ex, 0, 0)) rfl ?_
    refine to_ialR (i := k1) (v := (ar 46 k1)) rfl (by decide) rfl (by omega) (by omega) rfl ?_
    refine to_n 1 (fr' := (7, [(0, .ref 39), (1, .int (nI k1)), (2, .int (-1))], [.int (-1), .int (ar 46 k1)], gh S a b sc ar lo, ex, 0, 0)) rfl ?_
    refine to_ic_ne (t := 49) rfl (fun q2 => ?_) (fun q2 => ?_)
    · exact to_rt (i := .return_) (tg := []) rfl rfl ⟨_, _, ⟨hI, hF, ⟨q, hq, hb, bm_0, q2⟩⟩, rfl⟩
    · have hroom := bq_room hS hb (by omega) q2
      refine to_n 1 (fr' := (11, [(0, .ref 39), (1, .int (nI k1)), (2, .int (-1))], [.ref 39], gh S a b sc ar lo, ex, 0, 0)) rfl ?_
      refine to_getR (v := (nI q)) rfl rfl rfl rfl hq ?_
      refine to_n 1 (fr' := (15, [(0, .ref 39), (1, .int (nI k1)), (2, .int (-1))], [.ref 39, .int (nI q)], gh S a b sc ar lo, ex, 0, 0)) rfl ?_
      refine to_get rfl rfl rfl rfl ?_
      refine to_len rfl (by decide) rfl (by decide) ?_
      refine to_eq (fr' := (19, [(0, .ref 39), (1, .int (nI k1)), (2, .int (-1))], [.int (nI (2 * S)), .int (nI q)], gh S a b sc ar lo, ex, 0, 0)) rfl ?_
      refine to_nc_ge_F (t := 49) (x := q) (y := (2 * S)) rfl (by omega) (by omega) (by omega) ?_
      refine to_n 1 (fr' := (23, [(0, .ref 39), (1, .int (nI k1)), (2, .int (-1))], [.ref 39], gh S a b sc ar lo, ex, 0, 0)) rfl ?_
      refine to_get rfl rfl rfl rfl ?_
      refine to_n 2 (fr' := (28, [(0, .ref 39), (1, .int (nI k1)), (2, .int (-1))], [.int (-1), .int (nI k1), .ref 46], gh S a b sc ar lo, ex, 0, 0)) rfl ?_
      refine to_iasR (i := k1) (h' := gh S a b sc (uA ar 46 (upd (ar 46) k1 (-1))) lo) rfl rfl (by omega) (by omega) rfl ?_
      have hI3 := ia_46 (i := k1) (v := (-1)) hI (rt_m)
      have hF3 := fr_a (c := 46) (g := (upd (ar 46) k1 (-1))) hF (by decide)
      refine to_n 1 (fr' := (30, [(0, .ref 39), (1, .int (nI k1)), (2, .int (-1))], [.ref 39], gh S a b sc (uA ar 46 (upd (ar 46) k1 (-1))) lo, ex, 0, 0)) rfl ?_
      refine to_get rfl rfl rfl rfl ?_
      refine to_n 1 (fr' := (34, [(0, .ref 39), (1, .int (nI k1)), (2, .int (-1))], [.ref 39, .ref 47], gh S a b sc (uA ar 46 (upd (ar 46) k1 (-1))) lo, ex, 0, 0)) rfl ?_
      refine to_getR (v := (nI q)) rfl rfl rfl rfl hq ?_
      refine to_n 1 (fr' := (38, [(0, .ref 39), (1, .int (nI k1)), (2, .int (-1))], [.int (nI k1), .int (nI q), .ref 47], gh S a b sc (uA ar 46 (upd (ar 46) k1 (-1))) lo, ex, 0, 0)) rfl ?_
      refine to_iasR (i := q) (h' := gh S a b sc (uA (uA ar 46 (upd (ar 46) k1 (-1))) 47 (upd ((uA ar 46 (upd (ar 46) k1 (-1))) 47) q (nI k1))) lo) rfl rfl (by omega) (by omega) rfl ?_
      have hI4 := ia_47 (i := q) (v := (nI k1)) hI3 (rl_n (n := k1) (by omega))
      have hF4 := fr_a (c := 47) (g := (upd ((uA ar 46 (upd (ar 46) k1 (-1))) 47) q (nI k1))) hF3 (by decide)
      refine to_n 2 (fr' := (41, [(0, .ref 39), (1, .int (nI k1)), (2, .int (-1))], [.ref 39, .ref 39], gh S a b sc (uA (uA ar 46 (upd (ar 46) k1 (-1))) 47 (upd ((uA ar 46 (upd (ar 46) k1 (-1))) 47) q (nI k1))) lo, ex, 0, 0)) rfl ?_
      refine to_getR (v := (nI q)) rfl rfl rfl rfl hq ?_
      refine to_n 1 (fr' := (45, [(0, .ref 39), (1, .int (nI k1)), (2, .int (-1))], [.int 1, .int (nI q), .ref 39], gh S a b sc (uA (uA ar 46 (upd (ar 46) k1 (-1))) 47 (upd ((uA ar 46 (upd (ar 46) k1 (-1))) 47) q (nI k1))) lo, ex, 0, 0)) rfl ?_
      refine to_addN (x := q) (y := 1) rfl ?_
      refine to_putR (h' := gh S a b (upd sc 3911 (nI (q + 1))) (uA (uA ar 46 (upd (ar 46) k1 (-1))) 47 (upd ((uA ar 46 (upd (ar 46) k1 (-1))) 47) q (nI k1))) lo) rfl rfl rfl (Nat.le_of_ble_eq_true rfl) rfl rfl ?_
      have hI5 := ip_3911 (v := (nI (q + 1))) hI4 (rl_n (n := (q + 1)) (by omega))
      have hF5 := fr_s (k := 3911) (v := (nI (q + 1))) hF4 (by decide)
      exact to_rt (i := .return_) (tg := []) rfl rfl ⟨_, _, ⟨hI5, hF5, ⟨q + 1, rfl, (bq_put hS hb (by omega) q2 (he q2)).2, bm_put q2, by show ¬ upd _ _ _ _ = _; rw [ug_eq]; exact zed_m1 hS (he q2)⟩⟩, rfl⟩
  · refine to_eq (fr' := (0, [(0, .ref 39), (1, .int (nI k1)), (2, .int (-2))], [], gh S a b sc ar lo, ex, 0, 0)) rfl ?_
    refine to_n 1 (fr' := (1, [(0, .ref 39), (1, .int (nI k1)), (2, .int (-2))], [.ref 39], gh S a b sc ar lo, ex, 0, 0)) rfl ?_
    refine to_get rfl rfl rfl rfl ?_
    refine to_n 1 (fr' := (5, [(0, .ref 39), (1, .int (nI k1)), (2, .int (-2))], [.int (nI k1), .ref 46], gh S a b sc ar lo, ex, 0, 0)) rfl ?_
    refine to_ialR (i := k1) (v := (ar 46 k1)) rfl (by decide) rfl (by omega) (by omega) rfl ?_
    refine to_n 1 (fr' := (7, [(0, .ref 39), (1, .int (nI k1)), (2, .int (-2))], [.int (-1), .int (ar 46 k1)], gh S a b sc ar lo, ex, 0, 0)) rfl ?_
    refine to_ic_ne (t := 49) rfl (fun q6 => ?_) (fun q6 => ?_)
    · exact to_rt (i := .return_) (tg := []) rfl rfl ⟨_, _, ⟨hI, hF, ⟨q, hq, hb, bm_0, q6⟩⟩, rfl⟩
    · have hroom := bq_room hS hb (by omega) q6
      refine to_n 1 (fr' := (11, [(0, .ref 39), (1, .int (nI k1)), (2, .int (-2))], [.ref 39], gh S a b sc ar lo, ex, 0, 0)) rfl ?_
      refine to_getR (v := (nI q)) rfl rfl rfl rfl hq ?_
      refine to_n 1 (fr' := (15, [(0, .ref 39), (1, .int (nI k1)), (2, .int (-2))], [.ref 39, .int (nI q)], gh S a b sc ar lo, ex, 0, 0)) rfl ?_
      refine to_get rfl rfl rfl rfl ?_
      refine to_len rfl (by decide) rfl (by decide) ?_
      refine to_eq (fr' := (19, [(0, .ref 39), (1, .int (nI k1)), (2, .int (-2))], [.int (nI (2 * S)), .int (nI q)], gh S a b sc ar lo, ex, 0, 0)) rfl ?_
      refine to_nc_ge_F (t := 49) (x := q) (y := (2 * S)) rfl (by omega) (by omega) (by omega) ?_
      refine to_n 1 (fr' := (23, [(0, .ref 39), (1, .int (nI k1)), (2, .int (-2))], [.ref 39], gh S a b sc ar lo, ex, 0, 0)) rfl ?_
      refine to_get rfl rfl rfl rfl ?_
      refine to_n 2 (fr' := (28, [(0, .ref 39), (1, .int (nI k1)), (2, .int (-2))], [.int (-2), .int (nI k1), .ref 46], gh S a b sc ar lo, ex, 0, 0)) rfl ?_
      refine to_iasR (i := k1) (h' := gh S a b sc (uA ar 46 (upd (ar 46) k1 (-2))) lo) rfl rfl (by omega) (by omega) rfl ?_
      have hI7 := ia_46 (i := k1) (v := (-2)) hI (rt_2)
      have hF7 := fr_a (c := 46) (g := (upd (ar 46) k1 (-2))) hF (by decide)
      refine to_n 1 (fr' := (30, [(0, .ref 39), (1, .int (nI k1)), (2, .int (-2))], [.ref 39], gh S a b sc (uA ar 46 (upd (ar 46) k1 (-2))) lo, ex, 0, 0)) rfl ?_
      refine to_get rfl rfl rfl rfl ?_
      refine to_n 1 (fr' := (34, [(0, .ref 39), (1, .int (nI k1)), (2, .int (-2))], [.ref 39, .ref 47], gh S a b sc (uA ar 46 (upd (ar 46) k1 (-2))) lo, ex, 0, 0)) rfl ?_
      refine to_getR (v := (nI q)) rfl rfl rfl rfl hq ?_
      refine to_n 1 (fr' := (38, [(0, .ref 39), (1, .int (nI k1)), (2, .int (-2))], [.int (nI k1), .int (nI q), .ref 47], gh S a b sc (uA ar 46 (upd (ar 46) k1 (-2))) lo, ex, 0, 0)) rfl ?_
      refine to_iasR (i := q) (h' := gh S a b sc (uA (uA ar 46 (upd (ar 46) k1 (-2))) 47 (upd ((uA ar 46 (upd (ar 46) k1 (-2))) 47) q (nI k1))) lo) rfl rfl (by omega) (by omega) rfl ?_
      have hI8 := ia_47 (i := q) (v := (nI k1)) hI7 (rl_n (n := k1) (by omega))
      have hF8 := fr_a (c := 47) (g := (upd ((uA ar 46 (upd (ar 46) k1 (-2))) 47) q (nI k1))) hF7 (by decide)
      refine to_n 2 (fr' := (41, [(0, .ref 39), (1, .int (nI k1)), (2, .int (-2))], [.ref 39, .ref 39], gh S a b sc (uA (uA ar 46 (upd (ar 46) k1 (-2))) 47 (upd ((uA ar 46 (upd (ar 46) k1 (-2))) 47) q (nI k1))) lo, ex, 0, 0)) rfl ?_
      refine to_getR (v := (nI q)) rfl rfl rfl rfl hq ?_
      refine to_n 1 (fr' := (45, [(0, .ref 39), (1, .int (nI k1)), (2, .int (-2))], [.int 1, .int (nI q), .ref 39], gh S a b sc (uA (uA ar 46 (upd (ar 46) k1 (-2))) 47 (upd ((uA ar 46 (upd (ar 46) k1 (-2))) 47) q (nI k1))) lo, ex, 0, 0)) rfl ?_
      refine to_addN (x := q) (y := 1) rfl ?_
      refine to_putR (h' := gh S a b (upd sc 3911 (nI (q + 1))) (uA (uA ar 46 (upd (ar 46) k1 (-2))) 47 (upd ((uA ar 46 (upd (ar 46) k1 (-2))) 47) q (nI k1))) lo) rfl rfl rfl (Nat.le_of_ble_eq_true rfl) rfl rfl ?_
      have hI9 := ip_3911 (v := (nI (q + 1))) hI8 (rl_n (n := (q + 1)) (by omega))
      have hF9 := fr_s (k := 3911) (v := (nI (q + 1))) hF8 (by decide)
      exact to_rt (i := .return_) (tg := []) rfl rfl ⟨_, _, ⟨hI9, hF9, ⟨q + 1, rfl, (bq_put hS hb (by omega) q6 (he q6)).2, bm_put q6, by show ¬ upd _ _ _ _ = _; rw [ug_eq]; exact zed_m1 hS (he q6)⟩⟩, rfl⟩
  · refine to_eq (fr' := (0, [(0, .ref 39), (1, .int (nI k1)), (2, .int (nI n1))], [], gh S a b sc ar lo, ex, 0, 0)) rfl ?_
    refine to_n 1 (fr' := (1, [(0, .ref 39), (1, .int (nI k1)), (2, .int (nI n1))], [.ref 39], gh S a b sc ar lo, ex, 0, 0)) rfl ?_
    refine to_get rfl rfl rfl rfl ?_
    refine to_n 1 (fr' := (5, [(0, .ref 39), (1, .int (nI k1)), (2, .int (nI n1))], [.int (nI k1), .ref 46], gh S a b sc ar lo, ex, 0, 0)) rfl ?_
    refine to_ialR (i := k1) (v := (ar 46 k1)) rfl (by decide) rfl (by omega) (by omega) rfl ?_
    refine to_n 1 (fr' := (7, [(0, .ref 39), (1, .int (nI k1)), (2, .int (nI n1))], [.int (-1), .int (ar 46 k1)], gh S a b sc ar lo, ex, 0, 0)) rfl ?_
    refine to_ic_ne (t := 49) rfl (fun q10 => ?_) (fun q10 => ?_)
    · exact to_rt (i := .return_) (tg := []) rfl rfl ⟨_, _, ⟨hI, hF, ⟨q, hq, hb, bm_0, q10⟩⟩, rfl⟩
    · have hroom := bq_room hS hb (by omega) q10
      refine to_n 1 (fr' := (11, [(0, .ref 39), (1, .int (nI k1)), (2, .int (nI n1))], [.ref 39], gh S a b sc ar lo, ex, 0, 0)) rfl ?_
      refine to_getR (v := (nI q)) rfl rfl rfl rfl hq ?_
      refine to_n 1 (fr' := (15, [(0, .ref 39), (1, .int (nI k1)), (2, .int (nI n1))], [.ref 39, .int (nI q)], gh S a b sc ar lo, ex, 0, 0)) rfl ?_
      refine to_get rfl rfl rfl rfl ?_
      refine to_len rfl (by decide) rfl (by decide) ?_
      refine to_eq (fr' := (19, [(0, .ref 39), (1, .int (nI k1)), (2, .int (nI n1))], [.int (nI (2 * S)), .int (nI q)], gh S a b sc ar lo, ex, 0, 0)) rfl ?_
      refine to_nc_ge_F (t := 49) (x := q) (y := (2 * S)) rfl (by omega) (by omega) (by omega) ?_
      refine to_n 1 (fr' := (23, [(0, .ref 39), (1, .int (nI k1)), (2, .int (nI n1))], [.ref 39], gh S a b sc ar lo, ex, 0, 0)) rfl ?_
      refine to_get rfl rfl rfl rfl ?_
      refine to_n 2 (fr' := (28, [(0, .ref 39), (1, .int (nI k1)), (2, .int (nI n1))], [.int (nI n1), .int (nI k1), .ref 46], gh S a b sc ar lo, ex, 0, 0)) rfl ?_
      refine to_iasR (i := k1) (h' := gh S a b sc (uA ar 46 (upd (ar 46) k1 (nI n1))) lo) rfl rfl (by omega) (by omega) rfl ?_
      have hI11 := ia_46 (i := k1) (v := (nI n1)) hI (rt_n (n := n1) (by omega))
      have hF11 := fr_a (c := 46) (g := (upd (ar 46) k1 (nI n1))) hF (by decide)
      refine to_n 1 (fr' := (30, [(0, .ref 39), (1, .int (nI k1)), (2, .int (nI n1))], [.ref 39], gh S a b sc (uA ar 46 (upd (ar 46) k1 (nI n1))) lo, ex, 0, 0)) rfl ?_
      refine to_get rfl rfl rfl rfl ?_
      refine to_n 1 (fr' := (34, [(0, .ref 39), (1, .int (nI k1)), (2, .int (nI n1))], [.ref 39, .ref 47], gh S a b sc (uA ar 46 (upd (ar 46) k1 (nI n1))) lo, ex, 0, 0)) rfl ?_
      refine to_getR (v := (nI q)) rfl rfl rfl rfl hq ?_
      refine to_n 1 (fr' := (38, [(0, .ref 39), (1, .int (nI k1)), (2, .int (nI n1))], [.int (nI k1), .int (nI q), .ref 47], gh S a b sc (uA ar 46 (upd (ar 46) k1 (nI n1))) lo, ex, 0, 0)) rfl ?_
      refine to_iasR (i := q) (h' := gh S a b sc (uA (uA ar 46 (upd (ar 46) k1 (nI n1))) 47 (upd ((uA ar 46 (upd (ar 46) k1 (nI n1))) 47) q (nI k1))) lo) rfl rfl (by omega) (by omega) rfl ?_
      have hI12 := ia_47 (i := q) (v := (nI k1)) hI11 (rl_n (n := k1) (by omega))
      have hF12 := fr_a (c := 47) (g := (upd ((uA ar 46 (upd (ar 46) k1 (nI n1))) 47) q (nI k1))) hF11 (by decide)
      refine to_n 2 (fr' := (41, [(0, .ref 39), (1, .int (nI k1)), (2, .int (nI n1))], [.ref 39, .ref 39], gh S a b sc (uA (uA ar 46 (upd (ar 46) k1 (nI n1))) 47 (upd ((uA ar 46 (upd (ar 46) k1 (nI n1))) 47) q (nI k1))) lo, ex, 0, 0)) rfl ?_
      refine to_getR (v := (nI q)) rfl rfl rfl rfl hq ?_
      refine to_n 1 (fr' := (45, [(0, .ref 39), (1, .int (nI k1)), (2, .int (nI n1))], [.int 1, .int (nI q), .ref 39], gh S a b sc (uA (uA ar 46 (upd (ar 46) k1 (nI n1))) 47 (upd ((uA ar 46 (upd (ar 46) k1 (nI n1))) 47) q (nI k1))) lo, ex, 0, 0)) rfl ?_
      refine to_addN (x := q) (y := 1) rfl ?_
      refine to_putR (h' := gh S a b (upd sc 3911 (nI (q + 1))) (uA (uA ar 46 (upd (ar 46) k1 (nI n1))) 47 (upd ((uA ar 46 (upd (ar 46) k1 (nI n1))) 47) q (nI k1))) lo) rfl rfl rfl (Nat.le_of_ble_eq_true rfl) rfl rfl ?_
      have hI13 := ip_3911 (v := (nI (q + 1))) hI12 (rl_n (n := (q + 1)) (by omega))
      have hF13 := fr_s (k := 3911) (v := (nI (q + 1))) hF12 (by decide)
      exact to_rt (i := .return_) (tg := []) rfl rfl ⟨_, _, ⟨hI13, hF13, ⟨q + 1, rfl, (bq_put hS hb (by omega) q10 (he q10)).2, bm_put q10, by show ¬ upd _ _ _ _ = _; rw [ug_eq]; exact zed_m1 hS (he q10)⟩⟩, rfl⟩
set_option maxRecDepth 20000 in
theorem sf_X2_goOnFromEntry {X : Nat × (Nat → Int32)} {S a b : Nat} {sc : Nat → Int32} {ar : Nat → Nat → Int32} {lo : Nat → Int64} {ex : Bool} (hW : Wd S a b) (hI : Iv S sc ar) (k1 : Nat) (hk1 : k1 < S) (q xt : Nat) (hq : sc 3911 = nI q) (hb : BQ S a b (ar 41) (ar 42) (ar 43) (ar 44) xt q (ar 46) (ar 47)) (hs : kS S (ar 46) k1) (d : Nat)  : cv X S a b (d + 2) 24 [.ref 39, .int (nI k1)] sc ar lo ex (fun sc' ar' => Iv S sc' ar' ∧ Fr [3911] [46, 47] sc ar sc' ar' ∧ (∃ q2 : Nat, sc' 3911 = nI q2 ∧ BQ S a b (ar 41) (ar 42) (ar 43) (ar 44) xt q2 (ar' 46) (ar' 47) ∧ BM q q2 (ar 46) (ar 47) (ar' 46) (ar' 47) ∧ ((¬ kW S (ar 43) k1 → kS S (ar' 46) (S + k1)) ∧ (kW S (ar 43) k1 → kB S (ar 44) k1 < S → kS S (ar' 46) (S + kB S (ar 44) k1))))) := by
  obtain ⟨ha1, ha8, hb1, hb8, hab, hS1, hS⟩ := id hW
  refine cv_of (M := an_X2_goOnFromEntry) rfl (Nat.le_of_ble_eq_true rfl) ?_
  have hF : Fr [3911] [46, 47] sc ar sc ar := fr_0
  refine to_eq (fr' := (0, [(0, .ref 39), (1, .int (nI k1))], [], gh S a b sc ar lo, ex, 0, 0)) rfl ?_
  refine to_n 1 (fr' := (1, [(0, .ref 39), (1, .int (nI k1))], [.ref 39], gh S a b sc ar lo, ex, 0, 0)) rfl ?_
  refine to_get rfl rfl rfl rfl ?_
  refine to_n 1 (fr' := (5, [(0, .ref 39), (1, .int (nI k1))], [.int (nI k1), .ref 43], gh S a b sc ar lo, ex, 0, 0)) rfl ?_
  refine to_zalR (i := k1) (v := (ar 43 k1)) rfl rfl (by omega) (by omega) (congrFun (hF.2 43 (by decide)) k1) ?_
  refine to_if_ne (t := 23) rfl (fun q1 => ?_) (fun q1 => ?_)
  · refine to_n 1 (fr' := (24, [(0, .ref 39), (1, .int (nI k1))], [.ref 39], gh S a b sc ar lo, ex, 0, 0)) rfl ?_
    refine to_get rfl rfl rfl rfl ?_
    refine to_n 1 (fr' := (28, [(0, .ref 39), (1, .int (nI k1))], [.ref 39, .ref 1], gh S a b sc ar lo, ex, 0, 0)) rfl ?_
    refine to_get rfl rfl rfl rfl ?_
    refine to_n 1 (fr' := (32, [(0, .ref 39), (1, .int (nI k1))], [.int (nI k1), .ref 44, .ref 1], gh S a b sc ar lo, ex, 0, 0)) rfl ?_
    refine to_ialR (i := k1) (v := (ar 44 k1)) rfl (by decide) rfl (by omega) (by omega) (congrFun (hF.2 44 (by decide)) k1) ?_
    rcases has_or (x := (ar 44 k1)) (B := S) (by omega) with ⟨n2, hn2, e2⟩ | w2
    · rw [e2]
      refine to_cp (q := 2) (M1 := an_X0_has) (rest := []) rfl rfl (by decide) rfl ⟨_, rfl⟩ (sf_has_1 (n := n2)  (by omega) d) (fun x2 hx2 => ?_)
      obtain rfl := hx2
      refine to_eq (fr' := (36, [(0, .ref 39), (1, .int (nI k1))], [.int 1], gh S a b sc ar lo, ex, 0, 0)) rfl ?_
      refine to_n 3 (fr' := (41, [(0, .ref 39), (1, .int (nI k1))], [.ref 39, .ref 39], gh S a b sc ar lo, ex, 0, 0)) rfl ?_
      refine to_get rfl rfl rfl rfl ?_
      refine to_n 1 (fr' := (45, [(0, .ref 39), (1, .int (nI k1))], [.ref 39, .int (nI S), .ref 39], gh S a b sc ar lo, ex, 0, 0)) rfl ?_
      refine to_get rfl rfl rfl rfl ?_
      refine to_n 1 (fr' := (49, [(0, .ref 39), (1, .int (nI k1))], [.int (nI k1), .ref 44, .int (nI S), .ref 39], gh S a b sc ar lo, ex, 0, 0)) rfl ?_
      refine to_ialR (i := k1) (v := (nI n2)) rfl (by decide) rfl (by omega) (by omega) ((congrFun (hF.2 44 (by decide)) k1).trans e2) ?_
      refine to_addN (x := S) (y := n2) rfl ?_
      refine to_n 1 (fr' := (52, [(0, .ref 39), (1, .int (nI k1))], [.int (nI k1), .int (nI (S + n2)), .ref 39], gh S a b sc ar lo, ex, 0, 0)) rfl ?_
      refine to_cv (q := 26) (M1 := an_X2_see) (rest := []) rfl rfl (by decide) rfl ⟨_, rfl⟩ (sf_X2_see hW hI (S + n2) (by omega) (nI k1) (rt_n (n := k1) (by omega)) q xt hq hb (fun _ => Or.inr ⟨n2, hn2, rfl, Or.inr ⟨k1, hk1, rfl, hs, ⟨hk1, q1⟩, kB_n (by omega) e2⟩⟩) d) (fun sc3 ar3 hx3 => ?_)
      obtain ⟨hI3, hG3, hx3⟩ := hx3
      have hF3 := fr_t hF hG3 (by decide) (by decide)
      obtain ⟨q3, eq3, hb3, hm3, hs3⟩ := hx3
      have bm3 := bm_t bm_0 hm3
      refine to_eq (fr' := (55, [(0, .ref 39), (1, .int (nI k1))], [], gh S a b sc3 ar3 lo, ex, 0, 0)) rfl ?_
      exact to_rt (i := .return_) (tg := []) rfl rfl ⟨_, _, ⟨hI3, hF3, ⟨q3, eq3, hb3, hm3, fun w => absurd ⟨hk1, q1⟩ w, fun _ _ => by rw [kB_n (by omega) e2]; exact ⟨by omega, hs3⟩⟩⟩, rfl⟩
    · refine to_cp (q := 2) (M1 := an_X0_has) (rest := []) rfl rfl (by decide) rfl ⟨_, rfl⟩ (sf_has_0  w2 d) (fun x2 hx2 => ?_)
      obtain rfl := hx2
      refine to_eq (fr' := (36, [(0, .ref 39), (1, .int (nI k1))], [.int 0], gh S a b sc ar lo, ex, 0, 0)) rfl ?_
      refine to_n 1 (fr' := (55, [(0, .ref 39), (1, .int (nI k1))], [], gh S a b sc ar lo, ex, 0, 0)) rfl ?_
      exact to_rt (i := .return_) (tg := []) rfl rfl ⟨_, _, ⟨hI, hF, ⟨q, hq, hb, bm_0, fun w => absurd ⟨hk1, q1⟩ w, fun _ u => absurd u (kB_no hS w2)⟩⟩, rfl⟩
  · refine to_n 2 (fr' := (11, [(0, .ref 39), (1, .int (nI k1))], [.ref 39, .ref 39], gh S a b sc ar lo, ex, 0, 0)) rfl ?_
    refine to_get rfl rfl rfl rfl ?_
    refine to_n 1 (fr' := (15, [(0, .ref 39), (1, .int (nI k1))], [.int (nI k1), .int (nI S), .ref 39], gh S a b sc ar lo, ex, 0, 0)) rfl ?_
    refine to_addN (x := S) (y := k1) rfl ?_
    refine to_n 1 (fr' := (17, [(0, .ref 39), (1, .int (nI k1))], [.int (nI k1), .int (nI (S + k1)), .ref 39], gh S a b sc ar lo, ex, 0, 0)) rfl ?_
    refine to_cv (q := 26) (M1 := an_X2_see) (rest := []) rfl rfl (by decide) rfl ⟨_, rfl⟩ (sf_X2_see hW hI (S + k1) (by omega) (nI k1) (rt_n (n := k1) (by omega)) q xt hq hb (fun _ => Or.inr ⟨k1, hk1, rfl, Or.inl ⟨rfl, hs, fun w => w.2 q1⟩⟩) d) (fun sc4 ar4 hx4 => ?_)
    obtain ⟨hI4, hG4, hx4⟩ := hx4
    have hF4 := fr_t hF hG4 (by decide) (by decide)
    obtain ⟨q4, eq4, hb4, hm4, hs4⟩ := hx4
    have bm4 := bm_t bm_0 hm4
    refine to_eq (fr' := (20, [(0, .ref 39), (1, .int (nI k1))], [], gh S a b sc4 ar4 lo, ex, 0, 0)) rfl ?_
    refine to_n 1 (fr' := (55, [(0, .ref 39), (1, .int (nI k1))], [], gh S a b sc4 ar4 lo, ex, 0, 0)) rfl ?_
    exact to_rt (i := .return_) (tg := []) rfl rfl ⟨_, _, ⟨hI4, hF4, ⟨q4, eq4, hb4, hm4, fun _ => ⟨by omega, hs4⟩, fun w => absurd q1 w.2⟩⟩, rfl⟩
set_option maxRecDepth 20000 in
theorem sf_X2_goOnFromExit {X : Nat × (Nat → Int32)} {S a b : Nat} {sc : Nat → Int32} {ar : Nat → Nat → Int32} {lo : Nat → Int64} {ex : Bool} (hW : Wd S a b) (hI : Iv S sc ar) (k1 : Nat) (hk1 : k1 < S) (q xt t : Nat) (ht9 : t < S) (hg : Gd S a b ar) (hq : sc 3911 = nI q) (hb : BQ S a b (ar 41) (ar 42) (ar 43) (ar 44) xt q (ar 46) (ar 47)) (hs : kS S (ar 46) (S + k1)) (ht : sc 3912 = nI t) (hcw : ∀ c, kW S (ar 43) c → kW S (ar 41) c) (d : Nat)  : ci X S a b (d + 2) 25 [.ref 39, .int (nI k1)] sc ar lo ex (fun x sc' ar' => Iv S sc' ar' ∧ Fr [3911] [46, 47] sc ar sc' ar' ∧ rl x 2 ∧ ((x = 1 ∧ (∃ q2 : Nat, sc' 3911 = nI q2 ∧ BQ S a b (ar 41) (ar 42) (ar 43) (ar 44) xt q2 (ar' 46) (ar' 47) ∧ BM q q2 (ar 46) (ar 47) (ar' 46) (ar' 47)) ∧ zbs S a b k1 t) ∨ (x = 0 ∧ (∃ q2 : Nat, sc' 3911 = nI q2 ∧ BQ S a b (ar 41) (ar 42) (ar 43) (ar 44) xt q2 (ar' 46) (ar' 47) ∧ BM q q2 (ar 46) (ar 47) (ar' 46) (ar' 47)) ∧ ((∀ d, zbs S a b k1 d → kW S (ar 41) d → kS S (ar' 46) d) ∧ (kW S (ar 43) k1 → kS S (ar' 46) k1) ∧ ¬ zbs S a b k1 t)))) := by
  obtain ⟨ha1, ha8, hb1, hb8, hab, hS1, hS⟩ := id hW
  refine ci_of (M := an_X2_goOnFromExit) rfl (Nat.le_of_ble_eq_true rfl) ?_
  have hF : Fr [3911] [46, 47] sc ar sc ar := fr_0
  refine to_eq (fr' := (0, [(0, .ref 39), (1, .int (nI k1))], [], gh S a b sc ar lo, ex, 0, 0)) rfl ?_
  have c2 : ∀ m : Nat, ∀ (i : Nat) (q1 : Nat) (sc1 : Nat → Int32) (ar1 : Nat → Nat → Int32), i + m = 4 → sc1 3911 = nI q1 → BQ S a b (ar 41) (ar 42) (ar 43) (ar 44) xt q1 (ar1 46) (ar1 47) → BM q q1 (ar 46) (ar 47) (ar1 46) (ar1 47) → BX S a b t k1 (ar 41) (ar1 46) i → Iv S sc1 ar1 → Fr [3911] [46, 47] sc ar sc1 ar1 → ag_To X (d + 1) an_X2_goOnFromExit (2, [(0, .ref 39), (1, .int (nI k1)), (2, .int (nI i))], [], gh S a b sc1 ar1 lo, ex, 0, 0) (qi S a b lo ex (fun x sc' ar' => Iv S sc' ar' ∧ Fr [3911] [46, 47] sc ar sc' ar' ∧ rl x 2 ∧ ((x = 1 ∧ (∃ q2 : Nat, sc' 3911 = nI q2 ∧ BQ S a b (ar 41) (ar 42) (ar 43) (ar 44) xt q2 (ar' 46) (ar' 47) ∧ BM q q2 (ar 46) (ar 47) (ar' 46) (ar' 47)) ∧ zbs S a b k1 t) ∨ (x = 0 ∧ (∃ q2 : Nat, sc' 3911 = nI q2 ∧ BQ S a b (ar 41) (ar 42) (ar 43) (ar 44) xt q2 (ar' 46) (ar' 47) ∧ BM q q2 (ar 46) (ar 47) (ar' 46) (ar' 47)) ∧ ((∀ d, zbs S a b k1 d → kW S (ar 41) d → kS S (ar' 46) d) ∧ (kW S (ar 43) k1 → kS S (ar' 46) k1) ∧ ¬ zbs S a b k1 t))))) := by
    intro m
    induction m with
    | zero =>
      intro i q1 sc1 ar1 hm hc2_0 hc2_1 hc2_2 hc2_3 hI1 hF1
      refine to_n 2 (fr' := (4, [(0, .ref 39), (1, .int (nI k1)), (2, .int (nI i))], [.int 4, .int (nI i)], gh S a b sc1 ar1 lo, ex, 0, 0)) rfl ?_
      refine to_nc_ge_T (t := 68) (x := i) (y := 4) rfl (by omega) (by omega) (by omega) ?_
      refine to_n 1 (fr' := (69, [(0, .ref 39), (1, .int (nI k1)), (2, .int (nI i))], [.ref 39], gh S a b sc1 ar1 lo, ex, 0, 0)) rfl ?_
      refine to_get rfl rfl rfl rfl ?_
      refine to_n 1 (fr' := (73, [(0, .ref 39), (1, .int (nI k1)), (2, .int (nI i))], [.int (nI k1), .ref 43], gh S a b sc1 ar1 lo, ex, 0, 0)) rfl ?_
      refine to_zalR (i := k1) (v := (ar 43 k1)) rfl rfl (by omega) (by omega) (congrFun (hF1.2 43 (by decide)) k1) ?_
      refine to_if_eq (t := 88) rfl (fun q2 => ?_) (fun q2 => ?_)
      · refine to_n 1 (fr' := (89, [(0, .ref 39), (1, .int (nI k1)), (2, .int (nI i))], [.int 0], gh S a b sc1 ar1 lo, ex, 0, 0)) rfl ?_
        exact to_rt (i := .ireturn) (tg := []) rfl rfl ⟨_, _, _, ⟨hI1, hF1, ⟨rl_n (n := 0) (by omega), (Or.inr ⟨rfl, ⟨q1, hc2_0, hc2_1, hc2_2⟩, (bx_4 ht9 (by have e9 : i = 4 := (by omega); rw [e9] at hc2_3; exact hc2_3)).1, fun w => absurd q2 w.2, (bx_4 ht9 (by have e9 : i = 4 := (by omega); rw [e9] at hc2_3; exact hc2_3)).2⟩)⟩⟩, rfl⟩
      · refine to_n 3 (fr' := (80, [(0, .ref 39), (1, .int (nI k1)), (2, .int (nI i))], [.ref 39, .int (nI k1), .ref 39], gh S a b sc1 ar1 lo, ex, 0, 0)) rfl ?_
        refine to_get rfl rfl rfl rfl ?_
        refine to_n 1 (fr' := (84, [(0, .ref 39), (1, .int (nI k1)), (2, .int (nI i))], [.int (nI k1), .int (nI S), .int (nI k1), .ref 39], gh S a b sc1 ar1 lo, ex, 0, 0)) rfl ?_
        refine to_addN (x := S) (y := k1) rfl ?_
        refine to_cv (q := 26) (M1 := an_X2_see) (rest := []) rfl rfl (by decide) rfl ⟨_, rfl⟩ (sf_X2_see hW hI1 k1 (by omega) (nI (S + k1)) (rt_n (n := (S + k1)) (by omega)) q1 xt hc2_0 (by rw [hF1.2 41 (by decide), hF1.2 42 (by decide), hF1.2 43 (by decide), hF1.2 44 (by decide)]; exact hc2_1) (by rw [hF1.2 41 (by decide), hF1.2 42 (by decide), hF1.2 43 (by decide), hF1.2 44 (by decide)]; exact (fun _ => Or.inl ⟨hk1, hcw k1 ⟨hk1, q2⟩, Or.inr (Or.inr ⟨rfl, (bm_s hc2_2 hs), ⟨hk1, q2⟩⟩)⟩)) d) (fun sc3 ar3 hx3 => ?_)
        obtain ⟨hI3, hG3, hx3⟩ := hx3
        have hF3 := fr_t hF1 hG3 (by decide) (by decide)
        simp only [show ar1 41 = ar 41 from hF1.2 41 (by decide), show ar1 42 = ar 42 from hF1.2 42 (by decide), show ar1 43 = ar 43 from hF1.2 43 (by decide), show ar1 44 = ar 44 from hF1.2 44 (by decide)] at hx3
        obtain ⟨q3, eq3, hb3, hm3, hs3⟩ := hx3
        have bm3 := bm_t hc2_2 hm3
        refine to_eq (fr' := (88, [(0, .ref 39), (1, .int (nI k1)), (2, .int (nI i))], [], gh S a b sc3 ar3 lo, ex, 0, 0)) rfl ?_
        refine to_n 1 (fr' := (89, [(0, .ref 39), (1, .int (nI k1)), (2, .int (nI i))], [.int 0], gh S a b sc3 ar3 lo, ex, 0, 0)) rfl ?_
        exact to_rt (i := .ireturn) (tg := []) rfl rfl ⟨_, _, _, ⟨hI3, hF3, ⟨rl_n (n := 0) (by omega), (Or.inr ⟨rfl, ⟨q3, eq3, hb3, bm3⟩, fun d9 z9 w9 => bm_s hm3 ((bx_4 ht9 (by have e9 : i = 4 := (by omega); rw [e9] at hc2_3; exact hc2_3)).1 d9 z9 w9), fun _ => ⟨by omega, hs3⟩, (bx_4 ht9 (by have e9 : i = 4 := (by omega); rw [e9] at hc2_3; exact hc2_3)).2⟩)⟩⟩, rfl⟩
    | succ m ih =>
      intro i q1 sc1 ar1 hm hc2_0 hc2_1 hc2_2 hc2_3 hI1 hF1
      refine to_n 2 (fr' := (4, [(0, .ref 39), (1, .int (nI k1)), (2, .int (nI i))], [.int 4, .int (nI i)], gh S a b sc1 ar1 lo, ex, 0, 0)) rfl ?_
      refine to_nc_ge_F (t := 68) (x := i) (y := 4) rfl (by omega) (by omega) (by omega) ?_
      refine to_n 1 (fr' := (8, [(0, .ref 39), (1, .int (nI k1)), (2, .int (nI i))], [.ref 39], gh S a b sc1 ar1 lo, ex, 0, 0)) rfl ?_
      refine to_get rfl rfl rfl rfl ?_
      refine to_get rfl rfl rfl rfl ?_
      refine to_n 2 (fr' := (16, [(0, .ref 39), (1, .int (nI k1)), (2, .int (nI i))], [.int (nI k1), .int 4, .ref 4], gh S a b sc1 ar1 lo, ex, 0, 0)) rfl ?_
      refine to_mulN (x := 4) (y := k1) rfl ?_
      refine to_n 1 (fr' := (18, [(0, .ref 39), (1, .int (nI k1)), (2, .int (nI i))], [.int (nI i), .int (nI (4 * k1)), .ref 4], gh S a b sc1 ar1 lo, ex, 0, 0)) rfl ?_
      refine to_addN (x := (4 * k1)) (y := i) rfl ?_
      refine to_ialR (i := ((4 * k1) + i)) (v := (ar 4 ((4 * k1) + i))) rfl (by decide) rfl (by omega) (by omega) (congrFun (hF1.2 4 (by decide)) ((4 * k1) + i)) ?_
      refine to_n 3 (fr' := (23, [(0, .ref 39), (1, .int (nI k1)), (2, .int (nI i)), (3, .int (ar 4 ((4 * k1) + i)))], [.ref 39, .int (ar 4 ((4 * k1) + i))], gh S a b sc1 ar1 lo, ex, 0, 0)) rfl ?_
      refine to_getR (v := (sc 3912)) rfl rfl rfl rfl (hF1.1 3912 (by decide)) ?_
      refine to_ic_ne (t := 31) rfl (fun q4 => ?_) (fun q4 => ?_)
      · refine to_n 1 (fr' := (32, [(0, .ref 39), (1, .int (nI k1)), (2, .int (nI i)), (3, .int (ar 4 ((4 * k1) + i)))], [.ref 39], gh S a b sc1 ar1 lo, ex, 0, 0)) rfl ?_
        refine to_get rfl rfl rfl rfl ?_
        refine to_n 1 (fr' := (36, [(0, .ref 39), (1, .int (nI k1)), (2, .int (nI i)), (3, .int (ar 4 ((4 * k1) + i)))], [.int (ar 4 ((4 * k1) + i)), .ref 1], gh S a b sc1 ar1 lo, ex, 0, 0)) rfl ?_
        rcases has_or (x := (ar 4 ((4 * k1) + i))) (B := S) (by omega) with ⟨n5, hn5, e5⟩ | w5
        · rw [e5]
          refine to_cp (q := 2) (M1 := an_X0_has) (rest := []) rfl rfl (by decide) rfl ⟨_, rfl⟩ (sf_has_1 (n := n5)  (by omega) d) (fun x5 hx5 => ?_)
          obtain rfl := hx5
          refine to_eq (fr' := (39, [(0, .ref 39), (1, .int (nI k1)), (2, .int (nI i)), (3, .int (nI n5))], [.int 1], gh S a b sc1 ar1 lo, ex, 0, 0)) rfl ?_
          refine to_n 2 (fr' := (43, [(0, .ref 39), (1, .int (nI k1)), (2, .int (nI i)), (3, .int (nI n5))], [.ref 39], gh S a b sc1 ar1 lo, ex, 0, 0)) rfl ?_
          refine to_get rfl rfl rfl rfl ?_
          refine to_n 1 (fr' := (47, [(0, .ref 39), (1, .int (nI k1)), (2, .int (nI i)), (3, .int (nI n5))], [.int (nI n5), .ref 41], gh S a b sc1 ar1 lo, ex, 0, 0)) rfl ?_
          refine to_zalR (i := n5) (v := (ar 41 n5)) rfl rfl (by omega) (by omega) (congrFun (hF1.2 41 (by decide)) n5) ?_
          refine to_if_eq (t := 62) rfl (fun q6 => ?_) (fun q6 => ?_)
          · refine to_n 1 (fr' := (65, [(0, .ref 39), (1, .int (nI k1)), (2, .int ((nI i) + 1)), (3, .int (nI n5))], [], gh S a b sc1 ar1 lo, ex, 0, 0)) rfl ?_
            rw [nI_1 i]
            refine to_n 1 (fr' := (2, [(0, .ref 39), (1, .int (nI k1)), (2, .int (nI (i + 1))), (3, .int (nI n5))], [], gh S a b sc1 ar1 lo, ex, 0, 0)) rfl ?_
            refine to_lv (lv := [(0, .ref 39), (1, .int (nI k1)), (2, .int (nI (i + 1)))]) rfl ⟨rfl, rfl, rfl, trivial⟩ ?_
            exact ih (i + 1) q1 sc1 ar1 (by omega) (hc2_0) hc2_1 hc2_2 (bx_s hc2_3 (fun _ _ => rfl) (fun d9 h9 z9 => ⟨fun w9 => absurd q6 ((show n5 = d9 from (nI_eq (by omega) (by omega)).mp ((e5).symm.trans ((hg.2.2 k1 i hk1 (by omega)).trans z9))) ▸ w9.2), (fun e8 => q4 (by rw [(hg.2.2 k1 i hk1 (by omega)), z9, e8, ht]))⟩)) hI1 hF1
          · refine to_n 3 (fr' := (54, [(0, .ref 39), (1, .int (nI k1)), (2, .int (nI i)), (3, .int (nI n5))], [.ref 39, .int (nI n5), .ref 39], gh S a b sc1 ar1 lo, ex, 0, 0)) rfl ?_
            refine to_get rfl rfl rfl rfl ?_
            refine to_n 1 (fr' := (58, [(0, .ref 39), (1, .int (nI k1)), (2, .int (nI i)), (3, .int (nI n5))], [.int (nI k1), .int (nI S), .int (nI n5), .ref 39], gh S a b sc1 ar1 lo, ex, 0, 0)) rfl ?_
            refine to_addN (x := S) (y := k1) rfl ?_
            refine to_cv (q := 26) (M1 := an_X2_see) (rest := []) rfl rfl (by decide) rfl ⟨_, rfl⟩ (sf_X2_see hW hI1 n5 (by omega) (nI (S + k1)) (rt_n (n := (S + k1)) (by omega)) q1 xt hc2_0 (by rw [hF1.2 41 (by decide), hF1.2 42 (by decide), hF1.2 43 (by decide), hF1.2 44 (by decide)]; exact hc2_1) (by rw [hF1.2 41 (by decide), hF1.2 42 (by decide), hF1.2 43 (by decide), hF1.2 44 (by decide)]; exact (fun _ => Or.inl ⟨hn5, ⟨hn5, q6⟩, Or.inr (Or.inl ⟨k1, hk1, rfl, (bm_s hc2_2 hs), fun e9 => zbs_ir ha1 ha8 hS (e9 ▸ (show zbs S a b k1 n5 from ⟨hk1, hn5, i, by omega, (hg.2.2 k1 i hk1 (by omega)).symm.trans e5⟩)), (show zbs S a b k1 n5 from ⟨hk1, hn5, i, by omega, (hg.2.2 k1 i hk1 (by omega)).symm.trans e5⟩)⟩)⟩)) d) (fun sc7 ar7 hx7 => ?_)
            obtain ⟨hI7, hG7, hx7⟩ := hx7
            have hF7 := fr_t hF1 hG7 (by decide) (by decide)
            simp only [show ar1 41 = ar 41 from hF1.2 41 (by decide), show ar1 42 = ar 42 from hF1.2 42 (by decide), show ar1 43 = ar 43 from hF1.2 43 (by decide), show ar1 44 = ar 44 from hF1.2 44 (by decide)] at hx7
            obtain ⟨q7, eq7, hb7, hm7, hs7⟩ := hx7
            have bm7 := bm_t hc2_2 hm7
            refine to_eq (fr' := (62, [(0, .ref 39), (1, .int (nI k1)), (2, .int (nI i)), (3, .int (nI n5))], [], gh S a b sc7 ar7 lo, ex, 0, 0)) rfl ?_
            refine to_n 1 (fr' := (65, [(0, .ref 39), (1, .int (nI k1)), (2, .int ((nI i) + 1)), (3, .int (nI n5))], [], gh S a b sc7 ar7 lo, ex, 0, 0)) rfl ?_
            rw [nI_1 i]
            refine to_n 1 (fr' := (2, [(0, .ref 39), (1, .int (nI k1)), (2, .int (nI (i + 1))), (3, .int (nI n5))], [], gh S a b sc7 ar7 lo, ex, 0, 0)) rfl ?_
            refine to_lv (lv := [(0, .ref 39), (1, .int (nI k1)), (2, .int (nI (i + 1)))]) rfl ⟨rfl, rfl, rfl, trivial⟩ ?_
            exact ih (i + 1) q7 sc7 ar7 (by omega) (eq7) hb7 bm7 (bx_s hc2_3 hm7.2.1 (fun d9 h9 z9 => ⟨fun w9 => (show n5 = d9 from (nI_eq (by omega) (by omega)).mp ((e5).symm.trans ((hg.2.2 k1 i hk1 (by omega)).trans z9))) ▸ ⟨by omega, hs7⟩, (fun e8 => q4 (by rw [(hg.2.2 k1 i hk1 (by omega)), z9, e8, ht]))⟩)) hI7 hF7
        · refine to_cp (q := 2) (M1 := an_X0_has) (rest := []) rfl rfl (by decide) rfl ⟨_, rfl⟩ (sf_has_0  w5 d) (fun x5 hx5 => ?_)
          obtain rfl := hx5
          refine to_eq (fr' := (39, [(0, .ref 39), (1, .int (nI k1)), (2, .int (nI i)), (3, .int (ar 4 ((4 * k1) + i)))], [.int 0], gh S a b sc1 ar1 lo, ex, 0, 0)) rfl ?_
          refine to_n 2 (fr' := (65, [(0, .ref 39), (1, .int (nI k1)), (2, .int ((nI i) + 1)), (3, .int (ar 4 ((4 * k1) + i)))], [], gh S a b sc1 ar1 lo, ex, 0, 0)) rfl ?_
          rw [nI_1 i]
          refine to_n 1 (fr' := (2, [(0, .ref 39), (1, .int (nI k1)), (2, .int (nI (i + 1))), (3, .int (ar 4 ((4 * k1) + i)))], [], gh S a b sc1 ar1 lo, ex, 0, 0)) rfl ?_
          refine to_lv (lv := [(0, .ref 39), (1, .int (nI k1)), (2, .int (nI (i + 1)))]) rfl ⟨rfl, rfl, rfl, trivial⟩ ?_
          exact ih (i + 1) q1 sc1 ar1 (by omega) (hc2_0) hc2_1 hc2_2 (bx_s hc2_3 (fun _ _ => rfl) (fun d9 h9 z9 => absurd (by rw [(hg.2.2 k1 i hk1 (by omega)), z9]; exact has_in h9 (by omega)) w5)) hI1 hF1
      · refine to_n 1 (fr' := (30, [(0, .ref 39), (1, .int (nI k1)), (2, .int (nI i)), (3, .int (ar 4 ((4 * k1) + i)))], [.int 1], gh S a b sc1 ar1 lo, ex, 0, 0)) rfl ?_
        exact to_rt (i := .ireturn) (tg := []) rfl rfl ⟨_, _, _, ⟨hI1, hF1, ⟨rl_n (n := 1) (by omega), (Or.inl ⟨rfl, ⟨q1, hc2_0, hc2_1, hc2_2⟩, hk1, ht9, i, by omega, (hg.2.2 k1 i hk1 (by omega)).symm.trans (q4.trans ht)⟩)⟩⟩, rfl⟩
  refine to_n 2 (fr' := (2, [(0, .ref 39), (1, .int (nI k1)), (2, .int 0)], [], gh S a b sc ar lo, ex, 0, 0)) rfl ?_
  exact c2 (4 - 0) 0 q sc ar (by omega) (hq) hb bm_0 bx_0 hI hF
set_option maxRecDepth 20000 in
theorem sf_X2_search {X : Nat × (Nat → Int32)} {S a b : Nat} {sc : Nat → Int32} {ar : Nat → Nat → Int32} {lo : Nat → Int64} {ex : Bool} (hW : Wd S a b) (hI : Iv S sc ar) (x1 : Int32) (hx1 : rq x1 S) (xt t : Nat) (ht9 : t < S) (hg : Gd S a b ar) (ht : sc 3912 = nI t) (hcw : ∀ c, kW S (ar 43) c → kW S (ar 41) c) (hMW : ∀ c, kW S (ar 42) c → kW S (ar 41) c) (hxt : (x1 = -1 → xt = S) ∧ (∀ n : Nat, n < 100 → x1 = nI n → xt = n) ∧ (xt < S → kW S (ar 41) xt)) (d : Nat)  : ci X S a b (d + 3) 23 [.ref 39, .int x1] sc ar lo ex (fun x sc' ar' => Iv S sc' ar' ∧ Fr [3911] [46, 47] sc ar sc' ar' ∧ rq x S ∧ (∃ q2 : Nat, BQ S a b (ar 41) (ar 42) (ar 43) (ar 44) xt q2 (ar' 46) (ar' 47) ∧ ((x = -1 ∧ BD S a b t (ar 41) (ar 43) (ar 44) (ar' 46) (ar' 47) q2 ∧ (∀ c, kW S (ar 42) c → kS S (ar' 46) c) ∧ (xt < S → kS S (ar' 46) xt)) ∨ ∃ l : Nat, l < S ∧ x = nI l ∧ kS S (ar' 46) (S + l) ∧ zbs S a b l t))) := by
  obtain ⟨ha1, ha8, hb1, hb8, hab, hS1, hS⟩ := id hW
  refine ci_of (M := an_X2_search) rfl (Nat.le_of_ble_eq_true rfl) ?_
  have hF : Fr [3911] [46, 47] sc ar sc ar := fr_0
  refine to_eq (fr' := (0, [(0, .ref 39), (1, .int x1)], [], gh S a b sc ar lo, ex, 0, 0)) rfl ?_
  rcases hx1 with rfl | ⟨n1, hn1, rfl⟩
  · refine to_eq (fr' := (0, [(0, .ref 39), (1, .int (-1))], [], gh S a b sc ar lo, ex, 0, 0)) rfl ?_
    have hxe : xt = S := hxt.1 rfl
    have c65 : ∀ m : Nat, ∀ (i : Nat) (q1 : Nat) (sc2 : Nat → Int32) (ar2 : Nat → Nat → Int32), (2 * S) ≤ i + m → sc2 3911 = nI q1 → BQ S a b (ar 41) (ar 42) (ar 43) (ar 44) xt q1 (ar2 46) (ar2 47) → BD S a b t (ar 41) (ar 43) (ar 44) (ar2 46) (ar2 47) i → (∀ c, kW S (ar 42) c → kS S (ar2 46) c) → (xt < S → kS S (ar2 46) xt) → i ≤ (2 * S) → Iv S sc2 ar2 → Fr [3911] [46, 47] sc ar sc2 ar2 → ag_To X (d + 2) an_X2_search (65, [(0, .ref 39), (1, .int (-1)), (2, .int (nI i))], [], gh S a b sc2 ar2 lo, ex, 0, 0) (qi S a b lo ex (fun x sc' ar' => Iv S sc' ar' ∧ Fr [3911] [46, 47] sc ar sc' ar' ∧ rq x S ∧ (∃ q2 : Nat, BQ S a b (ar 41) (ar 42) (ar 43) (ar 44) xt q2 (ar' 46) (ar' 47) ∧ ((x = -1 ∧ BD S a b t (ar 41) (ar 43) (ar 44) (ar' 46) (ar' 47) q2 ∧ (∀ c, kW S (ar 42) c → kS S (ar' 46) c) ∧ (xt < S → kS S (ar' 46) xt)) ∨ ∃ l : Nat, l < S ∧ x = nI l ∧ kS S (ar' 46) (S + l) ∧ zbs S a b l t)))) := by
      intro m
      induction m with
      | zero =>
        intro i q1 sc2 ar2 hm hc65_0 hc65_1 hc65_2 hc65_3 hc65_4 hc65_5 hI2 hF2
        have hq2 := bq_le hS hc65_1
        refine to_n 2 (fr' := (67, [(0, .ref 39), (1, .int (-1)), (2, .int (nI i))], [.ref 39, .int (nI i)], gh S a b sc2 ar2 lo, ex, 0, 0)) rfl ?_
        refine to_getR (v := (nI q1)) rfl rfl rfl rfl hc65_0 ?_
        refine to_nc_ge (t := 131) (x := i) (y := q1) rfl (by omega) (by omega) (fun q3 => ?_) (fun q3 => ?_)
        · refine to_n 1 (fr' := (132, [(0, .ref 39), (1, .int (-1)), (2, .int (nI i))], [.int (-1)], gh S a b sc2 ar2 lo, ex, 0, 0)) rfl ?_
          exact to_rt (i := .ireturn) (tg := []) rfl rfl ⟨_, _, _, ⟨hI2, hF2, ⟨rq_m, ⟨q1, hc65_1, Or.inl ⟨rfl, bd_le hc65_2 (by omega), hc65_3, hc65_4⟩⟩⟩⟩, rfl⟩
        · refine to_n 2 (fr' := (75, [(0, .ref 39), (1, .int (-1)), (2, .int (nI i))], [.ref 39, .int (nI i)], gh S a b sc2 ar2 lo, ex, 0, 0)) rfl ?_
          refine to_get rfl rfl rfl rfl ?_
          refine to_len rfl (by decide) rfl (by decide) ?_
          refine to_eq (fr' := (79, [(0, .ref 39), (1, .int (-1)), (2, .int (nI i))], [.int (nI (2 * S)), .int (nI i)], gh S a b sc2 ar2 lo, ex, 0, 0)) rfl ?_
          refine to_nc_ge_T (t := 131) (x := i) (y := (2 * S)) rfl (by omega) (by omega) (by omega) ?_
          refine to_n 1 (fr' := (132, [(0, .ref 39), (1, .int (-1)), (2, .int (nI i))], [.int (-1)], gh S a b sc2 ar2 lo, ex, 0, 0)) rfl ?_
          exact to_rt (i := .ireturn) (tg := []) rfl rfl ⟨_, _, _, ⟨hI2, hF2, ⟨rq_m, ⟨q1, hc65_1, Or.inl ⟨rfl, bd_le hc65_2 (by omega), hc65_3, hc65_4⟩⟩⟩⟩, rfl⟩
      | succ m ih =>
        intro i q1 sc2 ar2 hm hc65_0 hc65_1 hc65_2 hc65_3 hc65_4 hc65_5 hI2 hF2
        have hq2 := bq_le hS hc65_1
        refine to_n 2 (fr' := (67, [(0, .ref 39), (1, .int (-1)), (2, .int (nI i))], [.ref 39, .int (nI i)], gh S a b sc2 ar2 lo, ex, 0, 0)) rfl ?_
        refine to_getR (v := (nI q1)) rfl rfl rfl rfl hc65_0 ?_
        refine to_nc_ge (t := 131) (x := i) (y := q1) rfl (by omega) (by omega) (fun q4 => ?_) (fun q4 => ?_)
        · refine to_n 1 (fr' := (132, [(0, .ref 39), (1, .int (-1)), (2, .int (nI i))], [.int (-1)], gh S a b sc2 ar2 lo, ex, 0, 0)) rfl ?_
          exact to_rt (i := .ireturn) (tg := []) rfl rfl ⟨_, _, _, ⟨hI2, hF2, ⟨rq_m, ⟨q1, hc65_1, Or.inl ⟨rfl, bd_le hc65_2 (by omega), hc65_3, hc65_4⟩⟩⟩⟩, rfl⟩
        · refine to_n 2 (fr' := (75, [(0, .ref 39), (1, .int (-1)), (2, .int (nI i))], [.ref 39, .int (nI i)], gh S a b sc2 ar2 lo, ex, 0, 0)) rfl ?_
          refine to_get rfl rfl rfl rfl ?_
          refine to_len rfl (by decide) rfl (by decide) ?_
          refine to_eq (fr' := (79, [(0, .ref 39), (1, .int (-1)), (2, .int (nI i))], [.int (nI (2 * S)), .int (nI i)], gh S a b sc2 ar2 lo, ex, 0, 0)) rfl ?_
          refine to_nc_ge (t := 131) (x := i) (y := (2 * S)) rfl (by omega) (by omega) (fun q5 => ?_) (fun q5 => ?_)
          · refine to_n 1 (fr' := (132, [(0, .ref 39), (1, .int (-1)), (2, .int (nI i))], [.int (-1)], gh S a b sc2 ar2 lo, ex, 0, 0)) rfl ?_
            exact to_rt (i := .ireturn) (tg := []) rfl rfl ⟨_, _, _, ⟨hI2, hF2, ⟨rq_m, ⟨q1, hc65_1, Or.inl ⟨rfl, bd_le hc65_2 (by omega), hc65_3, hc65_4⟩⟩⟩⟩, rfl⟩
          · refine to_n 1 (fr' := (83, [(0, .ref 39), (1, .int (-1)), (2, .int (nI i))], [.ref 39], gh S a b sc2 ar2 lo, ex, 0, 0)) rfl ?_
            refine to_get rfl rfl rfl rfl ?_
            refine to_n 1 (fr' := (87, [(0, .ref 39), (1, .int (-1)), (2, .int (nI i))], [.int (nI i), .ref 47], gh S a b sc2 ar2 lo, ex, 0, 0)) rfl ?_
            obtain ⟨n6, hn6, e6, hs6⟩ := bq_at hS hc65_1 (i := i) (by omega)
            refine to_ialR (i := i) (v := nI n6) rfl (by decide) rfl (by omega) (by omega) e6 ?_
            refine to_n 3 (fr' := (91, [(0, .ref 39), (1, .int (-1)), (2, .int (nI i)), (3, .int (nI n6))], [.ref 39, .int (nI n6)], gh S a b sc2 ar2 lo, ex, 0, 0)) rfl ?_
            refine to_get rfl rfl rfl rfl ?_
            refine to_nc_ge (t := 105) (x := n6) (y := S) rfl (by omega) (by omega) (fun q7 => ?_) (fun q7 => ?_)
            · refine to_n 3 (fr' := (108, [(0, .ref 39), (1, .int (-1)), (2, .int (nI i)), (3, .int (nI n6))], [.ref 39, .int (nI n6), .ref 39], gh S a b sc2 ar2 lo, ex, 0, 0)) rfl ?_
              refine to_get rfl rfl rfl rfl ?_
              refine to_subN (x := n6) (y := S) rfl (by omega) ?_
              refine to_ci (q := 25) (M1 := an_X2_goOnFromExit) (rest := []) rfl rfl (by decide) rfl ⟨_, rfl⟩ (sf_X2_goOnFromExit hW hI2 (n6 - S) (by omega) q1 xt t ht9 (gd_fr hg hF2 (by decide) (by decide) (by decide)) hc65_0 (by rw [hF2.2 41 (by decide), hF2.2 42 (by decide), hF2.2 43 (by decide), hF2.2 44 (by decide)]; exact hc65_1) (by rw [show S + (n6 - S) = n6 by omega]; exact hs6) ((hF2.1 3912 (by decide)).trans ht) (by rw [hF2.2 41 (by decide), hF2.2 43 (by decide)]; exact hcw) d) (fun x8 sc8 ar8 hx8 => ?_)
              obtain ⟨hI8, hG8, -, hx8⟩ := hx8
              have hF8 := fr_t hF2 hG8 (by decide) (by decide)
              simp only [show ar2 41 = ar 41 from hF2.2 41 (by decide), show ar2 42 = ar 42 from hF2.2 42 (by decide), show ar2 43 = ar 43 from hF2.2 43 (by decide), show ar2 44 = ar 44 from hF2.2 44 (by decide)] at hx8
              rcases hx8 with ⟨rfl, ⟨q8, eq8, hb8, hm8⟩, hz8⟩ | ⟨rfl, ⟨q8, eq8, hb8, hm8⟩, hc8⟩
              · refine to_eq (fr' := (115, [(0, .ref 39), (1, .int (-1)), (2, .int (nI i)), (3, .int (nI n6))], [.int 1], gh S a b sc8 ar8 lo, ex, 0, 0)) rfl ?_
                refine to_n 3 (fr' := (120, [(0, .ref 39), (1, .int (-1)), (2, .int (nI i)), (3, .int (nI n6))], [.ref 39, .int (nI n6)], gh S a b sc8 ar8 lo, ex, 0, 0)) rfl ?_
                refine to_get rfl rfl rfl rfl ?_
                refine to_subN (x := n6) (y := S) rfl (by omega) ?_
                exact to_rt (i := .ireturn) (tg := []) rfl rfl ⟨_, _, _, ⟨hI8, hF8, ⟨rq_n (n := (n6 - S)) (by omega), ⟨q8, hb8, Or.inr ⟨n6 - S, by omega, rfl, by rw [show S + (n6 - S) = n6 by omega]; exact bm_s hm8 hs6, hz8⟩⟩⟩⟩, rfl⟩
              · refine to_eq (fr' := (115, [(0, .ref 39), (1, .int (-1)), (2, .int (nI i)), (3, .int (nI n6))], [.int 0], gh S a b sc8 ar8 lo, ex, 0, 0)) rfl ?_
                refine to_n 2 (fr' := (128, [(0, .ref 39), (1, .int (-1)), (2, .int ((nI i) + 1)), (3, .int (nI n6))], [], gh S a b sc8 ar8 lo, ex, 0, 0)) rfl ?_
                rw [nI_1 i]
                refine to_n 1 (fr' := (65, [(0, .ref 39), (1, .int (-1)), (2, .int (nI (i + 1))), (3, .int (nI n6))], [], gh S a b sc8 ar8 lo, ex, 0, 0)) rfl ?_
                refine to_lv (lv := [(0, .ref 39), (1, .int (-1)), (2, .int (nI (i + 1)))]) rfl ⟨rfl, rfl, rfl, trivial⟩ ?_
                exact ih (i + 1) q8 sc8 ar8 (by omega) (eq8) hb8 (bd_x hS hc65_2 (by omega) hm8 (k := n6 - S) (by omega) (by omega) e6 hc8) (fun c w => bm_s hm8 (hc65_3 c w)) (fun w => bm_s hm8 (hc65_4 w)) (by omega) hI8 hF8
            · refine to_n 2 (fr' := (99, [(0, .ref 39), (1, .int (-1)), (2, .int (nI i)), (3, .int (nI n6))], [.int (nI n6), .ref 39], gh S a b sc2 ar2 lo, ex, 0, 0)) rfl ?_
              refine to_cv (q := 24) (M1 := an_X2_goOnFromEntry) (rest := []) rfl rfl (by decide) rfl ⟨_, rfl⟩ (sf_X2_goOnFromEntry hW hI2 n6 (by omega) q1 xt hc65_0 (by rw [hF2.2 41 (by decide), hF2.2 42 (by decide), hF2.2 43 (by decide), hF2.2 44 (by decide)]; exact hc65_1) hs6 d) (fun sc9 ar9 hx9 => ?_)
              obtain ⟨hI9, hG9, hx9⟩ := hx9
              have hF9 := fr_t hF2 hG9 (by decide) (by decide)
              simp only [show ar2 41 = ar 41 from hF2.2 41 (by decide), show ar2 42 = ar 42 from hF2.2 42 (by decide), show ar2 43 = ar 43 from hF2.2 43 (by decide), show ar2 44 = ar 44 from hF2.2 44 (by decide)] at hx9
              obtain ⟨q9, eq9, hb9, hm9, hc9⟩ := hx9
              refine to_eq (fr' := (102, [(0, .ref 39), (1, .int (-1)), (2, .int (nI i)), (3, .int (nI n6))], [], gh S a b sc9 ar9 lo, ex, 0, 0)) rfl ?_
              refine to_n 2 (fr' := (128, [(0, .ref 39), (1, .int (-1)), (2, .int ((nI i) + 1)), (3, .int (nI n6))], [], gh S a b sc9 ar9 lo, ex, 0, 0)) rfl ?_
              rw [nI_1 i]
              refine to_n 1 (fr' := (65, [(0, .ref 39), (1, .int (-1)), (2, .int (nI (i + 1))), (3, .int (nI n6))], [], gh S a b sc9 ar9 lo, ex, 0, 0)) rfl ?_
              refine to_lv (lv := [(0, .ref 39), (1, .int (-1)), (2, .int (nI (i + 1)))]) rfl ⟨rfl, rfl, rfl, trivial⟩ ?_
              exact ih (i + 1) q9 sc9 ar9 (by omega) (eq9) hb9 (bd_e hS hc65_2 (by omega) hm9 (by omega) e6 hc9) (fun c w => bm_s hm9 (hc65_3 c w)) (fun w => bm_s hm9 (hc65_4 w)) (by omega) hI9 hF9
    have c15 : ∀ m : Nat, ∀ (i : Nat) (q1 : Nat) (sc10 : Nat → Int32) (ar10 : Nat → Nat → Int32), i + m = S → sc10 3911 = nI q1 → BQ S a b (ar 41) (ar 42) (ar 43) (ar 44) xt q1 (ar10 46) (ar10 47) → (∀ c, c < i → kW S (ar 42) c → kS S (ar10 46) c) → Iv S sc10 ar10 → Fr [3911] [46, 47] sc ar sc10 ar10 → ag_To X (d + 2) an_X2_search (15, [(0, .ref 39), (1, .int (-1)), (2, .int (nI i))], [], gh S a b sc10 ar10 lo, ex, 0, 0) (qi S a b lo ex (fun x sc' ar' => Iv S sc' ar' ∧ Fr [3911] [46, 47] sc ar sc' ar' ∧ rq x S ∧ (∃ q2 : Nat, BQ S a b (ar 41) (ar 42) (ar 43) (ar 44) xt q2 (ar' 46) (ar' 47) ∧ ((x = -1 ∧ BD S a b t (ar 41) (ar 43) (ar 44) (ar' 46) (ar' 47) q2 ∧ (∀ c, kW S (ar 42) c → kS S (ar' 46) c) ∧ (xt < S → kS S (ar' 46) xt)) ∨ ∃ l : Nat, l < S ∧ x = nI l ∧ kS S (ar' 46) (S + l) ∧ zbs S a b l t)))) := by
      intro m
      induction m with
      | zero =>
        intro i q1 sc10 ar10 hm hc15_0 hc15_1 hc15_2 hI10 hF10
        refine to_n 2 (fr' := (17, [(0, .ref 39), (1, .int (-1)), (2, .int (nI i))], [.ref 39, .int (nI i)], gh S a b sc10 ar10 lo, ex, 0, 0)) rfl ?_
        refine to_get rfl rfl rfl rfl ?_
        refine to_nc_ge_T (t := 45) (x := i) (y := S) rfl (by omega) (by omega) (by omega) ?_
        refine to_n 1 (fr' := (46, [(0, .ref 39), (1, .int (-1)), (2, .int (nI i))], [.ref 39], gh S a b sc10 ar10 lo, ex, 0, 0)) rfl ?_
        refine to_get rfl rfl rfl rfl ?_
        refine to_n 1 (fr' := (50, [(0, .ref 39), (1, .int (-1)), (2, .int (nI i))], [.int (-1), .ref 1], gh S a b sc10 ar10 lo, ex, 0, 0)) rfl ?_
        refine to_cp (q := 2) (M1 := an_X0_has) (rest := []) rfl rfl (by decide) rfl ⟨_, rfl⟩ (sf_has_0  (has_neg (by decide)) (d + 1)) (fun x11 hx11 => ?_)
        obtain rfl := hx11
        refine to_eq (fr' := (53, [(0, .ref 39), (1, .int (-1)), (2, .int (nI i))], [.int 0], gh S a b sc10 ar10 lo, ex, 0, 0)) rfl ?_
        refine to_n 3 (fr' := (65, [(0, .ref 39), (1, .int (-1)), (2, .int 0)], [], gh S a b sc10 ar10 lo, ex, 0, 0)) rfl ?_
        exact c65 ((2 * S) - 0) 0 q1 sc10 ar10 (by omega) (hc15_0) hc15_1 bd_0 (fun c w => hc15_2 c (by have := w.1; omega) w) (fun w9 => absurd w9 (by omega)) (by omega) hI10 hF10
      | succ m ih =>
        intro i q1 sc10 ar10 hm hc15_0 hc15_1 hc15_2 hI10 hF10
        refine to_n 2 (fr' := (17, [(0, .ref 39), (1, .int (-1)), (2, .int (nI i))], [.ref 39, .int (nI i)], gh S a b sc10 ar10 lo, ex, 0, 0)) rfl ?_
        refine to_get rfl rfl rfl rfl ?_
        refine to_nc_ge_F (t := 45) (x := i) (y := S) rfl (by omega) (by omega) (by omega) ?_
        refine to_n 1 (fr' := (24, [(0, .ref 39), (1, .int (-1)), (2, .int (nI i))], [.ref 39], gh S a b sc10 ar10 lo, ex, 0, 0)) rfl ?_
        refine to_get rfl rfl rfl rfl ?_
        refine to_n 1 (fr' := (28, [(0, .ref 39), (1, .int (-1)), (2, .int (nI i))], [.int (nI i), .ref 42], gh S a b sc10 ar10 lo, ex, 0, 0)) rfl ?_
        refine to_zalR (i := i) (v := (ar 42 i)) rfl rfl (by omega) (by omega) (congrFun (hF10.2 42 (by decide)) i) ?_
        refine to_if_eq (t := 39) rfl (fun q12 => ?_) (fun q12 => ?_)
        · refine to_n 1 (fr' := (42, [(0, .ref 39), (1, .int (-1)), (2, .int ((nI i) + 1))], [], gh S a b sc10 ar10 lo, ex, 0, 0)) rfl ?_
          rw [nI_1 i]
          refine to_n 1 (fr' := (15, [(0, .ref 39), (1, .int (-1)), (2, .int (nI (i + 1)))], [], gh S a b sc10 ar10 lo, ex, 0, 0)) rfl ?_
          exact ih (i + 1) q1 sc10 ar10 (by omega) (hc15_0) hc15_1 (ms_s hc15_2 (fun _ _ => rfl) (fun w => absurd q12 w.2)) hI10 hF10
        · refine to_n 3 (fr' := (36, [(0, .ref 39), (1, .int (-1)), (2, .int (nI i))], [.int (-2), .int (nI i), .ref 39], gh S a b sc10 ar10 lo, ex, 0, 0)) rfl ?_
          refine to_cv (q := 26) (M1 := an_X2_see) (rest := []) rfl rfl (by decide) rfl ⟨_, rfl⟩ (sf_X2_see hW hI10 i (by omega) (-2) (rt_2) q1 xt hc15_0 (by rw [hF10.2 41 (by decide), hF10.2 42 (by decide), hF10.2 43 (by decide), hF10.2 44 (by decide)]; exact hc15_1) (by rw [hF10.2 41 (by decide), hF10.2 42 (by decide), hF10.2 43 (by decide), hF10.2 44 (by decide)]; exact (fun _ => Or.inl ⟨by omega, hMW i ⟨by omega, q12⟩, Or.inl ⟨rfl, Or.inl ⟨by omega, q12⟩⟩⟩)) (d + 1)) (fun sc13 ar13 hx13 => ?_)
          obtain ⟨hI13, hG13, hx13⟩ := hx13
          have hF13 := fr_t hF10 hG13 (by decide) (by decide)
          simp only [show ar10 41 = ar 41 from hF10.2 41 (by decide), show ar10 42 = ar 42 from hF10.2 42 (by decide), show ar10 43 = ar 43 from hF10.2 43 (by decide), show ar10 44 = ar 44 from hF10.2 44 (by decide)] at hx13
          obtain ⟨q13, eq13, hb13, hm13, hs13⟩ := hx13
          have bm13 := bm_t bm_0 hm13
          refine to_eq (fr' := (39, [(0, .ref 39), (1, .int (-1)), (2, .int (nI i))], [], gh S a b sc13 ar13 lo, ex, 0, 0)) rfl ?_
          refine to_n 1 (fr' := (42, [(0, .ref 39), (1, .int (-1)), (2, .int ((nI i) + 1))], [], gh S a b sc13 ar13 lo, ex, 0, 0)) rfl ?_
          rw [nI_1 i]
          refine to_n 1 (fr' := (15, [(0, .ref 39), (1, .int (-1)), (2, .int (nI (i + 1)))], [], gh S a b sc13 ar13 lo, ex, 0, 0)) rfl ?_
          exact ih (i + 1) q13 sc13 ar13 (by omega) (eq13) hb13 (ms_s hc15_2 hm13.2.1 (fun _ => ⟨by omega, hs13⟩)) hI13 hF13
    refine to_n 1 (fr' := (1, [(0, .ref 39), (1, .int (-1))], [.ref 39], gh S a b sc ar lo, ex, 0, 0)) rfl ?_
    refine to_get rfl rfl rfl rfl ?_
    refine to_n 1 (fr' := (5, [(0, .ref 39), (1, .int (-1))], [.int (-1), .ref 46], gh S a b sc ar lo, ex, 0, 0)) rfl ?_
    refine to_fill (q := 168) (n := (2 * S)) (f := (ar 46)) (rest := []) (h2 := gh S a b sc (uA ar 46 (fun j => if j < (2 * S) then (-1) else (ar 46) j)) lo) rfl rfl (by decide) rfl trivial (by decide) rfl (by omega) rfl (d + 1) rfl rfl ?_
    have hI14 := ig_46 (g := (fun j => if j < (2 * S) then (-1) else (ar 46) j)) hI (fill_at (P := fun x => rt x (2 * S)) (iv_a46 hI) rt_m)
    have hF14 := fr_a (c := 46) (g := (fun j => if j < (2 * S) then (-1) else (ar 46) j)) hF (by decide)
    refine to_eq (fr' := (8, [(0, .ref 39), (1, .int (-1))], [], gh S a b sc (uA ar 46 (fun j => if j < (2 * S) then (-1) else (ar 46) j)) lo, ex, 0, 0)) rfl ?_
    refine to_n 2 (fr' := (10, [(0, .ref 39), (1, .int (-1))], [.int 0, .ref 39], gh S a b sc (uA ar 46 (fun j => if j < (2 * S) then (-1) else (ar 46) j)) lo, ex, 0, 0)) rfl ?_
    refine to_putR (h' := gh S a b (upd sc 3911 0) (uA ar 46 (fun j => if j < (2 * S) then (-1) else (ar 46) j)) lo) rfl rfl rfl (Nat.le_of_ble_eq_true rfl) rfl rfl ?_
    have hI15 := ip_3911 (v := 0) hI14 (rl_n (n := 0) (by omega))
    have hF15 := fr_s (k := 3911) (v := 0) hF14 (by decide)
    refine to_n 2 (fr' := (15, [(0, .ref 39), (1, .int (-1)), (2, .int 0)], [], gh S a b (upd sc 3911 0) (uA ar 46 (fun j => if j < (2 * S) then (-1) else (ar 46) j)) lo, ex, 0, 0)) rfl ?_
    exact c15 (S - 0) 0 0 (upd sc 3911 0) (uA ar 46 (fun j => if j < (2 * S) then (-1) else (ar 46) j)) (by omega) (rfl) (bq_0 (fun n9 h9 => (show (fun j => if j < (2 * S) then (-1) else (ar 46) j) n9 = -1 from if_pos h9))) (fun c hc => absurd hc (Nat.not_lt_zero _)) hI15 hF15
  · refine to_eq (fr' := (0, [(0, .ref 39), (1, .int (nI n1))], [], gh S a b sc ar lo, ex, 0, 0)) rfl ?_
    have hxe : xt = n1 := hxt.2.1 n1 (by omega) rfl
    have c65 : ∀ m : Nat, ∀ (i : Nat) (q1 : Nat) (sc16 : Nat → Int32) (ar16 : Nat → Nat → Int32), (2 * S) ≤ i + m → sc16 3911 = nI q1 → BQ S a b (ar 41) (ar 42) (ar 43) (ar 44) xt q1 (ar16 46) (ar16 47) → BD S a b t (ar 41) (ar 43) (ar 44) (ar16 46) (ar16 47) i → (∀ c, kW S (ar 42) c → kS S (ar16 46) c) → (xt < S → kS S (ar16 46) xt) → i ≤ (2 * S) → Iv S sc16 ar16 → Fr [3911] [46, 47] sc ar sc16 ar16 → ag_To X (d + 2) an_X2_search (65, [(0, .ref 39), (1, .int (nI n1)), (2, .int (nI i))], [], gh S a b sc16 ar16 lo, ex, 0, 0) (qi S a b lo ex (fun x sc' ar' => Iv S sc' ar' ∧ Fr [3911] [46, 47] sc ar sc' ar' ∧ rq x S ∧ (∃ q2 : Nat, BQ S a b (ar 41) (ar 42) (ar 43) (ar 44) xt q2 (ar' 46) (ar' 47) ∧ ((x = -1 ∧ BD S a b t (ar 41) (ar 43) (ar 44) (ar' 46) (ar' 47) q2 ∧ (∀ c, kW S (ar 42) c → kS S (ar' 46) c) ∧ (xt < S → kS S (ar' 46) xt)) ∨ ∃ l : Nat, l < S ∧ x = nI l ∧ kS S (ar' 46) (S + l) ∧ zbs S a b l t)))) := by
      intro m
      induction m with
      | zero =>
        intro i q1 sc16 ar16 hm hc65_0 hc65_1 hc65_2 hc65_3 hc65_4 hc65_5 hI16 hF16
        have hq2 := bq_le hS hc65_1
        refine to_n 2 (fr' := (67, [(0, .ref 39), (1, .int (nI n1)), (2, .int (nI i))], [.ref 39, .int (nI i)], gh S a b sc16 ar16 lo, ex, 0, 0)) rfl ?_
        refine to_getR (v := (nI q1)) rfl rfl rfl rfl hc65_0 ?_
        refine to_nc_ge (t := 131) (x := i) (y := q1) rfl (by omega) (by omega) (fun q17 => ?_) (fun q17 => ?_)
        · refine to_n 1 (fr' := (132, [(0, .ref 39), (1, .int (nI n1)), (2, .int (nI i))], [.int (-1)], gh S a b sc16 ar16 lo, ex, 0, 0)) rfl ?_
          exact to_rt (i := .ireturn) (tg := []) rfl rfl ⟨_, _, _, ⟨hI16, hF16, ⟨rq_m, ⟨q1, hc65_1, Or.inl ⟨rfl, bd_le hc65_2 (by omega), hc65_3, hc65_4⟩⟩⟩⟩, rfl⟩
        · refine to_n 2 (fr' := (75, [(0, .ref 39), (1, .int (nI n1)), (2, .int (nI i))], [.ref 39, .int (nI i)], gh S a b sc16 ar16 lo, ex, 0, 0)) rfl ?_
          refine to_get rfl rfl rfl rfl ?_
          refine to_len rfl (by decide) rfl (by decide) ?_
          refine to_eq (fr' := (79, [(0, .ref 39), (1, .int (nI n1)), (2, .int (nI i))], [.int (nI (2 * S)), .int (nI i)], gh S a b sc16 ar16 lo, ex, 0, 0)) rfl ?_
          refine to_nc_ge_T (t := 131) (x := i) (y := (2 * S)) rfl (by omega) (by omega) (by omega) ?_
          refine to_n 1 (fr' := (132, [(0, .ref 39), (1, .int (nI n1)), (2, .int (nI i))], [.int (-1)], gh S a b sc16 ar16 lo, ex, 0, 0)) rfl ?_
          exact to_rt (i := .ireturn) (tg := []) rfl rfl ⟨_, _, _, ⟨hI16, hF16, ⟨rq_m, ⟨q1, hc65_1, Or.inl ⟨rfl, bd_le hc65_2 (by omega), hc65_3, hc65_4⟩⟩⟩⟩, rfl⟩
      | succ m ih =>
        intro i q1 sc16 ar16 hm hc65_0 hc65_1 hc65_2 hc65_3 hc65_4 hc65_5 hI16 hF16
        have hq2 := bq_le hS hc65_1
        refine to_n 2 (fr' := (67, [(0, .ref 39), (1, .int (nI n1)), (2, .int (nI i))], [.ref 39, .int (nI i)], gh S a b sc16 ar16 lo, ex, 0, 0)) rfl ?_
        refine to_getR (v := (nI q1)) rfl rfl rfl rfl hc65_0 ?_
        refine to_nc_ge (t := 131) (x := i) (y := q1) rfl (by omega) (by omega) (fun q18 => ?_) (fun q18 => ?_)
        · refine to_n 1 (fr' := (132, [(0, .ref 39), (1, .int (nI n1)), (2, .int (nI i))], [.int (-1)], gh S a b sc16 ar16 lo, ex, 0, 0)) rfl ?_
          exact to_rt (i := .ireturn) (tg := []) rfl rfl ⟨_, _, _, ⟨hI16, hF16, ⟨rq_m, ⟨q1, hc65_1, Or.inl ⟨rfl, bd_le hc65_2 (by omega), hc65_3, hc65_4⟩⟩⟩⟩, rfl⟩
        · refine to_n 2 (fr' := (75, [(0, .ref 39), (1, .int (nI n1)), (2, .int (nI i))], [.ref 39, .int (nI i)], gh S a b sc16 ar16 lo, ex, 0, 0)) rfl ?_
          refine to_get rfl rfl rfl rfl ?_
          refine to_len rfl (by decide) rfl (by decide) ?_
          refine to_eq (fr' := (79, [(0, .ref 39), (1, .int (nI n1)), (2, .int (nI i))], [.int (nI (2 * S)), .int (nI i)], gh S a b sc16 ar16 lo, ex, 0, 0)) rfl ?_
          refine to_nc_ge (t := 131) (x := i) (y := (2 * S)) rfl (by omega) (by omega) (fun q19 => ?_) (fun q19 => ?_)
          · refine to_n 1 (fr' := (132, [(0, .ref 39), (1, .int (nI n1)), (2, .int (nI i))], [.int (-1)], gh S a b sc16 ar16 lo, ex, 0, 0)) rfl ?_
            exact to_rt (i := .ireturn) (tg := []) rfl rfl ⟨_, _, _, ⟨hI16, hF16, ⟨rq_m, ⟨q1, hc65_1, Or.inl ⟨rfl, bd_le hc65_2 (by omega), hc65_3, hc65_4⟩⟩⟩⟩, rfl⟩
          · refine to_n 1 (fr' := (83, [(0, .ref 39), (1, .int (nI n1)), (2, .int (nI i))], [.ref 39], gh S a b sc16 ar16 lo, ex, 0, 0)) rfl ?_
            refine to_get rfl rfl rfl rfl ?_
            refine to_n 1 (fr' := (87, [(0, .ref 39), (1, .int (nI n1)), (2, .int (nI i))], [.int (nI i), .ref 47], gh S a b sc16 ar16 lo, ex, 0, 0)) rfl ?_
            obtain ⟨n20, hn20, e20, hs20⟩ := bq_at hS hc65_1 (i := i) (by omega)
            refine to_ialR (i := i) (v := nI n20) rfl (by decide) rfl (by omega) (by omega) e20 ?_
            refine to_n 3 (fr' := (91, [(0, .ref 39), (1, .int (nI n1)), (2, .int (nI i)), (3, .int (nI n20))], [.ref 39, .int (nI n20)], gh S a b sc16 ar16 lo, ex, 0, 0)) rfl ?_
            refine to_get rfl rfl rfl rfl ?_
            refine to_nc_ge (t := 105) (x := n20) (y := S) rfl (by omega) (by omega) (fun q21 => ?_) (fun q21 => ?_)
            · refine to_n 3 (fr' := (108, [(0, .ref 39), (1, .int (nI n1)), (2, .int (nI i)), (3, .int (nI n20))], [.ref 39, .int (nI n20), .ref 39], gh S a b sc16 ar16 lo, ex, 0, 0)) rfl ?_
              refine to_get rfl rfl rfl rfl ?_
              refine to_subN (x := n20) (y := S) rfl (by omega) ?_
              refine to_ci (q := 25) (M1 := an_X2_goOnFromExit) (rest := []) rfl rfl (by decide) rfl ⟨_, rfl⟩ (sf_X2_goOnFromExit hW hI16 (n20 - S) (by omega) q1 xt t ht9 (gd_fr hg hF16 (by decide) (by decide) (by decide)) hc65_0 (by rw [hF16.2 41 (by decide), hF16.2 42 (by decide), hF16.2 43 (by decide), hF16.2 44 (by decide)]; exact hc65_1) (by rw [show S + (n20 - S) = n20 by omega]; exact hs20) ((hF16.1 3912 (by decide)).trans ht) (by rw [hF16.2 41 (by decide), hF16.2 43 (by decide)]; exact hcw) d) (fun x22 sc22 ar22 hx22 => ?_)
              obtain ⟨hI22, hG22, -, hx22⟩ := hx22
              have hF22 := fr_t hF16 hG22 (by decide) (by decide)
              simp only [show ar16 41 = ar 41 from hF16.2 41 (by decide), show ar16 42 = ar 42 from hF16.2 42 (by decide), show ar16 43 = ar 43 from hF16.2 43 (by decide), show ar16 44 = ar 44 from hF16.2 44 (by decide)] at hx22
              rcases hx22 with ⟨rfl, ⟨q22, eq22, hb22, hm22⟩, hz22⟩ | ⟨rfl, ⟨q22, eq22, hb22, hm22⟩, hc22⟩
              · refine to_eq (fr' := (115, [(0, .ref 39), (1, .int (nI n1)), (2, .int (nI i)), (3, .int (nI n20))], [.int 1], gh S a b sc22 ar22 lo, ex, 0, 0)) rfl ?_
                refine to_n 3 (fr' := (120, [(0, .ref 39), (1, .int (nI n1)), (2, .int (nI i)), (3, .int (nI n20))], [.ref 39, .int (nI n20)], gh S a b sc22 ar22 lo, ex, 0, 0)) rfl ?_
                refine to_get rfl rfl rfl rfl ?_
                refine to_subN (x := n20) (y := S) rfl (by omega) ?_
                exact to_rt (i := .ireturn) (tg := []) rfl rfl ⟨_, _, _, ⟨hI22, hF22, ⟨rq_n (n := (n20 - S)) (by omega), ⟨q22, hb22, Or.inr ⟨n20 - S, by omega, rfl, by rw [show S + (n20 - S) = n20 by omega]; exact bm_s hm22 hs20, hz22⟩⟩⟩⟩, rfl⟩
              · refine to_eq (fr' := (115, [(0, .ref 39), (1, .int (nI n1)), (2, .int (nI i)), (3, .int (nI n20))], [.int 0], gh S a b sc22 ar22 lo, ex, 0, 0)) rfl ?_
                refine to_n 2 (fr' := (128, [(0, .ref 39), (1, .int (nI n1)), (2, .int ((nI i) + 1)), (3, .int (nI n20))], [], gh S a b sc22 ar22 lo, ex, 0, 0)) rfl ?_
                rw [nI_1 i]
                refine to_n 1 (fr' := (65, [(0, .ref 39), (1, .int (nI n1)), (2, .int (nI (i + 1))), (3, .int (nI n20))], [], gh S a b sc22 ar22 lo, ex, 0, 0)) rfl ?_
                refine to_lv (lv := [(0, .ref 39), (1, .int (nI n1)), (2, .int (nI (i + 1)))]) rfl ⟨rfl, rfl, rfl, trivial⟩ ?_
                exact ih (i + 1) q22 sc22 ar22 (by omega) (eq22) hb22 (bd_x hS hc65_2 (by omega) hm22 (k := n20 - S) (by omega) (by omega) e20 hc22) (fun c w => bm_s hm22 (hc65_3 c w)) (fun w => bm_s hm22 (hc65_4 w)) (by omega) hI22 hF22
            · refine to_n 2 (fr' := (99, [(0, .ref 39), (1, .int (nI n1)), (2, .int (nI i)), (3, .int (nI n20))], [.int (nI n20), .ref 39], gh S a b sc16 ar16 lo, ex, 0, 0)) rfl ?_
              refine to_cv (q := 24) (M1 := an_X2_goOnFromEntry) (rest := []) rfl rfl (by decide) rfl ⟨_, rfl⟩ (sf_X2_goOnFromEntry hW hI16 n20 (by omega) q1 xt hc65_0 (by rw [hF16.2 41 (by decide), hF16.2 42 (by decide), hF16.2 43 (by decide), hF16.2 44 (by decide)]; exact hc65_1) hs20 d) (fun sc23 ar23 hx23 => ?_)
              obtain ⟨hI23, hG23, hx23⟩ := hx23
              have hF23 := fr_t hF16 hG23 (by decide) (by decide)
              simp only [show ar16 41 = ar 41 from hF16.2 41 (by decide), show ar16 42 = ar 42 from hF16.2 42 (by decide), show ar16 43 = ar 43 from hF16.2 43 (by decide), show ar16 44 = ar 44 from hF16.2 44 (by decide)] at hx23
              obtain ⟨q23, eq23, hb23, hm23, hc23⟩ := hx23
              refine to_eq (fr' := (102, [(0, .ref 39), (1, .int (nI n1)), (2, .int (nI i)), (3, .int (nI n20))], [], gh S a b sc23 ar23 lo, ex, 0, 0)) rfl ?_
              refine to_n 2 (fr' := (128, [(0, .ref 39), (1, .int (nI n1)), (2, .int ((nI i) + 1)), (3, .int (nI n20))], [], gh S a b sc23 ar23 lo, ex, 0, 0)) rfl ?_
              rw [nI_1 i]
              refine to_n 1 (fr' := (65, [(0, .ref 39), (1, .int (nI n1)), (2, .int (nI (i + 1))), (3, .int (nI n20))], [], gh S a b sc23 ar23 lo, ex, 0, 0)) rfl ?_
              refine to_lv (lv := [(0, .ref 39), (1, .int (nI n1)), (2, .int (nI (i + 1)))]) rfl ⟨rfl, rfl, rfl, trivial⟩ ?_
              exact ih (i + 1) q23 sc23 ar23 (by omega) (eq23) hb23 (bd_e hS hc65_2 (by omega) hm23 (by omega) e20 hc23) (fun c w => bm_s hm23 (hc65_3 c w)) (fun w => bm_s hm23 (hc65_4 w)) (by omega) hI23 hF23
    have c15 : ∀ m : Nat, ∀ (i : Nat) (q1 : Nat) (sc24 : Nat → Int32) (ar24 : Nat → Nat → Int32), i + m = S → sc24 3911 = nI q1 → BQ S a b (ar 41) (ar 42) (ar 43) (ar 44) xt q1 (ar24 46) (ar24 47) → (∀ c, c < i → kW S (ar 42) c → kS S (ar24 46) c) → Iv S sc24 ar24 → Fr [3911] [46, 47] sc ar sc24 ar24 → ag_To X (d + 2) an_X2_search (15, [(0, .ref 39), (1, .int (nI n1)), (2, .int (nI i))], [], gh S a b sc24 ar24 lo, ex, 0, 0) (qi S a b lo ex (fun x sc' ar' => Iv S sc' ar' ∧ Fr [3911] [46, 47] sc ar sc' ar' ∧ rq x S ∧ (∃ q2 : Nat, BQ S a b (ar 41) (ar 42) (ar 43) (ar 44) xt q2 (ar' 46) (ar' 47) ∧ ((x = -1 ∧ BD S a b t (ar 41) (ar 43) (ar 44) (ar' 46) (ar' 47) q2 ∧ (∀ c, kW S (ar 42) c → kS S (ar' 46) c) ∧ (xt < S → kS S (ar' 46) xt)) ∨ ∃ l : Nat, l < S ∧ x = nI l ∧ kS S (ar' 46) (S + l) ∧ zbs S a b l t)))) := by
      intro m
      induction m with
      | zero =>
        intro i q1 sc24 ar24 hm hc15_0 hc15_1 hc15_2 hI24 hF24
        refine to_n 2 (fr' := (17, [(0, .ref 39), (1, .int (nI n1)), (2, .int (nI i))], [.ref 39, .int (nI i)], gh S a b sc24 ar24 lo, ex, 0, 0)) rfl ?_
        refine to_get rfl rfl rfl rfl ?_
        refine to_nc_ge_T (t := 45) (x := i) (y := S) rfl (by omega) (by omega) (by omega) ?_
        refine to_n 1 (fr' := (46, [(0, .ref 39), (1, .int (nI n1)), (2, .int (nI i))], [.ref 39], gh S a b sc24 ar24 lo, ex, 0, 0)) rfl ?_
        refine to_get rfl rfl rfl rfl ?_
        refine to_n 1 (fr' := (50, [(0, .ref 39), (1, .int (nI n1)), (2, .int (nI i))], [.int (nI n1), .ref 1], gh S a b sc24 ar24 lo, ex, 0, 0)) rfl ?_
        rcases Nat.lt_or_ge n1 S with w25 | w25
        · refine to_cp (q := 2) (M1 := an_X0_has) (rest := []) rfl rfl (by decide) rfl ⟨_, rfl⟩ (sf_has_1 (n := n1)  (by omega) (d + 1)) (fun x25 hx25 => ?_)
          obtain rfl := hx25
          refine to_eq (fr' := (53, [(0, .ref 39), (1, .int (nI n1)), (2, .int (nI i))], [.int 1], gh S a b sc24 ar24 lo, ex, 0, 0)) rfl ?_
          refine to_n 4 (fr' := (60, [(0, .ref 39), (1, .int (nI n1)), (2, .int (nI i))], [.int (-2), .int (nI n1), .ref 39], gh S a b sc24 ar24 lo, ex, 0, 0)) rfl ?_
          refine to_cv (q := 26) (M1 := an_X2_see) (rest := []) rfl rfl (by decide) rfl ⟨_, rfl⟩ (sf_X2_see hW hI24 n1 (by omega) (-2) (rt_2) q1 xt hc15_0 (by rw [hF24.2 41 (by decide), hF24.2 42 (by decide), hF24.2 43 (by decide), hF24.2 44 (by decide)]; exact hc15_1) (by rw [hF24.2 41 (by decide), hF24.2 42 (by decide), hF24.2 43 (by decide), hF24.2 44 (by decide)]; exact (fun _ => Or.inl ⟨by omega, hxe ▸ hxt.2.2 (by omega), Or.inl ⟨rfl, Or.inr hxe.symm⟩⟩)) (d + 1)) (fun sc26 ar26 hx26 => ?_)
          obtain ⟨hI26, hG26, hx26⟩ := hx26
          have hF26 := fr_t hF24 hG26 (by decide) (by decide)
          simp only [show ar24 41 = ar 41 from hF24.2 41 (by decide), show ar24 42 = ar 42 from hF24.2 42 (by decide), show ar24 43 = ar 43 from hF24.2 43 (by decide), show ar24 44 = ar 44 from hF24.2 44 (by decide)] at hx26
          obtain ⟨q26, eq26, hb26, hm26, hs26⟩ := hx26
          have bm26 := bm_t bm_0 hm26
          refine to_eq (fr' := (63, [(0, .ref 39), (1, .int (nI n1)), (2, .int (nI i))], [], gh S a b sc26 ar26 lo, ex, 0, 0)) rfl ?_
          refine to_n 2 (fr' := (65, [(0, .ref 39), (1, .int (nI n1)), (2, .int 0)], [], gh S a b sc26 ar26 lo, ex, 0, 0)) rfl ?_
          exact c65 ((2 * S) - 0) 0 q26 sc26 ar26 (by omega) (eq26) hb26 bd_0 (fun c w => bm_s hm26 ((fun c w => hc15_2 c (by have := w.1; omega) w) c w)) (fun _ => hxe ▸ ⟨by omega, hs26⟩) (by omega) hI26 hF26
        · refine to_cp (q := 2) (M1 := an_X0_has) (rest := []) rfl rfl (by decide) rfl ⟨_, rfl⟩ (sf_has_0  (has_no (n := n1) (B := S) (by omega) (by omega) (by omega)) (d + 1)) (fun x25 hx25 => ?_)
          obtain rfl := hx25
          refine to_eq (fr' := (53, [(0, .ref 39), (1, .int (nI n1)), (2, .int (nI i))], [.int 0], gh S a b sc24 ar24 lo, ex, 0, 0)) rfl ?_
          refine to_n 3 (fr' := (65, [(0, .ref 39), (1, .int (nI n1)), (2, .int 0)], [], gh S a b sc24 ar24 lo, ex, 0, 0)) rfl ?_
          exact c65 ((2 * S) - 0) 0 q1 sc24 ar24 (by omega) (hc15_0) hc15_1 bd_0 (fun c w => hc15_2 c (by have := w.1; omega) w) (fun w9 => absurd w9 (by omega)) (by omega) hI24 hF24
      | succ m ih =>
        intro i q1 sc24 ar24 hm hc15_0 hc15_1 hc15_2 hI24 hF24
        refine to_n 2 (fr' := (17, [(0, .ref 39), (1, .int (nI n1)), (2, .int (nI i))], [.ref 39, .int (nI i)], gh S a b sc24 ar24 lo, ex, 0, 0)) rfl ?_
        refine to_get rfl rfl rfl rfl ?_
        refine to_nc_ge_F (t := 45) (x := i) (y := S) rfl (by omega) (by omega) (by omega) ?_
        refine to_n 1 (fr' := (24, [(0, .ref 39), (1, .int (nI n1)), (2, .int (nI i))], [.ref 39], gh S a b sc24 ar24 lo, ex, 0, 0)) rfl ?_
        refine to_get rfl rfl rfl rfl ?_
        refine to_n 1 (fr' := (28, [(0, .ref 39), (1, .int (nI n1)), (2, .int (nI i))], [.int (nI i), .ref 42], gh S a b sc24 ar24 lo, ex, 0, 0)) rfl ?_
        refine to_zalR (i := i) (v := (ar 42 i)) rfl rfl (by omega) (by omega) (congrFun (hF24.2 42 (by decide)) i) ?_
        refine to_if_eq (t := 39) rfl (fun q27 => ?_) (fun q27 => ?_)
        · refine to_n 1 (fr' := (42, [(0, .ref 39), (1, .int (nI n1)), (2, .int ((nI i) + 1))], [], gh S a b sc24 ar24 lo, ex, 0, 0)) rfl ?_
          rw [nI_1 i]
          refine to_n 1 (fr' := (15, [(0, .ref 39), (1, .int (nI n1)), (2, .int (nI (i + 1)))], [], gh S a b sc24 ar24 lo, ex, 0, 0)) rfl ?_
          exact ih (i + 1) q1 sc24 ar24 (by omega) (hc15_0) hc15_1 (ms_s hc15_2 (fun _ _ => rfl) (fun w => absurd q27 w.2)) hI24 hF24
        · refine to_n 3 (fr' := (36, [(0, .ref 39), (1, .int (nI n1)), (2, .int (nI i))], [.int (-2), .int (nI i), .ref 39], gh S a b sc24 ar24 lo, ex, 0, 0)) rfl ?_
          refine to_cv (q := 26) (M1 := an_X2_see) (rest := []) rfl rfl (by decide) rfl ⟨_, rfl⟩ (sf_X2_see hW hI24 i (by omega) (-2) (rt_2) q1 xt hc15_0 (by rw [hF24.2 41 (by decide), hF24.2 42 (by decide), hF24.2 43 (by decide), hF24.2 44 (by decide)]; exact hc15_1) (by rw [hF24.2 41 (by decide), hF24.2 42 (by decide), hF24.2 43 (by decide), hF24.2 44 (by decide)]; exact (fun _ => Or.inl ⟨by omega, hMW i ⟨by omega, q27⟩, Or.inl ⟨rfl, Or.inl ⟨by omega, q27⟩⟩⟩)) (d + 1)) (fun sc28 ar28 hx28 => ?_)
          obtain ⟨hI28, hG28, hx28⟩ := hx28
          have hF28 := fr_t hF24 hG28 (by decide) (by decide)
          simp only [show ar24 41 = ar 41 from hF24.2 41 (by decide), show ar24 42 = ar 42 from hF24.2 42 (by decide), show ar24 43 = ar 43 from hF24.2 43 (by decide), show ar24 44 = ar 44 from hF24.2 44 (by decide)] at hx28
          obtain ⟨q28, eq28, hb28, hm28, hs28⟩ := hx28
          have bm28 := bm_t bm_0 hm28
          refine to_eq (fr' := (39, [(0, .ref 39), (1, .int (nI n1)), (2, .int (nI i))], [], gh S a b sc28 ar28 lo, ex, 0, 0)) rfl ?_
          refine to_n 1 (fr' := (42, [(0, .ref 39), (1, .int (nI n1)), (2, .int ((nI i) + 1))], [], gh S a b sc28 ar28 lo, ex, 0, 0)) rfl ?_
          rw [nI_1 i]
          refine to_n 1 (fr' := (15, [(0, .ref 39), (1, .int (nI n1)), (2, .int (nI (i + 1)))], [], gh S a b sc28 ar28 lo, ex, 0, 0)) rfl ?_
          exact ih (i + 1) q28 sc28 ar28 (by omega) (eq28) hb28 (ms_s hc15_2 hm28.2.1 (fun _ => ⟨by omega, hs28⟩)) hI28 hF28
    refine to_n 1 (fr' := (1, [(0, .ref 39), (1, .int (nI n1))], [.ref 39], gh S a b sc ar lo, ex, 0, 0)) rfl ?_
    refine to_get rfl rfl rfl rfl ?_
    refine to_n 1 (fr' := (5, [(0, .ref 39), (1, .int (nI n1))], [.int (-1), .ref 46], gh S a b sc ar lo, ex, 0, 0)) rfl ?_
    refine to_fill (q := 168) (n := (2 * S)) (f := (ar 46)) (rest := []) (h2 := gh S a b sc (uA ar 46 (fun j => if j < (2 * S) then (-1) else (ar 46) j)) lo) rfl rfl (by decide) rfl trivial (by decide) rfl (by omega) rfl (d + 1) rfl rfl ?_
    have hI29 := ig_46 (g := (fun j => if j < (2 * S) then (-1) else (ar 46) j)) hI (fill_at (P := fun x => rt x (2 * S)) (iv_a46 hI) rt_m)
    have hF29 := fr_a (c := 46) (g := (fun j => if j < (2 * S) then (-1) else (ar 46) j)) hF (by decide)
    refine to_eq (fr' := (8, [(0, .ref 39), (1, .int (nI n1))], [], gh S a b sc (uA ar 46 (fun j => if j < (2 * S) then (-1) else (ar 46) j)) lo, ex, 0, 0)) rfl ?_
    refine to_n 2 (fr' := (10, [(0, .ref 39), (1, .int (nI n1))], [.int 0, .ref 39], gh S a b sc (uA ar 46 (fun j => if j < (2 * S) then (-1) else (ar 46) j)) lo, ex, 0, 0)) rfl ?_
    refine to_putR (h' := gh S a b (upd sc 3911 0) (uA ar 46 (fun j => if j < (2 * S) then (-1) else (ar 46) j)) lo) rfl rfl rfl (Nat.le_of_ble_eq_true rfl) rfl rfl ?_
    have hI30 := ip_3911 (v := 0) hI29 (rl_n (n := 0) (by omega))
    have hF30 := fr_s (k := 3911) (v := 0) hF29 (by decide)
    refine to_n 2 (fr' := (15, [(0, .ref 39), (1, .int (nI n1)), (2, .int 0)], [], gh S a b (upd sc 3911 0) (uA ar 46 (fun j => if j < (2 * S) then (-1) else (ar 46) j)) lo, ex, 0, 0)) rfl ?_
    exact c15 (S - 0) 0 0 (upd sc 3911 0) (uA ar 46 (fun j => if j < (2 * S) then (-1) else (ar 46) j)) (by omega) (rfl) (bq_0 (fun n9 h9 => (show (fun j => if j < (2 * S) then (-1) else (ar 46) j) n9 = -1 from if_pos h9))) (fun c hc => absurd hc (Nat.not_lt_zero _)) hI30 hF30
set_option maxRecDepth 20000 in
theorem sf_X2_turn {X : Nat × (Nat → Int32)} {S a b : Nat} {sc : Nat → Int32} {ar : Nat → Nat → Int32} {lo : Nat → Int64} {ex : Bool} (hW : Wd S a b) (hI : Iv S sc ar) (x1 : Int32) (hx1 : rt x1 (2 * S)) (k1 : Nat) (hk1 : k1 < (2 * S)) (d : Nat)  : cv X S a b (d + 1) 22 [.ref 39, .int x1, .int (nI k1)] sc ar lo ex (fun sc' ar' => Iv S sc' ar' ∧ Fr [] [43, 44, 45] sc ar sc' ar' ∧ ((∀ c : Nat, c < S → k1 = S + c → x1 = nI c → ar' 43 = upd (ar 43) c 1 ∧ ar' 44 = ar 44 ∧ ar' 45 = ar 45) ∧ (∀ c : Nat, c < S → k1 = S + c → ¬ x1 = nI c → ar' 43 = ar 43 ∧ ar' 44 = ar 44 ∧ ar' 45 = ar 45) ∧ (k1 < S → x1 = -2 → ar' 43 = ar 43 ∧ ar' 44 = upd (ar 44) k1 (-2) ∧ ar' 45 = ar 45) ∧ (k1 < S → x1 = nI (S + k1) → ar' 43 = upd (ar 43) k1 0 ∧ ar' 44 = ar 44 ∧ ar' 45 = ar 45) ∧ (k1 < S → ∀ b : Nat, b < S → ¬ b = k1 → x1 = nI (S + b) → ar' 43 = ar 43 ∧ ar' 44 = upd (ar 44) k1 (nI b) ∧ ar' 45 = upd (ar 45) b (nI k1)))) := by
  obtain ⟨ha1, ha8, hb1, hb8, hab, hS1, hS⟩ := id hW
  refine cv_of (M := an_X2_turn) rfl (Nat.le_of_ble_eq_true rfl) ?_
  have hF : Fr [] [43, 44, 45] sc ar sc ar := fr_0
  refine to_eq (fr' := (0, [(0, .ref 39), (1, .int x1), (2, .int (nI k1))], [], gh S a b sc ar lo, ex, 0, 0)) rfl ?_
  rcases hx1 with rfl | rfl | ⟨n1, hn1, rfl⟩
  · refine to_eq (fr' := (0, [(0, .ref 39), (1, .int (-1)), (2, .int (nI k1))], [], gh S a b sc ar lo, ex, 0, 0)) rfl ?_
    refine to_n 2 (fr' := (2, [(0, .ref 39), (1, .int (-1)), (2, .int (nI k1))], [.ref 39, .int (nI k1)], gh S a b sc ar lo, ex, 0, 0)) rfl ?_
    refine to_get rfl rfl rfl rfl ?_
    refine to_nc_lt (t := 28) (x := k1) (y := S) rfl (by omega) (by omega) (fun q2 => ?_) (fun q2 => ?_)
    · refine to_n 2 (fr' := (30, [(0, .ref 39), (1, .int (-1)), (2, .int (nI k1))], [.ref 39, .int (-1)], gh S a b sc ar lo, ex, 0, 0)) rfl ?_
      refine to_get rfl rfl rfl rfl ?_
      refine to_ic_ge_F (t := 47) (x := (-1)) (y := (nI S)) rfl (Int32.not_le.mpr (neg_lt (x := (-1)) (n := S) (by omega) (by decide))) ?_
      refine to_n 1 (fr' := (37, [(0, .ref 39), (1, .int (-1)), (2, .int (nI k1))], [.ref 39], gh S a b sc ar lo, ex, 0, 0)) rfl ?_
      refine to_get rfl rfl rfl rfl ?_
      refine to_n 2 (fr' := (43, [(0, .ref 39), (1, .int (-1)), (2, .int (nI k1))], [.int (-2), .int (nI k1), .ref 44], gh S a b sc ar lo, ex, 0, 0)) rfl ?_
      refine to_iasR (i := k1) (h' := gh S a b sc (uA ar 44 (upd (ar 44) k1 (-2))) lo) rfl rfl (by omega) (by omega) rfl ?_
      have hI3 := ia_44 (g := (upd (ar 44) k1 (-2))) hI
      have hF3 := fr_a (c := 44) (g := (upd (ar 44) k1 (-2))) hF (by decide)
      refine to_n 1 (fr' := (91, [(0, .ref 39), (1, .int (-1)), (2, .int (nI k1))], [], gh S a b sc (uA ar 44 (upd (ar 44) k1 (-2))) lo, ex, 0, 0)) rfl ?_
      exact to_rt (i := .return_) (tg := []) rfl rfl ⟨_, _, ⟨hI3, hF3, ⟨(fun c9 h9 e9 => absurd e9 (by omega)), (fun c9 h9 e9 => absurd e9 (by omega)), fun _ w9 => absurd w9 (by decide), (fun _ w9 => absurd w9.symm (nI_neg (by omega) (by decide))), fun _ b9 h9 n9 w9 => absurd w9.symm (nI_neg (by omega) (by decide))⟩⟩, rfl⟩
    · refine to_n 3 (fr' := (11, [(0, .ref 39), (1, .int (-1)), (2, .int (nI k1))], [.ref 39, .int (nI k1), .int (-1)], gh S a b sc ar lo, ex, 0, 0)) rfl ?_
      refine to_get rfl rfl rfl rfl ?_
      refine to_subN (x := k1) (y := S) rfl (by omega) ?_
      refine to_ic_ne_T (t := 91) (x := (-1)) (y := (nI (k1 - S))) rfl (fun w => nI_neg (n := (k1 - S)) (x := (-1)) (by omega) (by decide) w.symm) ?_
      exact to_rt (i := .return_) (tg := []) rfl rfl ⟨_, _, ⟨hI, hF, ⟨fun c9 h9 e9 w9 => absurd w9.symm (nI_neg (by omega) (by decide)), fun _ _ _ _ => ⟨rfl, rfl, rfl⟩, (fun h9 => absurd h9 (by omega)), (fun h9 => absurd h9 (by omega)), (fun h9 => absurd h9 (by omega))⟩⟩, rfl⟩
  · refine to_eq (fr' := (0, [(0, .ref 39), (1, .int (-2)), (2, .int (nI k1))], [], gh S a b sc ar lo, ex, 0, 0)) rfl ?_
    refine to_n 2 (fr' := (2, [(0, .ref 39), (1, .int (-2)), (2, .int (nI k1))], [.ref 39, .int (nI k1)], gh S a b sc ar lo, ex, 0, 0)) rfl ?_
    refine to_get rfl rfl rfl rfl ?_
    refine to_nc_lt (t := 28) (x := k1) (y := S) rfl (by omega) (by omega) (fun q4 => ?_) (fun q4 => ?_)
    · refine to_n 2 (fr' := (30, [(0, .ref 39), (1, .int (-2)), (2, .int (nI k1))], [.ref 39, .int (-2)], gh S a b sc ar lo, ex, 0, 0)) rfl ?_
      refine to_get rfl rfl rfl rfl ?_
      refine to_ic_ge_F (t := 47) (x := (-2)) (y := (nI S)) rfl (Int32.not_le.mpr (neg_lt (x := (-2)) (n := S) (by omega) (by decide))) ?_
      refine to_n 1 (fr' := (37, [(0, .ref 39), (1, .int (-2)), (2, .int (nI k1))], [.ref 39], gh S a b sc ar lo, ex, 0, 0)) rfl ?_
      refine to_get rfl rfl rfl rfl ?_
      refine to_n 2 (fr' := (43, [(0, .ref 39), (1, .int (-2)), (2, .int (nI k1))], [.int (-2), .int (nI k1), .ref 44], gh S a b sc ar lo, ex, 0, 0)) rfl ?_
      refine to_iasR (i := k1) (h' := gh S a b sc (uA ar 44 (upd (ar 44) k1 (-2))) lo) rfl rfl (by omega) (by omega) rfl ?_
      have hI5 := ia_44 (g := (upd (ar 44) k1 (-2))) hI
      have hF5 := fr_a (c := 44) (g := (upd (ar 44) k1 (-2))) hF (by decide)
      refine to_n 1 (fr' := (91, [(0, .ref 39), (1, .int (-2)), (2, .int (nI k1))], [], gh S a b sc (uA ar 44 (upd (ar 44) k1 (-2))) lo, ex, 0, 0)) rfl ?_
      exact to_rt (i := .return_) (tg := []) rfl rfl ⟨_, _, ⟨hI5, hF5, ⟨(fun c9 h9 e9 => absurd e9 (by omega)), (fun c9 h9 e9 => absurd e9 (by omega)), fun _ _ => ⟨rfl, rfl, rfl⟩, (fun _ w9 => absurd w9.symm (nI_neg (by omega) (by decide))), fun _ b9 h9 n9 w9 => absurd w9.symm (nI_neg (by omega) (by decide))⟩⟩, rfl⟩
    · refine to_n 3 (fr' := (11, [(0, .ref 39), (1, .int (-2)), (2, .int (nI k1))], [.ref 39, .int (nI k1), .int (-2)], gh S a b sc ar lo, ex, 0, 0)) rfl ?_
      refine to_get rfl rfl rfl rfl ?_
      refine to_subN (x := k1) (y := S) rfl (by omega) ?_
      refine to_ic_ne_T (t := 91) (x := (-2)) (y := (nI (k1 - S))) rfl (fun w => nI_neg (n := (k1 - S)) (x := (-2)) (by omega) (by decide) w.symm) ?_
      exact to_rt (i := .return_) (tg := []) rfl rfl ⟨_, _, ⟨hI, hF, ⟨fun c9 h9 e9 w9 => absurd w9.symm (nI_neg (by omega) (by decide)), fun _ _ _ _ => ⟨rfl, rfl, rfl⟩, (fun h9 => absurd h9 (by omega)), (fun h9 => absurd h9 (by omega)), (fun h9 => absurd h9 (by omega))⟩⟩, rfl⟩
  · refine to_eq (fr' := (0, [(0, .ref 39), (1, .int (nI n1)), (2, .int (nI k1))], [], gh S a b sc ar lo, ex, 0, 0)) rfl ?_
    refine to_n 2 (fr' := (2, [(0, .ref 39), (1, .int (nI n1)), (2, .int (nI k1))], [.ref 39, .int (nI k1)], gh S a b sc ar lo, ex, 0, 0)) rfl ?_
    refine to_get rfl rfl rfl rfl ?_
    refine to_nc_lt (t := 28) (x := k1) (y := S) rfl (by omega) (by omega) (fun q6 => ?_) (fun q6 => ?_)
    · refine to_n 2 (fr' := (30, [(0, .ref 39), (1, .int (nI n1)), (2, .int (nI k1))], [.ref 39, .int (nI n1)], gh S a b sc ar lo, ex, 0, 0)) rfl ?_
      refine to_get rfl rfl rfl rfl ?_
      refine to_nc_ge (t := 47) (x := n1) (y := S) rfl (by omega) (by omega) (fun q7 => ?_) (fun q7 => ?_)
      · refine to_n 2 (fr' := (49, [(0, .ref 39), (1, .int (nI n1)), (2, .int (nI k1))], [.ref 39, .int (nI n1)], gh S a b sc ar lo, ex, 0, 0)) rfl ?_
        refine to_get rfl rfl rfl rfl ?_
        refine to_subN (x := n1) (y := S) rfl (by omega) ?_
        refine to_n 1 (fr' := (54, [(0, .ref 39), (1, .int (nI n1)), (2, .int (nI k1))], [.int (nI k1), .int (nI (n1 - S))], gh S a b sc ar lo, ex, 0, 0)) rfl ?_
        refine to_nc_ne (t := 67) (x := (n1 - S)) (y := k1) rfl (by omega) (by omega) (fun q8 => ?_) (fun q8 => ?_)
        · refine to_n 1 (fr' := (68, [(0, .ref 39), (1, .int (nI n1)), (2, .int (nI k1))], [.ref 39], gh S a b sc ar lo, ex, 0, 0)) rfl ?_
          refine to_get rfl rfl rfl rfl ?_
          refine to_n 3 (fr' := (74, [(0, .ref 39), (1, .int (nI n1)), (2, .int (nI k1))], [.ref 39, .int (nI n1), .int (nI k1), .ref 44], gh S a b sc ar lo, ex, 0, 0)) rfl ?_
          refine to_get rfl rfl rfl rfl ?_
          refine to_subN (x := n1) (y := S) rfl (by omega) ?_
          refine to_iasR (i := k1) (h' := gh S a b sc (uA ar 44 (upd (ar 44) k1 (nI (n1 - S)))) lo) rfl rfl (by omega) (by omega) rfl ?_
          have hI9 := ia_44 (g := (upd (ar 44) k1 (nI (n1 - S)))) hI
          have hF9 := fr_a (c := 44) (g := (upd (ar 44) k1 (nI (n1 - S)))) hF (by decide)
          refine to_n 1 (fr' := (80, [(0, .ref 39), (1, .int (nI n1)), (2, .int (nI k1))], [.ref 39], gh S a b sc (uA ar 44 (upd (ar 44) k1 (nI (n1 - S)))) lo, ex, 0, 0)) rfl ?_
          refine to_get rfl rfl rfl rfl ?_
          refine to_n 2 (fr' := (85, [(0, .ref 39), (1, .int (nI n1)), (2, .int (nI k1))], [.ref 39, .int (nI n1), .ref 45], gh S a b sc (uA ar 44 (upd (ar 44) k1 (nI (n1 - S)))) lo, ex, 0, 0)) rfl ?_
          refine to_get rfl rfl rfl rfl ?_
          refine to_subN (x := n1) (y := S) rfl (by omega) ?_
          refine to_n 1 (fr' := (90, [(0, .ref 39), (1, .int (nI n1)), (2, .int (nI k1))], [.int (nI k1), .int (nI (n1 - S)), .ref 45], gh S a b sc (uA ar 44 (upd (ar 44) k1 (nI (n1 - S)))) lo, ex, 0, 0)) rfl ?_
          refine to_iasR (i := (n1 - S)) (h' := gh S a b sc (uA (uA ar 44 (upd (ar 44) k1 (nI (n1 - S)))) 45 (upd ((uA ar 44 (upd (ar 44) k1 (nI (n1 - S)))) 45) (n1 - S) (nI k1))) lo) rfl rfl (by omega) (by omega) rfl ?_
          have hI10 := ia_45 (g := (upd ((uA ar 44 (upd (ar 44) k1 (nI (n1 - S)))) 45) (n1 - S) (nI k1))) hI9
          have hF10 := fr_a (c := 45) (g := (upd ((uA ar 44 (upd (ar 44) k1 (nI (n1 - S)))) 45) (n1 - S) (nI k1))) hF9 (by decide)
          exact to_rt (i := .return_) (tg := []) rfl rfl ⟨_, _, ⟨hI10, hF10, ⟨(fun c9 h9 e9 => absurd e9 (by omega)), (fun c9 h9 e9 => absurd e9 (by omega)), (fun _ w9 => absurd w9 (nI_neg (by omega) (by decide))), fun _ w9 => by have u9 := (nI_eq (by omega) (by omega)).mp w9; omega, fun _ b9 h9 n9 w9 => by have u9 : n1 - S = b9 := (by have := (nI_eq (by omega) (by omega)).mp w9; omega); subst u9; exact ⟨rfl, rfl, rfl⟩⟩⟩, rfl⟩
        · refine to_n 1 (fr' := (58, [(0, .ref 39), (1, .int (nI n1)), (2, .int (nI k1))], [.ref 39], gh S a b sc ar lo, ex, 0, 0)) rfl ?_
          refine to_get rfl rfl rfl rfl ?_
          refine to_n 2 (fr' := (63, [(0, .ref 39), (1, .int (nI n1)), (2, .int (nI k1))], [.int 0, .int (nI k1), .ref 43], gh S a b sc ar lo, ex, 0, 0)) rfl ?_
          refine to_zasR (i := k1) (h' := gh S a b sc (uA ar 43 (upd (ar 43) k1 (vp_nar .boolean 0))) lo) rfl rfl (by omega) (by omega) rfl ?_
          have hI11 := ia_43 (g := (upd (ar 43) k1 (vp_nar .boolean 0))) hI
          have hF11 := fr_a (c := 43) (g := (upd (ar 43) k1 (vp_nar .boolean 0))) hF (by decide)
          refine to_n 1 (fr' := (91, [(0, .ref 39), (1, .int (nI n1)), (2, .int (nI k1))], [], gh S a b sc (uA ar 43 (upd (ar 43) k1 (vp_nar .boolean 0))) lo, ex, 0, 0)) rfl ?_
          exact to_rt (i := .return_) (tg := []) rfl rfl ⟨_, _, ⟨hI11, hF11, ⟨(fun c9 h9 e9 => absurd e9 (by omega)), (fun c9 h9 e9 => absurd e9 (by omega)), (fun _ w9 => absurd w9 (nI_neg (by omega) (by decide))), fun _ w9 => ⟨rfl, rfl, rfl⟩, fun _ b9 h9 n9 w9 => by have u9 := (nI_eq (by omega) (by omega)).mp w9; omega⟩⟩, rfl⟩
      · refine to_n 1 (fr' := (37, [(0, .ref 39), (1, .int (nI n1)), (2, .int (nI k1))], [.ref 39], gh S a b sc ar lo, ex, 0, 0)) rfl ?_
        refine to_get rfl rfl rfl rfl ?_
        refine to_n 2 (fr' := (43, [(0, .ref 39), (1, .int (nI n1)), (2, .int (nI k1))], [.int (-2), .int (nI k1), .ref 44], gh S a b sc ar lo, ex, 0, 0)) rfl ?_
        refine to_iasR (i := k1) (h' := gh S a b sc (uA ar 44 (upd (ar 44) k1 (-2))) lo) rfl rfl (by omega) (by omega) rfl ?_
        have hI12 := ia_44 (g := (upd (ar 44) k1 (-2))) hI
        have hF12 := fr_a (c := 44) (g := (upd (ar 44) k1 (-2))) hF (by decide)
        refine to_n 1 (fr' := (91, [(0, .ref 39), (1, .int (nI n1)), (2, .int (nI k1))], [], gh S a b sc (uA ar 44 (upd (ar 44) k1 (-2))) lo, ex, 0, 0)) rfl ?_
        exact to_rt (i := .return_) (tg := []) rfl rfl ⟨_, _, ⟨hI12, hF12, ⟨(fun c9 h9 e9 => absurd e9 (by omega)), (fun c9 h9 e9 => absurd e9 (by omega)), (fun _ w9 => absurd w9 (nI_neg (by omega) (by decide))), fun _ w9 => by have u9 := (nI_eq (by omega) (by omega)).mp w9; omega, fun _ b9 h9 n9 w9 => by have u9 := (nI_eq (by omega) (by omega)).mp w9; omega⟩⟩, rfl⟩
    · refine to_n 3 (fr' := (11, [(0, .ref 39), (1, .int (nI n1)), (2, .int (nI k1))], [.ref 39, .int (nI k1), .int (nI n1)], gh S a b sc ar lo, ex, 0, 0)) rfl ?_
      refine to_get rfl rfl rfl rfl ?_
      refine to_subN (x := k1) (y := S) rfl (by omega) ?_
      refine to_nc_ne (t := 91) (x := n1) (y := (k1 - S)) rfl (by omega) (by omega) (fun q13 => ?_) (fun q13 => ?_)
      · exact to_rt (i := .return_) (tg := []) rfl rfl ⟨_, _, ⟨hI, hF, ⟨fun c9 h9 e9 w9 => by have u9 : n1 = c9 := (nI_eq (by omega) (by omega)).mp w9; omega, fun _ _ _ _ => ⟨rfl, rfl, rfl⟩, (fun h9 => absurd h9 (by omega)), (fun h9 => absurd h9 (by omega)), (fun h9 => absurd h9 (by omega))⟩⟩, rfl⟩
      · refine to_n 1 (fr' := (19, [(0, .ref 39), (1, .int (nI n1)), (2, .int (nI k1))], [.ref 39], gh S a b sc ar lo, ex, 0, 0)) rfl ?_
        refine to_get rfl rfl rfl rfl ?_
        refine to_n 2 (fr' := (24, [(0, .ref 39), (1, .int (nI n1)), (2, .int (nI k1))], [.int 1, .int (nI n1), .ref 43], gh S a b sc ar lo, ex, 0, 0)) rfl ?_
        refine to_zasR (i := n1) (h' := gh S a b sc (uA ar 43 (upd (ar 43) n1 (vp_nar .boolean 1))) lo) rfl rfl (by omega) (by omega) rfl ?_
        have hI14 := ia_43 (g := (upd (ar 43) n1 (vp_nar .boolean 1))) hI
        have hF14 := fr_a (c := 43) (g := (upd (ar 43) n1 (vp_nar .boolean 1))) hF (by decide)
        refine to_n 1 (fr' := (91, [(0, .ref 39), (1, .int (nI n1)), (2, .int (nI k1))], [], gh S a b sc (uA ar 43 (upd (ar 43) n1 (vp_nar .boolean 1))) lo, ex, 0, 0)) rfl ?_
        exact to_rt (i := .return_) (tg := []) rfl rfl ⟨_, _, ⟨hI14, hF14, ⟨fun c9 h9 e9 w9 => by have u9 : n1 = c9 := (nI_eq (by omega) (by omega)).mp w9; subst u9; exact ⟨rfl, rfl, rfl⟩, fun c9 h9 e9 w9 => absurd (congrArg nI (show n1 = c9 by omega)) w9, (fun h9 => absurd h9 (by omega)), (fun h9 => absurd h9 (by omega)), (fun h9 => absurd h9 (by omega))⟩⟩, rfl⟩
set_option maxRecDepth 20000 in
theorem sf_X2_addRow {X : Nat × (Nat → Int32)} {S a b : Nat} {sc : Nat → Int32} {ar : Nat → Nat → Int32} {lo : Nat → Int64} {ex : Bool} (hW : Wd S a b) (hI : Iv S sc ar) (t r : Nat) (ht9 : t < S) (hg : Gd S a b ar) (ht : sc 3912 = nI t) (hMW : ∀ c, kW S (ar 42) c → kW S (ar 41) c) (hr : zrow S (zbs S a b) (kW S (ar 41)) (kW S (ar 42)) (fun c => zbs S a b c t) (kW S (ar 43)) (kB S (ar 44)) (kA S (ar 45))) (hrn : zcp (fun c => kW S (ar 43) c ∧ kB S (ar 44) c = S) S = r) (d : Nat)  : ci X S a b (d + 4) 21 [.ref 39] sc ar lo ex (fun x sc' ar' => Iv S sc' ar' ∧ Fr [3911] [43, 44, 45, 46, 47] sc ar sc' ar' ∧ rl x 2 ∧ ((x = 0 ∧ zcut S (zbs S a b) (kW S (ar 41)) (kW S (ar 42)) (fun c => zbs S a b c t) r ∧ ar' 43 = ar 43 ∧ ar' 44 = ar 44 ∧ ar' 45 = ar 45) ∨ (x = 1 ∧ zrow S (zbs S a b) (kW S (ar 41)) (kW S (ar 42)) (fun c => zbs S a b c t) (kW S (ar' 43)) (kB S (ar' 44)) (kA S (ar' 45)) ∧ zcp (fun c => kW S (ar' 43) c ∧ kB S (ar' 44) c = S) S = r + 1))) := by
  obtain ⟨ha1, ha8, hb1, hb8, hab, hS1, hS⟩ := id hW
  refine ci_of (M := an_X2_addRow) rfl (Nat.le_of_ble_eq_true rfl) ?_
  have hF : Fr [3911] [43, 44, 45, 46, 47] sc ar sc ar := fr_0
  refine to_eq (fr' := (0, [(0, .ref 39)], [], gh S a b sc ar lo, ex, 0, 0)) rfl ?_
  refine to_n 2 (fr' := (2, [(0, .ref 39)], [.int (-1), .ref 39], gh S a b sc ar lo, ex, 0, 0)) rfl ?_
  refine to_ci (q := 23) (M1 := an_X2_search) (rest := []) rfl rfl (by decide) rfl ⟨_, rfl⟩ (sf_X2_search hW hI (-1) (rq_m) S t ht9 hg ht (fun c w => (hr c w).2.1) hMW ⟨fun _ => rfl, fun n9 h9 e9 => absurd e9.symm (nI_neg (by omega) (by decide)), fun w => absurd w (by omega)⟩ d) (fun x1 sc1 ar1 hx1 => ?_)
  obtain ⟨hI1, hG1, -, qq1, hb1, hx1⟩ := hx1
  have hF1 := fr_t hF hG1 (by decide) (by decide)
  rcases hx1 with ⟨rfl, hd1, hm1, hw1⟩ | ⟨l1, hl1, rfl, hs1, hz1⟩
  · refine to_eq (fr' := (5, [(0, .ref 39)], [.int (-1)], gh S a b sc1 ar1 lo, ex, 0, 0)) rfl ?_
    refine to_n 5 (fr' := (12, [(0, .ref 39), (1, .int (-1))], [.int 0], gh S a b sc1 ar1 lo, ex, 0, 0)) rfl ?_
    exact to_rt (i := .ireturn) (tg := []) rfl rfl ⟨_, _, _, ⟨hI1, hF1, ⟨rl_n (n := 0) (by omega), (Or.inl ⟨rfl, hrn ▸ zclo_max hr (bd_clo (fun d9 w9 u9 => (hr d9 w9).2.2.1.elim (fun z => absurd z.1 (by omega)) (fun z => (hr _ z.2.1).2.1)) hMW hb1 hd1 hm1), hG1.2 43 (by decide), hG1.2 44 (by decide), hG1.2 45 (by decide)⟩)⟩⟩, rfl⟩
  · refine to_eq (fr' := (5, [(0, .ref 39)], [.int (nI l1)], gh S a b sc1 ar1 lo, ex, 0, 0)) rfl ?_
    obtain ⟨rk, hr1_1, hr2_1, hse1⟩ := hb1
    have hql := bq_le (S := S) hS (show BQ S a b (ar 41) (ar 42) (ar 43) (ar 44) S qq1 (ar1 46) (ar1 47) from ⟨rk, hr1_1, hr2_1, hse1⟩)
    have hc46 := fun n => iv_a46 hI1 n
    have c30 : ∀ m : Nat, ∀ (y : Int32) (i : Nat) (sc2 : Nat → Int32) (ar2 : Nat → Nat → Int32), i + m = (2 * S) → ((y = -2 ∧ zrow S (zbs S a b) (kW S (ar 41)) (kW S (ar 42)) (fun c => zbs S a b c t) (kW S (ar2 43)) (kB S (ar2 44)) (kA S (ar2 45)) ∧ zcp (fun c => kW S (ar2 43) c ∧ kB S (ar2 44) c = S) S = r + 1) ∨ ∃ n : Nat, n < 2 * S ∧ y = nI n ∧ kS S (ar1 46) n ∧ i + rk n < 2 * S ∧ zinv S (zbs S a b) (kW S (ar 41)) (kW S (ar 42)) (fun c => zbs S a b c t) (kW S (ar 43)) (kA S (ar 45)) (kS S (ar1 46)) (kF S (ar1 46)) rk r n (kW S (ar2 43)) (kB S (ar2 44)) (kA S (ar2 45))) → ar2 46 = ar1 46 → Iv S sc2 ar2 → Fr [3911] [43, 44, 45, 46, 47] sc ar sc2 ar2 → ag_To X (d + 3) an_X2_addRow (30, [(0, .ref 39), (1, .int (nI l1)), (2, .int y), (3, .int (nI i))], [], gh S a b sc2 ar2 lo, ex, 0, 0) (qi S a b lo ex (fun x sc' ar' => Iv S sc' ar' ∧ Fr [3911] [43, 44, 45, 46, 47] sc ar sc' ar' ∧ rl x 2 ∧ ((x = 0 ∧ zcut S (zbs S a b) (kW S (ar 41)) (kW S (ar 42)) (fun c => zbs S a b c t) r ∧ ar' 43 = ar 43 ∧ ar' 44 = ar 44 ∧ ar' 45 = ar 45) ∨ (x = 1 ∧ zrow S (zbs S a b) (kW S (ar 41)) (kW S (ar 42)) (fun c => zbs S a b c t) (kW S (ar' 43)) (kB S (ar' 44)) (kA S (ar' 45)) ∧ zcp (fun c => kW S (ar' 43) c ∧ kB S (ar' 44) c = S) S = r + 1)))) := by
      intro m
      induction m with
      | zero =>
        intro y i sc2 ar2 hm hc30_0 hc30_1 hI2 hF2
        rcases hc30_0 with ⟨rfl, hz9, hn9⟩ | ⟨n9, hn9, rfl, hs9, hi9, hv9⟩
        · refine to_eq (fr' := (30, [(0, .ref 39), (1, .int (nI l1)), (2, .int (-2)), (3, .int (nI i))], [], gh S a b sc2 ar2 lo, ex, 0, 0)) rfl ?_
          refine to_n 3 (fr' := (33, [(0, .ref 39), (1, .int (nI l1)), (2, .int (-2)), (3, .int (nI i))], [.ref 39, .int 2, .int (nI i)], gh S a b sc2 ar2 lo, ex, 0, 0)) rfl ?_
          refine to_get rfl rfl rfl rfl ?_
          refine to_mulN (x := 2) (y := S) rfl ?_
          refine to_nc_ge_T (t := 78) (x := i) (y := (2 * S)) rfl (by omega) (by omega) (by omega) ?_
          refine to_n 1 (fr' := (79, [(0, .ref 39), (1, .int (nI l1)), (2, .int (-2)), (3, .int (nI i))], [.int 1], gh S a b sc2 ar2 lo, ex, 0, 0)) rfl ?_
          exact to_rt (i := .ireturn) (tg := []) rfl rfl ⟨_, _, _, ⟨hI2, hF2, ⟨rl_n (n := 1) (by omega), (Or.inr ⟨rfl, hz9, hn9⟩)⟩⟩, rfl⟩
        · exfalso
          omega
      | succ m ih =>
        intro y i sc2 ar2 hm hc30_0 hc30_1 hI2 hF2
        rcases hc30_0 with ⟨rfl, hz9, hn9⟩ | ⟨n9, hn9, rfl, hs9, hi9, hv9⟩
        · refine to_eq (fr' := (30, [(0, .ref 39), (1, .int (nI l1)), (2, .int (-2)), (3, .int (nI i))], [], gh S a b sc2 ar2 lo, ex, 0, 0)) rfl ?_
          refine to_n 3 (fr' := (33, [(0, .ref 39), (1, .int (nI l1)), (2, .int (-2)), (3, .int (nI i))], [.ref 39, .int 2, .int (nI i)], gh S a b sc2 ar2 lo, ex, 0, 0)) rfl ?_
          refine to_get rfl rfl rfl rfl ?_
          refine to_mulN (x := 2) (y := S) rfl ?_
          refine to_nc_ge_F (t := 78) (x := i) (y := (2 * S)) rfl (by omega) (by omega) (by omega) ?_
          refine to_n 3 (fr' := (79, [(0, .ref 39), (1, .int (nI l1)), (2, .int (-2)), (3, .int (nI i))], [.int 1], gh S a b sc2 ar2 lo, ex, 0, 0)) rfl ?_
          exact to_rt (i := .ireturn) (tg := []) rfl rfl ⟨_, _, _, ⟨hI2, hF2, ⟨rl_n (n := 1) (by omega), (Or.inr ⟨rfl, hz9, hn9⟩)⟩⟩, rfl⟩
        · refine to_eq (fr' := (30, [(0, .ref 39), (1, .int (nI l1)), (2, .int (nI n9)), (3, .int (nI i))], [], gh S a b sc2 ar2 lo, ex, 0, 0)) rfl ?_
          refine to_n 3 (fr' := (33, [(0, .ref 39), (1, .int (nI l1)), (2, .int (nI n9)), (3, .int (nI i))], [.ref 39, .int 2, .int (nI i)], gh S a b sc2 ar2 lo, ex, 0, 0)) rfl ?_
          refine to_get rfl rfl rfl rfl ?_
          refine to_mulN (x := 2) (y := S) rfl ?_
          refine to_nc_ge_F (t := 78) (x := i) (y := (2 * S)) rfl (by omega) (by omega) (by omega) ?_
          refine to_n 1 (fr' := (41, [(0, .ref 39), (1, .int (nI l1)), (2, .int (nI n9)), (3, .int (nI i))], [.int (nI n9)], gh S a b sc2 ar2 lo, ex, 0, 0)) rfl ?_
          refine to_nf_lt (x := n9) rfl (by omega) ?_
          refine to_n 3 (fr' := (47, [(0, .ref 39), (1, .int (nI l1)), (2, .int (nI n9)), (3, .int (nI i))], [.ref 39, .int 2, .int (nI n9)], gh S a b sc2 ar2 lo, ex, 0, 0)) rfl ?_
          refine to_get rfl rfl rfl rfl ?_
          refine to_mulN (x := 2) (y := S) rfl ?_
          refine to_nc_ge_F (t := 78) (x := n9) (y := (2 * S)) rfl (by omega) (by omega) (by omega) ?_
          refine to_n 1 (fr' := (55, [(0, .ref 39), (1, .int (nI l1)), (2, .int (nI n9)), (3, .int (nI i))], [.ref 39], gh S a b sc2 ar2 lo, ex, 0, 0)) rfl ?_
          refine to_get rfl rfl rfl rfl ?_
          refine to_n 1 (fr' := (59, [(0, .ref 39), (1, .int (nI l1)), (2, .int (nI n9)), (3, .int (nI i))], [.int (nI n9), .ref 46], gh S a b sc2 ar2 lo, ex, 0, 0)) rfl ?_
          refine to_ialR (i := n9) (v := (ar1 46 n9)) rfl (by decide) rfl (by omega) (by omega) (congrFun hc30_1 n9) ?_
          refine to_n 4 (fr' := (66, [(0, .ref 39), (1, .int (nI l1)), (2, .int (nI n9)), (3, .int (nI i)), (4, .int (ar1 46 n9))], [.int (nI n9), .int (ar1 46 n9), .ref 39], gh S a b sc2 ar2 lo, ex, 0, 0)) rfl ?_
          refine to_cv (q := 22) (M1 := an_X2_turn) (rest := []) rfl rfl (by decide) rfl ⟨_, rfl⟩ (sf_X2_turn hW hI2 (ar1 46 n9) (hc46 n9) n9 (by omega) (d + 2)) (fun sc3 ar3 hx3 => ?_)
          obtain ⟨hI3, hG3, hx3⟩ := hx3
          have hF3 := fr_t hF2 hG3 (by decide) (by decide)
          refine to_eq (fr' := (69, [(0, .ref 39), (1, .int (nI l1)), (2, .int (nI n9)), (3, .int (nI i)), (4, .int (ar1 46 n9))], [], gh S a b sc3 ar3 lo, ex, 0, 0)) rfl ?_
          refine to_n 3 (fr' := (75, [(0, .ref 39), (1, .int (nI l1)), (2, .int (ar1 46 n9)), (3, .int ((nI i) + 1)), (4, .int (ar1 46 n9))], [], gh S a b sc3 ar3 lo, ex, 0, 0)) rfl ?_
          rw [nI_1 i]
          refine to_n 1 (fr' := (30, [(0, .ref 39), (1, .int (nI l1)), (2, .int (ar1 46 n9)), (3, .int (nI (i + 1))), (4, .int (ar1 46 n9))], [], gh S a b sc3 ar3 lo, ex, 0, 0)) rfl ?_
          refine to_lv (lv := [(0, .ref 39), (1, .int (nI l1)), (2, .int (ar1 46 n9)), (3, .int (nI (i + 1)))]) rfl ⟨rfl, rfl, rfl, rfl, trivial⟩ ?_
          exact ih (ar1 46 n9) (i + 1) sc3 ar3 (by omega) ((aug_st ha1 ha8 hS1 hS hc46 hr hse1 hs9 hv9 hx3).elim (fun w => Or.inl w) (fun w => w.elim fun m9 u => Or.inr ⟨m9, u.1, u.2.1, u.2.2.1, by have := u.2.2.2.1; omega, u.2.2.2.2⟩)) ((hG3.2 46 (by decide)).trans hc30_1) hI3 hF3
    refine to_n 3 (fr' := (8, [(0, .ref 39), (1, .int (nI l1))], [.int (-1), .int (nI l1)], gh S a b sc1 ar1 lo, ex, 0, 0)) rfl ?_
    refine to_ic_ne_T (t := 13) (x := (nI l1)) (y := (-1)) rfl (nI_neg (by omega) (by decide)) ?_
    refine to_n 1 (fr' := (14, [(0, .ref 39), (1, .int (nI l1))], [.ref 39], gh S a b sc1 ar1 lo, ex, 0, 0)) rfl ?_
    refine to_get rfl rfl rfl rfl ?_
    refine to_n 2 (fr' := (20, [(0, .ref 39), (1, .int (nI l1))], [.int (-3), .int (nI l1), .ref 45], gh S a b sc1 ar1 lo, ex, 0, 0)) rfl ?_
    refine to_iasR (i := l1) (h' := gh S a b sc1 (uA ar1 45 (upd (ar1 45) l1 (-3))) lo) rfl rfl (by omega) (by omega) rfl ?_
    have hI4 := ia_45 (g := (upd (ar1 45) l1 (-3))) hI1
    have hF4 := fr_a (c := 45) (g := (upd (ar1 45) l1 (-3))) hF1 (by decide)
    refine to_n 1 (fr' := (22, [(0, .ref 39), (1, .int (nI l1))], [.ref 39], gh S a b sc1 (uA ar1 45 (upd (ar1 45) l1 (-3))) lo, ex, 0, 0)) rfl ?_
    refine to_get rfl rfl rfl rfl ?_
    refine to_n 1 (fr' := (26, [(0, .ref 39), (1, .int (nI l1))], [.int (nI l1), .int (nI S)], gh S a b sc1 (uA ar1 45 (upd (ar1 45) l1 (-3))) lo, ex, 0, 0)) rfl ?_
    refine to_addN (x := S) (y := l1) rfl ?_
    refine to_n 3 (fr' := (30, [(0, .ref 39), (1, .int (nI l1)), (2, .int (nI (S + l1))), (3, .int 0)], [], gh S a b sc1 (uA ar1 45 (upd (ar1 45) l1 (-3))) lo, ex, 0, 0)) rfl ?_
    exact c30 ((2 * S) - 0) (nI (S + l1)) 0 sc1 (uA ar1 45 (upd (ar1 45) l1 (-3))) (by omega) (Or.inr ⟨S + l1, by omega, rfl, hs1, by have := (hr2_1 _ hs1).1; omega, by rw [show (uA ar1 45 (upd (ar1 45) l1 (-3))) 43 = ar 43 from hG1.2 43 (by decide), show (uA ar1 45 (upd (ar1 45) l1 (-3))) 44 = ar 44 from hG1.2 44 (by decide), show (uA ar1 45 (upd (ar1 45) l1 (-3))) 45 = upd (ar 45) l1 (-3) from (by rw [uA_s]; exact congrArg (fun f => upd f l1 (-3)) (hG1.2 45 (by decide))), ka_3]; exact aug_0 (fun x => zbs_ir ha1 ha8 hS) hr hrn hse1 hl1 hs1 hz1⟩) rfl hI4 hF4
set_option maxRecDepth 20000 in
theorem sf_X2_isInSomeBreak {X : Nat × (Nat → Int32)} {S a b : Nat} {sc : Nat → Int32} {ar : Nat → Nat → Int32} {lo : Nat → Int64} {ex : Bool} (hW : Wd S a b) (hI : Iv S sc ar) (k1 : Nat) (hk1 : k1 < S) (t r : Nat) (ht9 : t < S) (hg : Gd S a b ar) (ht : sc 3912 = nI t) (hMW : ∀ c, kW S (ar 42) c → kW S (ar 41) c) (hr : zrow S (zbs S a b) (kW S (ar 41)) (kW S (ar 42)) (fun c => zbs S a b c t) (kW S (ar 43)) (kB S (ar 44)) (kA S (ar 45))) (hrn : zcp (fun c => kW S (ar 43) c ∧ kB S (ar 44) c = S) S = r) (d : Nat)  : ci X S a b (d + 4) 27 [.ref 39, .int (nI k1)] sc ar lo ex (fun x sc' ar' => Iv S sc' ar' ∧ Fr [3911] [46, 47] sc ar sc' ar' ∧ ((x = 1 ∧ zdec2 S a b t (ar 41) (ar 42) r k1) ∨ (x = 0 ∧ ¬ (zdec2 S a b t (ar 41) (ar 42) r k1)))) := by
  obtain ⟨ha1, ha8, hb1, hb8, hab, hS1, hS⟩ := id hW
  refine ci_of (M := an_X2_isInSomeBreak) rfl (Nat.le_of_ble_eq_true rfl) ?_
  have hF : Fr [3911] [46, 47] sc ar sc ar := fr_0
  refine to_eq (fr' := (0, [(0, .ref 39), (1, .int (nI k1))], [], gh S a b sc ar lo, ex, 0, 0)) rfl ?_
  refine to_n 1 (fr' := (1, [(0, .ref 39), (1, .int (nI k1))], [.ref 39], gh S a b sc ar lo, ex, 0, 0)) rfl ?_
  refine to_get rfl rfl rfl rfl ?_
  refine to_n 1 (fr' := (5, [(0, .ref 39), (1, .int (nI k1))], [.int (nI k1), .ref 43], gh S a b sc ar lo, ex, 0, 0)) rfl ?_
  refine to_zalR (i := k1) (v := (ar 43 k1)) rfl rfl (by omega) (by omega) (congrFun (hF.2 43 (by decide)) k1) ?_
  refine to_if_eq (t := 37) rfl (fun q1 => ?_) (fun q1 => ?_)
  · refine to_n 1 (fr' := (38, [(0, .ref 39), (1, .int (nI k1))], [.int 0], gh S a b sc ar lo, ex, 0, 0)) rfl ?_
    exact to_rt (i := .ireturn) (tg := []) rfl rfl ⟨_, _, _, ⟨hI, hF, (Or.inr ⟨rfl, (isb_n0 hk1 hr hrn q1)⟩)⟩, rfl⟩
  · refine to_n 2 (fr' := (11, [(0, .ref 39), (1, .int (nI k1))], [.int (nI k1), .ref 39], gh S a b sc ar lo, ex, 0, 0)) rfl ?_
    refine to_ci (q := 23) (M1 := an_X2_search) (rest := []) rfl rfl (by decide) rfl ⟨_, rfl⟩ (sf_X2_search hW hI (nI k1) (rq_n (n := k1) (by omega)) k1 t ht9 hg ht (fun c w => (hr c w).2.1) hMW ⟨fun e9 => absurd e9 (nI_neg (by omega) (by decide)), fun n9 h9 e9 => (nI_eq (by omega) (by omega)).mp e9, fun _ => (hr k1 ⟨hk1, q1⟩).2.1⟩ d) (fun x2 sc2 ar2 hx2 => ?_)
    obtain ⟨hI2, hG2, -, qq2, hb2, hx2⟩ := hx2
    have hF2 := fr_t hF hG2 (by decide) (by decide)
    rcases hx2 with ⟨rfl, hd2, hm2, hw2⟩ | ⟨l2, hl2, rfl, hs2, hz2⟩
    · refine to_eq (fr' := (14, [(0, .ref 39), (1, .int (nI k1))], [.int (-1)], gh S a b sc2 ar2 lo, ex, 0, 0)) rfl ?_
      refine to_n 3 (fr' := (19, [(0, .ref 39), (1, .int (nI k1))], [.ref 39], gh S a b sc2 ar2 lo, ex, 0, 0)) rfl ?_
      refine to_get rfl rfl rfl rfl ?_
      refine to_n 1 (fr' := (23, [(0, .ref 39), (1, .int (nI k1))], [.ref 39, .ref 46], gh S a b sc2 ar2 lo, ex, 0, 0)) rfl ?_
      refine to_get rfl rfl rfl rfl ?_
      refine to_n 1 (fr' := (27, [(0, .ref 39), (1, .int (nI k1))], [.int (nI k1), .int (nI S), .ref 46], gh S a b sc2 ar2 lo, ex, 0, 0)) rfl ?_
      refine to_addN (x := S) (y := k1) rfl ?_
      refine to_ialR (i := (S + k1)) (v := (ar2 46 (S + k1))) rfl (by decide) rfl (by omega) (by omega) rfl ?_
      refine to_n 1 (fr' := (30, [(0, .ref 39), (1, .int (nI k1))], [.int (-1), .int (ar2 46 (S + k1))], gh S a b sc2 ar2 lo, ex, 0, 0)) rfl ?_
      refine to_ic_ne (t := 37) rfl (fun q3 => ?_) (fun q3 => ?_)
      · refine to_n 1 (fr' := (38, [(0, .ref 39), (1, .int (nI k1))], [.int 0], gh S a b sc2 ar2 lo, ex, 0, 0)) rfl ?_
        exact to_rt (i := .ireturn) (tg := []) rfl rfl ⟨_, _, _, ⟨hI2, hF2, (Or.inr ⟨rfl, (isb_n (n := 0) hk1 hr hrn hb2 hk1 ⟨by omega, q3⟩ (Or.inl rfl))⟩)⟩, rfl⟩
      · refine to_n 2 (fr' := (38, [(0, .ref 39), (1, .int (nI k1))], [.int 1], gh S a b sc2 ar2 lo, ex, 0, 0)) rfl ?_
        exact to_rt (i := .ireturn) (tg := []) rfl rfl ⟨_, _, _, ⟨hI2, hF2, (Or.inl ⟨rfl, (isb_y hk1 hr hrn hMW hb2 hd2 hm2 hw2 q3)⟩)⟩, rfl⟩
    · refine to_eq (fr' := (14, [(0, .ref 39), (1, .int (nI k1))], [.int (nI l2)], gh S a b sc2 ar2 lo, ex, 0, 0)) rfl ?_
      refine to_n 1 (fr' := (15, [(0, .ref 39), (1, .int (nI k1))], [.int (-1), .int (nI l2)], gh S a b sc2 ar2 lo, ex, 0, 0)) rfl ?_
      refine to_ic_ne_T (t := 37) (x := (nI l2)) (y := (-1)) rfl (nI_neg (by omega) (by decide)) ?_
      refine to_n 1 (fr' := (38, [(0, .ref 39), (1, .int (nI k1))], [.int 0], gh S a b sc2 ar2 lo, ex, 0, 0)) rfl ?_
      exact to_rt (i := .ireturn) (tg := []) rfl rfl ⟨_, _, _, ⟨hI2, hF2, (Or.inr ⟨rfl, (isb_n (n := 0) hk1 hr hrn hb2 hl2 hs2 (Or.inr hz2))⟩)⟩, rfl⟩
set_option maxRecDepth 20000 in
theorem sf_X2_keep {X : Nat × (Nat → Int32)} {S a b : Nat} {sc : Nat → Int32} {ar : Nat → Nat → Int32} {lo : Nat → Int64} {ex : Bool} (hW : Wd S a b) (hI : Iv S sc ar) (k1 : Nat) (hk1 : k1 < S) (ks : Nat) (hks : ks < 4) (eks : sc 3901 = nI ks) (d : Nat)  : cv X S a b (d + 2) 28 [.ref 39, .int (nI k1)] sc ar lo ex (fun sc' ar' => Iv S sc' ar' ∧ Fr [3901] [40, 41, 42, 43] sc ar sc' ar' ∧ (sc' 3901 = nI (ks + 1) ∧ ar' 40 = upd (ar 40) ks (nI k1) ∧ ar' 41 = upd (ar 41) k1 0 ∧ ar' 42 = upd (ar 42) k1 0 ∧ ∃ p q : Nat, zfar S (kB S (ar 44)) k1 p ∧ zfar S (kA S (ar 45)) k1 q ∧ ∀ c, kW S (ar' 43) c ↔ (kW S (ar 43) c ∧ ¬ ((∃ m, m ≤ p ∧ c = znx (kB S (ar 44)) k1 m) ∨ ∃ m, m ≤ q ∧ c = znx (kA S (ar 45)) k1 m)))) := by
  obtain ⟨ha1, ha8, hb1, hb8, hab, hS1, hS⟩ := id hW
  refine cv_of (M := an_X2_keep) rfl (Nat.le_of_ble_eq_true rfl) ?_
  have hF : Fr [3901] [40, 41, 42, 43] sc ar sc ar := fr_0
  refine to_eq (fr' := (0, [(0, .ref 39), (1, .int (nI k1))], [], gh S a b sc ar lo, ex, 0, 0)) rfl ?_
  have c91 : ∀ m : Nat, ∀ (w : Int32) (y : Int32) (i : Nat) (k9 : Nat) (sc1 : Nat → Int32) (ar1 : Nat → Nat → Int32), i + m = S → sc1 3901 = nI k9 → y = ar 45 (znx (kA S (ar 45)) k1 i) → (∃ (p : Nat) (c1 : Nat → Int32), zfar S (kB S (ar 44)) k1 p ∧ KG S (kB S (ar 44)) k1 (ar 43) c1 p ∧ KG S (kA S (ar 45)) k1 c1 (ar1 43) i) → ar1 40 = upd (ar 40) ks (nI k1) → ar1 41 = ar 41 → ar1 42 = ar 42 → k9 = ks + 1 → Iv S sc1 ar1 → Fr [3901] [40, 41, 42, 43] sc ar sc1 ar1 → ag_To X (d + 1) an_X2_keep (91, [(0, .ref 39), (1, .int (nI k1)), (2, .int w), (3, .int y), (4, .int (nI i))], [], gh S a b sc1 ar1 lo, ex, 0, 0) (qv S a b lo ex (fun sc' ar' => Iv S sc' ar' ∧ Fr [3901] [40, 41, 42, 43] sc ar sc' ar' ∧ (sc' 3901 = nI (ks + 1) ∧ ar' 40 = upd (ar 40) ks (nI k1) ∧ ar' 41 = upd (ar 41) k1 0 ∧ ar' 42 = upd (ar 42) k1 0 ∧ ∃ p q : Nat, zfar S (kB S (ar 44)) k1 p ∧ zfar S (kA S (ar 45)) k1 q ∧ ∀ c, kW S (ar' 43) c ↔ (kW S (ar 43) c ∧ ¬ ((∃ m, m ≤ p ∧ c = znx (kB S (ar 44)) k1 m) ∨ ∃ m, m ≤ q ∧ c = znx (kA S (ar 45)) k1 m))))) := by
    intro m
    induction m with
    | zero =>
      intro w y i k9 sc1 ar1 hm hc91_0 hc91_1 hc91_2 hc91_3 hc91_4 hc91_5 hc91_6 hI1 hF1
      refine to_n 2 (fr' := (94, [(0, .ref 39), (1, .int (nI k1)), (2, .int w), (3, .int y), (4, .int (nI i))], [.ref 39, .int (nI i)], gh S a b sc1 ar1 lo, ex, 0, 0)) rfl ?_
      refine to_get rfl rfl rfl rfl ?_
      refine to_nc_ge_T (t := 131) (x := i) (y := S) rfl (by omega) (by omega) (by omega) ?_
      refine to_n 1 (fr' := (132, [(0, .ref 39), (1, .int (nI k1)), (2, .int w), (3, .int y), (4, .int (nI i))], [.ref 39], gh S a b sc1 ar1 lo, ex, 0, 0)) rfl ?_
      refine to_get rfl rfl rfl rfl ?_
      refine to_n 2 (fr' := (137, [(0, .ref 39), (1, .int (nI k1)), (2, .int w), (3, .int y), (4, .int (nI i))], [.int 0, .int (nI k1), .ref 43], gh S a b sc1 ar1 lo, ex, 0, 0)) rfl ?_
      refine to_zasR (i := k1) (h' := gh S a b sc1 (uA ar1 43 (upd (ar1 43) k1 (vp_nar .boolean 0))) lo) rfl rfl (by omega) (by omega) rfl ?_
      have hI2 := ia_43 (g := (upd (ar1 43) k1 (vp_nar .boolean 0))) hI1
      have hF2 := fr_a (c := 43) (g := (upd (ar1 43) k1 (vp_nar .boolean 0))) hF1 (by decide)
      refine to_n 1 (fr' := (139, [(0, .ref 39), (1, .int (nI k1)), (2, .int w), (3, .int y), (4, .int (nI i))], [.ref 39], gh S a b sc1 (uA ar1 43 (upd (ar1 43) k1 (vp_nar .boolean 0))) lo, ex, 0, 0)) rfl ?_
      refine to_get rfl rfl rfl rfl ?_
      refine to_n 2 (fr' := (144, [(0, .ref 39), (1, .int (nI k1)), (2, .int w), (3, .int y), (4, .int (nI i))], [.int 0, .int (nI k1), .ref 41], gh S a b sc1 (uA ar1 43 (upd (ar1 43) k1 (vp_nar .boolean 0))) lo, ex, 0, 0)) rfl ?_
      refine to_zasR (i := k1) (h' := gh S a b sc1 (uA (uA ar1 43 (upd (ar1 43) k1 (vp_nar .boolean 0))) 41 (upd ((uA ar1 43 (upd (ar1 43) k1 (vp_nar .boolean 0))) 41) k1 (vp_nar .boolean 0))) lo) rfl rfl (by omega) (by omega) rfl ?_
      have hI3 := ia_41 (g := (upd ((uA ar1 43 (upd (ar1 43) k1 (vp_nar .boolean 0))) 41) k1 (vp_nar .boolean 0))) hI2
      have hF3 := fr_a (c := 41) (g := (upd ((uA ar1 43 (upd (ar1 43) k1 (vp_nar .boolean 0))) 41) k1 (vp_nar .boolean 0))) hF2 (by decide)
      refine to_n 1 (fr' := (146, [(0, .ref 39), (1, .int (nI k1)), (2, .int w), (3, .int y), (4, .int (nI i))], [.ref 39], gh S a b sc1 (uA (uA ar1 43 (upd (ar1 43) k1 (vp_nar .boolean 0))) 41 (upd ((uA ar1 43 (upd (ar1 43) k1 (vp_nar .boolean 0))) 41) k1 (vp_nar .boolean 0))) lo, ex, 0, 0)) rfl ?_
      refine to_get rfl rfl rfl rfl ?_
      refine to_n 2 (fr' := (151, [(0, .ref 39), (1, .int (nI k1)), (2, .int w), (3, .int y), (4, .int (nI i))], [.int 0, .int (nI k1), .ref 42], gh S a b sc1 (uA (uA ar1 43 (upd (ar1 43) k1 (vp_nar .boolean 0))) 41 (upd ((uA ar1 43 (upd (ar1 43) k1 (vp_nar .boolean 0))) 41) k1 (vp_nar .boolean 0))) lo, ex, 0, 0)) rfl ?_
      refine to_zasR (i := k1) (h' := gh S a b sc1 (uA (uA (uA ar1 43 (upd (ar1 43) k1 (vp_nar .boolean 0))) 41 (upd ((uA ar1 43 (upd (ar1 43) k1 (vp_nar .boolean 0))) 41) k1 (vp_nar .boolean 0))) 42 (upd ((uA (uA ar1 43 (upd (ar1 43) k1 (vp_nar .boolean 0))) 41 (upd ((uA ar1 43 (upd (ar1 43) k1 (vp_nar .boolean 0))) 41) k1 (vp_nar .boolean 0))) 42) k1 (vp_nar .boolean 0))) lo) rfl rfl (by omega) (by omega) rfl ?_
      have hI4 := ia_42 (g := (upd ((uA (uA ar1 43 (upd (ar1 43) k1 (vp_nar .boolean 0))) 41 (upd ((uA ar1 43 (upd (ar1 43) k1 (vp_nar .boolean 0))) 41) k1 (vp_nar .boolean 0))) 42) k1 (vp_nar .boolean 0))) hI3
      have hF4 := fr_a (c := 42) (g := (upd ((uA (uA ar1 43 (upd (ar1 43) k1 (vp_nar .boolean 0))) 41 (upd ((uA ar1 43 (upd (ar1 43) k1 (vp_nar .boolean 0))) 41) k1 (vp_nar .boolean 0))) 42) k1 (vp_nar .boolean 0))) hF3 (by decide)
      exact to_rt (i := .return_) (tg := []) rfl rfl ⟨_, _, ⟨hI4, hF4, ⟨(hc91_0).trans (congrArg nI (by omega)), hc91_3, congrArg (fun f => upd f k1 0) hc91_4, congrArg (fun f => upd f k1 0) hc91_5, hc91_2.elim fun p9 z => z.elim fun c9 u => ⟨p9, i, u.1, kg_far u.2.2 (by omega) (Or.inl (by omega)), kg_all u.2.1 u.2.2⟩⟩⟩, rfl⟩
    | succ m ih =>
      intro w y i k9 sc1 ar1 hm hc91_0 hc91_1 hc91_2 hc91_3 hc91_4 hc91_5 hc91_6 hI1 hF1
      refine to_n 2 (fr' := (94, [(0, .ref 39), (1, .int (nI k1)), (2, .int w), (3, .int y), (4, .int (nI i))], [.ref 39, .int (nI i)], gh S a b sc1 ar1 lo, ex, 0, 0)) rfl ?_
      refine to_get rfl rfl rfl rfl ?_
      refine to_nc_ge_F (t := 131) (x := i) (y := S) rfl (by omega) (by omega) (by omega) ?_
      refine to_n 1 (fr' := (101, [(0, .ref 39), (1, .int (nI k1)), (2, .int w), (3, .int y), (4, .int (nI i))], [.ref 39], gh S a b sc1 ar1 lo, ex, 0, 0)) rfl ?_
      refine to_get rfl rfl rfl rfl ?_
      refine to_n 1 (fr' := (105, [(0, .ref 39), (1, .int (nI k1)), (2, .int w), (3, .int y), (4, .int (nI i))], [.int y, .ref 1], gh S a b sc1 ar1 lo, ex, 0, 0)) rfl ?_
      rcases has_or (x := y) (B := S) (by omega) with ⟨n5, hn5, e5⟩ | w5
      · rw [e5]
        refine to_cp (q := 2) (M1 := an_X0_has) (rest := []) rfl rfl (by decide) rfl ⟨_, rfl⟩ (sf_has_1 (n := n5)  (by omega) d) (fun x5 hx5 => ?_)
        obtain rfl := hx5
        refine to_eq (fr' := (108, [(0, .ref 39), (1, .int (nI k1)), (2, .int w), (3, .int (nI n5)), (4, .int (nI i))], [.int 1], gh S a b sc1 ar1 lo, ex, 0, 0)) rfl ?_
        refine to_n 2 (fr' := (112, [(0, .ref 39), (1, .int (nI k1)), (2, .int w), (3, .int (nI n5)), (4, .int (nI i))], [.ref 39], gh S a b sc1 ar1 lo, ex, 0, 0)) rfl ?_
        refine to_get rfl rfl rfl rfl ?_
        refine to_n 2 (fr' := (117, [(0, .ref 39), (1, .int (nI k1)), (2, .int w), (3, .int (nI n5)), (4, .int (nI i))], [.int 0, .int (nI n5), .ref 43], gh S a b sc1 ar1 lo, ex, 0, 0)) rfl ?_
        refine to_zasR (i := n5) (h' := gh S a b sc1 (uA ar1 43 (upd (ar1 43) n5 (vp_nar .boolean 0))) lo) rfl rfl (by omega) (by omega) rfl ?_
        have hI6 := ia_43 (g := (upd (ar1 43) n5 (vp_nar .boolean 0))) hI1
        have hF6 := fr_a (c := 43) (g := (upd (ar1 43) n5 (vp_nar .boolean 0))) hF1 (by decide)
        refine to_n 1 (fr' := (119, [(0, .ref 39), (1, .int (nI k1)), (2, .int w), (3, .int (nI n5)), (4, .int (nI i))], [.ref 39], gh S a b sc1 (uA ar1 43 (upd (ar1 43) n5 (vp_nar .boolean 0))) lo, ex, 0, 0)) rfl ?_
        refine to_get rfl rfl rfl rfl ?_
        refine to_n 1 (fr' := (123, [(0, .ref 39), (1, .int (nI k1)), (2, .int w), (3, .int (nI n5)), (4, .int (nI i))], [.int (nI n5), .ref 45], gh S a b sc1 (uA ar1 43 (upd (ar1 43) n5 (vp_nar .boolean 0))) lo, ex, 0, 0)) rfl ?_
        refine to_ialR (i := n5) (v := (ar 45 n5)) rfl (by decide) rfl (by omega) (by omega) (congrFun (hF6.2 45 (by decide)) n5) ?_
        refine to_n 2 (fr' := (128, [(0, .ref 39), (1, .int (nI k1)), (2, .int w), (3, .int (ar 45 n5)), (4, .int ((nI i) + 1))], [], gh S a b sc1 (uA ar1 43 (upd (ar1 43) n5 (vp_nar .boolean 0))) lo, ex, 0, 0)) rfl ?_
        rw [nI_1 i]
        refine to_n 1 (fr' := (91, [(0, .ref 39), (1, .int (nI k1)), (2, .int w), (3, .int (ar 45 n5)), (4, .int (nI (i + 1)))], [], gh S a b sc1 (uA ar1 43 (upd (ar1 43) n5 (vp_nar .boolean 0))) lo, ex, 0, 0)) rfl ?_
        exact ih w (ar 45 n5) (i + 1) k9 sc1 (uA ar1 43 (upd (ar1 43) n5 (vp_nar .boolean 0))) (by omega) (hc91_0) (by have u9 := kA_n (S := S) (show n5 < 1000 by omega) (hc91_1.symm.trans e5); show _ = ar 45 (kA S (ar 45) (znx (kA S (ar 45)) k1 i)); rw [u9]) (hc91_2.elim fun p9 z => z.elim fun c9 u => ⟨p9, c9, u.1, u.2.1, kg_s u.2.2 hn5 (kA_n (by omega) (hc91_1.symm.trans e5))⟩) hc91_3 hc91_4 hc91_5 (by clear ih; grind []) hI6 hF6
      · refine to_cp (q := 2) (M1 := an_X0_has) (rest := []) rfl rfl (by decide) rfl ⟨_, rfl⟩ (sf_has_0  w5 d) (fun x5 hx5 => ?_)
        obtain rfl := hx5
        refine to_eq (fr' := (108, [(0, .ref 39), (1, .int (nI k1)), (2, .int w), (3, .int y), (4, .int (nI i))], [.int 0], gh S a b sc1 ar1 lo, ex, 0, 0)) rfl ?_
        refine to_n 2 (fr' := (132, [(0, .ref 39), (1, .int (nI k1)), (2, .int w), (3, .int y), (4, .int (nI i))], [.ref 39], gh S a b sc1 ar1 lo, ex, 0, 0)) rfl ?_
        refine to_get rfl rfl rfl rfl ?_
        refine to_n 2 (fr' := (137, [(0, .ref 39), (1, .int (nI k1)), (2, .int w), (3, .int y), (4, .int (nI i))], [.int 0, .int (nI k1), .ref 43], gh S a b sc1 ar1 lo, ex, 0, 0)) rfl ?_
        refine to_zasR (i := k1) (h' := gh S a b sc1 (uA ar1 43 (upd (ar1 43) k1 (vp_nar .boolean 0))) lo) rfl rfl (by omega) (by omega) rfl ?_
        have hI7 := ia_43 (g := (upd (ar1 43) k1 (vp_nar .boolean 0))) hI1
        have hF7 := fr_a (c := 43) (g := (upd (ar1 43) k1 (vp_nar .boolean 0))) hF1 (by decide)
        refine to_n 1 (fr' := (139, [(0, .ref 39), (1, .int (nI k1)), (2, .int w), (3, .int y), (4, .int (nI i))], [.ref 39], gh S a b sc1 (uA ar1 43 (upd (ar1 43) k1 (vp_nar .boolean 0))) lo, ex, 0, 0)) rfl ?_
        refine to_get rfl rfl rfl rfl ?_
        refine to_n 2 (fr' := (144, [(0, .ref 39), (1, .int (nI k1)), (2, .int w), (3, .int y), (4, .int (nI i))], [.int 0, .int (nI k1), .ref 41], gh S a b sc1 (uA ar1 43 (upd (ar1 43) k1 (vp_nar .boolean 0))) lo, ex, 0, 0)) rfl ?_
        refine to_zasR (i := k1) (h' := gh S a b sc1 (uA (uA ar1 43 (upd (ar1 43) k1 (vp_nar .boolean 0))) 41 (upd ((uA ar1 43 (upd (ar1 43) k1 (vp_nar .boolean 0))) 41) k1 (vp_nar .boolean 0))) lo) rfl rfl (by omega) (by omega) rfl ?_
        have hI8 := ia_41 (g := (upd ((uA ar1 43 (upd (ar1 43) k1 (vp_nar .boolean 0))) 41) k1 (vp_nar .boolean 0))) hI7
        have hF8 := fr_a (c := 41) (g := (upd ((uA ar1 43 (upd (ar1 43) k1 (vp_nar .boolean 0))) 41) k1 (vp_nar .boolean 0))) hF7 (by decide)
        refine to_n 1 (fr' := (146, [(0, .ref 39), (1, .int (nI k1)), (2, .int w), (3, .int y), (4, .int (nI i))], [.ref 39], gh S a b sc1 (uA (uA ar1 43 (upd (ar1 43) k1 (vp_nar .boolean 0))) 41 (upd ((uA ar1 43 (upd (ar1 43) k1 (vp_nar .boolean 0))) 41) k1 (vp_nar .boolean 0))) lo, ex, 0, 0)) rfl ?_
        refine to_get rfl rfl rfl rfl ?_
        refine to_n 2 (fr' := (151, [(0, .ref 39), (1, .int (nI k1)), (2, .int w), (3, .int y), (4, .int (nI i))], [.int 0, .int (nI k1), .ref 42], gh S a b sc1 (uA (uA ar1 43 (upd (ar1 43) k1 (vp_nar .boolean 0))) 41 (upd ((uA ar1 43 (upd (ar1 43) k1 (vp_nar .boolean 0))) 41) k1 (vp_nar .boolean 0))) lo, ex, 0, 0)) rfl ?_
        refine to_zasR (i := k1) (h' := gh S a b sc1 (uA (uA (uA ar1 43 (upd (ar1 43) k1 (vp_nar .boolean 0))) 41 (upd ((uA ar1 43 (upd (ar1 43) k1 (vp_nar .boolean 0))) 41) k1 (vp_nar .boolean 0))) 42 (upd ((uA (uA ar1 43 (upd (ar1 43) k1 (vp_nar .boolean 0))) 41 (upd ((uA ar1 43 (upd (ar1 43) k1 (vp_nar .boolean 0))) 41) k1 (vp_nar .boolean 0))) 42) k1 (vp_nar .boolean 0))) lo) rfl rfl (by omega) (by omega) rfl ?_
        have hI9 := ia_42 (g := (upd ((uA (uA ar1 43 (upd (ar1 43) k1 (vp_nar .boolean 0))) 41 (upd ((uA ar1 43 (upd (ar1 43) k1 (vp_nar .boolean 0))) 41) k1 (vp_nar .boolean 0))) 42) k1 (vp_nar .boolean 0))) hI8
        have hF9 := fr_a (c := 42) (g := (upd ((uA (uA ar1 43 (upd (ar1 43) k1 (vp_nar .boolean 0))) 41 (upd ((uA ar1 43 (upd (ar1 43) k1 (vp_nar .boolean 0))) 41) k1 (vp_nar .boolean 0))) 42) k1 (vp_nar .boolean 0))) hF8 (by decide)
        exact to_rt (i := .return_) (tg := []) rfl rfl ⟨_, _, ⟨hI9, hF9, ⟨(hc91_0).trans (congrArg nI (by omega)), hc91_3, congrArg (fun f => upd f k1 0) hc91_4, congrArg (fun f => upd f k1 0) hc91_5, hc91_2.elim fun p9 z => z.elim fun c9 u => ⟨p9, i, u.1, kg_far u.2.2 (by omega) (Or.inr (kA_no hS (by rw [← hc91_1]; exact w5))), kg_all u.2.1 u.2.2⟩⟩⟩, rfl⟩
  have c42 : ∀ m : Nat, ∀ (y : Int32) (i : Nat) (k9 : Nat) (sc10 : Nat → Int32) (ar10 : Nat → Nat → Int32), i + m = S → sc10 3901 = nI k9 → y = ar 44 (znx (kB S (ar 44)) k1 i) → KG S (kB S (ar 44)) k1 (ar 43) (ar10 43) i → ar10 40 = upd (ar 40) ks (nI k1) → ar10 41 = ar 41 → ar10 42 = ar 42 → k9 = ks + 1 → Iv S sc10 ar10 → Fr [3901] [40, 41, 42, 43] sc ar sc10 ar10 → ag_To X (d + 1) an_X2_keep (42, [(0, .ref 39), (1, .int (nI k1)), (2, .int y), (3, .int (nI i))], [], gh S a b sc10 ar10 lo, ex, 0, 0) (qv S a b lo ex (fun sc' ar' => Iv S sc' ar' ∧ Fr [3901] [40, 41, 42, 43] sc ar sc' ar' ∧ (sc' 3901 = nI (ks + 1) ∧ ar' 40 = upd (ar 40) ks (nI k1) ∧ ar' 41 = upd (ar 41) k1 0 ∧ ar' 42 = upd (ar 42) k1 0 ∧ ∃ p q : Nat, zfar S (kB S (ar 44)) k1 p ∧ zfar S (kA S (ar 45)) k1 q ∧ ∀ c, kW S (ar' 43) c ↔ (kW S (ar 43) c ∧ ¬ ((∃ m, m ≤ p ∧ c = znx (kB S (ar 44)) k1 m) ∨ ∃ m, m ≤ q ∧ c = znx (kA S (ar 45)) k1 m))))) := by
    intro m
    induction m with
    | zero =>
      intro y i k9 sc10 ar10 hm hc42_0 hc42_1 hc42_2 hc42_3 hc42_4 hc42_5 hc42_6 hI10 hF10
      refine to_n 2 (fr' := (44, [(0, .ref 39), (1, .int (nI k1)), (2, .int y), (3, .int (nI i))], [.ref 39, .int (nI i)], gh S a b sc10 ar10 lo, ex, 0, 0)) rfl ?_
      refine to_get rfl rfl rfl rfl ?_
      refine to_nc_ge_T (t := 81) (x := i) (y := S) rfl (by omega) (by omega) (by omega) ?_
      refine to_n 1 (fr' := (82, [(0, .ref 39), (1, .int (nI k1)), (2, .int y), (3, .int (nI i))], [.ref 39], gh S a b sc10 ar10 lo, ex, 0, 0)) rfl ?_
      refine to_get rfl rfl rfl rfl ?_
      refine to_n 1 (fr' := (86, [(0, .ref 39), (1, .int (nI k1)), (2, .int y), (3, .int (nI i))], [.int (nI k1), .ref 45], gh S a b sc10 ar10 lo, ex, 0, 0)) rfl ?_
      refine to_ialR (i := k1) (v := (ar 45 k1)) rfl (by decide) rfl (by omega) (by omega) (congrFun (hF10.2 45 (by decide)) k1) ?_
      refine to_n 3 (fr' := (91, [(0, .ref 39), (1, .int (nI k1)), (2, .int y), (3, .int (ar 45 k1)), (4, .int 0)], [], gh S a b sc10 ar10 lo, ex, 0, 0)) rfl ?_
      exact c91 (S - 0) y (ar 45 k1) 0 k9 sc10 ar10 (by omega) (hc42_0) rfl ⟨i, _, kg_far hc42_2 (by omega) (Or.inl (by omega)), hc42_2, kg_0 hk1⟩ hc42_3 hc42_4 hc42_5 (by clear c91; grind []) hI10 hF10
    | succ m ih =>
      intro y i k9 sc10 ar10 hm hc42_0 hc42_1 hc42_2 hc42_3 hc42_4 hc42_5 hc42_6 hI10 hF10
      refine to_n 2 (fr' := (44, [(0, .ref 39), (1, .int (nI k1)), (2, .int y), (3, .int (nI i))], [.ref 39, .int (nI i)], gh S a b sc10 ar10 lo, ex, 0, 0)) rfl ?_
      refine to_get rfl rfl rfl rfl ?_
      refine to_nc_ge_F (t := 81) (x := i) (y := S) rfl (by omega) (by omega) (by omega) ?_
      refine to_n 1 (fr' := (51, [(0, .ref 39), (1, .int (nI k1)), (2, .int y), (3, .int (nI i))], [.ref 39], gh S a b sc10 ar10 lo, ex, 0, 0)) rfl ?_
      refine to_get rfl rfl rfl rfl ?_
      refine to_n 1 (fr' := (55, [(0, .ref 39), (1, .int (nI k1)), (2, .int y), (3, .int (nI i))], [.int y, .ref 1], gh S a b sc10 ar10 lo, ex, 0, 0)) rfl ?_
      rcases has_or (x := y) (B := S) (by omega) with ⟨n11, hn11, e11⟩ | w11
      · rw [e11]
        refine to_cp (q := 2) (M1 := an_X0_has) (rest := []) rfl rfl (by decide) rfl ⟨_, rfl⟩ (sf_has_1 (n := n11)  (by omega) d) (fun x11 hx11 => ?_)
        obtain rfl := hx11
        refine to_eq (fr' := (58, [(0, .ref 39), (1, .int (nI k1)), (2, .int (nI n11)), (3, .int (nI i))], [.int 1], gh S a b sc10 ar10 lo, ex, 0, 0)) rfl ?_
        refine to_n 2 (fr' := (62, [(0, .ref 39), (1, .int (nI k1)), (2, .int (nI n11)), (3, .int (nI i))], [.ref 39], gh S a b sc10 ar10 lo, ex, 0, 0)) rfl ?_
        refine to_get rfl rfl rfl rfl ?_
        refine to_n 2 (fr' := (67, [(0, .ref 39), (1, .int (nI k1)), (2, .int (nI n11)), (3, .int (nI i))], [.int 0, .int (nI n11), .ref 43], gh S a b sc10 ar10 lo, ex, 0, 0)) rfl ?_
        refine to_zasR (i := n11) (h' := gh S a b sc10 (uA ar10 43 (upd (ar10 43) n11 (vp_nar .boolean 0))) lo) rfl rfl (by omega) (by omega) rfl ?_
        have hI12 := ia_43 (g := (upd (ar10 43) n11 (vp_nar .boolean 0))) hI10
        have hF12 := fr_a (c := 43) (g := (upd (ar10 43) n11 (vp_nar .boolean 0))) hF10 (by decide)
        refine to_n 1 (fr' := (69, [(0, .ref 39), (1, .int (nI k1)), (2, .int (nI n11)), (3, .int (nI i))], [.ref 39], gh S a b sc10 (uA ar10 43 (upd (ar10 43) n11 (vp_nar .boolean 0))) lo, ex, 0, 0)) rfl ?_
        refine to_get rfl rfl rfl rfl ?_
        refine to_n 1 (fr' := (73, [(0, .ref 39), (1, .int (nI k1)), (2, .int (nI n11)), (3, .int (nI i))], [.int (nI n11), .ref 44], gh S a b sc10 (uA ar10 43 (upd (ar10 43) n11 (vp_nar .boolean 0))) lo, ex, 0, 0)) rfl ?_
        refine to_ialR (i := n11) (v := (ar 44 n11)) rfl (by decide) rfl (by omega) (by omega) (congrFun (hF12.2 44 (by decide)) n11) ?_
        refine to_n 2 (fr' := (78, [(0, .ref 39), (1, .int (nI k1)), (2, .int (ar 44 n11)), (3, .int ((nI i) + 1))], [], gh S a b sc10 (uA ar10 43 (upd (ar10 43) n11 (vp_nar .boolean 0))) lo, ex, 0, 0)) rfl ?_
        rw [nI_1 i]
        refine to_n 1 (fr' := (42, [(0, .ref 39), (1, .int (nI k1)), (2, .int (ar 44 n11)), (3, .int (nI (i + 1)))], [], gh S a b sc10 (uA ar10 43 (upd (ar10 43) n11 (vp_nar .boolean 0))) lo, ex, 0, 0)) rfl ?_
        exact ih (ar 44 n11) (i + 1) k9 sc10 (uA ar10 43 (upd (ar10 43) n11 (vp_nar .boolean 0))) (by omega) (hc42_0) (by have u9 := kB_n (S := S) (show n11 < 1000 by omega) (hc42_1.symm.trans e11); show _ = ar 44 (kB S (ar 44) (znx (kB S (ar 44)) k1 i)); rw [u9]) (kg_s hc42_2 hn11 (kB_n (by omega) (hc42_1.symm.trans e11))) hc42_3 hc42_4 hc42_5 (by clear c91 ih; grind []) hI12 hF12
      · refine to_cp (q := 2) (M1 := an_X0_has) (rest := []) rfl rfl (by decide) rfl ⟨_, rfl⟩ (sf_has_0  w11 d) (fun x11 hx11 => ?_)
        obtain rfl := hx11
        refine to_eq (fr' := (58, [(0, .ref 39), (1, .int (nI k1)), (2, .int y), (3, .int (nI i))], [.int 0], gh S a b sc10 ar10 lo, ex, 0, 0)) rfl ?_
        refine to_n 2 (fr' := (82, [(0, .ref 39), (1, .int (nI k1)), (2, .int y), (3, .int (nI i))], [.ref 39], gh S a b sc10 ar10 lo, ex, 0, 0)) rfl ?_
        refine to_get rfl rfl rfl rfl ?_
        refine to_n 1 (fr' := (86, [(0, .ref 39), (1, .int (nI k1)), (2, .int y), (3, .int (nI i))], [.int (nI k1), .ref 45], gh S a b sc10 ar10 lo, ex, 0, 0)) rfl ?_
        refine to_ialR (i := k1) (v := (ar 45 k1)) rfl (by decide) rfl (by omega) (by omega) (congrFun (hF10.2 45 (by decide)) k1) ?_
        refine to_n 3 (fr' := (91, [(0, .ref 39), (1, .int (nI k1)), (2, .int y), (3, .int (ar 45 k1)), (4, .int 0)], [], gh S a b sc10 ar10 lo, ex, 0, 0)) rfl ?_
        exact c91 (S - 0) y (ar 45 k1) 0 k9 sc10 ar10 (by omega) (hc42_0) rfl ⟨i, _, kg_far hc42_2 (by omega) (Or.inr (kB_no hS (by rw [← hc42_1]; exact w11))), hc42_2, kg_0 hk1⟩ hc42_3 hc42_4 hc42_5 (by clear c91 ih; grind []) hI10 hF10
  refine to_n 1 (fr' := (1, [(0, .ref 39), (1, .int (nI k1))], [.ref 39], gh S a b sc ar lo, ex, 0, 0)) rfl ?_
  refine to_getR (v := (nI ks)) rfl rfl rfl rfl eks ?_
  refine to_n 1 (fr' := (5, [(0, .ref 39), (1, .int (nI k1))], [.ref 39, .int (nI ks)], gh S a b sc ar lo, ex, 0, 0)) rfl ?_
  refine to_get rfl rfl rfl rfl ?_
  refine to_len rfl (by decide) rfl (by decide) ?_
  refine to_eq (fr' := (9, [(0, .ref 39), (1, .int (nI k1))], [.int (nI 4), .int (nI ks)], gh S a b sc ar lo, ex, 0, 0)) rfl ?_
  refine to_nc_lt_T (t := 13) (x := ks) (y := 4) rfl (by omega) (by omega) (by omega) ?_
  refine to_n 1 (fr' := (14, [(0, .ref 39), (1, .int (nI k1))], [.ref 39], gh S a b sc ar lo, ex, 0, 0)) rfl ?_
  refine to_get rfl rfl rfl rfl ?_
  refine to_n 1 (fr' := (18, [(0, .ref 39), (1, .int (nI k1))], [.ref 39, .ref 40], gh S a b sc ar lo, ex, 0, 0)) rfl ?_
  refine to_getR (v := (nI ks)) rfl rfl rfl rfl eks ?_
  refine to_n 1 (fr' := (22, [(0, .ref 39), (1, .int (nI k1))], [.int (nI k1), .int (nI ks), .ref 40], gh S a b sc ar lo, ex, 0, 0)) rfl ?_
  refine to_iasR (i := ks) (h' := gh S a b sc (uA ar 40 (upd (ar 40) ks (nI k1))) lo) rfl rfl (by omega) (by omega) rfl ?_
  have hI13 := ia_40 (g := (upd (ar 40) ks (nI k1))) hI
  have hF13 := fr_a (c := 40) (g := (upd (ar 40) ks (nI k1))) hF (by decide)
  refine to_n 2 (fr' := (25, [(0, .ref 39), (1, .int (nI k1))], [.ref 39, .ref 39], gh S a b sc (uA ar 40 (upd (ar 40) ks (nI k1))) lo, ex, 0, 0)) rfl ?_
  refine to_getR (v := (nI ks)) rfl rfl rfl rfl eks ?_
  refine to_n 1 (fr' := (29, [(0, .ref 39), (1, .int (nI k1))], [.int 1, .int (nI ks), .ref 39], gh S a b sc (uA ar 40 (upd (ar 40) ks (nI k1))) lo, ex, 0, 0)) rfl ?_
  refine to_addN (x := ks) (y := 1) rfl ?_
  refine to_putR (h' := gh S a b (upd sc 3901 (nI (ks + 1))) (uA ar 40 (upd (ar 40) ks (nI k1))) lo) rfl rfl rfl (Nat.le_of_ble_eq_true rfl) rfl rfl ?_
  have hI14 := ip_3901 (v := (nI (ks + 1))) hI13 (rl_n (n := (ks + 1)) (by omega))
  have hF14 := fr_s (k := 3901) (v := (nI (ks + 1))) hF13 (by decide)
  refine to_n 1 (fr' := (34, [(0, .ref 39), (1, .int (nI k1))], [.ref 39], gh S a b (upd sc 3901 (nI (ks + 1))) (uA ar 40 (upd (ar 40) ks (nI k1))) lo, ex, 0, 0)) rfl ?_
  refine to_get rfl rfl rfl rfl ?_
  refine to_n 1 (fr' := (38, [(0, .ref 39), (1, .int (nI k1))], [.int (nI k1), .ref 44], gh S a b (upd sc 3901 (nI (ks + 1))) (uA ar 40 (upd (ar 40) ks (nI k1))) lo, ex, 0, 0)) rfl ?_
  refine to_ialR (i := k1) (v := (ar 44 k1)) rfl (by decide) rfl (by omega) (by omega) (congrFun (hF14.2 44 (by decide)) k1) ?_
  refine to_n 3 (fr' := (42, [(0, .ref 39), (1, .int (nI k1)), (2, .int (ar 44 k1)), (3, .int 0)], [], gh S a b (upd sc 3901 (nI (ks + 1))) (uA ar 40 (upd (ar 40) ks (nI k1))) lo, ex, 0, 0)) rfl ?_
  exact c42 (S - 0) (ar 44 k1) 0 (ks + 1) (upd sc 3901 (nI (ks + 1))) (uA ar 40 (upd (ar 40) ks (nI k1))) (by omega) (rfl) rfl (kg_0 hk1) rfl rfl rfl (by clear c91 c42; grind []) hI14 hF14
set_option maxRecDepth 20000 in
theorem sf_X0_burningBeside2 {X : Nat × (Nat → Int32)} {S a b : Nat} {sc : Nat → Int32} {ar : Nat → Nat → Int32} {lo : Nat → Int64} {ex : Bool} (hW : Wd S a b) (hI : Iv S sc ar) (k1 : Nat) (hk1 : k1 < S) (hg : Gd S a b ar) (d : Nat)  : cp X S a b (d + 3) 8 [.ref 1, .int (nI k1)] sc ar lo ex (fun x => ((x = 1 ∧ zbb S a b (ar 5) k1) ∨ (x = 0 ∧ ¬ (zbb S a b (ar 5) k1)))) := by
  obtain ⟨ha1, ha8, hb1, hb8, hab, hS1, hS⟩ := id hW
  refine cp_of (M := an_X0_burningBeside) rfl (Nat.le_of_ble_eq_true rfl) ?_
  refine to_eq (fr' := (0, [(0, .ref 1), (1, .int (nI k1))], [], gh S a b sc ar lo, ex, 0, 0)) rfl ?_
  have c2 : ∀ m : Nat, ∀ (i : Nat) , i + m = 4 → (∀ j : Nat, j < i → ¬ zbu S (ar 5) (znb a b k1 j)) → ag_To X (d + 2) an_X0_burningBeside (2, [(0, .ref 1), (1, .int (nI k1)), (2, .int (nI i))], [], gh S a b sc ar lo, ex, 0, 0) (qp S a b sc ar lo ex (fun x => ((x = 1 ∧ zbb S a b (ar 5) k1) ∨ (x = 0 ∧ ¬ (zbb S a b (ar 5) k1))))) := by
    intro m
    induction m with
    | zero =>
      intro i hm hc2_0
      refine to_n 2 (fr' := (4, [(0, .ref 1), (1, .int (nI k1)), (2, .int (nI i))], [.int 4, .int (nI i)], gh S a b sc ar lo, ex, 0, 0)) rfl ?_
      refine to_nc_ge_T (t := 32) (x := i) (y := 4) rfl (by omega) (by omega) (by omega) ?_
      refine to_n 1 (fr' := (33, [(0, .ref 1), (1, .int (nI k1)), (2, .int (nI i))], [.int 0], gh S a b sc ar lo, ex, 0, 0)) rfl ?_
      exact to_rt (i := .ireturn) (tg := []) rfl rfl ⟨_, (Or.inr ⟨rfl, (fun ⟨j, h1, h2⟩ => hc2_0 j (by omega) h2)⟩), rfl⟩
    | succ m ih =>
      intro i hm hc2_0
      refine to_n 2 (fr' := (4, [(0, .ref 1), (1, .int (nI k1)), (2, .int (nI i))], [.int 4, .int (nI i)], gh S a b sc ar lo, ex, 0, 0)) rfl ?_
      refine to_nc_ge_F (t := 32) (x := i) (y := 4) rfl (by omega) (by omega) (by omega) ?_
      refine to_n 2 (fr' := (9, [(0, .ref 1), (1, .int (nI k1)), (2, .int (nI i))], [.ref 1, .ref 1], gh S a b sc ar lo, ex, 0, 0)) rfl ?_
      refine to_get rfl rfl rfl rfl ?_
      refine to_n 2 (fr' := (14, [(0, .ref 1), (1, .int (nI k1)), (2, .int (nI i))], [.int (nI k1), .int 4, .ref 4, .ref 1], gh S a b sc ar lo, ex, 0, 0)) rfl ?_
      refine to_mulN (x := 4) (y := k1) rfl ?_
      refine to_n 1 (fr' := (16, [(0, .ref 1), (1, .int (nI k1)), (2, .int (nI i))], [.int (nI i), .int (nI (4 * k1)), .ref 4, .ref 1], gh S a b sc ar lo, ex, 0, 0)) rfl ?_
      refine to_addN (x := (4 * k1)) (y := i) rfl ?_
      refine to_ialR (i := ((4 * k1) + i)) (v := (ar 4 ((4 * k1) + i))) rfl (by decide) rfl (by omega) (by omega) rfl ?_
      refine to_cp (q := 7) (M1 := an_X0_burns) (rest := []) rfl rfl (by decide) rfl ⟨_, rfl⟩ (sf_X0_burns hW hI (ar 4 ((4 * k1) + i)) d) (fun x2 hx2 => ?_)
      rcases hx2 with ⟨rfl, w2⟩ | ⟨rfl, w2⟩
      · refine to_eq (fr' := (21, [(0, .ref 1), (1, .int (nI k1)), (2, .int (nI i))], [.int 1], gh S a b sc ar lo, ex, 0, 0)) rfl ?_
        refine to_n 2 (fr' := (25, [(0, .ref 1), (1, .int (nI k1)), (2, .int (nI i))], [.int 1], gh S a b sc ar lo, ex, 0, 0)) rfl ?_
        exact to_rt (i := .ireturn) (tg := []) rfl rfl ⟨_, (Or.inl ⟨rfl, ⟨i, by omega, by rw [← (hg.2.2 k1 i hk1 (by omega))]; exact w2⟩⟩), rfl⟩
      · refine to_eq (fr' := (21, [(0, .ref 1), (1, .int (nI k1)), (2, .int (nI i))], [.int 0], gh S a b sc ar lo, ex, 0, 0)) rfl ?_
        refine to_n 2 (fr' := (29, [(0, .ref 1), (1, .int (nI k1)), (2, .int ((nI i) + 1))], [], gh S a b sc ar lo, ex, 0, 0)) rfl ?_
        rw [nI_1 i]
        refine to_n 1 (fr' := (2, [(0, .ref 1), (1, .int (nI k1)), (2, .int (nI (i + 1)))], [], gh S a b sc ar lo, ex, 0, 0)) rfl ?_
        exact ih (i + 1) (by omega) (fun j hj w => if e9 : j = i then w2 (by rw [(hg.2.2 k1 i hk1 (by omega))]; exact e9 ▸ w) else hc2_0 j (by omega) w)
  refine to_n 2 (fr' := (2, [(0, .ref 1), (1, .int (nI k1)), (2, .int 0)], [], gh S a b sc ar lo, ex, 0, 0)) rfl ?_
  exact c2 (4 - 0) 0 (by omega) (fun j hj => absurd hj (Nat.not_lt_zero _))
set_option maxRecDepth 20000 in
theorem sf_X2_plan {X : Nat × (Nat → Int32)} {S a b : Nat} {sc : Nat → Int32} {ar : Nat → Nat → Int32} {lo : Nat → Int64} {ex : Bool} (hW : Wd S a b) (hI : Iv S sc ar) (t : Nat) (ht : t < S) (hg : Gd S a b ar) (d : Nat)  : cv X S a b (d + 5) 20 [.ref 39, .int (nI t)] sc ar lo ex (fun sc' ar' => Iv S sc' ar' ∧ Fr [3901, 3911, 3912] [40, 41, 42, 43, 44, 45, 46, 47] sc ar sc' ar' ∧ PE S a b t (ar 5) (sc' 3901) (ar' 40)) := by
  obtain ⟨ha1, ha8, hb1, hb8, hab, hS1, hS⟩ := id hW
  refine cv_of (M := an_X2_plan) rfl (Nat.le_of_ble_eq_true rfl) ?_
  have hF : Fr [3901, 3911, 3912] [40, 41, 42, 43, 44, 45, 46, 47] sc ar sc ar := fr_0
  refine to_eq (fr' := (0, [(0, .ref 39), (1, .int (nI t))], [], gh S a b sc ar lo, ex, 0, 0)) rfl ?_
  have c114 : ∀ m : Nat, ∀ (r : Nat) (i : Nat) (ks : Nat) (sc1 : Nat → Int32) (ar1 : Nat → Nat → Int32), i + m = S → sc1 3901 = nI ks → sc1 3912 = nI t → r ≤ 4 → PL S a b t r (ar 5) i ks (ar1 40) (ar1 41) (ar1 42) (ar1 43) (ar1 44) (ar1 45) → Iv S sc1 ar1 → Fr [3901, 3911, 3912] [40, 41, 42, 43, 44, 45, 46, 47] sc ar sc1 ar1 → ag_To X (d + 4) an_X2_plan (114, [(0, .ref 39), (1, .int (nI t)), (2, .int (nI r)), (3, .int (nI i))], [], gh S a b sc1 ar1 lo, ex, 0, 0) (qv S a b lo ex (fun sc' ar' => Iv S sc' ar' ∧ Fr [3901, 3911, 3912] [40, 41, 42, 43, 44, 45, 46, 47] sc ar sc' ar' ∧ PE S a b t (ar 5) (sc' 3901) (ar' 40))) := by
    intro m
    induction m with
    | zero =>
      intro r i ks sc1 ar1 hm hc114_0 hc114_1 hc114_2 hc114_3 hI1 hF1
      have hks9 := PL_le hc114_3
      refine to_n 2 (fr' := (116, [(0, .ref 39), (1, .int (nI t)), (2, .int (nI r)), (3, .int (nI i))], [.ref 39, .int (nI i)], gh S a b sc1 ar1 lo, ex, 0, 0)) rfl ?_
      refine to_get rfl rfl rfl rfl ?_
      refine to_nc_ge_T (t := 149) (x := i) (y := S) rfl (by omega) (by omega) (by omega) ?_
      exact to_rt (i := .return_) (tg := []) rfl rfl ⟨_, _, ⟨hI1, hF1, (PL_e hc114_3 hc114_2 (by omega) (by omega) hc114_0)⟩, rfl⟩
    | succ m ih =>
      intro r i ks sc1 ar1 hm hc114_0 hc114_1 hc114_2 hc114_3 hI1 hF1
      have hks9 := PL_le hc114_3
      refine to_n 2 (fr' := (116, [(0, .ref 39), (1, .int (nI t)), (2, .int (nI r)), (3, .int (nI i))], [.ref 39, .int (nI i)], gh S a b sc1 ar1 lo, ex, 0, 0)) rfl ?_
      refine to_get rfl rfl rfl rfl ?_
      refine to_nc_ge_F (t := 149) (x := i) (y := S) rfl (by omega) (by omega) (by omega) ?_
      refine to_n 1 (fr' := (123, [(0, .ref 39), (1, .int (nI t)), (2, .int (nI r)), (3, .int (nI i))], [.ref 39], gh S a b sc1 ar1 lo, ex, 0, 0)) rfl ?_
      refine to_getR (v := (nI ks)) rfl rfl rfl rfl hc114_0 ?_
      refine to_n 1 (fr' := (127, [(0, .ref 39), (1, .int (nI t)), (2, .int (nI r)), (3, .int (nI i))], [.int (nI r), .int (nI ks)], gh S a b sc1 ar1 lo, ex, 0, 0)) rfl ?_
      refine to_nc_ge (t := 149) (x := ks) (y := r) rfl (by omega) (by omega) (fun q2 => ?_) (fun q2 => ?_)
      · exact to_rt (i := .return_) (tg := []) rfl rfl ⟨_, _, ⟨hI1, hF1, (PL_e hc114_3 hc114_2 (by omega) (by omega) hc114_0)⟩, rfl⟩
      · refine to_n 2 (fr' := (132, [(0, .ref 39), (1, .int (nI t)), (2, .int (nI r)), (3, .int (nI i))], [.int (nI i), .ref 39], gh S a b sc1 ar1 lo, ex, 0, 0)) rfl ?_
        refine to_ci (q := 27) (M1 := an_X2_isInSomeBreak) (rest := []) rfl rfl (by decide) rfl ⟨_, rfl⟩ (sf_X2_isInSomeBreak hW hI1 i (by omega) t (r - ks) ht (gd_fr hg hF1 (by decide) (by decide) (by decide)) hc114_1 (PL_mw hc114_3) hc114_3.2.2.2.2.1 hc114_3.2.2.2.2.2.1 d) (fun x3 sc3 ar3 hx3 => ?_)
        obtain ⟨hI3, hG3, hx3⟩ := hx3
        have hF3 := fr_t hF1 hG3 (by decide) (by decide)
        have hP3 : PL S a b t r (ar 5) i ks (ar3 40) (ar3 41) (ar3 42) (ar3 43) (ar3 44) (ar3 45) := (by rw [hG3.2 40 (by decide), hG3.2 41 (by decide), hG3.2 42 (by decide), hG3.2 43 (by decide), hG3.2 44 (by decide), hG3.2 45 (by decide)]; exact hc114_3)
        rw [← hG3.2 41 (by decide), ← hG3.2 42 (by decide)] at hx3
        rcases hx3 with ⟨rfl, w3⟩ | ⟨rfl, w3⟩
        · refine to_eq (fr' := (135, [(0, .ref 39), (1, .int (nI t)), (2, .int (nI r)), (3, .int (nI i))], [.int 1], gh S a b sc3 ar3 lo, ex, 0, 0)) rfl ?_
          refine to_n 3 (fr' := (140, [(0, .ref 39), (1, .int (nI t)), (2, .int (nI r)), (3, .int (nI i))], [.int (nI i), .ref 39], gh S a b sc3 ar3 lo, ex, 0, 0)) rfl ?_
          refine to_cv (q := 28) (M1 := an_X2_keep) (rest := []) rfl rfl (by decide) rfl ⟨_, rfl⟩ (sf_X2_keep hW hI3 i (by omega) ks (by omega) ((hG3.1 3901 (by decide)).trans hc114_0) (d + 2)) (fun sc4 ar4 hx4 => ?_)
          obtain ⟨hI4, hG4, hx4⟩ := hx4
          have hF4 := fr_t hF3 hG4 (by decide) (by decide)
          obtain ⟨e1_4, e2_4, e3_4, e4_4, e5_4⟩ := hx4
          refine to_eq (fr' := (143, [(0, .ref 39), (1, .int (nI t)), (2, .int (nI r)), (3, .int (nI i))], [], gh S a b sc4 ar4 lo, ex, 0, 0)) rfl ?_
          refine to_n 1 (fr' := (146, [(0, .ref 39), (1, .int (nI t)), (2, .int (nI r)), (3, .int ((nI i) + 1))], [], gh S a b sc4 ar4 lo, ex, 0, 0)) rfl ?_
          rw [nI_1 i]
          refine to_n 1 (fr' := (114, [(0, .ref 39), (1, .int (nI t)), (2, .int (nI r)), (3, .int (nI (i + 1)))], [], gh S a b sc4 ar4 lo, ex, 0, 0)) rfl ?_
          exact ih r (i + 1) (ks + 1) sc4 ar4 (by omega) (e1_4) ((hG4.1 3912 (by decide)).trans ((hG3.1 3912 (by decide)).trans hc114_1)) (by omega) (by rw [e2_4, hG4.2 44 (by decide), hG4.2 45 (by decide)]; exact PL_y (by omega) hP3 (by omega) w3 e3_4 e4_4 e5_4) hI4 hF4
        · refine to_eq (fr' := (135, [(0, .ref 39), (1, .int (nI t)), (2, .int (nI r)), (3, .int (nI i))], [.int 0], gh S a b sc3 ar3 lo, ex, 0, 0)) rfl ?_
          refine to_n 2 (fr' := (146, [(0, .ref 39), (1, .int (nI t)), (2, .int (nI r)), (3, .int ((nI i) + 1))], [], gh S a b sc3 ar3 lo, ex, 0, 0)) rfl ?_
          rw [nI_1 i]
          refine to_n 1 (fr' := (114, [(0, .ref 39), (1, .int (nI t)), (2, .int (nI r)), (3, .int (nI (i + 1)))], [], gh S a b sc3 ar3 lo, ex, 0, 0)) rfl ?_
          exact ih r (i + 1) ks sc3 ar3 (by omega) (((hG3.1 3901 (by decide)).trans hc114_0)) ((hG3.1 3912 (by decide)).trans hc114_1) (by omega) (PL_n hP3 (by omega) w3) hI3 hF3
  have c94 : ∀ m : Nat, ∀ (r : Nat) (sc5 : Nat → Int32) (ar5 : Nat → Nat → Int32), r + m = 4 → sc5 3912 = nI t → sc5 3901 = nI 0 → (∀ c, kW S (ar5 41) c ↔ pW S (ar 5) t c) → (∀ c, kW S (ar5 42) c ↔ pM S a b (ar 5) t c) → zrow S (zbs S a b) (kW S (ar5 41)) (kW S (ar5 42)) (fun c => zbs S a b c t) (kW S (ar5 43)) (kB S (ar5 44)) (kA S (ar5 45)) → zcp (fun c => kW S (ar5 43) c ∧ kB S (ar5 44) c = S) S = r → Iv S sc5 ar5 → Fr [3901, 3911, 3912] [40, 41, 42, 43, 44, 45, 46, 47] sc ar sc5 ar5 → ag_To X (d + 4) an_X2_plan (94, [(0, .ref 39), (1, .int (nI t)), (2, .int (nI r))], [], gh S a b sc5 ar5 lo, ex, 0, 0) (qv S a b lo ex (fun sc' ar' => Iv S sc' ar' ∧ Fr [3901, 3911, 3912] [40, 41, 42, 43, 44, 45, 46, 47] sc ar sc' ar' ∧ PE S a b t (ar 5) (sc' 3901) (ar' 40))) := by
    intro m
    induction m with
    | zero =>
      intro r sc5 ar5 hm hc94_0 hc94_1 hc94_2 hc94_3 hc94_4 hc94_5 hI5 hF5
      refine to_n 2 (fr' := (96, [(0, .ref 39), (1, .int (nI t)), (2, .int (nI r))], [.int 4, .int (nI r)], gh S a b sc5 ar5 lo, ex, 0, 0)) rfl ?_
      refine to_nc_ge_T (t := 112) (x := r) (y := 4) rfl (by omega) (by omega) (by omega) ?_
      refine to_n 2 (fr' := (114, [(0, .ref 39), (1, .int (nI t)), (2, .int (nI r)), (3, .int 0)], [], gh S a b sc5 ar5 lo, ex, 0, 0)) rfl ?_
      exact c114 (S - 0) r 0 0 sc5 ar5 (by omega) (hc94_1) hc94_0 (by omega) (by have e9 : r = 4 := (by omega); subst e9; exact PL_0 (pl_c hc94_2 hc94_3 (zcut_4 (fun c w => (hc94_2 c).mpr ((hc94_3 c).mp w).1) hc94_4 hc94_5 (zbs_4 hW ht))) hc94_2 hc94_3 hc94_4 hc94_5) hI5 hF5
    | succ m ih =>
      intro r sc5 ar5 hm hc94_0 hc94_1 hc94_2 hc94_3 hc94_4 hc94_5 hI5 hF5
      refine to_n 2 (fr' := (96, [(0, .ref 39), (1, .int (nI t)), (2, .int (nI r))], [.int 4, .int (nI r)], gh S a b sc5 ar5 lo, ex, 0, 0)) rfl ?_
      refine to_nc_ge_F (t := 112) (x := r) (y := 4) rfl (by omega) (by omega) (by omega) ?_
      refine to_n 1 (fr' := (100, [(0, .ref 39), (1, .int (nI t)), (2, .int (nI r))], [.ref 39], gh S a b sc5 ar5 lo, ex, 0, 0)) rfl ?_
      refine to_ci (q := 21) (M1 := an_X2_addRow) (rest := []) rfl rfl (by decide) rfl ⟨_, rfl⟩ (sf_X2_addRow hW hI5 t r ht (gd_fr hg hF5 (by decide) (by decide) (by decide)) hc94_0 (fun c w => (hc94_2 c).mpr ((hc94_3 c).mp w).1) hc94_4 hc94_5 d) (fun x6 sc6 ar6 hx6 => ?_)
      obtain ⟨hI6, hG6, hx6⟩ := hx6
      have hF6 := fr_t hF5 hG6 (by decide) (by decide)
      rcases hx6 with ⟨-, ⟨rfl, hz6, e43, e44, e45⟩ | ⟨rfl, hz6, hn6⟩⟩
      · refine to_eq (fr' := (103, [(0, .ref 39), (1, .int (nI t)), (2, .int (nI r))], [.int 0], gh S a b sc6 ar6 lo, ex, 0, 0)) rfl ?_
        have hP6 : PL S a b t r (ar 5) 0 0 (ar6 40) (ar6 41) (ar6 42) (ar6 43) (ar6 44) (ar6 45) := (by rw [hG6.2 41 (by decide), hG6.2 42 (by decide), e43, e44, e45]; exact PL_0 (pl_c hc94_2 hc94_3 hz6) hc94_2 hc94_3 hc94_4 hc94_5)
        refine to_n 3 (fr' := (114, [(0, .ref 39), (1, .int (nI t)), (2, .int (nI r)), (3, .int 0)], [], gh S a b sc6 ar6 lo, ex, 0, 0)) rfl ?_
        exact c114 (S - 0) r 0 0 sc6 ar6 (by omega) (((hG6.1 3901 (by decide)).trans hc94_1)) ((hG6.1 3912 (by decide)).trans hc94_0) (by omega) hP6 hI6 hF6
      · refine to_eq (fr' := (103, [(0, .ref 39), (1, .int (nI t)), (2, .int (nI r))], [.int 1], gh S a b sc6 ar6 lo, ex, 0, 0)) rfl ?_
        refine to_n 2 (fr' := (109, [(0, .ref 39), (1, .int (nI t)), (2, .int ((nI r) + 1))], [], gh S a b sc6 ar6 lo, ex, 0, 0)) rfl ?_
        rw [nI_1 r]
        refine to_n 1 (fr' := (94, [(0, .ref 39), (1, .int (nI t)), (2, .int (nI (r + 1)))], [], gh S a b sc6 ar6 lo, ex, 0, 0)) rfl ?_
        exact ih (r + 1) sc6 ar6 (by omega) ((hG6.1 3912 (by decide)).trans hc94_0) ((hG6.1 3901 (by decide)).trans hc94_1) (by rw [hG6.2 41 (by decide)]; exact hc94_2) (by rw [hG6.2 42 (by decide)]; exact hc94_3) (by rw [hG6.2 41 (by decide), hG6.2 42 (by decide)]; exact hz6) hn6 hI6 hF6
  have c12 : ∀ m : Nat, ∀ (i : Nat) (sc7 : Nat → Int32) (ar7 : Nat → Nat → Int32), i + m = S → sc7 3912 = nI t → sc7 3901 = nI 0 → (∀ c, c < i → (¬ ar7 41 c = 0 ↔ pW S (ar 5) t c)) → (∀ c, c < i → (¬ ar7 42 c = 0 ↔ pM S a b (ar 5) t c)) → (∀ c, c < i → ar7 43 c = 0) → Iv S sc7 ar7 → Fr [3901, 3911, 3912] [40, 41, 42, 43, 44, 45, 46, 47] sc ar sc7 ar7 → ag_To X (d + 4) an_X2_plan (12, [(0, .ref 39), (1, .int (nI t)), (2, .int (nI i))], [], gh S a b sc7 ar7 lo, ex, 0, 0) (qv S a b lo ex (fun sc' ar' => Iv S sc' ar' ∧ Fr [3901, 3911, 3912] [40, 41, 42, 43, 44, 45, 46, 47] sc ar sc' ar' ∧ PE S a b t (ar 5) (sc' 3901) (ar' 40))) := by
    intro m
    induction m with
    | zero =>
      intro i sc7 ar7 hm hc12_0 hc12_1 hc12_2 hc12_3 hc12_4 hI7 hF7
      refine to_n 2 (fr' := (14, [(0, .ref 39), (1, .int (nI t)), (2, .int (nI i))], [.ref 39, .int (nI i)], gh S a b sc7 ar7 lo, ex, 0, 0)) rfl ?_
      refine to_get rfl rfl rfl rfl ?_
      refine to_nc_ge_T (t := 92) (x := i) (y := S) rfl (by omega) (by omega) (by omega) ?_
      refine to_n 2 (fr' := (94, [(0, .ref 39), (1, .int (nI t)), (2, .int 0)], [], gh S a b sc7 ar7 lo, ex, 0, 0)) rfl ?_
      exact c94 (4 - 0) 0 sc7 ar7 (by omega) hc12_0 hc12_1 (pl_kW (fun _ w => w.1) (fun c hc => hc12_2 c (by omega))) (pl_kW (fun _ w => w.1.1) (fun c hc => hc12_3 c (by omega))) (pl_z0 (fun c hc => hc12_4 c (by omega))).1 (pl_z0 (a := a) (b := b) (W := fun _ => False) (M := fun _ => False) (T := fun _ => False) (af := fun _ => 0) (fun c hc => hc12_4 c (by omega))).2 hI7 hF7
    | succ m ih =>
      intro i sc7 ar7 hm hc12_0 hc12_1 hc12_2 hc12_3 hc12_4 hI7 hF7
      refine to_n 2 (fr' := (14, [(0, .ref 39), (1, .int (nI t)), (2, .int (nI i))], [.ref 39, .int (nI i)], gh S a b sc7 ar7 lo, ex, 0, 0)) rfl ?_
      refine to_get rfl rfl rfl rfl ?_
      refine to_nc_ge_F (t := 92) (x := i) (y := S) rfl (by omega) (by omega) (by omega) ?_
      refine to_n 1 (fr' := (21, [(0, .ref 39), (1, .int (nI t)), (2, .int (nI i))], [.ref 39], gh S a b sc7 ar7 lo, ex, 0, 0)) rfl ?_
      refine to_get rfl rfl rfl rfl ?_
      refine to_n 2 (fr' := (26, [(0, .ref 39), (1, .int (nI t)), (2, .int (nI i))], [.ref 39, .int (nI i), .ref 41], gh S a b sc7 ar7 lo, ex, 0, 0)) rfl ?_
      refine to_get rfl rfl rfl rfl ?_
      refine to_get rfl rfl rfl rfl ?_
      refine to_n 1 (fr' := (33, [(0, .ref 39), (1, .int (nI t)), (2, .int (nI i))], [.int (nI i), .ref 5, .int (nI i), .ref 41], gh S a b sc7 ar7 lo, ex, 0, 0)) rfl ?_
      refine to_ialR (i := i) (v := (ar 5 i)) rfl (by decide) rfl (by omega) (by omega) (congrFun (hF7.2 5 (by decide)) i) ?_
      refine to_if_ne (t := 46) rfl (fun q8 => ?_) (fun q8 => ?_)
      · refine to_n 1 (fr' := (47, [(0, .ref 39), (1, .int (nI t)), (2, .int (nI i))], [.int 0, .int (nI i), .ref 41], gh S a b sc7 ar7 lo, ex, 0, 0)) rfl ?_
        refine to_zasR (i := i) (h' := gh S a b sc7 (uA ar7 41 (upd (ar7 41) i (vp_nar .boolean 0))) lo) rfl rfl (by omega) (by omega) rfl ?_
        have hI9 := ia_41 (g := (upd (ar7 41) i (vp_nar .boolean 0))) hI7
        have hF9 := fr_a (c := 41) (g := (upd (ar7 41) i (vp_nar .boolean 0))) hF7 (by decide)
        refine to_n 1 (fr' := (49, [(0, .ref 39), (1, .int (nI t)), (2, .int (nI i))], [.ref 39], gh S a b sc7 (uA ar7 41 (upd (ar7 41) i (vp_nar .boolean 0))) lo, ex, 0, 0)) rfl ?_
        refine to_get rfl rfl rfl rfl ?_
        refine to_n 2 (fr' := (54, [(0, .ref 39), (1, .int (nI t)), (2, .int (nI i))], [.ref 39, .int (nI i), .ref 42], gh S a b sc7 (uA ar7 41 (upd (ar7 41) i (vp_nar .boolean 0))) lo, ex, 0, 0)) rfl ?_
        refine to_get rfl rfl rfl rfl ?_
        refine to_n 1 (fr' := (58, [(0, .ref 39), (1, .int (nI t)), (2, .int (nI i))], [.int (nI i), .ref 41, .int (nI i), .ref 42], gh S a b sc7 (uA ar7 41 (upd (ar7 41) i (vp_nar .boolean 0))) lo, ex, 0, 0)) rfl ?_
        refine to_zalR (i := i) (v := 0) rfl rfl (by omega) (by omega) (by show upd _ _ _ _ = _; rw [ug_eq]; rfl) ?_
        refine to_n 2 (fr' := (78, [(0, .ref 39), (1, .int (nI t)), (2, .int (nI i))], [.int 0, .int (nI i), .ref 42], gh S a b sc7 (uA ar7 41 (upd (ar7 41) i (vp_nar .boolean 0))) lo, ex, 0, 0)) rfl ?_
        refine to_zasR (i := i) (h' := gh S a b sc7 (uA (uA ar7 41 (upd (ar7 41) i (vp_nar .boolean 0))) 42 (upd ((uA ar7 41 (upd (ar7 41) i (vp_nar .boolean 0))) 42) i (vp_nar .boolean 0))) lo) rfl rfl (by omega) (by omega) rfl ?_
        have hI10 := ia_42 (g := (upd ((uA ar7 41 (upd (ar7 41) i (vp_nar .boolean 0))) 42) i (vp_nar .boolean 0))) hI9
        have hF10 := fr_a (c := 42) (g := (upd ((uA ar7 41 (upd (ar7 41) i (vp_nar .boolean 0))) 42) i (vp_nar .boolean 0))) hF9 (by decide)
        refine to_n 1 (fr' := (80, [(0, .ref 39), (1, .int (nI t)), (2, .int (nI i))], [.ref 39], gh S a b sc7 (uA (uA ar7 41 (upd (ar7 41) i (vp_nar .boolean 0))) 42 (upd ((uA ar7 41 (upd (ar7 41) i (vp_nar .boolean 0))) 42) i (vp_nar .boolean 0))) lo, ex, 0, 0)) rfl ?_
        refine to_get rfl rfl rfl rfl ?_
        refine to_n 2 (fr' := (85, [(0, .ref 39), (1, .int (nI t)), (2, .int (nI i))], [.int 0, .int (nI i), .ref 43], gh S a b sc7 (uA (uA ar7 41 (upd (ar7 41) i (vp_nar .boolean 0))) 42 (upd ((uA ar7 41 (upd (ar7 41) i (vp_nar .boolean 0))) 42) i (vp_nar .boolean 0))) lo, ex, 0, 0)) rfl ?_
        refine to_zasR (i := i) (h' := gh S a b sc7 (uA (uA (uA ar7 41 (upd (ar7 41) i (vp_nar .boolean 0))) 42 (upd ((uA ar7 41 (upd (ar7 41) i (vp_nar .boolean 0))) 42) i (vp_nar .boolean 0))) 43 (upd ((uA (uA ar7 41 (upd (ar7 41) i (vp_nar .boolean 0))) 42 (upd ((uA ar7 41 (upd (ar7 41) i (vp_nar .boolean 0))) 42) i (vp_nar .boolean 0))) 43) i (vp_nar .boolean 0))) lo) rfl rfl (by omega) (by omega) rfl ?_
        have hI11 := ia_43 (g := (upd ((uA (uA ar7 41 (upd (ar7 41) i (vp_nar .boolean 0))) 42 (upd ((uA ar7 41 (upd (ar7 41) i (vp_nar .boolean 0))) 42) i (vp_nar .boolean 0))) 43) i (vp_nar .boolean 0))) hI10
        have hF11 := fr_a (c := 43) (g := (upd ((uA (uA ar7 41 (upd (ar7 41) i (vp_nar .boolean 0))) 42 (upd ((uA ar7 41 (upd (ar7 41) i (vp_nar .boolean 0))) 42) i (vp_nar .boolean 0))) 43) i (vp_nar .boolean 0))) hF10 (by decide)
        refine to_n 1 (fr' := (89, [(0, .ref 39), (1, .int (nI t)), (2, .int ((nI i) + 1))], [], gh S a b sc7 (uA (uA (uA ar7 41 (upd (ar7 41) i (vp_nar .boolean 0))) 42 (upd ((uA ar7 41 (upd (ar7 41) i (vp_nar .boolean 0))) 42) i (vp_nar .boolean 0))) 43 (upd ((uA (uA ar7 41 (upd (ar7 41) i (vp_nar .boolean 0))) 42 (upd ((uA ar7 41 (upd (ar7 41) i (vp_nar .boolean 0))) 42) i (vp_nar .boolean 0))) 43) i (vp_nar .boolean 0))) lo, ex, 0, 0)) rfl ?_
        rw [nI_1 i]
        refine to_n 1 (fr' := (12, [(0, .ref 39), (1, .int (nI t)), (2, .int (nI (i + 1)))], [], gh S a b sc7 (uA (uA (uA ar7 41 (upd (ar7 41) i (vp_nar .boolean 0))) 42 (upd ((uA ar7 41 (upd (ar7 41) i (vp_nar .boolean 0))) 42) i (vp_nar .boolean 0))) 43 (upd ((uA (uA ar7 41 (upd (ar7 41) i (vp_nar .boolean 0))) 42 (upd ((uA ar7 41 (upd (ar7 41) i (vp_nar .boolean 0))) 42) i (vp_nar .boolean 0))) 43) i (vp_nar .boolean 0))) lo, ex, 0, 0)) rfl ?_
        exact ih (i + 1) sc7 (uA (uA (uA ar7 41 (upd (ar7 41) i (vp_nar .boolean 0))) 42 (upd ((uA ar7 41 (upd (ar7 41) i (vp_nar .boolean 0))) 42) i (vp_nar .boolean 0))) 43 (upd ((uA (uA ar7 41 (upd (ar7 41) i (vp_nar .boolean 0))) 42 (upd ((uA ar7 41 (upd (ar7 41) i (vp_nar .boolean 0))) 42) i (vp_nar .boolean 0))) 43) i (vp_nar .boolean 0))) (by omega) hc12_0 hc12_1 (pl_up hc12_2 ⟨fun w => absurd rfl w, fun w => absurd w.2.1 q8⟩) (pl_up hc12_3 ⟨fun w => absurd rfl w, fun w => absurd w.1.2.1 q8⟩) (pl_u0 hc12_4) hI11 hF11
      · refine to_n 2 (fr' := (39, [(0, .ref 39), (1, .int (nI t)), (2, .int (nI i))], [.int (nI t), .int (nI i), .int (nI i), .ref 41], gh S a b sc7 ar7 lo, ex, 0, 0)) rfl ?_
        refine to_nc_eq (t := 46) (x := i) (y := t) rfl (by omega) (by omega) (fun q12 => ?_) (fun q12 => ?_)
        · refine to_n 1 (fr' := (47, [(0, .ref 39), (1, .int (nI t)), (2, .int (nI i))], [.int 0, .int (nI i), .ref 41], gh S a b sc7 ar7 lo, ex, 0, 0)) rfl ?_
          refine to_zasR (i := i) (h' := gh S a b sc7 (uA ar7 41 (upd (ar7 41) i (vp_nar .boolean 0))) lo) rfl rfl (by omega) (by omega) rfl ?_
          have hI13 := ia_41 (g := (upd (ar7 41) i (vp_nar .boolean 0))) hI7
          have hF13 := fr_a (c := 41) (g := (upd (ar7 41) i (vp_nar .boolean 0))) hF7 (by decide)
          refine to_n 1 (fr' := (49, [(0, .ref 39), (1, .int (nI t)), (2, .int (nI i))], [.ref 39], gh S a b sc7 (uA ar7 41 (upd (ar7 41) i (vp_nar .boolean 0))) lo, ex, 0, 0)) rfl ?_
          refine to_get rfl rfl rfl rfl ?_
          refine to_n 2 (fr' := (54, [(0, .ref 39), (1, .int (nI t)), (2, .int (nI i))], [.ref 39, .int (nI i), .ref 42], gh S a b sc7 (uA ar7 41 (upd (ar7 41) i (vp_nar .boolean 0))) lo, ex, 0, 0)) rfl ?_
          refine to_get rfl rfl rfl rfl ?_
          refine to_n 1 (fr' := (58, [(0, .ref 39), (1, .int (nI t)), (2, .int (nI i))], [.int (nI i), .ref 41, .int (nI i), .ref 42], gh S a b sc7 (uA ar7 41 (upd (ar7 41) i (vp_nar .boolean 0))) lo, ex, 0, 0)) rfl ?_
          refine to_zalR (i := i) (v := 0) rfl rfl (by omega) (by omega) (by show upd _ _ _ _ = _; rw [ug_eq]; rfl) ?_
          refine to_n 2 (fr' := (78, [(0, .ref 39), (1, .int (nI t)), (2, .int (nI i))], [.int 0, .int (nI i), .ref 42], gh S a b sc7 (uA ar7 41 (upd (ar7 41) i (vp_nar .boolean 0))) lo, ex, 0, 0)) rfl ?_
          refine to_zasR (i := i) (h' := gh S a b sc7 (uA (uA ar7 41 (upd (ar7 41) i (vp_nar .boolean 0))) 42 (upd ((uA ar7 41 (upd (ar7 41) i (vp_nar .boolean 0))) 42) i (vp_nar .boolean 0))) lo) rfl rfl (by omega) (by omega) rfl ?_
          have hI14 := ia_42 (g := (upd ((uA ar7 41 (upd (ar7 41) i (vp_nar .boolean 0))) 42) i (vp_nar .boolean 0))) hI13
          have hF14 := fr_a (c := 42) (g := (upd ((uA ar7 41 (upd (ar7 41) i (vp_nar .boolean 0))) 42) i (vp_nar .boolean 0))) hF13 (by decide)
          refine to_n 1 (fr' := (80, [(0, .ref 39), (1, .int (nI t)), (2, .int (nI i))], [.ref 39], gh S a b sc7 (uA (uA ar7 41 (upd (ar7 41) i (vp_nar .boolean 0))) 42 (upd ((uA ar7 41 (upd (ar7 41) i (vp_nar .boolean 0))) 42) i (vp_nar .boolean 0))) lo, ex, 0, 0)) rfl ?_
          refine to_get rfl rfl rfl rfl ?_
          refine to_n 2 (fr' := (85, [(0, .ref 39), (1, .int (nI t)), (2, .int (nI i))], [.int 0, .int (nI i), .ref 43], gh S a b sc7 (uA (uA ar7 41 (upd (ar7 41) i (vp_nar .boolean 0))) 42 (upd ((uA ar7 41 (upd (ar7 41) i (vp_nar .boolean 0))) 42) i (vp_nar .boolean 0))) lo, ex, 0, 0)) rfl ?_
          refine to_zasR (i := i) (h' := gh S a b sc7 (uA (uA (uA ar7 41 (upd (ar7 41) i (vp_nar .boolean 0))) 42 (upd ((uA ar7 41 (upd (ar7 41) i (vp_nar .boolean 0))) 42) i (vp_nar .boolean 0))) 43 (upd ((uA (uA ar7 41 (upd (ar7 41) i (vp_nar .boolean 0))) 42 (upd ((uA ar7 41 (upd (ar7 41) i (vp_nar .boolean 0))) 42) i (vp_nar .boolean 0))) 43) i (vp_nar .boolean 0))) lo) rfl rfl (by omega) (by omega) rfl ?_
          have hI15 := ia_43 (g := (upd ((uA (uA ar7 41 (upd (ar7 41) i (vp_nar .boolean 0))) 42 (upd ((uA ar7 41 (upd (ar7 41) i (vp_nar .boolean 0))) 42) i (vp_nar .boolean 0))) 43) i (vp_nar .boolean 0))) hI14
          have hF15 := fr_a (c := 43) (g := (upd ((uA (uA ar7 41 (upd (ar7 41) i (vp_nar .boolean 0))) 42 (upd ((uA ar7 41 (upd (ar7 41) i (vp_nar .boolean 0))) 42) i (vp_nar .boolean 0))) 43) i (vp_nar .boolean 0))) hF14 (by decide)
          refine to_n 1 (fr' := (89, [(0, .ref 39), (1, .int (nI t)), (2, .int ((nI i) + 1))], [], gh S a b sc7 (uA (uA (uA ar7 41 (upd (ar7 41) i (vp_nar .boolean 0))) 42 (upd ((uA ar7 41 (upd (ar7 41) i (vp_nar .boolean 0))) 42) i (vp_nar .boolean 0))) 43 (upd ((uA (uA ar7 41 (upd (ar7 41) i (vp_nar .boolean 0))) 42 (upd ((uA ar7 41 (upd (ar7 41) i (vp_nar .boolean 0))) 42) i (vp_nar .boolean 0))) 43) i (vp_nar .boolean 0))) lo, ex, 0, 0)) rfl ?_
          rw [nI_1 i]
          refine to_n 1 (fr' := (12, [(0, .ref 39), (1, .int (nI t)), (2, .int (nI (i + 1)))], [], gh S a b sc7 (uA (uA (uA ar7 41 (upd (ar7 41) i (vp_nar .boolean 0))) 42 (upd ((uA ar7 41 (upd (ar7 41) i (vp_nar .boolean 0))) 42) i (vp_nar .boolean 0))) 43 (upd ((uA (uA ar7 41 (upd (ar7 41) i (vp_nar .boolean 0))) 42 (upd ((uA ar7 41 (upd (ar7 41) i (vp_nar .boolean 0))) 42) i (vp_nar .boolean 0))) 43) i (vp_nar .boolean 0))) lo, ex, 0, 0)) rfl ?_
          exact ih (i + 1) sc7 (uA (uA (uA ar7 41 (upd (ar7 41) i (vp_nar .boolean 0))) 42 (upd ((uA ar7 41 (upd (ar7 41) i (vp_nar .boolean 0))) 42) i (vp_nar .boolean 0))) 43 (upd ((uA (uA ar7 41 (upd (ar7 41) i (vp_nar .boolean 0))) 42 (upd ((uA ar7 41 (upd (ar7 41) i (vp_nar .boolean 0))) 42) i (vp_nar .boolean 0))) 43) i (vp_nar .boolean 0))) (by omega) hc12_0 hc12_1 (pl_up hc12_2 ⟨fun w => absurd rfl w, fun w => absurd q12 w.2.2⟩) (pl_up hc12_3 ⟨fun w => absurd rfl w, fun w => absurd q12 w.1.2.2⟩) (pl_u0 hc12_4) hI15 hF15
        · refine to_n 2 (fr' := (47, [(0, .ref 39), (1, .int (nI t)), (2, .int (nI i))], [.int 1, .int (nI i), .ref 41], gh S a b sc7 ar7 lo, ex, 0, 0)) rfl ?_
          refine to_zasR (i := i) (h' := gh S a b sc7 (uA ar7 41 (upd (ar7 41) i (vp_nar .boolean 1))) lo) rfl rfl (by omega) (by omega) rfl ?_
          have hI16 := ia_41 (g := (upd (ar7 41) i (vp_nar .boolean 1))) hI7
          have hF16 := fr_a (c := 41) (g := (upd (ar7 41) i (vp_nar .boolean 1))) hF7 (by decide)
          refine to_n 1 (fr' := (49, [(0, .ref 39), (1, .int (nI t)), (2, .int (nI i))], [.ref 39], gh S a b sc7 (uA ar7 41 (upd (ar7 41) i (vp_nar .boolean 1))) lo, ex, 0, 0)) rfl ?_
          refine to_get rfl rfl rfl rfl ?_
          refine to_n 2 (fr' := (54, [(0, .ref 39), (1, .int (nI t)), (2, .int (nI i))], [.ref 39, .int (nI i), .ref 42], gh S a b sc7 (uA ar7 41 (upd (ar7 41) i (vp_nar .boolean 1))) lo, ex, 0, 0)) rfl ?_
          refine to_get rfl rfl rfl rfl ?_
          refine to_n 1 (fr' := (58, [(0, .ref 39), (1, .int (nI t)), (2, .int (nI i))], [.int (nI i), .ref 41, .int (nI i), .ref 42], gh S a b sc7 (uA ar7 41 (upd (ar7 41) i (vp_nar .boolean 1))) lo, ex, 0, 0)) rfl ?_
          refine to_zalR (i := i) (v := 1) rfl rfl (by omega) (by omega) (by show upd _ _ _ _ = _; rw [ug_eq]; rfl) ?_
          refine to_n 2 (fr' := (63, [(0, .ref 39), (1, .int (nI t)), (2, .int (nI i))], [.ref 39, .int (nI i), .ref 42], gh S a b sc7 (uA ar7 41 (upd (ar7 41) i (vp_nar .boolean 1))) lo, ex, 0, 0)) rfl ?_
          refine to_get rfl rfl rfl rfl ?_
          refine to_n 1 (fr' := (67, [(0, .ref 39), (1, .int (nI t)), (2, .int (nI i))], [.int (nI i), .ref 1, .int (nI i), .ref 42], gh S a b sc7 (uA ar7 41 (upd (ar7 41) i (vp_nar .boolean 1))) lo, ex, 0, 0)) rfl ?_
          refine to_cp (q := 8) (M1 := an_X0_burningBeside) (rest := [.int (nI i), .ref 42]) rfl rfl (by decide) rfl ⟨_, rfl⟩ (sf_X0_burningBeside2 hW hI16 i (by omega) (gd_fr hg hF16 (by decide) (by decide) (by decide)) (d + 1)) (fun x17 hx17 => ?_)
          simp only [show (uA ar7 41 (upd (ar7 41) i (vp_nar .boolean 1))) 5 = ar 5 from hF16.2 5 (by decide)] at hx17
          rcases hx17 with ⟨rfl, w17⟩ | ⟨rfl, w17⟩
          · refine to_eq (fr' := (70, [(0, .ref 39), (1, .int (nI t)), (2, .int (nI i))], [.int 1, .int (nI i), .ref 42], gh S a b sc7 (uA ar7 41 (upd (ar7 41) i (vp_nar .boolean 1))) lo, ex, 0, 0)) rfl ?_
            refine to_n 3 (fr' := (78, [(0, .ref 39), (1, .int (nI t)), (2, .int (nI i))], [.int 1, .int (nI i), .ref 42], gh S a b sc7 (uA ar7 41 (upd (ar7 41) i (vp_nar .boolean 1))) lo, ex, 0, 0)) rfl ?_
            refine to_zasR (i := i) (h' := gh S a b sc7 (uA (uA ar7 41 (upd (ar7 41) i (vp_nar .boolean 1))) 42 (upd ((uA ar7 41 (upd (ar7 41) i (vp_nar .boolean 1))) 42) i (vp_nar .boolean 1))) lo) rfl rfl (by omega) (by omega) rfl ?_
            have hI18 := ia_42 (g := (upd ((uA ar7 41 (upd (ar7 41) i (vp_nar .boolean 1))) 42) i (vp_nar .boolean 1))) hI16
            have hF18 := fr_a (c := 42) (g := (upd ((uA ar7 41 (upd (ar7 41) i (vp_nar .boolean 1))) 42) i (vp_nar .boolean 1))) hF16 (by decide)
            refine to_n 1 (fr' := (80, [(0, .ref 39), (1, .int (nI t)), (2, .int (nI i))], [.ref 39], gh S a b sc7 (uA (uA ar7 41 (upd (ar7 41) i (vp_nar .boolean 1))) 42 (upd ((uA ar7 41 (upd (ar7 41) i (vp_nar .boolean 1))) 42) i (vp_nar .boolean 1))) lo, ex, 0, 0)) rfl ?_
            refine to_get rfl rfl rfl rfl ?_
            refine to_n 2 (fr' := (85, [(0, .ref 39), (1, .int (nI t)), (2, .int (nI i))], [.int 0, .int (nI i), .ref 43], gh S a b sc7 (uA (uA ar7 41 (upd (ar7 41) i (vp_nar .boolean 1))) 42 (upd ((uA ar7 41 (upd (ar7 41) i (vp_nar .boolean 1))) 42) i (vp_nar .boolean 1))) lo, ex, 0, 0)) rfl ?_
            refine to_zasR (i := i) (h' := gh S a b sc7 (uA (uA (uA ar7 41 (upd (ar7 41) i (vp_nar .boolean 1))) 42 (upd ((uA ar7 41 (upd (ar7 41) i (vp_nar .boolean 1))) 42) i (vp_nar .boolean 1))) 43 (upd ((uA (uA ar7 41 (upd (ar7 41) i (vp_nar .boolean 1))) 42 (upd ((uA ar7 41 (upd (ar7 41) i (vp_nar .boolean 1))) 42) i (vp_nar .boolean 1))) 43) i (vp_nar .boolean 0))) lo) rfl rfl (by omega) (by omega) rfl ?_
            have hI19 := ia_43 (g := (upd ((uA (uA ar7 41 (upd (ar7 41) i (vp_nar .boolean 1))) 42 (upd ((uA ar7 41 (upd (ar7 41) i (vp_nar .boolean 1))) 42) i (vp_nar .boolean 1))) 43) i (vp_nar .boolean 0))) hI18
            have hF19 := fr_a (c := 43) (g := (upd ((uA (uA ar7 41 (upd (ar7 41) i (vp_nar .boolean 1))) 42 (upd ((uA ar7 41 (upd (ar7 41) i (vp_nar .boolean 1))) 42) i (vp_nar .boolean 1))) 43) i (vp_nar .boolean 0))) hF18 (by decide)
            refine to_n 1 (fr' := (89, [(0, .ref 39), (1, .int (nI t)), (2, .int ((nI i) + 1))], [], gh S a b sc7 (uA (uA (uA ar7 41 (upd (ar7 41) i (vp_nar .boolean 1))) 42 (upd ((uA ar7 41 (upd (ar7 41) i (vp_nar .boolean 1))) 42) i (vp_nar .boolean 1))) 43 (upd ((uA (uA ar7 41 (upd (ar7 41) i (vp_nar .boolean 1))) 42 (upd ((uA ar7 41 (upd (ar7 41) i (vp_nar .boolean 1))) 42) i (vp_nar .boolean 1))) 43) i (vp_nar .boolean 0))) lo, ex, 0, 0)) rfl ?_
            rw [nI_1 i]
            refine to_n 1 (fr' := (12, [(0, .ref 39), (1, .int (nI t)), (2, .int (nI (i + 1)))], [], gh S a b sc7 (uA (uA (uA ar7 41 (upd (ar7 41) i (vp_nar .boolean 1))) 42 (upd ((uA ar7 41 (upd (ar7 41) i (vp_nar .boolean 1))) 42) i (vp_nar .boolean 1))) 43 (upd ((uA (uA ar7 41 (upd (ar7 41) i (vp_nar .boolean 1))) 42 (upd ((uA ar7 41 (upd (ar7 41) i (vp_nar .boolean 1))) 42) i (vp_nar .boolean 1))) 43) i (vp_nar .boolean 0))) lo, ex, 0, 0)) rfl ?_
            exact ih (i + 1) sc7 (uA (uA (uA ar7 41 (upd (ar7 41) i (vp_nar .boolean 1))) 42 (upd ((uA ar7 41 (upd (ar7 41) i (vp_nar .boolean 1))) 42) i (vp_nar .boolean 1))) 43 (upd ((uA (uA ar7 41 (upd (ar7 41) i (vp_nar .boolean 1))) 42 (upd ((uA ar7 41 (upd (ar7 41) i (vp_nar .boolean 1))) 42) i (vp_nar .boolean 1))) 43) i (vp_nar .boolean 0))) (by omega) hc12_0 hc12_1 (pl_up hc12_2 ⟨fun _ => ⟨by omega, q8, q12⟩, fun _ => by decide⟩) (pl_up hc12_3 ⟨fun _ => ⟨⟨by omega, q8, q12⟩, w17⟩, fun _ => by decide⟩) (pl_u0 hc12_4) hI19 hF19
          · refine to_eq (fr' := (70, [(0, .ref 39), (1, .int (nI t)), (2, .int (nI i))], [.int 0, .int (nI i), .ref 42], gh S a b sc7 (uA ar7 41 (upd (ar7 41) i (vp_nar .boolean 1))) lo, ex, 0, 0)) rfl ?_
            refine to_n 2 (fr' := (78, [(0, .ref 39), (1, .int (nI t)), (2, .int (nI i))], [.int 0, .int (nI i), .ref 42], gh S a b sc7 (uA ar7 41 (upd (ar7 41) i (vp_nar .boolean 1))) lo, ex, 0, 0)) rfl ?_
            refine to_zasR (i := i) (h' := gh S a b sc7 (uA (uA ar7 41 (upd (ar7 41) i (vp_nar .boolean 1))) 42 (upd ((uA ar7 41 (upd (ar7 41) i (vp_nar .boolean 1))) 42) i (vp_nar .boolean 0))) lo) rfl rfl (by omega) (by omega) rfl ?_
            have hI20 := ia_42 (g := (upd ((uA ar7 41 (upd (ar7 41) i (vp_nar .boolean 1))) 42) i (vp_nar .boolean 0))) hI16
            have hF20 := fr_a (c := 42) (g := (upd ((uA ar7 41 (upd (ar7 41) i (vp_nar .boolean 1))) 42) i (vp_nar .boolean 0))) hF16 (by decide)
            refine to_n 1 (fr' := (80, [(0, .ref 39), (1, .int (nI t)), (2, .int (nI i))], [.ref 39], gh S a b sc7 (uA (uA ar7 41 (upd (ar7 41) i (vp_nar .boolean 1))) 42 (upd ((uA ar7 41 (upd (ar7 41) i (vp_nar .boolean 1))) 42) i (vp_nar .boolean 0))) lo, ex, 0, 0)) rfl ?_
            refine to_get rfl rfl rfl rfl ?_
            refine to_n 2 (fr' := (85, [(0, .ref 39), (1, .int (nI t)), (2, .int (nI i))], [.int 0, .int (nI i), .ref 43], gh S a b sc7 (uA (uA ar7 41 (upd (ar7 41) i (vp_nar .boolean 1))) 42 (upd ((uA ar7 41 (upd (ar7 41) i (vp_nar .boolean 1))) 42) i (vp_nar .boolean 0))) lo, ex, 0, 0)) rfl ?_
            refine to_zasR (i := i) (h' := gh S a b sc7 (uA (uA (uA ar7 41 (upd (ar7 41) i (vp_nar .boolean 1))) 42 (upd ((uA ar7 41 (upd (ar7 41) i (vp_nar .boolean 1))) 42) i (vp_nar .boolean 0))) 43 (upd ((uA (uA ar7 41 (upd (ar7 41) i (vp_nar .boolean 1))) 42 (upd ((uA ar7 41 (upd (ar7 41) i (vp_nar .boolean 1))) 42) i (vp_nar .boolean 0))) 43) i (vp_nar .boolean 0))) lo) rfl rfl (by omega) (by omega) rfl ?_
            have hI21 := ia_43 (g := (upd ((uA (uA ar7 41 (upd (ar7 41) i (vp_nar .boolean 1))) 42 (upd ((uA ar7 41 (upd (ar7 41) i (vp_nar .boolean 1))) 42) i (vp_nar .boolean 0))) 43) i (vp_nar .boolean 0))) hI20
            have hF21 := fr_a (c := 43) (g := (upd ((uA (uA ar7 41 (upd (ar7 41) i (vp_nar .boolean 1))) 42 (upd ((uA ar7 41 (upd (ar7 41) i (vp_nar .boolean 1))) 42) i (vp_nar .boolean 0))) 43) i (vp_nar .boolean 0))) hF20 (by decide)
            refine to_n 1 (fr' := (89, [(0, .ref 39), (1, .int (nI t)), (2, .int ((nI i) + 1))], [], gh S a b sc7 (uA (uA (uA ar7 41 (upd (ar7 41) i (vp_nar .boolean 1))) 42 (upd ((uA ar7 41 (upd (ar7 41) i (vp_nar .boolean 1))) 42) i (vp_nar .boolean 0))) 43 (upd ((uA (uA ar7 41 (upd (ar7 41) i (vp_nar .boolean 1))) 42 (upd ((uA ar7 41 (upd (ar7 41) i (vp_nar .boolean 1))) 42) i (vp_nar .boolean 0))) 43) i (vp_nar .boolean 0))) lo, ex, 0, 0)) rfl ?_
            rw [nI_1 i]
            refine to_n 1 (fr' := (12, [(0, .ref 39), (1, .int (nI t)), (2, .int (nI (i + 1)))], [], gh S a b sc7 (uA (uA (uA ar7 41 (upd (ar7 41) i (vp_nar .boolean 1))) 42 (upd ((uA ar7 41 (upd (ar7 41) i (vp_nar .boolean 1))) 42) i (vp_nar .boolean 0))) 43 (upd ((uA (uA ar7 41 (upd (ar7 41) i (vp_nar .boolean 1))) 42 (upd ((uA ar7 41 (upd (ar7 41) i (vp_nar .boolean 1))) 42) i (vp_nar .boolean 0))) 43) i (vp_nar .boolean 0))) lo, ex, 0, 0)) rfl ?_
            exact ih (i + 1) sc7 (uA (uA (uA ar7 41 (upd (ar7 41) i (vp_nar .boolean 1))) 42 (upd ((uA ar7 41 (upd (ar7 41) i (vp_nar .boolean 1))) 42) i (vp_nar .boolean 0))) 43 (upd ((uA (uA ar7 41 (upd (ar7 41) i (vp_nar .boolean 1))) 42 (upd ((uA ar7 41 (upd (ar7 41) i (vp_nar .boolean 1))) 42) i (vp_nar .boolean 0))) 43) i (vp_nar .boolean 0))) (by omega) hc12_0 hc12_1 (pl_up hc12_2 ⟨fun _ => ⟨by omega, q8, q12⟩, fun _ => by decide⟩) (pl_up hc12_3 ⟨fun w => absurd rfl w, fun w => absurd w.2 w17⟩) (pl_u0 hc12_4) hI21 hF21
  refine to_n 2 (fr' := (2, [(0, .ref 39), (1, .int (nI t))], [.int (nI t), .ref 39], gh S a b sc ar lo, ex, 0, 0)) rfl ?_
  refine to_putR (h' := gh S a b (upd sc 3912 (nI t)) ar lo) rfl rfl rfl (Nat.le_of_ble_eq_true rfl) rfl rfl ?_
  have hI22 := ip_3912 (v := (nI t)) hI 
  have hF22 := fr_s (k := 3912) (v := (nI t)) hF (by decide)
  refine to_n 2 (fr' := (7, [(0, .ref 39), (1, .int (nI t))], [.int 0, .ref 39], gh S a b (upd sc 3912 (nI t)) ar lo, ex, 0, 0)) rfl ?_
  refine to_putR (h' := gh S a b (upd (upd sc 3912 (nI t)) 3901 0) ar lo) rfl rfl rfl (Nat.le_of_ble_eq_true rfl) rfl rfl ?_
  have hI23 := ip_3901 (v := 0) hI22 (rl_n (n := 0) (by omega))
  have hF23 := fr_s (k := 3901) (v := 0) hF22 (by decide)
  refine to_n 2 (fr' := (12, [(0, .ref 39), (1, .int (nI t)), (2, .int 0)], [], gh S a b (upd (upd sc 3912 (nI t)) 3901 0) ar lo, ex, 0, 0)) rfl ?_
  exact c12 (S - 0) 0 (upd (upd sc 3912 (nI t)) 3901 0) ar (by omega) rfl rfl (fun c hc => absurd hc (Nat.not_lt_zero _)) (fun c hc => absurd hc (Nat.not_lt_zero _)) (fun c hc => absurd hc (Nat.not_lt_zero _)) hI23 hF23
