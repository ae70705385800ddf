/-! the reference: what its laws' codes do to the stack -/
/-- the codes from i to t can be run where top numbers stand on the stack -/
def tk (C : Nat → Int32) : Nat → Nat → Nat → Nat → Prop
  | 0, i, t, _ => t ≤ i
  | n + 1, i, t, top => i < t → (C i = 0 → top < 150 ∧ i + 1 < t ∧ tk C n (i + 2) t (top + 1)) ∧ (¬ C i = 0 → 20 ≤ C i → top < 150 ∧ tk C n (i + 1) t (top + 1)) ∧ (¬ C i = 0 → ¬ 20 ≤ C i → C i = 8 → 1 ≤ top ∧ tk C n (i + 1) t top) ∧ (¬ C i = 0 → ¬ 20 ≤ C i → ¬ C i = 8 → 2 ≤ top ∧ tk C n (i + 1) t (top - 1))
/-- the laws that are told can be run -/
def Lw (sc : Nat → Int32) (ar : Nat → Nat → Int32) : Prop := ∀ n l m r f g : Nat, sc 4907 = nI n → n < 7 → l < n → ar 69 l = nI m → m < 13 → r < m → ar 70 (13 * l + r) = nI f → f < 701 → ar 70 (13 * l + r + 1) = nI g → g < 701 → tk (ar 71) 701 (700 * l + f) (700 * l + g) 0
theorem lw_fr {L A : List Nat} {sc sc' : Nat → Int32} {ar ar' : Nat → Nat → Int32} (h : Lw sc ar) (f : Fr L A sc ar sc' ar') (h1 : 4907 ∉ L) (h2 : 69 ∉ A) (h3 : 70 ∉ A) (h4 : 71 ∉ A) : Lw sc' ar' := by
  intro n l m r f' g e0 hn hl e1 hm hr e2 hf e3 hg
  rw [f.1 _ h1] at e0
  rw [f.2 _ h2] at e1
  rw [f.2 _ h3] at e2 e3
  rw [f.2 _ h4]
  exact h n l m r f' g e0 hn hl e1 hm hr e2 hf e3 hg
set_option maxRecDepth 20000 in
theorem sf_X10_go {X : Nat × (Nat → Int32)} {S a b : Nat} {sc : Nat → Int32} {ar : Nat → Nat → Int32} {lo : Nat → Int64} {ex : Bool} (hW : Wd S a b) (hI : Iv S sc ar) (k1 : Nat) (hk1 : k1 < 8) (d : Nat)  : cv X S a b (d + 4) 151 [.ref 49, .int (nI k1)] sc ar lo ex (fun sc' ar' => Iv S sc' ar' ∧ Fr [] [61, 74] sc ar sc' ar' ∧ ar' 61 = upd (ar 61) k1 (zgoW S a (ar 51) (ar 62) (ar 61) k1)) := by
  obtain ⟨ha1, ha8, hb1, hb8, hab, hS1, hS⟩ := id hW
  obtain ⟨p, hp, ep⟩ := iv_a61 hI k1
  refine cv_of (M := an_X10_go) rfl (Nat.le_of_ble_eq_true rfl) ?_
  have hF : Fr [] [61, 74] sc ar sc ar := fr_0
  refine to_eq (fr' := (0, [(0, .ref 49), (1, .int (nI k1))], [], gh S a b sc ar lo, ex, 0, 0)) rfl ?_
  have c44 : ∀ m : Nat, ∀ (y : Int32) (i : Nat) (g : Nat) (sc1 : Nat → Int32) (ar1 : Nat → Nat → Int32), i + m = 4 → rq y S → ZW S a g (ar 51) (ar1 74) → (∀ k : Nat, k < S → rl (ar1 74 k) 1001) → ar1 61 = ar 61 → ar 62 k1 = nI g → g < S → ¬ zds a p g = 1 → ZTM S a b p (ar1 74) i y → Iv S sc1 ar1 → Fr [] [61, 74] sc ar sc1 ar1 → ag_To X (d + 3) an_X10_go (44, [(0, .ref 49), (1, .int (nI k1)), (2, .int y), (3, .int (nI i))], [], gh S a b sc1 ar1 lo, ex, 0, 0) (qv S a b lo ex (fun sc' ar' => Iv S sc' ar' ∧ Fr [] [61, 74] sc ar sc' ar' ∧ ar' 61 = upd (ar 61) k1 (zgoW S a (ar 51) (ar 62) (ar 61) k1))) := by
    intro m
    induction m with
    | zero =>
      intro y i g sc1 ar1 hm hq_y hc44_0 hc44_1 hc44_2 hc44_3 hc44_4 hc44_5 hc44_6 hI1 hF1
      rcases hq_y with rfl | ⟨n2, hn2, rfl⟩
      · refine to_eq (fr' := (44, [(0, .ref 49), (1, .int (nI k1)), (2, .int (-1)), (3, .int (nI i))], [], gh S a b sc1 ar1 lo, ex, 0, 0)) rfl ?_
        refine to_n 2 (fr' := (46, [(0, .ref 49), (1, .int (nI k1)), (2, .int (-1)), (3, .int (nI i))], [.int 4, .int (nI i)], gh S a b sc1 ar1 lo, ex, 0, 0)) rfl ?_
        refine to_nc_ge_T (t := 151) (x := i) (y := 4) rfl (by omega) (by omega) (by omega) ?_
        refine to_n 3 (fr' := (163, [(0, .ref 49), (1, .int (nI k1)), (2, .int (-1)), (3, .int (nI i))], [], gh S a b sc1 ar1 lo, ex, 0, 0)) rfl ?_
        exact to_rt (i := .return_) (tg := []) rfl rfl ⟨_, _, ⟨hI1, hF1, (zgo_a hW hc44_4 hp hc44_3 ep hc44_5 hc44_0 (by have e9 : i = 4 := (by omega); rw [e9] at hc44_6; exact hc44_6) hc44_2)⟩, rfl⟩
      · refine to_eq (fr' := (44, [(0, .ref 49), (1, .int (nI k1)), (2, .int (nI n2)), (3, .int (nI i))], [], gh S a b sc1 ar1 lo, ex, 0, 0)) rfl ?_
        refine to_n 2 (fr' := (46, [(0, .ref 49), (1, .int (nI k1)), (2, .int (nI n2)), (3, .int (nI i))], [.int 4, .int (nI i)], gh S a b sc1 ar1 lo, ex, 0, 0)) rfl ?_
        refine to_nc_ge_T (t := 151) (x := i) (y := 4) rfl (by omega) (by omega) (by omega) ?_
        refine to_n 2 (fr' := (153, [(0, .ref 49), (1, .int (nI k1)), (2, .int (nI n2)), (3, .int (nI i))], [.int (-1), .int (nI n2)], gh S a b sc1 ar1 lo, ex, 0, 0)) rfl ?_
        refine to_ic_eq_F (t := 163) (x := (nI n2)) (y := (-1)) rfl (nI_neg (by omega) (by decide)) ?_
        refine to_n 1 (fr' := (157, [(0, .ref 49), (1, .int (nI k1)), (2, .int (nI n2)), (3, .int (nI i))], [.ref 49], gh S a b sc1 ar1 lo, ex, 0, 0)) rfl ?_
        refine to_get rfl rfl rfl rfl ?_
        refine to_n 2 (fr' := (162, [(0, .ref 49), (1, .int (nI k1)), (2, .int (nI n2)), (3, .int (nI i))], [.int (nI n2), .int (nI k1), .ref 61], gh S a b sc1 ar1 lo, ex, 0, 0)) rfl ?_
        refine to_iasR (i := k1) (h' := gh S a b sc1 (uA ar1 61 (upd (ar1 61) k1 (nI n2))) lo) rfl rfl (by omega) (by omega) rfl ?_
        have hI3 := ia_61 (i := k1) (v := (nI n2)) hI1 (rl_n (n := n2) (by omega))
        have hF3 := fr_a (c := 61) (g := (upd (ar1 61) k1 (nI n2))) hF1 (by decide)
        exact to_rt (i := .return_) (tg := []) rfl rfl ⟨_, _, ⟨hI3, hF3, (zgo_b hW hc44_4 hp (by omega) hc44_3 ep hc44_5 hc44_0 (by have e9 : i = 4 := (by omega); rw [e9] at hc44_6; exact hc44_6) hc44_2)⟩, rfl⟩
    | succ m ih =>
      intro y i g sc1 ar1 hm hq_y hc44_0 hc44_1 hc44_2 hc44_3 hc44_4 hc44_5 hc44_6 hI1 hF1
      rcases hq_y with rfl | ⟨n4, hn4, rfl⟩
      · refine to_eq (fr' := (44, [(0, .ref 49), (1, .int (nI k1)), (2, .int (-1)), (3, .int (nI i))], [], gh S a b sc1 ar1 lo, ex, 0, 0)) rfl ?_
        refine to_n 2 (fr' := (46, [(0, .ref 49), (1, .int (nI k1)), (2, .int (-1)), (3, .int (nI i))], [.int 4, .int (nI i)], gh S a b sc1 ar1 lo, ex, 0, 0)) rfl ?_
        refine to_nc_ge_F (t := 151) (x := i) (y := 4) rfl (by omega) (by omega) (by omega) ?_
        refine to_n 2 (fr' := (51, [(0, .ref 49), (1, .int (nI k1)), (2, .int (-1)), (3, .int (nI i))], [.ref 49, .ref 49], gh S a b sc1 ar1 lo, ex, 0, 0)) rfl ?_
        refine to_get rfl rfl rfl rfl ?_
        refine to_n 1 (fr' := (55, [(0, .ref 49), (1, .int (nI k1)), (2, .int (-1)), (3, .int (nI i))], [.int (nI k1), .ref 61, .ref 49], gh S a b sc1 ar1 lo, ex, 0, 0)) rfl ?_
        refine to_ialR (i := k1) (v := nI p) rfl (by decide) rfl (by omega) (by omega) ((congrFun (show ar1 61 = ar 61 from hc44_2) k1).trans ep) ?_
        refine to_n 1 (fr' := (57, [(0, .ref 49), (1, .int (nI k1)), (2, .int (-1)), (3, .int (nI i))], [.int (nI i), .int (nI p), .ref 49], gh S a b sc1 ar1 lo, ex, 0, 0)) rfl ?_
        refine to_cp (q := 112) (M1 := an_X10_beside) (rest := []) rfl rfl (by decide) rfl ⟨_, rfl⟩ (sf_X10_beside hW hI1 p (by omega) i (by omega) (d + 2)) (fun x5 hx5 => ?_)
        obtain ⟨hx5, hp5⟩ := hx5
        rcases hx5 with rfl | ⟨n5, hn5, rfl⟩
        · refine to_eq (fr' := (60, [(0, .ref 49), (1, .int (nI k1)), (2, .int (-1)), (3, .int (nI i))], [.int (-1)], gh S a b sc1 ar1 lo, ex, 0, 0)) rfl ?_
          refine to_n 5 (fr' := (148, [(0, .ref 49), (1, .int (nI k1)), (2, .int (-1)), (3, .int ((nI i) + 1)), (4, .int (-1))], [], gh S a b sc1 ar1 lo, ex, 0, 0)) rfl ?_
          rw [nI_1 i]
          refine to_n 1 (fr' := (44, [(0, .ref 49), (1, .int (nI k1)), (2, .int (-1)), (3, .int (nI (i + 1))), (4, .int (-1))], [], gh S a b sc1 ar1 lo, ex, 0, 0)) rfl ?_
          refine to_lv (lv := [(0, .ref 49), (1, .int (nI k1)), (2, .int (-1)), (3, .int (nI (i + 1)))]) rfl ⟨rfl, rfl, rfl, rfl, trivial⟩ ?_
          exact ih (-1) (i + 1) g sc1 ar1 (by omega) (rq_m) hc44_0 hc44_1 hc44_2 hc44_3 (by omega) hc44_5 (ztm_no hc44_6 (zm_n1 hS hp5)) hI1 hF1
        · refine to_eq (fr' := (60, [(0, .ref 49), (1, .int (nI k1)), (2, .int (-1)), (3, .int (nI i))], [.int (nI n5)], gh S a b sc1 ar1 lo, ex, 0, 0)) rfl ?_
          refine to_n 3 (fr' := (65, [(0, .ref 49), (1, .int (nI k1)), (2, .int (-1)), (3, .int (nI i)), (4, .int (nI n5))], [.int (-1), .int (nI n5)], gh S a b sc1 ar1 lo, ex, 0, 0)) rfl ?_
          refine to_ic_eq_F (t := 145) (x := (nI n5)) (y := (-1)) rfl (nI_neg (by omega) (by decide)) ?_
          refine to_n 3 (fr' := (72, [(0, .ref 49), (1, .int (nI k1)), (2, .int (-1)), (3, .int (nI i)), (4, .int (nI n5))], [.ref 49, .int (nI n5), .ref 49], gh S a b sc1 ar1 lo, ex, 0, 0)) rfl ?_
          refine to_get rfl rfl rfl rfl ?_
          refine to_n 1 (fr' := (76, [(0, .ref 49), (1, .int (nI k1)), (2, .int (-1)), (3, .int (nI i)), (4, .int (nI n5))], [.int (nI k1), .ref 62, .int (nI n5), .ref 49], gh S a b sc1 ar1 lo, ex, 0, 0)) rfl ?_
          refine to_ialR (i := k1) (v := (nI g)) rfl (by decide) rfl (by omega) (by omega) ((congrFun (hF1.2 62 (by decide)) k1).trans hc44_3) ?_
          refine to_cp (q := 149) (M1 := an_X10_isOpen) (rest := []) rfl rfl (by decide) rfl ⟨_, rfl⟩ (sf_X10_isOpen hW hI1 n5 (by omega) g (by omega) (d + 2)) (fun x6 hx6 => ?_)
          simp only [show ar1 51 = ar 51 from hF1.2 51 (by decide)] at hx6
          rcases hx6 with ⟨rfl, w6⟩ | ⟨rfl, w6⟩
          · refine to_eq (fr' := (80, [(0, .ref 49), (1, .int (nI k1)), (2, .int (-1)), (3, .int (nI i)), (4, .int (nI n5))], [.int 1], gh S a b sc1 ar1 lo, ex, 0, 0)) rfl ?_
            refine to_n 2 (fr' := (84, [(0, .ref 49), (1, .int (nI k1)), (2, .int (-1)), (3, .int (nI i)), (4, .int (nI n5))], [.ref 49], gh S a b sc1 ar1 lo, ex, 0, 0)) rfl ?_
            refine to_get rfl rfl rfl rfl ?_
            refine to_n 1 (fr' := (89, [(0, .ref 49), (1, .int (nI k1)), (2, .int (-1)), (3, .int (nI i)), (4, .int (nI n5))], [.int (nI n5), .ref 74], gh S a b sc1 ar1 lo, ex, 0, 0)) rfl ?_
            obtain ⟨n7, hn7, e7⟩ := hc44_1 n5 (by omega)
            refine to_ialR (i := n5) (v := nI n7) rfl (by decide) rfl (by omega) (by omega) e7 ?_
            refine to_n 1 (fr' := (93, [(0, .ref 49), (1, .int (nI k1)), (2, .int (-1)), (3, .int (nI i)), (4, .int (nI n5))], [.int 1000, .int (nI n7)], gh S a b sc1 ar1 lo, ex, 0, 0)) rfl ?_
            refine to_nc_ne (t := 99) (x := n7) (y := 1000) rfl (by omega) (by omega) (fun q8 => ?_) (fun q8 => ?_)
            · refine to_n 6 (fr' := (148, [(0, .ref 49), (1, .int (nI k1)), (2, .int (nI n5)), (3, .int ((nI i) + 1)), (4, .int (nI n5))], [], gh S a b sc1 ar1 lo, ex, 0, 0)) rfl ?_
              rw [nI_1 i]
              refine to_n 1 (fr' := (44, [(0, .ref 49), (1, .int (nI k1)), (2, .int (nI n5)), (3, .int (nI (i + 1))), (4, .int (nI n5))], [], gh S a b sc1 ar1 lo, ex, 0, 0)) rfl ?_
              refine to_lv (lv := [(0, .ref 49), (1, .int (nI k1)), (2, .int (nI n5)), (3, .int (nI (i + 1)))]) rfl ⟨rfl, rfl, rfl, rfl, trivial⟩ ?_
              exact ih (nI n5) (i + 1) g sc1 ar1 (by omega) (rq_n (n := n5) (by omega)) hc44_0 hc44_1 hc44_2 hc44_3 (by omega) hc44_5 (ztm_y hS hc44_6 hp5 (zm_c hW hp (by omega) hp5 e7 (by omega))) hI1 hF1
            · refine to_n 2 (fr' := (148, [(0, .ref 49), (1, .int (nI k1)), (2, .int (-1)), (3, .int ((nI i) + 1)), (4, .int (nI n5))], [], gh S a b sc1 ar1 lo, ex, 0, 0)) rfl ?_
              rw [nI_1 i]
              refine to_n 1 (fr' := (44, [(0, .ref 49), (1, .int (nI k1)), (2, .int (-1)), (3, .int (nI (i + 1))), (4, .int (nI n5))], [], gh S a b sc1 ar1 lo, ex, 0, 0)) rfl ?_
              refine to_lv (lv := [(0, .ref 49), (1, .int (nI k1)), (2, .int (-1)), (3, .int (nI (i + 1)))]) rfl ⟨rfl, rfl, rfl, rfl, trivial⟩ ?_
              exact ih (-1) (i + 1) g sc1 ar1 (by omega) (rq_m) hc44_0 hc44_1 hc44_2 hc44_3 (by omega) hc44_5 (ztm_no hc44_6 (zm_n3 hS (by omega) hp5 e7 (by omega))) hI1 hF1
          · refine to_eq (fr' := (80, [(0, .ref 49), (1, .int (nI k1)), (2, .int (-1)), (3, .int (nI i)), (4, .int (nI n5))], [.int 0], gh S a b sc1 ar1 lo, ex, 0, 0)) rfl ?_
            refine to_n 2 (fr' := (148, [(0, .ref 49), (1, .int (nI k1)), (2, .int (-1)), (3, .int ((nI i) + 1)), (4, .int (nI n5))], [], gh S a b sc1 ar1 lo, ex, 0, 0)) rfl ?_
            rw [nI_1 i]
            refine to_n 1 (fr' := (44, [(0, .ref 49), (1, .int (nI k1)), (2, .int (-1)), (3, .int (nI (i + 1))), (4, .int (nI n5))], [], gh S a b sc1 ar1 lo, ex, 0, 0)) rfl ?_
            refine to_lv (lv := [(0, .ref 49), (1, .int (nI k1)), (2, .int (-1)), (3, .int (nI (i + 1)))]) rfl ⟨rfl, rfl, rfl, rfl, trivial⟩ ?_
            exact ih (-1) (i + 1) g sc1 ar1 (by omega) (rq_m) hc44_0 hc44_1 hc44_2 hc44_3 (by omega) hc44_5 (ztm_no hc44_6 (zm_n2 hS hc44_0 (by omega) hp5 w6)) hI1 hF1
      · refine to_eq (fr' := (44, [(0, .ref 49), (1, .int (nI k1)), (2, .int (nI n4)), (3, .int (nI i))], [], gh S a b sc1 ar1 lo, ex, 0, 0)) rfl ?_
        refine to_n 2 (fr' := (46, [(0, .ref 49), (1, .int (nI k1)), (2, .int (nI n4)), (3, .int (nI i))], [.int 4, .int (nI i)], gh S a b sc1 ar1 lo, ex, 0, 0)) rfl ?_
        refine to_nc_ge_F (t := 151) (x := i) (y := 4) rfl (by omega) (by omega) (by omega) ?_
        refine to_n 2 (fr' := (51, [(0, .ref 49), (1, .int (nI k1)), (2, .int (nI n4)), (3, .int (nI i))], [.ref 49, .ref 49], gh S a b sc1 ar1 lo, ex, 0, 0)) rfl ?_
        refine to_get rfl rfl rfl rfl ?_
        refine to_n 1 (fr' := (55, [(0, .ref 49), (1, .int (nI k1)), (2, .int (nI n4)), (3, .int (nI i))], [.int (nI k1), .ref 61, .ref 49], gh S a b sc1 ar1 lo, ex, 0, 0)) rfl ?_
        refine to_ialR (i := k1) (v := nI p) rfl (by decide) rfl (by omega) (by omega) ((congrFun (show ar1 61 = ar 61 from hc44_2) k1).trans ep) ?_
        refine to_n 1 (fr' := (57, [(0, .ref 49), (1, .int (nI k1)), (2, .int (nI n4)), (3, .int (nI i))], [.int (nI i), .int (nI p), .ref 49], gh S a b sc1 ar1 lo, ex, 0, 0)) rfl ?_
        refine to_cp (q := 112) (M1 := an_X10_beside) (rest := []) rfl rfl (by decide) rfl ⟨_, rfl⟩ (sf_X10_beside hW hI1 p (by omega) i (by omega) (d + 2)) (fun x9 hx9 => ?_)
        obtain ⟨hx9, hp9⟩ := hx9
        rcases hx9 with rfl | ⟨n9, hn9, rfl⟩
        · refine to_eq (fr' := (60, [(0, .ref 49), (1, .int (nI k1)), (2, .int (nI n4)), (3, .int (nI i))], [.int (-1)], gh S a b sc1 ar1 lo, ex, 0, 0)) rfl ?_
          refine to_n 5 (fr' := (148, [(0, .ref 49), (1, .int (nI k1)), (2, .int (nI n4)), (3, .int ((nI i) + 1)), (4, .int (-1))], [], gh S a b sc1 ar1 lo, ex, 0, 0)) rfl ?_
          rw [nI_1 i]
          refine to_n 1 (fr' := (44, [(0, .ref 49), (1, .int (nI k1)), (2, .int (nI n4)), (3, .int (nI (i + 1))), (4, .int (-1))], [], gh S a b sc1 ar1 lo, ex, 0, 0)) rfl ?_
          refine to_lv (lv := [(0, .ref 49), (1, .int (nI k1)), (2, .int (nI n4)), (3, .int (nI (i + 1)))]) rfl ⟨rfl, rfl, rfl, rfl, trivial⟩ ?_
          exact ih (nI n4) (i + 1) g sc1 ar1 (by omega) (rq_n (n := n4) (by omega)) hc44_0 hc44_1 hc44_2 hc44_3 (by omega) hc44_5 (ztm_no hc44_6 (zm_n1 hS hp9)) hI1 hF1
        · refine to_eq (fr' := (60, [(0, .ref 49), (1, .int (nI k1)), (2, .int (nI n4)), (3, .int (nI i))], [.int (nI n9)], gh S a b sc1 ar1 lo, ex, 0, 0)) rfl ?_
          refine to_n 3 (fr' := (65, [(0, .ref 49), (1, .int (nI k1)), (2, .int (nI n4)), (3, .int (nI i)), (4, .int (nI n9))], [.int (-1), .int (nI n9)], gh S a b sc1 ar1 lo, ex, 0, 0)) rfl ?_
          refine to_ic_eq_F (t := 145) (x := (nI n9)) (y := (-1)) rfl (nI_neg (by omega) (by decide)) ?_
          refine to_n 3 (fr' := (72, [(0, .ref 49), (1, .int (nI k1)), (2, .int (nI n4)), (3, .int (nI i)), (4, .int (nI n9))], [.ref 49, .int (nI n9), .ref 49], gh S a b sc1 ar1 lo, ex, 0, 0)) rfl ?_
          refine to_get rfl rfl rfl rfl ?_
          refine to_n 1 (fr' := (76, [(0, .ref 49), (1, .int (nI k1)), (2, .int (nI n4)), (3, .int (nI i)), (4, .int (nI n9))], [.int (nI k1), .ref 62, .int (nI n9), .ref 49], gh S a b sc1 ar1 lo, ex, 0, 0)) rfl ?_
          refine to_ialR (i := k1) (v := (nI g)) rfl (by decide) rfl (by omega) (by omega) ((congrFun (hF1.2 62 (by decide)) k1).trans hc44_3) ?_
          refine to_cp (q := 149) (M1 := an_X10_isOpen) (rest := []) rfl rfl (by decide) rfl ⟨_, rfl⟩ (sf_X10_isOpen hW hI1 n9 (by omega) g (by omega) (d + 2)) (fun x10 hx10 => ?_)
          simp only [show ar1 51 = ar 51 from hF1.2 51 (by decide)] at hx10
          rcases hx10 with ⟨rfl, w10⟩ | ⟨rfl, w10⟩
          · refine to_eq (fr' := (80, [(0, .ref 49), (1, .int (nI k1)), (2, .int (nI n4)), (3, .int (nI i)), (4, .int (nI n9))], [.int 1], gh S a b sc1 ar1 lo, ex, 0, 0)) rfl ?_
            refine to_n 2 (fr' := (84, [(0, .ref 49), (1, .int (nI k1)), (2, .int (nI n4)), (3, .int (nI i)), (4, .int (nI n9))], [.ref 49], gh S a b sc1 ar1 lo, ex, 0, 0)) rfl ?_
            refine to_get rfl rfl rfl rfl ?_
            refine to_n 1 (fr' := (89, [(0, .ref 49), (1, .int (nI k1)), (2, .int (nI n4)), (3, .int (nI i)), (4, .int (nI n9))], [.int (nI n9), .ref 74], gh S a b sc1 ar1 lo, ex, 0, 0)) rfl ?_
            obtain ⟨n11, hn11, e11⟩ := hc44_1 n9 (by omega)
            refine to_ialR (i := n9) (v := nI n11) rfl (by decide) rfl (by omega) (by omega) e11 ?_
            refine to_n 1 (fr' := (93, [(0, .ref 49), (1, .int (nI k1)), (2, .int (nI n4)), (3, .int (nI i)), (4, .int (nI n9))], [.int 1000, .int (nI n11)], gh S a b sc1 ar1 lo, ex, 0, 0)) rfl ?_
            refine to_nc_ne (t := 99) (x := n11) (y := 1000) rfl (by omega) (by omega) (fun q12 => ?_) (fun q12 => ?_)
            · refine to_n 2 (fr' := (101, [(0, .ref 49), (1, .int (nI k1)), (2, .int (nI n4)), (3, .int (nI i)), (4, .int (nI n9))], [.int (-1), .int (nI n4)], gh S a b sc1 ar1 lo, ex, 0, 0)) rfl ?_
              refine to_ic_eq_F (t := 142) (x := (nI n4)) (y := (-1)) rfl (nI_neg (by omega) (by decide)) ?_
              refine to_n 1 (fr' := (105, [(0, .ref 49), (1, .int (nI k1)), (2, .int (nI n4)), (3, .int (nI i)), (4, .int (nI n9))], [.ref 49], gh S a b sc1 ar1 lo, ex, 0, 0)) rfl ?_
              refine to_get rfl rfl rfl rfl ?_
              refine to_n 1 (fr' := (110, [(0, .ref 49), (1, .int (nI k1)), (2, .int (nI n4)), (3, .int (nI i)), (4, .int (nI n9))], [.int (nI n9), .ref 74], gh S a b sc1 ar1 lo, ex, 0, 0)) rfl ?_
              refine to_ialR (i := n9) (v := (nI n11)) rfl (by decide) rfl (by omega) (by omega) e11 ?_
              refine to_n 1 (fr' := (112, [(0, .ref 49), (1, .int (nI k1)), (2, .int (nI n4)), (3, .int (nI i)), (4, .int (nI n9))], [.ref 49, .int (nI n11)], gh S a b sc1 ar1 lo, ex, 0, 0)) rfl ?_
              refine to_get rfl rfl rfl rfl ?_
              refine to_n 1 (fr' := (116, [(0, .ref 49), (1, .int (nI k1)), (2, .int (nI n4)), (3, .int (nI i)), (4, .int (nI n9))], [.int (nI n4), .ref 74, .int (nI n11)], gh S a b sc1 ar1 lo, ex, 0, 0)) rfl ?_
              obtain ⟨n13, hn13, e13⟩ := hc44_1 n4 (by omega)
              refine to_ialR (i := n4) (v := nI n13) rfl (by decide) rfl (by omega) (by omega) e13 ?_
              refine to_nc_lt (t := 142) (x := n11) (y := n13) rfl (by omega) (by omega) (fun q14 => ?_) (fun q14 => ?_)
              · refine to_n 3 (fr' := (148, [(0, .ref 49), (1, .int (nI k1)), (2, .int (nI n9)), (3, .int ((nI i) + 1)), (4, .int (nI n9))], [], gh S a b sc1 ar1 lo, ex, 0, 0)) rfl ?_
                rw [nI_1 i]
                refine to_n 1 (fr' := (44, [(0, .ref 49), (1, .int (nI k1)), (2, .int (nI n9)), (3, .int (nI (i + 1))), (4, .int (nI n9))], [], gh S a b sc1 ar1 lo, ex, 0, 0)) rfl ?_
                refine to_lv (lv := [(0, .ref 49), (1, .int (nI k1)), (2, .int (nI n9)), (3, .int (nI (i + 1)))]) rfl ⟨rfl, rfl, rfl, rfl, trivial⟩ ?_
                exact ih (nI n9) (i + 1) g sc1 ar1 (by omega) (rq_n (n := n9) (by omega)) hc44_0 hc44_1 hc44_2 hc44_3 (by omega) hc44_5 (ztm_n hS (by omega) hc44_6 e13 (by omega) hp9 (zm_c hW hp (by omega) hp9 e11 (by omega)) (by omega)) hI1 hF1
              · refine to_n 1 (fr' := (121, [(0, .ref 49), (1, .int (nI k1)), (2, .int (nI n4)), (3, .int (nI i)), (4, .int (nI n9))], [.ref 49], gh S a b sc1 ar1 lo, ex, 0, 0)) rfl ?_
                refine to_get rfl rfl rfl rfl ?_
                refine to_n 1 (fr' := (126, [(0, .ref 49), (1, .int (nI k1)), (2, .int (nI n4)), (3, .int (nI i)), (4, .int (nI n9))], [.int (nI n9), .ref 74], gh S a b sc1 ar1 lo, ex, 0, 0)) rfl ?_
                refine to_ialR (i := n9) (v := (nI n11)) rfl (by decide) rfl (by omega) (by omega) e11 ?_
                refine to_n 1 (fr' := (128, [(0, .ref 49), (1, .int (nI k1)), (2, .int (nI n4)), (3, .int (nI i)), (4, .int (nI n9))], [.ref 49, .int (nI n11)], gh S a b sc1 ar1 lo, ex, 0, 0)) rfl ?_
                refine to_get rfl rfl rfl rfl ?_
                refine to_n 1 (fr' := (132, [(0, .ref 49), (1, .int (nI k1)), (2, .int (nI n4)), (3, .int (nI i)), (4, .int (nI n9))], [.int (nI n4), .ref 74, .int (nI n11)], gh S a b sc1 ar1 lo, ex, 0, 0)) rfl ?_
                refine to_ialR (i := n4) (v := (nI n13)) rfl (by decide) rfl (by omega) (by omega) e13 ?_
                refine to_nc_ne (t := 145) (x := n11) (y := n13) rfl (by omega) (by omega) (fun q15 => ?_) (fun q15 => ?_)
                · refine to_n 1 (fr' := (148, [(0, .ref 49), (1, .int (nI k1)), (2, .int (nI n4)), (3, .int ((nI i) + 1)), (4, .int (nI n9))], [], gh S a b sc1 ar1 lo, ex, 0, 0)) rfl ?_
                  rw [nI_1 i]
                  refine to_n 1 (fr' := (44, [(0, .ref 49), (1, .int (nI k1)), (2, .int (nI n4)), (3, .int (nI (i + 1))), (4, .int (nI n9))], [], gh S a b sc1 ar1 lo, ex, 0, 0)) rfl ?_
                  refine to_lv (lv := [(0, .ref 49), (1, .int (nI k1)), (2, .int (nI n4)), (3, .int (nI (i + 1)))]) rfl ⟨rfl, rfl, rfl, rfl, trivial⟩ ?_
                  exact ih (nI n4) (i + 1) g sc1 ar1 (by omega) (rq_n (n := n4) (by omega)) hc44_0 hc44_1 hc44_2 hc44_3 (by omega) hc44_5 (ztm_o hS (by omega) hc44_6 e13 (by omega) hp9 (zm_c hW hp (by omega) hp9 e11 (by omega)) (by omega)) hI1 hF1
                · refine to_n 2 (fr' := (139, [(0, .ref 49), (1, .int (nI k1)), (2, .int (nI n4)), (3, .int (nI i)), (4, .int (nI n9))], [.int (nI n4), .int (nI n9)], gh S a b sc1 ar1 lo, ex, 0, 0)) rfl ?_
                  refine to_nc_ge (t := 145) (x := n9) (y := n4) rfl (by omega) (by omega) (fun q16 => ?_) (fun q16 => ?_)
                  · refine to_n 1 (fr' := (148, [(0, .ref 49), (1, .int (nI k1)), (2, .int (nI n4)), (3, .int ((nI i) + 1)), (4, .int (nI n9))], [], gh S a b sc1 ar1 lo, ex, 0, 0)) rfl ?_
                    rw [nI_1 i]
                    refine to_n 1 (fr' := (44, [(0, .ref 49), (1, .int (nI k1)), (2, .int (nI n4)), (3, .int (nI (i + 1))), (4, .int (nI n9))], [], gh S a b sc1 ar1 lo, ex, 0, 0)) rfl ?_
                    refine to_lv (lv := [(0, .ref 49), (1, .int (nI k1)), (2, .int (nI n4)), (3, .int (nI (i + 1)))]) rfl ⟨rfl, rfl, rfl, rfl, trivial⟩ ?_
                    exact ih (nI n4) (i + 1) g sc1 ar1 (by omega) (rq_n (n := n4) (by omega)) hc44_0 hc44_1 hc44_2 hc44_3 (by omega) hc44_5 (ztm_o hS (by omega) hc44_6 e13 (by omega) hp9 (zm_c hW hp (by omega) hp9 e11 (by omega)) (by omega)) hI1 hF1
                  · refine to_n 3 (fr' := (148, [(0, .ref 49), (1, .int (nI k1)), (2, .int (nI n9)), (3, .int ((nI i) + 1)), (4, .int (nI n9))], [], gh S a b sc1 ar1 lo, ex, 0, 0)) rfl ?_
                    rw [nI_1 i]
                    refine to_n 1 (fr' := (44, [(0, .ref 49), (1, .int (nI k1)), (2, .int (nI n9)), (3, .int (nI (i + 1))), (4, .int (nI n9))], [], gh S a b sc1 ar1 lo, ex, 0, 0)) rfl ?_
                    refine to_lv (lv := [(0, .ref 49), (1, .int (nI k1)), (2, .int (nI n9)), (3, .int (nI (i + 1)))]) rfl ⟨rfl, rfl, rfl, rfl, trivial⟩ ?_
                    exact ih (nI n9) (i + 1) g sc1 ar1 (by omega) (rq_n (n := n9) (by omega)) hc44_0 hc44_1 hc44_2 hc44_3 (by omega) hc44_5 (ztm_n hS (by omega) hc44_6 e13 (by omega) hp9 (zm_c hW hp (by omega) hp9 e11 (by omega)) (by omega)) hI1 hF1
            · refine to_n 2 (fr' := (148, [(0, .ref 49), (1, .int (nI k1)), (2, .int (nI n4)), (3, .int ((nI i) + 1)), (4, .int (nI n9))], [], gh S a b sc1 ar1 lo, ex, 0, 0)) rfl ?_
              rw [nI_1 i]
              refine to_n 1 (fr' := (44, [(0, .ref 49), (1, .int (nI k1)), (2, .int (nI n4)), (3, .int (nI (i + 1))), (4, .int (nI n9))], [], gh S a b sc1 ar1 lo, ex, 0, 0)) rfl ?_
              refine to_lv (lv := [(0, .ref 49), (1, .int (nI k1)), (2, .int (nI n4)), (3, .int (nI (i + 1)))]) rfl ⟨rfl, rfl, rfl, rfl, trivial⟩ ?_
              exact ih (nI n4) (i + 1) g sc1 ar1 (by omega) (rq_n (n := n4) (by omega)) hc44_0 hc44_1 hc44_2 hc44_3 (by omega) hc44_5 (ztm_no hc44_6 (zm_n3 hS (by omega) hp9 e11 (by omega))) hI1 hF1
          · refine to_eq (fr' := (80, [(0, .ref 49), (1, .int (nI k1)), (2, .int (nI n4)), (3, .int (nI i)), (4, .int (nI n9))], [.int 0], gh S a b sc1 ar1 lo, ex, 0, 0)) rfl ?_
            refine to_n 2 (fr' := (148, [(0, .ref 49), (1, .int (nI k1)), (2, .int (nI n4)), (3, .int ((nI i) + 1)), (4, .int (nI n9))], [], gh S a b sc1 ar1 lo, ex, 0, 0)) rfl ?_
            rw [nI_1 i]
            refine to_n 1 (fr' := (44, [(0, .ref 49), (1, .int (nI k1)), (2, .int (nI n4)), (3, .int (nI (i + 1))), (4, .int (nI n9))], [], gh S a b sc1 ar1 lo, ex, 0, 0)) rfl ?_
            refine to_lv (lv := [(0, .ref 49), (1, .int (nI k1)), (2, .int (nI n4)), (3, .int (nI (i + 1)))]) rfl ⟨rfl, rfl, rfl, rfl, trivial⟩ ?_
            exact ih (nI n4) (i + 1) g sc1 ar1 (by omega) (rq_n (n := n4) (by omega)) hc44_0 hc44_1 hc44_2 hc44_3 (by omega) hc44_5 (ztm_no hc44_6 (zm_n2 hS hc44_0 (by omega) hp9 w10)) hI1 hF1
  refine to_n 1 (fr' := (1, [(0, .ref 49), (1, .int (nI k1))], [.ref 49], gh S a b sc ar lo, ex, 0, 0)) rfl ?_
  refine to_get rfl rfl rfl rfl ?_
  refine to_n 1 (fr' := (5, [(0, .ref 49), (1, .int (nI k1))], [.int (nI k1), .ref 62], gh S a b sc ar lo, ex, 0, 0)) rfl ?_
  rcases iv_a62 hI k1 with e17 | ⟨n17, hn17, e17⟩
  · refine to_ialR (i := k1) (v := (-1)) rfl (by decide) rfl (by omega) (by omega) ((congrFun (hF.2 62 (by decide)) k1).trans e17) ?_
    refine to_n 2 (fr' := (29, [(0, .ref 49), (1, .int (nI k1))], [], gh S a b sc ar lo, ex, 0, 0)) rfl ?_
    exact to_rt (i := .return_) (tg := []) rfl rfl ⟨_, _, ⟨hI, hF, (by rw [← zgw_0 e17]; exact upd_id)⟩, rfl⟩
  · refine to_ialR (i := k1) (v := (nI n17)) rfl (by decide) rfl (by omega) (by omega) ((congrFun (hF.2 62 (by decide)) k1).trans e17) ?_
    refine to_n 1 (fr' := (7, [(0, .ref 49), (1, .int (nI k1))], [.int (-1), .int (nI n17)], gh S a b sc ar lo, ex, 0, 0)) rfl ?_
    refine to_ic_eq_F (t := 29) (x := (nI n17)) (y := (-1)) rfl (nI_neg (by omega) (by decide)) ?_
    refine to_n 2 (fr' := (12, [(0, .ref 49), (1, .int (nI k1))], [.ref 49, .ref 49], gh S a b sc ar lo, ex, 0, 0)) rfl ?_
    refine to_get rfl rfl rfl rfl ?_
    refine to_n 1 (fr' := (16, [(0, .ref 49), (1, .int (nI k1))], [.int (nI k1), .ref 61, .ref 49], gh S a b sc ar lo, ex, 0, 0)) rfl ?_
    refine to_ialR (i := k1) (v := nI p) rfl (by decide) rfl (by omega) (by omega) ((congrFun (show ar 61 = ar 61 from rfl) k1).trans ep) ?_
    refine to_n 1 (fr' := (18, [(0, .ref 49), (1, .int (nI k1))], [.ref 49, .int (nI p), .ref 49], gh S a b sc ar lo, ex, 0, 0)) rfl ?_
    refine to_get rfl rfl rfl rfl ?_
    refine to_n 1 (fr' := (22, [(0, .ref 49), (1, .int (nI k1))], [.int (nI k1), .ref 62, .int (nI p), .ref 49], gh S a b sc ar lo, ex, 0, 0)) rfl ?_
    refine to_ialR (i := k1) (v := (nI n17)) rfl (by decide) rfl (by omega) (by omega) ((congrFun (hF.2 62 (by decide)) k1).trans e17) ?_
    refine to_cp (q := 148) (M1 := an_X10_isBeside) (rest := []) rfl rfl (by decide) rfl ⟨_, rfl⟩ (sf_X10_isBeside hW hI p (by omega) n17 (by omega) (d + 1)) (fun x18 hx18 => ?_)
    rcases hx18 with ⟨rfl, w18⟩ | ⟨rfl, w18⟩
    · refine to_eq (fr' := (26, [(0, .ref 49), (1, .int (nI k1))], [.int 1], gh S a b sc ar lo, ex, 0, 0)) rfl ?_
      refine to_n 1 (fr' := (29, [(0, .ref 49), (1, .int (nI k1))], [], gh S a b sc ar lo, ex, 0, 0)) rfl ?_
      exact to_rt (i := .return_) (tg := []) rfl rfl ⟨_, _, ⟨hI, hF, (by rw [← zgw_1 e17 ep (by omega) (by omega) w18]; exact upd_id)⟩, rfl⟩
    · refine to_eq (fr' := (26, [(0, .ref 49), (1, .int (nI k1))], [.int 0], gh S a b sc ar lo, ex, 0, 0)) rfl ?_
      refine to_n 3 (fr' := (32, [(0, .ref 49), (1, .int (nI k1))], [.ref 49, .ref 49], gh S a b sc ar lo, ex, 0, 0)) rfl ?_
      refine to_get rfl rfl rfl rfl ?_
      refine to_n 1 (fr' := (36, [(0, .ref 49), (1, .int (nI k1))], [.int (nI k1), .ref 62, .ref 49], gh S a b sc ar lo, ex, 0, 0)) rfl ?_
      refine to_ialR (i := k1) (v := (nI n17)) rfl (by decide) rfl (by omega) (by omega) ((congrFun (hF.2 62 (by decide)) k1).trans e17) ?_
      refine to_cv (q := 150) (M1 := an_X10_reckon) (rest := []) rfl rfl (by decide) rfl ⟨_, rfl⟩ (sf_X10_reckon hW hI n17 (by omega) d) (fun sc19 ar19 hx19 => ?_)
      obtain ⟨hI19, hG19, hx19⟩ := hx19
      have hF19 := fr_t hF hG19 (by decide) (by decide)
      refine to_eq (fr' := (40, [(0, .ref 49), (1, .int (nI k1))], [], gh S a b sc19 ar19 lo, ex, 0, 0)) rfl ?_
      refine to_n 4 (fr' := (44, [(0, .ref 49), (1, .int (nI k1)), (2, .int (-1)), (3, .int 0)], [], gh S a b sc19 ar19 lo, ex, 0, 0)) rfl ?_
      exact c44 (4 - 0) (-1) 0 n17 sc19 ar19 (by omega) (rq_m) hx19.1 hx19.2 (hG19.2 61 (by decide)) e17 (by omega) w18 (Or.inl ⟨rfl, ZN_0⟩) hI19 hF19
set_option maxRecDepth 20000 in
theorem sf_X10_roofs {X : Nat × (Nat → Int32)} {S a b : Nat} {sc : Nat → Int32} {ar : Nat → Nat → Int32} {lo : Nat → Int64} {ex : Bool} (hW : Wd S a b) (hI : Iv S sc ar) (n : Nat) (enb : n < 9) (en : sc 4906 = nI n) (d : Nat)  : cv X S a b (d + 3) 152 [.ref 49] sc ar lo ex (fun sc' ar' => Iv S sc' ar' ∧ Fr [4910] [57, 64] sc ar sc' ar' ∧ (ar' 57, ar' 64, sc' 4910) = zit (zgRs a n (ar 51) (ar 62) (ar 61) (ar 66)) S (ar 57, ar 64, sc 4910)) := by
  obtain ⟨ha1, ha8, hb1, hb8, hab, hS1, hS⟩ := id hW
  refine cv_of (M := an_X10_roofs) rfl (Nat.le_of_ble_eq_true rfl) ?_
  have hF : Fr [4910] [57, 64] sc ar sc ar := fr_0
  refine to_eq (fr' := (0, [(0, .ref 49)], [], gh S a b sc ar lo, ex, 0, 0)) rfl ?_
  have c2 : ∀ m : Nat, ∀ (i : Nat) (sc1 : Nat → Int32) (ar1 : Nat → Nat → Int32), i + m = S → (ar1 57, ar1 64, sc1 4910) = zit (zgRs a n (ar 51) (ar 62) (ar 61) (ar 66)) i (ar 57, ar 64, sc 4910) → Iv S sc1 ar1 → Fr [4910] [57, 64] sc ar sc1 ar1 → ag_To X (d + 2) an_X10_roofs (2, [(0, .ref 49), (1, .int (nI i))], [], gh S a b sc1 ar1 lo, ex, 0, 0) (qv S a b lo ex (fun sc' ar' => Iv S sc' ar' ∧ Fr [4910] [57, 64] sc ar sc' ar' ∧ (ar' 57, ar' 64, sc' 4910) = zit (zgRs a n (ar 51) (ar 62) (ar 61) (ar 66)) S (ar 57, ar 64, sc 4910))) := by
    intro m
    induction m with
    | zero =>
      intro i sc1 ar1 hm hc2_0 hI1 hF1
      refine to_n 2 (fr' := (4, [(0, .ref 49), (1, .int (nI i))], [.ref 49, .int (nI i)], gh S a b sc1 ar1 lo, ex, 0, 0)) rfl ?_
      refine to_get rfl rfl rfl rfl ?_
      refine to_n 1 (fr' := (8, [(0, .ref 49), (1, .int (nI i))], [.ref 49, .int (nI a), .int (nI i)], gh S a b sc1 ar1 lo, ex, 0, 0)) rfl ?_
      refine to_get rfl rfl rfl rfl ?_
      refine to_mulN (x := a) (y := b) rfl ?_
      rw [hab]
      refine to_nc_ge_T (t := 136) (x := i) (y := S) rfl (by omega) (by omega) (by omega) ?_
      exact to_rt (i := .return_) (tg := []) rfl rfl ⟨_, _, ⟨hI1, hF1, (by have e9 : i = S := (by omega); rw [e9] at hc2_0; exact hc2_0)⟩, rfl⟩
    | succ m ih =>
      intro i sc1 ar1 hm hc2_0 hI1 hF1
      have c130 : ∀  (sc2 : Nat → Int32) (ar2 : Nat → Nat → Int32), (ar2 57, ar2 64, sc2 4910) = zit (zgRs a n (ar 51) (ar 62) (ar 61) (ar 66)) (i + 1) (ar 57, ar 64, sc 4910) → Iv S sc2 ar2 → Fr [4910] [57, 64] sc ar sc2 ar2 → ag_To X (d + 2) an_X10_roofs (130, [(0, .ref 49), (1, .int (nI i))], [], gh S a b sc2 ar2 lo, ex, 0, 0) (qv S a b lo ex (fun sc' ar' => Iv S sc' ar' ∧ Fr [4910] [57, 64] sc ar sc' ar' ∧ (ar' 57, ar' 64, sc' 4910) = zit (zgRs a n (ar 51) (ar 62) (ar 61) (ar 66)) S (ar 57, ar 64, sc 4910))) := by
        intro sc2 ar2 hc130_0 hI2 hF2
        refine to_n 1 (fr' := (133, [(0, .ref 49), (1, .int ((nI i) + 1))], [], gh S a b sc2 ar2 lo, ex, 0, 0)) rfl ?_
        rw [nI_1 i]
        refine to_n 1 (fr' := (2, [(0, .ref 49), (1, .int (nI (i + 1)))], [], gh S a b sc2 ar2 lo, ex, 0, 0)) rfl ?_
        exact ih (i + 1) sc2 ar2 (by omega) hc130_0 hI2 hF2
      have c40 : ∀ m : Nat, ∀ (c : Nat) (sc3 : Nat → Int32) (ar3 : Nat → Nat → Int32), c + m = n → (ar3 57, ar3 64, sc3 4910) = zit (zgR a i (ar 62) (ar 61) (ar 66)) c (ar1 57, ar1 64, sc1 4910) → ar 51 i = 1 → ar1 57 i = -1 → Iv S sc3 ar3 → Fr [4910] [57, 64] sc ar sc3 ar3 → ag_To X (d + 2) an_X10_roofs (40, [(0, .ref 49), (1, .int (nI i)), (2, .int (nI c))], [], gh S a b sc3 ar3 lo, ex, 0, 0) (qv S a b lo ex (fun sc' ar' => Iv S sc' ar' ∧ Fr [4910] [57, 64] sc ar sc' ar' ∧ (ar' 57, ar' 64, sc' 4910) = zit (zgRs a n (ar 51) (ar 62) (ar 61) (ar 66)) S (ar 57, ar 64, sc 4910))) := by
        intro m
        induction m with
        | zero =>
          intro c sc3 ar3 hm hc40_0 hc40_1 hc40_2 hI3 hF3
          refine to_n 2 (fr' := (42, [(0, .ref 49), (1, .int (nI i)), (2, .int (nI c))], [.ref 49, .int (nI c)], gh S a b sc3 ar3 lo, ex, 0, 0)) rfl ?_
          refine to_getR (v := (nI n)) rfl rfl rfl rfl ((hF3.1 4906 (by decide)).trans en) ?_
          refine to_nc_ge_T (t := 130) (x := c) (y := n) rfl (by omega) (by omega) (by omega) ?_
          refine to_lv (lv := [(0, .ref 49), (1, .int (nI i))]) rfl ⟨rfl, rfl, trivial⟩ ?_
          exact c130 sc3 ar3 (zit_s hc2_0 (zgRs_y hc40_1 hc40_2 (by rw [show n = c by omega]; exact hc40_0))) hI3 hF3
        | succ m ih =>
          intro c sc3 ar3 hm hc40_0 hc40_1 hc40_2 hI3 hF3
          refine to_n 2 (fr' := (42, [(0, .ref 49), (1, .int (nI i)), (2, .int (nI c))], [.ref 49, .int (nI c)], gh S a b sc3 ar3 lo, ex, 0, 0)) rfl ?_
          refine to_getR (v := (nI n)) rfl rfl rfl rfl ((hF3.1 4906 (by decide)).trans en) ?_
          refine to_nc_ge_F (t := 130) (x := c) (y := n) rfl (by omega) (by omega) (by omega) ?_
          refine to_n 1 (fr' := (49, [(0, .ref 49), (1, .int (nI i)), (2, .int (nI c))], [.ref 49], gh S a b sc3 ar3 lo, ex, 0, 0)) rfl ?_
          refine to_get rfl rfl rfl rfl ?_
          refine to_n 1 (fr' := (53, [(0, .ref 49), (1, .int (nI i)), (2, .int (nI c))], [.int (nI c), .ref 62], gh S a b sc3 ar3 lo, ex, 0, 0)) rfl ?_
          rcases iv_a62 hI c with e4 | ⟨n4, hn4, e4⟩
          · refine to_ialR (i := c) (v := (-1)) rfl (by decide) rfl (by omega) (by omega) ((congrFun (hF3.2 62 (by decide)) c).trans e4) ?_
            refine to_n 1 (fr' := (55, [(0, .ref 49), (1, .int (nI i)), (2, .int (nI c))], [.int (nI i), .int (-1)], gh S a b sc3 ar3 lo, ex, 0, 0)) rfl ?_
            refine to_ic_ne_T (t := 124) (x := (-1)) (y := (nI i)) rfl (fun w => nI_neg (n := i) (x := (-1)) (by omega) (by decide) w.symm) ?_
            refine to_n 1 (fr' := (127, [(0, .ref 49), (1, .int (nI i)), (2, .int ((nI c) + 1))], [], gh S a b sc3 ar3 lo, ex, 0, 0)) rfl ?_
            rw [nI_1 c]
            refine to_n 1 (fr' := (40, [(0, .ref 49), (1, .int (nI i)), (2, .int (nI (c + 1)))], [], gh S a b sc3 ar3 lo, ex, 0, 0)) rfl ?_
            exact ih (c + 1) sc3 ar3 (by omega) (zit_s hc40_0 (zgR_0 (fun w => ni_m e4 (by omega) w.1))) hc40_1 hc40_2 hI3 hF3
          · refine to_ialR (i := c) (v := (nI n4)) rfl (by decide) rfl (by omega) (by omega) ((congrFun (hF3.2 62 (by decide)) c).trans e4) ?_
            refine to_n 1 (fr' := (55, [(0, .ref 49), (1, .int (nI i)), (2, .int (nI c))], [.int (nI i), .int (nI n4)], gh S a b sc3 ar3 lo, ex, 0, 0)) rfl ?_
            refine to_nc_ne (t := 124) (x := n4) (y := i) rfl (by omega) (by omega) (fun q5 => ?_) (fun q5 => ?_)
            · refine to_n 1 (fr' := (127, [(0, .ref 49), (1, .int (nI i)), (2, .int ((nI c) + 1))], [], gh S a b sc3 ar3 lo, ex, 0, 0)) rfl ?_
              rw [nI_1 c]
              refine to_n 1 (fr' := (40, [(0, .ref 49), (1, .int (nI i)), (2, .int (nI (c + 1)))], [], gh S a b sc3 ar3 lo, ex, 0, 0)) rfl ?_
              exact ih (c + 1) sc3 ar3 (by omega) (zit_s hc40_0 (zgR_0 (fun w => ni_ne e4 q5 (by omega) (by omega) w.1))) hc40_1 hc40_2 hI3 hF3
            · refine to_n 1 (fr' := (59, [(0, .ref 49), (1, .int (nI i)), (2, .int (nI c))], [.ref 49], gh S a b sc3 ar3 lo, ex, 0, 0)) rfl ?_
              refine to_get rfl rfl rfl rfl ?_
              refine to_n 1 (fr' := (63, [(0, .ref 49), (1, .int (nI i)), (2, .int (nI c))], [.int (nI c), .ref 66], gh S a b sc3 ar3 lo, ex, 0, 0)) rfl ?_
              refine to_zalR (i := c) (v := (ar 66 c)) rfl rfl (by omega) (by omega) (congrFun (hF3.2 66 (by decide)) c) ?_
              refine to_if_ne (t := 124) rfl (fun q6 => ?_) (fun q6 => ?_)
              · refine to_n 1 (fr' := (127, [(0, .ref 49), (1, .int (nI i)), (2, .int ((nI c) + 1))], [], gh S a b sc3 ar3 lo, ex, 0, 0)) rfl ?_
                rw [nI_1 c]
                refine to_n 1 (fr' := (40, [(0, .ref 49), (1, .int (nI i)), (2, .int (nI (c + 1)))], [], gh S a b sc3 ar3 lo, ex, 0, 0)) rfl ?_
                exact ih (c + 1) sc3 ar3 (by omega) (zit_s hc40_0 (zgR_0 (fun w => q6 w.2.1))) hc40_1 hc40_2 hI3 hF3
              · refine to_n 2 (fr' := (69, [(0, .ref 49), (1, .int (nI i)), (2, .int (nI c))], [.ref 49, .ref 49], gh S a b sc3 ar3 lo, ex, 0, 0)) rfl ?_
                refine to_get rfl rfl rfl rfl ?_
                refine to_n 1 (fr' := (73, [(0, .ref 49), (1, .int (nI i)), (2, .int (nI c))], [.int (nI c), .ref 61, .ref 49], gh S a b sc3 ar3 lo, ex, 0, 0)) rfl ?_
                obtain ⟨n7, hn7, e7⟩ := iv_a61 hI c
                refine to_ialR (i := c) (v := (nI n7)) rfl (by decide) rfl (by omega) (by omega) ((congrFun (hF3.2 61 (by decide)) c).trans e7) ?_
                refine to_n 1 (fr' := (75, [(0, .ref 49), (1, .int (nI i)), (2, .int (nI c))], [.int (nI i), .int (nI n7), .ref 49], gh S a b sc3 ar3 lo, ex, 0, 0)) rfl ?_
                refine to_cp (q := 148) (M1 := an_X10_isBeside) (rest := []) rfl rfl (by decide) rfl ⟨_, rfl⟩ (sf_X10_isBeside hW hI3 n7 (by omega) i (by omega) d) (fun x8 hx8 => ?_)
                rcases hx8 with ⟨rfl, w8⟩ | ⟨rfl, w8⟩
                · refine to_eq (fr' := (78, [(0, .ref 49), (1, .int (nI i)), (2, .int (nI c))], [.int 1], gh S a b sc3 ar3 lo, ex, 0, 0)) rfl ?_
                  refine to_n 2 (fr' := (85, [(0, .ref 49), (1, .int (nI i)), (2, .int (nI c))], [.ref 49], gh S a b sc3 ar3 lo, ex, 0, 0)) rfl ?_
                  refine to_get rfl rfl rfl rfl ?_
                  refine to_n 1 (fr' := (89, [(0, .ref 49), (1, .int (nI i)), (2, .int (nI c))], [.int (nI i), .ref 57], gh S a b sc3 ar3 lo, ex, 0, 0)) rfl ?_
                  rcases iv_a57 hI3 i with e9 | ⟨n9, hn9, e9⟩
                  · refine to_ialR (i := i) (v := (-1)) rfl (by decide) rfl (by omega) (by omega) e9 ?_
                    refine to_n 3 (fr' := (95, [(0, .ref 49), (1, .int (nI i)), (2, .int (nI c))], [.ref 49], gh S a b sc3 ar3 lo, ex, 0, 0)) rfl ?_
                    refine to_get rfl rfl rfl rfl ?_
                    refine to_n 2 (fr' := (100, [(0, .ref 49), (1, .int (nI i)), (2, .int (nI c))], [.int (nI c), .int (nI i), .ref 57], gh S a b sc3 ar3 lo, ex, 0, 0)) rfl ?_
                    refine to_iasR (i := i) (h' := gh S a b sc3 (uA ar3 57 (upd (ar3 57) i (nI c))) lo) rfl rfl (by omega) (by omega) rfl ?_
                    have hI10 := ia_57 (i := i) (v := (nI c)) hI3 (rq_n (n := c) (by omega))
                    have hF10 := fr_a (c := 57) (g := (upd (ar3 57) i (nI c))) hF3 (by decide)
                    refine to_n 2 (fr' := (127, [(0, .ref 49), (1, .int (nI i)), (2, .int ((nI c) + 1))], [], gh S a b sc3 (uA ar3 57 (upd (ar3 57) i (nI c))) lo, ex, 0, 0)) rfl ?_
                    rw [nI_1 c]
                    refine to_n 1 (fr' := (40, [(0, .ref 49), (1, .int (nI i)), (2, .int (nI (c + 1)))], [], gh S a b sc3 (uA ar3 57 (upd (ar3 57) i (nI c))) lo, ex, 0, 0)) rfl ?_
                    exact ih (c + 1) sc3 (uA ar3 57 (upd (ar3 57) i (nI c))) (by omega) (zit_s hc40_0 (zgR_1 (e4.trans (congrArg nI q5)) q6 e7 (by omega) w8 e9)) hc40_1 hc40_2 hI10 hF10
                  · refine to_ialR (i := i) (v := (nI n9)) rfl (by decide) rfl (by omega) (by omega) e9 ?_
                    refine to_n 1 (fr' := (91, [(0, .ref 49), (1, .int (nI i)), (2, .int (nI c))], [.int (-1), .int (nI n9)], gh S a b sc3 ar3 lo, ex, 0, 0)) rfl ?_
                    refine to_ic_ne_T (t := 104) (x := (nI n9)) (y := (-1)) rfl (nI_neg (by omega) (by decide)) ?_
                    refine to_n 1 (fr' := (105, [(0, .ref 49), (1, .int (nI i)), (2, .int (nI c))], [.ref 49], gh S a b sc3 ar3 lo, ex, 0, 0)) rfl ?_
                    refine to_get rfl rfl rfl rfl ?_
                    refine to_n 2 (fr' := (110, [(0, .ref 49), (1, .int (nI i)), (2, .int (nI c))], [.int (nI c), .ref 64, .int (nI c), .ref 64], gh S a b sc3 ar3 lo, ex, 0, 0)) rfl ?_
                    refine to_ialR (i := c) (v := ((ar3 64) c)) rfl (by decide) rfl (by omega) (by omega) rfl ?_
                    refine to_n 2 (fr' := (113, [(0, .ref 49), (1, .int (nI i)), (2, .int (nI c))], [.int (((ar3 64) c) + 1), .int (nI c), .ref 64], gh S a b sc3 ar3 lo, ex, 0, 0)) rfl ?_
                    refine to_iasR (i := c) (h' := gh S a b sc3 (uA ar3 64 (upd (ar3 64) c (((ar3 64) c) + 1))) lo) rfl rfl (by omega) (by omega) rfl ?_
                    have hI11 := ia_64 (g := (upd (ar3 64) c (((ar3 64) c) + 1))) hI3
                    have hF11 := fr_a (c := 64) (g := (upd (ar3 64) c (((ar3 64) c) + 1))) hF3 (by decide)
                    refine to_n 2 (fr' := (116, [(0, .ref 49), (1, .int (nI i)), (2, .int (nI c))], [.ref 49, .ref 49], gh S a b sc3 (uA ar3 64 (upd (ar3 64) c (((ar3 64) c) + 1))) lo, ex, 0, 0)) rfl ?_
                    refine to_getR (v := (sc3 4910)) rfl rfl rfl rfl rfl ?_
                    refine to_n 2 (fr' := (121, [(0, .ref 49), (1, .int (nI i)), (2, .int (nI c))], [.int ((sc3 4910) + 1), .ref 49], gh S a b sc3 (uA ar3 64 (upd (ar3 64) c (((ar3 64) c) + 1))) lo, ex, 0, 0)) rfl ?_
                    refine to_putR (h' := gh S a b (upd sc3 4910 ((sc3 4910) + 1)) (uA ar3 64 (upd (ar3 64) c (((ar3 64) c) + 1))) lo) rfl rfl rfl (Nat.le_of_ble_eq_true rfl) rfl rfl ?_
                    have hI12 := ip_4910 (v := ((sc3 4910) + 1)) hI11 
                    have hF12 := fr_s (k := 4910) (v := ((sc3 4910) + 1)) hF11 (by decide)
                    refine to_n 1 (fr' := (127, [(0, .ref 49), (1, .int (nI i)), (2, .int ((nI c) + 1))], [], gh S a b (upd sc3 4910 ((sc3 4910) + 1)) (uA ar3 64 (upd (ar3 64) c (((ar3 64) c) + 1))) lo, ex, 0, 0)) rfl ?_
                    rw [nI_1 c]
                    refine to_n 1 (fr' := (40, [(0, .ref 49), (1, .int (nI i)), (2, .int (nI (c + 1)))], [], gh S a b (upd sc3 4910 ((sc3 4910) + 1)) (uA ar3 64 (upd (ar3 64) c (((ar3 64) c) + 1))) lo, ex, 0, 0)) rfl ?_
                    exact ih (c + 1) (upd sc3 4910 ((sc3 4910) + 1)) (uA ar3 64 (upd (ar3 64) c (((ar3 64) c) + 1))) (by omega) (zit_s hc40_0 (zgR_2 (e4.trans (congrArg nI q5)) q6 e7 (by omega) w8 (fun w => nI_neg (by omega) (by decide) (e9.symm.trans w)))) hc40_1 hc40_2 hI12 hF12
                · refine to_eq (fr' := (78, [(0, .ref 49), (1, .int (nI i)), (2, .int (nI c))], [.int 0], gh S a b sc3 ar3 lo, ex, 0, 0)) rfl ?_
                  refine to_n 3 (fr' := (127, [(0, .ref 49), (1, .int (nI i)), (2, .int ((nI c) + 1))], [], gh S a b sc3 ar3 lo, ex, 0, 0)) rfl ?_
                  rw [nI_1 c]
                  refine to_n 1 (fr' := (40, [(0, .ref 49), (1, .int (nI i)), (2, .int (nI (c + 1)))], [], gh S a b sc3 ar3 lo, ex, 0, 0)) rfl ?_
                  exact ih (c + 1) sc3 ar3 (by omega) (zit_s hc40_0 (zgR_0 (zgR_d e7 (by omega) w8))) hc40_1 hc40_2 hI3 hF3
      refine to_n 2 (fr' := (4, [(0, .ref 49), (1, .int (nI i))], [.ref 49, .int (nI i)], gh S a b sc1 ar1 lo, ex, 0, 0)) rfl ?_
      refine to_get rfl rfl rfl rfl ?_
      refine to_n 1 (fr' := (8, [(0, .ref 49), (1, .int (nI i))], [.ref 49, .int (nI a), .int (nI i)], gh S a b sc1 ar1 lo, ex, 0, 0)) rfl ?_
      refine to_get rfl rfl rfl rfl ?_
      refine to_mulN (x := a) (y := b) rfl ?_
      rw [hab]
      refine to_nc_ge_F (t := 136) (x := i) (y := S) rfl (by omega) (by omega) (by omega) ?_
      refine to_n 1 (fr' := (16, [(0, .ref 49), (1, .int (nI i))], [.ref 49], gh S a b sc1 ar1 lo, ex, 0, 0)) rfl ?_
      refine to_get rfl rfl rfl rfl ?_
      refine to_n 1 (fr' := (20, [(0, .ref 49), (1, .int (nI i))], [.int (nI i), .ref 51], gh S a b sc1 ar1 lo, ex, 0, 0)) rfl ?_
      refine to_ialR (i := i) (v := (ar 51 i)) rfl (by decide) rfl (by omega) (by omega) (congrFun (hF1.2 51 (by decide)) i) ?_
      refine to_n 1 (fr' := (22, [(0, .ref 49), (1, .int (nI i))], [.int 1, .int (ar 51 i)], gh S a b sc1 ar1 lo, ex, 0, 0)) rfl ?_
      refine to_ic_ne (t := 130) rfl (fun q13 => ?_) (fun q13 => ?_)
      · exact c130 sc1 ar1 (zit_s hc2_0 (zgRs_n (fun w => q13 w.1))) hI1 hF1
      · refine to_n 1 (fr' := (26, [(0, .ref 49), (1, .int (nI i))], [.ref 49], gh S a b sc1 ar1 lo, ex, 0, 0)) rfl ?_
        refine to_get rfl rfl rfl rfl ?_
        refine to_n 1 (fr' := (30, [(0, .ref 49), (1, .int (nI i))], [.int (nI i), .ref 57], gh S a b sc1 ar1 lo, ex, 0, 0)) rfl ?_
        rcases iv_a57 hI1 i with e14 | ⟨n14, hn14, e14⟩
        · refine to_ialR (i := i) (v := (-1)) rfl (by decide) rfl (by omega) (by omega) e14 ?_
          refine to_n 4 (fr' := (40, [(0, .ref 49), (1, .int (nI i)), (2, .int 0)], [], gh S a b sc1 ar1 lo, ex, 0, 0)) rfl ?_
          exact c40 (n - 0) 0 sc1 ar1 (by omega) rfl q13 e14 hI1 hF1
        · refine to_ialR (i := i) (v := (nI n14)) rfl (by decide) rfl (by omega) (by omega) e14 ?_
          refine to_n 1 (fr' := (32, [(0, .ref 49), (1, .int (nI i))], [.int (-1), .int (nI n14)], gh S a b sc1 ar1 lo, ex, 0, 0)) rfl ?_
          refine to_ic_eq_F (t := 38) (x := (nI n14)) (y := (-1)) rfl (nI_neg (by omega) (by decide)) ?_
          refine to_n 1 (fr' := (130, [(0, .ref 49), (1, .int (nI i))], [], gh S a b sc1 ar1 lo, ex, 0, 0)) rfl ?_
          exact c130 sc1 ar1 (zit_s hc2_0 (zgRs_n (fun w => nI_neg (by omega) (by decide) (e14.symm.trans w.2)))) hI1 hF1
  refine to_n 2 (fr' := (2, [(0, .ref 49), (1, .int 0)], [], gh S a b sc ar lo, ex, 0, 0)) rfl ?_
  exact c2 (S - 0) 0 sc ar (by omega) rfl hI hF
set_option maxRecDepth 20000 in
theorem sf_X10_work {X : Nat × (Nat → Int32)} {S a b : Nat} {sc : Nat → Int32} {ar : Nat → Nat → Int32} {lo : Nat → Int64} {ex : Bool} (hW : Wd S a b) (hI : Iv S sc ar) (n : Nat) (enb : n < 9) (k1 : Nat) (hk1 : k1 < 8) (en : sc 4906 = nI n) (d : Nat)  : cv X S a b (d + 3) 154 [.ref 49, .int (nI k1)] sc ar lo ex (fun sc' ar' => Iv S sc' ar' ∧ Fr [] [51, 54, 56, 62] sc ar sc' ar' ∧ (ar' 51, ar' 54, ar' 56, ar' 62) = zwR S a n (ar 60) (ar 61) (ar 57) (ar 58) (ar 66) k1 (ar 51, ar 54, ar 56, ar 62)) := by
  obtain ⟨ha1, ha8, hb1, hb8, hab, hS1, hS⟩ := id hW
  refine cv_of (M := an_X10_work) rfl (Nat.le_of_ble_eq_true rfl) ?_
  have hF : Fr [] [51, 54, 56, 62] sc ar sc ar := fr_0
  refine to_eq (fr' := (0, [(0, .ref 49), (1, .int (nI k1))], [], gh S a b sc ar lo, ex, 0, 0)) rfl ?_
  refine to_n 1 (fr' := (1, [(0, .ref 49), (1, .int (nI k1))], [.ref 49], gh S a b sc ar lo, ex, 0, 0)) rfl ?_
  refine to_get rfl rfl rfl rfl ?_
  refine to_n 1 (fr' := (5, [(0, .ref 49), (1, .int (nI k1))], [.int (nI k1), .ref 62], gh S a b sc ar lo, ex, 0, 0)) rfl ?_
  rcases iv_a62 hI k1 with e1 | ⟨n1, hn1, e1⟩
  · refine to_ialR (i := k1) (v := (-1)) rfl (by decide) rfl (by omega) (by omega) e1 ?_
    refine to_n 4 (fr' := (26, [(0, .ref 49), (1, .int (nI k1)), (2, .int (-1))], [], gh S a b sc ar lo, ex, 0, 0)) rfl ?_
    exact to_rt (i := .return_) (tg := []) rfl rfl ⟨_, _, ⟨hI, hF, (zwR_0 e1)⟩, rfl⟩
  · refine to_ialR (i := k1) (v := (nI n1)) rfl (by decide) rfl (by omega) (by omega) e1 ?_
    refine to_n 3 (fr' := (9, [(0, .ref 49), (1, .int (nI k1)), (2, .int (nI n1))], [.int (-1), .int (nI n1)], gh S a b sc ar lo, ex, 0, 0)) rfl ?_
    refine to_ic_eq_F (t := 26) (x := (nI n1)) (y := (-1)) rfl (nI_neg (by omega) (by decide)) ?_
    refine to_n 2 (fr' := (14, [(0, .ref 49), (1, .int (nI k1)), (2, .int (nI n1))], [.ref 49, .ref 49], gh S a b sc ar lo, ex, 0, 0)) rfl ?_
    refine to_get rfl rfl rfl rfl ?_
    refine to_n 1 (fr' := (18, [(0, .ref 49), (1, .int (nI k1)), (2, .int (nI n1))], [.int (nI k1), .ref 61, .ref 49], gh S a b sc ar lo, ex, 0, 0)) rfl ?_
    obtain ⟨n2, hn2, e2⟩ := iv_a61 hI k1
    refine to_ialR (i := k1) (v := (nI n2)) rfl (by decide) rfl (by omega) (by omega) ((congrFun (hF.2 61 (by decide)) k1).trans e2) ?_
    refine to_n 1 (fr' := (20, [(0, .ref 49), (1, .int (nI k1)), (2, .int (nI n1))], [.int (nI n1), .int (nI n2), .ref 49], gh S a b sc ar lo, ex, 0, 0)) rfl ?_
    refine to_cp (q := 148) (M1 := an_X10_isBeside) (rest := []) rfl rfl (by decide) rfl ⟨_, rfl⟩ (sf_X10_isBeside hW hI n2 (by omega) n1 (by omega) d) (fun x3 hx3 => ?_)
    rcases hx3 with ⟨rfl, w3⟩ | ⟨rfl, w3⟩
    · refine to_eq (fr' := (23, [(0, .ref 49), (1, .int (nI k1)), (2, .int (nI n1))], [.int 1], gh S a b sc ar lo, ex, 0, 0)) rfl ?_
      refine to_n 2 (fr' := (28, [(0, .ref 49), (1, .int (nI k1)), (2, .int (nI n1))], [.ref 49], gh S a b sc ar lo, ex, 0, 0)) rfl ?_
      refine to_get rfl rfl rfl rfl ?_
      refine to_n 1 (fr' := (32, [(0, .ref 49), (1, .int (nI k1)), (2, .int (nI n1))], [.int (nI k1), .ref 66], gh S a b sc ar lo, ex, 0, 0)) rfl ?_
      refine to_zalR (i := k1) (v := (ar 66 k1)) rfl rfl (by omega) (by omega) (congrFun (hF.2 66 (by decide)) k1) ?_
      refine to_if_ne (t := 86) rfl (fun q4 => ?_) (fun q4 => ?_)
      · refine to_n 1 (fr' := (87, [(0, .ref 49), (1, .int (nI k1)), (2, .int (nI n1))], [.ref 49], gh S a b sc ar lo, ex, 0, 0)) rfl ?_
        refine to_get rfl rfl rfl rfl ?_
        refine to_n 2 (fr' := (92, [(0, .ref 49), (1, .int (nI k1)), (2, .int (nI n1))], [.int (nI n1), .ref 54, .int (nI n1), .ref 54], gh S a b sc ar lo, ex, 0, 0)) rfl ?_
        refine to_ialR (i := n1) (v := ((ar 54) n1)) rfl (by decide) rfl (by omega) (by omega) rfl ?_
        refine to_n 1 (fr' := (94, [(0, .ref 49), (1, .int (nI k1)), (2, .int (nI n1))], [.ref 49, .int ((ar 54) n1), .int (nI n1), .ref 54], gh S a b sc ar lo, ex, 0, 0)) rfl ?_
        refine to_get rfl rfl rfl rfl ?_
        refine to_n 1 (fr' := (98, [(0, .ref 49), (1, .int (nI k1)), (2, .int (nI n1))], [.int (nI k1), .ref 60, .int ((ar 54) n1), .int (nI n1), .ref 54], gh S a b sc ar lo, ex, 0, 0)) rfl ?_
        refine to_ialR (i := k1) (v := (ar 60 k1)) rfl (by decide) rfl (by omega) (by omega) (congrFun (hF.2 60 (by decide)) k1) ?_
        refine to_n 1 (fr' := (100, [(0, .ref 49), (1, .int (nI k1)), (2, .int (nI n1))], [.int (((ar 54) n1) - (ar 60 k1)), .int (nI n1), .ref 54], gh S a b sc ar lo, ex, 0, 0)) rfl ?_
        refine to_iasR (i := n1) (h' := gh S a b sc (uA ar 54 (upd (ar 54) n1 (((ar 54) n1) - (ar 60 k1)))) lo) rfl rfl (by omega) (by omega) rfl ?_
        have hI5 := ia_54 (g := (upd (ar 54) n1 (((ar 54) n1) - (ar 60 k1)))) hI
        have hF5 := fr_a (c := 54) (g := (upd (ar 54) n1 (((ar 54) n1) - (ar 60 k1)))) hF (by decide)
        refine to_n 1 (fr' := (102, [(0, .ref 49), (1, .int (nI k1)), (2, .int (nI n1))], [.ref 49], gh S a b sc (uA ar 54 (upd (ar 54) n1 (((ar 54) n1) - (ar 60 k1)))) lo, ex, 0, 0)) rfl ?_
        refine to_get rfl rfl rfl rfl ?_
        refine to_n 1 (fr' := (106, [(0, .ref 49), (1, .int (nI k1)), (2, .int (nI n1))], [.int (nI n1), .ref 54], gh S a b sc (uA ar 54 (upd (ar 54) n1 (((ar 54) n1) - (ar 60 k1)))) lo, ex, 0, 0)) rfl ?_
        refine to_ialR (i := n1) (v := ((upd (ar 54) n1 (((ar 54) n1) - (ar 60 k1))) n1)) rfl (by decide) rfl (by omega) (by omega) rfl ?_
        refine to_n 1 (fr' := (108, [(0, .ref 49), (1, .int (nI k1)), (2, .int (nI n1))], [.int 1, .int ((upd (ar 54) n1 (((ar 54) n1) - (ar 60 k1))) n1)], gh S a b sc (uA ar 54 (upd (ar 54) n1 (((ar 54) n1) - (ar 60 k1)))) lo, ex, 0, 0)) rfl ?_
        refine to_ic_lt (t := 112) rfl (fun q6 => ?_) (fun q6 => ?_)
        · refine to_n 1 (fr' := (113, [(0, .ref 49), (1, .int (nI k1)), (2, .int (nI n1))], [.ref 49], gh S a b sc (uA ar 54 (upd (ar 54) n1 (((ar 54) n1) - (ar 60 k1)))) lo, ex, 0, 0)) rfl ?_
          refine to_get rfl rfl rfl rfl ?_
          refine to_n 2 (fr' := (118, [(0, .ref 49), (1, .int (nI k1)), (2, .int (nI n1))], [.int 0, .int (nI n1), .ref 54], gh S a b sc (uA ar 54 (upd (ar 54) n1 (((ar 54) n1) - (ar 60 k1)))) lo, ex, 0, 0)) rfl ?_
          refine to_iasR (i := n1) (h' := gh S a b sc (uA (uA ar 54 (upd (ar 54) n1 (((ar 54) n1) - (ar 60 k1)))) 54 (upd (upd (ar 54) n1 (((ar 54) n1) - (ar 60 k1))) n1 0)) lo) rfl rfl (by omega) (by omega) rfl ?_
          have hI7 := ia_54 (g := (upd (upd (ar 54) n1 (((ar 54) n1) - (ar 60 k1))) n1 0)) hI5
          have hF7 := fr_a (c := 54) (g := (upd (upd (ar 54) n1 (((ar 54) n1) - (ar 60 k1))) n1 0)) hF5 (by decide)
          refine to_n 1 (fr' := (120, [(0, .ref 49), (1, .int (nI k1)), (2, .int (nI n1))], [.ref 49], gh S a b sc (uA (uA ar 54 (upd (ar 54) n1 (((ar 54) n1) - (ar 60 k1)))) 54 (upd (upd (ar 54) n1 (((ar 54) n1) - (ar 60 k1))) n1 0)) lo, ex, 0, 0)) rfl ?_
          refine to_get rfl rfl rfl rfl ?_
          refine to_n 2 (fr' := (125, [(0, .ref 49), (1, .int (nI k1)), (2, .int (nI n1))], [.int 3, .int (nI n1), .ref 51], gh S a b sc (uA (uA ar 54 (upd (ar 54) n1 (((ar 54) n1) - (ar 60 k1)))) 54 (upd (upd (ar 54) n1 (((ar 54) n1) - (ar 60 k1))) n1 0)) lo, ex, 0, 0)) rfl ?_
          refine to_iasR (i := n1) (h' := gh S a b sc (uA (uA (uA ar 54 (upd (ar 54) n1 (((ar 54) n1) - (ar 60 k1)))) 54 (upd (upd (ar 54) n1 (((ar 54) n1) - (ar 60 k1))) n1 0)) 51 (upd ((uA (uA ar 54 (upd (ar 54) n1 (((ar 54) n1) - (ar 60 k1)))) 54 (upd (upd (ar 54) n1 (((ar 54) n1) - (ar 60 k1))) n1 0)) 51) n1 3)) lo) rfl rfl (by omega) (by omega) rfl ?_
          have hI8 := ia_51 (g := (upd ((uA (uA ar 54 (upd (ar 54) n1 (((ar 54) n1) - (ar 60 k1)))) 54 (upd (upd (ar 54) n1 (((ar 54) n1) - (ar 60 k1))) n1 0)) 51) n1 3)) hI7
          have hF8 := fr_a (c := 51) (g := (upd ((uA (uA ar 54 (upd (ar 54) n1 (((ar 54) n1) - (ar 60 k1)))) 54 (upd (upd (ar 54) n1 (((ar 54) n1) - (ar 60 k1))) n1 0)) 51) n1 3)) hF7 (by decide)
          refine to_n 3 (fr' := (129, [(0, .ref 49), (1, .int (nI k1)), (2, .int (nI n1))], [.int 1, .int (nI n1), .ref 49], gh S a b sc (uA (uA (uA ar 54 (upd (ar 54) n1 (((ar 54) n1) - (ar 60 k1)))) 54 (upd (upd (ar 54) n1 (((ar 54) n1) - (ar 60 k1))) n1 0)) 51 (upd ((uA (uA ar 54 (upd (ar 54) n1 (((ar 54) n1) - (ar 60 k1)))) 54 (upd (upd (ar 54) n1 (((ar 54) n1) - (ar 60 k1))) n1 0)) 51) n1 3)) lo, ex, 0, 0)) rfl ?_
          refine to_cv (q := 142) (M1 := an_X10_noGoal) (rest := []) rfl rfl (by decide) rfl ⟨_, rfl⟩ (sf_X10_noGoal hW hI8 n (by omega) (nI n1) 1 ((hF8.1 4906 (by decide)).trans en) (d + 1)) (fun sc9 ar9 hx9 => ?_)
          obtain ⟨hI9, hG9, hx9⟩ := hx9
          have hF9 := fr_t hF8 hG9 (by decide) (by decide)
          refine to_eq (fr' := (132, [(0, .ref 49), (1, .int (nI k1)), (2, .int (nI n1))], [], gh S a b sc9 ar9 lo, ex, 0, 0)) rfl ?_
          exact to_rt (i := .return_) (tg := []) rfl rfl ⟨_, _, ⟨hI9, hF9, (by rw [← zwR_p e1 e2 (by omega) (by omega) w3 q4 q6]; simp only [uA_s, uA_n, (show ar9 56 = (uA (uA (uA ar 54 (upd (ar 54) n1 (((ar 54) n1) - (ar 60 k1)))) 54 (upd (upd (ar 54) n1 (((ar 54) n1) - (ar 60 k1))) n1 0)) 51 (upd ((uA (uA ar 54 (upd (ar 54) n1 (((ar 54) n1) - (ar 60 k1)))) 54 (upd (upd (ar 54) n1 (((ar 54) n1) - (ar 60 k1))) n1 0)) 51) n1 3)) 56 from hG9.2 56 (by decide)), (show ar9 54 = (uA (uA (uA ar 54 (upd (ar 54) n1 (((ar 54) n1) - (ar 60 k1)))) 54 (upd (upd (ar 54) n1 (((ar 54) n1) - (ar 60 k1))) n1 0)) 51 (upd ((uA (uA ar 54 (upd (ar 54) n1 (((ar 54) n1) - (ar 60 k1)))) 54 (upd (upd (ar 54) n1 (((ar 54) n1) - (ar 60 k1))) n1 0)) 51) n1 3)) 54 from hG9.2 54 (by decide)), (show ar9 51 = (uA (uA (uA ar 54 (upd (ar 54) n1 (((ar 54) n1) - (ar 60 k1)))) 54 (upd (upd (ar 54) n1 (((ar 54) n1) - (ar 60 k1))) n1 0)) 51 (upd ((uA (uA ar 54 (upd (ar 54) n1 (((ar 54) n1) - (ar 60 k1)))) 54 (upd (upd (ar 54) n1 (((ar 54) n1) - (ar 60 k1))) n1 0)) 51) n1 3)) 51 from hG9.2 51 (by decide)), hx9, Nat.reduceEqDiff, not_false_eq_true])⟩, rfl⟩
        · exact to_rt (i := .return_) (tg := []) rfl rfl ⟨_, _, ⟨hI5, hF5, (zwR_q e1 e2 (by omega) (by omega) w3 q4 (Int32.not_lt.mpr (Int32.not_lt.mp q6)))⟩, rfl⟩
      · refine to_n 1 (fr' := (37, [(0, .ref 49), (1, .int (nI k1)), (2, .int (nI n1))], [.ref 49], gh S a b sc ar lo, ex, 0, 0)) rfl ?_
        refine to_get rfl rfl rfl rfl ?_
        refine to_n 1 (fr' := (41, [(0, .ref 49), (1, .int (nI k1)), (2, .int (nI n1))], [.int (nI n1), .ref 57], gh S a b sc ar lo, ex, 0, 0)) rfl ?_
        rcases iv_a57 hI n1 with e10 | ⟨n10, hn10, e10⟩
        · refine to_ialR (i := n1) (v := (-1)) rfl (by decide) rfl (by omega) (by omega) ((congrFun (hF.2 57 (by decide)) n1).trans e10) ?_
          refine to_n 1 (fr' := (43, [(0, .ref 49), (1, .int (nI k1)), (2, .int (nI n1))], [.int (nI k1), .int (-1)], gh S a b sc ar lo, ex, 0, 0)) rfl ?_
          refine to_ic_ne_T (t := 85) (x := (-1)) (y := (nI k1)) rfl (fun w => nI_neg (n := k1) (x := (-1)) (by omega) (by decide) w.symm) ?_
          exact to_rt (i := .return_) (tg := []) rfl rfl ⟨_, _, ⟨hI, hF, (zwR_n e1 e2 (by omega) (by omega) w3 q4 (ni_m e10 (by omega)))⟩, rfl⟩
        · refine to_ialR (i := n1) (v := (nI n10)) rfl (by decide) rfl (by omega) (by omega) ((congrFun (hF.2 57 (by decide)) n1).trans e10) ?_
          refine to_n 1 (fr' := (43, [(0, .ref 49), (1, .int (nI k1)), (2, .int (nI n1))], [.int (nI k1), .int (nI n10)], gh S a b sc ar lo, ex, 0, 0)) rfl ?_
          refine to_nc_ne (t := 85) (x := n10) (y := k1) rfl (by omega) (by omega) (fun q11 => ?_) (fun q11 => ?_)
          · exact to_rt (i := .return_) (tg := []) rfl rfl ⟨_, _, ⟨hI, hF, (zwR_n e1 e2 (by omega) (by omega) w3 q4 (ni_ne e10 q11 (by omega) (by omega)))⟩, rfl⟩
          · refine to_n 1 (fr' := (47, [(0, .ref 49), (1, .int (nI k1)), (2, .int (nI n1))], [.ref 49], gh S a b sc ar lo, ex, 0, 0)) rfl ?_
            refine to_get rfl rfl rfl rfl ?_
            refine to_n 2 (fr' := (52, [(0, .ref 49), (1, .int (nI k1)), (2, .int (nI n1))], [.int (nI n1), .ref 56, .int (nI n1), .ref 56], gh S a b sc ar lo, ex, 0, 0)) rfl ?_
            refine to_ialR (i := n1) (v := ((ar 56) n1)) rfl (by decide) rfl (by omega) (by omega) rfl ?_
            refine to_n 2 (fr' := (55, [(0, .ref 49), (1, .int (nI k1)), (2, .int (nI n1))], [.ref 49, .ref 49, .int ((ar 56) n1), .int (nI n1), .ref 56], gh S a b sc ar lo, ex, 0, 0)) rfl ?_
            refine to_get rfl rfl rfl rfl ?_
            refine to_n 1 (fr' := (59, [(0, .ref 49), (1, .int (nI k1)), (2, .int (nI n1))], [.int (nI k1), .ref 61, .ref 49, .int ((ar 56) n1), .int (nI n1), .ref 56], gh S a b sc ar lo, ex, 0, 0)) rfl ?_
            refine to_ialR (i := k1) (v := (nI n2)) rfl (by decide) rfl (by omega) (by omega) ((congrFun (hF.2 61 (by decide)) k1).trans e2) ?_
            refine to_cp (q := 153) (M1 := an_X10_isByWell) (rest := [.int ((ar 56) n1), .int (nI n1), .ref 56]) rfl rfl (by decide) rfl ⟨_, rfl⟩ (sf_X10_isByWell hW hI n2 (by omega) d) (fun x12 hx12 => ?_)
            rcases hx12 with ⟨rfl, w12⟩ | ⟨rfl, w12⟩
            · refine to_eq (fr' := (63, [(0, .ref 49), (1, .int (nI k1)), (2, .int (nI n1))], [.int 1, .int ((ar 56) n1), .int (nI n1), .ref 56], gh S a b sc ar lo, ex, 0, 0)) rfl ?_
              refine to_n 3 (fr' := (68, [(0, .ref 49), (1, .int (nI k1)), (2, .int (nI n1))], [.ref 49, .int 2, .int ((ar 56) n1), .int (nI n1), .ref 56], gh S a b sc ar lo, ex, 0, 0)) rfl ?_
              refine to_get rfl rfl rfl rfl ?_
              refine to_n 1 (fr' := (72, [(0, .ref 49), (1, .int (nI k1)), (2, .int (nI n1))], [.int (nI k1), .ref 60, .int 2, .int ((ar 56) n1), .int (nI n1), .ref 56], gh S a b sc ar lo, ex, 0, 0)) rfl ?_
              refine to_ialR (i := k1) (v := (ar 60 k1)) rfl (by decide) rfl (by omega) (by omega) (congrFun (hF.2 60 (by decide)) k1) ?_
              refine to_n 3 (fr' := (84, [(0, .ref 49), (1, .int (nI k1)), (2, .int (nI n1))], [.int (((ar 56) n1) + (2 * (ar 60 k1))), .int (nI n1), .ref 56], gh S a b sc ar lo, ex, 0, 0)) rfl ?_
              refine to_iasR (i := n1) (h' := gh S a b sc (uA ar 56 (upd (ar 56) n1 (((ar 56) n1) + (2 * (ar 60 k1))))) lo) rfl rfl (by omega) (by omega) rfl ?_
              have hI13 := ia_56 (g := (upd (ar 56) n1 (((ar 56) n1) + (2 * (ar 60 k1))))) hI
              have hF13 := fr_a (c := 56) (g := (upd (ar 56) n1 (((ar 56) n1) + (2 * (ar 60 k1))))) hF (by decide)
              exact to_rt (i := .return_) (tg := []) rfl rfl ⟨_, _, ⟨hI13, hF13, (zwR_w e1 e2 (by omega) (by omega) w3 q4 (e10.trans (congrArg nI q11)) w12)⟩, rfl⟩
            · refine to_eq (fr' := (63, [(0, .ref 49), (1, .int (nI k1)), (2, .int (nI n1))], [.int 0, .int ((ar 56) n1), .int (nI n1), .ref 56], gh S a b sc ar lo, ex, 0, 0)) rfl ?_
              refine to_n 2 (fr' := (78, [(0, .ref 49), (1, .int (nI k1)), (2, .int (nI n1))], [.ref 49, .int ((ar 56) n1), .int (nI n1), .ref 56], gh S a b sc ar lo, ex, 0, 0)) rfl ?_
              refine to_get rfl rfl rfl rfl ?_
              refine to_n 1 (fr' := (82, [(0, .ref 49), (1, .int (nI k1)), (2, .int (nI n1))], [.int (nI k1), .ref 60, .int ((ar 56) n1), .int (nI n1), .ref 56], gh S a b sc ar lo, ex, 0, 0)) rfl ?_
              refine to_ialR (i := k1) (v := (ar 60 k1)) rfl (by decide) rfl (by omega) (by omega) (congrFun (hF.2 60 (by decide)) k1) ?_
              refine to_n 1 (fr' := (84, [(0, .ref 49), (1, .int (nI k1)), (2, .int (nI n1))], [.int (((ar 56) n1) + (ar 60 k1)), .int (nI n1), .ref 56], gh S a b sc ar lo, ex, 0, 0)) rfl ?_
              refine to_iasR (i := n1) (h' := gh S a b sc (uA ar 56 (upd (ar 56) n1 (((ar 56) n1) + (ar 60 k1)))) lo) rfl rfl (by omega) (by omega) rfl ?_
              have hI14 := ia_56 (g := (upd (ar 56) n1 (((ar 56) n1) + (ar 60 k1)))) hI
              have hF14 := fr_a (c := 56) (g := (upd (ar 56) n1 (((ar 56) n1) + (ar 60 k1)))) hF (by decide)
              exact to_rt (i := .return_) (tg := []) rfl rfl ⟨_, _, ⟨hI14, hF14, (zwR_v e1 e2 (by omega) (by omega) w3 q4 (e10.trans (congrArg nI q11)) w12)⟩, rfl⟩
    · refine to_eq (fr' := (23, [(0, .ref 49), (1, .int (nI k1)), (2, .int (nI n1))], [.int 0], gh S a b sc ar lo, ex, 0, 0)) rfl ?_
      refine to_n 1 (fr' := (26, [(0, .ref 49), (1, .int (nI k1)), (2, .int (nI n1))], [], gh S a b sc ar lo, ex, 0, 0)) rfl ?_
      exact to_rt (i := .return_) (tg := []) rfl rfl ⟨_, _, ⟨hI, hF, (zwR_1 e1 e2 (by omega) (by omega) w3)⟩, rfl⟩
set_option maxRecDepth 20000 in
theorem sf_X10_warm {X : Nat × (Nat → Int32)} {S a b : Nat} {sc : Nat → Int32} {ar : Nat → Nat → Int32} {lo : Nat → Int64} {ex : Bool} (hW : Wd S a b) (hI : Iv S sc ar)  (d : Nat)  : cv X S a b (d + 2) 156 [.ref 49] sc ar lo ex (fun sc' ar' => Iv S sc' ar' ∧ Fr [] [51, 55, 75, 76] sc ar sc' ar' ∧ (ar' 55 = zwr S a b (sc 4905) (ar 51) (ar 55) ∧ ar' 51 = zsr S a b (sc 4905) (ar 51) (ar 55) ∧ ∀ j : Nat, j < S → ar' 76 j = zbI (zbr S a b (sc 4905) (ar 51) (ar 55)) j)) := by
  obtain ⟨ha1, ha8, hb1, hb8, hab, hS1, hS⟩ := id hW
  refine cv_of (M := an_X10_warm) rfl (Nat.le_of_ble_eq_true rfl) ?_
  have hF : Fr [] [51, 55, 75, 76] sc ar sc ar := fr_0
  refine to_eq (fr' := (0, [(0, .ref 49)], [], gh S a b sc ar lo, ex, 0, 0)) rfl ?_
  have c210 : ∀ m : Nat, ∀ (i : Nat) (sc1 : Nat → Int32) (ar1 : Nat → Nat → Int32), i + m = S → ar1 55 = (zwr S a b (sc 4905) (ar 51) (ar 55)) → ar1 51 = zpw (zst (ar 51) (zwr S a b (sc 4905) (ar 51) (ar 55))) (ar 51) i → (∀ j : Nat, j < S → ar1 76 j = zbI (zbr S a b (sc 4905) (ar 51) (ar 55)) j) → Iv S sc1 ar1 → Fr [] [51, 55, 75, 76] sc ar sc1 ar1 → ag_To X (d + 1) an_X10_warm (210, [(0, .ref 49), (1, .int (nI S)), (2, .int (nI i))], [], gh S a b sc1 ar1 lo, ex, 0, 0) (qv S a b lo ex (fun sc' ar' => Iv S sc' ar' ∧ Fr [] [51, 55, 75, 76] sc ar sc' ar' ∧ (ar' 55 = zwr S a b (sc 4905) (ar 51) (ar 55) ∧ ar' 51 = zsr S a b (sc 4905) (ar 51) (ar 55) ∧ ∀ j : Nat, j < S → ar' 76 j = zbI (zbr S a b (sc 4905) (ar 51) (ar 55)) j))) := by
    intro m
    induction m with
    | zero =>
      intro i sc1 ar1 hm hc210_0 hc210_1 hc210_2 hI1 hF1
      refine to_n 2 (fr' := (212, [(0, .ref 49), (1, .int (nI S)), (2, .int (nI i))], [.int (nI S), .int (nI i)], gh S a b sc1 ar1 lo, ex, 0, 0)) rfl ?_
      refine to_nc_ge_T (t := 237) (x := i) (y := S) rfl (by omega) (by omega) (by omega) ?_
      exact to_rt (i := .return_) (tg := []) rfl rfl ⟨_, _, ⟨hI1, hF1, ⟨hc210_0, by have e9 : i = S := (by omega); rw [e9] at hc210_1; exact hc210_1, hc210_2⟩⟩, rfl⟩
    | succ m ih =>
      intro i sc1 ar1 hm hc210_0 hc210_1 hc210_2 hI1 hF1
      refine to_n 2 (fr' := (212, [(0, .ref 49), (1, .int (nI S)), (2, .int (nI i))], [.int (nI S), .int (nI i)], gh S a b sc1 ar1 lo, ex, 0, 0)) rfl ?_
      refine to_nc_ge_F (t := 237) (x := i) (y := S) rfl (by omega) (by omega) (by omega) ?_
      refine to_n 1 (fr' := (216, [(0, .ref 49), (1, .int (nI S)), (2, .int (nI i))], [.ref 49], gh S a b sc1 ar1 lo, ex, 0, 0)) rfl ?_
      refine to_get rfl rfl rfl rfl ?_
      refine to_n 1 (fr' := (220, [(0, .ref 49), (1, .int (nI S)), (2, .int (nI i))], [.int (nI i), .ref 76], gh S a b sc1 ar1 lo, ex, 0, 0)) rfl ?_
      refine to_zalR (i := i) (v := ((ar1 76) i)) rfl rfl (by omega) (by omega) rfl ?_
      refine to_if_eq (t := 231) rfl (fun q2 => ?_) (fun q2 => ?_)
      · refine to_n 1 (fr' := (234, [(0, .ref 49), (1, .int (nI S)), (2, .int ((nI i) + 1))], [], gh S a b sc1 ar1 lo, ex, 0, 0)) rfl ?_
        rw [nI_1 i]
        refine to_n 1 (fr' := (210, [(0, .ref 49), (1, .int (nI S)), (2, .int (nI (i + 1)))], [], gh S a b sc1 ar1 lo, ex, 0, 0)) rfl ?_
        exact ih (i + 1) sc1 ar1 (by omega) hc210_0 (zpw_k hc210_1 (zsb_n ((hc210_2 i (by omega)).symm.trans q2))) hc210_2 hI1 hF1
      · refine to_n 1 (fr' := (225, [(0, .ref 49), (1, .int (nI S)), (2, .int (nI i))], [.ref 49], gh S a b sc1 ar1 lo, ex, 0, 0)) rfl ?_
        refine to_get rfl rfl rfl rfl ?_
        refine to_n 2 (fr' := (230, [(0, .ref 49), (1, .int (nI S)), (2, .int (nI i))], [.int 1, .int (nI i), .ref 51], gh S a b sc1 ar1 lo, ex, 0, 0)) rfl ?_
        refine to_iasR (i := i) (h' := gh S a b sc1 (uA ar1 51 (upd (ar1 51) i 1)) lo) rfl rfl (by omega) (by omega) rfl ?_
        have hI3 := ia_51 (g := (upd (ar1 51) i 1)) hI1
        have hF3 := fr_a (c := 51) (g := (upd (ar1 51) i 1)) hF1 (by decide)
        refine to_n 1 (fr' := (234, [(0, .ref 49), (1, .int (nI S)), (2, .int ((nI i) + 1))], [], gh S a b sc1 (uA ar1 51 (upd (ar1 51) i 1)) lo, ex, 0, 0)) rfl ?_
        rw [nI_1 i]
        refine to_n 1 (fr' := (210, [(0, .ref 49), (1, .int (nI S)), (2, .int (nI (i + 1)))], [], gh S a b sc1 (uA ar1 51 (upd (ar1 51) i 1)) lo, ex, 0, 0)) rfl ?_
        exact ih (i + 1) sc1 (uA ar1 51 (upd (ar1 51) i 1)) (by omega) hc210_0 (zpw_u hc210_1 (zsb_y (fun w => q2 ((hc210_2 i (by omega)).trans w)))) hc210_2 hI3 hF3
  have c155 : ∀ m : Nat, ∀ (i : Nat) (sc4 : Nat → Int32) (ar4 : Nat → Nat → Int32), i + m = S → (∀ j : Nat, j < S → ar4 75 j = zwm S a b (sc 4905) (ar 51) (ar 55) j) → ar4 55 = zpw (zwm S a b (sc 4905) (ar 51) (ar 55)) (ar 55) i → ar4 51 = ar 51 → (∀ j : Nat, j < i → ar4 76 j = zbI (zbr S a b (sc 4905) (ar 51) (ar 55)) j) → Iv S sc4 ar4 → Fr [] [51, 55, 75, 76] sc ar sc4 ar4 → ag_To X (d + 1) an_X10_warm (155, [(0, .ref 49), (1, .int (nI S)), (2, .int (nI i))], [], gh S a b sc4 ar4 lo, ex, 0, 0) (qv S a b lo ex (fun sc' ar' => Iv S sc' ar' ∧ Fr [] [51, 55, 75, 76] sc ar sc' ar' ∧ (ar' 55 = zwr S a b (sc 4905) (ar 51) (ar 55) ∧ ar' 51 = zsr S a b (sc 4905) (ar 51) (ar 55) ∧ ∀ j : Nat, j < S → ar' 76 j = zbI (zbr S a b (sc 4905) (ar 51) (ar 55)) j))) := by
    intro m
    induction m with
    | zero =>
      intro i sc4 ar4 hm hc155_0 hc155_1 hc155_2 hc155_3 hI4 hF4
      refine to_n 2 (fr' := (157, [(0, .ref 49), (1, .int (nI S)), (2, .int (nI i))], [.int (nI S), .int (nI i)], gh S a b sc4 ar4 lo, ex, 0, 0)) rfl ?_
      refine to_nc_ge_T (t := 208) (x := i) (y := S) rfl (by omega) (by omega) (by omega) ?_
      refine to_n 2 (fr' := (210, [(0, .ref 49), (1, .int (nI S)), (2, .int 0)], [], gh S a b sc4 ar4 lo, ex, 0, 0)) rfl ?_
      exact c210 (S - 0) 0 sc4 ar4 (by omega) (by have e9 : i = S := (by omega); rw [e9] at hc155_1; exact hc155_1) (by rw [hc155_2]; exact zpw_0) (by have e9 : i = S := (by omega); rw [e9] at hc155_3; exact hc155_3) hI4 hF4
    | succ m ih =>
      intro i sc4 ar4 hm hc155_0 hc155_1 hc155_2 hc155_3 hI4 hF4
      refine to_n 2 (fr' := (157, [(0, .ref 49), (1, .int (nI S)), (2, .int (nI i))], [.int (nI S), .int (nI i)], gh S a b sc4 ar4 lo, ex, 0, 0)) rfl ?_
      refine to_nc_ge_F (t := 208) (x := i) (y := S) rfl (by omega) (by omega) (by omega) ?_
      refine to_n 1 (fr' := (161, [(0, .ref 49), (1, .int (nI S)), (2, .int (nI i))], [.ref 49], gh S a b sc4 ar4 lo, ex, 0, 0)) rfl ?_
      refine to_get rfl rfl rfl rfl ?_
      refine to_n 2 (fr' := (166, [(0, .ref 49), (1, .int (nI S)), (2, .int (nI i))], [.ref 49, .int (nI i), .ref 76], gh S a b sc4 ar4 lo, ex, 0, 0)) rfl ?_
      refine to_get rfl rfl rfl rfl ?_
      refine to_n 1 (fr' := (170, [(0, .ref 49), (1, .int (nI S)), (2, .int (nI i))], [.int (nI i), .ref 51, .int (nI i), .ref 76], gh S a b sc4 ar4 lo, ex, 0, 0)) rfl ?_
      refine to_ialR (i := i) (v := ((ar4 51) i)) rfl (by decide) rfl (by omega) (by omega) rfl ?_
      refine to_if_ne (t := 188) rfl (fun q5 => ?_) (fun q5 => ?_)
      · refine to_n 1 (fr' := (189, [(0, .ref 49), (1, .int (nI S)), (2, .int (nI i))], [.int 0, .int (nI i), .ref 76], gh S a b sc4 ar4 lo, ex, 0, 0)) rfl ?_
        refine to_zasR (i := i) (h' := gh S a b sc4 (uA ar4 76 (upd (ar4 76) i (vp_nar .boolean 0))) lo) rfl rfl (by omega) (by omega) rfl ?_
        have hI6 := ia_76 (g := (upd (ar4 76) i (vp_nar .boolean 0))) hI4
        have hF6 := fr_a (c := 76) (g := (upd (ar4 76) i (vp_nar .boolean 0))) hF4 (by decide)
        refine to_n 1 (fr' := (191, [(0, .ref 49), (1, .int (nI S)), (2, .int (nI i))], [.ref 49], gh S a b sc4 (uA ar4 76 (upd (ar4 76) i (vp_nar .boolean 0))) lo, ex, 0, 0)) rfl ?_
        refine to_get rfl rfl rfl rfl ?_
        refine to_n 2 (fr' := (196, [(0, .ref 49), (1, .int (nI S)), (2, .int (nI i))], [.ref 49, .int (nI i), .ref 55], gh S a b sc4 (uA ar4 76 (upd (ar4 76) i (vp_nar .boolean 0))) lo, ex, 0, 0)) rfl ?_
        refine to_get rfl rfl rfl rfl ?_
        refine to_n 1 (fr' := (200, [(0, .ref 49), (1, .int (nI S)), (2, .int (nI i))], [.int (nI i), .ref 75, .int (nI i), .ref 55], gh S a b sc4 (uA ar4 76 (upd (ar4 76) i (vp_nar .boolean 0))) lo, ex, 0, 0)) rfl ?_
        refine to_ialR (i := i) (v := (((uA ar4 76 (upd (ar4 76) i (vp_nar .boolean 0))) 75) i)) rfl (by decide) rfl (by omega) (by omega) rfl ?_
        refine to_iasR (i := i) (h' := gh S a b sc4 (uA (uA ar4 76 (upd (ar4 76) i (vp_nar .boolean 0))) 55 (upd ((uA ar4 76 (upd (ar4 76) i (vp_nar .boolean 0))) 55) i (((uA ar4 76 (upd (ar4 76) i (vp_nar .boolean 0))) 75) i))) lo) rfl rfl (by omega) (by omega) rfl ?_
        have hI7 := ia_55 (g := (upd ((uA ar4 76 (upd (ar4 76) i (vp_nar .boolean 0))) 55) i (((uA ar4 76 (upd (ar4 76) i (vp_nar .boolean 0))) 75) i))) hI6
        have hF7 := fr_a (c := 55) (g := (upd ((uA ar4 76 (upd (ar4 76) i (vp_nar .boolean 0))) 55) i (((uA ar4 76 (upd (ar4 76) i (vp_nar .boolean 0))) 75) i))) hF6 (by decide)
        refine to_n 1 (fr' := (205, [(0, .ref 49), (1, .int (nI S)), (2, .int ((nI i) + 1))], [], gh S a b sc4 (uA (uA ar4 76 (upd (ar4 76) i (vp_nar .boolean 0))) 55 (upd ((uA ar4 76 (upd (ar4 76) i (vp_nar .boolean 0))) 55) i (((uA ar4 76 (upd (ar4 76) i (vp_nar .boolean 0))) 75) i))) lo, ex, 0, 0)) rfl ?_
        rw [nI_1 i]
        refine to_n 1 (fr' := (155, [(0, .ref 49), (1, .int (nI S)), (2, .int (nI (i + 1)))], [], gh S a b sc4 (uA (uA ar4 76 (upd (ar4 76) i (vp_nar .boolean 0))) 55 (upd ((uA ar4 76 (upd (ar4 76) i (vp_nar .boolean 0))) 55) i (((uA ar4 76 (upd (ar4 76) i (vp_nar .boolean 0))) 75) i))) lo, ex, 0, 0)) rfl ?_
        exact ih (i + 1) sc4 (uA (uA ar4 76 (upd (ar4 76) i (vp_nar .boolean 0))) 55 (upd ((uA ar4 76 (upd (ar4 76) i (vp_nar .boolean 0))) 55) i (((uA ar4 76 (upd (ar4 76) i (vp_nar .boolean 0))) 75) i))) (by omega) hc155_0 (zpw_u hc155_1 (hc155_0 i (by omega))) hc155_2 (zal_u (P := fun j x => x = zbI (zbr S a b (sc 4905) (ar 51) (ar 55)) j) hc155_3 (zbI_n (zbg_n (fun w => q5 ((congrFun hc155_2 i).trans w.1))))) hI7 hF7
      · refine to_n 1 (fr' := (175, [(0, .ref 49), (1, .int (nI S)), (2, .int (nI i))], [.ref 49, .int (nI i), .ref 76], gh S a b sc4 ar4 lo, ex, 0, 0)) rfl ?_
        refine to_get rfl rfl rfl rfl ?_
        refine to_n 1 (fr' := (179, [(0, .ref 49), (1, .int (nI S)), (2, .int (nI i))], [.int (nI i), .ref 75, .int (nI i), .ref 76], gh S a b sc4 ar4 lo, ex, 0, 0)) rfl ?_
        refine to_ialR (i := i) (v := ((ar4 75) i)) rfl (by decide) rfl (by omega) (by omega) rfl ?_
        refine to_n 1 (fr' := (181, [(0, .ref 49), (1, .int (nI S)), (2, .int (nI i))], [.int 5, .int ((ar4 75) i), .int (nI i), .ref 76], gh S a b sc4 ar4 lo, ex, 0, 0)) rfl ?_
        refine to_ic_lt (t := 188) rfl (fun q8 => ?_) (fun q8 => ?_)
        · refine to_n 1 (fr' := (189, [(0, .ref 49), (1, .int (nI S)), (2, .int (nI i))], [.int 0, .int (nI i), .ref 76], gh S a b sc4 ar4 lo, ex, 0, 0)) rfl ?_
          refine to_zasR (i := i) (h' := gh S a b sc4 (uA ar4 76 (upd (ar4 76) i (vp_nar .boolean 0))) lo) rfl rfl (by omega) (by omega) rfl ?_
          have hI9 := ia_76 (g := (upd (ar4 76) i (vp_nar .boolean 0))) hI4
          have hF9 := fr_a (c := 76) (g := (upd (ar4 76) i (vp_nar .boolean 0))) hF4 (by decide)
          refine to_n 1 (fr' := (191, [(0, .ref 49), (1, .int (nI S)), (2, .int (nI i))], [.ref 49], gh S a b sc4 (uA ar4 76 (upd (ar4 76) i (vp_nar .boolean 0))) lo, ex, 0, 0)) rfl ?_
          refine to_get rfl rfl rfl rfl ?_
          refine to_n 2 (fr' := (196, [(0, .ref 49), (1, .int (nI S)), (2, .int (nI i))], [.ref 49, .int (nI i), .ref 55], gh S a b sc4 (uA ar4 76 (upd (ar4 76) i (vp_nar .boolean 0))) lo, ex, 0, 0)) rfl ?_
          refine to_get rfl rfl rfl rfl ?_
          refine to_n 1 (fr' := (200, [(0, .ref 49), (1, .int (nI S)), (2, .int (nI i))], [.int (nI i), .ref 75, .int (nI i), .ref 55], gh S a b sc4 (uA ar4 76 (upd (ar4 76) i (vp_nar .boolean 0))) lo, ex, 0, 0)) rfl ?_
          refine to_ialR (i := i) (v := (((uA ar4 76 (upd (ar4 76) i (vp_nar .boolean 0))) 75) i)) rfl (by decide) rfl (by omega) (by omega) rfl ?_
          refine to_iasR (i := i) (h' := gh S a b sc4 (uA (uA ar4 76 (upd (ar4 76) i (vp_nar .boolean 0))) 55 (upd ((uA ar4 76 (upd (ar4 76) i (vp_nar .boolean 0))) 55) i (((uA ar4 76 (upd (ar4 76) i (vp_nar .boolean 0))) 75) i))) lo) rfl rfl (by omega) (by omega) rfl ?_
          have hI10 := ia_55 (g := (upd ((uA ar4 76 (upd (ar4 76) i (vp_nar .boolean 0))) 55) i (((uA ar4 76 (upd (ar4 76) i (vp_nar .boolean 0))) 75) i))) hI9
          have hF10 := fr_a (c := 55) (g := (upd ((uA ar4 76 (upd (ar4 76) i (vp_nar .boolean 0))) 55) i (((uA ar4 76 (upd (ar4 76) i (vp_nar .boolean 0))) 75) i))) hF9 (by decide)
          refine to_n 1 (fr' := (205, [(0, .ref 49), (1, .int (nI S)), (2, .int ((nI i) + 1))], [], gh S a b sc4 (uA (uA ar4 76 (upd (ar4 76) i (vp_nar .boolean 0))) 55 (upd ((uA ar4 76 (upd (ar4 76) i (vp_nar .boolean 0))) 55) i (((uA ar4 76 (upd (ar4 76) i (vp_nar .boolean 0))) 75) i))) lo, ex, 0, 0)) rfl ?_
          rw [nI_1 i]
          refine to_n 1 (fr' := (155, [(0, .ref 49), (1, .int (nI S)), (2, .int (nI (i + 1)))], [], gh S a b sc4 (uA (uA ar4 76 (upd (ar4 76) i (vp_nar .boolean 0))) 55 (upd ((uA ar4 76 (upd (ar4 76) i (vp_nar .boolean 0))) 55) i (((uA ar4 76 (upd (ar4 76) i (vp_nar .boolean 0))) 75) i))) lo, ex, 0, 0)) rfl ?_
          exact ih (i + 1) sc4 (uA (uA ar4 76 (upd (ar4 76) i (vp_nar .boolean 0))) 55 (upd ((uA ar4 76 (upd (ar4 76) i (vp_nar .boolean 0))) 55) i (((uA ar4 76 (upd (ar4 76) i (vp_nar .boolean 0))) 75) i))) (by omega) hc155_0 (zpw_u hc155_1 (hc155_0 i (by omega))) hc155_2 (zal_u (P := fun j x => x = zbI (zbr S a b (sc 4905) (ar 51) (ar 55)) j) hc155_3 (zbI_n (zbg_n (fun w => Int32.not_lt.mpr w.2 (by rw [zwr_at (by omega), ← (hc155_0 i (by omega))]; exact q8))))) hI10 hF10
        · refine to_n 2 (fr' := (189, [(0, .ref 49), (1, .int (nI S)), (2, .int (nI i))], [.int 1, .int (nI i), .ref 76], gh S a b sc4 ar4 lo, ex, 0, 0)) rfl ?_
          refine to_zasR (i := i) (h' := gh S a b sc4 (uA ar4 76 (upd (ar4 76) i (vp_nar .boolean 1))) lo) rfl rfl (by omega) (by omega) rfl ?_
          have hI11 := ia_76 (g := (upd (ar4 76) i (vp_nar .boolean 1))) hI4
          have hF11 := fr_a (c := 76) (g := (upd (ar4 76) i (vp_nar .boolean 1))) hF4 (by decide)
          refine to_n 1 (fr' := (191, [(0, .ref 49), (1, .int (nI S)), (2, .int (nI i))], [.ref 49], gh S a b sc4 (uA ar4 76 (upd (ar4 76) i (vp_nar .boolean 1))) lo, ex, 0, 0)) rfl ?_
          refine to_get rfl rfl rfl rfl ?_
          refine to_n 2 (fr' := (196, [(0, .ref 49), (1, .int (nI S)), (2, .int (nI i))], [.ref 49, .int (nI i), .ref 55], gh S a b sc4 (uA ar4 76 (upd (ar4 76) i (vp_nar .boolean 1))) lo, ex, 0, 0)) rfl ?_
          refine to_get rfl rfl rfl rfl ?_
          refine to_n 1 (fr' := (200, [(0, .ref 49), (1, .int (nI S)), (2, .int (nI i))], [.int (nI i), .ref 75, .int (nI i), .ref 55], gh S a b sc4 (uA ar4 76 (upd (ar4 76) i (vp_nar .boolean 1))) lo, ex, 0, 0)) rfl ?_
          refine to_ialR (i := i) (v := (((uA ar4 76 (upd (ar4 76) i (vp_nar .boolean 1))) 75) i)) rfl (by decide) rfl (by omega) (by omega) rfl ?_
          refine to_iasR (i := i) (h' := gh S a b sc4 (uA (uA ar4 76 (upd (ar4 76) i (vp_nar .boolean 1))) 55 (upd ((uA ar4 76 (upd (ar4 76) i (vp_nar .boolean 1))) 55) i (((uA ar4 76 (upd (ar4 76) i (vp_nar .boolean 1))) 75) i))) lo) rfl rfl (by omega) (by omega) rfl ?_
          have hI12 := ia_55 (g := (upd ((uA ar4 76 (upd (ar4 76) i (vp_nar .boolean 1))) 55) i (((uA ar4 76 (upd (ar4 76) i (vp_nar .boolean 1))) 75) i))) hI11
          have hF12 := fr_a (c := 55) (g := (upd ((uA ar4 76 (upd (ar4 76) i (vp_nar .boolean 1))) 55) i (((uA ar4 76 (upd (ar4 76) i (vp_nar .boolean 1))) 75) i))) hF11 (by decide)
          refine to_n 1 (fr' := (205, [(0, .ref 49), (1, .int (nI S)), (2, .int ((nI i) + 1))], [], gh S a b sc4 (uA (uA ar4 76 (upd (ar4 76) i (vp_nar .boolean 1))) 55 (upd ((uA ar4 76 (upd (ar4 76) i (vp_nar .boolean 1))) 55) i (((uA ar4 76 (upd (ar4 76) i (vp_nar .boolean 1))) 75) i))) lo, ex, 0, 0)) rfl ?_
          rw [nI_1 i]
          refine to_n 1 (fr' := (155, [(0, .ref 49), (1, .int (nI S)), (2, .int (nI (i + 1)))], [], gh S a b sc4 (uA (uA ar4 76 (upd (ar4 76) i (vp_nar .boolean 1))) 55 (upd ((uA ar4 76 (upd (ar4 76) i (vp_nar .boolean 1))) 55) i (((uA ar4 76 (upd (ar4 76) i (vp_nar .boolean 1))) 75) i))) lo, ex, 0, 0)) rfl ?_
          exact ih (i + 1) sc4 (uA (uA ar4 76 (upd (ar4 76) i (vp_nar .boolean 1))) 55 (upd ((uA ar4 76 (upd (ar4 76) i (vp_nar .boolean 1))) 55) i (((uA ar4 76 (upd (ar4 76) i (vp_nar .boolean 1))) 75) i))) (by omega) hc155_0 (zpw_u hc155_1 (hc155_0 i (by omega))) hc155_2 (zal_u (P := fun j x => x = zbI (zbr S a b (sc 4905) (ar 51) (ar 55)) j) hc155_3 (zbI_y (zbg_y ⟨(congrFun hc155_2 i).symm.trans q5, by rw [zwr_at (by omega), ← (hc155_0 i (by omega))]; exact Int32.not_lt.mp q8⟩))) hI12 hF12
  have c12 : ∀ m : Nat, ∀ (i : Nat) (sc13 : Nat → Int32) (ar13 : Nat → Nat → Int32), i + m = S → (∀ j : Nat, j < i → ar13 75 j = zwm S a b (sc 4905) (ar 51) (ar 55) j) → ar13 55 = ar 55 → ar13 51 = ar 51 → Iv S sc13 ar13 → Fr [] [51, 55, 75, 76] sc ar sc13 ar13 → ag_To X (d + 1) an_X10_warm (12, [(0, .ref 49), (1, .int (nI S)), (2, .int (nI i))], [], gh S a b sc13 ar13 lo, ex, 0, 0) (qv S a b lo ex (fun sc' ar' => Iv S sc' ar' ∧ Fr [] [51, 55, 75, 76] sc ar sc' ar' ∧ (ar' 55 = zwr S a b (sc 4905) (ar 51) (ar 55) ∧ ar' 51 = zsr S a b (sc 4905) (ar 51) (ar 55) ∧ ∀ j : Nat, j < S → ar' 76 j = zbI (zbr S a b (sc 4905) (ar 51) (ar 55)) j))) := by
    intro m
    induction m with
    | zero =>
      intro i sc13 ar13 hm hc12_0 hc12_1 hc12_2 hI13 hF13
      refine to_n 2 (fr' := (14, [(0, .ref 49), (1, .int (nI S)), (2, .int (nI i))], [.int (nI S), .int (nI i)], gh S a b sc13 ar13 lo, ex, 0, 0)) rfl ?_
      refine to_nc_ge_T (t := 153) (x := i) (y := S) rfl (by omega) (by omega) (by omega) ?_
      refine to_n 2 (fr' := (155, [(0, .ref 49), (1, .int (nI S)), (2, .int 0)], [], gh S a b sc13 ar13 lo, ex, 0, 0)) rfl ?_
      exact c155 (S - 0) 0 sc13 ar13 (by omega) (by have e9 : i = S := (by omega); rw [e9] at hc12_0; exact hc12_0) (by rw [hc12_1]; exact zpw_0) hc12_2 (fun j hj => absurd hj (Nat.not_lt_zero _)) hI13 hF13
    | succ m ih =>
      intro i sc13 ar13 hm hc12_0 hc12_1 hc12_2 hI13 hF13
      have c147 : ∀  (sc14 : Nat → Int32) (ar14 : Nat → Nat → Int32), (∀ j : Nat, j < (i + 1) → ar14 75 j = zwm S a b (sc 4905) (ar 51) (ar 55) j) → ar14 55 = ar 55 → ar14 51 = ar 51 → Iv S sc14 ar14 → Fr [] [51, 55, 75, 76] sc ar sc14 ar14 → ag_To X (d + 1) an_X10_warm (147, [(0, .ref 49), (1, .int (nI S)), (2, .int (nI i))], [], gh S a b sc14 ar14 lo, ex, 0, 0) (qv S a b lo ex (fun sc' ar' => Iv S sc' ar' ∧ Fr [] [51, 55, 75, 76] sc ar sc' ar' ∧ (ar' 55 = zwr S a b (sc 4905) (ar 51) (ar 55) ∧ ar' 51 = zsr S a b (sc 4905) (ar 51) (ar 55) ∧ ∀ j : Nat, j < S → ar' 76 j = zbI (zbr S a b (sc 4905) (ar 51) (ar 55)) j))) := by
        intro sc14 ar14 hc147_0 hc147_1 hc147_2 hI14 hF14
        refine to_n 1 (fr' := (150, [(0, .ref 49), (1, .int (nI S)), (2, .int ((nI i) + 1))], [], gh S a b sc14 ar14 lo, ex, 0, 0)) rfl ?_
        rw [nI_1 i]
        refine to_n 1 (fr' := (12, [(0, .ref 49), (1, .int (nI S)), (2, .int (nI (i + 1)))], [], gh S a b sc14 ar14 lo, ex, 0, 0)) rfl ?_
        exact ih (i + 1) sc14 ar14 (by omega) hc147_0 hc147_1 hc147_2 hI14 hF14
      have c43 : ∀ m : Nat, ∀ (w : Nat) (sc15 : Nat → Int32) (ar15 : Nat → Nat → Int32), w + m = 4 → (∀ j : Nat, j < i → ar15 75 j = zwm S a b (sc 4905) (ar 51) (ar 55) j) → ar15 75 i = ar 55 i + zhr S a b (sc 4905) (ar 51) i w → ar15 55 = ar 55 → ar15 51 = ar 51 → ar 51 i = 0 → Iv S sc15 ar15 → Fr [] [51, 55, 75, 76] sc ar sc15 ar15 → ag_To X (d + 1) an_X10_warm (43, [(0, .ref 49), (1, .int (nI S)), (2, .int (nI i)), (3, .int (nI w))], [], gh S a b sc15 ar15 lo, ex, 0, 0) (qv S a b lo ex (fun sc' ar' => Iv S sc' ar' ∧ Fr [] [51, 55, 75, 76] sc ar sc' ar' ∧ (ar' 55 = zwr S a b (sc 4905) (ar 51) (ar 55) ∧ ar' 51 = zsr S a b (sc 4905) (ar 51) (ar 55) ∧ ∀ j : Nat, j < S → ar' 76 j = zbI (zbr S a b (sc 4905) (ar 51) (ar 55)) j))) := by
        intro m
        induction m with
        | zero =>
          intro w sc15 ar15 hm hc43_0 hc43_1 hc43_2 hc43_3 hc43_4 hI15 hF15
          refine to_n 2 (fr' := (45, [(0, .ref 49), (1, .int (nI S)), (2, .int (nI i)), (3, .int (nI w))], [.int 4, .int (nI w)], gh S a b sc15 ar15 lo, ex, 0, 0)) rfl ?_
          refine to_nc_ge_T (t := 129) (x := w) (y := 4) rfl (by omega) (by omega) (by omega) ?_
          refine to_n 1 (fr' := (130, [(0, .ref 49), (1, .int (nI S)), (2, .int (nI i)), (3, .int (nI w))], [.ref 49], gh S a b sc15 ar15 lo, ex, 0, 0)) rfl ?_
          refine to_get rfl rfl rfl rfl ?_
          refine to_n 3 (fr' := (136, [(0, .ref 49), (1, .int (nI S)), (2, .int (nI i)), (3, .int (nI w))], [.ref 49, .int 0, .int (nI i), .ref 75], gh S a b sc15 ar15 lo, ex, 0, 0)) rfl ?_
          refine to_get rfl rfl rfl rfl ?_
          refine to_n 1 (fr' := (140, [(0, .ref 49), (1, .int (nI S)), (2, .int (nI i)), (3, .int (nI w))], [.int (nI i), .ref 75, .int 0, .int (nI i), .ref 75], gh S a b sc15 ar15 lo, ex, 0, 0)) rfl ?_
          refine to_ialR (i := i) (v := ((ar15 75) i)) rfl (by decide) rfl (by omega) (by omega) rfl ?_
          refine to_n 3 (fr' := (146, [(0, .ref 49), (1, .int (nI S)), (2, .int (nI i)), (3, .int (nI w))], [.int (if 0 < (((ar15 75) i) - 1) then (((ar15 75) i) - 1) else 0), .int (nI i), .ref 75], gh S a b sc15 ar15 lo, ex, 0, 0)) rfl ?_
          refine to_iasR (i := i) (h' := gh S a b sc15 (uA ar15 75 (upd (ar15 75) i (if 0 < (((ar15 75) i) - 1) then (((ar15 75) i) - 1) else 0))) lo) rfl rfl (by omega) (by omega) rfl ?_
          have hI16 := ia_75 (g := (upd (ar15 75) i (if 0 < (((ar15 75) i) - 1) then (((ar15 75) i) - 1) else 0))) hI15
          have hF16 := fr_a (c := 75) (g := (upd (ar15 75) i (if 0 < (((ar15 75) i) - 1) then (((ar15 75) i) - 1) else 0))) hF15 (by decide)
          refine to_lv (lv := [(0, .ref 49), (1, .int (nI S)), (2, .int (nI i))]) rfl ⟨rfl, rfl, rfl, trivial⟩ ?_
          exact c147 sc15 (uA ar15 75 (upd (ar15 75) i (if 0 < (((ar15 75) i) - 1) then (((ar15 75) i) - 1) else 0))) (zal_u (P := fun j x => x = zwm S a b (sc 4905) (ar 51) (ar 55) j) hc43_0 (zwm_y hc43_4 (by have e9 : w = 4 := (by omega); rw [e9] at hc43_1; exact hc43_1))) hc43_2 hc43_3 hI16 hF16
        | succ m ih =>
          intro w sc15 ar15 hm hc43_0 hc43_1 hc43_2 hc43_3 hc43_4 hI15 hF15
          have c123 : ∀  (sc17 : Nat → Int32) (ar17 : Nat → Nat → Int32), (∀ j : Nat, j < i → ar17 75 j = zwm S a b (sc 4905) (ar 51) (ar 55) j) → ar17 75 i = ar 55 i + zhr S a b (sc 4905) (ar 51) i (w + 1) → ar17 55 = ar 55 → ar17 51 = ar 51 → Iv S sc17 ar17 → Fr [] [51, 55, 75, 76] sc ar sc17 ar17 → ag_To X (d + 1) an_X10_warm (123, [(0, .ref 49), (1, .int (nI S)), (2, .int (nI i)), (3, .int (nI w))], [], gh S a b sc17 ar17 lo, ex, 0, 0) (qv S a b lo ex (fun sc' ar' => Iv S sc' ar' ∧ Fr [] [51, 55, 75, 76] sc ar sc' ar' ∧ (ar' 55 = zwr S a b (sc 4905) (ar 51) (ar 55) ∧ ar' 51 = zsr S a b (sc 4905) (ar 51) (ar 55) ∧ ∀ j : Nat, j < S → ar' 76 j = zbI (zbr S a b (sc 4905) (ar 51) (ar 55)) j))) := by
            intro sc17 ar17 hc123_0 hc123_1 hc123_2 hc123_3 hI17 hF17
            refine to_n 1 (fr' := (126, [(0, .ref 49), (1, .int (nI S)), (2, .int (nI i)), (3, .int ((nI w) + 1))], [], gh S a b sc17 ar17 lo, ex, 0, 0)) rfl ?_
            rw [nI_1 w]
            refine to_n 1 (fr' := (43, [(0, .ref 49), (1, .int (nI S)), (2, .int (nI i)), (3, .int (nI (w + 1)))], [], gh S a b sc17 ar17 lo, ex, 0, 0)) rfl ?_
            exact ih (w + 1) sc17 ar17 (by omega) hc123_0 hc123_1 hc123_2 hc123_3 hc43_4 hI17 hF17
          refine to_n 2 (fr' := (45, [(0, .ref 49), (1, .int (nI S)), (2, .int (nI i)), (3, .int (nI w))], [.int 4, .int (nI w)], gh S a b sc15 ar15 lo, ex, 0, 0)) rfl ?_
          refine to_nc_ge_F (t := 129) (x := w) (y := 4) rfl (by omega) (by omega) (by omega) ?_
          refine to_n 3 (fr' := (51, [(0, .ref 49), (1, .int (nI S)), (2, .int (nI i)), (3, .int (nI w))], [.int (nI w), .int (nI i), .ref 49], gh S a b sc15 ar15 lo, ex, 0, 0)) rfl ?_
          refine to_cp (q := 112) (M1 := an_X10_beside) (rest := []) rfl rfl (by decide) rfl ⟨_, rfl⟩ (sf_X10_beside hW hI15 i (by omega) w (by omega) d) (fun x18 hx18 => ?_)
          obtain ⟨hx18, hp18⟩ := hx18
          rcases hx18 with rfl | ⟨n18, hn18, rfl⟩
          · refine to_eq (fr' := (54, [(0, .ref 49), (1, .int (nI S)), (2, .int (nI i)), (3, .int (nI w))], [.int (-1)], gh S a b sc15 ar15 lo, ex, 0, 0)) rfl ?_
            refine to_n 4 (fr' := (123, [(0, .ref 49), (1, .int (nI S)), (2, .int (nI i)), (3, .int (nI w)), (4, .int (-1))], [], gh S a b sc15 ar15 lo, ex, 0, 0)) rfl ?_
            refine to_lv (lv := [(0, .ref 49), (1, .int (nI S)), (2, .int (nI i)), (3, .int (nI w))]) rfl ⟨rfl, rfl, rfl, rfl, trivial⟩ ?_
            exact c123 sc15 ar15 hc43_0 (zhr_n hc43_1 (zbu_m hS hp18)) hc43_2 hc43_3 hI15 hF15
          · refine to_eq (fr' := (54, [(0, .ref 49), (1, .int (nI S)), (2, .int (nI i)), (3, .int (nI w))], [.int (nI n18)], gh S a b sc15 ar15 lo, ex, 0, 0)) rfl ?_
            refine to_n 3 (fr' := (59, [(0, .ref 49), (1, .int (nI S)), (2, .int (nI i)), (3, .int (nI w)), (4, .int (nI n18))], [.int (-1), .int (nI n18)], gh S a b sc15 ar15 lo, ex, 0, 0)) rfl ?_
            refine to_ic_eq_F (t := 123) (x := (nI n18)) (y := (-1)) rfl (nI_neg (by omega) (by decide)) ?_
            refine to_n 1 (fr' := (63, [(0, .ref 49), (1, .int (nI S)), (2, .int (nI i)), (3, .int (nI w)), (4, .int (nI n18))], [.ref 49], gh S a b sc15 ar15 lo, ex, 0, 0)) rfl ?_
            refine to_get rfl rfl rfl rfl ?_
            refine to_n 1 (fr' := (68, [(0, .ref 49), (1, .int (nI S)), (2, .int (nI i)), (3, .int (nI w)), (4, .int (nI n18))], [.int (nI n18), .ref 51], gh S a b sc15 ar15 lo, ex, 0, 0)) rfl ?_
            refine to_ialR (i := n18) (v := ((ar15 51) n18)) rfl (by decide) rfl (by omega) (by omega) rfl ?_
            refine to_n 1 (fr' := (70, [(0, .ref 49), (1, .int (nI S)), (2, .int (nI i)), (3, .int (nI w)), (4, .int (nI n18))], [.int 1, .int ((ar15 51) n18)], gh S a b sc15 ar15 lo, ex, 0, 0)) rfl ?_
            refine to_ic_eq (t := 76) rfl (fun q19 => ?_) (fun q19 => ?_)
            · refine to_n 1 (fr' := (77, [(0, .ref 49), (1, .int (nI S)), (2, .int (nI i)), (3, .int (nI w)), (4, .int (nI n18))], [.ref 49], gh S a b sc15 ar15 lo, ex, 0, 0)) rfl ?_
              refine to_get rfl rfl rfl rfl ?_
              refine to_n 2 (fr' := (82, [(0, .ref 49), (1, .int (nI S)), (2, .int (nI i)), (3, .int (nI w)), (4, .int (nI n18))], [.int (nI i), .ref 75, .int (nI i), .ref 75], gh S a b sc15 ar15 lo, ex, 0, 0)) rfl ?_
              refine to_ialR (i := i) (v := ((ar15 75) i)) rfl (by decide) rfl (by omega) (by omega) rfl ?_
              refine to_n 2 (fr' := (85, [(0, .ref 49), (1, .int (nI S)), (2, .int (nI i)), (3, .int (nI w)), (4, .int (nI n18))], [.int (((ar15 75) i) + 2), .int (nI i), .ref 75], gh S a b sc15 ar15 lo, ex, 0, 0)) rfl ?_
              refine to_iasR (i := i) (h' := gh S a b sc15 (uA ar15 75 (upd (ar15 75) i (((ar15 75) i) + 2))) lo) rfl rfl (by omega) (by omega) rfl ?_
              have hI20 := ia_75 (g := (upd (ar15 75) i (((ar15 75) i) + 2))) hI15
              have hF20 := fr_a (c := 75) (g := (upd (ar15 75) i (((ar15 75) i) + 2))) hF15 (by decide)
              refine to_n 2 (fr' := (88, [(0, .ref 49), (1, .int (nI S)), (2, .int (nI i)), (3, .int (nI w)), (4, .int (nI n18))], [.int 2, .int (nI w)], gh S a b sc15 (uA ar15 75 (upd (ar15 75) i (((ar15 75) i) + 2))) lo, ex, 0, 0)) rfl ?_
              refine to_nc_ge (t := 97) (x := w) (y := 2) rfl (by omega) (by omega) (fun q21 => ?_) (fun q21 => ?_)
              · refine to_n 2 (fr' := (99, [(0, .ref 49), (1, .int (nI S)), (2, .int (nI i)), (3, .int (nI w)), (4, .int (nI n18))], [.int 2, .int (nI w)], gh S a b sc15 (uA ar15 75 (upd (ar15 75) i (((ar15 75) i) + 2))) lo, ex, 0, 0)) rfl ?_
                refine to_subN (x := w) (y := 2) rfl (by omega) ?_
                refine to_n 2 (fr' := (103, [(0, .ref 49), (1, .int (nI S)), (2, .int (nI i)), (3, .int (nI w)), (4, .int (nI n18)), (5, .int (nI (w - 2)))], [.ref 49], gh S a b sc15 (uA ar15 75 (upd (ar15 75) i (((ar15 75) i) + 2))) lo, ex, 0, 0)) rfl ?_
                refine to_getR (v := (sc 4905)) rfl rfl rfl rfl (hF20.1 4905 (by decide)) ?_
                refine to_n 2 (fr' := (109, [(0, .ref 49), (1, .int (nI S)), (2, .int (nI i)), (3, .int (nI w)), (4, .int (nI n18)), (5, .int (nI (w - 2)))], [.int 1, .int (nI (w - 2)), .int (sc 4905)], gh S a b sc15 (uA ar15 75 (upd (ar15 75) i (((ar15 75) i) + 2))) lo, ex, 0, 0)) rfl ?_
                refine to_addN (x := (w - 2)) (y := 1) rfl ?_
                refine to_ic_ne (t := 123) rfl (fun q22 => ?_) (fun q22 => ?_)
                · refine to_lv (lv := [(0, .ref 49), (1, .int (nI S)), (2, .int (nI i)), (3, .int (nI w))]) rfl ⟨rfl, rfl, rfl, rfl, trivial⟩ ?_
                  exact c123 sc15 (uA ar15 75 (upd (ar15 75) i (((ar15 75) i) + 2))) (zal_v (P := fun j x => x = zwm S a b (sc 4905) (ar 51) (ar 55) j) hc43_0) ((show (upd (ar15 75) i (((ar15 75) i) + 2)) i = _ from ug_eq).trans (zhr_2 hc43_1 (zbu_e (by omega) hp18 ((congrFun hc43_3 _).symm.trans q19)) (fun e9 => q22 (e9.trans (by rw [zwf_w (by omega), if_neg (by omega)]))))) hc43_2 hc43_3 hI20 hF20
                · refine to_n 1 (fr' := (114, [(0, .ref 49), (1, .int (nI S)), (2, .int (nI i)), (3, .int (nI w)), (4, .int (nI n18)), (5, .int (nI (w - 2)))], [.ref 49], gh S a b sc15 (uA ar15 75 (upd (ar15 75) i (((ar15 75) i) + 2))) lo, ex, 0, 0)) rfl ?_
                  refine to_get rfl rfl rfl rfl ?_
                  refine to_n 2 (fr' := (119, [(0, .ref 49), (1, .int (nI S)), (2, .int (nI i)), (3, .int (nI w)), (4, .int (nI n18)), (5, .int (nI (w - 2)))], [.int (nI i), .ref 75, .int (nI i), .ref 75], gh S a b sc15 (uA ar15 75 (upd (ar15 75) i (((ar15 75) i) + 2))) lo, ex, 0, 0)) rfl ?_
                  refine to_ialR (i := i) (v := ((upd (ar15 75) i (((ar15 75) i) + 2)) i)) rfl (by decide) rfl (by omega) (by omega) rfl ?_
                  refine to_n 2 (fr' := (122, [(0, .ref 49), (1, .int (nI S)), (2, .int (nI i)), (3, .int (nI w)), (4, .int (nI n18)), (5, .int (nI (w - 2)))], [.int (((upd (ar15 75) i (((ar15 75) i) + 2)) i) + 2), .int (nI i), .ref 75], gh S a b sc15 (uA ar15 75 (upd (ar15 75) i (((ar15 75) i) + 2))) lo, ex, 0, 0)) rfl ?_
                  refine to_iasR (i := i) (h' := gh S a b sc15 (uA (uA ar15 75 (upd (ar15 75) i (((ar15 75) i) + 2))) 75 (upd (upd (ar15 75) i (((ar15 75) i) + 2)) i (((upd (ar15 75) i (((ar15 75) i) + 2)) i) + 2))) lo) rfl rfl (by omega) (by omega) rfl ?_
                  have hI23 := ia_75 (g := (upd (upd (ar15 75) i (((ar15 75) i) + 2)) i (((upd (ar15 75) i (((ar15 75) i) + 2)) i) + 2))) hI20
                  have hF23 := fr_a (c := 75) (g := (upd (upd (ar15 75) i (((ar15 75) i) + 2)) i (((upd (ar15 75) i (((ar15 75) i) + 2)) i) + 2))) hF20 (by decide)
                  refine to_lv (lv := [(0, .ref 49), (1, .int (nI S)), (2, .int (nI i)), (3, .int (nI w))]) rfl ⟨rfl, rfl, rfl, rfl, trivial⟩ ?_
                  exact c123 sc15 (uA (uA ar15 75 (upd (ar15 75) i (((ar15 75) i) + 2))) 75 (upd (upd (ar15 75) i (((ar15 75) i) + 2)) i (((upd (ar15 75) i (((ar15 75) i) + 2)) i) + 2))) (zal_v (P := fun j x => x = zwm S a b (sc 4905) (ar 51) (ar 55) j) (zal_v (P := fun j x => x = zwm S a b (sc 4905) (ar 51) (ar 55) j) hc43_0)) ((show (upd (upd (ar15 75) i (((ar15 75) i) + 2)) i (((upd (ar15 75) i (((ar15 75) i) + 2)) i) + 2)) i = _ from ug_eq).trans (by rw [show upd _ i _ i = _ from ug_eq]; exact zhr_4 hc43_1 (zbu_e (by omega) hp18 ((congrFun hc43_3 _).symm.trans q19)) (by rw [zwf_w (by omega), if_neg (by omega)]; exact q22))) hc43_2 hc43_3 hI23 hF23
              · refine to_n 2 (fr' := (93, [(0, .ref 49), (1, .int (nI S)), (2, .int (nI i)), (3, .int (nI w)), (4, .int (nI n18))], [.int 2, .int (nI w)], gh S a b sc15 (uA ar15 75 (upd (ar15 75) i (((ar15 75) i) + 2))) lo, ex, 0, 0)) rfl ?_
                refine to_addN (x := w) (y := 2) rfl ?_
                refine to_n 3 (fr' := (103, [(0, .ref 49), (1, .int (nI S)), (2, .int (nI i)), (3, .int (nI w)), (4, .int (nI n18)), (5, .int (nI (w + 2)))], [.ref 49], gh S a b sc15 (uA ar15 75 (upd (ar15 75) i (((ar15 75) i) + 2))) lo, ex, 0, 0)) rfl ?_
                refine to_getR (v := (sc 4905)) rfl rfl rfl rfl (hF20.1 4905 (by decide)) ?_
                refine to_n 2 (fr' := (109, [(0, .ref 49), (1, .int (nI S)), (2, .int (nI i)), (3, .int (nI w)), (4, .int (nI n18)), (5, .int (nI (w + 2)))], [.int 1, .int (nI (w + 2)), .int (sc 4905)], gh S a b sc15 (uA ar15 75 (upd (ar15 75) i (((ar15 75) i) + 2))) lo, ex, 0, 0)) rfl ?_
                refine to_addN (x := (w + 2)) (y := 1) rfl ?_
                refine to_ic_ne (t := 123) rfl (fun q24 => ?_) (fun q24 => ?_)
                · refine to_lv (lv := [(0, .ref 49), (1, .int (nI S)), (2, .int (nI i)), (3, .int (nI w))]) rfl ⟨rfl, rfl, rfl, rfl, trivial⟩ ?_
                  exact c123 sc15 (uA ar15 75 (upd (ar15 75) i (((ar15 75) i) + 2))) (zal_v (P := fun j x => x = zwm S a b (sc 4905) (ar 51) (ar 55) j) hc43_0) ((show (upd (ar15 75) i (((ar15 75) i) + 2)) i = _ from ug_eq).trans (zhr_2 hc43_1 (zbu_e (by omega) hp18 ((congrFun hc43_3 _).symm.trans q19)) (fun e9 => q24 (e9.trans (by rw [zwf_w (by omega), if_pos (by omega)]))))) hc43_2 hc43_3 hI20 hF20
                · refine to_n 1 (fr' := (114, [(0, .ref 49), (1, .int (nI S)), (2, .int (nI i)), (3, .int (nI w)), (4, .int (nI n18)), (5, .int (nI (w + 2)))], [.ref 49], gh S a b sc15 (uA ar15 75 (upd (ar15 75) i (((ar15 75) i) + 2))) lo, ex, 0, 0)) rfl ?_
                  refine to_get rfl rfl rfl rfl ?_
                  refine to_n 2 (fr' := (119, [(0, .ref 49), (1, .int (nI S)), (2, .int (nI i)), (3, .int (nI w)), (4, .int (nI n18)), (5, .int (nI (w + 2)))], [.int (nI i), .ref 75, .int (nI i), .ref 75], gh S a b sc15 (uA ar15 75 (upd (ar15 75) i (((ar15 75) i) + 2))) lo, ex, 0, 0)) rfl ?_
                  refine to_ialR (i := i) (v := ((upd (ar15 75) i (((ar15 75) i) + 2)) i)) rfl (by decide) rfl (by omega) (by omega) rfl ?_
                  refine to_n 2 (fr' := (122, [(0, .ref 49), (1, .int (nI S)), (2, .int (nI i)), (3, .int (nI w)), (4, .int (nI n18)), (5, .int (nI (w + 2)))], [.int (((upd (ar15 75) i (((ar15 75) i) + 2)) i) + 2), .int (nI i), .ref 75], gh S a b sc15 (uA ar15 75 (upd (ar15 75) i (((ar15 75) i) + 2))) lo, ex, 0, 0)) rfl ?_
                  refine to_iasR (i := i) (h' := gh S a b sc15 (uA (uA ar15 75 (upd (ar15 75) i (((ar15 75) i) + 2))) 75 (upd (upd (ar15 75) i (((ar15 75) i) + 2)) i (((upd (ar15 75) i (((ar15 75) i) + 2)) i) + 2))) lo) rfl rfl (by omega) (by omega) rfl ?_
                  have hI25 := ia_75 (g := (upd (upd (ar15 75) i (((ar15 75) i) + 2)) i (((upd (ar15 75) i (((ar15 75) i) + 2)) i) + 2))) hI20
                  have hF25 := fr_a (c := 75) (g := (upd (upd (ar15 75) i (((ar15 75) i) + 2)) i (((upd (ar15 75) i (((ar15 75) i) + 2)) i) + 2))) hF20 (by decide)
                  refine to_lv (lv := [(0, .ref 49), (1, .int (nI S)), (2, .int (nI i)), (3, .int (nI w))]) rfl ⟨rfl, rfl, rfl, rfl, trivial⟩ ?_
                  exact c123 sc15 (uA (uA ar15 75 (upd (ar15 75) i (((ar15 75) i) + 2))) 75 (upd (upd (ar15 75) i (((ar15 75) i) + 2)) i (((upd (ar15 75) i (((ar15 75) i) + 2)) i) + 2))) (zal_v (P := fun j x => x = zwm S a b (sc 4905) (ar 51) (ar 55) j) (zal_v (P := fun j x => x = zwm S a b (sc 4905) (ar 51) (ar 55) j) hc43_0)) ((show (upd (upd (ar15 75) i (((ar15 75) i) + 2)) i (((upd (ar15 75) i (((ar15 75) i) + 2)) i) + 2)) i = _ from ug_eq).trans (by rw [show upd _ i _ i = _ from ug_eq]; exact zhr_4 hc43_1 (zbu_e (by omega) hp18 ((congrFun hc43_3 _).symm.trans q19)) (by rw [zwf_w (by omega), if_pos (by omega)]; exact q24))) hc43_2 hc43_3 hI25 hF25
            · refine to_n 1 (fr' := (123, [(0, .ref 49), (1, .int (nI S)), (2, .int (nI i)), (3, .int (nI w)), (4, .int (nI n18))], [], gh S a b sc15 ar15 lo, ex, 0, 0)) rfl ?_
              refine to_lv (lv := [(0, .ref 49), (1, .int (nI S)), (2, .int (nI i)), (3, .int (nI w))]) rfl ⟨rfl, rfl, rfl, rfl, trivial⟩ ?_
              exact c123 sc15 ar15 hc43_0 (zhr_n hc43_1 (zbu_f hS (by omega) hp18 (fun w => q19 ((congrFun hc43_3 _).trans w)))) hc43_2 hc43_3 hI15 hF15
      refine to_n 2 (fr' := (14, [(0, .ref 49), (1, .int (nI S)), (2, .int (nI i))], [.int (nI S), .int (nI i)], gh S a b sc13 ar13 lo, ex, 0, 0)) rfl ?_
      refine to_nc_ge_F (t := 153) (x := i) (y := S) rfl (by omega) (by omega) (by omega) ?_
      refine to_n 1 (fr' := (18, [(0, .ref 49), (1, .int (nI S)), (2, .int (nI i))], [.ref 49], gh S a b sc13 ar13 lo, ex, 0, 0)) rfl ?_
      refine to_get rfl rfl rfl rfl ?_
      refine to_n 2 (fr' := (23, [(0, .ref 49), (1, .int (nI S)), (2, .int (nI i))], [.ref 49, .int (nI i), .ref 75], gh S a b sc13 ar13 lo, ex, 0, 0)) rfl ?_
      refine to_get rfl rfl rfl rfl ?_
      refine to_n 1 (fr' := (27, [(0, .ref 49), (1, .int (nI S)), (2, .int (nI i))], [.int (nI i), .ref 55, .int (nI i), .ref 75], gh S a b sc13 ar13 lo, ex, 0, 0)) rfl ?_
      refine to_ialR (i := i) (v := ((ar13 55) i)) rfl (by decide) rfl (by omega) (by omega) rfl ?_
      refine to_iasR (i := i) (h' := gh S a b sc13 (uA ar13 75 (upd (ar13 75) i ((ar13 55) i))) lo) rfl rfl (by omega) (by omega) rfl ?_
      have hI26 := ia_75 (g := (upd (ar13 75) i ((ar13 55) i))) hI13
      have hF26 := fr_a (c := 75) (g := (upd (ar13 75) i ((ar13 55) i))) hF13 (by decide)
      refine to_n 1 (fr' := (30, [(0, .ref 49), (1, .int (nI S)), (2, .int (nI i))], [.ref 49], gh S a b sc13 (uA ar13 75 (upd (ar13 75) i ((ar13 55) i))) lo, ex, 0, 0)) rfl ?_
      refine to_get rfl rfl rfl rfl ?_
      refine to_n 1 (fr' := (34, [(0, .ref 49), (1, .int (nI S)), (2, .int (nI i))], [.int (nI i), .ref 51], gh S a b sc13 (uA ar13 75 (upd (ar13 75) i ((ar13 55) i))) lo, ex, 0, 0)) rfl ?_
      refine to_ialR (i := i) (v := (((uA ar13 75 (upd (ar13 75) i ((ar13 55) i))) 51) i)) rfl (by decide) rfl (by omega) (by omega) rfl ?_
      refine to_if_eq (t := 41) rfl (fun q27 => ?_) (fun q27 => ?_)
      · refine to_n 2 (fr' := (43, [(0, .ref 49), (1, .int (nI S)), (2, .int (nI i)), (3, .int 0)], [], gh S a b sc13 (uA ar13 75 (upd (ar13 75) i ((ar13 55) i))) lo, ex, 0, 0)) rfl ?_
        exact c43 (4 - 0) 0 sc13 (uA ar13 75 (upd (ar13 75) i ((ar13 55) i))) (by omega) (zal_v (P := fun j x => x = zwm S a b (sc 4905) (ar 51) (ar 55) j) hc12_0) ((show (upd (ar13 75) i ((ar13 55) i)) i = _ from ug_eq).trans (by rw [congrFun hc12_1 i]; exact (Int32.add_zero _).symm)) hc12_1 hc12_2 ((congrFun hc12_2 i).symm.trans q27) hI26 hF26
      · refine to_n 1 (fr' := (147, [(0, .ref 49), (1, .int (nI S)), (2, .int (nI i))], [], gh S a b sc13 (uA ar13 75 (upd (ar13 75) i ((ar13 55) i))) lo, ex, 0, 0)) rfl ?_
        exact c147 sc13 (uA ar13 75 (upd (ar13 75) i ((ar13 55) i))) (zal_u (P := fun j x => x = zwm S a b (sc 4905) (ar 51) (ar 55) j) hc12_0 ((congrFun hc12_1 i).trans (zwm_n (fun w => q27 ((congrFun hc12_2 i).trans w))))) hc12_1 hc12_2 hI26 hF26
  refine to_n 1 (fr' := (1, [(0, .ref 49)], [.ref 49], gh S a b sc ar lo, ex, 0, 0)) rfl ?_
  refine to_get rfl rfl rfl rfl ?_
  refine to_n 1 (fr' := (5, [(0, .ref 49)], [.ref 49, .int (nI a)], gh S a b sc ar lo, ex, 0, 0)) rfl ?_
  refine to_get rfl rfl rfl rfl ?_
  refine to_mulN (x := a) (y := b) rfl ?_
  rw [hab]
  refine to_n 3 (fr' := (12, [(0, .ref 49), (1, .int (nI S)), (2, .int 0)], [], gh S a b sc ar lo, ex, 0, 0)) rfl ?_
  exact c12 (S - 0) 0 sc ar (by omega) (fun j hj => absurd hj (Nat.not_lt_zero _)) rfl rfl hI hF
set_option maxRecDepth 20000 in
theorem sf_X10_isWord {X : Nat × (Nat → Int32)} {S a b : Nat} {sc : Nat → Int32} {ar : Nat → Nat → Int32} {lo : Nat → Int64} {ex : Bool} (hW : Wd S a b) (hI : Iv S sc ar) (i : Nat) (hi : i < 35) (d : Nat)  : cp X S a b (d + 1) 123 [.ref 49, .ref (1000001 + i)] sc ar lo ex (fun x => rl x 2 ∧ (x = 0 ∨ sc 4937 = 1)) := by
  obtain ⟨ha1, ha8, hb1, hb8, hab, hS1, hS⟩ := id hW
  have hlen := vs_txl i hi
  obtain ⟨p, hp, ep⟩ := iv_s4939 hI
  refine cp_of (M := an_X10_isWord) rfl (Nat.le_of_ble_eq_true rfl) ?_
  refine to_eq (fr' := (0, [(0, .ref 49), (1, .ref (1000001 + i))], [], gh S a b sc ar lo, ex, 0, 0)) rfl ?_
  have c32 : ∀ m : Nat, ∀ (n : Nat) (j : Nat) , (ai_tx i).length ≤ j + m → n < 2 → n = 0 ∨ p + (ai_tx i).length ≤ 400 → n = 0 ∨ sc 4937 = 1 → j ≤ (ai_tx i).length → ag_To X d an_X10_isWord (32, [(0, .ref 49), (1, .ref (1000001 + i)), (2, .int (nI n)), (3, .int (nI j))], [], gh S a b sc ar lo, ex, 0, 0) (qp S a b sc ar lo ex (fun x => rl x 2 ∧ (x = 0 ∨ sc 4937 = 1))) := by
    intro m
    induction m with
    | zero =>
      intro n j hm hc32_0 hc32_1 hc32_2 hc32_3
      refine to_n 1 (fr' := (33, [(0, .ref 49), (1, .ref (1000001 + i)), (2, .int (nI n)), (3, .int (nI j))], [.int (nI n)], gh S a b sc ar lo, ex, 0, 0)) rfl ?_
      refine to_nf_eq (t := 75) (x := n) rfl (by omega) (fun q2 => ?_) (fun q2 => ?_)
      · refine to_n 1 (fr' := (76, [(0, .ref 49), (1, .ref (1000001 + i)), (2, .int (nI n)), (3, .int (nI j))], [.int (nI n)], gh S a b sc ar lo, ex, 0, 0)) rfl ?_
        exact to_rt (i := .ireturn) (tg := []) rfl (ai_rtz (rl_n (n := n) (by omega))) ⟨_, ⟨rl_n (n := n) (by omega), (hc32_2.imp (fun w => by rw [w]; rfl) id)⟩, rfl⟩
      · refine to_n 2 (fr' := (38, [(0, .ref 49), (1, .ref (1000001 + i)), (2, .int (nI n)), (3, .int (nI j))], [.ref (1000001 + i), .int (nI j)], gh S a b sc ar lo, ex, 0, 0)) rfl ?_
        refine to_slen (i := i) rfl rfl (by omega) (Nat.le_of_ble_eq_true rfl) ?_
        refine to_nc_ge_T (t := 75) (x := j) (y := ((ai_tx i).length)) rfl (by omega) (by omega) (by omega) ?_
        refine to_n 1 (fr' := (76, [(0, .ref 49), (1, .ref (1000001 + i)), (2, .int (nI n)), (3, .int (nI j))], [.int (nI n)], gh S a b sc ar lo, ex, 0, 0)) rfl ?_
        exact to_rt (i := .ireturn) (tg := []) rfl (ai_rtz (rl_n (n := n) (by omega))) ⟨_, ⟨rl_n (n := n) (by omega), (hc32_2.imp (fun w => by rw [w]; rfl) id)⟩, rfl⟩
    | succ m ih =>
      intro n j hm hc32_0 hc32_1 hc32_2 hc32_3
      refine to_n 1 (fr' := (33, [(0, .ref 49), (1, .ref (1000001 + i)), (2, .int (nI n)), (3, .int (nI j))], [.int (nI n)], gh S a b sc ar lo, ex, 0, 0)) rfl ?_
      refine to_nf_eq (t := 75) (x := n) rfl (by omega) (fun q3 => ?_) (fun q3 => ?_)
      · refine to_n 1 (fr' := (76, [(0, .ref 49), (1, .ref (1000001 + i)), (2, .int (nI n)), (3, .int (nI j))], [.int (nI n)], gh S a b sc ar lo, ex, 0, 0)) rfl ?_
        exact to_rt (i := .ireturn) (tg := []) rfl (ai_rtz (rl_n (n := n) (by omega))) ⟨_, ⟨rl_n (n := n) (by omega), (hc32_2.imp (fun w => by rw [w]; rfl) id)⟩, rfl⟩
      · refine to_n 2 (fr' := (38, [(0, .ref 49), (1, .ref (1000001 + i)), (2, .int (nI n)), (3, .int (nI j))], [.ref (1000001 + i), .int (nI j)], gh S a b sc ar lo, ex, 0, 0)) rfl ?_
        refine to_slen (i := i) rfl rfl (by omega) (Nat.le_of_ble_eq_true rfl) ?_
        refine to_nc_ge (t := 75) (x := j) (y := ((ai_tx i).length)) rfl (by omega) (by omega) (fun q4 => ?_) (fun q4 => ?_)
        · refine to_n 1 (fr' := (76, [(0, .ref 49), (1, .ref (1000001 + i)), (2, .int (nI n)), (3, .int (nI j))], [.int (nI n)], gh S a b sc ar lo, ex, 0, 0)) rfl ?_
          exact to_rt (i := .ireturn) (tg := []) rfl (ai_rtz (rl_n (n := n) (by omega))) ⟨_, ⟨rl_n (n := n) (by omega), (hc32_2.imp (fun w => by rw [w]; rfl) id)⟩, rfl⟩
        · refine to_n 2 (fr' := (46, [(0, .ref 49), (1, .ref (1000001 + i)), (2, .int (nI n)), (3, .int (nI j))], [.int (nI j), .ref (1000001 + i)], gh S a b sc ar lo, ex, 0, 0)) rfl ?_
          refine to_schr (i := i) (j := j) rfl rfl (by omega) (by omega) (Nat.le_of_ble_eq_true rfl) ?_
          refine to_n 1 (fr' := (50, [(0, .ref 49), (1, .ref (1000001 + i)), (2, .int (nI n)), (3, .int (nI j))], [.ref 49, .int ((ai_tx i).getD j 0)], gh S a b sc ar lo, ex, 0, 0)) rfl ?_
          refine to_get rfl rfl rfl rfl ?_
          refine to_n 1 (fr' := (54, [(0, .ref 49), (1, .ref (1000001 + i)), (2, .int (nI n)), (3, .int (nI j))], [.ref 49, .ref 67, .int ((ai_tx i).getD j 0)], gh S a b sc ar lo, ex, 0, 0)) rfl ?_
          refine to_getR (v := (nI p)) rfl rfl rfl rfl ep ?_
          refine to_n 1 (fr' := (58, [(0, .ref 49), (1, .ref (1000001 + i)), (2, .int (nI n)), (3, .int (nI j))], [.int (nI j), .int (nI p), .ref 67, .int ((ai_tx i).getD j 0)], gh S a b sc ar lo, ex, 0, 0)) rfl ?_
          refine to_addN (x := p) (y := j) rfl ?_
          refine to_ialR (i := (p + j)) (v := ((ar 67) (p + j))) rfl (by decide) rfl (by omega) (by omega) rfl ?_
          refine to_ic_ne (t := 67) rfl (fun q5 => ?_) (fun q5 => ?_)
          · refine to_n 3 (fr' := (72, [(0, .ref 49), (1, .ref (1000001 + i)), (2, .int 0), (3, .int ((nI j) + 1))], [], gh S a b sc ar lo, ex, 0, 0)) rfl ?_
            rw [nI_1 j]
            refine to_n 1 (fr' := (32, [(0, .ref 49), (1, .ref (1000001 + i)), (2, .int 0), (3, .int (nI (j + 1)))], [], gh S a b sc ar lo, ex, 0, 0)) rfl ?_
            exact ih 0 (j + 1) (by omega) (by omega) (by omega) (Or.inl rfl) (by omega)
          · refine to_n 4 (fr' := (72, [(0, .ref 49), (1, .ref (1000001 + i)), (2, .int 1), (3, .int ((nI j) + 1))], [], gh S a b sc ar lo, ex, 0, 0)) rfl ?_
            rw [nI_1 j]
            refine to_n 1 (fr' := (32, [(0, .ref 49), (1, .ref (1000001 + i)), (2, .int 1), (3, .int (nI (j + 1)))], [], gh S a b sc ar lo, ex, 0, 0)) rfl ?_
            exact ih 1 (j + 1) (by omega) (by omega) (by omega) (Or.inr (hc32_2.resolve_left q3)) (by omega)
  refine to_n 1 (fr' := (1, [(0, .ref 49), (1, .ref (1000001 + i))], [.ref 49], gh S a b sc ar lo, ex, 0, 0)) rfl ?_
  refine to_getR (v := (sc 4937)) rfl rfl rfl rfl rfl ?_
  refine to_n 1 (fr' := (5, [(0, .ref 49), (1, .ref (1000001 + i))], [.int 1, .int (sc 4937)], gh S a b sc ar lo, ex, 0, 0)) rfl ?_
  refine to_ic_ne (t := 28) rfl (fun q6 => ?_) (fun q6 => ?_)
  · refine to_n 4 (fr' := (32, [(0, .ref 49), (1, .ref (1000001 + i)), (2, .int 0), (3, .int 0)], [], gh S a b sc ar lo, ex, 0, 0)) rfl ?_
    exact c32 ((ai_tx i).length - 0) 0 0 (by omega) (by omega) (by omega) (Or.inl rfl) (by omega)
  · refine to_n 1 (fr' := (9, [(0, .ref 49), (1, .ref (1000001 + i))], [.ref (1000001 + i)], gh S a b sc ar lo, ex, 0, 0)) rfl ?_
    refine to_slen (i := i) rfl rfl (by omega) (Nat.le_of_ble_eq_true rfl) ?_
    refine to_n 1 (fr' := (13, [(0, .ref 49), (1, .ref (1000001 + i))], [.ref 49, .int (nI ((ai_tx i).length))], gh S a b sc ar lo, ex, 0, 0)) rfl ?_
    obtain ⟨n7, hn7, e7⟩ := iv_s4940 hI
    refine to_getR (v := (nI n7)) rfl rfl rfl rfl e7 ?_
    refine to_n 1 (fr' := (17, [(0, .ref 49), (1, .ref (1000001 + i))], [.ref 49, .int (nI n7), .int (nI ((ai_tx i).length))], gh S a b sc ar lo, ex, 0, 0)) rfl ?_
    refine to_getR (v := (nI p)) rfl rfl rfl rfl ep ?_
    rcases Nat.lt_or_ge n7 p with w8 | w8
    · refine to_n 1 (fr' := (21, [(0, .ref 49), (1, .ref (1000001 + i))], [.int ((nI n7) - (nI p)), .int (nI ((ai_tx i).length))], gh S a b sc ar lo, ex, 0, 0)) rfl ?_
      refine to_ic_ne_T (t := 28) (x := (nI ((ai_tx i).length))) (y := ((nI n7) - (nI p))) rfl (nI_neg (n := ((ai_tx i).length)) (by omega) (sub_neg w8 (by omega))) ?_
      refine to_n 4 (fr' := (32, [(0, .ref 49), (1, .ref (1000001 + i)), (2, .int 0), (3, .int 0)], [], gh S a b sc ar lo, ex, 0, 0)) rfl ?_
      exact c32 ((ai_tx i).length - 0) 0 0 (by omega) (by omega) (by omega) (Or.inl rfl) (by omega)
    · refine to_subN (x := n7) (y := p) rfl (by omega) ?_
      refine to_nc_ne (t := 28) (x := ((ai_tx i).length)) (y := (n7 - p)) rfl (by omega) (by omega) (fun q9 => ?_) (fun q9 => ?_)
      · refine to_n 4 (fr' := (32, [(0, .ref 49), (1, .ref (1000001 + i)), (2, .int 0), (3, .int 0)], [], gh S a b sc ar lo, ex, 0, 0)) rfl ?_
        exact c32 ((ai_tx i).length - 0) 0 0 (by omega) (by omega) (by omega) (Or.inl rfl) (by omega)
      · refine to_n 5 (fr' := (32, [(0, .ref 49), (1, .ref (1000001 + i)), (2, .int 1), (3, .int 0)], [], gh S a b sc ar lo, ex, 0, 0)) rfl ?_
        exact c32 ((ai_tx i).length - 0) 1 0 (by omega) (by omega) (by omega) (Or.inr q6) (by omega)
set_option maxRecDepth 20000 in
theorem sf_X10_isSign {X : Nat × (Nat → Int32)} {S a b : Nat} {sc : Nat → Int32} {ar : Nat → Nat → Int32} {lo : Nat → Int64} {ex : Bool} (hW : Wd S a b) (hI : Iv S sc ar) (x1 : Int32) (d : Nat)  : cp X S a b (d + 1) 124 [.ref 49, .int x1] sc ar lo ex (fun x => rl x 2 ∧ (x = 0 ∨ sc 4937 = 3)) := by
  obtain ⟨ha1, ha8, hb1, hb8, hab, hS1, hS⟩ := id hW
  refine cp_of (M := an_X10_isSign) rfl (Nat.le_of_ble_eq_true rfl) ?_
  refine to_eq (fr' := (0, [(0, .ref 49), (1, .int x1)], [], gh S a b sc ar lo, ex, 0, 0)) rfl ?_
  refine to_n 1 (fr' := (1, [(0, .ref 49), (1, .int x1)], [.ref 49], gh S a b sc ar lo, ex, 0, 0)) rfl ?_
  refine to_getR (v := (sc 4937)) rfl rfl rfl rfl rfl ?_
  refine to_n 1 (fr' := (5, [(0, .ref 49), (1, .int x1)], [.int 3, .int (sc 4937)], gh S a b sc ar lo, ex, 0, 0)) rfl ?_
  refine to_ic_ne (t := 20) rfl (fun q1 => ?_) (fun q1 => ?_)
  · refine to_n 1 (fr' := (21, [(0, .ref 49), (1, .int x1)], [.int 0], gh S a b sc ar lo, ex, 0, 0)) rfl ?_
    exact to_rt (i := .ireturn) (tg := []) rfl rfl ⟨_, ⟨rl_n (n := 0) (by omega), (Or.inl rfl)⟩, rfl⟩
  · refine to_n 1 (fr' := (9, [(0, .ref 49), (1, .int x1)], [.ref 49], gh S a b sc ar lo, ex, 0, 0)) rfl ?_
    refine to_getR (v := (sc 4938)) rfl rfl rfl rfl rfl ?_
    refine to_n 1 (fr' := (13, [(0, .ref 49), (1, .int x1)], [.int x1, .int (sc 4938)], gh S a b sc ar lo, ex, 0, 0)) rfl ?_
    refine to_ic_ne (t := 20) rfl (fun q2 => ?_) (fun q2 => ?_)
    · refine to_n 1 (fr' := (21, [(0, .ref 49), (1, .int x1)], [.int 0], gh S a b sc ar lo, ex, 0, 0)) rfl ?_
      exact to_rt (i := .ireturn) (tg := []) rfl rfl ⟨_, ⟨rl_n (n := 0) (by omega), (Or.inl rfl)⟩, rfl⟩
    · refine to_n 2 (fr' := (21, [(0, .ref 49), (1, .int x1)], [.int 1], gh S a b sc ar lo, ex, 0, 0)) rfl ?_
      exact to_rt (i := .ireturn) (tg := []) rfl rfl ⟨_, ⟨rl_n (n := 1) (by omega), (Or.inr q1)⟩, rfl⟩
set_option maxRecDepth 20000 in
theorem sf_X10_byteAt {X : Nat × (Nat → Int32)} {S a b : Nat} {sc : Nat → Int32} {ar : Nat → Nat → Int32} {lo : Nat → Int64} {ex : Bool} (hW : Wd S a b) (hI : Iv S sc ar) (k1 : Nat) (hk1 : k1 < 401) (d : Nat)  : cp X S a b (d + 1) 119 [.ref 49, .int (nI k1)] sc ar lo ex (fun x => (x = -1 ∨ k1 < 400)) := by
  obtain ⟨ha1, ha8, hb1, hb8, hab, hS1, hS⟩ := id hW
  refine cp_of (M := an_X10_byteAt) rfl (Nat.le_of_ble_eq_true rfl) ?_
  refine to_eq (fr' := (0, [(0, .ref 49), (1, .int (nI k1))], [], gh S a b sc ar lo, ex, 0, 0)) rfl ?_
  refine to_n 2 (fr' := (2, [(0, .ref 49), (1, .int (nI k1))], [.ref 49, .int (nI k1)], gh S a b sc ar lo, ex, 0, 0)) rfl ?_
  obtain ⟨n1, hn1, e1⟩ := iv_s4936 hI
  refine to_getR (v := (nI n1)) rfl rfl rfl rfl e1 ?_
  refine to_nc_ge (t := 17) (x := k1) (y := n1) rfl (by omega) (by omega) (fun q2 => ?_) (fun q2 => ?_)
  · refine to_n 1 (fr' := (18, [(0, .ref 49), (1, .int (nI k1))], [.int (-1)], gh S a b sc ar lo, ex, 0, 0)) rfl ?_
    exact to_rt (i := .ireturn) (tg := []) rfl rfl ⟨_, (Or.inl rfl), rfl⟩
  · refine to_n 1 (fr' := (9, [(0, .ref 49), (1, .int (nI k1))], [.ref 49], gh S a b sc ar lo, ex, 0, 0)) rfl ?_
    refine to_get rfl rfl rfl rfl ?_
    refine to_n 1 (fr' := (13, [(0, .ref 49), (1, .int (nI k1))], [.int (nI k1), .ref 67], gh S a b sc ar lo, ex, 0, 0)) rfl ?_
    refine to_ialR (i := k1) (v := ((ar 67) k1)) rfl (by decide) rfl (by omega) (by omega) rfl ?_
    refine to_n 1 (fr' := (18, [(0, .ref 49), (1, .int (nI k1))], [.int ((ar 67) k1)], gh S a b sc ar lo, ex, 0, 0)) rfl ?_
    exact to_rt (i := .ireturn) (tg := []) rfl rfl ⟨_, (Or.inr (by omega)), rfl⟩
