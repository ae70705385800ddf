/-! the reference reads a law -/
theorem ln_of {R M : Nat → Int32} {ar : Nat → Nat → Int32} {l n c : Nat} (hu : Ru R (ar 71) l n c) (e70 : ar 70 = upd R (13 * l + n) (nI c)) (e69 : ar 69 = upd M l (nI n)) (hn : n ≤ 12) (hc : c ≤ 700) : Ln ar l := by
  obtain ⟨F, f1, f2, f3⟩ := hu
  refine ⟨n, by omega, by rw [e69]; exact up_eq, F, fun r hr => ?_, fun r hr => (f3 r hr).2.2⟩
  by_cases e : r = n
  · subst e
    exact ⟨by omega, by rw [e70, up_eq, f1]⟩
  · obtain ⟨g0, -, -⟩ := f3 r (by omega)
    exact ⟨by omega, by rw [e70, up_ne (by omega)]; exact f2 r (by omega)⟩
set_option maxRecDepth 20000 in
theorem rd_readLaw {X : Nat × (Nat → Int32)} {S a b : Nat} {sc : Nat → Int32} {ar : Nat → Nat → Int32} {lo : Nat → Int64} {ex : Bool} (hW : Wd S a b) (hI : Iv S sc ar) (l r : Nat) (hl : l < 6) (hr : r ≤ 400) (el : sc 4907 = nI l) (ec : sc 4934 = 0) (ea : sc 4935 = 0) (er : sc 4936 = nI r) (eb : sc 4941 = 0) (d : Nat)  : cv X S a b (d + 32) 126 [.ref 49] sc ar lo ex (fun sc' ar' => Iv S sc' ar' ∧ Fr [4934, 4935, 4937, 4938, 4939, 4940, 4941, 4942] [69, 70, 71, 73] sc ar sc' ar' ∧ (Kl ar ar' l ∧ (¬ sc' 4941 = 0 ∨ (sc' 4941 = 0 ∧ Ln ar' l)))) := by
  obtain ⟨ha1, ha8, hb1, hb8, hab, hS1, hS⟩ := id hW
  refine cv_of (M := an_X10_readLaw) rfl (Nat.le_of_ble_eq_true rfl) ?_
  have hF : Fr [4934, 4935, 4937, 4938, 4939, 4940, 4941, 4942] [69, 70, 71, 73] sc ar sc ar := fr_0
  refine to_eq (fr' := (0, [(0, .ref 49)], [], gh S a b sc ar lo, ex, 0, 0)) rfl ?_
  have c6 : ∀ m : Nat, ∀ (n : Nat) (c1 : Nat) (B1 : Nat) (sc1 : Nat → Int32) (ar1 : Nat → Nat → Int32), 401 ≤ B1 + m → sc1 4934 = nI c1 → sc1 4939 = nI B1 → sc1 4907 = nI l → sc1 4941 = 0 → Pz sc1 → 2 * c1 ≤ 3 * B1 → B1 ≤ 400 → Kl ar ar1 l → Ru (ar1 70) (ar1 71) l n c1 → n ≤ 12 → Iv S sc1 ar1 → Fr [4934, 4935, 4937, 4938, 4939, 4940, 4941, 4942] [69, 70, 71, 73] sc ar sc1 ar1 → ag_To X (d + 31) an_X10_readLaw (6, [(0, .ref 49), (1, .int (nI n))], [], gh S a b sc1 ar1 lo, ex, 0, 0) (qv S a b lo ex (fun sc' ar' => Iv S sc' ar' ∧ Fr [4934, 4935, 4937, 4938, 4939, 4940, 4941, 4942] [69, 70, 71, 73] sc ar sc' ar' ∧ (Kl ar ar' l ∧ (¬ sc' 4941 = 0 ∨ (sc' 4941 = 0 ∧ Ln ar' l))))) := by
    intro m
    induction m with
    | zero =>
      intro n c1 B1 sc1 ar1 hm hc6_0 hc6_1 hc6_2 hc6_3 hc6_4 hc6_5 hc6_6 hc6_7 hc6_8 hc6_9 hI1 hF1
      exfalso
      omega
    | succ m ih =>
      intro n c1 B1 sc1 ar1 hm hc6_0 hc6_1 hc6_2 hc6_3 hc6_4 hc6_5 hc6_6 hc6_7 hc6_8 hc6_9 hI1 hF1
      refine to_n 1 (fr' := (7, [(0, .ref 49), (1, .int (nI n))], [.ref 49], gh S a b sc1 ar1 lo, ex, 0, 0)) rfl ?_
      refine to_getR (v := 0) rfl rfl rfl rfl hc6_3 ?_
      refine to_n 2 (fr' := (14, [(0, .ref 49), (1, .int (nI n))], [.ref 49], gh S a b sc1 ar1 lo, ex, 0, 0)) rfl ?_
      refine to_getR (v := (sc1 4937)) rfl rfl rfl rfl rfl ?_
      refine to_if_eq (t := 147) rfl (fun q2 => ?_) (fun q2 => ?_)
      · refine to_n 1 (fr' := (148, [(0, .ref 49), (1, .int (nI n))], [.ref 49], gh S a b sc1 ar1 lo, ex, 0, 0)) rfl ?_
        refine to_get rfl rfl rfl rfl ?_
        refine to_n 2 (fr' := (154, [(0, .ref 49), (1, .int (nI n))], [.ref 49, .int 13, .ref 70], gh S a b sc1 ar1 lo, ex, 0, 0)) rfl ?_
        refine to_getR (v := (nI l)) rfl rfl rfl rfl hc6_2 ?_
        refine to_mulN (x := 13) (y := l) rfl ?_
        refine to_n 1 (fr' := (159, [(0, .ref 49), (1, .int (nI n))], [.int (nI n), .int (nI (13 * l)), .ref 70], gh S a b sc1 ar1 lo, ex, 0, 0)) rfl ?_
        refine to_addN (x := (13 * l)) (y := n) rfl ?_
        refine to_n 1 (fr' := (161, [(0, .ref 49), (1, .int (nI n))], [.ref 49, .int (nI ((13 * l) + n)), .ref 70], gh S a b sc1 ar1 lo, ex, 0, 0)) rfl ?_
        refine to_getR (v := (nI c1)) rfl rfl rfl rfl hc6_0 ?_
        refine to_iasR (i := ((13 * l) + n)) (h' := gh S a b sc1 (uA ar1 70 (upd (ar1 70) ((13 * l) + n) (nI c1))) lo) rfl rfl (by omega) (by omega) rfl ?_
        have hI3 := ia_70 (i := ((13 * l) + n)) (v := (nI c1)) hI1 (rl_n (n := c1) (by omega))
        have hF3 := fr_a (c := 70) (g := (upd (ar1 70) ((13 * l) + n) (nI c1))) hF1 (by decide)
        have hk3s : ∀ x, x < 700 * l + c1 → (uA ar1 70 (upd (ar1 70) ((13 * l) + n) (nI c1))) 71 x = ar1 71 x := (fun _ _ => rfl)
        have e3_70 : (uA ar1 70 (upd (ar1 70) ((13 * l) + n) (nI c1))) 70 = (upd (ar1 70) ((13 * l) + n) (nI c1)) := rfl
        have e3_69 : (uA ar1 70 (upd (ar1 70) ((13 * l) + n) (nI c1))) 69 = (ar1 69) := rfl
        refine to_n 1 (fr' := (166, [(0, .ref 49), (1, .int (nI n))], [.ref 49], gh S a b sc1 (uA ar1 70 (upd (ar1 70) ((13 * l) + n) (nI c1))) lo, ex, 0, 0)) rfl ?_
        refine to_get rfl rfl rfl rfl ?_
        refine to_n 1 (fr' := (170, [(0, .ref 49), (1, .int (nI n))], [.ref 49, .ref 69], gh S a b sc1 (uA ar1 70 (upd (ar1 70) ((13 * l) + n) (nI c1))) lo, ex, 0, 0)) rfl ?_
        refine to_getR (v := (nI l)) rfl rfl rfl rfl hc6_2 ?_
        refine to_n 1 (fr' := (174, [(0, .ref 49), (1, .int (nI n))], [.int (nI n), .int (nI l), .ref 69], gh S a b sc1 (uA ar1 70 (upd (ar1 70) ((13 * l) + n) (nI c1))) lo, ex, 0, 0)) rfl ?_
        refine to_iasR (i := l) (h' := gh S a b sc1 (uA (uA ar1 70 (upd (ar1 70) ((13 * l) + n) (nI c1))) 69 (upd ((uA ar1 70 (upd (ar1 70) ((13 * l) + n) (nI c1))) 69) l (nI n))) lo) rfl rfl (by omega) (by omega) rfl ?_
        have hI4 := ia_69 (i := l) (v := (nI n)) hI3 (rl_n (n := n) (by omega))
        have hF4 := fr_a (c := 69) (g := (upd ((uA ar1 70 (upd (ar1 70) ((13 * l) + n) (nI c1))) 69) l (nI n))) hF3 (by decide)
        have hk4s : ∀ x, x < 700 * l + c1 → (uA (uA ar1 70 (upd (ar1 70) ((13 * l) + n) (nI c1))) 69 (upd ((uA ar1 70 (upd (ar1 70) ((13 * l) + n) (nI c1))) 69) l (nI n))) 71 x = ar1 71 x := hk3s
        have e4_70 : (uA (uA ar1 70 (upd (ar1 70) ((13 * l) + n) (nI c1))) 69 (upd ((uA ar1 70 (upd (ar1 70) ((13 * l) + n) (nI c1))) 69) l (nI n))) 70 = (upd (ar1 70) ((13 * l) + n) (nI c1)) := e3_70
        have e4_69 : (uA (uA ar1 70 (upd (ar1 70) ((13 * l) + n) (nI c1))) 69 (upd ((uA ar1 70 (upd (ar1 70) ((13 * l) + n) (nI c1))) 69) l (nI n))) 69 = (upd (ar1 69) l (nI n)) := by rw [← e3_69]; rfl
        exact to_rt (i := .return_) (tg := []) rfl rfl ⟨_, _, ⟨hI4, hF4, ⟨⟨(fun x w => (hk4s x (by omega)).trans (hc6_7.1 x w)), (fun x w => by rw [e4_70]; exact ((up_ne (by omega)).trans (hc6_7.2.1 x w))), (fun x w => by rw [e4_69]; exact ((up_ne (by omega)).trans (hc6_7.2.2 x w)))⟩, Or.inr ⟨hc6_3, ln_of hc6_8 e4_70 e4_69 (by omega) (by omega)⟩⟩⟩, rfl⟩
      · refine to_n 2 (fr' := (23, [(0, .ref 49), (1, .int (nI n))], [.ref 1000031, .ref 49], gh S a b sc1 ar1 lo, ex, 0, 0)) rfl ?_
        refine to_cp (q := 122) (M1 := an_X10_isWord) (rest := []) rfl rfl (by decide) rfl ⟨_, rfl⟩ (sf_X10_isWord hW hI1 30 (by omega) (d + 30)) (fun x5 hx5 => ?_)
        obtain ⟨⟨n5, hn5, rfl⟩, hp5⟩ := hx5
        refine to_eq (fr' := (26, [(0, .ref 49), (1, .int (nI n))], [.int (nI n5)], gh S a b sc1 ar1 lo, ex, 0, 0)) rfl ?_
        refine to_n 2 (fr' := (28, [(0, .ref 49), (1, .int (nI n)), (2, .int (nI n5))], [.int (nI n5)], gh S a b sc1 ar1 lo, ex, 0, 0)) rfl ?_
        refine to_nf_ne (t := 48) (x := n5) rfl (by omega) (fun q6 => ?_) (fun q6 => ?_)
        · refine to_n 2 (fr' := (51, [(0, .ref 49), (1, .int (nI n)), (2, .int (nI n5))], [.int 12, .int (nI n)], gh S a b sc1 ar1 lo, ex, 0, 0)) rfl ?_
          refine to_nc_ne (t := 59) (x := n) (y := 12) rfl (by omega) (by omega) (fun q7 => ?_) (fun q7 => ?_)
          · refine to_n 1 (fr' := (60, [(0, .ref 49), (1, .int (nI n)), (2, .int (nI n5))], [.ref 49], gh S a b sc1 ar1 lo, ex, 0, 0)) rfl ?_
            refine to_getR (v := 0) rfl rfl rfl rfl hc6_3 ?_
            refine to_n 2 (fr' := (68, [(0, .ref 49), (1, .int (nI n)), (2, .int (nI n5))], [.ref 49], gh S a b sc1 ar1 lo, ex, 0, 0)) rfl ?_
            refine to_get rfl rfl rfl rfl ?_
            refine to_n 2 (fr' := (74, [(0, .ref 49), (1, .int (nI n)), (2, .int (nI n5))], [.ref 49, .int 12, .ref 73], gh S a b sc1 ar1 lo, ex, 0, 0)) rfl ?_
            refine to_getR (v := (nI l)) rfl rfl rfl rfl hc6_2 ?_
            refine to_mulN (x := 12) (y := l) rfl ?_
            refine to_n 1 (fr' := (79, [(0, .ref 49), (1, .int (nI n)), (2, .int (nI n5))], [.int (nI n), .int (nI (12 * l)), .ref 73], gh S a b sc1 ar1 lo, ex, 0, 0)) rfl ?_
            refine to_addN (x := (12 * l)) (y := n) rfl ?_
            refine to_n 1 (fr' := (81, [(0, .ref 49), (1, .int (nI n)), (2, .int (nI n5))], [.int (nI n5), .int (nI ((12 * l) + n)), .ref 73], gh S a b sc1 ar1 lo, ex, 0, 0)) rfl ?_
            refine to_zasR (i := ((12 * l) + n)) (h' := gh S a b sc1 (uA ar1 73 (upd (ar1 73) ((12 * l) + n) (vp_nar .boolean (nI n5)))) lo) rfl rfl (by omega) (by omega) rfl ?_
            have hI8 := ia_73 (g := (upd (ar1 73) ((12 * l) + n) (vp_nar .boolean (nI n5)))) hI1
            have hF8 := fr_a (c := 73) (g := (upd (ar1 73) ((12 * l) + n) (vp_nar .boolean (nI n5)))) hF1 (by decide)
            have hk8s : ∀ x, x < 700 * l + c1 → (uA ar1 73 (upd (ar1 73) ((12 * l) + n) (vp_nar .boolean (nI n5)))) 71 x = ar1 71 x := (fun _ _ => rfl)
            have e8_70 : (uA ar1 73 (upd (ar1 73) ((12 * l) + n) (vp_nar .boolean (nI n5)))) 70 = (ar1 70) := rfl
            have e8_69 : (uA ar1 73 (upd (ar1 73) ((12 * l) + n) (vp_nar .boolean (nI n5)))) 69 = (ar1 69) := rfl
            refine to_n 1 (fr' := (83, [(0, .ref 49), (1, .int (nI n)), (2, .int (nI n5))], [.ref 49], gh S a b sc1 (uA ar1 73 (upd (ar1 73) ((12 * l) + n) (vp_nar .boolean (nI n5)))) lo, ex, 0, 0)) rfl ?_
            refine to_get rfl rfl rfl rfl ?_
            refine to_n 2 (fr' := (89, [(0, .ref 49), (1, .int (nI n)), (2, .int (nI n5))], [.ref 49, .int 13, .ref 70], gh S a b sc1 (uA ar1 73 (upd (ar1 73) ((12 * l) + n) (vp_nar .boolean (nI n5)))) lo, ex, 0, 0)) rfl ?_
            refine to_getR (v := (nI l)) rfl rfl rfl rfl hc6_2 ?_
            refine to_mulN (x := 13) (y := l) rfl ?_
            refine to_n 1 (fr' := (94, [(0, .ref 49), (1, .int (nI n)), (2, .int (nI n5))], [.int (nI n), .int (nI (13 * l)), .ref 70], gh S a b sc1 (uA ar1 73 (upd (ar1 73) ((12 * l) + n) (vp_nar .boolean (nI n5)))) lo, ex, 0, 0)) rfl ?_
            refine to_addN (x := (13 * l)) (y := n) rfl ?_
            refine to_n 1 (fr' := (96, [(0, .ref 49), (1, .int (nI n)), (2, .int (nI n5))], [.ref 49, .int (nI ((13 * l) + n)), .ref 70], gh S a b sc1 (uA ar1 73 (upd (ar1 73) ((12 * l) + n) (vp_nar .boolean (nI n5)))) lo, ex, 0, 0)) rfl ?_
            refine to_getR (v := (nI c1)) rfl rfl rfl rfl hc6_0 ?_
            refine to_iasR (i := ((13 * l) + n)) (h' := gh S a b sc1 (uA (uA ar1 73 (upd (ar1 73) ((12 * l) + n) (vp_nar .boolean (nI n5)))) 70 (upd ((uA ar1 73 (upd (ar1 73) ((12 * l) + n) (vp_nar .boolean (nI n5)))) 70) ((13 * l) + n) (nI c1))) lo) rfl rfl (by omega) (by omega) rfl ?_
            have hI9 := ia_70 (i := ((13 * l) + n)) (v := (nI c1)) hI8 (rl_n (n := c1) (by omega))
            have hF9 := fr_a (c := 70) (g := (upd ((uA ar1 73 (upd (ar1 73) ((12 * l) + n) (vp_nar .boolean (nI n5)))) 70) ((13 * l) + n) (nI c1))) hF8 (by decide)
            have hk9s : ∀ x, x < 700 * l + c1 → (uA (uA ar1 73 (upd (ar1 73) ((12 * l) + n) (vp_nar .boolean (nI n5)))) 70 (upd ((uA ar1 73 (upd (ar1 73) ((12 * l) + n) (vp_nar .boolean (nI n5)))) 70) ((13 * l) + n) (nI c1))) 71 x = ar1 71 x := hk8s
            have e9_70 : (uA (uA ar1 73 (upd (ar1 73) ((12 * l) + n) (vp_nar .boolean (nI n5)))) 70 (upd ((uA ar1 73 (upd (ar1 73) ((12 * l) + n) (vp_nar .boolean (nI n5)))) 70) ((13 * l) + n) (nI c1))) 70 = (upd (ar1 70) ((13 * l) + n) (nI c1)) := by rw [← e8_70]; rfl
            have e9_69 : (uA (uA ar1 73 (upd (ar1 73) ((12 * l) + n) (vp_nar .boolean (nI n5)))) 70 (upd ((uA ar1 73 (upd (ar1 73) ((12 * l) + n) (vp_nar .boolean (nI n5)))) 70) ((13 * l) + n) (nI c1))) 69 = (ar1 69) := e8_69
            refine to_n 1 (fr' := (103, [(0, .ref 49), (1, .int ((nI n) + 1)), (2, .int (nI n5))], [], gh S a b sc1 (uA (uA ar1 73 (upd (ar1 73) ((12 * l) + n) (vp_nar .boolean (nI n5)))) 70 (upd ((uA ar1 73 (upd (ar1 73) ((12 * l) + n) (vp_nar .boolean (nI n5)))) 70) ((13 * l) + n) (nI c1))) lo, ex, 0, 0)) rfl ?_
            rw [nI_1 n]
            refine to_n 1 (fr' := (104, [(0, .ref 49), (1, .int (nI (n + 1))), (2, .int (nI n5))], [.ref 49], gh S a b sc1 (uA (uA ar1 73 (upd (ar1 73) ((12 * l) + n) (vp_nar .boolean (nI n5)))) 70 (upd ((uA ar1 73 (upd (ar1 73) ((12 * l) + n) (vp_nar .boolean (nI n5)))) 70) ((13 * l) + n) (nI c1))) lo, ex, 0, 0)) rfl ?_
            refine to_cv (q := 121) (M1 := an_X10_step) (rest := []) rfl rfl (by decide) rfl ⟨_, rfl⟩ (st_next hW hI9 hc6_1 (by omega) hc6_4 (tok_nz (iw_tok hn5 hp5 q6) (by decide)) (d + 29)) (fun sc10 ar10 hx10 => ?_)
            obtain ⟨hI10, hG10, hz10, B10, eB10, hB10, hC10⟩ := hx10
            have k10_4907 : sc10 4907 = (nI l) := (hG10.1 4907 (by decide)).trans hc6_2
            have k10_4934 : sc10 4934 = (nI c1) := (hG10.1 4934 (by decide)).trans hc6_0
            have k10_4941 : sc10 4941 = 0 := (hG10.1 4941 (by decide)).trans hc6_3
            have hk10 : ∀ x, x < 700 * l + c1 → ar10 71 x = ar1 71 x := kp_st hk9s hG10 (by decide)
            have hF10 := fr_t hF9 hG10 (by decide) (by decide)
            have e10_70 : ar10 70 = (upd (ar1 70) ((13 * l) + n) (nI c1)) := (hG10.2 70 (by decide)).trans e9_70
            have e10_69 : ar10 69 = (ar1 69) := (hG10.2 69 (by decide)).trans e9_69
            refine to_eq (fr' := (107, [(0, .ref 49), (1, .int (nI (n + 1))), (2, .int (nI n5))], [], gh S a b sc10 ar10 lo, ex, 0, 0)) rfl ?_
            refine to_n 2 (fr' := (109, [(0, .ref 49), (1, .int (nI (n + 1))), (2, .int (nI n5))], [.int 0, .ref 49], gh S a b sc10 ar10 lo, ex, 0, 0)) rfl ?_
            refine to_cv (q := 127) (M1 := an_X10_readExpression) (rest := []) rfl rfl (by decide) rfl ⟨_, rfl⟩ (rd_expr hW (d + 1) sc10 ar10 l c1 3 B10 hI10 (by omega) k10_4907 k10_4934 eB10 (by omega) k10_4941 hz10 (by omega)) (fun sc11 ar11 hx11 => ?_)
            obtain ⟨hI11, hG11, hu11, hr11⟩ := hx11
            have k11_4907 : sc11 4907 = nI l := (hG11.1 4907 (by decide)).trans k10_4907
            have hk11 : ∀ x, x < 700 * l + c1 → ar11 71 x = ar1 71 x := fun x w => (hu11 x (by omega)).trans (hk10 x w)
            have hF11 := fr_t hF10 hG11 (by decide) (by decide)
            have e11_70 : ar11 70 = (upd (ar1 70) ((13 * l) + n) (nI c1)) := (hG11.2 70 (by decide)).trans e10_70
            have e11_69 : ar11 69 = (ar1 69) := (hG11.2 69 (by decide)).trans e10_69
            rcases hr11 with hb11 | ⟨hb11, hz11, c11, B11, ec11, eB11, hcc11, hBB11, hB11, hpo11, sg11⟩
            · refine to_eq (fr' := (112, [(0, .ref 49), (1, .int (nI (n + 1))), (2, .int (nI n5))], [], gh S a b sc11 ar11 lo, ex, 0, 0)) rfl ?_
              refine to_n 1 (fr' := (113, [(0, .ref 49), (1, .int (nI (n + 1))), (2, .int (nI n5))], [.ref 49], gh S a b sc11 ar11 lo, ex, 0, 0)) rfl ?_
              refine to_getR (v := (sc11 4941)) rfl rfl rfl rfl rfl ?_
              refine to_if_ne_T (t := 133) rfl hb11 ?_
              refine to_n 1 (fr' := (134, [(0, .ref 49), (1, .int (nI (n + 1))), (2, .int (nI n5))], [.ref 49], gh S a b sc11 ar11 lo, ex, 0, 0)) rfl ?_
              refine to_getR (v := (sc11 4941)) rfl rfl rfl rfl rfl ?_
              refine to_if_ne_T (t := 144) rfl hb11 ?_
              refine to_n 2 (fr' := (7, [(0, .ref 49), (1, .int (nI (n + 1))), (2, .int (nI n5))], [.ref 49], gh S a b sc11 ar11 lo, ex, 0, 0)) rfl ?_
              refine to_getR (v := (sc11 4941)) rfl rfl rfl rfl rfl ?_
              refine to_if_ne_T (t := 147) rfl hb11 ?_
              refine to_n 1 (fr' := (148, [(0, .ref 49), (1, .int (nI (n + 1))), (2, .int (nI n5))], [.ref 49], gh S a b sc11 ar11 lo, ex, 0, 0)) rfl ?_
              refine to_get rfl rfl rfl rfl ?_
              refine to_n 2 (fr' := (154, [(0, .ref 49), (1, .int (nI (n + 1))), (2, .int (nI n5))], [.ref 49, .int 13, .ref 70], gh S a b sc11 ar11 lo, ex, 0, 0)) rfl ?_
              refine to_getR (v := (nI l)) rfl rfl rfl rfl k11_4907 ?_
              refine to_mulN (x := 13) (y := l) rfl ?_
              refine to_n 1 (fr' := (159, [(0, .ref 49), (1, .int (nI (n + 1))), (2, .int (nI n5))], [.int (nI (n + 1)), .int (nI (13 * l)), .ref 70], gh S a b sc11 ar11 lo, ex, 0, 0)) rfl ?_
              refine to_addN (x := (13 * l)) (y := (n + 1)) rfl ?_
              refine to_n 1 (fr' := (161, [(0, .ref 49), (1, .int (nI (n + 1))), (2, .int (nI n5))], [.ref 49, .int (nI ((13 * l) + (n + 1))), .ref 70], gh S a b sc11 ar11 lo, ex, 0, 0)) rfl ?_
              obtain ⟨n12, hn12, e12⟩ := iv_s4934 hI11
              refine to_getR (v := (nI n12)) rfl rfl rfl rfl e12 ?_
              refine to_iasR (i := ((13 * l) + (n + 1))) (h' := gh S a b sc11 (uA ar11 70 (upd (ar11 70) ((13 * l) + (n + 1)) (nI n12))) lo) rfl rfl (by omega) (by omega) rfl ?_
              have hI13 := ia_70 (i := ((13 * l) + (n + 1))) (v := (nI n12)) hI11 (rl_n (n := n12) (by omega))
              have hF13 := fr_a (c := 70) (g := (upd (ar11 70) ((13 * l) + (n + 1)) (nI n12))) hF11 (by decide)
              have hk13s : ∀ x, x < 700 * l + c1 → (uA ar11 70 (upd (ar11 70) ((13 * l) + (n + 1)) (nI n12))) 71 x = ar1 71 x := hk11
              have e13_70 : (uA ar11 70 (upd (ar11 70) ((13 * l) + (n + 1)) (nI n12))) 70 = (upd (upd (ar1 70) ((13 * l) + n) (nI c1)) ((13 * l) + (n + 1)) (nI n12)) := by rw [← e11_70]; rfl
              have e13_69 : (uA ar11 70 (upd (ar11 70) ((13 * l) + (n + 1)) (nI n12))) 69 = (ar1 69) := e11_69
              refine to_n 1 (fr' := (166, [(0, .ref 49), (1, .int (nI (n + 1))), (2, .int (nI n5))], [.ref 49], gh S a b sc11 (uA ar11 70 (upd (ar11 70) ((13 * l) + (n + 1)) (nI n12))) lo, ex, 0, 0)) rfl ?_
              refine to_get rfl rfl rfl rfl ?_
              refine to_n 1 (fr' := (170, [(0, .ref 49), (1, .int (nI (n + 1))), (2, .int (nI n5))], [.ref 49, .ref 69], gh S a b sc11 (uA ar11 70 (upd (ar11 70) ((13 * l) + (n + 1)) (nI n12))) lo, ex, 0, 0)) rfl ?_
              refine to_getR (v := (nI l)) rfl rfl rfl rfl k11_4907 ?_
              refine to_n 1 (fr' := (174, [(0, .ref 49), (1, .int (nI (n + 1))), (2, .int (nI n5))], [.int (nI (n + 1)), .int (nI l), .ref 69], gh S a b sc11 (uA ar11 70 (upd (ar11 70) ((13 * l) + (n + 1)) (nI n12))) lo, ex, 0, 0)) rfl ?_
              refine to_iasR (i := l) (h' := gh S a b sc11 (uA (uA ar11 70 (upd (ar11 70) ((13 * l) + (n + 1)) (nI n12))) 69 (upd ((uA ar11 70 (upd (ar11 70) ((13 * l) + (n + 1)) (nI n12))) 69) l (nI (n + 1)))) lo) rfl rfl (by omega) (by omega) rfl ?_
              have hI14 := ia_69 (i := l) (v := (nI (n + 1))) hI13 (rl_n (n := (n + 1)) (by omega))
              have hF14 := fr_a (c := 69) (g := (upd ((uA ar11 70 (upd (ar11 70) ((13 * l) + (n + 1)) (nI n12))) 69) l (nI (n + 1)))) hF13 (by decide)
              have hk14s : ∀ x, x < 700 * l + c1 → (uA (uA ar11 70 (upd (ar11 70) ((13 * l) + (n + 1)) (nI n12))) 69 (upd ((uA ar11 70 (upd (ar11 70) ((13 * l) + (n + 1)) (nI n12))) 69) l (nI (n + 1)))) 71 x = ar1 71 x := hk13s
              have e14_70 : (uA (uA ar11 70 (upd (ar11 70) ((13 * l) + (n + 1)) (nI n12))) 69 (upd ((uA ar11 70 (upd (ar11 70) ((13 * l) + (n + 1)) (nI n12))) 69) l (nI (n + 1)))) 70 = (upd (upd (ar1 70) ((13 * l) + n) (nI c1)) ((13 * l) + (n + 1)) (nI n12)) := e13_70
              have e14_69 : (uA (uA ar11 70 (upd (ar11 70) ((13 * l) + (n + 1)) (nI n12))) 69 (upd ((uA ar11 70 (upd (ar11 70) ((13 * l) + (n + 1)) (nI n12))) 69) l (nI (n + 1)))) 69 = (upd (ar1 69) l (nI (n + 1))) := by rw [← e13_69]; rfl
              exact to_rt (i := .return_) (tg := []) rfl rfl ⟨_, _, ⟨hI14, hF14, ⟨⟨(fun x w => (hk14s x (by omega)).trans (hc6_7.1 x w)), (fun x w => by rw [e14_70]; exact ((up_ne (by omega)).trans ((up_ne (by omega)).trans (hc6_7.2.1 x w)))), (fun x w => by rw [e14_69]; exact ((up_ne (by omega)).trans (hc6_7.2.2 x w)))⟩, Or.inl hb11⟩⟩, rfl⟩
            · refine to_eq (fr' := (112, [(0, .ref 49), (1, .int (nI (n + 1))), (2, .int (nI n5))], [], gh S a b sc11 ar11 lo, ex, 0, 0)) rfl ?_
              refine to_n 1 (fr' := (113, [(0, .ref 49), (1, .int (nI (n + 1))), (2, .int (nI n5))], [.ref 49], gh S a b sc11 ar11 lo, ex, 0, 0)) rfl ?_
              refine to_getR (v := 0) rfl rfl rfl rfl hb11 ?_
              refine to_n 3 (fr' := (122, [(0, .ref 49), (1, .int (nI (n + 1))), (2, .int (nI n5))], [.int 59, .ref 49], gh S a b sc11 ar11 lo, ex, 0, 0)) rfl ?_
              refine to_cp (q := 123) (M1 := an_X10_isSign) (rest := []) rfl rfl (by decide) rfl ⟨_, rfl⟩ (sf_X10_isSign hW hI11 59 (d + 30)) (fun x15 hx15 => ?_)
              obtain ⟨⟨n15, hn15, rfl⟩, hp15⟩ := hx15
              refine to_eq (fr' := (125, [(0, .ref 49), (1, .int (nI (n + 1))), (2, .int (nI n5))], [.int (nI n15)], gh S a b sc11 ar11 lo, ex, 0, 0)) rfl ?_
              refine to_nf_ne (t := 133) (x := n15) rfl (by omega) (fun q16 => ?_) (fun q16 => ?_)
              · refine to_n 1 (fr' := (134, [(0, .ref 49), (1, .int (nI (n + 1))), (2, .int (nI n5))], [.ref 49], gh S a b sc11 ar11 lo, ex, 0, 0)) rfl ?_
                refine to_getR (v := 0) rfl rfl rfl rfl hb11 ?_
                refine to_n 2 (fr' := (141, [(0, .ref 49), (1, .int (nI (n + 1))), (2, .int (nI n5))], [.ref 49], gh S a b sc11 ar11 lo, ex, 0, 0)) rfl ?_
                refine to_cv (q := 121) (M1 := an_X10_step) (rest := []) rfl rfl (by decide) rfl ⟨_, rfl⟩ (st_next hW hI11 eB11 (by omega) hz11 (tok_nz (iw_tok hn15 hp15 q16) (by decide)) (d + 29)) (fun sc17 ar17 hx17 => ?_)
                obtain ⟨hI17, hG17, hz17, B17, eB17, hB17, hC17⟩ := hx17
                have k17_4907 : sc17 4907 = (nI l) := (hG17.1 4907 (by decide)).trans k11_4907
                have k17_4934 : sc17 4934 = (nI c11) := (hG17.1 4934 (by decide)).trans ec11
                have k17_4941 : sc17 4941 = 0 := (hG17.1 4941 (by decide)).trans hb11
                have hk17 : ∀ x, x < 700 * l + c1 → ar17 71 x = ar1 71 x := kp_st hk11 hG17 (by decide)
                have sg17_0 := sg_st sg11 hG17 (by decide)
                have hF17 := fr_t hF11 hG17 (by decide) (by decide)
                have e17_70 : ar17 70 = (upd (ar1 70) ((13 * l) + n) (nI c1)) := (hG17.2 70 (by decide)).trans e11_70
                have e17_69 : ar17 69 = (ar1 69) := (hG17.2 69 (by decide)).trans e11_69
                refine to_eq (fr' := (144, [(0, .ref 49), (1, .int (nI (n + 1))), (2, .int (nI n5))], [], gh S a b sc17 ar17 lo, ex, 0, 0)) rfl ?_
                refine to_n 1 (fr' := (6, [(0, .ref 49), (1, .int (nI (n + 1))), (2, .int (nI n5))], [], gh S a b sc17 ar17 lo, ex, 0, 0)) rfl ?_
                refine to_lv (lv := [(0, .ref 49), (1, .int (nI (n + 1)))]) rfl ⟨rfl, rfl, trivial⟩ ?_
                exact ih (n + 1) c11 B17 sc17 ar17 (by omega) k17_4934 eB17 k17_4907 k17_4941 hz17 (by omega) (by omega) ⟨(fun x w => (hk17 x (by omega)).trans (hc6_7.1 x w)), (fun x w => by rw [e17_70]; exact ((up_ne (by omega)).trans (hc6_7.2.1 x w))), (fun x w => by rw [e17_69]; exact (hc6_7.2.2 x w))⟩ (by rw [e17_70]; exact ru_put hc6_8 hk17 sg17_0 (by omega) (by omega) (by omega)) (by omega) hI17 hF17
              · refine to_n 2 (fr' := (130, [(0, .ref 49), (1, .int (nI (n + 1))), (2, .int (nI n5))], [.int 1, .ref 49], gh S a b sc11 ar11 lo, ex, 0, 0)) rfl ?_
                refine to_cv (q := 124) (M1 := an_X10_wrong) (rest := []) rfl rfl (by decide) rfl ⟨_, rfl⟩ (sf_X10_wrong hW hI11 1 (d + 30)) (fun sc18 ar18 hx18 => ?_)
                obtain ⟨hI18, hG18, hx18⟩ := hx18
                have hb18 := hx18 (by decide)
                have k18_4907 : sc18 4907 = (nI l) := (hG18.1 4907 (by decide)).trans k11_4907
                have k18_4934 : sc18 4934 = (nI c11) := (hG18.1 4934 (by decide)).trans ec11
                have k18_4939 : sc18 4939 = (nI B11) := (hG18.1 4939 (by decide)).trans eB11
                have hk18 : ∀ x, x < 700 * l + c1 → ar18 71 x = ar1 71 x := kp_st hk11 hG18 (by decide)
                have sg18_0 := sg_st sg11 hG18 (by decide)
                have hF18 := fr_t hF11 hG18 (by decide) (by decide)
                have e18_70 : ar18 70 = (upd (ar1 70) ((13 * l) + n) (nI c1)) := (hG18.2 70 (by decide)).trans e11_70
                have e18_69 : ar18 69 = (ar1 69) := (hG18.2 69 (by decide)).trans e11_69
                refine to_eq (fr' := (133, [(0, .ref 49), (1, .int (nI (n + 1))), (2, .int (nI n5))], [], gh S a b sc18 ar18 lo, ex, 0, 0)) rfl ?_
                refine to_n 1 (fr' := (134, [(0, .ref 49), (1, .int (nI (n + 1))), (2, .int (nI n5))], [.ref 49], gh S a b sc18 ar18 lo, ex, 0, 0)) rfl ?_
                refine to_getR (v := (sc18 4941)) rfl rfl rfl rfl rfl ?_
                refine to_if_ne_T (t := 144) rfl hb18 ?_
                refine to_n 2 (fr' := (7, [(0, .ref 49), (1, .int (nI (n + 1))), (2, .int (nI n5))], [.ref 49], gh S a b sc18 ar18 lo, ex, 0, 0)) rfl ?_
                refine to_getR (v := (sc18 4941)) rfl rfl rfl rfl rfl ?_
                refine to_if_ne_T (t := 147) rfl hb18 ?_
                refine to_n 1 (fr' := (148, [(0, .ref 49), (1, .int (nI (n + 1))), (2, .int (nI n5))], [.ref 49], gh S a b sc18 ar18 lo, ex, 0, 0)) rfl ?_
                refine to_get rfl rfl rfl rfl ?_
                refine to_n 2 (fr' := (154, [(0, .ref 49), (1, .int (nI (n + 1))), (2, .int (nI n5))], [.ref 49, .int 13, .ref 70], gh S a b sc18 ar18 lo, ex, 0, 0)) rfl ?_
                refine to_getR (v := (nI l)) rfl rfl rfl rfl k18_4907 ?_
                refine to_mulN (x := 13) (y := l) rfl ?_
                refine to_n 1 (fr' := (159, [(0, .ref 49), (1, .int (nI (n + 1))), (2, .int (nI n5))], [.int (nI (n + 1)), .int (nI (13 * l)), .ref 70], gh S a b sc18 ar18 lo, ex, 0, 0)) rfl ?_
                refine to_addN (x := (13 * l)) (y := (n + 1)) rfl ?_
                refine to_n 1 (fr' := (161, [(0, .ref 49), (1, .int (nI (n + 1))), (2, .int (nI n5))], [.ref 49, .int (nI ((13 * l) + (n + 1))), .ref 70], gh S a b sc18 ar18 lo, ex, 0, 0)) rfl ?_
                refine to_getR (v := (nI c11)) rfl rfl rfl rfl k18_4934 ?_
                refine to_iasR (i := ((13 * l) + (n + 1))) (h' := gh S a b sc18 (uA ar18 70 (upd (ar18 70) ((13 * l) + (n + 1)) (nI c11))) lo) rfl rfl (by omega) (by omega) rfl ?_
                have hI19 := ia_70 (i := ((13 * l) + (n + 1))) (v := (nI c11)) hI18 (rl_n (n := c11) (by omega))
                have hF19 := fr_a (c := 70) (g := (upd (ar18 70) ((13 * l) + (n + 1)) (nI c11))) hF18 (by decide)
                have hk19s : ∀ x, x < 700 * l + c1 → (uA ar18 70 (upd (ar18 70) ((13 * l) + (n + 1)) (nI c11))) 71 x = ar1 71 x := hk18
                have e19_70 : (uA ar18 70 (upd (ar18 70) ((13 * l) + (n + 1)) (nI c11))) 70 = (upd (upd (ar1 70) ((13 * l) + n) (nI c1)) ((13 * l) + (n + 1)) (nI c11)) := by rw [← e18_70]; rfl
                have e19_69 : (uA ar18 70 (upd (ar18 70) ((13 * l) + (n + 1)) (nI c11))) 69 = (ar1 69) := e18_69
                refine to_n 1 (fr' := (166, [(0, .ref 49), (1, .int (nI (n + 1))), (2, .int (nI n5))], [.ref 49], gh S a b sc18 (uA ar18 70 (upd (ar18 70) ((13 * l) + (n + 1)) (nI c11))) lo, ex, 0, 0)) rfl ?_
                refine to_get rfl rfl rfl rfl ?_
                refine to_n 1 (fr' := (170, [(0, .ref 49), (1, .int (nI (n + 1))), (2, .int (nI n5))], [.ref 49, .ref 69], gh S a b sc18 (uA ar18 70 (upd (ar18 70) ((13 * l) + (n + 1)) (nI c11))) lo, ex, 0, 0)) rfl ?_
                refine to_getR (v := (nI l)) rfl rfl rfl rfl k18_4907 ?_
                refine to_n 1 (fr' := (174, [(0, .ref 49), (1, .int (nI (n + 1))), (2, .int (nI n5))], [.int (nI (n + 1)), .int (nI l), .ref 69], gh S a b sc18 (uA ar18 70 (upd (ar18 70) ((13 * l) + (n + 1)) (nI c11))) lo, ex, 0, 0)) rfl ?_
                refine to_iasR (i := l) (h' := gh S a b sc18 (uA (uA ar18 70 (upd (ar18 70) ((13 * l) + (n + 1)) (nI c11))) 69 (upd ((uA ar18 70 (upd (ar18 70) ((13 * l) + (n + 1)) (nI c11))) 69) l (nI (n + 1)))) lo) rfl rfl (by omega) (by omega) rfl ?_
                have hI20 := ia_69 (i := l) (v := (nI (n + 1))) hI19 (rl_n (n := (n + 1)) (by omega))
                have hF20 := fr_a (c := 69) (g := (upd ((uA ar18 70 (upd (ar18 70) ((13 * l) + (n + 1)) (nI c11))) 69) l (nI (n + 1)))) hF19 (by decide)
                have hk20s : ∀ x, x < 700 * l + c1 → (uA (uA ar18 70 (upd (ar18 70) ((13 * l) + (n + 1)) (nI c11))) 69 (upd ((uA ar18 70 (upd (ar18 70) ((13 * l) + (n + 1)) (nI c11))) 69) l (nI (n + 1)))) 71 x = ar1 71 x := hk19s
                have e20_70 : (uA (uA ar18 70 (upd (ar18 70) ((13 * l) + (n + 1)) (nI c11))) 69 (upd ((uA ar18 70 (upd (ar18 70) ((13 * l) + (n + 1)) (nI c11))) 69) l (nI (n + 1)))) 70 = (upd (upd (ar1 70) ((13 * l) + n) (nI c1)) ((13 * l) + (n + 1)) (nI c11)) := e19_70
                have e20_69 : (uA (uA ar18 70 (upd (ar18 70) ((13 * l) + (n + 1)) (nI c11))) 69 (upd ((uA ar18 70 (upd (ar18 70) ((13 * l) + (n + 1)) (nI c11))) 69) l (nI (n + 1)))) 69 = (upd (ar1 69) l (nI (n + 1))) := by rw [← e19_69]; rfl
                exact to_rt (i := .return_) (tg := []) rfl rfl ⟨_, _, ⟨hI20, hF20, ⟨⟨(fun x w => (hk20s x (by omega)).trans (hc6_7.1 x w)), (fun x w => by rw [e20_70]; exact ((up_ne (by omega)).trans ((up_ne (by omega)).trans (hc6_7.2.1 x w)))), (fun x w => by rw [e20_69]; exact ((up_ne (by omega)).trans (hc6_7.2.2 x w)))⟩, Or.inl hb18⟩⟩, rfl⟩
          · refine to_n 2 (fr' := (56, [(0, .ref 49), (1, .int (nI n)), (2, .int (nI n5))], [.int 2, .ref 49], gh S a b sc1 ar1 lo, ex, 0, 0)) rfl ?_
            refine to_cv (q := 124) (M1 := an_X10_wrong) (rest := []) rfl rfl (by decide) rfl ⟨_, rfl⟩ (sf_X10_wrong hW hI1 2 (d + 30)) (fun sc21 ar21 hx21 => ?_)
            obtain ⟨hI21, hG21, hx21⟩ := hx21
            have hb21 := hx21 (by decide)
            have k21_4907 : sc21 4907 = (nI l) := (hG21.1 4907 (by decide)).trans hc6_2
            have k21_4934 : sc21 4934 = (nI c1) := (hG21.1 4934 (by decide)).trans hc6_0
            have k21_4939 : sc21 4939 = (nI B1) := (hG21.1 4939 (by decide)).trans hc6_1
            have hk21 : ∀ x, x < 700 * l + c1 → ar21 71 x = ar1 71 x := kp_st (fun _ _ => rfl) hG21 (by decide)
            have hF21 := fr_t hF1 hG21 (by decide) (by decide)
            have e21_70 : ar21 70 = (ar1 70) := (hG21.2 70 (by decide)).trans rfl
            have e21_69 : ar21 69 = (ar1 69) := (hG21.2 69 (by decide)).trans rfl
            refine to_eq (fr' := (59, [(0, .ref 49), (1, .int (nI n)), (2, .int (nI n5))], [], gh S a b sc21 ar21 lo, ex, 0, 0)) rfl ?_
            refine to_n 1 (fr' := (60, [(0, .ref 49), (1, .int (nI n)), (2, .int (nI n5))], [.ref 49], gh S a b sc21 ar21 lo, ex, 0, 0)) rfl ?_
            refine to_getR (v := (sc21 4941)) rfl rfl rfl rfl rfl ?_
            refine to_if_eq_F (t := 67) rfl hb21 ?_
            exact to_rt (i := .return_) (tg := []) rfl rfl ⟨_, _, ⟨hI21, hF21, ⟨⟨(fun x w => (hk21 x (by omega)).trans (hc6_7.1 x w)), (fun x w => by rw [e21_70]; exact (hc6_7.2.1 x w)), (fun x w => by rw [e21_69]; exact (hc6_7.2.2 x w))⟩, Or.inl hb21⟩⟩, rfl⟩
        · refine to_n 2 (fr' := (34, [(0, .ref 49), (1, .int (nI n)), (2, .int (nI n5))], [.ref 1000032, .ref 49], gh S a b sc1 ar1 lo, ex, 0, 0)) rfl ?_
          refine to_cp (q := 122) (M1 := an_X10_isWord) (rest := []) rfl rfl (by decide) rfl ⟨_, rfl⟩ (sf_X10_isWord hW hI1 31 (by omega) (d + 30)) (fun x22 hx22 => ?_)
          obtain ⟨⟨n22, hn22, rfl⟩, hp22⟩ := hx22
          refine to_eq (fr' := (37, [(0, .ref 49), (1, .int (nI n)), (2, .int (nI n5))], [.int (nI n22)], gh S a b sc1 ar1 lo, ex, 0, 0)) rfl ?_
          refine to_nf_ne (t := 48) (x := n22) rfl (by omega) (fun q23 => ?_) (fun q23 => ?_)
          · refine to_n 2 (fr' := (51, [(0, .ref 49), (1, .int (nI n)), (2, .int (nI n5))], [.int 12, .int (nI n)], gh S a b sc1 ar1 lo, ex, 0, 0)) rfl ?_
            refine to_nc_ne (t := 59) (x := n) (y := 12) rfl (by omega) (by omega) (fun q24 => ?_) (fun q24 => ?_)
            · refine to_n 1 (fr' := (60, [(0, .ref 49), (1, .int (nI n)), (2, .int (nI n5))], [.ref 49], gh S a b sc1 ar1 lo, ex, 0, 0)) rfl ?_
              refine to_getR (v := 0) rfl rfl rfl rfl hc6_3 ?_
              refine to_n 2 (fr' := (68, [(0, .ref 49), (1, .int (nI n)), (2, .int (nI n5))], [.ref 49], gh S a b sc1 ar1 lo, ex, 0, 0)) rfl ?_
              refine to_get rfl rfl rfl rfl ?_
              refine to_n 2 (fr' := (74, [(0, .ref 49), (1, .int (nI n)), (2, .int (nI n5))], [.ref 49, .int 12, .ref 73], gh S a b sc1 ar1 lo, ex, 0, 0)) rfl ?_
              refine to_getR (v := (nI l)) rfl rfl rfl rfl hc6_2 ?_
              refine to_mulN (x := 12) (y := l) rfl ?_
              refine to_n 1 (fr' := (79, [(0, .ref 49), (1, .int (nI n)), (2, .int (nI n5))], [.int (nI n), .int (nI (12 * l)), .ref 73], gh S a b sc1 ar1 lo, ex, 0, 0)) rfl ?_
              refine to_addN (x := (12 * l)) (y := n) rfl ?_
              refine to_n 1 (fr' := (81, [(0, .ref 49), (1, .int (nI n)), (2, .int (nI n5))], [.int (nI n5), .int (nI ((12 * l) + n)), .ref 73], gh S a b sc1 ar1 lo, ex, 0, 0)) rfl ?_
              refine to_zasR (i := ((12 * l) + n)) (h' := gh S a b sc1 (uA ar1 73 (upd (ar1 73) ((12 * l) + n) (vp_nar .boolean (nI n5)))) lo) rfl rfl (by omega) (by omega) rfl ?_
              have hI25 := ia_73 (g := (upd (ar1 73) ((12 * l) + n) (vp_nar .boolean (nI n5)))) hI1
              have hF25 := fr_a (c := 73) (g := (upd (ar1 73) ((12 * l) + n) (vp_nar .boolean (nI n5)))) hF1 (by decide)
              have hk25s : ∀ x, x < 700 * l + c1 → (uA ar1 73 (upd (ar1 73) ((12 * l) + n) (vp_nar .boolean (nI n5)))) 71 x = ar1 71 x := (fun _ _ => rfl)
              have e25_70 : (uA ar1 73 (upd (ar1 73) ((12 * l) + n) (vp_nar .boolean (nI n5)))) 70 = (ar1 70) := rfl
              have e25_69 : (uA ar1 73 (upd (ar1 73) ((12 * l) + n) (vp_nar .boolean (nI n5)))) 69 = (ar1 69) := rfl
              refine to_n 1 (fr' := (83, [(0, .ref 49), (1, .int (nI n)), (2, .int (nI n5))], [.ref 49], gh S a b sc1 (uA ar1 73 (upd (ar1 73) ((12 * l) + n) (vp_nar .boolean (nI n5)))) lo, ex, 0, 0)) rfl ?_
              refine to_get rfl rfl rfl rfl ?_
              refine to_n 2 (fr' := (89, [(0, .ref 49), (1, .int (nI n)), (2, .int (nI n5))], [.ref 49, .int 13, .ref 70], gh S a b sc1 (uA ar1 73 (upd (ar1 73) ((12 * l) + n) (vp_nar .boolean (nI n5)))) lo, ex, 0, 0)) rfl ?_
              refine to_getR (v := (nI l)) rfl rfl rfl rfl hc6_2 ?_
              refine to_mulN (x := 13) (y := l) rfl ?_
              refine to_n 1 (fr' := (94, [(0, .ref 49), (1, .int (nI n)), (2, .int (nI n5))], [.int (nI n), .int (nI (13 * l)), .ref 70], gh S a b sc1 (uA ar1 73 (upd (ar1 73) ((12 * l) + n) (vp_nar .boolean (nI n5)))) lo, ex, 0, 0)) rfl ?_
              refine to_addN (x := (13 * l)) (y := n) rfl ?_
              refine to_n 1 (fr' := (96, [(0, .ref 49), (1, .int (nI n)), (2, .int (nI n5))], [.ref 49, .int (nI ((13 * l) + n)), .ref 70], gh S a b sc1 (uA ar1 73 (upd (ar1 73) ((12 * l) + n) (vp_nar .boolean (nI n5)))) lo, ex, 0, 0)) rfl ?_
              refine to_getR (v := (nI c1)) rfl rfl rfl rfl hc6_0 ?_
              refine to_iasR (i := ((13 * l) + n)) (h' := gh S a b sc1 (uA (uA ar1 73 (upd (ar1 73) ((12 * l) + n) (vp_nar .boolean (nI n5)))) 70 (upd ((uA ar1 73 (upd (ar1 73) ((12 * l) + n) (vp_nar .boolean (nI n5)))) 70) ((13 * l) + n) (nI c1))) lo) rfl rfl (by omega) (by omega) rfl ?_
              have hI26 := ia_70 (i := ((13 * l) + n)) (v := (nI c1)) hI25 (rl_n (n := c1) (by omega))
              have hF26 := fr_a (c := 70) (g := (upd ((uA ar1 73 (upd (ar1 73) ((12 * l) + n) (vp_nar .boolean (nI n5)))) 70) ((13 * l) + n) (nI c1))) hF25 (by decide)
              have hk26s : ∀ x, x < 700 * l + c1 → (uA (uA ar1 73 (upd (ar1 73) ((12 * l) + n) (vp_nar .boolean (nI n5)))) 70 (upd ((uA ar1 73 (upd (ar1 73) ((12 * l) + n) (vp_nar .boolean (nI n5)))) 70) ((13 * l) + n) (nI c1))) 71 x = ar1 71 x := hk25s
              have e26_70 : (uA (uA ar1 73 (upd (ar1 73) ((12 * l) + n) (vp_nar .boolean (nI n5)))) 70 (upd ((uA ar1 73 (upd (ar1 73) ((12 * l) + n) (vp_nar .boolean (nI n5)))) 70) ((13 * l) + n) (nI c1))) 70 = (upd (ar1 70) ((13 * l) + n) (nI c1)) := by rw [← e25_70]; rfl
              have e26_69 : (uA (uA ar1 73 (upd (ar1 73) ((12 * l) + n) (vp_nar .boolean (nI n5)))) 70 (upd ((uA ar1 73 (upd (ar1 73) ((12 * l) + n) (vp_nar .boolean (nI n5)))) 70) ((13 * l) + n) (nI c1))) 69 = (ar1 69) := e25_69
              refine to_n 1 (fr' := (103, [(0, .ref 49), (1, .int ((nI n) + 1)), (2, .int (nI n5))], [], gh S a b sc1 (uA (uA ar1 73 (upd (ar1 73) ((12 * l) + n) (vp_nar .boolean (nI n5)))) 70 (upd ((uA ar1 73 (upd (ar1 73) ((12 * l) + n) (vp_nar .boolean (nI n5)))) 70) ((13 * l) + n) (nI c1))) lo, ex, 0, 0)) rfl ?_
              rw [nI_1 n]
              refine to_n 1 (fr' := (104, [(0, .ref 49), (1, .int (nI (n + 1))), (2, .int (nI n5))], [.ref 49], gh S a b sc1 (uA (uA ar1 73 (upd (ar1 73) ((12 * l) + n) (vp_nar .boolean (nI n5)))) 70 (upd ((uA ar1 73 (upd (ar1 73) ((12 * l) + n) (vp_nar .boolean (nI n5)))) 70) ((13 * l) + n) (nI c1))) lo, ex, 0, 0)) rfl ?_
              refine to_cv (q := 121) (M1 := an_X10_step) (rest := []) rfl rfl (by decide) rfl ⟨_, rfl⟩ (st_next hW hI26 hc6_1 (by omega) hc6_4 (tok_nz (iw_tok hn22 hp22 q23) (by decide)) (d + 29)) (fun sc27 ar27 hx27 => ?_)
              obtain ⟨hI27, hG27, hz27, B27, eB27, hB27, hC27⟩ := hx27
              have k27_4907 : sc27 4907 = (nI l) := (hG27.1 4907 (by decide)).trans hc6_2
              have k27_4934 : sc27 4934 = (nI c1) := (hG27.1 4934 (by decide)).trans hc6_0
              have k27_4941 : sc27 4941 = 0 := (hG27.1 4941 (by decide)).trans hc6_3
              have hk27 : ∀ x, x < 700 * l + c1 → ar27 71 x = ar1 71 x := kp_st hk26s hG27 (by decide)
              have hF27 := fr_t hF26 hG27 (by decide) (by decide)
              have e27_70 : ar27 70 = (upd (ar1 70) ((13 * l) + n) (nI c1)) := (hG27.2 70 (by decide)).trans e26_70
              have e27_69 : ar27 69 = (ar1 69) := (hG27.2 69 (by decide)).trans e26_69
              refine to_eq (fr' := (107, [(0, .ref 49), (1, .int (nI (n + 1))), (2, .int (nI n5))], [], gh S a b sc27 ar27 lo, ex, 0, 0)) rfl ?_
              refine to_n 2 (fr' := (109, [(0, .ref 49), (1, .int (nI (n + 1))), (2, .int (nI n5))], [.int 0, .ref 49], gh S a b sc27 ar27 lo, ex, 0, 0)) rfl ?_
              refine to_cv (q := 127) (M1 := an_X10_readExpression) (rest := []) rfl rfl (by decide) rfl ⟨_, rfl⟩ (rd_expr hW (d + 1) sc27 ar27 l c1 3 B27 hI27 (by omega) k27_4907 k27_4934 eB27 (by omega) k27_4941 hz27 (by omega)) (fun sc28 ar28 hx28 => ?_)
              obtain ⟨hI28, hG28, hu28, hr28⟩ := hx28
              have k28_4907 : sc28 4907 = nI l := (hG28.1 4907 (by decide)).trans k27_4907
              have hk28 : ∀ x, x < 700 * l + c1 → ar28 71 x = ar1 71 x := fun x w => (hu28 x (by omega)).trans (hk27 x w)
              have hF28 := fr_t hF27 hG28 (by decide) (by decide)
              have e28_70 : ar28 70 = (upd (ar1 70) ((13 * l) + n) (nI c1)) := (hG28.2 70 (by decide)).trans e27_70
              have e28_69 : ar28 69 = (ar1 69) := (hG28.2 69 (by decide)).trans e27_69
              rcases hr28 with hb28 | ⟨hb28, hz28, c28, B28, ec28, eB28, hcc28, hBB28, hB28, hpo28, sg28⟩
              · refine to_eq (fr' := (112, [(0, .ref 49), (1, .int (nI (n + 1))), (2, .int (nI n5))], [], gh S a b sc28 ar28 lo, ex, 0, 0)) rfl ?_
                refine to_n 1 (fr' := (113, [(0, .ref 49), (1, .int (nI (n + 1))), (2, .int (nI n5))], [.ref 49], gh S a b sc28 ar28 lo, ex, 0, 0)) rfl ?_
                refine to_getR (v := (sc28 4941)) rfl rfl rfl rfl rfl ?_
                refine to_if_ne_T (t := 133) rfl hb28 ?_
                refine to_n 1 (fr' := (134, [(0, .ref 49), (1, .int (nI (n + 1))), (2, .int (nI n5))], [.ref 49], gh S a b sc28 ar28 lo, ex, 0, 0)) rfl ?_
                refine to_getR (v := (sc28 4941)) rfl rfl rfl rfl rfl ?_
                refine to_if_ne_T (t := 144) rfl hb28 ?_
                refine to_n 2 (fr' := (7, [(0, .ref 49), (1, .int (nI (n + 1))), (2, .int (nI n5))], [.ref 49], gh S a b sc28 ar28 lo, ex, 0, 0)) rfl ?_
                refine to_getR (v := (sc28 4941)) rfl rfl rfl rfl rfl ?_
                refine to_if_ne_T (t := 147) rfl hb28 ?_
                refine to_n 1 (fr' := (148, [(0, .ref 49), (1, .int (nI (n + 1))), (2, .int (nI n5))], [.ref 49], gh S a b sc28 ar28 lo, ex, 0, 0)) rfl ?_
                refine to_get rfl rfl rfl rfl ?_
                refine to_n 2 (fr' := (154, [(0, .ref 49), (1, .int (nI (n + 1))), (2, .int (nI n5))], [.ref 49, .int 13, .ref 70], gh S a b sc28 ar28 lo, ex, 0, 0)) rfl ?_
                refine to_getR (v := (nI l)) rfl rfl rfl rfl k28_4907 ?_
                refine to_mulN (x := 13) (y := l) rfl ?_
                refine to_n 1 (fr' := (159, [(0, .ref 49), (1, .int (nI (n + 1))), (2, .int (nI n5))], [.int (nI (n + 1)), .int (nI (13 * l)), .ref 70], gh S a b sc28 ar28 lo, ex, 0, 0)) rfl ?_
                refine to_addN (x := (13 * l)) (y := (n + 1)) rfl ?_
                refine to_n 1 (fr' := (161, [(0, .ref 49), (1, .int (nI (n + 1))), (2, .int (nI n5))], [.ref 49, .int (nI ((13 * l) + (n + 1))), .ref 70], gh S a b sc28 ar28 lo, ex, 0, 0)) rfl ?_
                obtain ⟨n29, hn29, e29⟩ := iv_s4934 hI28
                refine to_getR (v := (nI n29)) rfl rfl rfl rfl e29 ?_
                refine to_iasR (i := ((13 * l) + (n + 1))) (h' := gh S a b sc28 (uA ar28 70 (upd (ar28 70) ((13 * l) + (n + 1)) (nI n29))) lo) rfl rfl (by omega) (by omega) rfl ?_
                have hI30 := ia_70 (i := ((13 * l) + (n + 1))) (v := (nI n29)) hI28 (rl_n (n := n29) (by omega))
                have hF30 := fr_a (c := 70) (g := (upd (ar28 70) ((13 * l) + (n + 1)) (nI n29))) hF28 (by decide)
                have hk30s : ∀ x, x < 700 * l + c1 → (uA ar28 70 (upd (ar28 70) ((13 * l) + (n + 1)) (nI n29))) 71 x = ar1 71 x := hk28
                have e30_70 : (uA ar28 70 (upd (ar28 70) ((13 * l) + (n + 1)) (nI n29))) 70 = (upd (upd (ar1 70) ((13 * l) + n) (nI c1)) ((13 * l) + (n + 1)) (nI n29)) := by rw [← e28_70]; rfl
                have e30_69 : (uA ar28 70 (upd (ar28 70) ((13 * l) + (n + 1)) (nI n29))) 69 = (ar1 69) := e28_69
                refine to_n 1 (fr' := (166, [(0, .ref 49), (1, .int (nI (n + 1))), (2, .int (nI n5))], [.ref 49], gh S a b sc28 (uA ar28 70 (upd (ar28 70) ((13 * l) + (n + 1)) (nI n29))) lo, ex, 0, 0)) rfl ?_
                refine to_get rfl rfl rfl rfl ?_
                refine to_n 1 (fr' := (170, [(0, .ref 49), (1, .int (nI (n + 1))), (2, .int (nI n5))], [.ref 49, .ref 69], gh S a b sc28 (uA ar28 70 (upd (ar28 70) ((13 * l) + (n + 1)) (nI n29))) lo, ex, 0, 0)) rfl ?_
                refine to_getR (v := (nI l)) rfl rfl rfl rfl k28_4907 ?_
                refine to_n 1 (fr' := (174, [(0, .ref 49), (1, .int (nI (n + 1))), (2, .int (nI n5))], [.int (nI (n + 1)), .int (nI l), .ref 69], gh S a b sc28 (uA ar28 70 (upd (ar28 70) ((13 * l) + (n + 1)) (nI n29))) lo, ex, 0, 0)) rfl ?_
                refine to_iasR (i := l) (h' := gh S a b sc28 (uA (uA ar28 70 (upd (ar28 70) ((13 * l) + (n + 1)) (nI n29))) 69 (upd ((uA ar28 70 (upd (ar28 70) ((13 * l) + (n + 1)) (nI n29))) 69) l (nI (n + 1)))) lo) rfl rfl (by omega) (by omega) rfl ?_
                have hI31 := ia_69 (i := l) (v := (nI (n + 1))) hI30 (rl_n (n := (n + 1)) (by omega))
                have hF31 := fr_a (c := 69) (g := (upd ((uA ar28 70 (upd (ar28 70) ((13 * l) + (n + 1)) (nI n29))) 69) l (nI (n + 1)))) hF30 (by decide)
                have hk31s : ∀ x, x < 700 * l + c1 → (uA (uA ar28 70 (upd (ar28 70) ((13 * l) + (n + 1)) (nI n29))) 69 (upd ((uA ar28 70 (upd (ar28 70) ((13 * l) + (n + 1)) (nI n29))) 69) l (nI (n + 1)))) 71 x = ar1 71 x := hk30s
                have e31_70 : (uA (uA ar28 70 (upd (ar28 70) ((13 * l) + (n + 1)) (nI n29))) 69 (upd ((uA ar28 70 (upd (ar28 70) ((13 * l) + (n + 1)) (nI n29))) 69) l (nI (n + 1)))) 70 = (upd (upd (ar1 70) ((13 * l) + n) (nI c1)) ((13 * l) + (n + 1)) (nI n29)) := e30_70
                have e31_69 : (uA (uA ar28 70 (upd (ar28 70) ((13 * l) + (n + 1)) (nI n29))) 69 (upd ((uA ar28 70 (upd (ar28 70) ((13 * l) + (n + 1)) (nI n29))) 69) l (nI (n + 1)))) 69 = (upd (ar1 69) l (nI (n + 1))) := by rw [← e30_69]; rfl
                exact to_rt (i := .return_) (tg := []) rfl rfl ⟨_, _, ⟨hI31, hF31, ⟨⟨(fun x w => (hk31s x (by omega)).trans (hc6_7.1 x w)), (fun x w => by rw [e31_70]; exact ((up_ne (by omega)).trans ((up_ne (by omega)).trans (hc6_7.2.1 x w)))), (fun x w => by rw [e31_69]; exact ((up_ne (by omega)).trans (hc6_7.2.2 x w)))⟩, Or.inl hb28⟩⟩, rfl⟩
              · refine to_eq (fr' := (112, [(0, .ref 49), (1, .int (nI (n + 1))), (2, .int (nI n5))], [], gh S a b sc28 ar28 lo, ex, 0, 0)) rfl ?_
                refine to_n 1 (fr' := (113, [(0, .ref 49), (1, .int (nI (n + 1))), (2, .int (nI n5))], [.ref 49], gh S a b sc28 ar28 lo, ex, 0, 0)) rfl ?_
                refine to_getR (v := 0) rfl rfl rfl rfl hb28 ?_
                refine to_n 3 (fr' := (122, [(0, .ref 49), (1, .int (nI (n + 1))), (2, .int (nI n5))], [.int 59, .ref 49], gh S a b sc28 ar28 lo, ex, 0, 0)) rfl ?_
                refine to_cp (q := 123) (M1 := an_X10_isSign) (rest := []) rfl rfl (by decide) rfl ⟨_, rfl⟩ (sf_X10_isSign hW hI28 59 (d + 30)) (fun x32 hx32 => ?_)
                obtain ⟨⟨n32, hn32, rfl⟩, hp32⟩ := hx32
                refine to_eq (fr' := (125, [(0, .ref 49), (1, .int (nI (n + 1))), (2, .int (nI n5))], [.int (nI n32)], gh S a b sc28 ar28 lo, ex, 0, 0)) rfl ?_
                refine to_nf_ne (t := 133) (x := n32) rfl (by omega) (fun q33 => ?_) (fun q33 => ?_)
                · refine to_n 1 (fr' := (134, [(0, .ref 49), (1, .int (nI (n + 1))), (2, .int (nI n5))], [.ref 49], gh S a b sc28 ar28 lo, ex, 0, 0)) rfl ?_
                  refine to_getR (v := 0) rfl rfl rfl rfl hb28 ?_
                  refine to_n 2 (fr' := (141, [(0, .ref 49), (1, .int (nI (n + 1))), (2, .int (nI n5))], [.ref 49], gh S a b sc28 ar28 lo, ex, 0, 0)) rfl ?_
                  refine to_cv (q := 121) (M1 := an_X10_step) (rest := []) rfl rfl (by decide) rfl ⟨_, rfl⟩ (st_next hW hI28 eB28 (by omega) hz28 (tok_nz (iw_tok hn32 hp32 q33) (by decide)) (d + 29)) (fun sc34 ar34 hx34 => ?_)
                  obtain ⟨hI34, hG34, hz34, B34, eB34, hB34, hC34⟩ := hx34
                  have k34_4907 : sc34 4907 = (nI l) := (hG34.1 4907 (by decide)).trans k28_4907
                  have k34_4934 : sc34 4934 = (nI c28) := (hG34.1 4934 (by decide)).trans ec28
                  have k34_4941 : sc34 4941 = 0 := (hG34.1 4941 (by decide)).trans hb28
                  have hk34 : ∀ x, x < 700 * l + c1 → ar34 71 x = ar1 71 x := kp_st hk28 hG34 (by decide)
                  have sg34_0 := sg_st sg28 hG34 (by decide)
                  have hF34 := fr_t hF28 hG34 (by decide) (by decide)
                  have e34_70 : ar34 70 = (upd (ar1 70) ((13 * l) + n) (nI c1)) := (hG34.2 70 (by decide)).trans e28_70
                  have e34_69 : ar34 69 = (ar1 69) := (hG34.2 69 (by decide)).trans e28_69
                  refine to_eq (fr' := (144, [(0, .ref 49), (1, .int (nI (n + 1))), (2, .int (nI n5))], [], gh S a b sc34 ar34 lo, ex, 0, 0)) rfl ?_
                  refine to_n 1 (fr' := (6, [(0, .ref 49), (1, .int (nI (n + 1))), (2, .int (nI n5))], [], gh S a b sc34 ar34 lo, ex, 0, 0)) rfl ?_
                  refine to_lv (lv := [(0, .ref 49), (1, .int (nI (n + 1)))]) rfl ⟨rfl, rfl, trivial⟩ ?_
                  exact ih (n + 1) c28 B34 sc34 ar34 (by omega) k34_4934 eB34 k34_4907 k34_4941 hz34 (by omega) (by omega) ⟨(fun x w => (hk34 x (by omega)).trans (hc6_7.1 x w)), (fun x w => by rw [e34_70]; exact ((up_ne (by omega)).trans (hc6_7.2.1 x w))), (fun x w => by rw [e34_69]; exact (hc6_7.2.2 x w))⟩ (by rw [e34_70]; exact ru_put hc6_8 hk34 sg34_0 (by omega) (by omega) (by omega)) (by omega) hI34 hF34
                · refine to_n 2 (fr' := (130, [(0, .ref 49), (1, .int (nI (n + 1))), (2, .int (nI n5))], [.int 1, .ref 49], gh S a b sc28 ar28 lo, ex, 0, 0)) rfl ?_
                  refine to_cv (q := 124) (M1 := an_X10_wrong) (rest := []) rfl rfl (by decide) rfl ⟨_, rfl⟩ (sf_X10_wrong hW hI28 1 (d + 30)) (fun sc35 ar35 hx35 => ?_)
                  obtain ⟨hI35, hG35, hx35⟩ := hx35
                  have hb35 := hx35 (by decide)
                  have k35_4907 : sc35 4907 = (nI l) := (hG35.1 4907 (by decide)).trans k28_4907
                  have k35_4934 : sc35 4934 = (nI c28) := (hG35.1 4934 (by decide)).trans ec28
                  have k35_4939 : sc35 4939 = (nI B28) := (hG35.1 4939 (by decide)).trans eB28
                  have hk35 : ∀ x, x < 700 * l + c1 → ar35 71 x = ar1 71 x := kp_st hk28 hG35 (by decide)
                  have sg35_0 := sg_st sg28 hG35 (by decide)
                  have hF35 := fr_t hF28 hG35 (by decide) (by decide)
                  have e35_70 : ar35 70 = (upd (ar1 70) ((13 * l) + n) (nI c1)) := (hG35.2 70 (by decide)).trans e28_70
                  have e35_69 : ar35 69 = (ar1 69) := (hG35.2 69 (by decide)).trans e28_69
                  refine to_eq (fr' := (133, [(0, .ref 49), (1, .int (nI (n + 1))), (2, .int (nI n5))], [], gh S a b sc35 ar35 lo, ex, 0, 0)) rfl ?_
                  refine to_n 1 (fr' := (134, [(0, .ref 49), (1, .int (nI (n + 1))), (2, .int (nI n5))], [.ref 49], gh S a b sc35 ar35 lo, ex, 0, 0)) rfl ?_
                  refine to_getR (v := (sc35 4941)) rfl rfl rfl rfl rfl ?_
                  refine to_if_ne_T (t := 144) rfl hb35 ?_
                  refine to_n 2 (fr' := (7, [(0, .ref 49), (1, .int (nI (n + 1))), (2, .int (nI n5))], [.ref 49], gh S a b sc35 ar35 lo, ex, 0, 0)) rfl ?_
                  refine to_getR (v := (sc35 4941)) rfl rfl rfl rfl rfl ?_
                  refine to_if_ne_T (t := 147) rfl hb35 ?_
                  refine to_n 1 (fr' := (148, [(0, .ref 49), (1, .int (nI (n + 1))), (2, .int (nI n5))], [.ref 49], gh S a b sc35 ar35 lo, ex, 0, 0)) rfl ?_
                  refine to_get rfl rfl rfl rfl ?_
                  refine to_n 2 (fr' := (154, [(0, .ref 49), (1, .int (nI (n + 1))), (2, .int (nI n5))], [.ref 49, .int 13, .ref 70], gh S a b sc35 ar35 lo, ex, 0, 0)) rfl ?_
                  refine to_getR (v := (nI l)) rfl rfl rfl rfl k35_4907 ?_
                  refine to_mulN (x := 13) (y := l) rfl ?_
                  refine to_n 1 (fr' := (159, [(0, .ref 49), (1, .int (nI (n + 1))), (2, .int (nI n5))], [.int (nI (n + 1)), .int (nI (13 * l)), .ref 70], gh S a b sc35 ar35 lo, ex, 0, 0)) rfl ?_
                  refine to_addN (x := (13 * l)) (y := (n + 1)) rfl ?_
                  refine to_n 1 (fr' := (161, [(0, .ref 49), (1, .int (nI (n + 1))), (2, .int (nI n5))], [.ref 49, .int (nI ((13 * l) + (n + 1))), .ref 70], gh S a b sc35 ar35 lo, ex, 0, 0)) rfl ?_
                  refine to_getR (v := (nI c28)) rfl rfl rfl rfl k35_4934 ?_
                  refine to_iasR (i := ((13 * l) + (n + 1))) (h' := gh S a b sc35 (uA ar35 70 (upd (ar35 70) ((13 * l) + (n + 1)) (nI c28))) lo) rfl rfl (by omega) (by omega) rfl ?_
                  have hI36 := ia_70 (i := ((13 * l) + (n + 1))) (v := (nI c28)) hI35 (rl_n (n := c28) (by omega))
                  have hF36 := fr_a (c := 70) (g := (upd (ar35 70) ((13 * l) + (n + 1)) (nI c28))) hF35 (by decide)
                  have hk36s : ∀ x, x < 700 * l + c1 → (uA ar35 70 (upd (ar35 70) ((13 * l) + (n + 1)) (nI c28))) 71 x = ar1 71 x := hk35
                  have e36_70 : (uA ar35 70 (upd (ar35 70) ((13 * l) + (n + 1)) (nI c28))) 70 = (upd (upd (ar1 70) ((13 * l) + n) (nI c1)) ((13 * l) + (n + 1)) (nI c28)) := by rw [← e35_70]; rfl
                  have e36_69 : (uA ar35 70 (upd (ar35 70) ((13 * l) + (n + 1)) (nI c28))) 69 = (ar1 69) := e35_69
                  refine to_n 1 (fr' := (166, [(0, .ref 49), (1, .int (nI (n + 1))), (2, .int (nI n5))], [.ref 49], gh S a b sc35 (uA ar35 70 (upd (ar35 70) ((13 * l) + (n + 1)) (nI c28))) lo, ex, 0, 0)) rfl ?_
                  refine to_get rfl rfl rfl rfl ?_
                  refine to_n 1 (fr' := (170, [(0, .ref 49), (1, .int (nI (n + 1))), (2, .int (nI n5))], [.ref 49, .ref 69], gh S a b sc35 (uA ar35 70 (upd (ar35 70) ((13 * l) + (n + 1)) (nI c28))) lo, ex, 0, 0)) rfl ?_
                  refine to_getR (v := (nI l)) rfl rfl rfl rfl k35_4907 ?_
                  refine to_n 1 (fr' := (174, [(0, .ref 49), (1, .int (nI (n + 1))), (2, .int (nI n5))], [.int (nI (n + 1)), .int (nI l), .ref 69], gh S a b sc35 (uA ar35 70 (upd (ar35 70) ((13 * l) + (n + 1)) (nI c28))) lo, ex, 0, 0)) rfl ?_
                  refine to_iasR (i := l) (h' := gh S a b sc35 (uA (uA ar35 70 (upd (ar35 70) ((13 * l) + (n + 1)) (nI c28))) 69 (upd ((uA ar35 70 (upd (ar35 70) ((13 * l) + (n + 1)) (nI c28))) 69) l (nI (n + 1)))) lo) rfl rfl (by omega) (by omega) rfl ?_
                  have hI37 := ia_69 (i := l) (v := (nI (n + 1))) hI36 (rl_n (n := (n + 1)) (by omega))
                  have hF37 := fr_a (c := 69) (g := (upd ((uA ar35 70 (upd (ar35 70) ((13 * l) + (n + 1)) (nI c28))) 69) l (nI (n + 1)))) hF36 (by decide)
                  have hk37s : ∀ x, x < 700 * l + c1 → (uA (uA ar35 70 (upd (ar35 70) ((13 * l) + (n + 1)) (nI c28))) 69 (upd ((uA ar35 70 (upd (ar35 70) ((13 * l) + (n + 1)) (nI c28))) 69) l (nI (n + 1)))) 71 x = ar1 71 x := hk36s
                  have e37_70 : (uA (uA ar35 70 (upd (ar35 70) ((13 * l) + (n + 1)) (nI c28))) 69 (upd ((uA ar35 70 (upd (ar35 70) ((13 * l) + (n + 1)) (nI c28))) 69) l (nI (n + 1)))) 70 = (upd (upd (ar1 70) ((13 * l) + n) (nI c1)) ((13 * l) + (n + 1)) (nI c28)) := e36_70
                  have e37_69 : (uA (uA ar35 70 (upd (ar35 70) ((13 * l) + (n + 1)) (nI c28))) 69 (upd ((uA ar35 70 (upd (ar35 70) ((13 * l) + (n + 1)) (nI c28))) 69) l (nI (n + 1)))) 69 = (upd (ar1 69) l (nI (n + 1))) := by rw [← e36_69]; rfl
                  exact to_rt (i := .return_) (tg := []) rfl rfl ⟨_, _, ⟨hI37, hF37, ⟨⟨(fun x w => (hk37s x (by omega)).trans (hc6_7.1 x w)), (fun x w => by rw [e37_70]; exact ((up_ne (by omega)).trans ((up_ne (by omega)).trans (hc6_7.2.1 x w)))), (fun x w => by rw [e37_69]; exact ((up_ne (by omega)).trans (hc6_7.2.2 x w)))⟩, Or.inl hb35⟩⟩, rfl⟩
            · refine to_n 2 (fr' := (56, [(0, .ref 49), (1, .int (nI n)), (2, .int (nI n5))], [.int 2, .ref 49], gh S a b sc1 ar1 lo, ex, 0, 0)) rfl ?_
              refine to_cv (q := 124) (M1 := an_X10_wrong) (rest := []) rfl rfl (by decide) rfl ⟨_, rfl⟩ (sf_X10_wrong hW hI1 2 (d + 30)) (fun sc38 ar38 hx38 => ?_)
              obtain ⟨hI38, hG38, hx38⟩ := hx38
              have hb38 := hx38 (by decide)
              have k38_4907 : sc38 4907 = (nI l) := (hG38.1 4907 (by decide)).trans hc6_2
              have k38_4934 : sc38 4934 = (nI c1) := (hG38.1 4934 (by decide)).trans hc6_0
              have k38_4939 : sc38 4939 = (nI B1) := (hG38.1 4939 (by decide)).trans hc6_1
              have hk38 : ∀ x, x < 700 * l + c1 → ar38 71 x = ar1 71 x := kp_st (fun _ _ => rfl) hG38 (by decide)
              have hF38 := fr_t hF1 hG38 (by decide) (by decide)
              have e38_70 : ar38 70 = (ar1 70) := (hG38.2 70 (by decide)).trans rfl
              have e38_69 : ar38 69 = (ar1 69) := (hG38.2 69 (by decide)).trans rfl
              refine to_eq (fr' := (59, [(0, .ref 49), (1, .int (nI n)), (2, .int (nI n5))], [], gh S a b sc38 ar38 lo, ex, 0, 0)) rfl ?_
              refine to_n 1 (fr' := (60, [(0, .ref 49), (1, .int (nI n)), (2, .int (nI n5))], [.ref 49], gh S a b sc38 ar38 lo, ex, 0, 0)) rfl ?_
              refine to_getR (v := (sc38 4941)) rfl rfl rfl rfl rfl ?_
              refine to_if_eq_F (t := 67) rfl hb38 ?_
              exact to_rt (i := .return_) (tg := []) rfl rfl ⟨_, _, ⟨hI38, hF38, ⟨⟨(fun x w => (hk38 x (by omega)).trans (hc6_7.1 x w)), (fun x w => by rw [e38_70]; exact (hc6_7.2.1 x w)), (fun x w => by rw [e38_69]; exact (hc6_7.2.2 x w))⟩, Or.inl hb38⟩⟩, rfl⟩
          · refine to_n 2 (fr' := (42, [(0, .ref 49), (1, .int (nI n)), (2, .int (nI n5))], [.int 1, .ref 49], gh S a b sc1 ar1 lo, ex, 0, 0)) rfl ?_
            refine to_cv (q := 124) (M1 := an_X10_wrong) (rest := []) rfl rfl (by decide) rfl ⟨_, rfl⟩ (sf_X10_wrong hW hI1 1 (d + 30)) (fun sc39 ar39 hx39 => ?_)
            obtain ⟨hI39, hG39, hx39⟩ := hx39
            have hb39 := hx39 (by decide)
            have k39_4907 : sc39 4907 = (nI l) := (hG39.1 4907 (by decide)).trans hc6_2
            have k39_4934 : sc39 4934 = (nI c1) := (hG39.1 4934 (by decide)).trans hc6_0
            have k39_4939 : sc39 4939 = (nI B1) := (hG39.1 4939 (by decide)).trans hc6_1
            have hk39 : ∀ x, x < 700 * l + c1 → ar39 71 x = ar1 71 x := kp_st (fun _ _ => rfl) hG39 (by decide)
            have hF39 := fr_t hF1 hG39 (by decide) (by decide)
            have e39_70 : ar39 70 = (ar1 70) := (hG39.2 70 (by decide)).trans rfl
            have e39_69 : ar39 69 = (ar1 69) := (hG39.2 69 (by decide)).trans rfl
            refine to_eq (fr' := (45, [(0, .ref 49), (1, .int (nI n)), (2, .int (nI n5))], [], gh S a b sc39 ar39 lo, ex, 0, 0)) rfl ?_
            refine to_n 2 (fr' := (60, [(0, .ref 49), (1, .int (nI n)), (2, .int (nI n5))], [.ref 49], gh S a b sc39 ar39 lo, ex, 0, 0)) rfl ?_
            refine to_getR (v := (sc39 4941)) rfl rfl rfl rfl rfl ?_
            refine to_if_eq_F (t := 67) rfl hb39 ?_
            exact to_rt (i := .return_) (tg := []) rfl rfl ⟨_, _, ⟨hI39, hF39, ⟨⟨(fun x w => (hk39 x (by omega)).trans (hc6_7.1 x w)), (fun x w => by rw [e39_70]; exact (hc6_7.2.1 x w)), (fun x w => by rw [e39_69]; exact (hc6_7.2.2 x w))⟩, Or.inl hb39⟩⟩, rfl⟩
  refine to_n 1 (fr' := (1, [(0, .ref 49)], [.ref 49], gh S a b sc ar lo, ex, 0, 0)) rfl ?_
  refine to_cv (q := 121) (M1 := an_X10_step) (rest := []) rfl rfl (by decide) rfl ⟨_, rfl⟩ (sf_X10_step hW hI 0 r (by omega) (by omega) ea er (d + 29)) (fun sc40 ar40 hx40 => ?_)
  obtain ⟨hI40, hG40, B40, q40, v1, v2, v3, v4, v5, v6, v7⟩ := hx40
  have hz40 : Pz sc40 := ⟨B40, q40, r, v1, v2, v3, (hG40.1 4936 (by decide)).trans er, v5, v6, by omega, v7⟩
  have k40_4907 : sc40 4907 = (nI l) := (hG40.1 4907 (by decide)).trans el
  have k40_4934 : sc40 4934 = (nI 0) := (hG40.1 4934 (by decide)).trans ec
  have k40_4941 : sc40 4941 = 0 := (hG40.1 4941 (by decide)).trans eb
  have hk40 : ∀ x, x < 700 * l + 0 → ar40 71 x = ar 71 x := kp_st (fun _ _ => rfl) hG40 (by decide)
  have hF40 := fr_t hF hG40 (by decide) (by decide)
  have e40_70 : ar40 70 = (ar 70) := (hG40.2 70 (by decide)).trans rfl
  have e40_69 : ar40 69 = (ar 69) := (hG40.2 69 (by decide)).trans rfl
  refine to_eq (fr' := (4, [(0, .ref 49)], [], gh S a b sc40 ar40 lo, ex, 0, 0)) rfl ?_
  refine to_n 2 (fr' := (6, [(0, .ref 49), (1, .int 0)], [], gh S a b sc40 ar40 lo, ex, 0, 0)) rfl ?_
  exact c6 401 0 0 B40 sc40 ar40 (by omega) k40_4934 v1 k40_4907 k40_4941 hz40 (by omega) (by omega) ⟨(fun x w => hk40 x (by omega)), (fun x w => congrFun e40_70 x), (fun x w => congrFun e40_69 x)⟩ ru_0 (by omega) hI40 hF40
theorem lw_more {sc sc' : Nat → Int32} {ar ar' : Nat → Nat → Int32} {l : Nat} (h : Lw sc ar) (hl : l < 6) (e0 : sc 4907 = nI l) (e1 : sc' 4907 = nI (l + 1)) (hk : Kl ar ar' l) (hn : Ln ar' l) : Lw sc' ar' := by
  intro n k m r f g w0 hn7 hk1 w1 hm hr w2 hf w3 hg
  obtain rfl : l + 1 = n := (nI_eq (by omega) (by omega)).mp (e1.symm.trans w0)
  by_cases e : k = l
  · subst e
    obtain ⟨m', hm', q1, F, q2, q3⟩ := hn
    obtain rfl : m' = m := (nI_eq (by omega) (by omega)).mp (q1.symm.trans w1)
    obtain ⟨b1, b2⟩ := q2 r (by omega)
    obtain ⟨b3, b4⟩ := q2 (r + 1) (by omega)
    obtain rfl : F r = f := (nI_eq (by omega) (by omega)).mp (b2.symm.trans w2)
    obtain rfl : F (r + 1) = g := (nI_eq (by omega) (by omega)).mp (b4.symm.trans w3)
    exact q3 r hr
  · have hkl : k < l := by omega
    have u1 := (hk.2.2 k hkl).symm.trans w1
    have u2 := (hk.2.1 (13 * k + r) (by omega)).symm.trans w2
    have u3 := (hk.2.1 (13 * k + r + 1) (by omega)).symm.trans w3
    exact tk_ag (fun x hx => hk.1 x (by omega)) 701 _ 0 (h l k m r f g e0 (by omega) hkl u1 hm hr u2 hf u3 hg)
theorem lw_kl {sc sc' : Nat → Int32} {ar ar' : Nat → Nat → Int32} {l : Nat} (h : Lw sc ar) (hl : l < 7) (e0 : sc 4907 = nI l) (e1 : sc' 4907 = nI l) (hk : Kl ar ar' l) : Lw sc' ar' := by
  intro n k m r f g w0 hn7 hkl w1 hm hr w2 hf w3 hg
  obtain rfl : l = n := (nI_eq (by omega) (by omega)).mp (e1.symm.trans w0)
  have u1 := (hk.2.2 k hkl).symm.trans w1
  have u2 := (hk.2.1 (13 * k + r) (by omega)).symm.trans w2
  have u3 := (hk.2.1 (13 * k + r + 1) (by omega)).symm.trans w3
  exact tk_ag (fun x hx => hk.1 x (by omega)) 701 _ 0 (h l k m r f g e0 (by omega) hkl u1 hm hr u2 hf u3 hg)
set_option maxRecDepth 20000 in
theorem sf_X10_law {X : Nat × (Nat → Int32)} {S a b : Nat} {sc : Nat → Int32} {ar : Nat → Nat → Int32} {lo : Nat → Int64} {ex : Bool} (hW : Wd S a b) (hI : Iv S sc ar) (x1 : Int32) (x2 : Int32) (hL : Lw sc ar) (d : Nat)  : ci X S a b (d + 33) 131 [.ref 49, .int x1, .int x2] sc ar lo ex (fun x sc' ar' => Iv S sc' ar' ∧ Fr [4901, 4907, 4908, 4909, 4934, 4935, 4936, 4937, 4938, 4939, 4940, 4941, 4942] [68, 69, 70, 71, 73] sc ar sc' ar' ∧ (Lw sc' ar' ∧ (LwV 4908 x1 x2 sc sc' ∨ (LwT 4908 x1 x2 sc ∧ sc' 4908 = sc 4908)))) := by
  obtain ⟨ha1, ha8, hb1, hb8, hab, hS1, hS⟩ := id hW
  obtain ⟨n0, hn0, en⟩ := iv_s4907 hI
  obtain ⟨s0, hs0, es0⟩ := iv_s4908 hI
  refine ci_of (M := an_X10_law) rfl (Nat.le_of_ble_eq_true rfl) ?_
  have hF : Fr [4901, 4907, 4908, 4909, 4934, 4935, 4936, 4937, 4938, 4939, 4940, 4941, 4942] [68, 69, 70, 71, 73] sc ar sc ar := fr_0
  refine to_eq (fr' := (0, [(0, .ref 49), (1, .int x1), (2, .int x2)], [], gh S a b sc ar lo, ex, 0, 0)) rfl ?_
  refine to_n 2 (fr' := (2, [(0, .ref 49), (1, .int x1), (2, .int x2)], [.int 0, .ref 49], gh S a b sc ar lo, ex, 0, 0)) rfl ?_
  refine to_putR (h' := gh S a b (upd sc 4901 0) ar lo) rfl rfl rfl (Nat.le_of_ble_eq_true rfl) rfl rfl ?_
  have hI1 := ip_4901 (v := 0) hI 
  have hF1 := fr_s (k := 4901) (v := 0) hF (by decide)
  refine to_n 1 (fr' := (6, [(0, .ref 49), (1, .int x1), (2, .int x2)], [.int x1], gh S a b (upd sc 4901 0) ar lo, ex, 0, 0)) rfl ?_
  refine to_if_lt (t := 27) rfl (fun q2 => ?_) (fun q2 => ?_)
  · refine to_n 1 (fr' := (28, [(0, .ref 49), (1, .int x1), (2, .int x2)], [.ref 49], gh S a b (upd sc 4901 0) ar lo, ex, 0, 0)) rfl ?_
    refine to_ci (q := 108) (M1 := an_X10_fail) (rest := []) rfl rfl (by decide) rfl ⟨_, rfl⟩ (sf_X10_fail hW hI1  (d + 31)) (fun x4 sc4 ar4 hx4 => ?_)
    obtain ⟨hI4, hG4, hx4⟩ := hx4
    have hF4 := fr_t hF1 hG4 (by decide) (by decide)
    have k4_4907 : sc4 4907 = (nI n0) := (hG4.1 4907 (by decide)).trans en
    have hp4 := hx4
    have hLf4 : Fr [4901, 4908, 4909] [] sc ar sc4 ar4 := fr_t (fr_s (k := 4901) (v := 0) fr_0 (by decide)) hG4 (by decide) (by decide)
    refine to_eq (fr' := (31, [(0, .ref 49), (1, .int x1), (2, .int x2)], [.int x4], gh S a b sc4 ar4 lo, ex, 0, 0)) rfl ?_
    exact to_rt (i := .ireturn) (tg := []) rfl rfl ⟨_, _, _, ⟨hI4, hF4, ⟨(lw_fr (L := [4901, 4908, 4909]) (A := []) hL hLf4 (by decide) (by decide) (by decide) (by decide)), (Or.inr ⟨(fun s n hs es e hn hx => nI_neg (by omega) q2 e.symm), hG4.1 4908 (by decide)⟩)⟩⟩, rfl⟩
  · obtain ⟨n3, hn3, e3⟩ := nI_of q2
    refine to_eq (fr' := (9, [(0, .ref 49), (1, .int (nI n3)), (2, .int x2)], [], gh S a b (upd sc 4901 0) ar lo, ex, 0, 0)) (by rw [e3]) ?_
    refine to_eq (fr' := (9, [(0, .ref 49), (1, .int (nI n3)), (2, .int x2)], [], gh S a b (upd sc 4901 0) ar lo, ex, 0, 0)) rfl ?_
    refine to_n 2 (fr' := (11, [(0, .ref 49), (1, .int (nI n3)), (2, .int x2)], [.ref 49, .int (nI n3)], gh S a b (upd sc 4901 0) ar lo, ex, 0, 0)) rfl ?_
    refine to_getR (v := (nI s0)) rfl rfl rfl rfl es0 ?_
    refine to_nc_gt (t := 27) (x := n3) (y := s0) rfl (by omega) (by omega) (fun q5 => ?_) (fun q5 => ?_)
    · refine to_n 1 (fr' := (28, [(0, .ref 49), (1, .int (nI n3)), (2, .int x2)], [.ref 49], gh S a b (upd sc 4901 0) ar lo, ex, 0, 0)) rfl ?_
      refine to_ci (q := 108) (M1 := an_X10_fail) (rest := []) rfl rfl (by decide) rfl ⟨_, rfl⟩ (sf_X10_fail hW hI1  (d + 31)) (fun x6 sc6 ar6 hx6 => ?_)
      obtain ⟨hI6, hG6, hx6⟩ := hx6
      have hF6 := fr_t hF1 hG6 (by decide) (by decide)
      have k6_4907 : sc6 4907 = (nI n0) := (hG6.1 4907 (by decide)).trans en
      have hp6 := hx6
      have hLf6 : Fr [4901, 4908, 4909] [] sc ar sc6 ar6 := fr_t (fr_s (k := 4901) (v := 0) fr_0 (by decide)) hG6 (by decide) (by decide)
      refine to_eq (fr' := (31, [(0, .ref 49), (1, .int (nI n3)), (2, .int x2)], [.int x6], gh S a b sc6 ar6 lo, ex, 0, 0)) rfl ?_
      exact to_rt (i := .ireturn) (tg := []) rfl rfl ⟨_, _, _, ⟨hI6, hF6, ⟨(lw_fr (L := [4901, 4908, 4909]) (A := []) hL hLf6 (by decide) (by decide) (by decide) (by decide)), (Or.inr ⟨(fun s n hs es e hn hx => by have a1 : s0 = s := (nI_eq (by omega) (by omega)).mp (es0.symm.trans es); have a2 : n3 = n := (nI_eq (by omega) (by omega)).mp (e3.symm.trans e); omega), hG6.1 4908 (by decide)⟩)⟩⟩, rfl⟩
    · refine to_n 1 (fr' := (18, [(0, .ref 49), (1, .int (nI n3)), (2, .int x2)], [.int x2], gh S a b (upd sc 4901 0) ar lo, ex, 0, 0)) rfl ?_
      refine to_if_lt (t := 27) rfl (fun q7 => ?_) (fun q7 => ?_)
      · refine to_n 1 (fr' := (28, [(0, .ref 49), (1, .int (nI n3)), (2, .int x2)], [.ref 49], gh S a b (upd sc 4901 0) ar lo, ex, 0, 0)) rfl ?_
        refine to_ci (q := 108) (M1 := an_X10_fail) (rest := []) rfl rfl (by decide) rfl ⟨_, rfl⟩ (sf_X10_fail hW hI1  (d + 31)) (fun x8 sc8 ar8 hx8 => ?_)
        obtain ⟨hI8, hG8, hx8⟩ := hx8
        have hF8 := fr_t hF1 hG8 (by decide) (by decide)
        have k8_4907 : sc8 4907 = (nI n0) := (hG8.1 4907 (by decide)).trans en
        have hp8 := hx8
        have hLf8 : Fr [4901, 4908, 4909] [] sc ar sc8 ar8 := fr_t (fr_s (k := 4901) (v := 0) fr_0 (by decide)) hG8 (by decide) (by decide)
        refine to_eq (fr' := (31, [(0, .ref 49), (1, .int (nI n3)), (2, .int x2)], [.int x8], gh S a b sc8 ar8 lo, ex, 0, 0)) rfl ?_
        exact to_rt (i := .ireturn) (tg := []) rfl rfl ⟨_, _, _, ⟨hI8, hF8, ⟨(lw_fr (L := [4901, 4908, 4909]) (A := []) hL hLf8 (by decide) (by decide) (by decide) (by decide)), (Or.inr ⟨(fun s n hs es e hn hx => Int32.not_lt.mpr hx.1 q7), hG8.1 4908 (by decide)⟩)⟩⟩, rfl⟩
      · refine to_n 2 (fr' := (24, [(0, .ref 49), (1, .int (nI n3)), (2, .int x2)], [.int 100, .int x2], gh S a b (upd sc 4901 0) ar lo, ex, 0, 0)) rfl ?_
        refine to_ic_le (t := 32) rfl (fun q9 => ?_) (fun q9 => ?_)
        · refine to_n 2 (fr' := (34, [(0, .ref 49), (1, .int (nI n3)), (2, .int x2)], [.int 0, .ref 49], gh S a b (upd sc 4901 0) ar lo, ex, 0, 0)) rfl ?_
          refine to_putR (h' := gh S a b (upd (upd sc 4901 0) 4908 0) ar lo) rfl rfl rfl (Nat.le_of_ble_eq_true rfl) rfl rfl ?_
          have hI10 := ip_4908 (v := 0) hI1 (rl_n (n := 0) (by omega))
          have hF10 := fr_s (k := 4908) (v := 0) hF1 (by decide)
          refine to_n 2 (fr' := (39, [(0, .ref 49), (1, .int (nI n3)), (2, .int x2)], [.int (-1), .ref 49], gh S a b (upd (upd sc 4901 0) 4908 0) ar lo, ex, 0, 0)) rfl ?_
          refine to_putR (h' := gh S a b (upd (upd (upd sc 4901 0) 4908 0) 4909 (-1)) ar lo) rfl rfl rfl (Nat.le_of_ble_eq_true rfl) rfl rfl ?_
          have hI11 := ip_4909 (v := (-1)) hI10 
          have hF11 := fr_s (k := 4909) (v := (-1)) hF10 (by decide)
          refine to_n 1 (fr' := (43, [(0, .ref 49), (1, .int (nI n3)), (2, .int x2)], [.ref 49], gh S a b (upd (upd (upd sc 4901 0) 4908 0) 4909 (-1)) ar lo, ex, 0, 0)) rfl ?_
          refine to_getR (v := (nI n0)) rfl rfl rfl rfl en ?_
          refine to_n 1 (fr' := (48, [(0, .ref 49), (1, .int (nI n3)), (2, .int x2)], [.int 6, .int (nI n0)], gh S a b (upd (upd (upd sc 4901 0) 4908 0) 4909 (-1)) ar lo, ex, 0, 0)) rfl ?_
          refine to_nc_ne (t := 54) (x := n0) (y := 6) rfl (by omega) (by omega) (fun q12 => ?_) (fun q12 => ?_)
          · refine to_n 2 (fr' := (56, [(0, .ref 49), (1, .int (nI n3)), (2, .int x2)], [.int (nI n3), .ref 49], gh S a b (upd (upd (upd sc 4901 0) 4908 0) 4909 (-1)) ar lo, ex, 0, 0)) rfl ?_
            refine to_putR (h' := gh S a b (upd (upd (upd (upd sc 4901 0) 4908 0) 4909 (-1)) 4936 (nI n3)) ar lo) rfl rfl rfl (Nat.le_of_ble_eq_true rfl) rfl rfl ?_
            have hI13 := ip_4936 (v := (nI n3)) hI11 (rl_n (n := n3) (by omega))
            have hF13 := fr_s (k := 4936) (v := (nI n3)) hF11 (by decide)
            refine to_n 2 (fr' := (61, [(0, .ref 49), (1, .int (nI n3)), (2, .int x2)], [.int 0, .ref 49], gh S a b (upd (upd (upd (upd sc 4901 0) 4908 0) 4909 (-1)) 4936 (nI n3)) ar lo, ex, 0, 0)) rfl ?_
            refine to_putR (h' := gh S a b (upd (upd (upd (upd (upd sc 4901 0) 4908 0) 4909 (-1)) 4936 (nI n3)) 4935 0) ar lo) rfl rfl rfl (Nat.le_of_ble_eq_true rfl) rfl rfl ?_
            have hI14 := ip_4935 (v := 0) hI13 (rl_n (n := 0) (by omega))
            have hF14 := fr_s (k := 4935) (v := 0) hF13 (by decide)
            refine to_n 2 (fr' := (66, [(0, .ref 49), (1, .int (nI n3)), (2, .int x2)], [.int 0, .ref 49], gh S a b (upd (upd (upd (upd (upd sc 4901 0) 4908 0) 4909 (-1)) 4936 (nI n3)) 4935 0) ar lo, ex, 0, 0)) rfl ?_
            refine to_putR (h' := gh S a b (upd (upd (upd (upd (upd (upd sc 4901 0) 4908 0) 4909 (-1)) 4936 (nI n3)) 4935 0) 4941 0) ar lo) rfl rfl rfl (Nat.le_of_ble_eq_true rfl) rfl rfl ?_
            have hI15 := ip_4941 (v := 0) hI14 
            have hF15 := fr_s (k := 4941) (v := 0) hF14 (by decide)
            refine to_n 2 (fr' := (71, [(0, .ref 49), (1, .int (nI n3)), (2, .int x2)], [.int 0, .ref 49], gh S a b (upd (upd (upd (upd (upd (upd sc 4901 0) 4908 0) 4909 (-1)) 4936 (nI n3)) 4935 0) 4941 0) ar lo, ex, 0, 0)) rfl ?_
            refine to_putR (h' := gh S a b (upd (upd (upd (upd (upd (upd (upd sc 4901 0) 4908 0) 4909 (-1)) 4936 (nI n3)) 4935 0) 4941 0) 4934 0) ar lo) rfl rfl rfl (Nat.le_of_ble_eq_true rfl) rfl rfl ?_
            have hI16 := ip_4934 (v := 0) hI15 (rl_n (n := 0) (by omega))
            have hF16 := fr_s (k := 4934) (v := 0) hF15 (by decide)
            refine to_n 1 (fr' := (75, [(0, .ref 49), (1, .int (nI n3)), (2, .int x2)], [.ref 49], gh S a b (upd (upd (upd (upd (upd (upd (upd sc 4901 0) 4908 0) 4909 (-1)) 4936 (nI n3)) 4935 0) 4941 0) 4934 0) ar lo, ex, 0, 0)) rfl ?_
            refine to_cv (q := 126) (M1 := an_X10_readLaw) (rest := []) rfl rfl (by decide) rfl ⟨_, rfl⟩ (rd_readLaw hW hI16 n0 n3 (by omega) (by omega) en rfl rfl rfl rfl d) (fun sc17 ar17 hx17 => ?_)
            obtain ⟨hI17, hG17, hk17, hr17⟩ := hx17
            have hF17 := fr_t hF16 hG17 (by decide) (by decide)
            have k17_4907 : sc17 4907 = (nI n0) := (hG17.1 4907 (by decide)).trans en
            rcases hr17 with hb17 | ⟨hb17, hn17⟩
            · have k17_4908 : sc17 4908 = 0 := (hG17.1 4908 (by decide)).trans rfl
              refine to_eq (fr' := (78, [(0, .ref 49), (1, .int (nI n3)), (2, .int x2)], [], gh S a b sc17 ar17 lo, ex, 0, 0)) rfl ?_
              refine to_n 1 (fr' := (79, [(0, .ref 49), (1, .int (nI n3)), (2, .int x2)], [.ref 49], gh S a b sc17 ar17 lo, ex, 0, 0)) rfl ?_
              refine to_getR (v := (sc17 4941)) rfl rfl rfl rfl rfl ?_
              refine to_if_eq_F (t := 100) rfl hb17 ?_
              refine to_n 2 (fr' := (87, [(0, .ref 49), (1, .int (nI n3)), (2, .int x2)], [.ref 49, .ref 49], gh S a b sc17 ar17 lo, ex, 0, 0)) rfl ?_
              refine to_getR (v := (sc17 4942)) rfl rfl rfl rfl rfl ?_
              refine to_putR (h' := gh S a b (upd sc17 4909 (sc17 4942)) ar17 lo) rfl rfl rfl (Nat.le_of_ble_eq_true rfl) rfl rfl ?_
              have hI18 := ip_4909 (v := (sc17 4942)) hI17 
              have hF18 := fr_s (k := 4909) (v := (sc17 4942)) hF17 (by decide)
              refine to_n 2 (fr' := (95, [(0, .ref 49), (1, .int (nI n3)), (2, .int x2)], [.ref 49, .int (-1)], gh S a b (upd sc17 4909 (sc17 4942)) ar17 lo, ex, 0, 0)) rfl ?_
              refine to_getR (v := ((upd sc17 4909 (sc17 4942)) 4941)) rfl rfl rfl rfl rfl ?_
              refine to_n 1 (fr' := (99, [(0, .ref 49), (1, .int (nI n3)), (2, .int x2)], [.int ((-1) - ((upd sc17 4909 (sc17 4942)) 4941))], gh S a b (upd sc17 4909 (sc17 4942)) ar17 lo, ex, 0, 0)) rfl ?_
              exact to_rt (i := .ireturn) (tg := []) rfl rfl ⟨_, _, _, ⟨hI18, hF18, ⟨(lw_kl hL (by omega) en k17_4907 hk17), (Or.inl ⟨s0, n3, by omega, es0, e3, by omega, ⟨Int32.not_lt.mp q7, q9⟩, k17_4908⟩)⟩⟩, rfl⟩
            · have k17_4908 : sc17 4908 = 0 := (hG17.1 4908 (by decide)).trans rfl
              refine to_eq (fr' := (78, [(0, .ref 49), (1, .int (nI n3)), (2, .int x2)], [], gh S a b sc17 ar17 lo, ex, 0, 0)) rfl ?_
              refine to_n 1 (fr' := (79, [(0, .ref 49), (1, .int (nI n3)), (2, .int x2)], [.ref 49], gh S a b sc17 ar17 lo, ex, 0, 0)) rfl ?_
              refine to_getR (v := 0) rfl rfl rfl rfl hb17 ?_
              refine to_n 2 (fr' := (101, [(0, .ref 49), (1, .int (nI n3)), (2, .int x2)], [.ref 49], gh S a b sc17 ar17 lo, ex, 0, 0)) rfl ?_
              refine to_get rfl rfl rfl rfl ?_
              refine to_n 1 (fr' := (105, [(0, .ref 49), (1, .int (nI n3)), (2, .int x2)], [.ref 49, .ref 68], gh S a b sc17 ar17 lo, ex, 0, 0)) rfl ?_
              refine to_getR (v := (nI n0)) rfl rfl rfl rfl k17_4907 ?_
              refine to_n 1 (fr' := (109, [(0, .ref 49), (1, .int (nI n3)), (2, .int x2)], [.int x2, .int (nI n0), .ref 68], gh S a b sc17 ar17 lo, ex, 0, 0)) rfl ?_
              refine to_iasR (i := n0) (h' := gh S a b sc17 (uA ar17 68 (upd (ar17 68) n0 x2)) lo) rfl rfl (by omega) (by omega) rfl ?_
              have hI19 := ia_68 (g := (upd (ar17 68) n0 x2)) hI17
              have hF19 := fr_a (c := 68) (g := (upd (ar17 68) n0 x2)) hF17 (by decide)
              refine to_n 2 (fr' := (112, [(0, .ref 49), (1, .int (nI n3)), (2, .int x2)], [.ref 49, .ref 49], gh S a b sc17 (uA ar17 68 (upd (ar17 68) n0 x2)) lo, ex, 0, 0)) rfl ?_
              refine to_getR (v := (nI n0)) rfl rfl rfl rfl k17_4907 ?_
              refine to_n 1 (fr' := (116, [(0, .ref 49), (1, .int (nI n3)), (2, .int x2)], [.int 1, .int (nI n0), .ref 49], gh S a b sc17 (uA ar17 68 (upd (ar17 68) n0 x2)) lo, ex, 0, 0)) rfl ?_
              refine to_addN (x := n0) (y := 1) rfl ?_
              refine to_putR (h' := gh S a b (upd sc17 4907 (nI (n0 + 1))) (uA ar17 68 (upd (ar17 68) n0 x2)) lo) rfl rfl rfl (Nat.le_of_ble_eq_true rfl) rfl rfl ?_
              have hI20 := ip_4907 (v := (nI (n0 + 1))) hI19 (rl_n (n := (n0 + 1)) (by omega))
              have hF20 := fr_s (k := 4907) (v := (nI (n0 + 1))) hF19 (by decide)
              refine to_n 1 (fr' := (121, [(0, .ref 49), (1, .int (nI n3)), (2, .int x2)], [.ref 49], gh S a b (upd sc17 4907 (nI (n0 + 1))) (uA ar17 68 (upd (ar17 68) n0 x2)) lo, ex, 0, 0)) rfl ?_
              refine to_getR (v := (nI (n0 + 1))) rfl rfl rfl rfl rfl ?_
              refine to_n 1 (fr' := (125, [(0, .ref 49), (1, .int (nI n3)), (2, .int x2)], [.int 1, .int (nI (n0 + 1))], gh S a b (upd sc17 4907 (nI (n0 + 1))) (uA ar17 68 (upd (ar17 68) n0 x2)) lo, ex, 0, 0)) rfl ?_
              refine to_subN (x := (n0 + 1)) (y := 1) rfl (by omega) ?_
              exact to_rt (i := .ireturn) (tg := []) rfl rfl ⟨_, _, _, ⟨hI20, hF20, ⟨(lw_more hL (by omega) en rfl hk17 hn17), (Or.inl ⟨s0, n3, by omega, es0, e3, by omega, ⟨Int32.not_lt.mp q7, q9⟩, k17_4908⟩)⟩⟩, rfl⟩
          · refine to_n 1 (fr' := (53, [(0, .ref 49), (1, .int (nI n3)), (2, .int x2)], [.int (-9)], gh S a b (upd (upd (upd sc 4901 0) 4908 0) 4909 (-1)) ar lo, ex, 0, 0)) rfl ?_
            exact to_rt (i := .ireturn) (tg := []) rfl rfl ⟨_, _, _, ⟨hI11, hF11, ⟨(lw_fr (L := [4901, 4908, 4909]) (A := []) hL (fr_s (k := 4909) (v := (-1)) (fr_s (k := 4908) (v := 0) (fr_s (k := 4901) (v := 0) fr_0 (by decide)) (by decide)) (by decide)) (by decide) (by decide) (by decide) (by decide)), (Or.inl ⟨s0, n3, by omega, es0, e3, by omega, ⟨Int32.not_lt.mp q7, q9⟩, rfl⟩)⟩⟩, rfl⟩
        · refine to_n 1 (fr' := (28, [(0, .ref 49), (1, .int (nI n3)), (2, .int x2)], [.ref 49], gh S a b (upd sc 4901 0) ar lo, ex, 0, 0)) rfl ?_
          refine to_ci (q := 108) (M1 := an_X10_fail) (rest := []) rfl rfl (by decide) rfl ⟨_, rfl⟩ (sf_X10_fail hW hI1  (d + 31)) (fun x21 sc21 ar21 hx21 => ?_)
          obtain ⟨hI21, hG21, hx21⟩ := hx21
          have hF21 := fr_t hF1 hG21 (by decide) (by decide)
          have k21_4907 : sc21 4907 = (nI n0) := (hG21.1 4907 (by decide)).trans en
          have hp21 := hx21
          have hLf21 : Fr [4901, 4908, 4909] [] sc ar sc21 ar21 := fr_t (fr_s (k := 4901) (v := 0) fr_0 (by decide)) hG21 (by decide) (by decide)
          refine to_eq (fr' := (31, [(0, .ref 49), (1, .int (nI n3)), (2, .int x2)], [.int x21], gh S a b sc21 ar21 lo, ex, 0, 0)) rfl ?_
          exact to_rt (i := .ireturn) (tg := []) rfl rfl ⟨_, _, _, ⟨hI21, hF21, ⟨(lw_fr (L := [4901, 4908, 4909]) (A := []) hL hLf21 (by decide) (by decide) (by decide) (by decide)), (Or.inr ⟨(fun s n hs es e hn hx => q9 hx.2), hG21.1 4908 (by decide)⟩)⟩⟩, rfl⟩
