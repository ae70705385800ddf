/-! the public methods of the class -/
set_option maxRecDepth 20000 in
theorem sf_X9_feed {X : Nat × (Nat → Int32)} {S a b : Nat} {sc : Nat → Int32} {ar : Nat → Nat → Int32} {lo : Nat → Int64} {ex : Bool} (hW : Wd S a b) (hI : Iv S sc ar) (x1 : Int32) (x2 : Int32) (x3 : Int32) (x4 : Int32) (x5 : Int32) (d : Nat)  : ci X S a b (d + 2) 77 [.ref 0, .int x1, .int x2, .int x3, .int x4, .int x5] sc ar lo ex (fun x sc' ar' => Iv S sc' ar' ∧ Fr [2201] [23] sc ar sc' ar' ∧ (fe_P 2201 x sc sc' ∧ ((x = -1 ∧ ar' 23 = ar 23) ∨ ∃ s : Nat, sc 2201 = nI s ∧ s + 20 ≤ 400 ∧ (∀ t, t < s → ar' 23 t = ar 23 t) ∧ ∀ m, m < 20 → ar' 23 (s + m) = vp_nar .byte ((fz_ x1 x2 x3 x4 x5 m).toInt8.toInt32)))) := by
  obtain ⟨ha1, ha8, hb1, hb8, hab, hS1, hS⟩ := id hW
  obtain ⟨s0, hs0, es0⟩ := iv_s2201 hI
  refine ci_of (M := an_X9_feed) rfl (Nat.le_of_ble_eq_true rfl) ?_
  have hF : Fr [2201] [23] sc ar sc ar := fr_0
  refine to_eq (fr' := (0, [(0, .ref 0), (1, .int x1), (2, .int x2), (3, .int x3), (4, .int x4), (5, .int x5)], [], gh S a b sc ar lo, ex, 0, 0)) rfl ?_
  refine to_n 1 (fr' := (1, [(0, .ref 0), (1, .int x1), (2, .int x2), (3, .int x3), (4, .int x4), (5, .int x5)], [.ref 0], gh S a b sc ar lo, ex, 0, 0)) rfl ?_
  refine to_get rfl rfl rfl rfl ?_
  refine to_getR (v := (nI s0)) rfl rfl rfl rfl es0 ?_
  refine to_n 1 (fr' := (9, [(0, .ref 0), (1, .int x1), (2, .int x2), (3, .int x3), (4, .int x4), (5, .int x5)], [.int 20, .int (nI s0)], gh S a b sc ar lo, ex, 0, 0)) rfl ?_
  refine to_addN (x := s0) (y := 20) rfl ?_
  refine to_n 1 (fr' := (13, [(0, .ref 0), (1, .int x1), (2, .int x2), (3, .int x3), (4, .int x4), (5, .int x5)], [.int 400, .int (nI (s0 + 20))], gh S a b sc ar lo, ex, 0, 0)) rfl ?_
  refine to_nc_le (t := 18) (x := (s0 + 20)) (y := 400) rfl (by omega) (by omega) (fun q1 => ?_) (fun q1 => ?_)
  · refine to_n 1 (fr' := (19, [(0, .ref 0), (1, .int x1), (2, .int x2), (3, .int x3), (4, .int x4), (5, .int x5)], [.ref 0], gh S a b sc ar lo, ex, 0, 0)) rfl ?_
    refine to_get rfl rfl rfl rfl ?_
    refine to_n 1 (fr' := (23, [(0, .ref 0), (1, .int x1), (2, .int x2), (3, .int x3), (4, .int x4), (5, .int x5)], [.int x1, .ref 22], gh S a b sc ar lo, ex, 0, 0)) rfl ?_
    refine to_cv (q := 55) (M1 := an_X6_put) (rest := []) rfl rfl (by decide) rfl ⟨_, rfl⟩ (sf_X6_put hW hI x1 s0 (by omega) es0 d) (fun sc2 ar2 hx2 => ?_)
    obtain ⟨hI2, hG2, hx2⟩ := hx2
    have hF2 := fr_t hF hG2 (by decide) (by decide)
    obtain ⟨hs2, hl2, a2, b2, c2, d2⟩ := hx2
    have f2_0 : ar2 23 (s0 + 0) = (vp_nar .byte (((x1 >>> (24 &&& 31)) : Int32).toInt8.toInt32)) := a2
    have f2_1 : ar2 23 (s0 + 1) = (vp_nar .byte (((x1 >>> (16 &&& 31)) : Int32).toInt8.toInt32)) := b2
    have f2_2 : ar2 23 (s0 + 2) = (vp_nar .byte (((x1 >>> (8 &&& 31)) : Int32).toInt8.toInt32)) := c2
    have f2_3 : ar2 23 (s0 + 3) = (vp_nar .byte (((x1 >>> (0 &&& 31)) : Int32).toInt8.toInt32)) := d2
    have l2 : ∀ t, t < s0 → ar2 23 t = ar 23 t := hl2
    refine to_eq (fr' := (26, [(0, .ref 0), (1, .int x1), (2, .int x2), (3, .int x3), (4, .int x4), (5, .int x5)], [], gh S a b sc2 ar2 lo, ex, 0, 0)) rfl ?_
    refine to_n 1 (fr' := (27, [(0, .ref 0), (1, .int x1), (2, .int x2), (3, .int x3), (4, .int x4), (5, .int x5)], [.ref 0], gh S a b sc2 ar2 lo, ex, 0, 0)) rfl ?_
    refine to_get rfl rfl rfl rfl ?_
    refine to_n 1 (fr' := (31, [(0, .ref 0), (1, .int x1), (2, .int x2), (3, .int x3), (4, .int x4), (5, .int x5)], [.int x2, .ref 22], gh S a b sc2 ar2 lo, ex, 0, 0)) rfl ?_
    refine to_cv (q := 55) (M1 := an_X6_put) (rest := []) rfl rfl (by decide) rfl ⟨_, rfl⟩ (sf_X6_put hW hI2 x2 (s0 + 4) (by omega) hs2 d) (fun sc3 ar3 hx3 => ?_)
    obtain ⟨hI3, hG3, hx3⟩ := hx3
    have hF3 := fr_t hF2 hG3 (by decide) (by decide)
    obtain ⟨hs3, hl3, a3, b3, c3, d3⟩ := hx3
    have f3_0 : ar3 23 (s0 + 0) = _ := (hl3 _ (by omega)).trans f2_0
    have f3_1 : ar3 23 (s0 + 1) = _ := (hl3 _ (by omega)).trans f2_1
    have f3_2 : ar3 23 (s0 + 2) = _ := (hl3 _ (by omega)).trans f2_2
    have f3_3 : ar3 23 (s0 + 3) = _ := (hl3 _ (by omega)).trans f2_3
    have f3_4 : ar3 23 (s0 + 4) = (vp_nar .byte (((x2 >>> (24 &&& 31)) : Int32).toInt8.toInt32)) := a3
    have f3_5 : ar3 23 (s0 + 5) = (vp_nar .byte (((x2 >>> (16 &&& 31)) : Int32).toInt8.toInt32)) := b3
    have f3_6 : ar3 23 (s0 + 6) = (vp_nar .byte (((x2 >>> (8 &&& 31)) : Int32).toInt8.toInt32)) := c3
    have f3_7 : ar3 23 (s0 + 7) = (vp_nar .byte (((x2 >>> (0 &&& 31)) : Int32).toInt8.toInt32)) := d3
    have l3 : ∀ t, t < s0 → ar3 23 t = ar 23 t := fun t ht => (hl3 t (by omega)).trans (l2 t ht)
    refine to_eq (fr' := (34, [(0, .ref 0), (1, .int x1), (2, .int x2), (3, .int x3), (4, .int x4), (5, .int x5)], [], gh S a b sc3 ar3 lo, ex, 0, 0)) rfl ?_
    refine to_n 1 (fr' := (35, [(0, .ref 0), (1, .int x1), (2, .int x2), (3, .int x3), (4, .int x4), (5, .int x5)], [.ref 0], gh S a b sc3 ar3 lo, ex, 0, 0)) rfl ?_
    refine to_get rfl rfl rfl rfl ?_
    refine to_n 1 (fr' := (39, [(0, .ref 0), (1, .int x1), (2, .int x2), (3, .int x3), (4, .int x4), (5, .int x5)], [.int x3, .ref 22], gh S a b sc3 ar3 lo, ex, 0, 0)) rfl ?_
    refine to_cv (q := 55) (M1 := an_X6_put) (rest := []) rfl rfl (by decide) rfl ⟨_, rfl⟩ (sf_X6_put hW hI3 x3 ((s0 + 4) + 4) (by omega) hs3 d) (fun sc4 ar4 hx4 => ?_)
    obtain ⟨hI4, hG4, hx4⟩ := hx4
    have hF4 := fr_t hF3 hG4 (by decide) (by decide)
    obtain ⟨hs4, hl4, a4, b4, c4, d4⟩ := hx4
    have f4_0 : ar4 23 (s0 + 0) = _ := (hl4 _ (by omega)).trans f3_0
    have f4_1 : ar4 23 (s0 + 1) = _ := (hl4 _ (by omega)).trans f3_1
    have f4_2 : ar4 23 (s0 + 2) = _ := (hl4 _ (by omega)).trans f3_2
    have f4_3 : ar4 23 (s0 + 3) = _ := (hl4 _ (by omega)).trans f3_3
    have f4_4 : ar4 23 (s0 + 4) = _ := (hl4 _ (by omega)).trans f3_4
    have f4_5 : ar4 23 (s0 + 5) = _ := (hl4 _ (by omega)).trans f3_5
    have f4_6 : ar4 23 (s0 + 6) = _ := (hl4 _ (by omega)).trans f3_6
    have f4_7 : ar4 23 (s0 + 7) = _ := (hl4 _ (by omega)).trans f3_7
    have f4_8 : ar4 23 (s0 + 8) = (vp_nar .byte (((x3 >>> (24 &&& 31)) : Int32).toInt8.toInt32)) := a4
    have f4_9 : ar4 23 (s0 + 9) = (vp_nar .byte (((x3 >>> (16 &&& 31)) : Int32).toInt8.toInt32)) := b4
    have f4_10 : ar4 23 (s0 + 10) = (vp_nar .byte (((x3 >>> (8 &&& 31)) : Int32).toInt8.toInt32)) := c4
    have f4_11 : ar4 23 (s0 + 11) = (vp_nar .byte (((x3 >>> (0 &&& 31)) : Int32).toInt8.toInt32)) := d4
    have l4 : ∀ t, t < s0 → ar4 23 t = ar 23 t := fun t ht => (hl4 t (by omega)).trans (l3 t ht)
    refine to_eq (fr' := (42, [(0, .ref 0), (1, .int x1), (2, .int x2), (3, .int x3), (4, .int x4), (5, .int x5)], [], gh S a b sc4 ar4 lo, ex, 0, 0)) rfl ?_
    refine to_n 1 (fr' := (43, [(0, .ref 0), (1, .int x1), (2, .int x2), (3, .int x3), (4, .int x4), (5, .int x5)], [.ref 0], gh S a b sc4 ar4 lo, ex, 0, 0)) rfl ?_
    refine to_get rfl rfl rfl rfl ?_
    refine to_n 1 (fr' := (48, [(0, .ref 0), (1, .int x1), (2, .int x2), (3, .int x3), (4, .int x4), (5, .int x5)], [.int x4, .ref 22], gh S a b sc4 ar4 lo, ex, 0, 0)) rfl ?_
    refine to_cv (q := 55) (M1 := an_X6_put) (rest := []) rfl rfl (by decide) rfl ⟨_, rfl⟩ (sf_X6_put hW hI4 x4 (((s0 + 4) + 4) + 4) (by omega) hs4 d) (fun sc5 ar5 hx5 => ?_)
    obtain ⟨hI5, hG5, hx5⟩ := hx5
    have hF5 := fr_t hF4 hG5 (by decide) (by decide)
    obtain ⟨hs5, hl5, a5, b5, c5, d5⟩ := hx5
    have f5_0 : ar5 23 (s0 + 0) = _ := (hl5 _ (by omega)).trans f4_0
    have f5_1 : ar5 23 (s0 + 1) = _ := (hl5 _ (by omega)).trans f4_1
    have f5_2 : ar5 23 (s0 + 2) = _ := (hl5 _ (by omega)).trans f4_2
    have f5_3 : ar5 23 (s0 + 3) = _ := (hl5 _ (by omega)).trans f4_3
    have f5_4 : ar5 23 (s0 + 4) = _ := (hl5 _ (by omega)).trans f4_4
    have f5_5 : ar5 23 (s0 + 5) = _ := (hl5 _ (by omega)).trans f4_5
    have f5_6 : ar5 23 (s0 + 6) = _ := (hl5 _ (by omega)).trans f4_6
    have f5_7 : ar5 23 (s0 + 7) = _ := (hl5 _ (by omega)).trans f4_7
    have f5_8 : ar5 23 (s0 + 8) = _ := (hl5 _ (by omega)).trans f4_8
    have f5_9 : ar5 23 (s0 + 9) = _ := (hl5 _ (by omega)).trans f4_9
    have f5_10 : ar5 23 (s0 + 10) = _ := (hl5 _ (by omega)).trans f4_10
    have f5_11 : ar5 23 (s0 + 11) = _ := (hl5 _ (by omega)).trans f4_11
    have f5_12 : ar5 23 (s0 + 12) = (vp_nar .byte (((x4 >>> (24 &&& 31)) : Int32).toInt8.toInt32)) := a5
    have f5_13 : ar5 23 (s0 + 13) = (vp_nar .byte (((x4 >>> (16 &&& 31)) : Int32).toInt8.toInt32)) := b5
    have f5_14 : ar5 23 (s0 + 14) = (vp_nar .byte (((x4 >>> (8 &&& 31)) : Int32).toInt8.toInt32)) := c5
    have f5_15 : ar5 23 (s0 + 15) = (vp_nar .byte (((x4 >>> (0 &&& 31)) : Int32).toInt8.toInt32)) := d5
    have l5 : ∀ t, t < s0 → ar5 23 t = ar 23 t := fun t ht => (hl5 t (by omega)).trans (l4 t ht)
    refine to_eq (fr' := (51, [(0, .ref 0), (1, .int x1), (2, .int x2), (3, .int x3), (4, .int x4), (5, .int x5)], [], gh S a b sc5 ar5 lo, ex, 0, 0)) rfl ?_
    refine to_n 1 (fr' := (52, [(0, .ref 0), (1, .int x1), (2, .int x2), (3, .int x3), (4, .int x4), (5, .int x5)], [.ref 0], gh S a b sc5 ar5 lo, ex, 0, 0)) rfl ?_
    refine to_get rfl rfl rfl rfl ?_
    refine to_n 1 (fr' := (57, [(0, .ref 0), (1, .int x1), (2, .int x2), (3, .int x3), (4, .int x4), (5, .int x5)], [.int x5, .ref 22], gh S a b sc5 ar5 lo, ex, 0, 0)) rfl ?_
    refine to_cv (q := 55) (M1 := an_X6_put) (rest := []) rfl rfl (by decide) rfl ⟨_, rfl⟩ (sf_X6_put hW hI5 x5 ((((s0 + 4) + 4) + 4) + 4) (by omega) hs5 d) (fun sc6 ar6 hx6 => ?_)
    obtain ⟨hI6, hG6, hx6⟩ := hx6
    have hF6 := fr_t hF5 hG6 (by decide) (by decide)
    obtain ⟨hs6, hl6, a6, b6, c6, d6⟩ := hx6
    have f6_0 : ar6 23 (s0 + 0) = _ := (hl6 _ (by omega)).trans f5_0
    have f6_1 : ar6 23 (s0 + 1) = _ := (hl6 _ (by omega)).trans f5_1
    have f6_2 : ar6 23 (s0 + 2) = _ := (hl6 _ (by omega)).trans f5_2
    have f6_3 : ar6 23 (s0 + 3) = _ := (hl6 _ (by omega)).trans f5_3
    have f6_4 : ar6 23 (s0 + 4) = _ := (hl6 _ (by omega)).trans f5_4
    have f6_5 : ar6 23 (s0 + 5) = _ := (hl6 _ (by omega)).trans f5_5
    have f6_6 : ar6 23 (s0 + 6) = _ := (hl6 _ (by omega)).trans f5_6
    have f6_7 : ar6 23 (s0 + 7) = _ := (hl6 _ (by omega)).trans f5_7
    have f6_8 : ar6 23 (s0 + 8) = _ := (hl6 _ (by omega)).trans f5_8
    have f6_9 : ar6 23 (s0 + 9) = _ := (hl6 _ (by omega)).trans f5_9
    have f6_10 : ar6 23 (s0 + 10) = _ := (hl6 _ (by omega)).trans f5_10
    have f6_11 : ar6 23 (s0 + 11) = _ := (hl6 _ (by omega)).trans f5_11
    have f6_12 : ar6 23 (s0 + 12) = _ := (hl6 _ (by omega)).trans f5_12
    have f6_13 : ar6 23 (s0 + 13) = _ := (hl6 _ (by omega)).trans f5_13
    have f6_14 : ar6 23 (s0 + 14) = _ := (hl6 _ (by omega)).trans f5_14
    have f6_15 : ar6 23 (s0 + 15) = _ := (hl6 _ (by omega)).trans f5_15
    have f6_16 : ar6 23 (s0 + 16) = (vp_nar .byte (((x5 >>> (24 &&& 31)) : Int32).toInt8.toInt32)) := a6
    have f6_17 : ar6 23 (s0 + 17) = (vp_nar .byte (((x5 >>> (16 &&& 31)) : Int32).toInt8.toInt32)) := b6
    have f6_18 : ar6 23 (s0 + 18) = (vp_nar .byte (((x5 >>> (8 &&& 31)) : Int32).toInt8.toInt32)) := c6
    have f6_19 : ar6 23 (s0 + 19) = (vp_nar .byte (((x5 >>> (0 &&& 31)) : Int32).toInt8.toInt32)) := d6
    have l6 : ∀ t, t < s0 → ar6 23 t = ar 23 t := fun t ht => (hl6 t (by omega)).trans (l5 t ht)
    refine to_eq (fr' := (60, [(0, .ref 0), (1, .int x1), (2, .int x2), (3, .int x3), (4, .int x4), (5, .int x5)], [], gh S a b sc6 ar6 lo, ex, 0, 0)) rfl ?_
    refine to_n 1 (fr' := (61, [(0, .ref 0), (1, .int x1), (2, .int x2), (3, .int x3), (4, .int x4), (5, .int x5)], [.ref 0], gh S a b sc6 ar6 lo, ex, 0, 0)) rfl ?_
    refine to_get rfl rfl rfl rfl ?_
    refine to_getR (v := (nI (((((s0 + 4) + 4) + 4) + 4) + 4))) rfl rfl rfl rfl hs6 ?_
    exact to_rt (i := .ireturn) (tg := []) rfl rfl ⟨_, _, _, ⟨hI6, hF6, ⟨⟨s0, by omega, es0, Or.inl ⟨by omega, by exact congrArg nI (by omega), hs6.trans (congrArg nI (by omega))⟩⟩, Or.inr ⟨s0, es0, by omega, l6, al_20 (P := fun m => ar6 23 (s0 + m) = vp_nar .byte ((fz_ x1 x2 x3 x4 x5 m).toInt8.toInt32)) f6_0 f6_1 f6_2 f6_3 f6_4 f6_5 f6_6 f6_7 f6_8 f6_9 f6_10 f6_11 f6_12 f6_13 f6_14 f6_15 f6_16 f6_17 f6_18 f6_19⟩⟩⟩, rfl⟩
  · refine to_n 1 (fr' := (17, [(0, .ref 0), (1, .int x1), (2, .int x2), (3, .int x3), (4, .int x4), (5, .int x5)], [.int (-1)], gh S a b sc ar lo, ex, 0, 0)) rfl ?_
    exact to_rt (i := .ireturn) (tg := []) rfl rfl ⟨_, _, _, ⟨hI, hF, ⟨⟨s0, by omega, es0, Or.inr ⟨by omega, rfl, rfl⟩⟩, Or.inl ⟨rfl, rfl⟩⟩⟩, rfl⟩
set_option maxRecDepth 20000 in
theorem sf_X9_fault {X : Nat × (Nat → Int32)} {S a b : Nat} {sc : Nat → Int32} {ar : Nat → Nat → Int32} {lo : Nat → Int64} {ex : Bool} (hW : Wd S a b) (hI : Iv S sc ar)  (d : Nat)  : ci X S a b (d + 1) 79 [.ref 0] sc ar lo ex (fun x sc' ar' => Iv S sc' ar' ∧ Fr [] [] sc ar sc' ar' ∧ x = sc 10) := by
  obtain ⟨ha1, ha8, hb1, hb8, hab, hS1, hS⟩ := id hW
  refine ci_of (M := an_X9_fault) rfl (Nat.le_of_ble_eq_true rfl) ?_
  have hF : Fr [] [] sc ar sc ar := fr_0
  refine to_eq (fr' := (0, [(0, .ref 0)], [], gh S a b sc ar lo, ex, 0, 0)) rfl ?_
  refine to_n 1 (fr' := (1, [(0, .ref 0)], [.ref 0], gh S a b sc ar lo, ex, 0, 0)) rfl ?_
  refine to_getR (v := (sc 10)) rfl rfl rfl rfl rfl ?_
  exact to_rt (i := .ireturn) (tg := []) rfl rfl ⟨_, _, _, ⟨hI, hF, rfl⟩, rfl⟩
/-! a law, as both come to it -/
def Be (sc : Nat → Int32) (ar : Nat → Nat → Int32) : Prop := ∀ l i : Nat, l < 7 → sc 2903 = nI l → i < l → ∃ e : Nat, e ≤ 400 * (i + 1) ∧ ar 31 i = nI e
def LwO (tk : Nat → Int32) (pl : Nat → Nat) (sz kt kf kl : Nat) (x1 x2 : Int32) (sc sc' : Nat → Int32) : Prop := ∃ s n l : Nat, s ≤ 400 ∧ sc kt = nI s ∧ x1 = nI n ∧ n ≤ s ∧ (0 ≤ x2 ∧ x2 ≤ 100) ∧ sc' kt = 0 ∧ l ≤ 6 ∧ sc kl = nI l ∧ ((l = 6 ∧ sc' kf = -1 ∧ sc' kl = nI 6) ∨ (l < 6 ∧ ∃ k : Nat, (pLw tk sz 13 0 0 = .inl k ∧ sc' kf = -1 ∧ sc' kl = nI (l + 1)) ∨ (pLw tk sz 13 0 0 = .inr k ∧ sc' kf = nI (pl k) ∧ sc' kl = nI l)))
def LwT (kt : Nat) (x1 x2 : Int32) (sc : Nat → Int32) : Prop := ∀ s n : Nat, s ≤ 400 → sc kt = nI s → x1 = nI n → n ≤ s → (0 ≤ x2 ∧ x2 ≤ 100) → False
theorem lwo_eq {tk : Nat → Int32} {pl : Nat → Nat} {sz kt kf kl kt' kf' kl' : Nat} {x1 x2 : Int32} {sc sc' tc tc' : Nat → Int32} (h : LwO tk pl sz kt kf kl x1 x2 sc sc') (g : LwO tk pl sz kt' kf' kl' x1 x2 tc tc') (el : tc kl' = sc kl) : sc' kt = tc' kt' ∧ sc' kf = tc' kf' ∧ sc' kl = tc' kl' := by
  obtain ⟨s, n, l, h1, h2, h3, h4, h5, h6, h7, h8, h9⟩ := h
  obtain ⟨s', n', l', g1, g2, g3, g4, g5, g6, g7, g8, g9⟩ := g
  obtain rfl : l = l' := (nI_eq (by omega) (by omega)).mp (h8.symm.trans (el.symm.trans g8))
  refine ⟨h6.trans g6.symm, ?_⟩
  rcases h9 with ⟨a1, a2, a3⟩ | ⟨a1, k, a2⟩
  · rcases g9 with ⟨b1, b2, b3⟩ | ⟨b1, k', b2⟩
    · exact ⟨a2.trans b2.symm, a3.trans b3.symm⟩
    · omega
  · rcases g9 with ⟨b1, b2, b3⟩ | ⟨b1, k', b2⟩
    · omega
    · rcases a2 with ⟨c1, c2, c3⟩ | ⟨c1, c2, c3⟩
      · rcases b2 with ⟨d1, d2, d3⟩ | ⟨d1, d2, d3⟩
        · exact ⟨c2.trans d2.symm, c3.trans d3.symm⟩
        · exact absurd (c1.symm.trans d1) (by intro w; cases w)
      · rcases b2 with ⟨d1, d2, d3⟩ | ⟨d1, d2, d3⟩
        · exact absurd (c1.symm.trans d1) (by intro w; cases w)
        · obtain rfl : k = k' := by
            have w := c1.symm.trans d1
            cases w
            rfl
          exact ⟨c2.trans d2.symm, c3.trans d3.symm⟩
theorem lw_tno {kt kf kl sz : Nat} {tk : Nat → Int32} {pl : Nat → Nat} {x1 x2 : Int32} {sc sc' : Nat → Int32} (h : LwT kt x1 x2 sc) (g : LwO tk pl sz kt kf kl x1 x2 sc sc') : False := by
  obtain ⟨s, n, l, h1, h2, h3, h4, h5, _⟩ := g
  exact h s n h1 h2 h3 h4 h5
theorem be_more {sc sc' : Nat → Int32} {ar ar' : Nat → Nat → Int32} {l : Nat} (h : Be sc ar) (hl : l < 6) (e0 : sc 2903 = nI l) (e1 : sc' 2903 = nI (l + 1)) (h1 : ∀ i, i < l → ar' 31 i = ar 31 i) (h2 : ∃ e : Nat, e ≤ 400 * (l + 1) ∧ ar' 31 l = nI e) : Be sc' ar' := by
  intro m i hm em hi
  obtain rfl : l + 1 = m := (nI_eq (by omega) (by omega)).mp (e1.symm.trans em)
  by_cases u : i = l
  · subst u
    exact h2
  · rw [h1 i (by omega)]
    exact h l i (by omega) e0 (by omega)
theorem be_fr {L A : List Nat} {sc sc' : Nat → Int32} {ar ar' : Nat → Nat → Int32} (h : Be sc ar) (f : Fr L A sc ar sc' ar') (hL : 2903 ∉ L) (hA : 31 ∉ A) : Be sc' ar' := by
  intro l i hl e hi
  rw [f.2 31 hA]
  exact h l i hl ((f.1 2903 hL).symm.trans e) hi
/-- what the class's law leaves in its book -/
def LcO (tk : Nat → Int32) (sz : Nat) (x2 : Int32) (sc sc' : Nat → Int32) (ar ar' : Nat → Nat → Int32) : Prop := ∀ l : Nat, l < 7 → sc 2903 = nI l → (sc' 2903 = nI l ∧ ar' 30 = ar 30 ∧ ar' 31 = ar 31 ∧ ar' 32 = ar 32) ∨ (l < 6 ∧ sc' 2903 = nI (l + 1) ∧ ar' 32 = upd (ar 32) l x2 ∧ ∃ b c : Nat, b ≤ 400 * l ∧ c ≤ 400 ∧ zbe (ar 31) l = nI b ∧ ar' 31 = upd (ar 31) l (nI (b + c)) ∧ (∀ y, y < b → ar' 30 y = ar 30 y) ∧ zok (ar' 30) (((ar' 31) l).toNatClampNeg - (zbe (ar' 31) l).toNatClampNeg) (zbe (ar' 31) l).toNatClampNeg 0 ∧ ∀ kn, zEv kn (ar' 30) (ar' 31) l = vLw tk sz kn 13 0 0 (0, 0))
theorem lco_0 {tk : Nat → Int32} {sz l0 : Nat} {x2 : Int32} {sc sc' : Nat → Int32} {ar ar' : Nat → Nat → Int32} (h0 : l0 < 7) (e0 : sc 2903 = nI l0) (h : sc' 2903 = nI l0) (a1 : ar' 30 = ar 30) (a2 : ar' 31 = ar 31) (a3 : ar' 32 = ar 32) : LcO tk sz x2 sc sc' ar ar' := fun l hl e => by
  obtain rfl : l0 = l := (nI_eq (by omega) (by omega)).mp (e0.symm.trans e)
  exact Or.inl ⟨h, a1, a2, a3⟩
theorem lco_1 {tk co : Nat → Int32} {sz l0 be c : Nat} {x2 : Int32} {G : zLaw2} {sc sc' : Nat → Int32} {ar ar' : Nat → Nat → Int32} (h0 : l0 < 6) (e0 : sc 2903 = nI l0) (h : sc' 2903 = nI (l0 + 1)) (hb : be ≤ 400 * l0) (hc : c ≤ 400) (eb : zbe (ar 31) l0 = nI be) (a1 : ar' 30 = va_cpy co (ar 30) 0 be c) (a2 : ar' 31 = upd (ar 31) l0 (nI (be + c))) (a3 : ar' 32 = upd (ar 32) l0 x2) (sg : sgR co 0 c G) (hG : ∀ kn, vLw tk sz kn 13 0 0 (0, 0) = G kn (0, 0)) : LcO tk sz x2 sc sc' ar ar' := fun l hl e => by
  obtain rfl : l0 = l := (nI_eq (by omega) (by omega)).mp (e0.symm.trans e)
  have eb' : zbe (ar' 31) l0 = nI be := by
    rw [← eb, a2]
    unfold zbe
    split
    · rfl
    · exact ug_ne (by omega)
  have ee : (ar' 31) l0 = nI (be + c) := by
    rw [a2]
    exact ug_eq
  obtain ⟨z1, z2⟩ := sgR_en (co' := ar' 30) sg eb' ee (by omega) (fun x hx => by
    rw [a1, pk_cpy_in (by omega) (by omega), show 0 + (be + x - be) = x by omega])
  refine Or.inr ⟨h0, h, a3, be, c, hb, hc, eb, a2, fun y hy => ?_, z1, fun kn => (z2 kn).trans (hG kn).symm⟩
  rw [a1, pk_cpy_out (Or.inl (by omega))]
theorem be_of {sc sc' : Nat → Int32} {ar ar' : Nat → Nat → Int32} {l : Nat} (h : Be sc ar) (e0 : sc 2903 = nI l) (e1 : sc' 2903 = nI l) (h1 : ∀ i, i < l → ar' 31 i = ar 31 i) (hl : l < 7) : Be sc' ar' := by
  intro m i hm em hi
  obtain rfl : l = m := (nI_eq (by omega) (by omega)).mp (e1.symm.trans em)
  rw [h1 i hi]
  exact h l i hm e0 hi
set_option maxRecDepth 20000 in
theorem sf_X9_law {X : Nat × (Nat → Int32)} {S a b : Nat} {sc : Nat → Int32} {ar : Nat → Nat → Int32} {lo : Nat → Int64} {ex : Bool} (hW : Wd S a b) (hI : Iv S sc ar) (x1 : Int32) (x2 : Int32) (hB : Be sc ar) (d : Nat)  : ce X S a b (d + 31) 78 [.ref 0, .int x1, .int x2] sc ar lo ex "java/lang/IllegalArgumentException" (LwT 2201 x1 x2 sc) (fun x sc' ar' => Iv S sc' ar' ∧ Fr [10, 2201, 2401, 2402, 2404, 2405, 2602, 2604, 2605, 2903] [25, 27, 28, 30, 31, 32] sc ar sc' ar' ∧ (∃ (tk : Nat → Int32) (pl g : Nat → Nat) (sz : Nat), (∀ n l : Nat, x1 = nI n → n ≤ 400 → sc 2903 = nI l → l < 6 → Sm (ar 23) n tk pl g sz) ∧ LwO tk pl sz 2201 10 2903 x1 x2 sc sc' ∧ Be sc' ar' ∧ LcO tk sz x2 sc sc' ar ar')) := by
  obtain ⟨ha1, ha8, hb1, hb8, hab, hS1, hS⟩ := id hW
  obtain ⟨s0, hs0, es0⟩ := iv_s2201 hI
  obtain ⟨l0, hl0, el0⟩ := iv_s2903 hI
  refine ce_of (M := an_X9_law) rfl (Nat.le_of_ble_eq_true rfl) ?_
  have hF : Fr [10, 2201, 2401, 2402, 2404, 2405, 2602, 2604, 2605, 2903] [25, 27, 28, 30, 31, 32] sc ar sc ar := fr_0
  refine to_eq (fr' := (0, [(0, .ref 0), (1, .int x1), (2, .int x2)], [], gh S a b sc ar lo, ex, 0, 0)) rfl ?_
  refine to_n 1 (fr' := (1, [(0, .ref 0), (1, .int x1), (2, .int x2)], [.int x1], gh S a b sc ar lo, ex, 0, 0)) rfl ?_
  refine to_if_lt (t := 25) rfl (fun q1 => ?_) (fun q1 => ?_)
  · exact to_th (i := .new 105) (tg := []) rfl rfl (Or.inr ⟨(fun s n hs es e hn hx => nI_neg (by omega) q1 e.symm), rfl⟩)
  · obtain ⟨n2, hn2, e2⟩ := nI_of q1
    refine to_eq (fr' := (4, [(0, .ref 0), (1, .int (nI n2)), (2, .int x2)], [], gh S a b sc ar lo, ex, 0, 0)) (by rw [e2]) ?_
    refine to_eq (fr' := (4, [(0, .ref 0), (1, .int (nI n2)), (2, .int x2)], [], gh S a b sc ar lo, ex, 0, 0)) rfl ?_
    refine to_n 2 (fr' := (6, [(0, .ref 0), (1, .int (nI n2)), (2, .int x2)], [.ref 0, .int (nI n2)], gh S a b sc ar lo, ex, 0, 0)) rfl ?_
    refine to_get rfl rfl rfl rfl ?_
    refine to_getR (v := (nI s0)) rfl rfl rfl rfl es0 ?_
    refine to_nc_gt (t := 25) (x := n2) (y := s0) rfl (by omega) (by omega) (fun q3 => ?_) (fun q3 => ?_)
    · exact to_th (i := .new 105) (tg := []) rfl rfl (Or.inr ⟨(fun s n hs es e hn hx => by have a1 : s0 = s := (nI_eq (by omega) (by omega)).mp (es0.symm.trans es); have a2 : n2 = n := (nI_eq (by omega) (by omega)).mp (e2.symm.trans e); omega), rfl⟩)
    · refine to_n 1 (fr' := (16, [(0, .ref 0), (1, .int (nI n2)), (2, .int x2)], [.int x2], gh S a b sc ar lo, ex, 0, 0)) rfl ?_
      refine to_if_lt (t := 25) rfl (fun q4 => ?_) (fun q4 => ?_)
      · exact to_th (i := .new 105) (tg := []) rfl rfl (Or.inr ⟨(fun s n hs es e hn hx => Int32.not_lt.mpr hx.1 q4), rfl⟩)
      · refine to_n 2 (fr' := (22, [(0, .ref 0), (1, .int (nI n2)), (2, .int x2)], [.int 100, .int x2], gh S a b sc ar lo, ex, 0, 0)) rfl ?_
        refine to_ic_le (t := 35) rfl (fun q5 => ?_) (fun q5 => ?_)
        · refine to_n 1 (fr' := (36, [(0, .ref 0), (1, .int (nI n2)), (2, .int x2)], [.ref 0], gh S a b sc ar lo, ex, 0, 0)) rfl ?_
          refine to_get rfl rfl rfl rfl ?_
          refine to_n 1 (fr' := (40, [(0, .ref 0), (1, .int (nI n2)), (2, .int x2)], [.int 0, .ref 22], gh S a b sc ar lo, ex, 0, 0)) rfl ?_
          refine to_putR (h' := gh S a b (upd sc 2201 0) ar lo) rfl rfl rfl (Nat.le_of_ble_eq_true rfl) rfl rfl ?_
          have hI6 := ip_2201 (v := 0) hI (rl_n (n := 0) (by omega))
          have hF6 := fr_s (k := 2201) (v := 0) hF (by decide)
          refine to_n 2 (fr' := (45, [(0, .ref 0), (1, .int (nI n2)), (2, .int x2)], [.int (-1), .ref 0], gh S a b (upd sc 2201 0) ar lo, ex, 0, 0)) rfl ?_
          refine to_putR (h' := gh S a b (upd (upd sc 2201 0) 10 (-1)) ar lo) rfl rfl rfl (Nat.le_of_ble_eq_true rfl) rfl rfl ?_
          have hI7 := ip_10 (v := (-1)) hI6 
          have hF7 := fr_s (k := 10) (v := (-1)) hF6 (by decide)
          refine to_n 1 (fr' := (49, [(0, .ref 0), (1, .int (nI n2)), (2, .int x2)], [.ref 0], gh S a b (upd (upd sc 2201 0) 10 (-1)) ar lo, ex, 0, 0)) rfl ?_
          refine to_get rfl rfl rfl rfl ?_
          refine to_getR (v := (nI l0)) rfl rfl rfl rfl el0 ?_
          refine to_n 1 (fr' := (57, [(0, .ref 0), (1, .int (nI n2)), (2, .int x2)], [.int 6, .int (nI l0)], gh S a b (upd (upd sc 2201 0) 10 (-1)) ar lo, ex, 0, 0)) rfl ?_
          refine to_nc_lt (t := 63) (x := l0) (y := 6) rfl (by omega) (by omega) (fun q8 => ?_) (fun q8 => ?_)
          · refine to_n 1 (fr' := (64, [(0, .ref 0), (1, .int (nI n2)), (2, .int x2)], [.ref 0], gh S a b (upd (upd sc 2201 0) 10 (-1)) ar lo, ex, 0, 0)) rfl ?_
            refine to_get rfl rfl rfl rfl ?_
            refine to_n 1 (fr' := (68, [(0, .ref 0), (1, .int (nI n2)), (2, .int x2)], [.int (nI n2), .ref 24], gh S a b (upd (upd sc 2201 0) 10 (-1)) ar lo, ex, 0, 0)) rfl ?_
            refine to_ci (q := 41) (M1 := an_X5_reads) (rest := []) rfl rfl (by decide) rfl ⟨_, rfl⟩ (sf_X5_reads hW hI7 n2 (by omega) d) (fun x9 sc9 ar9 hx9 => ?_)
            obtain ⟨hI9, hG9, hx9⟩ := hx9
            have hF9 := fr_t hF7 hG9 (by decide) (by decide)
            have k9_2201 : sc9 2201 = 0 := (hG9.1 2201 (by decide)).trans rfl
            have k9_2903 : sc9 2903 = (nI l0) := (hG9.1 2903 (by decide)).trans el0
            have k9_10 : sc9 10 = (-1) := (hG9.1 10 (by decide)).trans rfl
            obtain ⟨hx9, hp9⟩ := hx9
            obtain ⟨n9, hn9, rfl⟩ := hx9
            obtain ⟨tk, pl, g, sz, kk, cc, hsm, hat, hkz, hpk, hcc, hcc4, hout⟩ := hp9
            have hz2 := (se_sm hsm).2.1
            have a30_9 : ar9 30 = ar 30 := hG9.2 30 (by decide)
            have a31_9 : ar9 31 = ar 31 := hG9.2 31 (by decide)
            have a32_9 : ar9 32 = ar 32 := hG9.2 32 (by decide)
            refine to_eq (fr' := (71, [(0, .ref 0), (1, .int (nI n2)), (2, .int x2)], [.int (nI n9)], gh S a b sc9 ar9 lo, ex, 0, 0)) rfl ?_
            refine to_nf_ne (t := 95) (x := n9) rfl (by omega) (fun q10 => ?_) (fun q10 => ?_)
            · refine to_n 1 (fr' := (96, [(0, .ref 0), (1, .int (nI n2)), (2, .int x2)], [.ref 0], gh S a b sc9 ar9 lo, ex, 0, 0)) rfl ?_
              refine to_get rfl rfl rfl rfl ?_
              refine to_n 1 (fr' := (100, [(0, .ref 0), (1, .int (nI n2)), (2, .int x2)], [.ref 0, .ref 29], gh S a b sc9 ar9 lo, ex, 0, 0)) rfl ?_
              refine to_get rfl rfl rfl rfl ?_
              refine to_get rfl rfl rfl rfl ?_
              refine to_n 1 (fr' := (107, [(0, .ref 0), (1, .int (nI n2)), (2, .int x2)], [.ref 0, .ref 25, .ref 29], gh S a b sc9 ar9 lo, ex, 0, 0)) rfl ?_
              refine to_get rfl rfl rfl rfl ?_
              refine to_getR (v := (nI cc)) rfl rfl rfl rfl hcc ?_
              refine to_n 1 (fr' := (114, [(0, .ref 0), (1, .int (nI n2)), (2, .int x2)], [.int x2, .int (nI cc), .ref 25, .ref 29], gh S a b sc9 ar9 lo, ex, 0, 0)) rfl ?_
              refine to_ci (q := 37) (M1 := an_X4_enter) (rest := []) rfl rfl (by decide) rfl ⟨_, rfl⟩ (sf_X4_enter hW hI9 cc (by omega) x2 l0 (by omega) k9_2903 (fun i hi => by rw [a31_9]; exact hB l0 i (by omega) el0 hi) (d + 28)) (fun x11 sc11 ar11 hx11 => ?_)
              obtain ⟨hI11, hG11, hx11⟩ := hx11
              have hF11 := fr_t hF9 hG11 (by decide) (by decide)
              have k11_2201 : sc11 2201 = 0 := (hG11.1 2201 (by decide)).trans k9_2201
              have k11_10 : sc11 10 = (-1) := (hG11.1 10 (by decide)).trans k9_10
              have k11_2401 : sc11 2401 = (nI cc) := (hG11.1 2401 (by decide)).trans hcc
              have hp11 := hx11
              refine to_eq (fr' := (117, [(0, .ref 0), (1, .int (nI n2)), (2, .int x2)], [.int x11], gh S a b sc11 ar11 lo, ex, 0, 0)) rfl ?_
              exact to_rt (i := .ireturn) (tg := []) rfl rfl (Or.inl ⟨_, _, _, ⟨hI11, hF11, ⟨tk, pl, g, sz, fun n l e hn el hl => (show n2 = n from (nI_eq (by omega) (by omega)).mp (e2.symm.trans e)) ▸ hsm, ⟨s0, n2, l0, by omega, es0, e2, by omega, ⟨Int32.not_lt.mp q4, q5⟩, k11_2201, by omega, el0, Or.inr ⟨by omega, kk, Or.inl ⟨hout.elim (fun w => w.1) (fun w => absurd w.2 (fun u => q10 ((nI_z (by omega)).mp u))), k11_10, hp11.1⟩⟩⟩, be_more hB (by omega) el0 hp11.1 (fun i hi => (hp11.2.1 i hi).trans (congrFun a31_9 i)) hp11.2.2.1, hp11.2.2.2.elim (fun be w => hout.elim (fun w2 => w2.2.2.elim (fun G w3 => lco_1 (by omega) el0 hp11.1 w.1 hcc4 (w.2.1 ▸ congrArg (fun f => zbe f l0) a31_9.symm) (w.2.2.1.trans (congrArg (fun f => va_cpy _ f 0 be cc) a30_9)) (w.2.2.2.1.trans (congrArg (fun f => upd f l0 _) a31_9)) (w.2.2.2.2.trans (congrArg (fun f => upd f l0 _) a32_9)) w3.1 w3.2)) (fun w2 => absurd w2.2 (fun u => q10 ((nI_z (by omega)).mp u))))⟩⟩, rfl⟩)
            · refine to_n 2 (fr' := (76, [(0, .ref 0), (1, .int (nI n2)), (2, .int x2)], [.ref 0, .ref 0], gh S a b sc9 ar9 lo, ex, 0, 0)) rfl ?_
              refine to_get rfl rfl rfl rfl ?_
              refine to_cp (q := 42) (M1 := an_X5_place) (rest := [.ref 0]) rfl rfl (by decide) rfl ⟨_, rfl⟩ (sf_X5_place hW hI9 kk (by omega) hat (d + 29)) (fun x12 hx12 => ?_)
              have hp12 := hx12
              refine to_eq (fr' := (82, [(0, .ref 0), (1, .int (nI n2)), (2, .int x2)], [.int x12, .ref 0], gh S a b sc9 ar9 lo, ex, 0, 0)) rfl ?_
              refine to_putR (h' := gh S a b (upd sc9 10 x12) ar9 lo) rfl rfl rfl (Nat.le_of_ble_eq_true rfl) rfl rfl ?_
              have hI13 := ip_10 (v := x12) hI9 
              have hF13 := fr_s (k := 10) (v := x12) hF9 (by decide)
              refine to_n 2 (fr' := (87, [(0, .ref 0), (1, .int (nI n2)), (2, .int x2)], [.ref 0, .int (-1)], gh S a b (upd sc9 10 x12) ar9 lo, ex, 0, 0)) rfl ?_
              refine to_get rfl rfl rfl rfl ?_
              refine to_getR (v := ((upd sc9 10 x12) 2402)) rfl rfl rfl rfl rfl ?_
              refine to_n 1 (fr' := (94, [(0, .ref 0), (1, .int (nI n2)), (2, .int x2)], [.int ((-1) - ((upd sc9 10 x12) 2402))], gh S a b (upd sc9 10 x12) ar9 lo, ex, 0, 0)) rfl ?_
              exact to_rt (i := .ireturn) (tg := []) rfl rfl (Or.inl ⟨_, _, _, ⟨hI13, hF13, ⟨tk, pl, g, sz, fun n l e hn el hl => (show n2 = n from (nI_eq (by omega) (by omega)).mp (e2.symm.trans e)) ▸ hsm, ⟨s0, n2, l0, by omega, es0, e2, by omega, ⟨Int32.not_lt.mp q4, q5⟩, k9_2201, by omega, el0, Or.inr ⟨by omega, kk, Or.inr ⟨hout.elim (fun w => absurd w.2.1 (by rw [q10]; decide)) (fun w => w.1), hp12.trans hpk, k9_2903⟩⟩⟩, be_of hB el0 k9_2903 (fun i _ => congrFun a31_9 i) (by omega), lco_0 (by omega) el0 k9_2903 a30_9 a31_9 a32_9⟩⟩, rfl⟩)
          · refine to_n 1 (fr' := (62, [(0, .ref 0), (1, .int (nI n2)), (2, .int x2)], [.int (-9)], gh S a b (upd (upd sc 2201 0) 10 (-1)) ar lo, ex, 0, 0)) rfl ?_
            exact to_rt (i := .ireturn) (tg := []) rfl rfl (Or.inl ⟨_, _, _, ⟨hI7, hF7, ⟨fun _ => 0, fun _ => 0, fun _ => 0, 0, fun n l e hn el hl => absurd ((nI_eq (by omega) (by omega)).mp (el0.symm.trans el)) (by omega), ⟨s0, n2, l0, by omega, es0, e2, by omega, ⟨Int32.not_lt.mp q4, q5⟩, rfl, by omega, el0, Or.inl ⟨by omega, rfl, (show _ = nI l0 from el0).trans (congrArg nI (by omega))⟩⟩, be_of hB el0 el0 (fun i _ => rfl) (by omega), lco_0 (by omega) el0 el0 rfl rfl rfl⟩⟩, rfl⟩)
        · exact to_th (i := .new 105) (tg := []) rfl rfl (Or.inr ⟨(fun s n hs es e hn hx => q5 hx.2), rfl⟩)
set_option maxRecDepth 20000 in
theorem sf_X9_hours {X : Nat × (Nat → Int32)} {S a b : Nat} {sc : Nat → Int32} {ar : Nat → Nat → Int32} {lo : Nat → Int64} {ex : Bool} (hW : Wd S a b) (hI : Iv S sc ar) (n : Nat) (enb : n < 9) (l0 : Nat) (el0b : l0 < 7) (x1 : Int32) (hg : Gd S a b ar) (hB : zBk l0 (ar 30) (ar 31)) (en : sc 1308 = nI n) (el0 : sc 2903 = nI l0) (d : Nat)  : ce X S a b (d + 8) 83 [.ref 0, .int x1] sc ar lo ex "java/lang/IllegalArgumentException" (∀ h n : Nat, sc 11 = nI h → x1 = nI n → n ≤ 100 → h + n ≤ 2400 → False) (fun x sc' ar' => Iv S sc' ar' ∧ Fr [9, 11, 3300, 3301, 3304, 3603] [5, 8, 9, 10, 11, 16, 17, 18, 19, 20, 21, 34, 35, 37, 38, 48] sc ar sc' ar' ∧ ∃ h0 nn : Nat, sc 11 = nI h0 ∧ x1 = nI nn ∧ nn ≤ 100 ∧ h0 + nn ≤ 2400 ∧ x = nI (h0 + nn) ∧ sc' 11 = nI (h0 + nn) ∧ zV ar' = zHs S a b n l0 h0 (sc 112) (ar 30) (ar 31) (ar 32) nn (zV ar)) := by
  obtain ⟨ha1, ha8, hb1, hb8, hab, hS1, hS⟩ := id hW
  obtain ⟨h0, hh0, eh0⟩ := iv_s11 hI
  refine ce_of (M := an_X9_hours) rfl (Nat.le_of_ble_eq_true rfl) ?_
  have hF : Fr [9, 11, 3300, 3301, 3304, 3603] [5, 8, 9, 10, 11, 16, 17, 18, 19, 20, 21, 34, 35, 37, 38, 48] sc ar sc ar := fr_0
  refine to_eq (fr' := (0, [(0, .ref 0), (1, .int x1)], [], gh S a b sc ar lo, ex, 0, 0)) rfl ?_
  have c34 : ∀ m : Nat, ∀ (nn : Nat) (i : Nat) (h1 : Nat) (sc1 : Nat → Int32) (ar1 : Nat → Nat → Int32), 100 ≤ i + m → sc1 11 = nI h1 → i ≤ nn → nn ≤ 100 → h0 + nn ≤ 2400 → h1 = h0 + i → x1 = nI nn → zV ar1 = zHs S a b n l0 h0 (sc 112) (ar 30) (ar 31) (ar 32) i (zV ar) → i ≤ 100 → Iv S sc1 ar1 → Fr [9, 11, 3300, 3301, 3304, 3603] [5, 8, 9, 10, 11, 16, 17, 18, 19, 20, 21, 34, 35, 37, 38, 48] sc ar sc1 ar1 → ag_To X (d + 7) an_X9_hours (34, [(0, .ref 0), (1, .int (nI nn)), (2, .int (nI i))], [], gh S a b sc1 ar1 lo, ex, 0, 0) (qe S a b sc ar lo ex "java/lang/IllegalArgumentException" (∀ h n : Nat, sc 11 = nI h → x1 = nI n → n ≤ 100 → h + n ≤ 2400 → False) (fun x sc' ar' => Iv S sc' ar' ∧ Fr [9, 11, 3300, 3301, 3304, 3603] [5, 8, 9, 10, 11, 16, 17, 18, 19, 20, 21, 34, 35, 37, 38, 48] sc ar sc' ar' ∧ ∃ h0 nn : Nat, sc 11 = nI h0 ∧ x1 = nI nn ∧ nn ≤ 100 ∧ h0 + nn ≤ 2400 ∧ x = nI (h0 + nn) ∧ sc' 11 = nI (h0 + nn) ∧ zV ar' = zHs S a b n l0 h0 (sc 112) (ar 30) (ar 31) (ar 32) nn (zV ar))) := by
    intro m
    induction m with
    | zero =>
      intro nn i h1 sc1 ar1 hm hc34_0 hc34_1 hc34_2 hc34_3 hc34_4 hc34_5 hc34_6 hc34_7 hI1 hF1
      refine to_n 2 (fr' := (36, [(0, .ref 0), (1, .int (nI nn)), (2, .int (nI i))], [.int (nI nn), .int (nI i)], gh S a b sc1 ar1 lo, ex, 0, 0)) rfl ?_
      refine to_nc_ge_T (t := 49) (x := i) (y := nn) rfl (by omega) (by omega) (by omega) ?_
      refine to_n 1 (fr' := (50, [(0, .ref 0), (1, .int (nI nn)), (2, .int (nI i))], [.ref 0], gh S a b sc1 ar1 lo, ex, 0, 0)) rfl ?_
      refine to_getR (v := (nI h1)) rfl rfl rfl rfl hc34_0 ?_
      exact to_rt (i := .ireturn) (tg := []) rfl rfl (Or.inl ⟨_, _, _, ⟨hI1, hF1, ⟨h0, nn, eh0, hc34_5, by omega, by omega, by rw [show h0 + nn = h1 by omega], by rw [show h0 + nn = h1 by omega]; exact hc34_0, by rw [show nn = i by omega]; exact hc34_6⟩⟩, rfl⟩)
    | succ m ih =>
      intro nn i h1 sc1 ar1 hm hc34_0 hc34_1 hc34_2 hc34_3 hc34_4 hc34_5 hc34_6 hc34_7 hI1 hF1
      refine to_n 2 (fr' := (36, [(0, .ref 0), (1, .int (nI nn)), (2, .int (nI i))], [.int (nI nn), .int (nI i)], gh S a b sc1 ar1 lo, ex, 0, 0)) rfl ?_
      refine to_nc_ge (t := 49) (x := i) (y := nn) rfl (by omega) (by omega) (fun q2 => ?_) (fun q2 => ?_)
      · refine to_n 1 (fr' := (50, [(0, .ref 0), (1, .int (nI nn)), (2, .int (nI i))], [.ref 0], gh S a b sc1 ar1 lo, ex, 0, 0)) rfl ?_
        refine to_getR (v := (nI h1)) rfl rfl rfl rfl hc34_0 ?_
        exact to_rt (i := .ireturn) (tg := []) rfl rfl (Or.inl ⟨_, _, _, ⟨hI1, hF1, ⟨h0, nn, eh0, hc34_5, by omega, by omega, by rw [show h0 + nn = h1 by omega], by rw [show h0 + nn = h1 by omega]; exact hc34_0, by rw [show nn = i by omega]; exact hc34_6⟩⟩, rfl⟩)
      · refine to_n 1 (fr' := (40, [(0, .ref 0), (1, .int (nI nn)), (2, .int (nI i))], [.ref 0], gh S a b sc1 ar1 lo, ex, 0, 0)) rfl ?_
        refine to_cv (q := 93) (M1 := an_X9_passHour) (rest := []) rfl rfl (by decide) rfl ⟨_, rfl⟩ (sf_X9_passHour hW hI1 n (by omega) h1 (by omega) l0 (by omega) (by omega) (gd_fr hg hF1 (by decide) (by decide) (by decide)) (zbk_fr hB hF1 (by decide) (by decide)) ((hF1.1 1308 (by decide)).trans en) hc34_0 ((hF1.1 2903 (by decide)).trans el0) d) (fun sc3 ar3 hx3 => ?_)
        obtain ⟨hI3, hG3, hx3⟩ := hx3
        have hF3 := fr_t hF1 hG3 (by decide) (by decide)
        simp only [show ar1 30 = ar 30 from hF1.2 30 (by decide), show ar1 31 = ar 31 from hF1.2 31 (by decide), show ar1 32 = ar 32 from hF1.2 32 (by decide)] at hx3
        refine to_eq (fr' := (43, [(0, .ref 0), (1, .int (nI nn)), (2, .int (nI i))], [], gh S a b sc3 ar3 lo, ex, 0, 0)) rfl ?_
        refine to_n 1 (fr' := (46, [(0, .ref 0), (1, .int (nI nn)), (2, .int ((nI i) + 1))], [], gh S a b sc3 ar3 lo, ex, 0, 0)) rfl ?_
        rw [nI_1 i]
        refine to_n 1 (fr' := (34, [(0, .ref 0), (1, .int (nI nn)), (2, .int (nI (i + 1)))], [], gh S a b sc3 ar3 lo, ex, 0, 0)) rfl ?_
        exact ih nn (i + 1) (h1 + 1) sc3 ar3 (by omega) (hx3.1) (by omega) (by omega) (by omega) (by clear ih; grind []) hc34_5 (by rw [hx3.2, hF1.1 112 (by decide), hc34_6, hc34_4]; rfl) (by omega) hI3 hF3
  refine to_n 1 (fr' := (1, [(0, .ref 0), (1, .int x1)], [.int x1], gh S a b sc ar lo, ex, 0, 0)) rfl ?_
  refine to_if_lt (t := 22) rfl (fun q4 => ?_) (fun q4 => ?_)
  · exact to_th (i := .new 105) (tg := []) rfl rfl (Or.inr ⟨(fun h n _ e hn _ => nI_neg (by omega) q4 e.symm), rfl⟩)
  · obtain ⟨n5, hn5, e5⟩ := nI_of q4
    refine to_eq (fr' := (4, [(0, .ref 0), (1, .int (nI n5))], [], gh S a b sc ar lo, ex, 0, 0)) (by rw [e5]) ?_
    refine to_eq (fr' := (4, [(0, .ref 0), (1, .int (nI n5))], [], gh S a b sc ar lo, ex, 0, 0)) rfl ?_
    refine to_n 2 (fr' := (7, [(0, .ref 0), (1, .int (nI n5))], [.int 100, .int (nI n5)], gh S a b sc ar lo, ex, 0, 0)) rfl ?_
    refine to_nc_gt (t := 22) (x := n5) (y := 100) rfl (by omega) (by omega) (fun q6 => ?_) (fun q6 => ?_)
    · exact to_th (i := .new 105) (tg := []) rfl rfl (Or.inr ⟨(fun h n eh e hn hs => by have a1 : h0 = h := (nI_eq (by omega) (by omega)).mp (eh0.symm.trans eh); have a2 : n5 = n := (nI_eq (by omega) (by omega)).mp (e5.symm.trans e); omega), rfl⟩)
    · refine to_n 3 (fr' := (15, [(0, .ref 0), (1, .int (nI n5))], [.ref 0, .int 2400, .int (nI n5)], gh S a b sc ar lo, ex, 0, 0)) rfl ?_
      refine to_getR (v := (nI h0)) rfl rfl rfl rfl eh0 ?_
      refine to_subN (x := 2400) (y := h0) rfl (by omega) ?_
      refine to_nc_le (t := 32) (x := n5) (y := (2400 - h0)) rfl (by omega) (by omega) (fun q7 => ?_) (fun q7 => ?_)
      · refine to_n 2 (fr' := (34, [(0, .ref 0), (1, .int (nI n5)), (2, .int 0)], [], gh S a b sc ar lo, ex, 0, 0)) rfl ?_
        exact c34 (100 - 0) n5 0 h0 sc ar (by omega) (eh0) (by omega) (by omega) (by omega) (by clear c34; grind []) e5 rfl (by omega) hI hF
      · exact to_th (i := .new 105) (tg := []) rfl rfl (Or.inr ⟨(fun h n eh e hn hs => by have a1 : h0 = h := (nI_eq (by omega) (by omega)).mp (eh0.symm.trans eh); have a2 : n5 = n := (nI_eq (by omega) (by omega)).mp (e5.symm.trans e); omega), rfl⟩)
set_option maxRecDepth 20000 in
theorem sf_X9_house {X : Nat × (Nat → Int32)} {S a b : Nat} {sc : Nat → Int32} {ar : Nat → Nat → Int32} {lo : Nat → Int64} {ex : Bool} (hW : Wd S a b) (hI : Iv S sc ar) (x1 : Int32) (x2 : Int32) (x3 : Int32) (d : Nat)  : ce X S a b (d + 3) 73 [.ref 0, .int x1, .int x2, .int x3] sc ar lo ex "java/util/NoSuchElementException" (¬ (0 ≤ x1 ∧ x1 < nI S)) (fun x sc' ar' => Iv S sc' ar' ∧ Fr [] [5, 6, 7, 8, 9, 10] sc ar sc' ar' ∧ rl x 2 ∧ (∃ n : Nat, n < S ∧ x1 = nI n ∧ zho n x2 x3 x (ar 5) (ar 6) (ar 7) (ar 8) (ar 9) (ar 10) (ar 12) (ar' 5) (ar' 6) (ar' 7) (ar' 8) (ar' 9) (ar' 10))) := by
  obtain ⟨ha1, ha8, hb1, hb8, hab, hS1, hS⟩ := id hW
  refine ce_of (M := an_X9_house) rfl (Nat.le_of_ble_eq_true rfl) ?_
  have hF : Fr [] [5, 6, 7, 8, 9, 10] sc ar sc ar := fr_0
  refine to_eq (fr' := (0, [(0, .ref 0), (1, .int x1), (2, .int x2), (3, .int x3)], [], gh S a b sc ar lo, ex, 0, 0)) rfl ?_
  refine to_n 2 (fr' := (2, [(0, .ref 0), (1, .int x1), (2, .int x2), (3, .int x3)], [.int x1, .ref 0], gh S a b sc ar lo, ex, 0, 0)) rfl ?_
  rcases has_or (x := x1) (B := S) (by omega) with ⟨n1, hn1, e1⟩ | w1
  · subst e1
    refine to_cu (q := 89) (M1 := an_X9_needCell) (rest := []) rfl rfl (by decide) rfl ⟨_, rfl⟩ (needCell_1 (n := n1)  (by omega) d) ?_
    refine to_eq (fr' := (5, [(0, .ref 0), (1, .int (nI n1)), (2, .int x2), (3, .int x3)], [], gh S a b sc ar lo, ex, 0, 0)) rfl ?_
    refine to_n 2 (fr' := (7, [(0, .ref 0), (1, .int (nI n1)), (2, .int x2), (3, .int x3)], [.int 1, .int x2], gh S a b sc ar lo, ex, 0, 0)) rfl ?_
    refine to_ic_lt (t := 23) rfl (fun q2 => ?_) (fun q2 => ?_)
    · refine to_n 1 (fr' := (24, [(0, .ref 0), (1, .int (nI n1)), (2, .int x2), (3, .int x3)], [.int 0], gh S a b sc ar lo, ex, 0, 0)) rfl ?_
      exact to_rt (i := .ireturn) (tg := []) rfl rfl (Or.inl ⟨_, _, _, ⟨hI, hF, ⟨rl_n (n := 0) (by omega), ⟨n1, hn1, rfl, Or.inr ⟨(fun w => Int32.not_lt.mpr w.1.1 q2), rfl, rfl, rfl, rfl, rfl, rfl, rfl⟩⟩⟩⟩, rfl⟩)
    · refine to_n 2 (fr' := (13, [(0, .ref 0), (1, .int (nI n1)), (2, .int x2), (3, .int x3)], [.int 9, .int x2], gh S a b sc ar lo, ex, 0, 0)) rfl ?_
      refine to_ic_gt (t := 23) rfl (fun q3 => ?_) (fun q3 => ?_)
      · refine to_n 1 (fr' := (24, [(0, .ref 0), (1, .int (nI n1)), (2, .int x2), (3, .int x3)], [.int 0], gh S a b sc ar lo, ex, 0, 0)) rfl ?_
        exact to_rt (i := .ireturn) (tg := []) rfl rfl (Or.inl ⟨_, _, _, ⟨hI, hF, ⟨rl_n (n := 0) (by omega), ⟨n1, hn1, rfl, Or.inr ⟨(fun w => Int32.not_lt.mpr w.1.2 q3), rfl, rfl, rfl, rfl, rfl, rfl, rfl⟩⟩⟩⟩, rfl⟩)
      · refine to_n 1 (fr' := (17, [(0, .ref 0), (1, .int (nI n1)), (2, .int x2), (3, .int x3)], [.int x3], gh S a b sc ar lo, ex, 0, 0)) rfl ?_
        refine to_cp (q := 91) (M1 := an_X9_isWard) (rest := []) rfl rfl (by decide) rfl trivial (sf_X9_isWard hW hI x3 (d + 1)) (fun x4 hx4 => ?_)
        obtain ⟨hx4, hp4⟩ := hx4
        obtain ⟨n4, hn4, rfl⟩ := hx4
        refine to_eq (fr' := (20, [(0, .ref 0), (1, .int (nI n1)), (2, .int x2), (3, .int x3)], [.int (nI n4)], gh S a b sc ar lo, ex, 0, 0)) rfl ?_
        refine to_nf_ne (t := 25) (x := n4) rfl (by omega) (fun q5 => ?_) (fun q5 => ?_)
        · refine to_n 1 (fr' := (26, [(0, .ref 0), (1, .int (nI n1)), (2, .int x2), (3, .int x3)], [.ref 0], gh S a b sc ar lo, ex, 0, 0)) rfl ?_
          refine to_get rfl rfl rfl rfl ?_
          refine to_n 3 (fr' := (32, [(0, .ref 0), (1, .int (nI n1)), (2, .int x2), (3, .int x3)], [.int x3, .int x2, .int (nI n1), .ref 1], gh S a b sc ar lo, ex, 0, 0)) rfl ?_
          refine to_ci (q := 5) (M1 := an_X0_build) (rest := []) rfl rfl (by decide) rfl ⟨_, rfl⟩ (sf_X0_build hW hI n1 (by omega) x2 x3 (d + 1)) (fun x6 sc6 ar6 hx6 => ?_)
          obtain ⟨hI6, hG6, hx6⟩ := hx6
          have hF6 := fr_t hF hG6 (by decide) (by decide)
          obtain ⟨hx6, hp6⟩ := hx6
          obtain ⟨n6, hn6, rfl⟩ := hx6
          refine to_eq (fr' := (35, [(0, .ref 0), (1, .int (nI n1)), (2, .int x2), (3, .int x3)], [.int (nI n6)], gh S a b sc6 ar6 lo, ex, 0, 0)) rfl ?_
          exact to_rt (i := .ireturn) (tg := []) rfl (ai_rtz (rl_n (n := n6) (by omega))) (Or.inl ⟨_, _, _, ⟨hI6, hF6, ⟨rl_n (n := n6) (by omega), ⟨n1, hn1, rfl, Or.inl ⟨⟨⟨Int32.not_lt.mp q2, Int32.not_lt.mp q3⟩, iw_1 hp4 q5 hn4⟩, hp6⟩⟩⟩⟩, rfl⟩)
        · refine to_n 1 (fr' := (24, [(0, .ref 0), (1, .int (nI n1)), (2, .int x2), (3, .int x3)], [.int 0], gh S a b sc ar lo, ex, 0, 0)) rfl ?_
          exact to_rt (i := .ireturn) (tg := []) rfl rfl (Or.inl ⟨_, _, _, ⟨hI, hF, ⟨rl_n (n := 0) (by omega), ⟨n1, hn1, rfl, Or.inr ⟨(fun w => iw_0 hp4 q5 w.2), rfl, rfl, rfl, rfl, rfl, rfl, rfl⟩⟩⟩⟩, rfl⟩)
  · exact to_thr (q := 89) (M1 := an_X9_needCell) (rest := []) rfl rfl (by decide) rfl ⟨_, rfl⟩ (needCell_0  w1 d) rfl trivial (Or.inr ⟨w1, rfl⟩)
set_option maxRecDepth 20000 in
theorem sf_X9_well {X : Nat × (Nat → Int32)} {S a b : Nat} {sc : Nat → Int32} {ar : Nat → Nat → Int32} {lo : Nat → Int64} {ex : Bool} (hW : Wd S a b) (hI : Iv S sc ar) (x1 : Int32) (k2 : Nat) (hk2 : k2 < 2) (d : Nat)  : ce X S a b (d + 3) 74 [.ref 0, .int x1, .int (nI k2)] sc ar lo ex "java/util/NoSuchElementException" (¬ (0 ≤ x1 ∧ x1 < nI S)) (fun x sc' ar' => Iv S sc' ar' ∧ Fr [] [12] sc ar sc' ar' ∧ rl x 2 ∧ (∃ n : Nat, n < S ∧ x1 = nI n ∧ zwe n (nI k2) x (ar 5) (ar 12) (ar' 12))) := by
  obtain ⟨ha1, ha8, hb1, hb8, hab, hS1, hS⟩ := id hW
  refine ce_of (M := an_X9_well) rfl (Nat.le_of_ble_eq_true rfl) ?_
  have hF : Fr [] [12] sc ar sc ar := fr_0
  refine to_eq (fr' := (0, [(0, .ref 0), (1, .int x1), (2, .int (nI k2))], [], gh S a b sc ar lo, ex, 0, 0)) rfl ?_
  refine to_n 2 (fr' := (2, [(0, .ref 0), (1, .int x1), (2, .int (nI k2))], [.int x1, .ref 0], gh S a b sc ar lo, ex, 0, 0)) rfl ?_
  rcases has_or (x := x1) (B := S) (by omega) with ⟨n1, hn1, e1⟩ | w1
  · subst e1
    refine to_cu (q := 89) (M1 := an_X9_needCell) (rest := []) rfl rfl (by decide) rfl ⟨_, rfl⟩ (needCell_1 (n := n1)  (by omega) d) ?_
    refine to_eq (fr' := (5, [(0, .ref 0), (1, .int (nI n1)), (2, .int (nI k2))], [], gh S a b sc ar lo, ex, 0, 0)) rfl ?_
    refine to_n 1 (fr' := (6, [(0, .ref 0), (1, .int (nI n1)), (2, .int (nI k2))], [.ref 0], gh S a b sc ar lo, ex, 0, 0)) rfl ?_
    refine to_get rfl rfl rfl rfl ?_
    refine to_get rfl rfl rfl rfl ?_
    refine to_n 1 (fr' := (13, [(0, .ref 0), (1, .int (nI n1)), (2, .int (nI k2))], [.int (nI n1), .ref 5], gh S a b sc ar lo, ex, 0, 0)) rfl ?_
    refine to_ialR (i := n1) (v := (ar 5 n1)) rfl (by decide) rfl (by omega) (by omega) (congrFun (hF.2 5 (by decide)) n1) ?_
    refine to_n 1 (fr' := (15, [(0, .ref 0), (1, .int (nI n1)), (2, .int (nI k2))], [.int (-1), .int (ar 5 n1)], gh S a b sc ar lo, ex, 0, 0)) rfl ?_
    refine to_ic_ne (t := 31) rfl (fun q2 => ?_) (fun q2 => ?_)
    · refine to_n 1 (fr' := (32, [(0, .ref 0), (1, .int (nI n1)), (2, .int (nI k2))], [.int 0], gh S a b sc ar lo, ex, 0, 0)) rfl ?_
      exact to_rt (i := .ireturn) (tg := []) rfl rfl (Or.inl ⟨_, _, _, ⟨hI, hF, ⟨rl_n (n := 0) (by omega), ⟨n1, hn1, rfl, Or.inr ⟨rfl, fun z => q2 z.1, rfl⟩⟩⟩⟩, rfl⟩)
    · refine to_n 1 (fr' := (19, [(0, .ref 0), (1, .int (nI n1)), (2, .int (nI k2))], [.ref 0], gh S a b sc ar lo, ex, 0, 0)) rfl ?_
      refine to_get rfl rfl rfl rfl ?_
      refine to_get rfl rfl rfl rfl ?_
      refine to_n 1 (fr' := (26, [(0, .ref 0), (1, .int (nI n1)), (2, .int (nI k2))], [.int (nI n1), .ref 12], gh S a b sc ar lo, ex, 0, 0)) rfl ?_
      refine to_zalR (i := n1) (v := ((ar 12) n1)) rfl rfl (by omega) (by omega) rfl ?_
      refine to_n 1 (fr' := (28, [(0, .ref 0), (1, .int (nI n1)), (2, .int (nI k2))], [.int (nI k2), .int ((ar 12) n1)], gh S a b sc ar lo, ex, 0, 0)) rfl ?_
      refine to_ic_ne (t := 33) rfl (fun q3 => ?_) (fun q3 => ?_)
      · refine to_n 1 (fr' := (34, [(0, .ref 0), (1, .int (nI n1)), (2, .int (nI k2))], [.ref 0], gh S a b sc ar lo, ex, 0, 0)) rfl ?_
        refine to_get rfl rfl rfl rfl ?_
        refine to_get rfl rfl rfl rfl ?_
        refine to_n 2 (fr' := (42, [(0, .ref 0), (1, .int (nI n1)), (2, .int (nI k2))], [.int (nI k2), .int (nI n1), .ref 12], gh S a b sc ar lo, ex, 0, 0)) rfl ?_
        refine to_zasR (i := n1) (h' := gh S a b sc (uA ar 12 (upd (ar 12) n1 (vp_nar .boolean (nI k2)))) lo) rfl rfl (by omega) (by omega) rfl ?_
        have hI4 := ia_12 (g := (upd (ar 12) n1 (vp_nar .boolean (nI k2)))) hI
        have hF4 := fr_a (c := 12) (g := (upd (ar 12) n1 (vp_nar .boolean (nI k2)))) hF (by decide)
        refine to_n 1 (fr' := (44, [(0, .ref 0), (1, .int (nI n1)), (2, .int (nI k2))], [.int 1], gh S a b sc (uA ar 12 (upd (ar 12) n1 (vp_nar .boolean (nI k2)))) lo, ex, 0, 0)) rfl ?_
        exact to_rt (i := .ireturn) (tg := []) rfl rfl (Or.inl ⟨_, _, _, ⟨hI4, hF4, ⟨rl_n (n := 1) (by omega), ⟨n1, hn1, rfl, Or.inl ⟨rfl, ⟨q2, q3⟩, zwe_b (by omega)⟩⟩⟩⟩, rfl⟩)
      · refine to_n 1 (fr' := (32, [(0, .ref 0), (1, .int (nI n1)), (2, .int (nI k2))], [.int 0], gh S a b sc ar lo, ex, 0, 0)) rfl ?_
        exact to_rt (i := .ireturn) (tg := []) rfl rfl (Or.inl ⟨_, _, _, ⟨hI, hF, ⟨rl_n (n := 0) (by omega), ⟨n1, hn1, rfl, Or.inr ⟨rfl, fun z => z.2 q3, rfl⟩⟩⟩⟩, rfl⟩)
  · exact to_thr (q := 89) (M1 := an_X9_needCell) (rest := []) rfl rfl (by decide) rfl ⟨_, rfl⟩ (needCell_0  w1 d) rfl trivial (Or.inr ⟨w1, rfl⟩)
set_option maxRecDepth 20000 in
theorem sf_X9_company {X : Nat × (Nat → Int32)} {S a b : Nat} {sc : Nat → Int32} {ar : Nat → Nat → Int32} {lo : Nat → Int64} {ex : Bool} (hW : Wd S a b) (hI : Iv S sc ar) (x1 : Int32) (x2 : Int32) (x3 : Int32) (d : Nat)  : ce X S a b (d + 3) 76 [.ref 0, .int x1, .int x2, .int x3] sc ar lo ex "java/util/NoSuchElementException" (¬ (0 ≤ x3 ∧ x3 < nI S)) (fun x sc' ar' => Iv S sc' ar' ∧ Fr [1308] [14, 15, 16, 17] sc ar sc' ar' ∧ (∃ k : Nat, k < S ∧ x3 = nI k ∧ co_P 1308 x1 x2 x sc sc' ∧ zen 1308 14 15 16 17 x1 x2 (nI k) x sc sc' ar ar')) := by
  obtain ⟨ha1, ha8, hb1, hb8, hab, hS1, hS⟩ := id hW
  obtain ⟨s0, hs0, es0⟩ := iv_s1308 hI
  refine ce_of (M := an_X9_company) rfl (Nat.le_of_ble_eq_true rfl) ?_
  have hF : Fr [1308] [14, 15, 16, 17] sc ar sc ar := fr_0
  refine to_eq (fr' := (0, [(0, .ref 0), (1, .int x1), (2, .int x2), (3, .int x3)], [], gh S a b sc ar lo, ex, 0, 0)) rfl ?_
  refine to_n 2 (fr' := (2, [(0, .ref 0), (1, .int x1), (2, .int x2), (3, .int x3)], [.int x3, .ref 0], gh S a b sc ar lo, ex, 0, 0)) rfl ?_
  rcases has_or (x := x3) (B := S) (by omega) with ⟨n1, hn1, e1⟩ | w1
  · subst e1
    refine to_cu (q := 89) (M1 := an_X9_needCell) (rest := []) rfl rfl (by decide) rfl ⟨_, rfl⟩ (needCell_1 (n := n1)  (by omega) d) ?_
    refine to_eq (fr' := (5, [(0, .ref 0), (1, .int x1), (2, .int x2), (3, .int (nI n1))], [], gh S a b sc ar lo, ex, 0, 0)) rfl ?_
    refine to_n 1 (fr' := (6, [(0, .ref 0), (1, .int x1), (2, .int x2), (3, .int (nI n1))], [.int x1], gh S a b sc ar lo, ex, 0, 0)) rfl ?_
    refine to_cp (q := 91) (M1 := an_X9_isWard) (rest := []) rfl rfl (by decide) rfl trivial (sf_X9_isWard hW hI x1 (d + 1)) (fun x2 hx2 => ?_)
    obtain ⟨hx2, hp2⟩ := hx2
    obtain ⟨n2, hn2, rfl⟩ := hx2
    refine to_eq (fr' := (9, [(0, .ref 0), (1, .int x1), (2, .int x2), (3, .int (nI n1))], [.int (nI n2)], gh S a b sc ar lo, ex, 0, 0)) rfl ?_
    refine to_nf_eq (t := 23) (x := n2) rfl (by omega) (fun q3 => ?_) (fun q3 => ?_)
    · refine to_n 1 (fr' := (24, [(0, .ref 0), (1, .int x1), (2, .int x2), (3, .int (nI n1))], [.int (-1)], gh S a b sc ar lo, ex, 0, 0)) rfl ?_
      exact to_rt (i := .ireturn) (tg := []) rfl rfl (Or.inl ⟨_, _, _, ⟨hI, hF, ⟨n1, hn1, rfl, co_no (s := s0) (by omega) es0 (fun w => iw_0 hp2 q3 w.1), Or.inl ⟨rfl, rfl, rfl, rfl, rfl, rfl⟩⟩⟩, rfl⟩)
    · refine to_n 2 (fr' := (14, [(0, .ref 0), (1, .int x1), (2, .int x2), (3, .int (nI n1))], [.int 1, .int x2], gh S a b sc ar lo, ex, 0, 0)) rfl ?_
      refine to_ic_lt (t := 23) rfl (fun q4 => ?_) (fun q4 => ?_)
      · refine to_n 1 (fr' := (24, [(0, .ref 0), (1, .int x1), (2, .int x2), (3, .int (nI n1))], [.int (-1)], gh S a b sc ar lo, ex, 0, 0)) rfl ?_
        exact to_rt (i := .ireturn) (tg := []) rfl rfl (Or.inl ⟨_, _, _, ⟨hI, hF, ⟨n1, hn1, rfl, co_no (s := s0) (by omega) es0 (fun w => Int32.not_lt.mpr w.2.1 q4), Or.inl ⟨rfl, rfl, rfl, rfl, rfl, rfl⟩⟩⟩, rfl⟩)
      · refine to_n 2 (fr' := (20, [(0, .ref 0), (1, .int x1), (2, .int x2), (3, .int (nI n1))], [.int 9, .int x2], gh S a b sc ar lo, ex, 0, 0)) rfl ?_
        refine to_ic_le (t := 25) rfl (fun q5 => ?_) (fun q5 => ?_)
        · refine to_n 1 (fr' := (26, [(0, .ref 0), (1, .int x1), (2, .int x2), (3, .int (nI n1))], [.ref 0], gh S a b sc ar lo, ex, 0, 0)) rfl ?_
          refine to_get rfl rfl rfl rfl ?_
          refine to_n 3 (fr' := (32, [(0, .ref 0), (1, .int x1), (2, .int x2), (3, .int (nI n1))], [.int (nI n1), .int x2, .int x1, .ref 13], gh S a b sc ar lo, ex, 0, 0)) rfl ?_
          refine to_ci (q := 15) (M1 := an_X1_enlist) (rest := []) rfl rfl (by decide) rfl ⟨_, rfl⟩ (sf_X1_enlist hW hI x1 x2 n1 (by omega) (d + 1)) (fun x6 sc6 ar6 hx6 => ?_)
          obtain ⟨hI6, hG6, hx6⟩ := hx6
          have hF6 := fr_t hF hG6 (by decide) (by decide)
          obtain ⟨hx6, hp6⟩ := hx6
          rcases hx6 with rfl | ⟨n6, hn6, rfl⟩
          · refine to_eq (fr' := (35, [(0, .ref 0), (1, .int x1), (2, .int x2), (3, .int (nI n1))], [.int (-1)], gh S a b sc6 ar6 lo, ex, 0, 0)) rfl ?_
            exact to_rt (i := .ireturn) (tg := []) rfl rfl (Or.inl ⟨_, _, _, ⟨hI6, hF6, ⟨n1, hn1, rfl, co_en ⟨iw_1 hp2 q3 hn2, Int32.not_lt.mp q4, q5⟩ hp6.1, hp6.2⟩⟩, rfl⟩)
          · refine to_eq (fr' := (35, [(0, .ref 0), (1, .int x1), (2, .int x2), (3, .int (nI n1))], [.int (nI n6)], gh S a b sc6 ar6 lo, ex, 0, 0)) rfl ?_
            exact to_rt (i := .ireturn) (tg := []) rfl rfl (Or.inl ⟨_, _, _, ⟨hI6, hF6, ⟨n1, hn1, rfl, co_en ⟨iw_1 hp2 q3 hn2, Int32.not_lt.mp q4, q5⟩ hp6.1, hp6.2⟩⟩, rfl⟩)
        · refine to_n 1 (fr' := (24, [(0, .ref 0), (1, .int x1), (2, .int x2), (3, .int (nI n1))], [.int (-1)], gh S a b sc ar lo, ex, 0, 0)) rfl ?_
          exact to_rt (i := .ireturn) (tg := []) rfl rfl (Or.inl ⟨_, _, _, ⟨hI, hF, ⟨n1, hn1, rfl, co_no (s := s0) (by omega) es0 (fun w => q5 w.2.2), Or.inl ⟨rfl, rfl, rfl, rfl, rfl, rfl⟩⟩⟩, rfl⟩)
  · exact to_thr (q := 89) (M1 := an_X9_needCell) (rest := []) rfl rfl (by decide) rfl ⟨_, rfl⟩ (needCell_0  w1 d) rfl trivial (Or.inr ⟨w1, rfl⟩)
set_option maxRecDepth 20000 in
theorem sf_X9_light {X : Nat × (Nat → Int32)} {S a b : Nat} {sc : Nat → Int32} {ar : Nat → Nat → Int32} {lo : Nat → Int64} {ex : Bool} (hW : Wd S a b) (hI : Iv S sc ar) (n : Nat) (enb : n < 9) (h : Nat) (ehb : h < 2401) (l0 : Nat) (el0b : l0 < 7) (x1 : Int32) (hg : Gd S a b ar) (hB : zBk l0 (ar 30) (ar 31)) (en : sc 1308 = nI n) (eh : sc 11 = nI h) (el0 : sc 2903 = nI l0) (d : Nat)  : ce X S a b (d + 7) 80 [.ref 0, .int x1] sc ar lo ex "java/util/NoSuchElementException" (¬ (0 ≤ x1 ∧ x1 < nI S)) (fun x sc' ar' => Iv S sc' ar' ∧ Fr [9, 3300, 3301, 3304] [5, 17, 18, 34, 35, 48] sc ar sc' ar' ∧ (∃ k : Nat, k < S ∧ x1 = nI k ∧ ((¬ ar 5 k = 0 ∧ x = -1 ∧ ar' 5 = ar 5 ∧ ar' 17 = ar 17 ∧ ar' 18 = ar 18) ∨ (ar 5 k = 0 ∧ ar' 5 = upd (ar 5) k 1 ∧ zli a n h k (fo (ar 32) (nI (h / 24)) l0 0 (-1)) (zcn (upd (ar 5) k 1) 1 S) (ar 7) (ar 6) (ar 8) (ar 14) (ar 15) (ar 16) (ar 30) (ar 31) (ar 17) (ar 18) (ar' 17) (ar' 18) ∧ x = zcn (ar' 17) (nI k) n)))) := by
  obtain ⟨ha1, ha8, hb1, hb8, hab, hS1, hS⟩ := id hW
  refine ce_of (M := an_X9_light) rfl (Nat.le_of_ble_eq_true rfl) ?_
  have hF : Fr [9, 3300, 3301, 3304] [5, 17, 18, 34, 35, 48] sc ar sc ar := fr_0
  refine to_eq (fr' := (0, [(0, .ref 0), (1, .int x1)], [], gh S a b sc ar lo, ex, 0, 0)) rfl ?_
  refine to_n 2 (fr' := (2, [(0, .ref 0), (1, .int x1)], [.int x1, .ref 0], gh S a b sc ar lo, ex, 0, 0)) rfl ?_
  rcases has_or (x := x1) (B := S) (by omega) with ⟨n1, hn1, e1⟩ | w1
  · subst e1
    refine to_cu (q := 89) (M1 := an_X9_needCell) (rest := []) rfl rfl (by decide) rfl ⟨_, rfl⟩ (needCell_1 (n := n1)  (by omega) (d + 4)) ?_
    refine to_eq (fr' := (5, [(0, .ref 0), (1, .int (nI n1))], [], gh S a b sc ar lo, ex, 0, 0)) rfl ?_
    refine to_n 1 (fr' := (6, [(0, .ref 0), (1, .int (nI n1))], [.ref 0], gh S a b sc ar lo, ex, 0, 0)) rfl ?_
    refine to_get rfl rfl rfl rfl ?_
    refine to_get rfl rfl rfl rfl ?_
    refine to_n 1 (fr' := (13, [(0, .ref 0), (1, .int (nI n1))], [.int (nI n1), .ref 5], gh S a b sc ar lo, ex, 0, 0)) rfl ?_
    refine to_ialR (i := n1) (v := ((ar 5) n1)) rfl (by decide) rfl (by omega) (by omega) rfl ?_
    refine to_if_eq (t := 19) rfl (fun q2 => ?_) (fun q2 => ?_)
    · refine to_n 1 (fr' := (20, [(0, .ref 0), (1, .int (nI n1))], [.ref 0], gh S a b sc ar lo, ex, 0, 0)) rfl ?_
      refine to_get rfl rfl rfl rfl ?_
      refine to_get rfl rfl rfl rfl ?_
      refine to_n 2 (fr' := (28, [(0, .ref 0), (1, .int (nI n1))], [.int 1, .int (nI n1), .ref 5], gh S a b sc ar lo, ex, 0, 0)) rfl ?_
      refine to_iasR (i := n1) (h' := gh S a b sc (uA ar 5 (upd (ar 5) n1 1)) lo) rfl rfl (by omega) (by omega) rfl ?_
      have hI3 := ia_5 (g := (upd (ar 5) n1 1)) hI
      have hF3 := fr_a (c := 5) (g := (upd (ar 5) n1 1)) hF (by decide)
      refine to_n 1 (fr' := (30, [(0, .ref 0), (1, .int (nI n1))], [.ref 0], gh S a b sc (uA ar 5 (upd (ar 5) n1 1)) lo, ex, 0, 0)) rfl ?_
      refine to_get rfl rfl rfl rfl ?_
      refine to_n 2 (fr' := (35, [(0, .ref 0), (1, .int (nI n1))], [.int (nI n1), .int 0, .ref 48], gh S a b sc (uA ar 5 (upd (ar 5) n1 1)) lo, ex, 0, 0)) rfl ?_
      refine to_iasR (i := 0) (h' := gh S a b sc (uA (uA ar 5 (upd (ar 5) n1 1)) 48 (upd ((uA ar 5 (upd (ar 5) n1 1)) 48) 0 (nI n1))) lo) rfl rfl (by omega) (by omega) rfl ?_
      have hI4 := ia_48 (i := 0) (v := (nI n1)) hI3 (rl_n (n := n1) (by omega))
      have hF4 := fr_a (c := 48) (g := (upd ((uA ar 5 (upd (ar 5) n1 1)) 48) 0 (nI n1))) hF3 (by decide)
      refine to_n 2 (fr' := (38, [(0, .ref 0), (1, .int (nI n1))], [.int 1, .ref 0], gh S a b sc (uA (uA ar 5 (upd (ar 5) n1 1)) 48 (upd ((uA ar 5 (upd (ar 5) n1 1)) 48) 0 (nI n1))) lo, ex, 0, 0)) rfl ?_
      refine to_putR (h' := gh S a b (upd sc 9 1) (uA (uA ar 5 (upd (ar 5) n1 1)) 48 (upd ((uA ar 5 (upd (ar 5) n1 1)) 48) 0 (nI n1))) lo) rfl rfl rfl (Nat.le_of_ble_eq_true rfl) rfl rfl ?_
      have hI5 := ip_9 (v := 1) hI4 
      have hF5 := fr_s (k := 9) (v := 1) hF4 (by decide)
      refine to_n 1 (fr' := (42, [(0, .ref 0), (1, .int (nI n1))], [.ref 0], gh S a b (upd sc 9 1) (uA (uA ar 5 (upd (ar 5) n1 1)) 48 (upd ((uA ar 5 (upd (ar 5) n1 1)) 48) 0 (nI n1))) lo, ex, 0, 0)) rfl ?_
      refine to_cv (q := 102) (M1 := an_X9_ringBells) (rest := []) rfl rfl (by decide) rfl ⟨_, rfl⟩ (sf_X9_ringBells hW hI5 n (by omega) h (by omega) l0 (by omega) 1 (by omega) (by omega) (gd_fr hg hF5 (by decide) (by decide) (by decide)) (zbk_fr hB hF5 (by decide) (by decide)) ((hF5.1 1308 (by decide)).trans en) ((hF5.1 11 (by decide)).trans eh) ((hF5.1 2903 (by decide)).trans el0) rfl d) (fun sc6 ar6 hx6 => ?_)
      obtain ⟨hI6, hG6, hx6⟩ := hx6
      have hF6 := fr_t hF5 hG6 (by decide) (by decide)
      simp only [show (uA (uA ar 5 (upd (ar 5) n1 1)) 48 (upd ((uA ar 5 (upd (ar 5) n1 1)) 48) 0 (nI n1))) 30 = ar 30 from hF5.2 30 (by decide), show (uA (uA ar 5 (upd (ar 5) n1 1)) 48 (upd ((uA ar 5 (upd (ar 5) n1 1)) 48) 0 (nI n1))) 31 = ar 31 from hF5.2 31 (by decide), show (uA (uA ar 5 (upd (ar 5) n1 1)) 48 (upd ((uA ar 5 (upd (ar 5) n1 1)) 48) 0 (nI n1))) 32 = ar 32 from hF5.2 32 (by decide)] at hx6
      refine to_eq (fr' := (45, [(0, .ref 0), (1, .int (nI n1))], [], gh S a b sc6 ar6 lo, ex, 0, 0)) rfl ?_
      refine to_n 1 (fr' := (46, [(0, .ref 0), (1, .int (nI n1))], [.ref 0], gh S a b sc6 ar6 lo, ex, 0, 0)) rfl ?_
      refine to_get rfl rfl rfl rfl ?_
      refine to_n 1 (fr' := (50, [(0, .ref 0), (1, .int (nI n1))], [.int (nI n1), .ref 13], gh S a b sc6 ar6 lo, ex, 0, 0)) rfl ?_
      refine to_cp (q := 17) (M1 := an_X1_bound) (rest := []) rfl rfl (by decide) rfl ⟨_, rfl⟩ (sf_X1_bound hW hI6 n (by omega) (nI n1) ((hF6.1 1308 (by decide)).trans en) (d + 5)) (fun x7 hx7 => ?_)
      have hp7 := hx7
      refine to_eq (fr' := (53, [(0, .ref 0), (1, .int (nI n1))], [.int x7], gh S a b sc6 ar6 lo, ex, 0, 0)) rfl ?_
      exact to_rt (i := .ireturn) (tg := []) rfl rfl (Or.inl ⟨_, _, _, ⟨hI6, hF6, ⟨n1, hn1, rfl, Or.inr ⟨q2, hG6.2 5 (by decide), zli_of (by omega) hx6.1 hx6.2 rfl, hp7⟩⟩⟩, rfl⟩)
    · refine to_n 1 (fr' := (18, [(0, .ref 0), (1, .int (nI n1))], [.int (-1)], gh S a b sc ar lo, ex, 0, 0)) rfl ?_
      exact to_rt (i := .ireturn) (tg := []) rfl rfl (Or.inl ⟨_, _, _, ⟨hI, hF, ⟨n1, hn1, rfl, Or.inl ⟨q2, rfl, rfl, rfl, rfl⟩⟩⟩, rfl⟩)
  · exact to_thr (q := 89) (M1 := an_X9_needCell) (rest := []) rfl rfl (by decide) rfl ⟨_, rfl⟩ (needCell_0  w1 (d + 4)) rfl trivial (Or.inr ⟨w1, rfl⟩)
set_option maxRecDepth 20000 in
theorem sf_X9_order {X : Nat × (Nat → Int32)} {S a b : Nat} {sc : Nat → Int32} {ar : Nat → Nat → Int32} {lo : Nat → Int64} {ex : Bool} (hW : Wd S a b) (hI : Iv S sc ar) (n : Nat) (enb : n < 9) (x1 : Int32) (x2 : Int32) (x3 : Int32) (en : sc 1308 = nI n) (d : Nat)  : ce X S a b (d + 3) 92 [.ref 0, .int x1, .int x2, .int x3] sc ar lo ex "java/util/NoSuchElementException" ((¬ (0 ≤ x1 ∧ x1 < nI n) ∨ ¬ (0 ≤ x2 ∧ x2 < nI S))) (fun x sc' ar' => Iv S sc' ar' ∧ Fr [] [11, 17, 18] sc ar sc' ar' ∧ rl x 2 ∧ (∃ c k : Nat, c < n ∧ x1 = nI c ∧ k < S ∧ x2 = nI k ∧ zor c k x3 x (ar 5) (ar 11) (ar 17) (ar 18) (ar' 11) (ar' 17) (ar' 18))) := by
  obtain ⟨ha1, ha8, hb1, hb8, hab, hS1, hS⟩ := id hW
  refine ce_of (M := an_X9_order) rfl (Nat.le_of_ble_eq_true rfl) ?_
  have hF : Fr [] [11, 17, 18] sc ar sc ar := fr_0
  refine to_eq (fr' := (0, [(0, .ref 0), (1, .int x1), (2, .int x2), (3, .int x3)], [], gh S a b sc ar lo, ex, 0, 0)) rfl ?_
  refine to_n 2 (fr' := (2, [(0, .ref 0), (1, .int x1), (2, .int x2), (3, .int x3)], [.int x1, .ref 0], gh S a b sc ar lo, ex, 0, 0)) rfl ?_
  rcases has_or (x := x1) (B := n) (by omega) with ⟨n1, hn1, e1⟩ | w1
  · subst e1
    refine to_cu (q := 90) (M1 := an_X9_needCrew) (rest := []) rfl rfl (by decide) rfl ⟨_, rfl⟩ (needCrew_1 (n := n1) en (by omega) d) ?_
    refine to_eq (fr' := (5, [(0, .ref 0), (1, .int (nI n1)), (2, .int x2), (3, .int x3)], [], gh S a b sc ar lo, ex, 0, 0)) rfl ?_
    refine to_n 2 (fr' := (7, [(0, .ref 0), (1, .int (nI n1)), (2, .int x2), (3, .int x3)], [.int x2, .ref 0], gh S a b sc ar lo, ex, 0, 0)) rfl ?_
    rcases has_or (x := x2) (B := S) (by omega) with ⟨n2, hn2, e2⟩ | w2
    · subst e2
      refine to_cu (q := 89) (M1 := an_X9_needCell) (rest := []) rfl rfl (by decide) rfl ⟨_, rfl⟩ (needCell_1 (n := n2)  (by omega) d) ?_
      refine to_eq (fr' := (10, [(0, .ref 0), (1, .int (nI n1)), (2, .int (nI n2)), (3, .int x3)], [], gh S a b sc ar lo, ex, 0, 0)) rfl ?_
      refine to_n 1 (fr' := (11, [(0, .ref 0), (1, .int (nI n1)), (2, .int (nI n2)), (3, .int x3)], [.ref 0], gh S a b sc ar lo, ex, 0, 0)) rfl ?_
      refine to_get rfl rfl rfl rfl ?_
      refine to_get rfl rfl rfl rfl ?_
      refine to_n 1 (fr' := (18, [(0, .ref 0), (1, .int (nI n1)), (2, .int (nI n2)), (3, .int x3)], [.int (nI n2), .ref 5], gh S a b sc ar lo, ex, 0, 0)) rfl ?_
      refine to_ialR (i := n2) (v := (ar 5 n2)) rfl (by decide) rfl (by omega) (by omega) (congrFun (hF.2 5 (by decide)) n2) ?_
      refine to_n 1 (fr' := (20, [(0, .ref 0), (1, .int (nI n1)), (2, .int (nI n2)), (3, .int x3)], [.int x3, .int (ar 5 n2)], gh S a b sc ar lo, ex, 0, 0)) rfl ?_
      refine to_ic_ne (t := 36) rfl (fun q3 => ?_) (fun q3 => ?_)
      · refine to_n 1 (fr' := (37, [(0, .ref 0), (1, .int (nI n1)), (2, .int (nI n2)), (3, .int x3)], [.int 0], gh S a b sc ar lo, ex, 0, 0)) rfl ?_
        exact to_rt (i := .ireturn) (tg := []) rfl rfl (Or.inl ⟨_, _, _, ⟨hI, hF, ⟨rl_n (n := 0) (by omega), ⟨n1, n2, hn1, rfl, hn2, rfl, Or.inr ⟨rfl, (fun w => q3 w.1), rfl, rfl, rfl⟩⟩⟩⟩, rfl⟩)
      · refine to_n 1 (fr' := (24, [(0, .ref 0), (1, .int (nI n1)), (2, .int (nI n2)), (3, .int x3)], [.ref 0], gh S a b sc ar lo, ex, 0, 0)) rfl ?_
        refine to_get rfl rfl rfl rfl ?_
        refine to_get rfl rfl rfl rfl ?_
        refine to_n 1 (fr' := (31, [(0, .ref 0), (1, .int (nI n1)), (2, .int (nI n2)), (3, .int x3)], [.int (nI n1), .ref 17], gh S a b sc ar lo, ex, 0, 0)) rfl ?_
        rcases iv_a17 hI n1 with e4 | ⟨n4, hn4, e4⟩
        · refine to_ialR (i := n1) (v := (-1)) rfl (by decide) rfl (by omega) (by omega) e4 ?_
          refine to_n 1 (fr' := (33, [(0, .ref 0), (1, .int (nI n1)), (2, .int (nI n2)), (3, .int x3)], [.int (nI n2), .int (-1)], gh S a b sc ar lo, ex, 0, 0)) rfl ?_
          refine to_ic_ne_T (t := 38) (x := (-1)) (y := (nI n2)) rfl (fun w => nI_neg (n := n2) (x := (-1)) (by omega) (by decide) w.symm) ?_
          refine to_n 1 (fr' := (39, [(0, .ref 0), (1, .int (nI n1)), (2, .int (nI n2)), (3, .int x3)], [.ref 0], gh S a b sc ar lo, ex, 0, 0)) rfl ?_
          refine to_get rfl rfl rfl rfl ?_
          refine to_get rfl rfl rfl rfl ?_
          refine to_n 1 (fr' := (46, [(0, .ref 0), (1, .int (nI n1)), (2, .int (nI n2)), (3, .int x3)], [.int (nI n1), .ref 17], gh S a b sc ar lo, ex, 0, 0)) rfl ?_
          refine to_ialR (i := n1) (v := (-1)) rfl (by decide) rfl (by omega) (by omega) e4 ?_
          refine to_n 2 (fr' := (50, [(0, .ref 0), (1, .int (nI n1)), (2, .int (nI n2)), (3, .int x3), (4, .int (-1))], [.ref 0], gh S a b sc ar lo, ex, 0, 0)) rfl ?_
          refine to_get rfl rfl rfl rfl ?_
          refine to_n 1 (fr' := (55, [(0, .ref 0), (1, .int (nI n1)), (2, .int (nI n2)), (3, .int x3), (4, .int (-1))], [.int (-1), .ref 1], gh S a b sc ar lo, ex, 0, 0)) rfl ?_
          refine to_cp (q := 2) (M1 := an_X0_has) (rest := []) rfl rfl (by decide) rfl ⟨_, rfl⟩ (sf_has_0  (has_neg (by decide)) (d + 1)) (fun x5 hx5 => ?_)
          obtain rfl := hx5
          refine to_eq (fr' := (58, [(0, .ref 0), (1, .int (nI n1)), (2, .int (nI n2)), (3, .int x3), (4, .int (-1))], [.int 0], gh S a b sc ar lo, ex, 0, 0)) rfl ?_
          refine to_n 2 (fr' := (87, [(0, .ref 0), (1, .int (nI n1)), (2, .int (nI n2)), (3, .int x3), (4, .int (-1))], [.ref 0], gh S a b sc ar lo, ex, 0, 0)) rfl ?_
          refine to_get rfl rfl rfl rfl ?_
          refine to_get rfl rfl rfl rfl ?_
          refine to_n 2 (fr' := (95, [(0, .ref 0), (1, .int (nI n1)), (2, .int (nI n2)), (3, .int x3), (4, .int (-1))], [.int (nI n2), .int (nI n1), .ref 17], gh S a b sc ar lo, ex, 0, 0)) rfl ?_
          refine to_iasR (i := n1) (h' := gh S a b sc (uA ar 17 (upd (ar 17) n1 (nI n2))) lo) rfl rfl (by omega) (by omega) rfl ?_
          have hI6 := ia_17 (i := n1) (v := (nI n2)) hI (rq_n (n := n2) (by omega))
          have hF6 := fr_a (c := 17) (g := (upd (ar 17) n1 (nI n2))) hF (by decide)
          refine to_n 1 (fr' := (97, [(0, .ref 0), (1, .int (nI n1)), (2, .int (nI n2)), (3, .int x3), (4, .int (-1))], [.ref 0], gh S a b sc (uA ar 17 (upd (ar 17) n1 (nI n2))) lo, ex, 0, 0)) rfl ?_
          refine to_get rfl rfl rfl rfl ?_
          refine to_get rfl rfl rfl rfl ?_
          refine to_n 2 (fr' := (105, [(0, .ref 0), (1, .int (nI n1)), (2, .int (nI n2)), (3, .int x3), (4, .int (-1))], [.int x3, .int (nI n1), .ref 18], gh S a b sc (uA ar 17 (upd (ar 17) n1 (nI n2))) lo, ex, 0, 0)) rfl ?_
          refine to_if_ne (t := 112) rfl (fun q7 => ?_) (fun q7 => ?_)
          · refine to_n 1 (fr' := (113, [(0, .ref 0), (1, .int (nI n1)), (2, .int (nI n2)), (3, .int x3), (4, .int (-1))], [.int 0, .int (nI n1), .ref 18], gh S a b sc (uA ar 17 (upd (ar 17) n1 (nI n2))) lo, ex, 0, 0)) rfl ?_
            refine to_zasR (i := n1) (h' := gh S a b sc (uA (uA ar 17 (upd (ar 17) n1 (nI n2))) 18 (upd ((uA ar 17 (upd (ar 17) n1 (nI n2))) 18) n1 (vp_nar .boolean 0))) lo) rfl rfl (by omega) (by omega) rfl ?_
            have hI8 := ia_18 (g := (upd ((uA ar 17 (upd (ar 17) n1 (nI n2))) 18) n1 (vp_nar .boolean 0))) hI6
            have hF8 := fr_a (c := 18) (g := (upd ((uA ar 17 (upd (ar 17) n1 (nI n2))) 18) n1 (vp_nar .boolean 0))) hF6 (by decide)
            refine to_n 1 (fr' := (115, [(0, .ref 0), (1, .int (nI n1)), (2, .int (nI n2)), (3, .int x3), (4, .int (-1))], [.int 1], gh S a b sc (uA (uA ar 17 (upd (ar 17) n1 (nI n2))) 18 (upd ((uA ar 17 (upd (ar 17) n1 (nI n2))) 18) n1 (vp_nar .boolean 0))) lo, ex, 0, 0)) rfl ?_
            exact to_rt (i := .ireturn) (tg := []) rfl rfl (Or.inl ⟨_, _, _, ⟨hI8, hF8, ⟨rl_n (n := 1) (by omega), ⟨n1, n2, hn1, rfl, hn2, rfl, Or.inl ⟨rfl, ⟨q3, (ni_m e4 (by omega))⟩, zor_m e4, rfl, zor_v q7⟩⟩⟩⟩, rfl⟩)
          · refine to_n 2 (fr' := (113, [(0, .ref 0), (1, .int (nI n1)), (2, .int (nI n2)), (3, .int x3), (4, .int (-1))], [.int 1, .int (nI n1), .ref 18], gh S a b sc (uA ar 17 (upd (ar 17) n1 (nI n2))) lo, ex, 0, 0)) rfl ?_
            refine to_zasR (i := n1) (h' := gh S a b sc (uA (uA ar 17 (upd (ar 17) n1 (nI n2))) 18 (upd ((uA ar 17 (upd (ar 17) n1 (nI n2))) 18) n1 (vp_nar .boolean 1))) lo) rfl rfl (by omega) (by omega) rfl ?_
            have hI9 := ia_18 (g := (upd ((uA ar 17 (upd (ar 17) n1 (nI n2))) 18) n1 (vp_nar .boolean 1))) hI6
            have hF9 := fr_a (c := 18) (g := (upd ((uA ar 17 (upd (ar 17) n1 (nI n2))) 18) n1 (vp_nar .boolean 1))) hF6 (by decide)
            refine to_n 1 (fr' := (115, [(0, .ref 0), (1, .int (nI n1)), (2, .int (nI n2)), (3, .int x3), (4, .int (-1))], [.int 1], gh S a b sc (uA (uA ar 17 (upd (ar 17) n1 (nI n2))) 18 (upd ((uA ar 17 (upd (ar 17) n1 (nI n2))) 18) n1 (vp_nar .boolean 1))) lo, ex, 0, 0)) rfl ?_
            exact to_rt (i := .ireturn) (tg := []) rfl rfl (Or.inl ⟨_, _, _, ⟨hI9, hF9, ⟨rl_n (n := 1) (by omega), ⟨n1, n2, hn1, rfl, hn2, rfl, Or.inl ⟨rfl, ⟨q3, (ni_m e4 (by omega))⟩, zor_m e4, rfl, zor_u q7⟩⟩⟩⟩, rfl⟩)
        · refine to_ialR (i := n1) (v := (nI n4)) rfl (by decide) rfl (by omega) (by omega) e4 ?_
          refine to_n 1 (fr' := (33, [(0, .ref 0), (1, .int (nI n1)), (2, .int (nI n2)), (3, .int x3)], [.int (nI n2), .int (nI n4)], gh S a b sc ar lo, ex, 0, 0)) rfl ?_
          refine to_nc_ne (t := 38) (x := n4) (y := n2) rfl (by omega) (by omega) (fun q10 => ?_) (fun q10 => ?_)
          · refine to_n 1 (fr' := (39, [(0, .ref 0), (1, .int (nI n1)), (2, .int (nI n2)), (3, .int x3)], [.ref 0], gh S a b sc ar lo, ex, 0, 0)) rfl ?_
            refine to_get rfl rfl rfl rfl ?_
            refine to_get rfl rfl rfl rfl ?_
            refine to_n 1 (fr' := (46, [(0, .ref 0), (1, .int (nI n1)), (2, .int (nI n2)), (3, .int x3)], [.int (nI n1), .ref 17], gh S a b sc ar lo, ex, 0, 0)) rfl ?_
            refine to_ialR (i := n1) (v := (nI n4)) rfl (by decide) rfl (by omega) (by omega) e4 ?_
            refine to_n 2 (fr' := (50, [(0, .ref 0), (1, .int (nI n1)), (2, .int (nI n2)), (3, .int x3), (4, .int (nI n4))], [.ref 0], gh S a b sc ar lo, ex, 0, 0)) rfl ?_
            refine to_get rfl rfl rfl rfl ?_
            refine to_n 1 (fr' := (55, [(0, .ref 0), (1, .int (nI n1)), (2, .int (nI n2)), (3, .int x3), (4, .int (nI n4))], [.int (nI n4), .ref 1], gh S a b sc ar lo, ex, 0, 0)) rfl ?_
            rcases Nat.lt_or_ge n4 S with w11 | w11
            · refine to_cp (q := 2) (M1 := an_X0_has) (rest := []) rfl rfl (by decide) rfl ⟨_, rfl⟩ (sf_has_1 (n := n4)  (by omega) (d + 1)) (fun x11 hx11 => ?_)
              obtain rfl := hx11
              refine to_eq (fr' := (58, [(0, .ref 0), (1, .int (nI n1)), (2, .int (nI n2)), (3, .int x3), (4, .int (nI n4))], [.int 1], gh S a b sc ar lo, ex, 0, 0)) rfl ?_
              refine to_n 2 (fr' := (62, [(0, .ref 0), (1, .int (nI n1)), (2, .int (nI n2)), (3, .int x3), (4, .int (nI n4))], [.ref 0], gh S a b sc ar lo, ex, 0, 0)) rfl ?_
              refine to_get rfl rfl rfl rfl ?_
              refine to_get rfl rfl rfl rfl ?_
              refine to_n 1 (fr' := (70, [(0, .ref 0), (1, .int (nI n1)), (2, .int (nI n2)), (3, .int x3), (4, .int (nI n4))], [.int (nI n4), .ref 11], gh S a b sc ar lo, ex, 0, 0)) rfl ?_
              refine to_ialR (i := n4) (v := ((ar 11) n4)) rfl (by decide) rfl (by omega) (by omega) rfl ?_
              refine to_n 1 (fr' := (72, [(0, .ref 0), (1, .int (nI n1)), (2, .int (nI n2)), (3, .int x3), (4, .int (nI n4))], [.int (nI n1), .int ((ar 11) n4)], gh S a b sc ar lo, ex, 0, 0)) rfl ?_
              refine to_ic_ne (t := 86) rfl (fun q12 => ?_) (fun q12 => ?_)
              · refine to_n 1 (fr' := (87, [(0, .ref 0), (1, .int (nI n1)), (2, .int (nI n2)), (3, .int x3), (4, .int (nI n4))], [.ref 0], gh S a b sc ar lo, ex, 0, 0)) rfl ?_
                refine to_get rfl rfl rfl rfl ?_
                refine to_get rfl rfl rfl rfl ?_
                refine to_n 2 (fr' := (95, [(0, .ref 0), (1, .int (nI n1)), (2, .int (nI n2)), (3, .int x3), (4, .int (nI n4))], [.int (nI n2), .int (nI n1), .ref 17], gh S a b sc ar lo, ex, 0, 0)) rfl ?_
                refine to_iasR (i := n1) (h' := gh S a b sc (uA ar 17 (upd (ar 17) n1 (nI n2))) lo) rfl rfl (by omega) (by omega) rfl ?_
                have hI13 := ia_17 (i := n1) (v := (nI n2)) hI (rq_n (n := n2) (by omega))
                have hF13 := fr_a (c := 17) (g := (upd (ar 17) n1 (nI n2))) hF (by decide)
                refine to_n 1 (fr' := (97, [(0, .ref 0), (1, .int (nI n1)), (2, .int (nI n2)), (3, .int x3), (4, .int (nI n4))], [.ref 0], gh S a b sc (uA ar 17 (upd (ar 17) n1 (nI n2))) lo, ex, 0, 0)) rfl ?_
                refine to_get rfl rfl rfl rfl ?_
                refine to_get rfl rfl rfl rfl ?_
                refine to_n 2 (fr' := (105, [(0, .ref 0), (1, .int (nI n1)), (2, .int (nI n2)), (3, .int x3), (4, .int (nI n4))], [.int x3, .int (nI n1), .ref 18], gh S a b sc (uA ar 17 (upd (ar 17) n1 (nI n2))) lo, ex, 0, 0)) rfl ?_
                refine to_if_ne (t := 112) rfl (fun q14 => ?_) (fun q14 => ?_)
                · refine to_n 1 (fr' := (113, [(0, .ref 0), (1, .int (nI n1)), (2, .int (nI n2)), (3, .int x3), (4, .int (nI n4))], [.int 0, .int (nI n1), .ref 18], gh S a b sc (uA ar 17 (upd (ar 17) n1 (nI n2))) lo, ex, 0, 0)) rfl ?_
                  refine to_zasR (i := n1) (h' := gh S a b sc (uA (uA ar 17 (upd (ar 17) n1 (nI n2))) 18 (upd ((uA ar 17 (upd (ar 17) n1 (nI n2))) 18) n1 (vp_nar .boolean 0))) lo) rfl rfl (by omega) (by omega) rfl ?_
                  have hI15 := ia_18 (g := (upd ((uA ar 17 (upd (ar 17) n1 (nI n2))) 18) n1 (vp_nar .boolean 0))) hI13
                  have hF15 := fr_a (c := 18) (g := (upd ((uA ar 17 (upd (ar 17) n1 (nI n2))) 18) n1 (vp_nar .boolean 0))) hF13 (by decide)
                  refine to_n 1 (fr' := (115, [(0, .ref 0), (1, .int (nI n1)), (2, .int (nI n2)), (3, .int x3), (4, .int (nI n4))], [.int 1], gh S a b sc (uA (uA ar 17 (upd (ar 17) n1 (nI n2))) 18 (upd ((uA ar 17 (upd (ar 17) n1 (nI n2))) 18) n1 (vp_nar .boolean 0))) lo, ex, 0, 0)) rfl ?_
                  exact to_rt (i := .ireturn) (tg := []) rfl rfl (Or.inl ⟨_, _, _, ⟨hI15, hF15, ⟨rl_n (n := 1) (by omega), ⟨n1, n2, hn1, rfl, hn2, rfl, Or.inl ⟨rfl, ⟨q3, (ni_ne e4 q10 (by omega) (by omega))⟩, zor_n e4 (by omega) q12, rfl, zor_v q14⟩⟩⟩⟩, rfl⟩)
                · refine to_n 2 (fr' := (113, [(0, .ref 0), (1, .int (nI n1)), (2, .int (nI n2)), (3, .int x3), (4, .int (nI n4))], [.int 1, .int (nI n1), .ref 18], gh S a b sc (uA ar 17 (upd (ar 17) n1 (nI n2))) lo, ex, 0, 0)) rfl ?_
                  refine to_zasR (i := n1) (h' := gh S a b sc (uA (uA ar 17 (upd (ar 17) n1 (nI n2))) 18 (upd ((uA ar 17 (upd (ar 17) n1 (nI n2))) 18) n1 (vp_nar .boolean 1))) lo) rfl rfl (by omega) (by omega) rfl ?_
                  have hI16 := ia_18 (g := (upd ((uA ar 17 (upd (ar 17) n1 (nI n2))) 18) n1 (vp_nar .boolean 1))) hI13
                  have hF16 := fr_a (c := 18) (g := (upd ((uA ar 17 (upd (ar 17) n1 (nI n2))) 18) n1 (vp_nar .boolean 1))) hF13 (by decide)
                  refine to_n 1 (fr' := (115, [(0, .ref 0), (1, .int (nI n1)), (2, .int (nI n2)), (3, .int x3), (4, .int (nI n4))], [.int 1], gh S a b sc (uA (uA ar 17 (upd (ar 17) n1 (nI n2))) 18 (upd ((uA ar 17 (upd (ar 17) n1 (nI n2))) 18) n1 (vp_nar .boolean 1))) lo, ex, 0, 0)) rfl ?_
                  exact to_rt (i := .ireturn) (tg := []) rfl rfl (Or.inl ⟨_, _, _, ⟨hI16, hF16, ⟨rl_n (n := 1) (by omega), ⟨n1, n2, hn1, rfl, hn2, rfl, Or.inl ⟨rfl, ⟨q3, (ni_ne e4 q10 (by omega) (by omega))⟩, zor_n e4 (by omega) q12, rfl, zor_u q14⟩⟩⟩⟩, rfl⟩)
              · refine to_n 1 (fr' := (76, [(0, .ref 0), (1, .int (nI n1)), (2, .int (nI n2)), (3, .int x3), (4, .int (nI n4))], [.ref 0], gh S a b sc ar lo, ex, 0, 0)) rfl ?_
                refine to_get rfl rfl rfl rfl ?_
                refine to_get rfl rfl rfl rfl ?_
                refine to_n 2 (fr' := (85, [(0, .ref 0), (1, .int (nI n1)), (2, .int (nI n2)), (3, .int x3), (4, .int (nI n4))], [.int (-1), .int (nI n4), .ref 11], gh S a b sc ar lo, ex, 0, 0)) rfl ?_
                refine to_iasR (i := n4) (h' := gh S a b sc (uA ar 11 (upd (ar 11) n4 (-1))) lo) rfl rfl (by omega) (by omega) rfl ?_
                have hI17 := ia_11 (g := (upd (ar 11) n4 (-1))) hI
                have hF17 := fr_a (c := 11) (g := (upd (ar 11) n4 (-1))) hF (by decide)
                refine to_n 1 (fr' := (87, [(0, .ref 0), (1, .int (nI n1)), (2, .int (nI n2)), (3, .int x3), (4, .int (nI n4))], [.ref 0], gh S a b sc (uA ar 11 (upd (ar 11) n4 (-1))) lo, ex, 0, 0)) rfl ?_
                refine to_get rfl rfl rfl rfl ?_
                refine to_get rfl rfl rfl rfl ?_
                refine to_n 2 (fr' := (95, [(0, .ref 0), (1, .int (nI n1)), (2, .int (nI n2)), (3, .int x3), (4, .int (nI n4))], [.int (nI n2), .int (nI n1), .ref 17], gh S a b sc (uA ar 11 (upd (ar 11) n4 (-1))) lo, ex, 0, 0)) rfl ?_
                refine to_iasR (i := n1) (h' := gh S a b sc (uA (uA ar 11 (upd (ar 11) n4 (-1))) 17 (upd ((uA ar 11 (upd (ar 11) n4 (-1))) 17) n1 (nI n2))) lo) rfl rfl (by omega) (by omega) rfl ?_
                have hI18 := ia_17 (i := n1) (v := (nI n2)) hI17 (rq_n (n := n2) (by omega))
                have hF18 := fr_a (c := 17) (g := (upd ((uA ar 11 (upd (ar 11) n4 (-1))) 17) n1 (nI n2))) hF17 (by decide)
                refine to_n 1 (fr' := (97, [(0, .ref 0), (1, .int (nI n1)), (2, .int (nI n2)), (3, .int x3), (4, .int (nI n4))], [.ref 0], gh S a b sc (uA (uA ar 11 (upd (ar 11) n4 (-1))) 17 (upd ((uA ar 11 (upd (ar 11) n4 (-1))) 17) n1 (nI n2))) lo, ex, 0, 0)) rfl ?_
                refine to_get rfl rfl rfl rfl ?_
                refine to_get rfl rfl rfl rfl ?_
                refine to_n 2 (fr' := (105, [(0, .ref 0), (1, .int (nI n1)), (2, .int (nI n2)), (3, .int x3), (4, .int (nI n4))], [.int x3, .int (nI n1), .ref 18], gh S a b sc (uA (uA ar 11 (upd (ar 11) n4 (-1))) 17 (upd ((uA ar 11 (upd (ar 11) n4 (-1))) 17) n1 (nI n2))) lo, ex, 0, 0)) rfl ?_
                refine to_if_ne (t := 112) rfl (fun q19 => ?_) (fun q19 => ?_)
                · refine to_n 1 (fr' := (113, [(0, .ref 0), (1, .int (nI n1)), (2, .int (nI n2)), (3, .int x3), (4, .int (nI n4))], [.int 0, .int (nI n1), .ref 18], gh S a b sc (uA (uA ar 11 (upd (ar 11) n4 (-1))) 17 (upd ((uA ar 11 (upd (ar 11) n4 (-1))) 17) n1 (nI n2))) lo, ex, 0, 0)) rfl ?_
                  refine to_zasR (i := n1) (h' := gh S a b sc (uA (uA (uA ar 11 (upd (ar 11) n4 (-1))) 17 (upd ((uA ar 11 (upd (ar 11) n4 (-1))) 17) n1 (nI n2))) 18 (upd ((uA (uA ar 11 (upd (ar 11) n4 (-1))) 17 (upd ((uA ar 11 (upd (ar 11) n4 (-1))) 17) n1 (nI n2))) 18) n1 (vp_nar .boolean 0))) lo) rfl rfl (by omega) (by omega) rfl ?_
                  have hI20 := ia_18 (g := (upd ((uA (uA ar 11 (upd (ar 11) n4 (-1))) 17 (upd ((uA ar 11 (upd (ar 11) n4 (-1))) 17) n1 (nI n2))) 18) n1 (vp_nar .boolean 0))) hI18
                  have hF20 := fr_a (c := 18) (g := (upd ((uA (uA ar 11 (upd (ar 11) n4 (-1))) 17 (upd ((uA ar 11 (upd (ar 11) n4 (-1))) 17) n1 (nI n2))) 18) n1 (vp_nar .boolean 0))) hF18 (by decide)
                  refine to_n 1 (fr' := (115, [(0, .ref 0), (1, .int (nI n1)), (2, .int (nI n2)), (3, .int x3), (4, .int (nI n4))], [.int 1], gh S a b sc (uA (uA (uA ar 11 (upd (ar 11) n4 (-1))) 17 (upd ((uA ar 11 (upd (ar 11) n4 (-1))) 17) n1 (nI n2))) 18 (upd ((uA (uA ar 11 (upd (ar 11) n4 (-1))) 17 (upd ((uA ar 11 (upd (ar 11) n4 (-1))) 17) n1 (nI n2))) 18) n1 (vp_nar .boolean 0))) lo, ex, 0, 0)) rfl ?_
                  exact to_rt (i := .ireturn) (tg := []) rfl rfl (Or.inl ⟨_, _, _, ⟨hI20, hF20, ⟨rl_n (n := 1) (by omega), ⟨n1, n2, hn1, rfl, hn2, rfl, Or.inl ⟨rfl, ⟨q3, (ni_ne e4 q10 (by omega) (by omega))⟩, zor_y e4 (by omega) q12, rfl, zor_v q19⟩⟩⟩⟩, rfl⟩)
                · refine to_n 2 (fr' := (113, [(0, .ref 0), (1, .int (nI n1)), (2, .int (nI n2)), (3, .int x3), (4, .int (nI n4))], [.int 1, .int (nI n1), .ref 18], gh S a b sc (uA (uA ar 11 (upd (ar 11) n4 (-1))) 17 (upd ((uA ar 11 (upd (ar 11) n4 (-1))) 17) n1 (nI n2))) lo, ex, 0, 0)) rfl ?_
                  refine to_zasR (i := n1) (h' := gh S a b sc (uA (uA (uA ar 11 (upd (ar 11) n4 (-1))) 17 (upd ((uA ar 11 (upd (ar 11) n4 (-1))) 17) n1 (nI n2))) 18 (upd ((uA (uA ar 11 (upd (ar 11) n4 (-1))) 17 (upd ((uA ar 11 (upd (ar 11) n4 (-1))) 17) n1 (nI n2))) 18) n1 (vp_nar .boolean 1))) lo) rfl rfl (by omega) (by omega) rfl ?_
                  have hI21 := ia_18 (g := (upd ((uA (uA ar 11 (upd (ar 11) n4 (-1))) 17 (upd ((uA ar 11 (upd (ar 11) n4 (-1))) 17) n1 (nI n2))) 18) n1 (vp_nar .boolean 1))) hI18
                  have hF21 := fr_a (c := 18) (g := (upd ((uA (uA ar 11 (upd (ar 11) n4 (-1))) 17 (upd ((uA ar 11 (upd (ar 11) n4 (-1))) 17) n1 (nI n2))) 18) n1 (vp_nar .boolean 1))) hF18 (by decide)
                  refine to_n 1 (fr' := (115, [(0, .ref 0), (1, .int (nI n1)), (2, .int (nI n2)), (3, .int x3), (4, .int (nI n4))], [.int 1], gh S a b sc (uA (uA (uA ar 11 (upd (ar 11) n4 (-1))) 17 (upd ((uA ar 11 (upd (ar 11) n4 (-1))) 17) n1 (nI n2))) 18 (upd ((uA (uA ar 11 (upd (ar 11) n4 (-1))) 17 (upd ((uA ar 11 (upd (ar 11) n4 (-1))) 17) n1 (nI n2))) 18) n1 (vp_nar .boolean 1))) lo, ex, 0, 0)) rfl ?_
                  exact to_rt (i := .ireturn) (tg := []) rfl rfl (Or.inl ⟨_, _, _, ⟨hI21, hF21, ⟨rl_n (n := 1) (by omega), ⟨n1, n2, hn1, rfl, hn2, rfl, Or.inl ⟨rfl, ⟨q3, (ni_ne e4 q10 (by omega) (by omega))⟩, zor_y e4 (by omega) q12, rfl, zor_u q19⟩⟩⟩⟩, rfl⟩)
            · refine to_cp (q := 2) (M1 := an_X0_has) (rest := []) rfl rfl (by decide) rfl ⟨_, rfl⟩ (sf_has_0  (has_no (n := n4) (B := S) (by omega) (by omega) (by omega)) (d + 1)) (fun x11 hx11 => ?_)
              obtain rfl := hx11
              refine to_eq (fr' := (58, [(0, .ref 0), (1, .int (nI n1)), (2, .int (nI n2)), (3, .int x3), (4, .int (nI n4))], [.int 0], gh S a b sc ar lo, ex, 0, 0)) rfl ?_
              refine to_n 2 (fr' := (87, [(0, .ref 0), (1, .int (nI n1)), (2, .int (nI n2)), (3, .int x3), (4, .int (nI n4))], [.ref 0], gh S a b sc ar lo, ex, 0, 0)) rfl ?_
              refine to_get rfl rfl rfl rfl ?_
              refine to_get rfl rfl rfl rfl ?_
              refine to_n 2 (fr' := (95, [(0, .ref 0), (1, .int (nI n1)), (2, .int (nI n2)), (3, .int x3), (4, .int (nI n4))], [.int (nI n2), .int (nI n1), .ref 17], gh S a b sc ar lo, ex, 0, 0)) rfl ?_
              refine to_iasR (i := n1) (h' := gh S a b sc (uA ar 17 (upd (ar 17) n1 (nI n2))) lo) rfl rfl (by omega) (by omega) rfl ?_
              have hI22 := ia_17 (i := n1) (v := (nI n2)) hI (rq_n (n := n2) (by omega))
              have hF22 := fr_a (c := 17) (g := (upd (ar 17) n1 (nI n2))) hF (by decide)
              refine to_n 1 (fr' := (97, [(0, .ref 0), (1, .int (nI n1)), (2, .int (nI n2)), (3, .int x3), (4, .int (nI n4))], [.ref 0], gh S a b sc (uA ar 17 (upd (ar 17) n1 (nI n2))) lo, ex, 0, 0)) rfl ?_
              refine to_get rfl rfl rfl rfl ?_
              refine to_get rfl rfl rfl rfl ?_
              refine to_n 2 (fr' := (105, [(0, .ref 0), (1, .int (nI n1)), (2, .int (nI n2)), (3, .int x3), (4, .int (nI n4))], [.int x3, .int (nI n1), .ref 18], gh S a b sc (uA ar 17 (upd (ar 17) n1 (nI n2))) lo, ex, 0, 0)) rfl ?_
              refine to_if_ne (t := 112) rfl (fun q23 => ?_) (fun q23 => ?_)
              · refine to_n 1 (fr' := (113, [(0, .ref 0), (1, .int (nI n1)), (2, .int (nI n2)), (3, .int x3), (4, .int (nI n4))], [.int 0, .int (nI n1), .ref 18], gh S a b sc (uA ar 17 (upd (ar 17) n1 (nI n2))) lo, ex, 0, 0)) rfl ?_
                refine to_zasR (i := n1) (h' := gh S a b sc (uA (uA ar 17 (upd (ar 17) n1 (nI n2))) 18 (upd ((uA ar 17 (upd (ar 17) n1 (nI n2))) 18) n1 (vp_nar .boolean 0))) lo) rfl rfl (by omega) (by omega) rfl ?_
                have hI24 := ia_18 (g := (upd ((uA ar 17 (upd (ar 17) n1 (nI n2))) 18) n1 (vp_nar .boolean 0))) hI22
                have hF24 := fr_a (c := 18) (g := (upd ((uA ar 17 (upd (ar 17) n1 (nI n2))) 18) n1 (vp_nar .boolean 0))) hF22 (by decide)
                refine to_n 1 (fr' := (115, [(0, .ref 0), (1, .int (nI n1)), (2, .int (nI n2)), (3, .int x3), (4, .int (nI n4))], [.int 1], gh S a b sc (uA (uA ar 17 (upd (ar 17) n1 (nI n2))) 18 (upd ((uA ar 17 (upd (ar 17) n1 (nI n2))) 18) n1 (vp_nar .boolean 0))) lo, ex, 0, 0)) rfl ?_
                exact to_rt (i := .ireturn) (tg := []) rfl rfl (Or.inl ⟨_, _, _, ⟨hI24, hF24, ⟨rl_n (n := 1) (by omega), ⟨n1, n2, hn1, rfl, hn2, rfl, Or.inl ⟨rfl, ⟨q3, (ni_ne e4 q10 (by omega) (by omega))⟩, by exfalso; omega, rfl, zor_v q23⟩⟩⟩⟩, rfl⟩)
              · refine to_n 2 (fr' := (113, [(0, .ref 0), (1, .int (nI n1)), (2, .int (nI n2)), (3, .int x3), (4, .int (nI n4))], [.int 1, .int (nI n1), .ref 18], gh S a b sc (uA ar 17 (upd (ar 17) n1 (nI n2))) lo, ex, 0, 0)) rfl ?_
                refine to_zasR (i := n1) (h' := gh S a b sc (uA (uA ar 17 (upd (ar 17) n1 (nI n2))) 18 (upd ((uA ar 17 (upd (ar 17) n1 (nI n2))) 18) n1 (vp_nar .boolean 1))) lo) rfl rfl (by omega) (by omega) rfl ?_
                have hI25 := ia_18 (g := (upd ((uA ar 17 (upd (ar 17) n1 (nI n2))) 18) n1 (vp_nar .boolean 1))) hI22
                have hF25 := fr_a (c := 18) (g := (upd ((uA ar 17 (upd (ar 17) n1 (nI n2))) 18) n1 (vp_nar .boolean 1))) hF22 (by decide)
                refine to_n 1 (fr' := (115, [(0, .ref 0), (1, .int (nI n1)), (2, .int (nI n2)), (3, .int x3), (4, .int (nI n4))], [.int 1], gh S a b sc (uA (uA ar 17 (upd (ar 17) n1 (nI n2))) 18 (upd ((uA ar 17 (upd (ar 17) n1 (nI n2))) 18) n1 (vp_nar .boolean 1))) lo, ex, 0, 0)) rfl ?_
                exact to_rt (i := .ireturn) (tg := []) rfl rfl (Or.inl ⟨_, _, _, ⟨hI25, hF25, ⟨rl_n (n := 1) (by omega), ⟨n1, n2, hn1, rfl, hn2, rfl, Or.inl ⟨rfl, ⟨q3, (ni_ne e4 q10 (by omega) (by omega))⟩, by exfalso; omega, rfl, zor_u q23⟩⟩⟩⟩, rfl⟩)
          · refine to_n 1 (fr' := (37, [(0, .ref 0), (1, .int (nI n1)), (2, .int (nI n2)), (3, .int x3)], [.int 0], gh S a b sc ar lo, ex, 0, 0)) rfl ?_
            exact to_rt (i := .ireturn) (tg := []) rfl rfl (Or.inl ⟨_, _, _, ⟨hI, hF, ⟨rl_n (n := 0) (by omega), ⟨n1, n2, hn1, rfl, hn2, rfl, Or.inr ⟨rfl, (fun w => w.2 (e4.trans (congrArg nI q10))), rfl, rfl, rfl⟩⟩⟩⟩, rfl⟩)
    · exact to_thr (q := 89) (M1 := an_X9_needCell) (rest := []) rfl rfl (by decide) rfl ⟨_, rfl⟩ (needCell_0  w2 d) rfl trivial (Or.inr ⟨(Or.inr w2), rfl⟩)
  · exact to_thr (q := 90) (M1 := an_X9_needCrew) (rest := []) rfl rfl (by decide) rfl ⟨_, rfl⟩ (needCrew_0 en w1 d) rfl trivial (Or.inr ⟨(Or.inl w1), rfl⟩)
set_option maxRecDepth 20000 in
theorem sf_X9_send {X : Nat × (Nat → Int32)} {S a b : Nat} {sc : Nat → Int32} {ar : Nat → Nat → Int32} {lo : Nat → Int64} {ex : Bool} (hW : Wd S a b) (hI : Iv S sc ar) (n : Nat) (enb : n < 9) (x1 : Int32) (x2 : Int32) (en : sc 1308 = nI n) (d : Nat)  : ce X S a b (d + 4) 81 [.ref 0, .int x1, .int x2] sc ar lo ex "java/util/NoSuchElementException" ((¬ (0 ≤ x1 ∧ x1 < nI n) ∨ ¬ (0 ≤ x2 ∧ x2 < nI S))) (fun x sc' ar' => Iv S sc' ar' ∧ Fr [] [11, 17, 18] sc ar sc' ar' ∧ rl x 2 ∧ (∃ c k : Nat, c < n ∧ x1 = nI c ∧ k < S ∧ x2 = nI k ∧ zor c k 1 x (ar 5) (ar 11) (ar 17) (ar 18) (ar' 11) (ar' 17) (ar' 18))) := by
  obtain ⟨ha1, ha8, hb1, hb8, hab, hS1, hS⟩ := id hW
  refine ce_of (M := an_X9_send) rfl (Nat.le_of_ble_eq_true rfl) ?_
  have hF : Fr [] [11, 17, 18] sc ar sc ar := fr_0
  refine to_eq (fr' := (0, [(0, .ref 0), (1, .int x1), (2, .int x2)], [], gh S a b sc ar lo, ex, 0, 0)) rfl ?_
  refine to_n 4 (fr' := (4, [(0, .ref 0), (1, .int x1), (2, .int x2)], [.int 1, .int x2, .int x1, .ref 0], gh S a b sc ar lo, ex, 0, 0)) rfl ?_
  refine to_ce (q := 92) (M1 := an_X9_order) (rest := []) rfl rfl (by decide) rfl ⟨_, rfl⟩ (sf_X9_order hW hI n (by omega) x1 x2 1 ((hF.1 1308 (by decide)).trans en) d) rfl trivial (fun t9 => Or.inr ⟨t9, rfl⟩) (fun x1 sc1 ar1 hx1 => ?_)
  obtain ⟨hI1, hG1, hx1⟩ := hx1
  have hF1 := fr_t hF hG1 (by decide) (by decide)
  obtain ⟨hx1, hp1⟩ := hx1
  obtain ⟨n1, hn1, rfl⟩ := hx1
  refine to_eq (fr' := (7, [(0, .ref 0), (1, .int x1), (2, .int x2)], [.int (nI n1)], gh S a b sc1 ar1 lo, ex, 0, 0)) rfl ?_
  exact to_rt (i := .ireturn) (tg := []) rfl (ai_rtz (rl_n (n := n1) (by omega))) (Or.inl ⟨_, _, _, ⟨hI1, hF1, ⟨rl_n (n := n1) (by omega), hp1⟩⟩, rfl⟩)
set_option maxRecDepth 20000 in
theorem sf_X9_pull {X : Nat × (Nat → Int32)} {S a b : Nat} {sc : Nat → Int32} {ar : Nat → Nat → Int32} {lo : Nat → Int64} {ex : Bool} (hW : Wd S a b) (hI : Iv S sc ar) (n : Nat) (enb : n < 9) (x1 : Int32) (x2 : Int32) (en : sc 1308 = nI n) (d : Nat)  : ce X S a b (d + 4) 82 [.ref 0, .int x1, .int x2] sc ar lo ex "java/util/NoSuchElementException" ((¬ (0 ≤ x1 ∧ x1 < nI n) ∨ ¬ (0 ≤ x2 ∧ x2 < nI S))) (fun x sc' ar' => Iv S sc' ar' ∧ Fr [] [11, 17, 18] sc ar sc' ar' ∧ rl x 2 ∧ (∃ c k : Nat, c < n ∧ x1 = nI c ∧ k < S ∧ x2 = nI k ∧ zor c k 0 x (ar 5) (ar 11) (ar 17) (ar 18) (ar' 11) (ar' 17) (ar' 18))) := by
  obtain ⟨ha1, ha8, hb1, hb8, hab, hS1, hS⟩ := id hW
  refine ce_of (M := an_X9_pull) rfl (Nat.le_of_ble_eq_true rfl) ?_
  have hF : Fr [] [11, 17, 18] sc ar sc ar := fr_0
  refine to_eq (fr' := (0, [(0, .ref 0), (1, .int x1), (2, .int x2)], [], gh S a b sc ar lo, ex, 0, 0)) rfl ?_
  refine to_n 4 (fr' := (4, [(0, .ref 0), (1, .int x1), (2, .int x2)], [.int 0, .int x2, .int x1, .ref 0], gh S a b sc ar lo, ex, 0, 0)) rfl ?_
  refine to_ce (q := 92) (M1 := an_X9_order) (rest := []) rfl rfl (by decide) rfl ⟨_, rfl⟩ (sf_X9_order hW hI n (by omega) x1 x2 0 ((hF.1 1308 (by decide)).trans en) d) rfl trivial (fun t9 => Or.inr ⟨t9, rfl⟩) (fun x1 sc1 ar1 hx1 => ?_)
  obtain ⟨hI1, hG1, hx1⟩ := hx1
  have hF1 := fr_t hF hG1 (by decide) (by decide)
  obtain ⟨hx1, hp1⟩ := hx1
  obtain ⟨n1, hn1, rfl⟩ := hx1
  refine to_eq (fr' := (7, [(0, .ref 0), (1, .int x1), (2, .int x2)], [.int (nI n1)], gh S a b sc1 ar1 lo, ex, 0, 0)) rfl ?_
  exact to_rt (i := .ireturn) (tg := []) rfl (ai_rtz (rl_n (n := n1) (by omega))) (Or.inl ⟨_, _, _, ⟨hI1, hF1, ⟨rl_n (n := n1) (by omega), hp1⟩⟩, rfl⟩)
set_option maxRecDepth 20000 in
theorem sf_X9_cell {X : Nat × (Nat → Int32)} {S a b : Nat} {sc : Nat → Int32} {ar : Nat → Nat → Int32} {lo : Nat → Int64} {ex : Bool} (hW : Wd S a b) (hI : Iv S sc ar) (x1 : Int32) (x2 : Int32) (d : Nat)  : ce X S a b (d + 3) 84 [.ref 0, .int x1, .int x2] sc ar lo ex "java/util/NoSuchElementException" ((¬ (0 ≤ x1 ∧ x1 < nI S) ∨ zno x2 8)) (fun x sc' ar' => Iv S sc' ar' ∧ Fr [] [] sc ar sc' ar' ∧ (∃ k : Nat, k < S ∧ x1 = nI k ∧ ¬ zno x2 8 ∧ x = zce x2 (ar 5 k) (ar 6 k) (ar 7 k) (ar 8 k) (ar 9 k) (ar 10 k) (ar 11 k) (ar 12 k))) := by
  obtain ⟨ha1, ha8, hb1, hb8, hab, hS1, hS⟩ := id hW
  refine ce_of (M := an_X9_cell) rfl (Nat.le_of_ble_eq_true rfl) ?_
  have hF : Fr [] [] sc ar sc ar := fr_0
  refine to_eq (fr' := (0, [(0, .ref 0), (1, .int x1), (2, .int x2)], [], gh S a b sc ar lo, ex, 0, 0)) rfl ?_
  refine to_n 2 (fr' := (2, [(0, .ref 0), (1, .int x1), (2, .int x2)], [.int x1, .ref 0], gh S a b sc ar lo, ex, 0, 0)) rfl ?_
  rcases has_or (x := x1) (B := S) (by omega) with ⟨n1, hn1, e1⟩ | w1
  · subst e1
    refine to_cu (q := 89) (M1 := an_X9_needCell) (rest := []) rfl rfl (by decide) rfl ⟨_, rfl⟩ (needCell_1 (n := n1)  (by omega) d) ?_
    refine to_eq (fr' := (5, [(0, .ref 0), (1, .int (nI n1)), (2, .int x2)], [], gh S a b sc ar lo, ex, 0, 0)) rfl ?_
    refine to_n 1 (fr' := (6, [(0, .ref 0), (1, .int (nI n1)), (2, .int x2)], [.int x2], gh S a b sc ar lo, ex, 0, 0)) rfl ?_
    rcases Decidable.em (x2 = 0) with z2 | z2
    · refine to_eq (fr' := (6, [(0, .ref 0), (1, .int (nI n1)), (2, .int x2)], [.int 0], gh S a b sc ar lo, ex, 0, 0)) (by rw [z2]) ?_
      refine to_n 1 (fr' := (52, [(0, .ref 0), (1, .int (nI n1)), (2, .int x2)], [], gh S a b sc ar lo, ex, 0, 0)) rfl ?_
      refine to_n 1 (fr' := (53, [(0, .ref 0), (1, .int (nI n1)), (2, .int x2)], [.ref 0], gh S a b sc ar lo, ex, 0, 0)) rfl ?_
      refine to_get rfl rfl rfl rfl ?_
      refine to_get rfl rfl rfl rfl ?_
      refine to_n 1 (fr' := (60, [(0, .ref 0), (1, .int (nI n1)), (2, .int x2)], [.int (nI n1), .ref 5], gh S a b sc ar lo, ex, 0, 0)) rfl ?_
      refine to_ialR (i := n1) (v := (ar 5 n1)) rfl (by decide) rfl (by omega) (by omega) (congrFun (hF.2 5 (by decide)) n1) ?_
      exact to_rt (i := .ireturn) (tg := []) rfl rfl (Or.inl ⟨_, _, _, ⟨hI, hF, ⟨n1, hn1, rfl, zno_n (j := 0) z2 (by omega), by rw [z2]; rfl⟩⟩, rfl⟩)
    · rcases Decidable.em (x2 = 1) with z3 | z3
      · refine to_eq (fr' := (6, [(0, .ref 0), (1, .int (nI n1)), (2, .int x2)], [.int 1], gh S a b sc ar lo, ex, 0, 0)) (by rw [z3]) ?_
        refine to_n 1 (fr' := (62, [(0, .ref 0), (1, .int (nI n1)), (2, .int x2)], [], gh S a b sc ar lo, ex, 0, 0)) rfl ?_
        refine to_n 1 (fr' := (63, [(0, .ref 0), (1, .int (nI n1)), (2, .int x2)], [.ref 0], gh S a b sc ar lo, ex, 0, 0)) rfl ?_
        refine to_get rfl rfl rfl rfl ?_
        refine to_get rfl rfl rfl rfl ?_
        refine to_n 1 (fr' := (70, [(0, .ref 0), (1, .int (nI n1)), (2, .int x2)], [.int (nI n1), .ref 6], gh S a b sc ar lo, ex, 0, 0)) rfl ?_
        refine to_ialR (i := n1) (v := (ar 6 n1)) rfl (by decide) rfl (by omega) (by omega) (congrFun (hF.2 6 (by decide)) n1) ?_
        exact to_rt (i := .ireturn) (tg := []) rfl rfl (Or.inl ⟨_, _, _, ⟨hI, hF, ⟨n1, hn1, rfl, zno_n (j := 1) z3 (by omega), by rw [z3]; rfl⟩⟩, rfl⟩)
      · rcases Decidable.em (x2 = 2) with z4 | z4
        · refine to_eq (fr' := (6, [(0, .ref 0), (1, .int (nI n1)), (2, .int x2)], [.int 2], gh S a b sc ar lo, ex, 0, 0)) (by rw [z4]) ?_
          refine to_n 1 (fr' := (72, [(0, .ref 0), (1, .int (nI n1)), (2, .int x2)], [], gh S a b sc ar lo, ex, 0, 0)) rfl ?_
          refine to_n 1 (fr' := (73, [(0, .ref 0), (1, .int (nI n1)), (2, .int x2)], [.ref 0], gh S a b sc ar lo, ex, 0, 0)) rfl ?_
          refine to_get rfl rfl rfl rfl ?_
          refine to_get rfl rfl rfl rfl ?_
          refine to_n 1 (fr' := (80, [(0, .ref 0), (1, .int (nI n1)), (2, .int x2)], [.int (nI n1), .ref 7], gh S a b sc ar lo, ex, 0, 0)) rfl ?_
          refine to_ialR (i := n1) (v := (ar 7 n1)) rfl (by decide) rfl (by omega) (by omega) (congrFun (hF.2 7 (by decide)) n1) ?_
          exact to_rt (i := .ireturn) (tg := []) rfl rfl (Or.inl ⟨_, _, _, ⟨hI, hF, ⟨n1, hn1, rfl, zno_n (j := 2) z4 (by omega), by rw [z4]; rfl⟩⟩, rfl⟩)
        · rcases Decidable.em (x2 = 3) with z5 | z5
          · refine to_eq (fr' := (6, [(0, .ref 0), (1, .int (nI n1)), (2, .int x2)], [.int 3], gh S a b sc ar lo, ex, 0, 0)) (by rw [z5]) ?_
            refine to_n 1 (fr' := (82, [(0, .ref 0), (1, .int (nI n1)), (2, .int x2)], [], gh S a b sc ar lo, ex, 0, 0)) rfl ?_
            refine to_n 1 (fr' := (83, [(0, .ref 0), (1, .int (nI n1)), (2, .int x2)], [.ref 0], gh S a b sc ar lo, ex, 0, 0)) rfl ?_
            refine to_get rfl rfl rfl rfl ?_
            refine to_get rfl rfl rfl rfl ?_
            refine to_n 1 (fr' := (90, [(0, .ref 0), (1, .int (nI n1)), (2, .int x2)], [.int (nI n1), .ref 8], gh S a b sc ar lo, ex, 0, 0)) rfl ?_
            refine to_ialR (i := n1) (v := (ar 8 n1)) rfl (by decide) rfl (by omega) (by omega) (congrFun (hF.2 8 (by decide)) n1) ?_
            exact to_rt (i := .ireturn) (tg := []) rfl rfl (Or.inl ⟨_, _, _, ⟨hI, hF, ⟨n1, hn1, rfl, zno_n (j := 3) z5 (by omega), by rw [z5]; rfl⟩⟩, rfl⟩)
          · rcases Decidable.em (x2 = 4) with z6 | z6
            · refine to_eq (fr' := (6, [(0, .ref 0), (1, .int (nI n1)), (2, .int x2)], [.int 4], gh S a b sc ar lo, ex, 0, 0)) (by rw [z6]) ?_
              refine to_n 1 (fr' := (92, [(0, .ref 0), (1, .int (nI n1)), (2, .int x2)], [], gh S a b sc ar lo, ex, 0, 0)) rfl ?_
              refine to_n 1 (fr' := (93, [(0, .ref 0), (1, .int (nI n1)), (2, .int x2)], [.ref 0], gh S a b sc ar lo, ex, 0, 0)) rfl ?_
              refine to_get rfl rfl rfl rfl ?_
              refine to_get rfl rfl rfl rfl ?_
              refine to_n 1 (fr' := (100, [(0, .ref 0), (1, .int (nI n1)), (2, .int x2)], [.int (nI n1), .ref 9], gh S a b sc ar lo, ex, 0, 0)) rfl ?_
              refine to_ialR (i := n1) (v := (ar 9 n1)) rfl (by decide) rfl (by omega) (by omega) (congrFun (hF.2 9 (by decide)) n1) ?_
              exact to_rt (i := .ireturn) (tg := []) rfl rfl (Or.inl ⟨_, _, _, ⟨hI, hF, ⟨n1, hn1, rfl, zno_n (j := 4) z6 (by omega), by rw [z6]; rfl⟩⟩, rfl⟩)
            · rcases Decidable.em (x2 = 5) with z7 | z7
              · refine to_eq (fr' := (6, [(0, .ref 0), (1, .int (nI n1)), (2, .int x2)], [.int 5], gh S a b sc ar lo, ex, 0, 0)) (by rw [z7]) ?_
                refine to_n 1 (fr' := (102, [(0, .ref 0), (1, .int (nI n1)), (2, .int x2)], [], gh S a b sc ar lo, ex, 0, 0)) rfl ?_
                refine to_n 1 (fr' := (103, [(0, .ref 0), (1, .int (nI n1)), (2, .int x2)], [.ref 0], gh S a b sc ar lo, ex, 0, 0)) rfl ?_
                refine to_get rfl rfl rfl rfl ?_
                refine to_get rfl rfl rfl rfl ?_
                refine to_n 1 (fr' := (110, [(0, .ref 0), (1, .int (nI n1)), (2, .int x2)], [.int (nI n1), .ref 10], gh S a b sc ar lo, ex, 0, 0)) rfl ?_
                refine to_ialR (i := n1) (v := (ar 10 n1)) rfl (by decide) rfl (by omega) (by omega) (congrFun (hF.2 10 (by decide)) n1) ?_
                exact to_rt (i := .ireturn) (tg := []) rfl rfl (Or.inl ⟨_, _, _, ⟨hI, hF, ⟨n1, hn1, rfl, zno_n (j := 5) z7 (by omega), by rw [z7]; rfl⟩⟩, rfl⟩)
              · rcases Decidable.em (x2 = 6) with z8 | z8
                · refine to_eq (fr' := (6, [(0, .ref 0), (1, .int (nI n1)), (2, .int x2)], [.int 6], gh S a b sc ar lo, ex, 0, 0)) (by rw [z8]) ?_
                  refine to_n 1 (fr' := (112, [(0, .ref 0), (1, .int (nI n1)), (2, .int x2)], [], gh S a b sc ar lo, ex, 0, 0)) rfl ?_
                  refine to_n 1 (fr' := (113, [(0, .ref 0), (1, .int (nI n1)), (2, .int x2)], [.ref 0], gh S a b sc ar lo, ex, 0, 0)) rfl ?_
                  refine to_get rfl rfl rfl rfl ?_
                  refine to_get rfl rfl rfl rfl ?_
                  refine to_n 1 (fr' := (120, [(0, .ref 0), (1, .int (nI n1)), (2, .int x2)], [.int (nI n1), .ref 11], gh S a b sc ar lo, ex, 0, 0)) rfl ?_
                  refine to_ialR (i := n1) (v := (ar 11 n1)) rfl (by decide) rfl (by omega) (by omega) (congrFun (hF.2 11 (by decide)) n1) ?_
                  exact to_rt (i := .ireturn) (tg := []) rfl rfl (Or.inl ⟨_, _, _, ⟨hI, hF, ⟨n1, hn1, rfl, zno_n (j := 6) z8 (by omega), by rw [z8]; rfl⟩⟩, rfl⟩)
                · rcases Decidable.em (x2 = 7) with z9 | z9
                  · refine to_eq (fr' := (6, [(0, .ref 0), (1, .int (nI n1)), (2, .int x2)], [.int 7], gh S a b sc ar lo, ex, 0, 0)) (by rw [z9]) ?_
                    refine to_n 1 (fr' := (122, [(0, .ref 0), (1, .int (nI n1)), (2, .int x2)], [], gh S a b sc ar lo, ex, 0, 0)) rfl ?_
                    refine to_n 1 (fr' := (123, [(0, .ref 0), (1, .int (nI n1)), (2, .int x2)], [.ref 0], gh S a b sc ar lo, ex, 0, 0)) rfl ?_
                    refine to_get rfl rfl rfl rfl ?_
                    refine to_get rfl rfl rfl rfl ?_
                    refine to_n 1 (fr' := (130, [(0, .ref 0), (1, .int (nI n1)), (2, .int x2)], [.int (nI n1), .ref 12], gh S a b sc ar lo, ex, 0, 0)) rfl ?_
                    refine to_zalR (i := n1) (v := (ar 12 n1)) rfl rfl (by omega) (by omega) (congrFun (hF.2 12 (by decide)) n1) ?_
                    refine to_if_eq (t := 138) rfl (fun q10 => ?_) (fun q10 => ?_)
                    · refine to_n 1 (fr' := (139, [(0, .ref 0), (1, .int (nI n1)), (2, .int x2)], [.int 0], gh S a b sc ar lo, ex, 0, 0)) rfl ?_
                      exact to_rt (i := .ireturn) (tg := []) rfl rfl (Or.inl ⟨_, _, _, ⟨hI, hF, ⟨n1, hn1, rfl, zno_n (j := 7) z9 (by omega), by rw [z9]; exact (if_neg (fun w => w q10)).symm⟩⟩, rfl⟩)
                    · refine to_n 2 (fr' := (139, [(0, .ref 0), (1, .int (nI n1)), (2, .int x2)], [.int 1], gh S a b sc ar lo, ex, 0, 0)) rfl ?_
                      exact to_rt (i := .ireturn) (tg := []) rfl rfl (Or.inl ⟨_, _, _, ⟨hI, hF, ⟨n1, hn1, rfl, zno_n (j := 7) z9 (by omega), by rw [z9]; exact (if_pos q10).symm⟩⟩, rfl⟩)
                  · refine to_tbf (t := 140) (ms := [1, 2, 3, 4, 5, 6, 7, 8]) rfl rfl (by decide) rfl (by decide) (List.forall_mem_cons.mpr ⟨sw_ne z2 (by decide), (List.forall_mem_cons.mpr ⟨sw_ne z3 (by decide), (List.forall_mem_cons.mpr ⟨sw_ne z4 (by decide), (List.forall_mem_cons.mpr ⟨sw_ne z5 (by decide), (List.forall_mem_cons.mpr ⟨sw_ne z6 (by decide), (List.forall_mem_cons.mpr ⟨sw_ne z7 (by decide), (List.forall_mem_cons.mpr ⟨sw_ne z8 (by decide), (List.forall_mem_cons.mpr ⟨sw_ne z9 (by decide), (fun m h => absurd h List.not_mem_nil)⟩)⟩)⟩)⟩)⟩)⟩)⟩)⟩) ?_
                    exact to_th (i := .new 183) (tg := []) rfl rfl (Or.inr ⟨(Or.inr (zno_8 z2 z3 z4 z5 z6 z7 z8 z9)), rfl⟩)
  · exact to_thr (q := 89) (M1 := an_X9_needCell) (rest := []) rfl rfl (by decide) rfl ⟨_, rfl⟩ (needCell_0  w1 d) rfl trivial (Or.inr ⟨(Or.inl w1), rfl⟩)
set_option maxRecDepth 20000 in
theorem sf_X9_of {X : Nat × (Nat → Int32)} {S a b : Nat} {sc : Nat → Int32} {ar : Nat → Nat → Int32} {lo : Nat → Int64} {ex : Bool} (hW : Wd S a b) (hI : Iv S sc ar) (n : Nat) (enb : n < 9) (x1 : Int32) (x2 : Int32) (en : sc 1308 = nI n) (d : Nat)  : ce X S a b (d + 3) 85 [.ref 0, .int x1, .int x2] sc ar lo ex "java/util/NoSuchElementException" ((¬ (0 ≤ x1 ∧ x1 < nI n) ∨ zno x2 8)) (fun x sc' ar' => Iv S sc' ar' ∧ Fr [] [] sc ar sc' ar' ∧ (∃ k : Nat, k < n ∧ x1 = nI k ∧ ¬ zno x2 8 ∧ x = zof x2 (ar 14 k) (ar 15 k) (ar 16 k) (ar 17 k) (ar 18 k) (ar 19 k) (ar 20 k) (ar 21 k))) := by
  obtain ⟨ha1, ha8, hb1, hb8, hab, hS1, hS⟩ := id hW
  refine ce_of (M := an_X9_of) rfl (Nat.le_of_ble_eq_true rfl) ?_
  have hF : Fr [] [] sc ar sc ar := fr_0
  refine to_eq (fr' := (0, [(0, .ref 0), (1, .int x1), (2, .int x2)], [], gh S a b sc ar lo, ex, 0, 0)) rfl ?_
  refine to_n 2 (fr' := (2, [(0, .ref 0), (1, .int x1), (2, .int x2)], [.int x1, .ref 0], gh S a b sc ar lo, ex, 0, 0)) rfl ?_
  rcases has_or (x := x1) (B := n) (by omega) with ⟨n1, hn1, e1⟩ | w1
  · subst e1
    refine to_cu (q := 90) (M1 := an_X9_needCrew) (rest := []) rfl rfl (by decide) rfl ⟨_, rfl⟩ (needCrew_1 (n := n1) en (by omega) d) ?_
    refine to_eq (fr' := (5, [(0, .ref 0), (1, .int (nI n1)), (2, .int x2)], [], gh S a b sc ar lo, ex, 0, 0)) rfl ?_
    refine to_n 1 (fr' := (6, [(0, .ref 0), (1, .int (nI n1)), (2, .int x2)], [.int x2], gh S a b sc ar lo, ex, 0, 0)) rfl ?_
    rcases Decidable.em (x2 = 0) with z2 | z2
    · refine to_eq (fr' := (6, [(0, .ref 0), (1, .int (nI n1)), (2, .int x2)], [.int 0], gh S a b sc ar lo, ex, 0, 0)) (by rw [z2]) ?_
      refine to_n 1 (fr' := (52, [(0, .ref 0), (1, .int (nI n1)), (2, .int x2)], [], gh S a b sc ar lo, ex, 0, 0)) rfl ?_
      refine to_n 1 (fr' := (53, [(0, .ref 0), (1, .int (nI n1)), (2, .int x2)], [.ref 0], gh S a b sc ar lo, ex, 0, 0)) rfl ?_
      refine to_get rfl rfl rfl rfl ?_
      refine to_get rfl rfl rfl rfl ?_
      refine to_n 1 (fr' := (60, [(0, .ref 0), (1, .int (nI n1)), (2, .int x2)], [.int (nI n1), .ref 14], gh S a b sc ar lo, ex, 0, 0)) rfl ?_
      refine to_ialR (i := n1) (v := (ar 14 n1)) rfl (by decide) rfl (by omega) (by omega) (congrFun (hF.2 14 (by decide)) n1) ?_
      exact to_rt (i := .ireturn) (tg := []) rfl rfl (Or.inl ⟨_, _, _, ⟨hI, hF, ⟨n1, hn1, rfl, zno_n (j := 0) z2 (by omega), by rw [z2]; rfl⟩⟩, rfl⟩)
    · rcases Decidable.em (x2 = 1) with z3 | z3
      · refine to_eq (fr' := (6, [(0, .ref 0), (1, .int (nI n1)), (2, .int x2)], [.int 1], gh S a b sc ar lo, ex, 0, 0)) (by rw [z3]) ?_
        refine to_n 1 (fr' := (62, [(0, .ref 0), (1, .int (nI n1)), (2, .int x2)], [], gh S a b sc ar lo, ex, 0, 0)) rfl ?_
        refine to_n 1 (fr' := (63, [(0, .ref 0), (1, .int (nI n1)), (2, .int x2)], [.ref 0], gh S a b sc ar lo, ex, 0, 0)) rfl ?_
        refine to_get rfl rfl rfl rfl ?_
        refine to_get rfl rfl rfl rfl ?_
        refine to_n 1 (fr' := (70, [(0, .ref 0), (1, .int (nI n1)), (2, .int x2)], [.int (nI n1), .ref 15], gh S a b sc ar lo, ex, 0, 0)) rfl ?_
        refine to_ialR (i := n1) (v := (ar 15 n1)) rfl (by decide) rfl (by omega) (by omega) (congrFun (hF.2 15 (by decide)) n1) ?_
        exact to_rt (i := .ireturn) (tg := []) rfl rfl (Or.inl ⟨_, _, _, ⟨hI, hF, ⟨n1, hn1, rfl, zno_n (j := 1) z3 (by omega), by rw [z3]; rfl⟩⟩, rfl⟩)
      · rcases Decidable.em (x2 = 2) with z4 | z4
        · refine to_eq (fr' := (6, [(0, .ref 0), (1, .int (nI n1)), (2, .int x2)], [.int 2], gh S a b sc ar lo, ex, 0, 0)) (by rw [z4]) ?_
          refine to_n 1 (fr' := (72, [(0, .ref 0), (1, .int (nI n1)), (2, .int x2)], [], gh S a b sc ar lo, ex, 0, 0)) rfl ?_
          refine to_n 1 (fr' := (73, [(0, .ref 0), (1, .int (nI n1)), (2, .int x2)], [.ref 0], gh S a b sc ar lo, ex, 0, 0)) rfl ?_
          refine to_get rfl rfl rfl rfl ?_
          refine to_get rfl rfl rfl rfl ?_
          refine to_n 1 (fr' := (80, [(0, .ref 0), (1, .int (nI n1)), (2, .int x2)], [.int (nI n1), .ref 16], gh S a b sc ar lo, ex, 0, 0)) rfl ?_
          obtain ⟨n5, hn5, e5⟩ := iv_a16 hI n1
          refine to_ialR (i := n1) (v := (nI n5)) rfl (by decide) rfl (by omega) (by omega) ((congrFun (hF.2 16 (by decide)) n1).trans e5) ?_
          exact to_rt (i := .ireturn) (tg := []) rfl rfl (Or.inl ⟨_, _, _, ⟨hI, hF, ⟨n1, hn1, rfl, zno_n (j := 2) z4 (by omega), by rw [z4]; exact e5.symm⟩⟩, rfl⟩)
        · rcases Decidable.em (x2 = 3) with z6 | z6
          · refine to_eq (fr' := (6, [(0, .ref 0), (1, .int (nI n1)), (2, .int x2)], [.int 3], gh S a b sc ar lo, ex, 0, 0)) (by rw [z6]) ?_
            refine to_n 1 (fr' := (82, [(0, .ref 0), (1, .int (nI n1)), (2, .int x2)], [], gh S a b sc ar lo, ex, 0, 0)) rfl ?_
            refine to_n 1 (fr' := (83, [(0, .ref 0), (1, .int (nI n1)), (2, .int x2)], [.ref 0], gh S a b sc ar lo, ex, 0, 0)) rfl ?_
            refine to_get rfl rfl rfl rfl ?_
            refine to_get rfl rfl rfl rfl ?_
            refine to_n 1 (fr' := (90, [(0, .ref 0), (1, .int (nI n1)), (2, .int x2)], [.int (nI n1), .ref 17], gh S a b sc ar lo, ex, 0, 0)) rfl ?_
            rcases iv_a17 hI n1 with e7 | ⟨n7, hn7, e7⟩
            · refine to_ialR (i := n1) (v := (-1)) rfl (by decide) rfl (by omega) (by omega) ((congrFun (hF.2 17 (by decide)) n1).trans e7) ?_
              exact to_rt (i := .ireturn) (tg := []) rfl rfl (Or.inl ⟨_, _, _, ⟨hI, hF, ⟨n1, hn1, rfl, zno_n (j := 3) z6 (by omega), by rw [z6]; exact e7.symm⟩⟩, rfl⟩)
            · refine to_ialR (i := n1) (v := (nI n7)) rfl (by decide) rfl (by omega) (by omega) ((congrFun (hF.2 17 (by decide)) n1).trans e7) ?_
              exact to_rt (i := .ireturn) (tg := []) rfl rfl (Or.inl ⟨_, _, _, ⟨hI, hF, ⟨n1, hn1, rfl, zno_n (j := 3) z6 (by omega), by rw [z6]; exact e7.symm⟩⟩, rfl⟩)
          · rcases Decidable.em (x2 = 4) with z8 | z8
            · refine to_eq (fr' := (6, [(0, .ref 0), (1, .int (nI n1)), (2, .int x2)], [.int 4], gh S a b sc ar lo, ex, 0, 0)) (by rw [z8]) ?_
              refine to_n 1 (fr' := (92, [(0, .ref 0), (1, .int (nI n1)), (2, .int x2)], [], gh S a b sc ar lo, ex, 0, 0)) rfl ?_
              refine to_n 1 (fr' := (93, [(0, .ref 0), (1, .int (nI n1)), (2, .int x2)], [.ref 0], gh S a b sc ar lo, ex, 0, 0)) rfl ?_
              refine to_get rfl rfl rfl rfl ?_
              refine to_get rfl rfl rfl rfl ?_
              refine to_n 1 (fr' := (100, [(0, .ref 0), (1, .int (nI n1)), (2, .int x2)], [.int (nI n1), .ref 18], gh S a b sc ar lo, ex, 0, 0)) rfl ?_
              refine to_zalR (i := n1) (v := (ar 18 n1)) rfl rfl (by omega) (by omega) (congrFun (hF.2 18 (by decide)) n1) ?_
              refine to_if_eq (t := 108) rfl (fun q9 => ?_) (fun q9 => ?_)
              · refine to_n 1 (fr' := (109, [(0, .ref 0), (1, .int (nI n1)), (2, .int x2)], [.int 0], gh S a b sc ar lo, ex, 0, 0)) rfl ?_
                exact to_rt (i := .ireturn) (tg := []) rfl rfl (Or.inl ⟨_, _, _, ⟨hI, hF, ⟨n1, hn1, rfl, zno_n (j := 4) z8 (by omega), by rw [z8]; exact (if_neg (fun w => w q9)).symm⟩⟩, rfl⟩)
              · refine to_n 2 (fr' := (109, [(0, .ref 0), (1, .int (nI n1)), (2, .int x2)], [.int 1], gh S a b sc ar lo, ex, 0, 0)) rfl ?_
                exact to_rt (i := .ireturn) (tg := []) rfl rfl (Or.inl ⟨_, _, _, ⟨hI, hF, ⟨n1, hn1, rfl, zno_n (j := 4) z8 (by omega), by rw [z8]; exact (if_pos q9).symm⟩⟩, rfl⟩)
            · rcases Decidable.em (x2 = 5) with z10 | z10
              · refine to_eq (fr' := (6, [(0, .ref 0), (1, .int (nI n1)), (2, .int x2)], [.int 5], gh S a b sc ar lo, ex, 0, 0)) (by rw [z10]) ?_
                refine to_n 1 (fr' := (110, [(0, .ref 0), (1, .int (nI n1)), (2, .int x2)], [], gh S a b sc ar lo, ex, 0, 0)) rfl ?_
                refine to_n 1 (fr' := (111, [(0, .ref 0), (1, .int (nI n1)), (2, .int x2)], [.ref 0], gh S a b sc ar lo, ex, 0, 0)) rfl ?_
                refine to_get rfl rfl rfl rfl ?_
                refine to_get rfl rfl rfl rfl ?_
                refine to_n 1 (fr' := (118, [(0, .ref 0), (1, .int (nI n1)), (2, .int x2)], [.int (nI n1), .ref 19], gh S a b sc ar lo, ex, 0, 0)) rfl ?_
                refine to_ialR (i := n1) (v := (ar 19 n1)) rfl (by decide) rfl (by omega) (by omega) (congrFun (hF.2 19 (by decide)) n1) ?_
                exact to_rt (i := .ireturn) (tg := []) rfl rfl (Or.inl ⟨_, _, _, ⟨hI, hF, ⟨n1, hn1, rfl, zno_n (j := 5) z10 (by omega), by rw [z10]; rfl⟩⟩, rfl⟩)
              · rcases Decidable.em (x2 = 6) with z11 | z11
                · refine to_eq (fr' := (6, [(0, .ref 0), (1, .int (nI n1)), (2, .int x2)], [.int 6], gh S a b sc ar lo, ex, 0, 0)) (by rw [z11]) ?_
                  refine to_n 1 (fr' := (120, [(0, .ref 0), (1, .int (nI n1)), (2, .int x2)], [], gh S a b sc ar lo, ex, 0, 0)) rfl ?_
                  refine to_n 1 (fr' := (121, [(0, .ref 0), (1, .int (nI n1)), (2, .int x2)], [.ref 0], gh S a b sc ar lo, ex, 0, 0)) rfl ?_
                  refine to_get rfl rfl rfl rfl ?_
                  refine to_get rfl rfl rfl rfl ?_
                  refine to_n 1 (fr' := (128, [(0, .ref 0), (1, .int (nI n1)), (2, .int x2)], [.int (nI n1), .ref 20], gh S a b sc ar lo, ex, 0, 0)) rfl ?_
                  refine to_ialR (i := n1) (v := (ar 20 n1)) rfl (by decide) rfl (by omega) (by omega) (congrFun (hF.2 20 (by decide)) n1) ?_
                  exact to_rt (i := .ireturn) (tg := []) rfl rfl (Or.inl ⟨_, _, _, ⟨hI, hF, ⟨n1, hn1, rfl, zno_n (j := 6) z11 (by omega), by rw [z11]; rfl⟩⟩, rfl⟩)
                · rcases Decidable.em (x2 = 7) with z12 | z12
                  · refine to_eq (fr' := (6, [(0, .ref 0), (1, .int (nI n1)), (2, .int x2)], [.int 7], gh S a b sc ar lo, ex, 0, 0)) (by rw [z12]) ?_
                    refine to_n 1 (fr' := (130, [(0, .ref 0), (1, .int (nI n1)), (2, .int x2)], [], gh S a b sc ar lo, ex, 0, 0)) rfl ?_
                    refine to_n 1 (fr' := (131, [(0, .ref 0), (1, .int (nI n1)), (2, .int x2)], [.ref 0], gh S a b sc ar lo, ex, 0, 0)) rfl ?_
                    refine to_get rfl rfl rfl rfl ?_
                    refine to_get rfl rfl rfl rfl ?_
                    refine to_n 1 (fr' := (138, [(0, .ref 0), (1, .int (nI n1)), (2, .int x2)], [.int (nI n1), .ref 21], gh S a b sc ar lo, ex, 0, 0)) rfl ?_
                    refine to_ialR (i := n1) (v := (ar 21 n1)) rfl (by decide) rfl (by omega) (by omega) (congrFun (hF.2 21 (by decide)) n1) ?_
                    exact to_rt (i := .ireturn) (tg := []) rfl rfl (Or.inl ⟨_, _, _, ⟨hI, hF, ⟨n1, hn1, rfl, zno_n (j := 7) z12 (by omega), by rw [z12]; rfl⟩⟩, rfl⟩)
                  · refine to_tbf (t := 140) (ms := [1, 2, 3, 4, 5, 6, 7, 8]) rfl rfl (by decide) rfl (by decide) (List.forall_mem_cons.mpr ⟨sw_ne z2 (by decide), (List.forall_mem_cons.mpr ⟨sw_ne z3 (by decide), (List.forall_mem_cons.mpr ⟨sw_ne z4 (by decide), (List.forall_mem_cons.mpr ⟨sw_ne z6 (by decide), (List.forall_mem_cons.mpr ⟨sw_ne z8 (by decide), (List.forall_mem_cons.mpr ⟨sw_ne z10 (by decide), (List.forall_mem_cons.mpr ⟨sw_ne z11 (by decide), (List.forall_mem_cons.mpr ⟨sw_ne z12 (by decide), (fun m h => absurd h List.not_mem_nil)⟩)⟩)⟩)⟩)⟩)⟩)⟩)⟩) ?_
                    exact to_th (i := .new 183) (tg := []) rfl rfl (Or.inr ⟨(Or.inr (zno_8 z2 z3 z4 z6 z8 z10 z11 z12)), rfl⟩)
  · exact to_thr (q := 90) (M1 := an_X9_needCrew) (rest := []) rfl rfl (by decide) rfl ⟨_, rfl⟩ (needCrew_0 en w1 d) rfl trivial (Or.inr ⟨(Or.inl w1), rfl⟩)
set_option maxRecDepth 20000 in
theorem sf_X9_breaks {X : Nat × (Nat → Int32)} {S a b : Nat} {sc : Nat → Int32} {ar : Nat → Nat → Int32} {lo : Nat → Int64} {ex : Bool} (hW : Wd S a b) (hI : Iv S sc ar) (x1 : Int32) (d : Nat)  : ce X S a b (d + 6) 86 [.ref 0, .int x1] sc ar lo ex "java/util/NoSuchElementException" (True) (fun x sc' ar' => Iv S sc' ar' ∧ Fr [3901, 3911, 3912] [40, 41, 42, 43, 44, 45, 46, 47] sc ar sc' ar' ∧ True) := by
  obtain ⟨ha1, ha8, hb1, hb8, hab, hS1, hS⟩ := id hW
  refine ce_of (M := an_X9_breaks) rfl (Nat.le_of_ble_eq_true rfl) ?_
  have hF : Fr [3901, 3911, 3912] [40, 41, 42, 43, 44, 45, 46, 47] sc ar sc ar := fr_0
  refine to_eq (fr' := (0, [(0, .ref 0), (1, .int x1)], [], gh S a b sc ar lo, ex, 0, 0)) rfl ?_
  refine to_n 2 (fr' := (2, [(0, .ref 0), (1, .int x1)], [.int x1, .ref 0], gh S a b sc ar lo, ex, 0, 0)) rfl ?_
  rcases has_or (x := x1) (B := S) (by omega) with ⟨n1, hn1, e1⟩ | w1
  · subst e1
    refine to_cu (q := 89) (M1 := an_X9_needCell) (rest := []) rfl rfl (by decide) rfl ⟨_, rfl⟩ (needCell_1 (n := n1)  (by omega) (d + 3)) ?_
    refine to_eq (fr' := (5, [(0, .ref 0), (1, .int (nI n1))], [], gh S a b sc ar lo, ex, 0, 0)) rfl ?_
    refine to_n 1 (fr' := (6, [(0, .ref 0), (1, .int (nI n1))], [.ref 0], gh S a b sc ar lo, ex, 0, 0)) rfl ?_
    refine to_get rfl rfl rfl rfl ?_
    refine to_get rfl rfl rfl rfl ?_
    refine to_n 1 (fr' := (13, [(0, .ref 0), (1, .int (nI n1))], [.int (nI n1), .ref 5], gh S a b sc ar lo, ex, 0, 0)) rfl ?_
    refine to_ialR (i := n1) (v := ((ar 5) n1)) rfl (by decide) rfl (by omega) (by omega) rfl ?_
    refine to_if_ne (t := 28) rfl (fun q2 => ?_) (fun q2 => ?_)
    · refine to_n 1 (fr' := (29, [(0, .ref 0), (1, .int (nI n1))], [.int (-1)], gh S a b sc ar lo, ex, 0, 0)) rfl ?_
      exact to_rt (i := .ireturn) (tg := []) rfl rfl (Or.inl ⟨_, _, _, ⟨hI, hF, trivial⟩, rfl⟩)
    · refine to_n 1 (fr' := (18, [(0, .ref 0), (1, .int (nI n1))], [.ref 0], gh S a b sc ar lo, ex, 0, 0)) rfl ?_
      refine to_get rfl rfl rfl rfl ?_
      refine to_n 1 (fr' := (22, [(0, .ref 0), (1, .int (nI n1))], [.int (nI n1), .ref 1], gh S a b sc ar lo, ex, 0, 0)) rfl ?_
      refine to_cp (q := 8) (M1 := an_X0_burningBeside) (rest := []) rfl rfl (by decide) rfl ⟨_, rfl⟩ (sf_X0_burningBeside hW hI n1 (by omega) (d + 2)) (fun x3 hx3 => ?_)
      obtain ⟨n3, hn3, rfl⟩ := hx3
      refine to_eq (fr' := (25, [(0, .ref 0), (1, .int (nI n1))], [.int (nI n3)], gh S a b sc ar lo, ex, 0, 0)) rfl ?_
      refine to_nf_eq (t := 30) (x := n3) rfl (by omega) (fun q4 => ?_) (fun q4 => ?_)
      · refine to_n 1 (fr' := (31, [(0, .ref 0), (1, .int (nI n1))], [.ref 0], gh S a b sc ar lo, ex, 0, 0)) rfl ?_
        refine to_get rfl rfl rfl rfl ?_
        refine to_n 1 (fr' := (35, [(0, .ref 0), (1, .int (nI n1))], [.int (nI n1), .ref 39], gh S a b sc ar lo, ex, 0, 0)) rfl ?_
        refine to_cv (q := 20) (M1 := an_X2_plan) (rest := []) rfl rfl (by decide) rfl ⟨_, rfl⟩ (sf_X2_plan hW hI (nI n1) d) (fun sc5 ar5 hx5 => ?_)
        obtain ⟨hI5, hG5⟩ := hx5
        have hF5 := fr_t hF hG5 (by decide) (by decide)
        refine to_eq (fr' := (38, [(0, .ref 0), (1, .int (nI n1))], [], gh S a b sc5 ar5 lo, ex, 0, 0)) rfl ?_
        refine to_n 1 (fr' := (39, [(0, .ref 0), (1, .int (nI n1))], [.ref 0], gh S a b sc5 ar5 lo, ex, 0, 0)) rfl ?_
        refine to_get rfl rfl rfl rfl ?_
        obtain ⟨n6, hn6, e6⟩ := iv_s3901 hI5
        refine to_getR (v := (nI n6)) rfl rfl rfl rfl e6 ?_
        exact to_rt (i := .ireturn) (tg := []) rfl rfl (Or.inl ⟨_, _, _, ⟨hI5, hF5, trivial⟩, rfl⟩)
      · refine to_n 1 (fr' := (29, [(0, .ref 0), (1, .int (nI n1))], [.int (-1)], gh S a b sc ar lo, ex, 0, 0)) rfl ?_
        exact to_rt (i := .ireturn) (tg := []) rfl rfl (Or.inl ⟨_, _, _, ⟨hI, hF, trivial⟩, rfl⟩)
  · exact to_thr (q := 89) (M1 := an_X9_needCell) (rest := []) rfl rfl (by decide) rfl ⟨_, rfl⟩ (needCell_0  w1 (d + 3)) rfl trivial (Or.inr ⟨trivial, rfl⟩)
set_option maxRecDepth 20000 in
theorem sf_X9_breaker {X : Nat × (Nat → Int32)} {S a b : Nat} {sc : Nat → Int32} {ar : Nat → Nat → Int32} {lo : Nat → Int64} {ex : Bool} (hW : Wd S a b) (hI : Iv S sc ar) (x1 : Int32) (d : Nat)  : ce X S a b (d + 1) 87 [.ref 0, .int x1] sc ar lo ex "java/util/NoSuchElementException" (True) (fun x sc' ar' => Iv S sc' ar' ∧ Fr [] [] sc ar sc' ar' ∧ True) := by
  obtain ⟨ha1, ha8, hb1, hb8, hab, hS1, hS⟩ := id hW
  refine ce_of (M := an_X9_breaker) rfl (Nat.le_of_ble_eq_true rfl) ?_
  have hF : Fr [] [] sc ar sc ar := fr_0
  refine to_eq (fr' := (0, [(0, .ref 0), (1, .int x1)], [], gh S a b sc ar lo, ex, 0, 0)) rfl ?_
  refine to_n 1 (fr' := (1, [(0, .ref 0), (1, .int x1)], [.int x1], gh S a b sc ar lo, ex, 0, 0)) rfl ?_
  refine to_if_lt (t := 15) rfl (fun q1 => ?_) (fun q1 => ?_)
  · exact to_th (i := .new 183) (tg := []) rfl rfl (Or.inr ⟨trivial, rfl⟩)
  · obtain ⟨n2, hn2, e2⟩ := nI_of q1
    rw [e2]
    refine to_eq (fr' := (4, [(0, .ref 0), (1, .int (nI n2))], [], gh S a b sc ar lo, ex, 0, 0)) rfl ?_
    refine to_n 2 (fr' := (6, [(0, .ref 0), (1, .int (nI n2))], [.ref 0, .int (nI n2)], gh S a b sc ar lo, ex, 0, 0)) rfl ?_
    refine to_get rfl rfl rfl rfl ?_
    obtain ⟨n3, hn3, e3⟩ := iv_s3901 hI
    refine to_getR (v := (nI n3)) rfl rfl rfl rfl e3 ?_
    refine to_nc_lt (t := 25) (x := n2) (y := n3) rfl (by omega) (by omega) (fun q4 => ?_) (fun q4 => ?_)
    · refine to_n 1 (fr' := (26, [(0, .ref 0), (1, .int (nI n2))], [.ref 0], gh S a b sc ar lo, ex, 0, 0)) rfl ?_
      refine to_get rfl rfl rfl rfl ?_
      refine to_get rfl rfl rfl rfl ?_
      refine to_n 1 (fr' := (33, [(0, .ref 0), (1, .int (nI n2))], [.int (nI n2), .ref 40], gh S a b sc ar lo, ex, 0, 0)) rfl ?_
      refine to_ialR (i := n2) (v := ((ar 40) n2)) rfl (by decide) rfl (by omega) (by omega) rfl ?_
      exact to_rt (i := .ireturn) (tg := []) rfl rfl (Or.inl ⟨_, _, _, ⟨hI, hF, trivial⟩, rfl⟩)
    · exact to_th (i := .new 183) (tg := []) rfl rfl (Or.inr ⟨trivial, rfl⟩)
set_option maxRecDepth 20000 in
theorem sf_X9_count {X : Nat × (Nat → Int32)} {S a b : Nat} {sc : Nat → Int32} {ar : Nat → Nat → Int32} {lo : Nat → Int64} {ex : Bool} (hW : Wd S a b) (hI : Iv S sc ar) (n : Nat) (enb : n < 9) (h : Nat) (ehb : h < 2401) (l0 : Nat) (el0b : l0 < 7) (x1 : Int32) (en : sc 1308 = nI n) (eh : sc 11 = nI h) (el0 : sc 2903 = nI l0) (d : Nat)  : ce X S a b (d + 2) 88 [.ref 0, .int x1] sc ar lo ex "java/util/NoSuchElementException" (zno x1 10) (fun x sc' ar' => Iv S sc' ar' ∧ Fr [] [] sc ar sc' ar' ∧ (¬ zno x1 10 ∧ x = zct x1 (sc 11) (zcn (ar 5) 1 S) (zcn (ar 5) 0 S) (zcn (ar 5) 2 S) (zcn (ar 5) 3 S) (sc 1308) (sc 2903) (zsm (ar 20) n) (sc 2201) (fo (ar 32) (nI (h / 24)) l0 0 (-1)))) := by
  obtain ⟨ha1, ha8, hb1, hb8, hab, hS1, hS⟩ := id hW
  refine ce_of (M := an_X9_count) rfl (Nat.le_of_ble_eq_true rfl) ?_
  have hF : Fr [] [] sc ar sc ar := fr_0
  refine to_eq (fr' := (0, [(0, .ref 0), (1, .int x1)], [], gh S a b sc ar lo, ex, 0, 0)) rfl ?_
  refine to_n 1 (fr' := (1, [(0, .ref 0), (1, .int x1)], [.int x1], gh S a b sc ar lo, ex, 0, 0)) rfl ?_
  rcases Decidable.em (x1 = 0) with z1 | z1
  · refine to_eq (fr' := (1, [(0, .ref 0), (1, .int x1)], [.int 0], gh S a b sc ar lo, ex, 0, 0)) (by rw [z1]) ?_
    refine to_n 1 (fr' := (56, [(0, .ref 0), (1, .int x1)], [], gh S a b sc ar lo, ex, 0, 0)) rfl ?_
    refine to_n 1 (fr' := (57, [(0, .ref 0), (1, .int x1)], [.ref 0], gh S a b sc ar lo, ex, 0, 0)) rfl ?_
    refine to_getR (v := (nI h)) rfl rfl rfl rfl ((hF.1 11 (by decide)).trans eh) ?_
    exact to_rt (i := .ireturn) (tg := []) rfl rfl (Or.inl ⟨_, _, _, ⟨hI, hF, ⟨zno_n (j := 0) z1 (by omega), by rw [z1]; exact eh.symm⟩⟩, rfl⟩)
  · rcases Decidable.em (x1 = 1) with z2 | z2
    · refine to_eq (fr' := (1, [(0, .ref 0), (1, .int x1)], [.int 1], gh S a b sc ar lo, ex, 0, 0)) (by rw [z2]) ?_
      refine to_n 1 (fr' := (61, [(0, .ref 0), (1, .int x1)], [], gh S a b sc ar lo, ex, 0, 0)) rfl ?_
      refine to_n 1 (fr' := (62, [(0, .ref 0), (1, .int x1)], [.ref 0], gh S a b sc ar lo, ex, 0, 0)) rfl ?_
      refine to_get rfl rfl rfl rfl ?_
      refine to_n 1 (fr' := (66, [(0, .ref 0), (1, .int x1)], [.int 1, .ref 1], gh S a b sc ar lo, ex, 0, 0)) rfl ?_
      refine to_cp (q := 6) (M1 := an_X0_tally) (rest := []) rfl rfl (by decide) rfl ⟨_, rfl⟩ (sf_X0_tally hW hI 1 d) (fun x3 hx3 => ?_)
      have hp3 := hx3
      refine to_eq (fr' := (69, [(0, .ref 0), (1, .int x1)], [.int x3], gh S a b sc ar lo, ex, 0, 0)) rfl ?_
      exact to_rt (i := .ireturn) (tg := []) rfl rfl (Or.inl ⟨_, _, _, ⟨hI, hF, ⟨zno_n (j := 1) z2 (by omega), by rw [z2]; exact hp3⟩⟩, rfl⟩)
    · rcases Decidable.em (x1 = 2) with z4 | z4
      · refine to_eq (fr' := (1, [(0, .ref 0), (1, .int x1)], [.int 2], gh S a b sc ar lo, ex, 0, 0)) (by rw [z4]) ?_
        refine to_n 1 (fr' := (70, [(0, .ref 0), (1, .int x1)], [], gh S a b sc ar lo, ex, 0, 0)) rfl ?_
        refine to_n 1 (fr' := (71, [(0, .ref 0), (1, .int x1)], [.ref 0], gh S a b sc ar lo, ex, 0, 0)) rfl ?_
        refine to_get rfl rfl rfl rfl ?_
        refine to_n 1 (fr' := (75, [(0, .ref 0), (1, .int x1)], [.int 0, .ref 1], gh S a b sc ar lo, ex, 0, 0)) rfl ?_
        refine to_cp (q := 6) (M1 := an_X0_tally) (rest := []) rfl rfl (by decide) rfl ⟨_, rfl⟩ (sf_X0_tally hW hI 0 d) (fun x5 hx5 => ?_)
        have hp5 := hx5
        refine to_eq (fr' := (78, [(0, .ref 0), (1, .int x1)], [.int x5], gh S a b sc ar lo, ex, 0, 0)) rfl ?_
        exact to_rt (i := .ireturn) (tg := []) rfl rfl (Or.inl ⟨_, _, _, ⟨hI, hF, ⟨zno_n (j := 2) z4 (by omega), by rw [z4]; exact hp5⟩⟩, rfl⟩)
      · rcases Decidable.em (x1 = 3) with z6 | z6
        · refine to_eq (fr' := (1, [(0, .ref 0), (1, .int x1)], [.int 3], gh S a b sc ar lo, ex, 0, 0)) (by rw [z6]) ?_
          refine to_n 1 (fr' := (79, [(0, .ref 0), (1, .int x1)], [], gh S a b sc ar lo, ex, 0, 0)) rfl ?_
          refine to_n 1 (fr' := (80, [(0, .ref 0), (1, .int x1)], [.ref 0], gh S a b sc ar lo, ex, 0, 0)) rfl ?_
          refine to_get rfl rfl rfl rfl ?_
          refine to_n 1 (fr' := (84, [(0, .ref 0), (1, .int x1)], [.int 2, .ref 1], gh S a b sc ar lo, ex, 0, 0)) rfl ?_
          refine to_cp (q := 6) (M1 := an_X0_tally) (rest := []) rfl rfl (by decide) rfl ⟨_, rfl⟩ (sf_X0_tally hW hI 2 d) (fun x7 hx7 => ?_)
          have hp7 := hx7
          refine to_eq (fr' := (87, [(0, .ref 0), (1, .int x1)], [.int x7], gh S a b sc ar lo, ex, 0, 0)) rfl ?_
          exact to_rt (i := .ireturn) (tg := []) rfl rfl (Or.inl ⟨_, _, _, ⟨hI, hF, ⟨zno_n (j := 3) z6 (by omega), by rw [z6]; exact hp7⟩⟩, rfl⟩)
        · rcases Decidable.em (x1 = 4) with z8 | z8
          · refine to_eq (fr' := (1, [(0, .ref 0), (1, .int x1)], [.int 4], gh S a b sc ar lo, ex, 0, 0)) (by rw [z8]) ?_
            refine to_n 1 (fr' := (88, [(0, .ref 0), (1, .int x1)], [], gh S a b sc ar lo, ex, 0, 0)) rfl ?_
            refine to_n 1 (fr' := (89, [(0, .ref 0), (1, .int x1)], [.ref 0], gh S a b sc ar lo, ex, 0, 0)) rfl ?_
            refine to_get rfl rfl rfl rfl ?_
            refine to_n 1 (fr' := (93, [(0, .ref 0), (1, .int x1)], [.int 3, .ref 1], gh S a b sc ar lo, ex, 0, 0)) rfl ?_
            refine to_cp (q := 6) (M1 := an_X0_tally) (rest := []) rfl rfl (by decide) rfl ⟨_, rfl⟩ (sf_X0_tally hW hI 3 d) (fun x9 hx9 => ?_)
            have hp9 := hx9
            refine to_eq (fr' := (96, [(0, .ref 0), (1, .int x1)], [.int x9], gh S a b sc ar lo, ex, 0, 0)) rfl ?_
            exact to_rt (i := .ireturn) (tg := []) rfl rfl (Or.inl ⟨_, _, _, ⟨hI, hF, ⟨zno_n (j := 4) z8 (by omega), by rw [z8]; exact hp9⟩⟩, rfl⟩)
          · rcases Decidable.em (x1 = 5) with z10 | z10
            · refine to_eq (fr' := (1, [(0, .ref 0), (1, .int x1)], [.int 5], gh S a b sc ar lo, ex, 0, 0)) (by rw [z10]) ?_
              refine to_n 1 (fr' := (97, [(0, .ref 0), (1, .int x1)], [], gh S a b sc ar lo, ex, 0, 0)) rfl ?_
              refine to_n 1 (fr' := (98, [(0, .ref 0), (1, .int x1)], [.ref 0], gh S a b sc ar lo, ex, 0, 0)) rfl ?_
              refine to_get rfl rfl rfl rfl ?_
              refine to_getR (v := (nI n)) rfl rfl rfl rfl ((hF.1 1308 (by decide)).trans en) ?_
              exact to_rt (i := .ireturn) (tg := []) rfl rfl (Or.inl ⟨_, _, _, ⟨hI, hF, ⟨zno_n (j := 5) z10 (by omega), by rw [z10]; exact en.symm⟩⟩, rfl⟩)
            · rcases Decidable.em (x1 = 6) with z11 | z11
              · refine to_eq (fr' := (1, [(0, .ref 0), (1, .int x1)], [.int 6], gh S a b sc ar lo, ex, 0, 0)) (by rw [z11]) ?_
                refine to_n 1 (fr' := (105, [(0, .ref 0), (1, .int x1)], [], gh S a b sc ar lo, ex, 0, 0)) rfl ?_
                refine to_n 1 (fr' := (106, [(0, .ref 0), (1, .int x1)], [.ref 0], gh S a b sc ar lo, ex, 0, 0)) rfl ?_
                refine to_get rfl rfl rfl rfl ?_
                refine to_getR (v := (nI l0)) rfl rfl rfl rfl ((hF.1 2903 (by decide)).trans el0) ?_
                exact to_rt (i := .ireturn) (tg := []) rfl rfl (Or.inl ⟨_, _, _, ⟨hI, hF, ⟨zno_n (j := 6) z11 (by omega), by rw [z11]; exact el0.symm⟩⟩, rfl⟩)
              · rcases Decidable.em (x1 = 7) with z12 | z12
                · refine to_eq (fr' := (1, [(0, .ref 0), (1, .int x1)], [.int 7], gh S a b sc ar lo, ex, 0, 0)) (by rw [z12]) ?_
                  refine to_n 1 (fr' := (113, [(0, .ref 0), (1, .int x1)], [], gh S a b sc ar lo, ex, 0, 0)) rfl ?_
                  refine to_n 1 (fr' := (114, [(0, .ref 0), (1, .int x1)], [.ref 0], gh S a b sc ar lo, ex, 0, 0)) rfl ?_
                  refine to_get rfl rfl rfl rfl ?_
                  refine to_cp (q := 18) (M1 := an_X1_allQuarrels) (rest := []) rfl rfl (by decide) rfl ⟨_, rfl⟩ (sf_X1_allQuarrels hW hI n (by omega) ((hF.1 1308 (by decide)).trans en) d) (fun x13 hx13 => ?_)
                  have hp13 := hx13
                  refine to_eq (fr' := (120, [(0, .ref 0), (1, .int x1)], [.int x13], gh S a b sc ar lo, ex, 0, 0)) rfl ?_
                  exact to_rt (i := .ireturn) (tg := []) rfl rfl (Or.inl ⟨_, _, _, ⟨hI, hF, ⟨zno_n (j := 7) z12 (by omega), by rw [z12]; exact hp13⟩⟩, rfl⟩)
                · rcases Decidable.em (x1 = 8) with z14 | z14
                  · refine to_eq (fr' := (1, [(0, .ref 0), (1, .int x1)], [.int 8], gh S a b sc ar lo, ex, 0, 0)) (by rw [z14]) ?_
                    refine to_n 1 (fr' := (121, [(0, .ref 0), (1, .int x1)], [], gh S a b sc ar lo, ex, 0, 0)) rfl ?_
                    refine to_n 1 (fr' := (122, [(0, .ref 0), (1, .int x1)], [.ref 0], gh S a b sc ar lo, ex, 0, 0)) rfl ?_
                    refine to_get rfl rfl rfl rfl ?_
                    obtain ⟨n15, hn15, e15⟩ := iv_s2201 hI
                    refine to_getR (v := (nI n15)) rfl rfl rfl rfl e15 ?_
                    exact to_rt (i := .ireturn) (tg := []) rfl rfl (Or.inl ⟨_, _, _, ⟨hI, hF, ⟨zno_n (j := 8) z14 (by omega), by rw [z14]; exact e15.symm⟩⟩, rfl⟩)
                  · rcases Decidable.em (x1 = 9) with z16 | z16
                    · refine to_eq (fr' := (1, [(0, .ref 0), (1, .int x1)], [.int 9], gh S a b sc ar lo, ex, 0, 0)) (by rw [z16]) ?_
                      refine to_n 1 (fr' := (129, [(0, .ref 0), (1, .int x1)], [], gh S a b sc ar lo, ex, 0, 0)) rfl ?_
                      refine to_n 1 (fr' := (130, [(0, .ref 0), (1, .int x1)], [.ref 0], gh S a b sc ar lo, ex, 0, 0)) rfl ?_
                      refine to_get rfl rfl rfl rfl ?_
                      refine to_n 1 (fr' := (134, [(0, .ref 0), (1, .int x1)], [.ref 0, .ref 29], gh S a b sc ar lo, ex, 0, 0)) rfl ?_
                      refine to_getR (v := (nI h)) rfl rfl rfl rfl ((hF.1 11 (by decide)).trans eh) ?_
                      refine to_n 1 (fr' := (139, [(0, .ref 0), (1, .int x1)], [.int 24, .int (nI h), .ref 29], gh S a b sc ar lo, ex, 0, 0)) rfl ?_
                      refine to_divN (x := h) (y := 24) rfl (by omega) (by omega) (by omega) ?_
                      refine to_cp (q := 39) (M1 := an_X4_inForce) (rest := []) rfl rfl (by decide) rfl ⟨_, rfl⟩ (sf_X4_inForce hW hI l0 (by omega) (nI (h / 24)) ((hF.1 2903 (by decide)).trans el0) d) (fun x17 hx17 => ?_)
                      obtain ⟨hx17, hp17⟩ := hx17
                      rcases hx17 with rfl | ⟨n17, hn17, rfl⟩
                      · refine to_eq (fr' := (143, [(0, .ref 0), (1, .int x1)], [.int (-1)], gh S a b sc ar lo, ex, 0, 0)) rfl ?_
                        exact to_rt (i := .ireturn) (tg := []) rfl rfl (Or.inl ⟨_, _, _, ⟨hI, hF, ⟨zno_n (j := 9) z16 (by omega), by rw [z16]; exact hp17⟩⟩, rfl⟩)
                      · refine to_eq (fr' := (143, [(0, .ref 0), (1, .int x1)], [.int (nI n17)], gh S a b sc ar lo, ex, 0, 0)) rfl ?_
                        exact to_rt (i := .ireturn) (tg := []) rfl rfl (Or.inl ⟨_, _, _, ⟨hI, hF, ⟨zno_n (j := 9) z16 (by omega), by rw [z16]; exact hp17⟩⟩, rfl⟩)
                    · refine to_tbf (t := 144) (ms := [1, 2, 3, 4, 5, 6, 7, 8, 9, 10]) rfl rfl (by decide) rfl (by decide) (List.forall_mem_cons.mpr ⟨sw_ne z1 (by decide), (List.forall_mem_cons.mpr ⟨sw_ne z2 (by decide), (List.forall_mem_cons.mpr ⟨sw_ne z4 (by decide), (List.forall_mem_cons.mpr ⟨sw_ne z6 (by decide), (List.forall_mem_cons.mpr ⟨sw_ne z8 (by decide), (List.forall_mem_cons.mpr ⟨sw_ne z10 (by decide), (List.forall_mem_cons.mpr ⟨sw_ne z11 (by decide), (List.forall_mem_cons.mpr ⟨sw_ne z12 (by decide), (List.forall_mem_cons.mpr ⟨sw_ne z14 (by decide), (List.forall_mem_cons.mpr ⟨sw_ne z16 (by decide), (fun m h => absurd h List.not_mem_nil)⟩)⟩)⟩)⟩)⟩)⟩)⟩)⟩)⟩)⟩) ?_
                      exact to_th (i := .new 183) (tg := []) rfl rfl (Or.inr ⟨(zno_10 z1 z2 z4 z6 z8 z10 z11 z12 z14 z16), rfl⟩)
set_option maxRecDepth 20000 in
theorem sf_X9_wind {X : Nat × (Nat → Int32)} {S a b : Nat} {sc : Nat → Int32} {ar : Nat → Nat → Int32} {lo : Nat → Int64} {ex : Bool} (hW : Wd S a b) (hI : Iv S sc ar) (x1 : Int32) (d : Nat)  : ce X S a b (d + 1) 75 [.ref 0, .int x1] sc ar lo ex "java/lang/IllegalArgumentException" (¬ (0 ≤ x1 ∧ x1 ≤ 4)) (fun x sc' ar' => Iv S sc' ar' ∧ Fr [112] [] sc ar sc' ar' ∧ ((0 ≤ x1 ∧ x1 ≤ 4) ∧ x = sc 112 ∧ sc' 112 = x1)) := by
  obtain ⟨ha1, ha8, hb1, hb8, hab, hS1, hS⟩ := id hW
  refine ce_of (M := an_X9_wind) rfl (Nat.le_of_ble_eq_true rfl) ?_
  have hF : Fr [112] [] sc ar sc ar := fr_0
  refine to_eq (fr' := (0, [(0, .ref 0), (1, .int x1)], [], gh S a b sc ar lo, ex, 0, 0)) rfl ?_
  refine to_n 1 (fr' := (1, [(0, .ref 0), (1, .int x1)], [.int x1], gh S a b sc ar lo, ex, 0, 0)) rfl ?_
  refine to_if_lt (t := 9) rfl (fun q1 => ?_) (fun q1 => ?_)
  · exact to_th (i := .new 105) (tg := []) rfl rfl (Or.inr ⟨(fun w => Int32.not_lt.mpr w.1 q1), rfl⟩)
  · refine to_n 2 (fr' := (6, [(0, .ref 0), (1, .int x1)], [.int 4, .int x1], gh S a b sc ar lo, ex, 0, 0)) rfl ?_
    refine to_ic_le (t := 19) rfl (fun q2 => ?_) (fun q2 => ?_)
    · refine to_n 1 (fr' := (20, [(0, .ref 0), (1, .int x1)], [.ref 0], gh S a b sc ar lo, ex, 0, 0)) rfl ?_
      refine to_get rfl rfl rfl rfl ?_
      refine to_getR (v := (sc 112)) rfl rfl rfl rfl rfl ?_
      refine to_n 2 (fr' := (28, [(0, .ref 0), (1, .int x1), (2, .int (sc 112))], [.ref 0], gh S a b sc ar lo, ex, 0, 0)) rfl ?_
      refine to_get rfl rfl rfl rfl ?_
      refine to_n 1 (fr' := (32, [(0, .ref 0), (1, .int x1), (2, .int (sc 112))], [.int x1, .ref 1], gh S a b sc ar lo, ex, 0, 0)) rfl ?_
      refine to_putR (h' := gh S a b (upd sc 112 x1) ar lo) rfl rfl rfl (Nat.le_of_ble_eq_true rfl) rfl rfl ?_
      have hI3 := ip_112 (v := x1) hI 
      have hF3 := fr_s (k := 112) (v := x1) hF (by decide)
      refine to_n 1 (fr' := (36, [(0, .ref 0), (1, .int x1), (2, .int (sc 112))], [.int (sc 112)], gh S a b (upd sc 112 x1) ar lo, ex, 0, 0)) rfl ?_
      exact to_rt (i := .ireturn) (tg := []) rfl rfl (Or.inl ⟨_, _, _, ⟨hI3, hF3, ⟨⟨Int32.not_lt.mp q1, q2⟩, rfl, by simp [upd]⟩⟩, rfl⟩)
    · exact to_th (i := .new 105) (tg := []) rfl rfl (Or.inr ⟨(fun w => q2 w.2), rfl⟩)
