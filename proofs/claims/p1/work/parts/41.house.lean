/-! a case of the law comes to 1 -/
def pl_ok (xs : Nat → Int32) (fr : ai_F) (ns : Nat) : Prop := ∃ (h' : ai_H) (ex' : Bool) (nc ns' : Nat), nc ≤ 1000 ∧ ns' ≤ ns + 1000 ∧ ag_Go (8, xs) 12 an_law fr (.inl (some (.int 1), h', ex', nc, ns'))
theorem pl_mk {xs : Nat → Int32} {fr : ai_F} {ns : Nat} {h' : ai_H} {ex' : Bool} {nc ns' : Nat} (k : ag_Go (8, xs) 12 an_law fr (.inl (some (.int 1), h', ex', nc, ns'))) (h1 : nc ≤ 1000) (h2 : ns' ≤ ns + 1000) : pl_ok xs fr ns := ⟨h', ex', nc, ns', h1, h2, k⟩
theorem ai_set_eq {h : ai_H} {a : Nat} {c : ai_C} (hh : h[a]? = some c) : h.set a c = h := by
  apply List.ext_getElem?
  intro i
  rw [List.getElem?_set]
  split
  · rename_i e
    subst e
    split
    · exact hh.symm
    · rename_i w
      rw [List.getElem?_eq_none (Nat.le_of_not_lt w)]
  · rfl
theorem up_zero (n : Nat) : upd (fun _ => (0 : Int32)) n 0 = fun _ => 0 := by
  funext j
  simp [upd]
theorem go_ias0 {X : Nat × (Nat → Int32)} {d : Nat} {M : ai_M} {o : ai_O} {pc : Nat} {lv : List (Nat × Value)} {st : List Value} {h : ai_H} {z : Bool × Nat × Nat} {x i : Int32} {a n : Nat} {tg : List Nat} (h1 : ai_as M.co pc = some (.iastore, tg)) (hh : h[a]? = some (.inl (0, n, .inl (fun _ => 0)))) (hi : ai_in i n = true) (hx : x = 0) (k : ag_Go X d M (pc + 1, lv, st, h, z) o) : ag_Go X d M (pc, lv, .int x :: .int i :: .ref a :: st, h, z) o := by
  refine go_ias h1 hh hi ?_
  rw [hx, up_zero, ai_set_eq hh]
  exact k
theorem go_zas0 {X : Nat × (Nat → Int32)} {d : Nat} {M : ai_M} {o : ai_O} {pc : Nat} {lv : List (Nat × Value)} {st : List Value} {h : ai_H} {z : Bool × Nat × Nat} {x i : Int32} {a n : Nat} {tg : List Nat} (h1 : ai_as M.co pc = some (.bastore, tg)) (hh : h[a]? = some (.inl (1, n, .inl (fun _ => 0)))) (hi : ai_in i n = true) (hx : x = 0) (k : ag_Go X d M (pc + 1, lv, st, h, z) o) : ag_Go X d M (pc, lv, .int x :: .int i :: .ref a :: st, h, z) o := by
  refine go_zas h1 hh hi ?_
  rw [hx, show vp_nar .boolean 0 = 0 from rfl, up_zero, ai_set_eq hh]
  exact k
set_option maxRecDepth 20000 in
theorem pl_house_1_4_has {xs : Nat → Int32} {S : Nat} {z : Int32} {f1 f2 f3 g1 g2 s1 s2 : Nat → Int32} {a b : Nat} (hk0 : ¬ xs 3 < 0) (hkz : xs 3 < z) (hkm : xs 3 < nI a * nI b) (hi : ai_in (xs 3) S = true) (hj : ai_in (xs 3) 64 = true) (hg1 : g1 (xs 3).toNatClampNeg = -1) (hg2 : g2 (xs 3).toNatClampNeg = -1) (hs1 : s1 (xs 3).toNatClampNeg = -1) (hs2 : s2 (xs 3).toNatClampNeg = -1) (h1 : xs 4 < 1) : ai_Ev an_ms an_lk (8, xs) 35 9 2 [.ref 1, .int (xs 3)] (ah_w S z f1 f2 f3 g1 g2 0 a b s1 s2 0 0 (fun _ => 0)) true (.inl (some (.int 1), (ah_w S z f1 f2 f3 g1 g2 0 a b s1 s2 0 0 (fun _ => 0)), true, 0, 0)) := by
  refine ev_of (M := an_X0_has) rfl (Nat.le_of_ble_eq_true rfl) ?_
  refine go_n 1 (fr' := (1, [(0, .ref 1), (1, .int (xs 3))], [.int (xs 3)], (ah_w S z f1 f2 f3 g1 g2 0 a b s1 s2 0 0 (fun _ => 0)), true, 0, 0)) rfl ?_
  refine go_if_lt (t := 16) rfl (fun q1 => absurd q1 hk0) (fun q1 => ?_)
  refine go_n 2 (fr' := (6, [(0, .ref 1), (1, .int (xs 3))], [.ref 1, .int (xs 3)], (ah_w S z f1 f2 f3 g1 g2 0 a b s1 s2 0 0 (fun _ => 0)), true, 0, 0)) rfl ?_
  refine go_get rfl rfl rfl rfl ?_
  refine go_ic_ge (t := 16) rfl (fun q2 => absurd q2 (Int32.not_le.mpr hkz)) (fun q2 => ?_)
  refine go_n 2 (fr' := (17, [(0, .ref 1), (1, .int (xs 3))], [.int 1], (ah_w S z f1 f2 f3 g1 g2 0 a b s1 s2 0 0 (fun _ => 0)), true, 0, 0)) rfl ?_
  refine go_rt (i := .ireturn) (tg := []) rfl ?_
  rfl
set_option maxRecDepth 20000 in
theorem pl_house_1_3_needCell {xs : Nat → Int32} {S : Nat} {z : Int32} {f1 f2 f3 g1 g2 s1 s2 : Nat → Int32} {a b : Nat} (hk0 : ¬ xs 3 < 0) (hkz : xs 3 < z) (hkm : xs 3 < nI a * nI b) (hi : ai_in (xs 3) S = true) (hj : ai_in (xs 3) 64 = true) (hg1 : g1 (xs 3).toNatClampNeg = -1) (hg2 : g2 (xs 3).toNatClampNeg = -1) (hs1 : s1 (xs 3).toNatClampNeg = -1) (hs2 : s2 (xs 3).toNatClampNeg = -1) (h1 : xs 4 < 1) : ai_Ev an_ms an_lk (8, xs) 35 10 41 [.ref 0, .int (xs 3)] (ah_w S z f1 f2 f3 g1 g2 0 a b s1 s2 0 0 (fun _ => 0)) true (.inl (none, (ah_w S z f1 f2 f3 g1 g2 0 a b s1 s2 0 0 (fun _ => 0)), true, 0, 0)) := by
  refine ev_of (M := an_X9_needCell) rfl (Nat.le_of_ble_eq_true rfl) ?_
  refine go_n 1 (fr' := (1, [(0, .ref 0), (1, .int (xs 3))], [.ref 0], (ah_w S z f1 f2 f3 g1 g2 0 a b s1 s2 0 0 (fun _ => 0)), true, 0, 0)) rfl ?_
  refine go_get rfl rfl rfl rfl ?_
  refine go_n 1 (fr' := (5, [(0, .ref 0), (1, .int (xs 3))], [.int (xs 3), .ref 1], (ah_w S z f1 f2 f3 g1 g2 0 a b s1 s2 0 0 (fun _ => 0)), true, 0, 0)) rfl ?_
  refine go_call (q := 2) (M1 := an_X0_has) rfl rfl (by decide) rfl ⟨_, rfl⟩ trivial (pl_house_1_4_has hk0 hkz hkm hi hj hg1 hg2 hs1 hs2 h1) ?_
  refine go_eq (fr' := (8, [(0, .ref 0), (1, .int (xs 3))], [.int 1], (ah_w S z f1 f2 f3 g1 g2 0 a b s1 s2 0 0 (fun _ => 0)), true, 0, 0)) rfl ?_
  refine go_n 1 (fr' := (21, [(0, .ref 0), (1, .int (xs 3))], [], (ah_w S z f1 f2 f3 g1 g2 0 a b s1 s2 0 0 (fun _ => 0)), true, 0, 0)) rfl ?_
  refine go_rt (i := .return_) (tg := []) rfl ?_
  rfl
set_option maxRecDepth 20000 in
theorem pl_house_1_2_house {xs : Nat → Int32} {S : Nat} {z : Int32} {f1 f2 f3 g1 g2 s1 s2 : Nat → Int32} {a b : Nat} (hk0 : ¬ xs 3 < 0) (hkz : xs 3 < z) (hkm : xs 3 < nI a * nI b) (hi : ai_in (xs 3) S = true) (hj : ai_in (xs 3) 64 = true) (hg1 : g1 (xs 3).toNatClampNeg = -1) (hg2 : g2 (xs 3).toNatClampNeg = -1) (hs1 : s1 (xs 3).toNatClampNeg = -1) (hs2 : s2 (xs 3).toNatClampNeg = -1) (h1 : xs 4 < 1) : ai_Ev an_ms an_lk (8, xs) 35 11 25 [.ref 0, .int (xs 3), .int (xs 4), .int (xs 5)] (ah_w S z f1 f2 f3 g1 g2 0 a b s1 s2 0 0 (fun _ => 0)) true (.inl (some (.int 0), (ah_w S z f1 f2 f3 g1 g2 0 a b s1 s2 0 0 (fun _ => 0)), true, 0, 0)) := by
  refine ev_of (M := an_X9_house) rfl (Nat.le_of_ble_eq_true rfl) ?_
  refine go_n 2 (fr' := (2, [(0, .ref 0), (1, .int (xs 3)), (2, .int (xs 4)), (3, .int (xs 5))], [.int (xs 3), .ref 0], (ah_w S z f1 f2 f3 g1 g2 0 a b s1 s2 0 0 (fun _ => 0)), true, 0, 0)) rfl ?_
  refine go_call (q := 41) (M1 := an_X9_needCell) rfl rfl (by decide) rfl ⟨_, rfl⟩ trivial (pl_house_1_3_needCell hk0 hkz hkm hi hj hg1 hg2 hs1 hs2 h1) ?_
  refine go_eq (fr' := (5, [(0, .ref 0), (1, .int (xs 3)), (2, .int (xs 4)), (3, .int (xs 5))], [], (ah_w S z f1 f2 f3 g1 g2 0 a b s1 s2 0 0 (fun _ => 0)), true, 0, 0)) rfl ?_
  refine go_n 2 (fr' := (7, [(0, .ref 0), (1, .int (xs 3)), (2, .int (xs 4)), (3, .int (xs 5))], [.int 1, .int (xs 4)], (ah_w S z f1 f2 f3 g1 g2 0 a b s1 s2 0 0 (fun _ => 0)), true, 0, 0)) rfl ?_
  refine go_ic_lt (t := 23) rfl (fun q1 => ?_) (fun q1 => absurd h1 q1)
  refine go_n 1 (fr' := (24, [(0, .ref 0), (1, .int (xs 3)), (2, .int (xs 4)), (3, .int (xs 5))], [.int 0], (ah_w S z f1 f2 f3 g1 g2 0 a b s1 s2 0 0 (fun _ => 0)), true, 0, 0)) rfl ?_
  refine go_rt (i := .ireturn) (tg := []) rfl ?_
  rfl
set_option maxRecDepth 20000 in
theorem pl_house_1_1_house {xs : Nat → Int32} {S : Nat} {z : Int32} {f1 f2 f3 g1 g2 s1 s2 : Nat → Int32} {a b : Nat} (hk0 : ¬ xs 3 < 0) (hkz : xs 3 < z) (hkm : xs 3 < nI a * nI b) (hi : ai_in (xs 3) S = true) (hj : ai_in (xs 3) 64 = true) (hg1 : g1 (xs 3).toNatClampNeg = -1) (hg2 : g2 (xs 3).toNatClampNeg = -1) (hs1 : s1 (xs 3).toNatClampNeg = -1) (hs2 : s2 (xs 3).toNatClampNeg = -1) (h1 : xs 4 < 1) : ai_Ev an_ms an_lk (8, xs) 35 12 82 [.ref 0, .int (xs 3), .int (xs 4), .int (xs 5), .ref 85] (ah_w S z f1 f2 f3 g1 g2 0 a b s1 s2 0 0 (fun _ => 0)) true (.inl (some (.int 0), (ah_w S z f1 f2 f3 g1 g2 0 a b s1 s2 0 0 (vp_updL (fun _ => 0) 0 0)), true, 0, 0)) := by
  refine ev_of (M := an_L_house) rfl (Nat.le_of_ble_eq_true rfl) ?_
  refine go_n 6 (fr' := (7, [(0, .ref 0), (1, .int (xs 3)), (2, .int (xs 4)), (3, .int (xs 5)), (4, .ref 85)], [.int (xs 5), .int (xs 4), .int (xs 3), .ref 0, .int 0, .ref 85], (ah_w S z f1 f2 f3 g1 g2 0 a b s1 s2 0 0 (fun _ => 0)), true, 0, 0)) rfl ?_
  refine go_call (q := 25) (M1 := an_X9_house) rfl rfl (by decide) rfl ⟨_, rfl⟩ trivial (pl_house_1_2_house hk0 hkz hkm hi hj hg1 hg2 hs1 hs2 h1) ?_
  refine go_eq (fr' := (10, [(0, .ref 0), (1, .int (xs 3)), (2, .int (xs 4)), (3, .int (xs 5)), (4, .ref 85)], [.int 0, .int 0, .ref 85], (ah_w S z f1 f2 f3 g1 g2 0 a b s1 s2 0 0 (fun _ => 0)), true, 0, 0)) rfl ?_
  refine go_n 5 (fr' := (27, [(0, .ref 0), (1, .int (xs 3)), (2, .int (xs 4)), (3, .int (xs 5)), (4, .ref 85)], [.int 0], (ah_w S z f1 f2 f3 g1 g2 0 a b s1 s2 0 0 (vp_updL (fun _ => 0) 0 0)), true, 0, 0)) rfl ?_
  refine go_rt (i := .ireturn) (tg := []) rfl ?_
  rfl
set_option maxRecDepth 20000 in
theorem pl_house_1_6_isCell {xs : Nat → Int32} {S : Nat} {z : Int32} {f1 f2 f3 g1 g2 s1 s2 : Nat → Int32} {a b : Nat} (hk0 : ¬ xs 3 < 0) (hkz : xs 3 < z) (hkm : xs 3 < nI a * nI b) (hi : ai_in (xs 3) S = true) (hj : ai_in (xs 3) 64 = true) (hg1 : g1 (xs 3).toNatClampNeg = -1) (hg2 : g2 (xs 3).toNatClampNeg = -1) (hs1 : s1 (xs 3).toNatClampNeg = -1) (hs2 : s2 (xs 3).toNatClampNeg = -1) (h1 : xs 4 < 1) : ai_Ev an_ms an_lk (8, xs) 35 11 54 [.ref 49, .int (xs 3)] (ah_w S z f1 f2 f3 g1 g2 0 a b s1 s2 0 0 (vp_updL (fun _ => 0) 0 0)) true (.inl (some (.int 1), (ah_w S z f1 f2 f3 g1 g2 0 a b s1 s2 0 0 (vp_updL (fun _ => 0) 0 0)), true, 0, 0)) := by
  refine ev_of (M := an_X10_isCell) rfl (Nat.le_of_ble_eq_true rfl) ?_
  refine go_n 1 (fr' := (1, [(0, .ref 49), (1, .int (xs 3))], [.int (xs 3)], (ah_w S z f1 f2 f3 g1 g2 0 a b s1 s2 0 0 (vp_updL (fun _ => 0) 0 0)), true, 0, 0)) rfl ?_
  refine go_if_lt (t := 21) rfl (fun q1 => absurd q1 hk0) (fun q1 => ?_)
  refine go_n 2 (fr' := (6, [(0, .ref 49), (1, .int (xs 3))], [.ref 49, .int (xs 3)], (ah_w S z f1 f2 f3 g1 g2 0 a b s1 s2 0 0 (vp_updL (fun _ => 0) 0 0)), true, 0, 0)) rfl ?_
  refine go_get rfl rfl rfl rfl ?_
  refine go_n 1 (fr' := (10, [(0, .ref 49), (1, .int (xs 3))], [.ref 49, .int (nI a), .int (xs 3)], (ah_w S z f1 f2 f3 g1 g2 0 a b s1 s2 0 0 (vp_updL (fun _ => 0) 0 0)), true, 0, 0)) rfl ?_
  refine go_get rfl rfl rfl rfl ?_
  refine go_n 1 (fr' := (14, [(0, .ref 49), (1, .int (xs 3))], [.int ((nI a) * (nI b)), .int (xs 3)], (ah_w S z f1 f2 f3 g1 g2 0 a b s1 s2 0 0 (vp_updL (fun _ => 0) 0 0)), true, 0, 0)) rfl ?_
  refine go_ic_ge (t := 21) rfl (fun q2 => absurd q2 (Int32.not_le.mpr hkm)) (fun q2 => ?_)
  refine go_n 2 (fr' := (22, [(0, .ref 49), (1, .int (xs 3))], [.int 1], (ah_w S z f1 f2 f3 g1 g2 0 a b s1 s2 0 0 (vp_updL (fun _ => 0) 0 0)), true, 0, 0)) rfl ?_
  refine go_rt (i := .ireturn) (tg := []) rfl ?_
  rfl
set_option maxRecDepth 20000 in
theorem pl_house_1_5_house {xs : Nat → Int32} {S : Nat} {z : Int32} {f1 f2 f3 g1 g2 s1 s2 : Nat → Int32} {a b : Nat} (hk0 : ¬ xs 3 < 0) (hkz : xs 3 < z) (hkm : xs 3 < nI a * nI b) (hi : ai_in (xs 3) S = true) (hj : ai_in (xs 3) 64 = true) (hg1 : g1 (xs 3).toNatClampNeg = -1) (hg2 : g2 (xs 3).toNatClampNeg = -1) (hs1 : s1 (xs 3).toNatClampNeg = -1) (hs2 : s2 (xs 3).toNatClampNeg = -1) (h1 : xs 4 < 1) : ai_Ev an_ms an_lk (8, xs) 35 12 56 [.ref 49, .int (xs 3), .int (xs 4), .int (xs 5)] (ah_w S z f1 f2 f3 g1 g2 0 a b s1 s2 0 0 (vp_updL (fun _ => 0) 0 0)) true (.inl (some (.int 0), (ah_w S z f1 f2 f3 g1 g2 0 a b s1 s2 0 0 (vp_updL (fun _ => 0) 0 0)), true, 0, 0)) := by
  refine ev_of (M := an_X10_house) rfl (Nat.le_of_ble_eq_true rfl) ?_
  refine go_n 2 (fr' := (2, [(0, .ref 49), (1, .int (xs 3)), (2, .int (xs 4)), (3, .int (xs 5))], [.int 0, .ref 49], (ah_w S z f1 f2 f3 g1 g2 0 a b s1 s2 0 0 (vp_updL (fun _ => 0) 0 0)), true, 0, 0)) rfl ?_
  refine go_put rfl rfl rfl (Nat.le_of_ble_eq_true rfl) rfl ?_
  refine go_n 2 (fr' := (7, [(0, .ref 49), (1, .int (xs 3)), (2, .int (xs 4)), (3, .int (xs 5))], [.int (xs 3), .ref 49], (ah_w S z f1 f2 f3 g1 g2 0 a b s1 s2 0 0 (vp_updL (fun _ => 0) 0 0)), true, 0, 0)) rfl ?_
  refine go_call (q := 54) (M1 := an_X10_isCell) rfl rfl (by decide) rfl ⟨_, rfl⟩ trivial (pl_house_1_6_isCell hk0 hkz hkm hi hj hg1 hg2 hs1 hs2 h1) ?_
  refine go_eq (fr' := (10, [(0, .ref 49), (1, .int (xs 3)), (2, .int (xs 4)), (3, .int (xs 5))], [.int 1], (ah_w S z f1 f2 f3 g1 g2 0 a b s1 s2 0 0 (vp_updL (fun _ => 0) 0 0)), true, 0, 0)) rfl ?_
  refine go_n 2 (fr' := (21, [(0, .ref 49), (1, .int (xs 3)), (2, .int (xs 4)), (3, .int (xs 5))], [.ref 49], (ah_w S z f1 f2 f3 g1 g2 0 a b s1 s2 0 0 (vp_updL (fun _ => 0) 0 0)), true, 0, 0)) rfl ?_
  refine go_get rfl rfl rfl rfl ?_
  refine go_n 1 (fr' := (25, [(0, .ref 49), (1, .int (xs 3)), (2, .int (xs 4)), (3, .int (xs 5))], [.int (xs 3), .ref 58], (ah_w S z f1 f2 f3 g1 g2 0 a b s1 s2 0 0 (vp_updL (fun _ => 0) 0 0)), true, 0, 0)) rfl ?_
  refine go_zal rfl rfl hj ?_
  refine go_n 2 (fr' := (30, [(0, .ref 49), (1, .int (xs 3)), (2, .int (xs 4)), (3, .int (xs 5))], [.ref 49], (ah_w S z f1 f2 f3 g1 g2 0 a b s1 s2 0 0 (vp_updL (fun _ => 0) 0 0)), true, 0, 0)) rfl ?_
  refine go_get rfl rfl rfl rfl ?_
  refine go_n 1 (fr' := (34, [(0, .ref 49), (1, .int (xs 3)), (2, .int (xs 4)), (3, .int (xs 5))], [.int (xs 3), .ref 51], (ah_w S z f1 f2 f3 g1 g2 0 a b s1 s2 0 0 (vp_updL (fun _ => 0) 0 0)), true, 0, 0)) rfl ?_
  refine go_ial rfl (by decide) rfl hj ?_
  rw [hs1]
  refine go_n 2 (fr' := (39, [(0, .ref 49), (1, .int (xs 3)), (2, .int (xs 4)), (3, .int (xs 5))], [.ref 49], (ah_w S z f1 f2 f3 g1 g2 0 a b s1 s2 0 0 (vp_updL (fun _ => 0) 0 0)), true, 0, 0)) rfl ?_
  refine go_get rfl rfl rfl rfl ?_
  refine go_n 1 (fr' := (43, [(0, .ref 49), (1, .int (xs 3)), (2, .int (xs 4)), (3, .int (xs 5))], [.int (xs 3), .ref 51], (ah_w S z f1 f2 f3 g1 g2 0 a b s1 s2 0 0 (vp_updL (fun _ => 0) 0 0)), true, 0, 0)) rfl ?_
  refine go_ial rfl (by decide) rfl hj ?_
  rw [hs1]
  refine go_n 4 (fr' := (50, [(0, .ref 49), (1, .int (xs 3)), (2, .int (xs 4)), (3, .int (xs 5))], [.int 1, .int (xs 4)], (ah_w S z f1 f2 f3 g1 g2 0 a b s1 s2 0 0 (vp_updL (fun _ => 0) 0 0)), true, 0, 0)) rfl ?_
  refine go_ic_lt (t := 69) rfl (fun q1 => ?_) (fun q1 => absurd h1 q1)
  refine go_n 1 (fr' := (70, [(0, .ref 49), (1, .int (xs 3)), (2, .int (xs 4)), (3, .int (xs 5))], [.int 0], (ah_w S z f1 f2 f3 g1 g2 0 a b s1 s2 0 0 (vp_updL (fun _ => 0) 0 0)), true, 0, 0)) rfl ?_
  refine go_rt (i := .ireturn) (tg := []) rfl ?_
  rfl
set_option maxRecDepth 20000 in
theorem pl_house_1_7_thrown {xs : Nat → Int32} {S : Nat} {z : Int32} {f1 f2 f3 g1 g2 s1 s2 : Nat → Int32} {a b : Nat} (hk0 : ¬ xs 3 < 0) (hkz : xs 3 < z) (hkm : xs 3 < nI a * nI b) (hi : ai_in (xs 3) S = true) (hj : ai_in (xs 3) 64 = true) (hg1 : g1 (xs 3).toNatClampNeg = -1) (hg2 : g2 (xs 3).toNatClampNeg = -1) (hs1 : s1 (xs 3).toNatClampNeg = -1) (hs2 : s2 (xs 3).toNatClampNeg = -1) (h1 : xs 4 < 1) : ai_Ev an_ms an_lk (8, xs) 35 12 52 [.ref 49] (ah_w S z f1 f2 f3 g1 g2 0 a b s1 s2 0 0 (vp_updL (fun _ => 0) 0 0)) true (.inl (some (.int 0), (ah_w S z f1 f2 f3 g1 g2 0 a b s1 s2 0 0 (vp_updL (fun _ => 0) 0 0)), true, 0, 0)) := by
  refine ev_of (M := an_X10_thrown) rfl (Nat.le_of_ble_eq_true rfl) ?_
  refine go_n 1 (fr' := (1, [(0, .ref 49)], [.ref 49], (ah_w S z f1 f2 f3 g1 g2 0 a b s1 s2 0 0 (vp_updL (fun _ => 0) 0 0)), true, 0, 0)) rfl ?_
  refine go_get rfl rfl rfl rfl ?_
  refine go_rt (i := .ireturn) (tg := []) rfl ?_
  rfl
set_option maxRecDepth 20000 in
theorem pl_house_1 {xs : Nat → Int32} {S : Nat} {z : Int32} {f1 f2 f3 g1 g2 s1 s2 : Nat → Int32} {a b : Nat} {ns : Nat} (hk0 : ¬ xs 3 < 0) (hkz : xs 3 < z) (hkm : xs 3 < nI a * nI b) (hi : ai_in (xs 3) S = true) (hj : ai_in (xs 3) 64 = true) (hg1 : g1 (xs 3).toNatClampNeg = -1) (hg2 : g2 (xs 3).toNatClampNeg = -1) (hs1 : s1 (xs 3).toNatClampNeg = -1) (hs2 : s2 (xs 3).toNatClampNeg = -1) (h1 : xs 4 < 1) : pl_ok xs (140, [(0, .ref 1000000), (1, .ref 0), (2, .ref 49), (3, .ref 85), (4, .int 2)], [], (ah_w S z f1 f2 f3 g1 g2 0 a b s1 s2 0 0 (fun _ => 0)), true, 86, ns) ns := by
  refine pl_mk (h' := (ah_w S z f1 f2 f3 g1 g2 0 a b s1 s2 0 0 (vp_updL (fun _ => 0) 0 0))) (ex' := true) (nc := 86) (ns' := ns) ?_ (by omega) (by omega)
  refine go_n 17 (fr' := (160, [(0, .ref 1000000), (1, .ref 0), (2, .ref 49), (3, .ref 85), (4, .int 2)], [.ref 85, .int (xs 5), .int (xs 4), .int (xs 3), .ref 0], (ah_w S z f1 f2 f3 g1 g2 0 a b s1 s2 0 0 (fun _ => 0)), true, 86, ns)) rfl ?_
  refine go_call (q := 82) (M1 := an_L_house) rfl rfl (by decide) rfl trivial trivial (pl_house_1_1_house hk0 hkz hkm hi hj hg1 hg2 hs1 hs2 h1) ?_
  refine go_eq (fr' := (163, [(0, .ref 1000000), (1, .ref 0), (2, .ref 49), (3, .ref 85), (4, .int 2)], [.int 0], (ah_w S z f1 f2 f3 g1 g2 0 a b s1 s2 0 0 (vp_updL (fun _ => 0) 0 0)), true, 86, ns)) rfl ?_
  refine go_n 17 (fr' := (184, [(0, .ref 1000000), (1, .ref 0), (2, .ref 49), (3, .ref 85), (4, .int 2), (5, .int 0)], [.int (xs 5), .int (xs 4), .int (xs 3), .ref 49], (ah_w S z f1 f2 f3 g1 g2 0 a b s1 s2 0 0 (vp_updL (fun _ => 0) 0 0)), true, 86, ns)) rfl ?_
  refine go_call (q := 56) (M1 := an_X10_house) rfl rfl (by decide) rfl ⟨_, rfl⟩ trivial (pl_house_1_5_house hk0 hkz hkm hi hj hg1 hg2 hs1 hs2 h1) ?_
  refine go_eq (fr' := (187, [(0, .ref 1000000), (1, .ref 0), (2, .ref 49), (3, .ref 85), (4, .int 2), (5, .int 0)], [.int 0], (ah_w S z f1 f2 f3 g1 g2 0 a b s1 s2 0 0 (vp_updL (fun _ => 0) 0 0)), true, 86, ns)) rfl ?_
  refine go_n 2 (fr' := (190, [(0, .ref 1000000), (1, .ref 0), (2, .ref 49), (3, .ref 85), (4, .int 2), (5, .int 0), (6, .int 0)], [.ref 49], (ah_w S z f1 f2 f3 g1 g2 0 a b s1 s2 0 0 (vp_updL (fun _ => 0) 0 0)), true, 86, ns)) rfl ?_
  refine go_call (q := 52) (M1 := an_X10_thrown) rfl rfl (by decide) rfl ⟨_, rfl⟩ trivial (pl_house_1_7_thrown hk0 hkz hkm hi hj hg1 hg2 hs1 hs2 h1) ?_
  refine go_eq (fr' := (193, [(0, .ref 1000000), (1, .ref 0), (2, .ref 49), (3, .ref 85), (4, .int 2), (5, .int 0), (6, .int 0)], [.int 0], (ah_w S z f1 f2 f3 g1 g2 0 a b s1 s2 0 0 (vp_updL (fun _ => 0) 0 0)), true, 86, ns)) rfl ?_
  refine go_n 11 (fr' := (219, [(0, .ref 1000000), (1, .ref 0), (2, .ref 49), (3, .ref 85), (4, .int 2), (5, .int 0), (6, .int 0)], [.int (lg_cmp 0 0)], (ah_w S z f1 f2 f3 g1 g2 0 a b s1 s2 0 0 (vp_updL (fun _ => 0) 0 0)), true, 86, ns)) rfl ?_
  refine go_if_eq (t := 224) rfl (fun q1 => ?_) (fun q1 => absurd (lg_self _) q1)
  refine go_n 1 (fr' := (1174, [(0, .ref 1000000), (1, .ref 0), (2, .ref 49), (3, .ref 85), (4, .int 2), (5, .int 0), (6, .int 0)], [], (ah_w S z f1 f2 f3 g1 g2 0 a b s1 s2 0 0 (vp_updL (fun _ => 0) 0 0)), true, 86, ns)) rfl ?_
  exact pl_end2
set_option maxRecDepth 20000 in
theorem pl_house_2_4_has {xs : Nat → Int32} {S : Nat} {z : Int32} {f1 f2 f3 g1 g2 s1 s2 : Nat → Int32} {a b : Nat} (hk0 : ¬ xs 3 < 0) (hkz : xs 3 < z) (hkm : xs 3 < nI a * nI b) (hi : ai_in (xs 3) S = true) (hj : ai_in (xs 3) 64 = true) (hg1 : g1 (xs 3).toNatClampNeg = -1) (hg2 : g2 (xs 3).toNatClampNeg = -1) (hs1 : s1 (xs 3).toNatClampNeg = -1) (hs2 : s2 (xs 3).toNatClampNeg = -1) (h1 : ¬ xs 4 < 1) (h2 : 9 < xs 4) : ai_Ev an_ms an_lk (8, xs) 35 9 2 [.ref 1, .int (xs 3)] (ah_w S z f1 f2 f3 g1 g2 0 a b s1 s2 0 0 (fun _ => 0)) true (.inl (some (.int 1), (ah_w S z f1 f2 f3 g1 g2 0 a b s1 s2 0 0 (fun _ => 0)), true, 0, 0)) := by
  refine ev_of (M := an_X0_has) rfl (Nat.le_of_ble_eq_true rfl) ?_
  refine go_n 1 (fr' := (1, [(0, .ref 1), (1, .int (xs 3))], [.int (xs 3)], (ah_w S z f1 f2 f3 g1 g2 0 a b s1 s2 0 0 (fun _ => 0)), true, 0, 0)) rfl ?_
  refine go_if_lt (t := 16) rfl (fun q1 => absurd q1 hk0) (fun q1 => ?_)
  refine go_n 2 (fr' := (6, [(0, .ref 1), (1, .int (xs 3))], [.ref 1, .int (xs 3)], (ah_w S z f1 f2 f3 g1 g2 0 a b s1 s2 0 0 (fun _ => 0)), true, 0, 0)) rfl ?_
  refine go_get rfl rfl rfl rfl ?_
  refine go_ic_ge (t := 16) rfl (fun q2 => absurd q2 (Int32.not_le.mpr hkz)) (fun q2 => ?_)
  refine go_n 2 (fr' := (17, [(0, .ref 1), (1, .int (xs 3))], [.int 1], (ah_w S z f1 f2 f3 g1 g2 0 a b s1 s2 0 0 (fun _ => 0)), true, 0, 0)) rfl ?_
  refine go_rt (i := .ireturn) (tg := []) rfl ?_
  rfl
set_option maxRecDepth 20000 in
theorem pl_house_2_3_needCell {xs : Nat → Int32} {S : Nat} {z : Int32} {f1 f2 f3 g1 g2 s1 s2 : Nat → Int32} {a b : Nat} (hk0 : ¬ xs 3 < 0) (hkz : xs 3 < z) (hkm : xs 3 < nI a * nI b) (hi : ai_in (xs 3) S = true) (hj : ai_in (xs 3) 64 = true) (hg1 : g1 (xs 3).toNatClampNeg = -1) (hg2 : g2 (xs 3).toNatClampNeg = -1) (hs1 : s1 (xs 3).toNatClampNeg = -1) (hs2 : s2 (xs 3).toNatClampNeg = -1) (h1 : ¬ xs 4 < 1) (h2 : 9 < xs 4) : ai_Ev an_ms an_lk (8, xs) 35 10 41 [.ref 0, .int (xs 3)] (ah_w S z f1 f2 f3 g1 g2 0 a b s1 s2 0 0 (fun _ => 0)) true (.inl (none, (ah_w S z f1 f2 f3 g1 g2 0 a b s1 s2 0 0 (fun _ => 0)), true, 0, 0)) := by
  refine ev_of (M := an_X9_needCell) rfl (Nat.le_of_ble_eq_true rfl) ?_
  refine go_n 1 (fr' := (1, [(0, .ref 0), (1, .int (xs 3))], [.ref 0], (ah_w S z f1 f2 f3 g1 g2 0 a b s1 s2 0 0 (fun _ => 0)), true, 0, 0)) rfl ?_
  refine go_get rfl rfl rfl rfl ?_
  refine go_n 1 (fr' := (5, [(0, .ref 0), (1, .int (xs 3))], [.int (xs 3), .ref 1], (ah_w S z f1 f2 f3 g1 g2 0 a b s1 s2 0 0 (fun _ => 0)), true, 0, 0)) rfl ?_
  refine go_call (q := 2) (M1 := an_X0_has) rfl rfl (by decide) rfl ⟨_, rfl⟩ trivial (pl_house_2_4_has hk0 hkz hkm hi hj hg1 hg2 hs1 hs2 h1 h2) ?_
  refine go_eq (fr' := (8, [(0, .ref 0), (1, .int (xs 3))], [.int 1], (ah_w S z f1 f2 f3 g1 g2 0 a b s1 s2 0 0 (fun _ => 0)), true, 0, 0)) rfl ?_
  refine go_n 1 (fr' := (21, [(0, .ref 0), (1, .int (xs 3))], [], (ah_w S z f1 f2 f3 g1 g2 0 a b s1 s2 0 0 (fun _ => 0)), true, 0, 0)) rfl ?_
  refine go_rt (i := .return_) (tg := []) rfl ?_
  rfl
set_option maxRecDepth 20000 in
theorem pl_house_2_2_house {xs : Nat → Int32} {S : Nat} {z : Int32} {f1 f2 f3 g1 g2 s1 s2 : Nat → Int32} {a b : Nat} (hk0 : ¬ xs 3 < 0) (hkz : xs 3 < z) (hkm : xs 3 < nI a * nI b) (hi : ai_in (xs 3) S = true) (hj : ai_in (xs 3) 64 = true) (hg1 : g1 (xs 3).toNatClampNeg = -1) (hg2 : g2 (xs 3).toNatClampNeg = -1) (hs1 : s1 (xs 3).toNatClampNeg = -1) (hs2 : s2 (xs 3).toNatClampNeg = -1) (h1 : ¬ xs 4 < 1) (h2 : 9 < xs 4) : ai_Ev an_ms an_lk (8, xs) 35 11 25 [.ref 0, .int (xs 3), .int (xs 4), .int (xs 5)] (ah_w S z f1 f2 f3 g1 g2 0 a b s1 s2 0 0 (fun _ => 0)) true (.inl (some (.int 0), (ah_w S z f1 f2 f3 g1 g2 0 a b s1 s2 0 0 (fun _ => 0)), true, 0, 0)) := by
  refine ev_of (M := an_X9_house) rfl (Nat.le_of_ble_eq_true rfl) ?_
  refine go_n 2 (fr' := (2, [(0, .ref 0), (1, .int (xs 3)), (2, .int (xs 4)), (3, .int (xs 5))], [.int (xs 3), .ref 0], (ah_w S z f1 f2 f3 g1 g2 0 a b s1 s2 0 0 (fun _ => 0)), true, 0, 0)) rfl ?_
  refine go_call (q := 41) (M1 := an_X9_needCell) rfl rfl (by decide) rfl ⟨_, rfl⟩ trivial (pl_house_2_3_needCell hk0 hkz hkm hi hj hg1 hg2 hs1 hs2 h1 h2) ?_
  refine go_eq (fr' := (5, [(0, .ref 0), (1, .int (xs 3)), (2, .int (xs 4)), (3, .int (xs 5))], [], (ah_w S z f1 f2 f3 g1 g2 0 a b s1 s2 0 0 (fun _ => 0)), true, 0, 0)) rfl ?_
  refine go_n 2 (fr' := (7, [(0, .ref 0), (1, .int (xs 3)), (2, .int (xs 4)), (3, .int (xs 5))], [.int 1, .int (xs 4)], (ah_w S z f1 f2 f3 g1 g2 0 a b s1 s2 0 0 (fun _ => 0)), true, 0, 0)) rfl ?_
  refine go_ic_lt (t := 23) rfl (fun q1 => absurd q1 h1) (fun q1 => ?_)
  refine go_n 2 (fr' := (13, [(0, .ref 0), (1, .int (xs 3)), (2, .int (xs 4)), (3, .int (xs 5))], [.int 9, .int (xs 4)], (ah_w S z f1 f2 f3 g1 g2 0 a b s1 s2 0 0 (fun _ => 0)), true, 0, 0)) rfl ?_
  refine go_ic_gt (t := 23) rfl (fun q2 => ?_) (fun q2 => absurd h2 q2)
  refine go_n 1 (fr' := (24, [(0, .ref 0), (1, .int (xs 3)), (2, .int (xs 4)), (3, .int (xs 5))], [.int 0], (ah_w S z f1 f2 f3 g1 g2 0 a b s1 s2 0 0 (fun _ => 0)), true, 0, 0)) rfl ?_
  refine go_rt (i := .ireturn) (tg := []) rfl ?_
  rfl
set_option maxRecDepth 20000 in
theorem pl_house_2_1_house {xs : Nat → Int32} {S : Nat} {z : Int32} {f1 f2 f3 g1 g2 s1 s2 : Nat → Int32} {a b : Nat} (hk0 : ¬ xs 3 < 0) (hkz : xs 3 < z) (hkm : xs 3 < nI a * nI b) (hi : ai_in (xs 3) S = true) (hj : ai_in (xs 3) 64 = true) (hg1 : g1 (xs 3).toNatClampNeg = -1) (hg2 : g2 (xs 3).toNatClampNeg = -1) (hs1 : s1 (xs 3).toNatClampNeg = -1) (hs2 : s2 (xs 3).toNatClampNeg = -1) (h1 : ¬ xs 4 < 1) (h2 : 9 < xs 4) : ai_Ev an_ms an_lk (8, xs) 35 12 82 [.ref 0, .int (xs 3), .int (xs 4), .int (xs 5), .ref 85] (ah_w S z f1 f2 f3 g1 g2 0 a b s1 s2 0 0 (fun _ => 0)) true (.inl (some (.int 0), (ah_w S z f1 f2 f3 g1 g2 0 a b s1 s2 0 0 (vp_updL (fun _ => 0) 0 0)), true, 0, 0)) := by
  refine ev_of (M := an_L_house) rfl (Nat.le_of_ble_eq_true rfl) ?_
  refine go_n 6 (fr' := (7, [(0, .ref 0), (1, .int (xs 3)), (2, .int (xs 4)), (3, .int (xs 5)), (4, .ref 85)], [.int (xs 5), .int (xs 4), .int (xs 3), .ref 0, .int 0, .ref 85], (ah_w S z f1 f2 f3 g1 g2 0 a b s1 s2 0 0 (fun _ => 0)), true, 0, 0)) rfl ?_
  refine go_call (q := 25) (M1 := an_X9_house) rfl rfl (by decide) rfl ⟨_, rfl⟩ trivial (pl_house_2_2_house hk0 hkz hkm hi hj hg1 hg2 hs1 hs2 h1 h2) ?_
  refine go_eq (fr' := (10, [(0, .ref 0), (1, .int (xs 3)), (2, .int (xs 4)), (3, .int (xs 5)), (4, .ref 85)], [.int 0, .int 0, .ref 85], (ah_w S z f1 f2 f3 g1 g2 0 a b s1 s2 0 0 (fun _ => 0)), true, 0, 0)) rfl ?_
  refine go_n 5 (fr' := (27, [(0, .ref 0), (1, .int (xs 3)), (2, .int (xs 4)), (3, .int (xs 5)), (4, .ref 85)], [.int 0], (ah_w S z f1 f2 f3 g1 g2 0 a b s1 s2 0 0 (vp_updL (fun _ => 0) 0 0)), true, 0, 0)) rfl ?_
  refine go_rt (i := .ireturn) (tg := []) rfl ?_
  rfl
set_option maxRecDepth 20000 in
theorem pl_house_2_6_isCell {xs : Nat → Int32} {S : Nat} {z : Int32} {f1 f2 f3 g1 g2 s1 s2 : Nat → Int32} {a b : Nat} (hk0 : ¬ xs 3 < 0) (hkz : xs 3 < z) (hkm : xs 3 < nI a * nI b) (hi : ai_in (xs 3) S = true) (hj : ai_in (xs 3) 64 = true) (hg1 : g1 (xs 3).toNatClampNeg = -1) (hg2 : g2 (xs 3).toNatClampNeg = -1) (hs1 : s1 (xs 3).toNatClampNeg = -1) (hs2 : s2 (xs 3).toNatClampNeg = -1) (h1 : ¬ xs 4 < 1) (h2 : 9 < xs 4) : ai_Ev an_ms an_lk (8, xs) 35 11 54 [.ref 49, .int (xs 3)] (ah_w S z f1 f2 f3 g1 g2 0 a b s1 s2 0 0 (vp_updL (fun _ => 0) 0 0)) true (.inl (some (.int 1), (ah_w S z f1 f2 f3 g1 g2 0 a b s1 s2 0 0 (vp_updL (fun _ => 0) 0 0)), true, 0, 0)) := by
  refine ev_of (M := an_X10_isCell) rfl (Nat.le_of_ble_eq_true rfl) ?_
  refine go_n 1 (fr' := (1, [(0, .ref 49), (1, .int (xs 3))], [.int (xs 3)], (ah_w S z f1 f2 f3 g1 g2 0 a b s1 s2 0 0 (vp_updL (fun _ => 0) 0 0)), true, 0, 0)) rfl ?_
  refine go_if_lt (t := 21) rfl (fun q1 => absurd q1 hk0) (fun q1 => ?_)
  refine go_n 2 (fr' := (6, [(0, .ref 49), (1, .int (xs 3))], [.ref 49, .int (xs 3)], (ah_w S z f1 f2 f3 g1 g2 0 a b s1 s2 0 0 (vp_updL (fun _ => 0) 0 0)), true, 0, 0)) rfl ?_
  refine go_get rfl rfl rfl rfl ?_
  refine go_n 1 (fr' := (10, [(0, .ref 49), (1, .int (xs 3))], [.ref 49, .int (nI a), .int (xs 3)], (ah_w S z f1 f2 f3 g1 g2 0 a b s1 s2 0 0 (vp_updL (fun _ => 0) 0 0)), true, 0, 0)) rfl ?_
  refine go_get rfl rfl rfl rfl ?_
  refine go_n 1 (fr' := (14, [(0, .ref 49), (1, .int (xs 3))], [.int ((nI a) * (nI b)), .int (xs 3)], (ah_w S z f1 f2 f3 g1 g2 0 a b s1 s2 0 0 (vp_updL (fun _ => 0) 0 0)), true, 0, 0)) rfl ?_
  refine go_ic_ge (t := 21) rfl (fun q2 => absurd q2 (Int32.not_le.mpr hkm)) (fun q2 => ?_)
  refine go_n 2 (fr' := (22, [(0, .ref 49), (1, .int (xs 3))], [.int 1], (ah_w S z f1 f2 f3 g1 g2 0 a b s1 s2 0 0 (vp_updL (fun _ => 0) 0 0)), true, 0, 0)) rfl ?_
  refine go_rt (i := .ireturn) (tg := []) rfl ?_
  rfl
set_option maxRecDepth 20000 in
theorem pl_house_2_5_house {xs : Nat → Int32} {S : Nat} {z : Int32} {f1 f2 f3 g1 g2 s1 s2 : Nat → Int32} {a b : Nat} (hk0 : ¬ xs 3 < 0) (hkz : xs 3 < z) (hkm : xs 3 < nI a * nI b) (hi : ai_in (xs 3) S = true) (hj : ai_in (xs 3) 64 = true) (hg1 : g1 (xs 3).toNatClampNeg = -1) (hg2 : g2 (xs 3).toNatClampNeg = -1) (hs1 : s1 (xs 3).toNatClampNeg = -1) (hs2 : s2 (xs 3).toNatClampNeg = -1) (h1 : ¬ xs 4 < 1) (h2 : 9 < xs 4) : ai_Ev an_ms an_lk (8, xs) 35 12 56 [.ref 49, .int (xs 3), .int (xs 4), .int (xs 5)] (ah_w S z f1 f2 f3 g1 g2 0 a b s1 s2 0 0 (vp_updL (fun _ => 0) 0 0)) true (.inl (some (.int 0), (ah_w S z f1 f2 f3 g1 g2 0 a b s1 s2 0 0 (vp_updL (fun _ => 0) 0 0)), true, 0, 0)) := by
  refine ev_of (M := an_X10_house) rfl (Nat.le_of_ble_eq_true rfl) ?_
  refine go_n 2 (fr' := (2, [(0, .ref 49), (1, .int (xs 3)), (2, .int (xs 4)), (3, .int (xs 5))], [.int 0, .ref 49], (ah_w S z f1 f2 f3 g1 g2 0 a b s1 s2 0 0 (vp_updL (fun _ => 0) 0 0)), true, 0, 0)) rfl ?_
  refine go_put rfl rfl rfl (Nat.le_of_ble_eq_true rfl) rfl ?_
  refine go_n 2 (fr' := (7, [(0, .ref 49), (1, .int (xs 3)), (2, .int (xs 4)), (3, .int (xs 5))], [.int (xs 3), .ref 49], (ah_w S z f1 f2 f3 g1 g2 0 a b s1 s2 0 0 (vp_updL (fun _ => 0) 0 0)), true, 0, 0)) rfl ?_
  refine go_call (q := 54) (M1 := an_X10_isCell) rfl rfl (by decide) rfl ⟨_, rfl⟩ trivial (pl_house_2_6_isCell hk0 hkz hkm hi hj hg1 hg2 hs1 hs2 h1 h2) ?_
  refine go_eq (fr' := (10, [(0, .ref 49), (1, .int (xs 3)), (2, .int (xs 4)), (3, .int (xs 5))], [.int 1], (ah_w S z f1 f2 f3 g1 g2 0 a b s1 s2 0 0 (vp_updL (fun _ => 0) 0 0)), true, 0, 0)) rfl ?_
  refine go_n 2 (fr' := (21, [(0, .ref 49), (1, .int (xs 3)), (2, .int (xs 4)), (3, .int (xs 5))], [.ref 49], (ah_w S z f1 f2 f3 g1 g2 0 a b s1 s2 0 0 (vp_updL (fun _ => 0) 0 0)), true, 0, 0)) rfl ?_
  refine go_get rfl rfl rfl rfl ?_
  refine go_n 1 (fr' := (25, [(0, .ref 49), (1, .int (xs 3)), (2, .int (xs 4)), (3, .int (xs 5))], [.int (xs 3), .ref 58], (ah_w S z f1 f2 f3 g1 g2 0 a b s1 s2 0 0 (vp_updL (fun _ => 0) 0 0)), true, 0, 0)) rfl ?_
  refine go_zal rfl rfl hj ?_
  refine go_n 2 (fr' := (30, [(0, .ref 49), (1, .int (xs 3)), (2, .int (xs 4)), (3, .int (xs 5))], [.ref 49], (ah_w S z f1 f2 f3 g1 g2 0 a b s1 s2 0 0 (vp_updL (fun _ => 0) 0 0)), true, 0, 0)) rfl ?_
  refine go_get rfl rfl rfl rfl ?_
  refine go_n 1 (fr' := (34, [(0, .ref 49), (1, .int (xs 3)), (2, .int (xs 4)), (3, .int (xs 5))], [.int (xs 3), .ref 51], (ah_w S z f1 f2 f3 g1 g2 0 a b s1 s2 0 0 (vp_updL (fun _ => 0) 0 0)), true, 0, 0)) rfl ?_
  refine go_ial rfl (by decide) rfl hj ?_
  rw [hs1]
  refine go_n 2 (fr' := (39, [(0, .ref 49), (1, .int (xs 3)), (2, .int (xs 4)), (3, .int (xs 5))], [.ref 49], (ah_w S z f1 f2 f3 g1 g2 0 a b s1 s2 0 0 (vp_updL (fun _ => 0) 0 0)), true, 0, 0)) rfl ?_
  refine go_get rfl rfl rfl rfl ?_
  refine go_n 1 (fr' := (43, [(0, .ref 49), (1, .int (xs 3)), (2, .int (xs 4)), (3, .int (xs 5))], [.int (xs 3), .ref 51], (ah_w S z f1 f2 f3 g1 g2 0 a b s1 s2 0 0 (vp_updL (fun _ => 0) 0 0)), true, 0, 0)) rfl ?_
  refine go_ial rfl (by decide) rfl hj ?_
  rw [hs1]
  refine go_n 4 (fr' := (50, [(0, .ref 49), (1, .int (xs 3)), (2, .int (xs 4)), (3, .int (xs 5))], [.int 1, .int (xs 4)], (ah_w S z f1 f2 f3 g1 g2 0 a b s1 s2 0 0 (vp_updL (fun _ => 0) 0 0)), true, 0, 0)) rfl ?_
  refine go_ic_lt (t := 69) rfl (fun q1 => absurd q1 h1) (fun q1 => ?_)
  refine go_n 2 (fr' := (56, [(0, .ref 49), (1, .int (xs 3)), (2, .int (xs 4)), (3, .int (xs 5))], [.int 9, .int (xs 4)], (ah_w S z f1 f2 f3 g1 g2 0 a b s1 s2 0 0 (vp_updL (fun _ => 0) 0 0)), true, 0, 0)) rfl ?_
  refine go_ic_gt (t := 69) rfl (fun q2 => ?_) (fun q2 => absurd h2 q2)
  refine go_n 1 (fr' := (70, [(0, .ref 49), (1, .int (xs 3)), (2, .int (xs 4)), (3, .int (xs 5))], [.int 0], (ah_w S z f1 f2 f3 g1 g2 0 a b s1 s2 0 0 (vp_updL (fun _ => 0) 0 0)), true, 0, 0)) rfl ?_
  refine go_rt (i := .ireturn) (tg := []) rfl ?_
  rfl
set_option maxRecDepth 20000 in
theorem pl_house_2_7_thrown {xs : Nat → Int32} {S : Nat} {z : Int32} {f1 f2 f3 g1 g2 s1 s2 : Nat → Int32} {a b : Nat} (hk0 : ¬ xs 3 < 0) (hkz : xs 3 < z) (hkm : xs 3 < nI a * nI b) (hi : ai_in (xs 3) S = true) (hj : ai_in (xs 3) 64 = true) (hg1 : g1 (xs 3).toNatClampNeg = -1) (hg2 : g2 (xs 3).toNatClampNeg = -1) (hs1 : s1 (xs 3).toNatClampNeg = -1) (hs2 : s2 (xs 3).toNatClampNeg = -1) (h1 : ¬ xs 4 < 1) (h2 : 9 < xs 4) : ai_Ev an_ms an_lk (8, xs) 35 12 52 [.ref 49] (ah_w S z f1 f2 f3 g1 g2 0 a b s1 s2 0 0 (vp_updL (fun _ => 0) 0 0)) true (.inl (some (.int 0), (ah_w S z f1 f2 f3 g1 g2 0 a b s1 s2 0 0 (vp_updL (fun _ => 0) 0 0)), true, 0, 0)) := by
  refine ev_of (M := an_X10_thrown) rfl (Nat.le_of_ble_eq_true rfl) ?_
  refine go_n 1 (fr' := (1, [(0, .ref 49)], [.ref 49], (ah_w S z f1 f2 f3 g1 g2 0 a b s1 s2 0 0 (vp_updL (fun _ => 0) 0 0)), true, 0, 0)) rfl ?_
  refine go_get rfl rfl rfl rfl ?_
  refine go_rt (i := .ireturn) (tg := []) rfl ?_
  rfl
set_option maxRecDepth 20000 in
theorem pl_house_2 {xs : Nat → Int32} {S : Nat} {z : Int32} {f1 f2 f3 g1 g2 s1 s2 : Nat → Int32} {a b : Nat} {ns : Nat} (hk0 : ¬ xs 3 < 0) (hkz : xs 3 < z) (hkm : xs 3 < nI a * nI b) (hi : ai_in (xs 3) S = true) (hj : ai_in (xs 3) 64 = true) (hg1 : g1 (xs 3).toNatClampNeg = -1) (hg2 : g2 (xs 3).toNatClampNeg = -1) (hs1 : s1 (xs 3).toNatClampNeg = -1) (hs2 : s2 (xs 3).toNatClampNeg = -1) (h1 : ¬ xs 4 < 1) (h2 : 9 < xs 4) : pl_ok xs (140, [(0, .ref 1000000), (1, .ref 0), (2, .ref 49), (3, .ref 85), (4, .int 2)], [], (ah_w S z f1 f2 f3 g1 g2 0 a b s1 s2 0 0 (fun _ => 0)), true, 86, ns) ns := by
  refine pl_mk (h' := (ah_w S z f1 f2 f3 g1 g2 0 a b s1 s2 0 0 (vp_updL (fun _ => 0) 0 0))) (ex' := true) (nc := 86) (ns' := ns) ?_ (by omega) (by omega)
  refine go_n 17 (fr' := (160, [(0, .ref 1000000), (1, .ref 0), (2, .ref 49), (3, .ref 85), (4, .int 2)], [.ref 85, .int (xs 5), .int (xs 4), .int (xs 3), .ref 0], (ah_w S z f1 f2 f3 g1 g2 0 a b s1 s2 0 0 (fun _ => 0)), true, 86, ns)) rfl ?_
  refine go_call (q := 82) (M1 := an_L_house) rfl rfl (by decide) rfl trivial trivial (pl_house_2_1_house hk0 hkz hkm hi hj hg1 hg2 hs1 hs2 h1 h2) ?_
  refine go_eq (fr' := (163, [(0, .ref 1000000), (1, .ref 0), (2, .ref 49), (3, .ref 85), (4, .int 2)], [.int 0], (ah_w S z f1 f2 f3 g1 g2 0 a b s1 s2 0 0 (vp_updL (fun _ => 0) 0 0)), true, 86, ns)) rfl ?_
  refine go_n 17 (fr' := (184, [(0, .ref 1000000), (1, .ref 0), (2, .ref 49), (3, .ref 85), (4, .int 2), (5, .int 0)], [.int (xs 5), .int (xs 4), .int (xs 3), .ref 49], (ah_w S z f1 f2 f3 g1 g2 0 a b s1 s2 0 0 (vp_updL (fun _ => 0) 0 0)), true, 86, ns)) rfl ?_
  refine go_call (q := 56) (M1 := an_X10_house) rfl rfl (by decide) rfl ⟨_, rfl⟩ trivial (pl_house_2_5_house hk0 hkz hkm hi hj hg1 hg2 hs1 hs2 h1 h2) ?_
  refine go_eq (fr' := (187, [(0, .ref 1000000), (1, .ref 0), (2, .ref 49), (3, .ref 85), (4, .int 2), (5, .int 0)], [.int 0], (ah_w S z f1 f2 f3 g1 g2 0 a b s1 s2 0 0 (vp_updL (fun _ => 0) 0 0)), true, 86, ns)) rfl ?_
  refine go_n 2 (fr' := (190, [(0, .ref 1000000), (1, .ref 0), (2, .ref 49), (3, .ref 85), (4, .int 2), (5, .int 0), (6, .int 0)], [.ref 49], (ah_w S z f1 f2 f3 g1 g2 0 a b s1 s2 0 0 (vp_updL (fun _ => 0) 0 0)), true, 86, ns)) rfl ?_
  refine go_call (q := 52) (M1 := an_X10_thrown) rfl rfl (by decide) rfl ⟨_, rfl⟩ trivial (pl_house_2_7_thrown hk0 hkz hkm hi hj hg1 hg2 hs1 hs2 h1 h2) ?_
  refine go_eq (fr' := (193, [(0, .ref 1000000), (1, .ref 0), (2, .ref 49), (3, .ref 85), (4, .int 2), (5, .int 0), (6, .int 0)], [.int 0], (ah_w S z f1 f2 f3 g1 g2 0 a b s1 s2 0 0 (vp_updL (fun _ => 0) 0 0)), true, 86, ns)) rfl ?_
  refine go_n 11 (fr' := (219, [(0, .ref 1000000), (1, .ref 0), (2, .ref 49), (3, .ref 85), (4, .int 2), (5, .int 0), (6, .int 0)], [.int (lg_cmp 0 0)], (ah_w S z f1 f2 f3 g1 g2 0 a b s1 s2 0 0 (vp_updL (fun _ => 0) 0 0)), true, 86, ns)) rfl ?_
  refine go_if_eq (t := 224) rfl (fun q1 => ?_) (fun q1 => absurd (lg_self _) q1)
  refine go_n 1 (fr' := (1174, [(0, .ref 1000000), (1, .ref 0), (2, .ref 49), (3, .ref 85), (4, .int 2), (5, .int 0), (6, .int 0)], [], (ah_w S z f1 f2 f3 g1 g2 0 a b s1 s2 0 0 (vp_updL (fun _ => 0) 0 0)), true, 86, ns)) rfl ?_
  exact pl_end2
set_option maxRecDepth 20000 in
theorem pl_house_3_4_has {xs : Nat → Int32} {S : Nat} {z : Int32} {f1 f2 f3 g1 g2 s1 s2 : Nat → Int32} {a b : Nat} (hk0 : ¬ xs 3 < 0) (hkz : xs 3 < z) (hkm : xs 3 < nI a * nI b) (hi : ai_in (xs 3) S = true) (hj : ai_in (xs 3) 64 = true) (hg1 : g1 (xs 3).toNatClampNeg = -1) (hg2 : g2 (xs 3).toNatClampNeg = -1) (hs1 : s1 (xs 3).toNatClampNeg = -1) (hs2 : s2 (xs 3).toNatClampNeg = -1) (h1 : ¬ xs 4 < 1) (h2 : ¬ 9 < xs 4) (h3 : xs 5 < 0) : ai_Ev an_ms an_lk (8, xs) 35 9 2 [.ref 1, .int (xs 3)] (ah_w S z f1 f2 f3 g1 g2 0 a b s1 s2 0 0 (fun _ => 0)) true (.inl (some (.int 1), (ah_w S z f1 f2 f3 g1 g2 0 a b s1 s2 0 0 (fun _ => 0)), true, 0, 0)) := by
  refine ev_of (M := an_X0_has) rfl (Nat.le_of_ble_eq_true rfl) ?_
  refine go_n 1 (fr' := (1, [(0, .ref 1), (1, .int (xs 3))], [.int (xs 3)], (ah_w S z f1 f2 f3 g1 g2 0 a b s1 s2 0 0 (fun _ => 0)), true, 0, 0)) rfl ?_
  refine go_if_lt (t := 16) rfl (fun q1 => absurd q1 hk0) (fun q1 => ?_)
  refine go_n 2 (fr' := (6, [(0, .ref 1), (1, .int (xs 3))], [.ref 1, .int (xs 3)], (ah_w S z f1 f2 f3 g1 g2 0 a b s1 s2 0 0 (fun _ => 0)), true, 0, 0)) rfl ?_
  refine go_get rfl rfl rfl rfl ?_
  refine go_ic_ge (t := 16) rfl (fun q2 => absurd q2 (Int32.not_le.mpr hkz)) (fun q2 => ?_)
  refine go_n 2 (fr' := (17, [(0, .ref 1), (1, .int (xs 3))], [.int 1], (ah_w S z f1 f2 f3 g1 g2 0 a b s1 s2 0 0 (fun _ => 0)), true, 0, 0)) rfl ?_
  refine go_rt (i := .ireturn) (tg := []) rfl ?_
  rfl
set_option maxRecDepth 20000 in
theorem pl_house_3_3_needCell {xs : Nat → Int32} {S : Nat} {z : Int32} {f1 f2 f3 g1 g2 s1 s2 : Nat → Int32} {a b : Nat} (hk0 : ¬ xs 3 < 0) (hkz : xs 3 < z) (hkm : xs 3 < nI a * nI b) (hi : ai_in (xs 3) S = true) (hj : ai_in (xs 3) 64 = true) (hg1 : g1 (xs 3).toNatClampNeg = -1) (hg2 : g2 (xs 3).toNatClampNeg = -1) (hs1 : s1 (xs 3).toNatClampNeg = -1) (hs2 : s2 (xs 3).toNatClampNeg = -1) (h1 : ¬ xs 4 < 1) (h2 : ¬ 9 < xs 4) (h3 : xs 5 < 0) : ai_Ev an_ms an_lk (8, xs) 35 10 41 [.ref 0, .int (xs 3)] (ah_w S z f1 f2 f3 g1 g2 0 a b s1 s2 0 0 (fun _ => 0)) true (.inl (none, (ah_w S z f1 f2 f3 g1 g2 0 a b s1 s2 0 0 (fun _ => 0)), true, 0, 0)) := by
  refine ev_of (M := an_X9_needCell) rfl (Nat.le_of_ble_eq_true rfl) ?_
  refine go_n 1 (fr' := (1, [(0, .ref 0), (1, .int (xs 3))], [.ref 0], (ah_w S z f1 f2 f3 g1 g2 0 a b s1 s2 0 0 (fun _ => 0)), true, 0, 0)) rfl ?_
  refine go_get rfl rfl rfl rfl ?_
  refine go_n 1 (fr' := (5, [(0, .ref 0), (1, .int (xs 3))], [.int (xs 3), .ref 1], (ah_w S z f1 f2 f3 g1 g2 0 a b s1 s2 0 0 (fun _ => 0)), true, 0, 0)) rfl ?_
  refine go_call (q := 2) (M1 := an_X0_has) rfl rfl (by decide) rfl ⟨_, rfl⟩ trivial (pl_house_3_4_has hk0 hkz hkm hi hj hg1 hg2 hs1 hs2 h1 h2 h3) ?_
  refine go_eq (fr' := (8, [(0, .ref 0), (1, .int (xs 3))], [.int 1], (ah_w S z f1 f2 f3 g1 g2 0 a b s1 s2 0 0 (fun _ => 0)), true, 0, 0)) rfl ?_
  refine go_n 1 (fr' := (21, [(0, .ref 0), (1, .int (xs 3))], [], (ah_w S z f1 f2 f3 g1 g2 0 a b s1 s2 0 0 (fun _ => 0)), true, 0, 0)) rfl ?_
  refine go_rt (i := .return_) (tg := []) rfl ?_
  rfl
set_option maxRecDepth 20000 in
theorem pl_house_3_5_isWard {xs : Nat → Int32} {S : Nat} {z : Int32} {f1 f2 f3 g1 g2 s1 s2 : Nat → Int32} {a b : Nat} (hk0 : ¬ xs 3 < 0) (hkz : xs 3 < z) (hkm : xs 3 < nI a * nI b) (hi : ai_in (xs 3) S = true) (hj : ai_in (xs 3) 64 = true) (hg1 : g1 (xs 3).toNatClampNeg = -1) (hg2 : g2 (xs 3).toNatClampNeg = -1) (hs1 : s1 (xs 3).toNatClampNeg = -1) (hs2 : s2 (xs 3).toNatClampNeg = -1) (h1 : ¬ xs 4 < 1) (h2 : ¬ 9 < xs 4) (h3 : xs 5 < 0) : ai_Ev an_ms an_lk (8, xs) 35 10 43 [.int (xs 5)] (ah_w S z f1 f2 f3 g1 g2 0 a b s1 s2 0 0 (fun _ => 0)) true (.inl (some (.int 0), (ah_w S z f1 f2 f3 g1 g2 0 a b s1 s2 0 0 (fun _ => 0)), true, 0, 0)) := by
  refine ev_of (M := an_X9_isWard) rfl (Nat.le_of_ble_eq_true rfl) ?_
  refine go_n 1 (fr' := (1, [(0, .int (xs 5))], [.int (xs 5)], (ah_w S z f1 f2 f3 g1 g2 0 a b s1 s2 0 0 (fun _ => 0)), true, 0, 0)) rfl ?_
  refine go_if_lt (t := 14) rfl (fun q1 => ?_) (fun q1 => absurd h3 q1)
  refine go_n 1 (fr' := (15, [(0, .int (xs 5))], [.int 0], (ah_w S z f1 f2 f3 g1 g2 0 a b s1 s2 0 0 (fun _ => 0)), true, 0, 0)) rfl ?_
  refine go_rt (i := .ireturn) (tg := []) rfl ?_
  rfl
set_option maxRecDepth 20000 in
theorem pl_house_3_2_house {xs : Nat → Int32} {S : Nat} {z : Int32} {f1 f2 f3 g1 g2 s1 s2 : Nat → Int32} {a b : Nat} (hk0 : ¬ xs 3 < 0) (hkz : xs 3 < z) (hkm : xs 3 < nI a * nI b) (hi : ai_in (xs 3) S = true) (hj : ai_in (xs 3) 64 = true) (hg1 : g1 (xs 3).toNatClampNeg = -1) (hg2 : g2 (xs 3).toNatClampNeg = -1) (hs1 : s1 (xs 3).toNatClampNeg = -1) (hs2 : s2 (xs 3).toNatClampNeg = -1) (h1 : ¬ xs 4 < 1) (h2 : ¬ 9 < xs 4) (h3 : xs 5 < 0) : ai_Ev an_ms an_lk (8, xs) 35 11 25 [.ref 0, .int (xs 3), .int (xs 4), .int (xs 5)] (ah_w S z f1 f2 f3 g1 g2 0 a b s1 s2 0 0 (fun _ => 0)) true (.inl (some (.int 0), (ah_w S z f1 f2 f3 g1 g2 0 a b s1 s2 0 0 (fun _ => 0)), true, 0, 0)) := by
  refine ev_of (M := an_X9_house) rfl (Nat.le_of_ble_eq_true rfl) ?_
  refine go_n 2 (fr' := (2, [(0, .ref 0), (1, .int (xs 3)), (2, .int (xs 4)), (3, .int (xs 5))], [.int (xs 3), .ref 0], (ah_w S z f1 f2 f3 g1 g2 0 a b s1 s2 0 0 (fun _ => 0)), true, 0, 0)) rfl ?_
  refine go_call (q := 41) (M1 := an_X9_needCell) rfl rfl (by decide) rfl ⟨_, rfl⟩ trivial (pl_house_3_3_needCell hk0 hkz hkm hi hj hg1 hg2 hs1 hs2 h1 h2 h3) ?_
  refine go_eq (fr' := (5, [(0, .ref 0), (1, .int (xs 3)), (2, .int (xs 4)), (3, .int (xs 5))], [], (ah_w S z f1 f2 f3 g1 g2 0 a b s1 s2 0 0 (fun _ => 0)), true, 0, 0)) rfl ?_
  refine go_n 2 (fr' := (7, [(0, .ref 0), (1, .int (xs 3)), (2, .int (xs 4)), (3, .int (xs 5))], [.int 1, .int (xs 4)], (ah_w S z f1 f2 f3 g1 g2 0 a b s1 s2 0 0 (fun _ => 0)), true, 0, 0)) rfl ?_
  refine go_ic_lt (t := 23) rfl (fun q1 => absurd q1 h1) (fun q1 => ?_)
  refine go_n 2 (fr' := (13, [(0, .ref 0), (1, .int (xs 3)), (2, .int (xs 4)), (3, .int (xs 5))], [.int 9, .int (xs 4)], (ah_w S z f1 f2 f3 g1 g2 0 a b s1 s2 0 0 (fun _ => 0)), true, 0, 0)) rfl ?_
  refine go_ic_gt (t := 23) rfl (fun q2 => absurd q2 h2) (fun q2 => ?_)
  refine go_n 1 (fr' := (17, [(0, .ref 0), (1, .int (xs 3)), (2, .int (xs 4)), (3, .int (xs 5))], [.int (xs 5)], (ah_w S z f1 f2 f3 g1 g2 0 a b s1 s2 0 0 (fun _ => 0)), true, 0, 0)) rfl ?_
  refine go_call (q := 43) (M1 := an_X9_isWard) rfl rfl (by decide) rfl trivial trivial (pl_house_3_5_isWard hk0 hkz hkm hi hj hg1 hg2 hs1 hs2 h1 h2 h3) ?_
  refine go_eq (fr' := (20, [(0, .ref 0), (1, .int (xs 3)), (2, .int (xs 4)), (3, .int (xs 5))], [.int 0], (ah_w S z f1 f2 f3 g1 g2 0 a b s1 s2 0 0 (fun _ => 0)), true, 0, 0)) rfl ?_
  refine go_n 2 (fr' := (24, [(0, .ref 0), (1, .int (xs 3)), (2, .int (xs 4)), (3, .int (xs 5))], [.int 0], (ah_w S z f1 f2 f3 g1 g2 0 a b s1 s2 0 0 (fun _ => 0)), true, 0, 0)) rfl ?_
  refine go_rt (i := .ireturn) (tg := []) rfl ?_
  rfl
set_option maxRecDepth 20000 in
theorem pl_house_3_1_house {xs : Nat → Int32} {S : Nat} {z : Int32} {f1 f2 f3 g1 g2 s1 s2 : Nat → Int32} {a b : Nat} (hk0 : ¬ xs 3 < 0) (hkz : xs 3 < z) (hkm : xs 3 < nI a * nI b) (hi : ai_in (xs 3) S = true) (hj : ai_in (xs 3) 64 = true) (hg1 : g1 (xs 3).toNatClampNeg = -1) (hg2 : g2 (xs 3).toNatClampNeg = -1) (hs1 : s1 (xs 3).toNatClampNeg = -1) (hs2 : s2 (xs 3).toNatClampNeg = -1) (h1 : ¬ xs 4 < 1) (h2 : ¬ 9 < xs 4) (h3 : xs 5 < 0) : ai_Ev an_ms an_lk (8, xs) 35 12 82 [.ref 0, .int (xs 3), .int (xs 4), .int (xs 5), .ref 85] (ah_w S z f1 f2 f3 g1 g2 0 a b s1 s2 0 0 (fun _ => 0)) true (.inl (some (.int 0), (ah_w S z f1 f2 f3 g1 g2 0 a b s1 s2 0 0 (vp_updL (fun _ => 0) 0 0)), true, 0, 0)) := by
  refine ev_of (M := an_L_house) rfl (Nat.le_of_ble_eq_true rfl) ?_
  refine go_n 6 (fr' := (7, [(0, .ref 0), (1, .int (xs 3)), (2, .int (xs 4)), (3, .int (xs 5)), (4, .ref 85)], [.int (xs 5), .int (xs 4), .int (xs 3), .ref 0, .int 0, .ref 85], (ah_w S z f1 f2 f3 g1 g2 0 a b s1 s2 0 0 (fun _ => 0)), true, 0, 0)) rfl ?_
  refine go_call (q := 25) (M1 := an_X9_house) rfl rfl (by decide) rfl ⟨_, rfl⟩ trivial (pl_house_3_2_house hk0 hkz hkm hi hj hg1 hg2 hs1 hs2 h1 h2 h3) ?_
  refine go_eq (fr' := (10, [(0, .ref 0), (1, .int (xs 3)), (2, .int (xs 4)), (3, .int (xs 5)), (4, .ref 85)], [.int 0, .int 0, .ref 85], (ah_w S z f1 f2 f3 g1 g2 0 a b s1 s2 0 0 (fun _ => 0)), true, 0, 0)) rfl ?_
  refine go_n 5 (fr' := (27, [(0, .ref 0), (1, .int (xs 3)), (2, .int (xs 4)), (3, .int (xs 5)), (4, .ref 85)], [.int 0], (ah_w S z f1 f2 f3 g1 g2 0 a b s1 s2 0 0 (vp_updL (fun _ => 0) 0 0)), true, 0, 0)) rfl ?_
  refine go_rt (i := .ireturn) (tg := []) rfl ?_
  rfl
set_option maxRecDepth 20000 in
theorem pl_house_3_7_isCell {xs : Nat → Int32} {S : Nat} {z : Int32} {f1 f2 f3 g1 g2 s1 s2 : Nat → Int32} {a b : Nat} (hk0 : ¬ xs 3 < 0) (hkz : xs 3 < z) (hkm : xs 3 < nI a * nI b) (hi : ai_in (xs 3) S = true) (hj : ai_in (xs 3) 64 = true) (hg1 : g1 (xs 3).toNatClampNeg = -1) (hg2 : g2 (xs 3).toNatClampNeg = -1) (hs1 : s1 (xs 3).toNatClampNeg = -1) (hs2 : s2 (xs 3).toNatClampNeg = -1) (h1 : ¬ xs 4 < 1) (h2 : ¬ 9 < xs 4) (h3 : xs 5 < 0) : ai_Ev an_ms an_lk (8, xs) 35 11 54 [.ref 49, .int (xs 3)] (ah_w S z f1 f2 f3 g1 g2 0 a b s1 s2 0 0 (vp_updL (fun _ => 0) 0 0)) true (.inl (some (.int 1), (ah_w S z f1 f2 f3 g1 g2 0 a b s1 s2 0 0 (vp_updL (fun _ => 0) 0 0)), true, 0, 0)) := by
  refine ev_of (M := an_X10_isCell) rfl (Nat.le_of_ble_eq_true rfl) ?_
  refine go_n 1 (fr' := (1, [(0, .ref 49), (1, .int (xs 3))], [.int (xs 3)], (ah_w S z f1 f2 f3 g1 g2 0 a b s1 s2 0 0 (vp_updL (fun _ => 0) 0 0)), true, 0, 0)) rfl ?_
  refine go_if_lt (t := 21) rfl (fun q1 => absurd q1 hk0) (fun q1 => ?_)
  refine go_n 2 (fr' := (6, [(0, .ref 49), (1, .int (xs 3))], [.ref 49, .int (xs 3)], (ah_w S z f1 f2 f3 g1 g2 0 a b s1 s2 0 0 (vp_updL (fun _ => 0) 0 0)), true, 0, 0)) rfl ?_
  refine go_get rfl rfl rfl rfl ?_
  refine go_n 1 (fr' := (10, [(0, .ref 49), (1, .int (xs 3))], [.ref 49, .int (nI a), .int (xs 3)], (ah_w S z f1 f2 f3 g1 g2 0 a b s1 s2 0 0 (vp_updL (fun _ => 0) 0 0)), true, 0, 0)) rfl ?_
  refine go_get rfl rfl rfl rfl ?_
  refine go_n 1 (fr' := (14, [(0, .ref 49), (1, .int (xs 3))], [.int ((nI a) * (nI b)), .int (xs 3)], (ah_w S z f1 f2 f3 g1 g2 0 a b s1 s2 0 0 (vp_updL (fun _ => 0) 0 0)), true, 0, 0)) rfl ?_
  refine go_ic_ge (t := 21) rfl (fun q2 => absurd q2 (Int32.not_le.mpr hkm)) (fun q2 => ?_)
  refine go_n 2 (fr' := (22, [(0, .ref 49), (1, .int (xs 3))], [.int 1], (ah_w S z f1 f2 f3 g1 g2 0 a b s1 s2 0 0 (vp_updL (fun _ => 0) 0 0)), true, 0, 0)) rfl ?_
  refine go_rt (i := .ireturn) (tg := []) rfl ?_
  rfl
set_option maxRecDepth 20000 in
theorem pl_house_3_6_house {xs : Nat → Int32} {S : Nat} {z : Int32} {f1 f2 f3 g1 g2 s1 s2 : Nat → Int32} {a b : Nat} (hk0 : ¬ xs 3 < 0) (hkz : xs 3 < z) (hkm : xs 3 < nI a * nI b) (hi : ai_in (xs 3) S = true) (hj : ai_in (xs 3) 64 = true) (hg1 : g1 (xs 3).toNatClampNeg = -1) (hg2 : g2 (xs 3).toNatClampNeg = -1) (hs1 : s1 (xs 3).toNatClampNeg = -1) (hs2 : s2 (xs 3).toNatClampNeg = -1) (h1 : ¬ xs 4 < 1) (h2 : ¬ 9 < xs 4) (h3 : xs 5 < 0) : ai_Ev an_ms an_lk (8, xs) 35 12 56 [.ref 49, .int (xs 3), .int (xs 4), .int (xs 5)] (ah_w S z f1 f2 f3 g1 g2 0 a b s1 s2 0 0 (vp_updL (fun _ => 0) 0 0)) true (.inl (some (.int 0), (ah_w S z f1 f2 f3 g1 g2 0 a b s1 s2 0 0 (vp_updL (fun _ => 0) 0 0)), true, 0, 0)) := by
  refine ev_of (M := an_X10_house) rfl (Nat.le_of_ble_eq_true rfl) ?_
  refine go_n 2 (fr' := (2, [(0, .ref 49), (1, .int (xs 3)), (2, .int (xs 4)), (3, .int (xs 5))], [.int 0, .ref 49], (ah_w S z f1 f2 f3 g1 g2 0 a b s1 s2 0 0 (vp_updL (fun _ => 0) 0 0)), true, 0, 0)) rfl ?_
  refine go_put rfl rfl rfl (Nat.le_of_ble_eq_true rfl) rfl ?_
  refine go_n 2 (fr' := (7, [(0, .ref 49), (1, .int (xs 3)), (2, .int (xs 4)), (3, .int (xs 5))], [.int (xs 3), .ref 49], (ah_w S z f1 f2 f3 g1 g2 0 a b s1 s2 0 0 (vp_updL (fun _ => 0) 0 0)), true, 0, 0)) rfl ?_
  refine go_call (q := 54) (M1 := an_X10_isCell) rfl rfl (by decide) rfl ⟨_, rfl⟩ trivial (pl_house_3_7_isCell hk0 hkz hkm hi hj hg1 hg2 hs1 hs2 h1 h2 h3) ?_
  refine go_eq (fr' := (10, [(0, .ref 49), (1, .int (xs 3)), (2, .int (xs 4)), (3, .int (xs 5))], [.int 1], (ah_w S z f1 f2 f3 g1 g2 0 a b s1 s2 0 0 (vp_updL (fun _ => 0) 0 0)), true, 0, 0)) rfl ?_
  refine go_n 2 (fr' := (21, [(0, .ref 49), (1, .int (xs 3)), (2, .int (xs 4)), (3, .int (xs 5))], [.ref 49], (ah_w S z f1 f2 f3 g1 g2 0 a b s1 s2 0 0 (vp_updL (fun _ => 0) 0 0)), true, 0, 0)) rfl ?_
  refine go_get rfl rfl rfl rfl ?_
  refine go_n 1 (fr' := (25, [(0, .ref 49), (1, .int (xs 3)), (2, .int (xs 4)), (3, .int (xs 5))], [.int (xs 3), .ref 58], (ah_w S z f1 f2 f3 g1 g2 0 a b s1 s2 0 0 (vp_updL (fun _ => 0) 0 0)), true, 0, 0)) rfl ?_
  refine go_zal rfl rfl hj ?_
  refine go_n 2 (fr' := (30, [(0, .ref 49), (1, .int (xs 3)), (2, .int (xs 4)), (3, .int (xs 5))], [.ref 49], (ah_w S z f1 f2 f3 g1 g2 0 a b s1 s2 0 0 (vp_updL (fun _ => 0) 0 0)), true, 0, 0)) rfl ?_
  refine go_get rfl rfl rfl rfl ?_
  refine go_n 1 (fr' := (34, [(0, .ref 49), (1, .int (xs 3)), (2, .int (xs 4)), (3, .int (xs 5))], [.int (xs 3), .ref 51], (ah_w S z f1 f2 f3 g1 g2 0 a b s1 s2 0 0 (vp_updL (fun _ => 0) 0 0)), true, 0, 0)) rfl ?_
  refine go_ial rfl (by decide) rfl hj ?_
  rw [hs1]
  refine go_n 2 (fr' := (39, [(0, .ref 49), (1, .int (xs 3)), (2, .int (xs 4)), (3, .int (xs 5))], [.ref 49], (ah_w S z f1 f2 f3 g1 g2 0 a b s1 s2 0 0 (vp_updL (fun _ => 0) 0 0)), true, 0, 0)) rfl ?_
  refine go_get rfl rfl rfl rfl ?_
  refine go_n 1 (fr' := (43, [(0, .ref 49), (1, .int (xs 3)), (2, .int (xs 4)), (3, .int (xs 5))], [.int (xs 3), .ref 51], (ah_w S z f1 f2 f3 g1 g2 0 a b s1 s2 0 0 (vp_updL (fun _ => 0) 0 0)), true, 0, 0)) rfl ?_
  refine go_ial rfl (by decide) rfl hj ?_
  rw [hs1]
  refine go_n 4 (fr' := (50, [(0, .ref 49), (1, .int (xs 3)), (2, .int (xs 4)), (3, .int (xs 5))], [.int 1, .int (xs 4)], (ah_w S z f1 f2 f3 g1 g2 0 a b s1 s2 0 0 (vp_updL (fun _ => 0) 0 0)), true, 0, 0)) rfl ?_
  refine go_ic_lt (t := 69) rfl (fun q1 => absurd q1 h1) (fun q1 => ?_)
  refine go_n 2 (fr' := (56, [(0, .ref 49), (1, .int (xs 3)), (2, .int (xs 4)), (3, .int (xs 5))], [.int 9, .int (xs 4)], (ah_w S z f1 f2 f3 g1 g2 0 a b s1 s2 0 0 (vp_updL (fun _ => 0) 0 0)), true, 0, 0)) rfl ?_
  refine go_ic_gt (t := 69) rfl (fun q2 => absurd q2 h2) (fun q2 => ?_)
  refine go_n 1 (fr' := (60, [(0, .ref 49), (1, .int (xs 3)), (2, .int (xs 4)), (3, .int (xs 5))], [.int (xs 5)], (ah_w S z f1 f2 f3 g1 g2 0 a b s1 s2 0 0 (vp_updL (fun _ => 0) 0 0)), true, 0, 0)) rfl ?_
  refine go_if_lt (t := 69) rfl (fun q3 => ?_) (fun q3 => absurd h3 q3)
  refine go_n 1 (fr' := (70, [(0, .ref 49), (1, .int (xs 3)), (2, .int (xs 4)), (3, .int (xs 5))], [.int 0], (ah_w S z f1 f2 f3 g1 g2 0 a b s1 s2 0 0 (vp_updL (fun _ => 0) 0 0)), true, 0, 0)) rfl ?_
  refine go_rt (i := .ireturn) (tg := []) rfl ?_
  rfl
set_option maxRecDepth 20000 in
theorem pl_house_3_8_thrown {xs : Nat → Int32} {S : Nat} {z : Int32} {f1 f2 f3 g1 g2 s1 s2 : Nat → Int32} {a b : Nat} (hk0 : ¬ xs 3 < 0) (hkz : xs 3 < z) (hkm : xs 3 < nI a * nI b) (hi : ai_in (xs 3) S = true) (hj : ai_in (xs 3) 64 = true) (hg1 : g1 (xs 3).toNatClampNeg = -1) (hg2 : g2 (xs 3).toNatClampNeg = -1) (hs1 : s1 (xs 3).toNatClampNeg = -1) (hs2 : s2 (xs 3).toNatClampNeg = -1) (h1 : ¬ xs 4 < 1) (h2 : ¬ 9 < xs 4) (h3 : xs 5 < 0) : ai_Ev an_ms an_lk (8, xs) 35 12 52 [.ref 49] (ah_w S z f1 f2 f3 g1 g2 0 a b s1 s2 0 0 (vp_updL (fun _ => 0) 0 0)) true (.inl (some (.int 0), (ah_w S z f1 f2 f3 g1 g2 0 a b s1 s2 0 0 (vp_updL (fun _ => 0) 0 0)), true, 0, 0)) := by
  refine ev_of (M := an_X10_thrown) rfl (Nat.le_of_ble_eq_true rfl) ?_
  refine go_n 1 (fr' := (1, [(0, .ref 49)], [.ref 49], (ah_w S z f1 f2 f3 g1 g2 0 a b s1 s2 0 0 (vp_updL (fun _ => 0) 0 0)), true, 0, 0)) rfl ?_
  refine go_get rfl rfl rfl rfl ?_
  refine go_rt (i := .ireturn) (tg := []) rfl ?_
  rfl
set_option maxRecDepth 20000 in
theorem pl_house_3 {xs : Nat → Int32} {S : Nat} {z : Int32} {f1 f2 f3 g1 g2 s1 s2 : Nat → Int32} {a b : Nat} {ns : Nat} (hk0 : ¬ xs 3 < 0) (hkz : xs 3 < z) (hkm : xs 3 < nI a * nI b) (hi : ai_in (xs 3) S = true) (hj : ai_in (xs 3) 64 = true) (hg1 : g1 (xs 3).toNatClampNeg = -1) (hg2 : g2 (xs 3).toNatClampNeg = -1) (hs1 : s1 (xs 3).toNatClampNeg = -1) (hs2 : s2 (xs 3).toNatClampNeg = -1) (h1 : ¬ xs 4 < 1) (h2 : ¬ 9 < xs 4) (h3 : xs 5 < 0) : pl_ok xs (140, [(0, .ref 1000000), (1, .ref 0), (2, .ref 49), (3, .ref 85), (4, .int 2)], [], (ah_w S z f1 f2 f3 g1 g2 0 a b s1 s2 0 0 (fun _ => 0)), true, 86, ns) ns := by
  refine pl_mk (h' := (ah_w S z f1 f2 f3 g1 g2 0 a b s1 s2 0 0 (vp_updL (fun _ => 0) 0 0))) (ex' := true) (nc := 86) (ns' := ns) ?_ (by omega) (by omega)
  refine go_n 17 (fr' := (160, [(0, .ref 1000000), (1, .ref 0), (2, .ref 49), (3, .ref 85), (4, .int 2)], [.ref 85, .int (xs 5), .int (xs 4), .int (xs 3), .ref 0], (ah_w S z f1 f2 f3 g1 g2 0 a b s1 s2 0 0 (fun _ => 0)), true, 86, ns)) rfl ?_
  refine go_call (q := 82) (M1 := an_L_house) rfl rfl (by decide) rfl trivial trivial (pl_house_3_1_house hk0 hkz hkm hi hj hg1 hg2 hs1 hs2 h1 h2 h3) ?_
  refine go_eq (fr' := (163, [(0, .ref 1000000), (1, .ref 0), (2, .ref 49), (3, .ref 85), (4, .int 2)], [.int 0], (ah_w S z f1 f2 f3 g1 g2 0 a b s1 s2 0 0 (vp_updL (fun _ => 0) 0 0)), true, 86, ns)) rfl ?_
  refine go_n 17 (fr' := (184, [(0, .ref 1000000), (1, .ref 0), (2, .ref 49), (3, .ref 85), (4, .int 2), (5, .int 0)], [.int (xs 5), .int (xs 4), .int (xs 3), .ref 49], (ah_w S z f1 f2 f3 g1 g2 0 a b s1 s2 0 0 (vp_updL (fun _ => 0) 0 0)), true, 86, ns)) rfl ?_
  refine go_call (q := 56) (M1 := an_X10_house) rfl rfl (by decide) rfl ⟨_, rfl⟩ trivial (pl_house_3_6_house hk0 hkz hkm hi hj hg1 hg2 hs1 hs2 h1 h2 h3) ?_
  refine go_eq (fr' := (187, [(0, .ref 1000000), (1, .ref 0), (2, .ref 49), (3, .ref 85), (4, .int 2), (5, .int 0)], [.int 0], (ah_w S z f1 f2 f3 g1 g2 0 a b s1 s2 0 0 (vp_updL (fun _ => 0) 0 0)), true, 86, ns)) rfl ?_
  refine go_n 2 (fr' := (190, [(0, .ref 1000000), (1, .ref 0), (2, .ref 49), (3, .ref 85), (4, .int 2), (5, .int 0), (6, .int 0)], [.ref 49], (ah_w S z f1 f2 f3 g1 g2 0 a b s1 s2 0 0 (vp_updL (fun _ => 0) 0 0)), true, 86, ns)) rfl ?_
  refine go_call (q := 52) (M1 := an_X10_thrown) rfl rfl (by decide) rfl ⟨_, rfl⟩ trivial (pl_house_3_8_thrown hk0 hkz hkm hi hj hg1 hg2 hs1 hs2 h1 h2 h3) ?_
  refine go_eq (fr' := (193, [(0, .ref 1000000), (1, .ref 0), (2, .ref 49), (3, .ref 85), (4, .int 2), (5, .int 0), (6, .int 0)], [.int 0], (ah_w S z f1 f2 f3 g1 g2 0 a b s1 s2 0 0 (vp_updL (fun _ => 0) 0 0)), true, 86, ns)) rfl ?_
  refine go_n 11 (fr' := (219, [(0, .ref 1000000), (1, .ref 0), (2, .ref 49), (3, .ref 85), (4, .int 2), (5, .int 0), (6, .int 0)], [.int (lg_cmp 0 0)], (ah_w S z f1 f2 f3 g1 g2 0 a b s1 s2 0 0 (vp_updL (fun _ => 0) 0 0)), true, 86, ns)) rfl ?_
  refine go_if_eq (t := 224) rfl (fun q1 => ?_) (fun q1 => absurd (lg_self _) q1)
  refine go_n 1 (fr' := (1174, [(0, .ref 1000000), (1, .ref 0), (2, .ref 49), (3, .ref 85), (4, .int 2), (5, .int 0), (6, .int 0)], [], (ah_w S z f1 f2 f3 g1 g2 0 a b s1 s2 0 0 (vp_updL (fun _ => 0) 0 0)), true, 86, ns)) rfl ?_
  exact pl_end2
set_option maxRecDepth 20000 in
theorem pl_house_4_4_has {xs : Nat → Int32} {S : Nat} {z : Int32} {f1 f2 f3 g1 g2 s1 s2 : Nat → Int32} {a b : Nat} (hk0 : ¬ xs 3 < 0) (hkz : xs 3 < z) (hkm : xs 3 < nI a * nI b) (hi : ai_in (xs 3) S = true) (hj : ai_in (xs 3) 64 = true) (hg1 : g1 (xs 3).toNatClampNeg = -1) (hg2 : g2 (xs 3).toNatClampNeg = -1) (hs1 : s1 (xs 3).toNatClampNeg = -1) (hs2 : s2 (xs 3).toNatClampNeg = -1) (h1 : ¬ xs 4 < 1) (h2 : ¬ 9 < xs 4) (h3 : ¬ xs 5 < 0) (h4 : 7 < xs 5) : ai_Ev an_ms an_lk (8, xs) 35 9 2 [.ref 1, .int (xs 3)] (ah_w S z f1 f2 f3 g1 g2 0 a b s1 s2 0 0 (fun _ => 0)) true (.inl (some (.int 1), (ah_w S z f1 f2 f3 g1 g2 0 a b s1 s2 0 0 (fun _ => 0)), true, 0, 0)) := by
  refine ev_of (M := an_X0_has) rfl (Nat.le_of_ble_eq_true rfl) ?_
  refine go_n 1 (fr' := (1, [(0, .ref 1), (1, .int (xs 3))], [.int (xs 3)], (ah_w S z f1 f2 f3 g1 g2 0 a b s1 s2 0 0 (fun _ => 0)), true, 0, 0)) rfl ?_
  refine go_if_lt (t := 16) rfl (fun q1 => absurd q1 hk0) (fun q1 => ?_)
  refine go_n 2 (fr' := (6, [(0, .ref 1), (1, .int (xs 3))], [.ref 1, .int (xs 3)], (ah_w S z f1 f2 f3 g1 g2 0 a b s1 s2 0 0 (fun _ => 0)), true, 0, 0)) rfl ?_
  refine go_get rfl rfl rfl rfl ?_
  refine go_ic_ge (t := 16) rfl (fun q2 => absurd q2 (Int32.not_le.mpr hkz)) (fun q2 => ?_)
  refine go_n 2 (fr' := (17, [(0, .ref 1), (1, .int (xs 3))], [.int 1], (ah_w S z f1 f2 f3 g1 g2 0 a b s1 s2 0 0 (fun _ => 0)), true, 0, 0)) rfl ?_
  refine go_rt (i := .ireturn) (tg := []) rfl ?_
  rfl
set_option maxRecDepth 20000 in
theorem pl_house_4_3_needCell {xs : Nat → Int32} {S : Nat} {z : Int32} {f1 f2 f3 g1 g2 s1 s2 : Nat → Int32} {a b : Nat} (hk0 : ¬ xs 3 < 0) (hkz : xs 3 < z) (hkm : xs 3 < nI a * nI b) (hi : ai_in (xs 3) S = true) (hj : ai_in (xs 3) 64 = true) (hg1 : g1 (xs 3).toNatClampNeg = -1) (hg2 : g2 (xs 3).toNatClampNeg = -1) (hs1 : s1 (xs 3).toNatClampNeg = -1) (hs2 : s2 (xs 3).toNatClampNeg = -1) (h1 : ¬ xs 4 < 1) (h2 : ¬ 9 < xs 4) (h3 : ¬ xs 5 < 0) (h4 : 7 < xs 5) : ai_Ev an_ms an_lk (8, xs) 35 10 41 [.ref 0, .int (xs 3)] (ah_w S z f1 f2 f3 g1 g2 0 a b s1 s2 0 0 (fun _ => 0)) true (.inl (none, (ah_w S z f1 f2 f3 g1 g2 0 a b s1 s2 0 0 (fun _ => 0)), true, 0, 0)) := by
  refine ev_of (M := an_X9_needCell) rfl (Nat.le_of_ble_eq_true rfl) ?_
  refine go_n 1 (fr' := (1, [(0, .ref 0), (1, .int (xs 3))], [.ref 0], (ah_w S z f1 f2 f3 g1 g2 0 a b s1 s2 0 0 (fun _ => 0)), true, 0, 0)) rfl ?_
  refine go_get rfl rfl rfl rfl ?_
  refine go_n 1 (fr' := (5, [(0, .ref 0), (1, .int (xs 3))], [.int (xs 3), .ref 1], (ah_w S z f1 f2 f3 g1 g2 0 a b s1 s2 0 0 (fun _ => 0)), true, 0, 0)) rfl ?_
  refine go_call (q := 2) (M1 := an_X0_has) rfl rfl (by decide) rfl ⟨_, rfl⟩ trivial (pl_house_4_4_has hk0 hkz hkm hi hj hg1 hg2 hs1 hs2 h1 h2 h3 h4) ?_
  refine go_eq (fr' := (8, [(0, .ref 0), (1, .int (xs 3))], [.int 1], (ah_w S z f1 f2 f3 g1 g2 0 a b s1 s2 0 0 (fun _ => 0)), true, 0, 0)) rfl ?_
  refine go_n 1 (fr' := (21, [(0, .ref 0), (1, .int (xs 3))], [], (ah_w S z f1 f2 f3 g1 g2 0 a b s1 s2 0 0 (fun _ => 0)), true, 0, 0)) rfl ?_
  refine go_rt (i := .return_) (tg := []) rfl ?_
  rfl
set_option maxRecDepth 20000 in
theorem pl_house_4_5_isWard {xs : Nat → Int32} {S : Nat} {z : Int32} {f1 f2 f3 g1 g2 s1 s2 : Nat → Int32} {a b : Nat} (hk0 : ¬ xs 3 < 0) (hkz : xs 3 < z) (hkm : xs 3 < nI a * nI b) (hi : ai_in (xs 3) S = true) (hj : ai_in (xs 3) 64 = true) (hg1 : g1 (xs 3).toNatClampNeg = -1) (hg2 : g2 (xs 3).toNatClampNeg = -1) (hs1 : s1 (xs 3).toNatClampNeg = -1) (hs2 : s2 (xs 3).toNatClampNeg = -1) (h1 : ¬ xs 4 < 1) (h2 : ¬ 9 < xs 4) (h3 : ¬ xs 5 < 0) (h4 : 7 < xs 5) : ai_Ev an_ms an_lk (8, xs) 35 10 43 [.int (xs 5)] (ah_w S z f1 f2 f3 g1 g2 0 a b s1 s2 0 0 (fun _ => 0)) true (.inl (some (.int 0), (ah_w S z f1 f2 f3 g1 g2 0 a b s1 s2 0 0 (fun _ => 0)), true, 0, 0)) := by
  refine ev_of (M := an_X9_isWard) rfl (Nat.le_of_ble_eq_true rfl) ?_
  refine go_n 1 (fr' := (1, [(0, .int (xs 5))], [.int (xs 5)], (ah_w S z f1 f2 f3 g1 g2 0 a b s1 s2 0 0 (fun _ => 0)), true, 0, 0)) rfl ?_
  refine go_if_lt (t := 14) rfl (fun q1 => absurd q1 h3) (fun q1 => ?_)
  refine go_n 2 (fr' := (7, [(0, .int (xs 5))], [.int 7, .int (xs 5)], (ah_w S z f1 f2 f3 g1 g2 0 a b s1 s2 0 0 (fun _ => 0)), true, 0, 0)) rfl ?_
  refine go_ic_gt (t := 14) rfl (fun q2 => ?_) (fun q2 => absurd h4 q2)
  refine go_n 1 (fr' := (15, [(0, .int (xs 5))], [.int 0], (ah_w S z f1 f2 f3 g1 g2 0 a b s1 s2 0 0 (fun _ => 0)), true, 0, 0)) rfl ?_
  refine go_rt (i := .ireturn) (tg := []) rfl ?_
  rfl
set_option maxRecDepth 20000 in
theorem pl_house_4_2_house {xs : Nat → Int32} {S : Nat} {z : Int32} {f1 f2 f3 g1 g2 s1 s2 : Nat → Int32} {a b : Nat} (hk0 : ¬ xs 3 < 0) (hkz : xs 3 < z) (hkm : xs 3 < nI a * nI b) (hi : ai_in (xs 3) S = true) (hj : ai_in (xs 3) 64 = true) (hg1 : g1 (xs 3).toNatClampNeg = -1) (hg2 : g2 (xs 3).toNatClampNeg = -1) (hs1 : s1 (xs 3).toNatClampNeg = -1) (hs2 : s2 (xs 3).toNatClampNeg = -1) (h1 : ¬ xs 4 < 1) (h2 : ¬ 9 < xs 4) (h3 : ¬ xs 5 < 0) (h4 : 7 < xs 5) : ai_Ev an_ms an_lk (8, xs) 35 11 25 [.ref 0, .int (xs 3), .int (xs 4), .int (xs 5)] (ah_w S z f1 f2 f3 g1 g2 0 a b s1 s2 0 0 (fun _ => 0)) true (.inl (some (.int 0), (ah_w S z f1 f2 f3 g1 g2 0 a b s1 s2 0 0 (fun _ => 0)), true, 0, 0)) := by
  refine ev_of (M := an_X9_house) rfl (Nat.le_of_ble_eq_true rfl) ?_
  refine go_n 2 (fr' := (2, [(0, .ref 0), (1, .int (xs 3)), (2, .int (xs 4)), (3, .int (xs 5))], [.int (xs 3), .ref 0], (ah_w S z f1 f2 f3 g1 g2 0 a b s1 s2 0 0 (fun _ => 0)), true, 0, 0)) rfl ?_
  refine go_call (q := 41) (M1 := an_X9_needCell) rfl rfl (by decide) rfl ⟨_, rfl⟩ trivial (pl_house_4_3_needCell hk0 hkz hkm hi hj hg1 hg2 hs1 hs2 h1 h2 h3 h4) ?_
  refine go_eq (fr' := (5, [(0, .ref 0), (1, .int (xs 3)), (2, .int (xs 4)), (3, .int (xs 5))], [], (ah_w S z f1 f2 f3 g1 g2 0 a b s1 s2 0 0 (fun _ => 0)), true, 0, 0)) rfl ?_
  refine go_n 2 (fr' := (7, [(0, .ref 0), (1, .int (xs 3)), (2, .int (xs 4)), (3, .int (xs 5))], [.int 1, .int (xs 4)], (ah_w S z f1 f2 f3 g1 g2 0 a b s1 s2 0 0 (fun _ => 0)), true, 0, 0)) rfl ?_
  refine go_ic_lt (t := 23) rfl (fun q1 => absurd q1 h1) (fun q1 => ?_)
  refine go_n 2 (fr' := (13, [(0, .ref 0), (1, .int (xs 3)), (2, .int (xs 4)), (3, .int (xs 5))], [.int 9, .int (xs 4)], (ah_w S z f1 f2 f3 g1 g2 0 a b s1 s2 0 0 (fun _ => 0)), true, 0, 0)) rfl ?_
  refine go_ic_gt (t := 23) rfl (fun q2 => absurd q2 h2) (fun q2 => ?_)
  refine go_n 1 (fr' := (17, [(0, .ref 0), (1, .int (xs 3)), (2, .int (xs 4)), (3, .int (xs 5))], [.int (xs 5)], (ah_w S z f1 f2 f3 g1 g2 0 a b s1 s2 0 0 (fun _ => 0)), true, 0, 0)) rfl ?_
  refine go_call (q := 43) (M1 := an_X9_isWard) rfl rfl (by decide) rfl trivial trivial (pl_house_4_5_isWard hk0 hkz hkm hi hj hg1 hg2 hs1 hs2 h1 h2 h3 h4) ?_
  refine go_eq (fr' := (20, [(0, .ref 0), (1, .int (xs 3)), (2, .int (xs 4)), (3, .int (xs 5))], [.int 0], (ah_w S z f1 f2 f3 g1 g2 0 a b s1 s2 0 0 (fun _ => 0)), true, 0, 0)) rfl ?_
  refine go_n 2 (fr' := (24, [(0, .ref 0), (1, .int (xs 3)), (2, .int (xs 4)), (3, .int (xs 5))], [.int 0], (ah_w S z f1 f2 f3 g1 g2 0 a b s1 s2 0 0 (fun _ => 0)), true, 0, 0)) rfl ?_
  refine go_rt (i := .ireturn) (tg := []) rfl ?_
  rfl
set_option maxRecDepth 20000 in
theorem pl_house_4_1_house {xs : Nat → Int32} {S : Nat} {z : Int32} {f1 f2 f3 g1 g2 s1 s2 : Nat → Int32} {a b : Nat} (hk0 : ¬ xs 3 < 0) (hkz : xs 3 < z) (hkm : xs 3 < nI a * nI b) (hi : ai_in (xs 3) S = true) (hj : ai_in (xs 3) 64 = true) (hg1 : g1 (xs 3).toNatClampNeg = -1) (hg2 : g2 (xs 3).toNatClampNeg = -1) (hs1 : s1 (xs 3).toNatClampNeg = -1) (hs2 : s2 (xs 3).toNatClampNeg = -1) (h1 : ¬ xs 4 < 1) (h2 : ¬ 9 < xs 4) (h3 : ¬ xs 5 < 0) (h4 : 7 < xs 5) : ai_Ev an_ms an_lk (8, xs) 35 12 82 [.ref 0, .int (xs 3), .int (xs 4), .int (xs 5), .ref 85] (ah_w S z f1 f2 f3 g1 g2 0 a b s1 s2 0 0 (fun _ => 0)) true (.inl (some (.int 0), (ah_w S z f1 f2 f3 g1 g2 0 a b s1 s2 0 0 (vp_updL (fun _ => 0) 0 0)), true, 0, 0)) := by
  refine ev_of (M := an_L_house) rfl (Nat.le_of_ble_eq_true rfl) ?_
  refine go_n 6 (fr' := (7, [(0, .ref 0), (1, .int (xs 3)), (2, .int (xs 4)), (3, .int (xs 5)), (4, .ref 85)], [.int (xs 5), .int (xs 4), .int (xs 3), .ref 0, .int 0, .ref 85], (ah_w S z f1 f2 f3 g1 g2 0 a b s1 s2 0 0 (fun _ => 0)), true, 0, 0)) rfl ?_
  refine go_call (q := 25) (M1 := an_X9_house) rfl rfl (by decide) rfl ⟨_, rfl⟩ trivial (pl_house_4_2_house hk0 hkz hkm hi hj hg1 hg2 hs1 hs2 h1 h2 h3 h4) ?_
  refine go_eq (fr' := (10, [(0, .ref 0), (1, .int (xs 3)), (2, .int (xs 4)), (3, .int (xs 5)), (4, .ref 85)], [.int 0, .int 0, .ref 85], (ah_w S z f1 f2 f3 g1 g2 0 a b s1 s2 0 0 (fun _ => 0)), true, 0, 0)) rfl ?_
  refine go_n 5 (fr' := (27, [(0, .ref 0), (1, .int (xs 3)), (2, .int (xs 4)), (3, .int (xs 5)), (4, .ref 85)], [.int 0], (ah_w S z f1 f2 f3 g1 g2 0 a b s1 s2 0 0 (vp_updL (fun _ => 0) 0 0)), true, 0, 0)) rfl ?_
  refine go_rt (i := .ireturn) (tg := []) rfl ?_
  rfl
set_option maxRecDepth 20000 in
theorem pl_house_4_7_isCell {xs : Nat → Int32} {S : Nat} {z : Int32} {f1 f2 f3 g1 g2 s1 s2 : Nat → Int32} {a b : Nat} (hk0 : ¬ xs 3 < 0) (hkz : xs 3 < z) (hkm : xs 3 < nI a * nI b) (hi : ai_in (xs 3) S = true) (hj : ai_in (xs 3) 64 = true) (hg1 : g1 (xs 3).toNatClampNeg = -1) (hg2 : g2 (xs 3).toNatClampNeg = -1) (hs1 : s1 (xs 3).toNatClampNeg = -1) (hs2 : s2 (xs 3).toNatClampNeg = -1) (h1 : ¬ xs 4 < 1) (h2 : ¬ 9 < xs 4) (h3 : ¬ xs 5 < 0) (h4 : 7 < xs 5) : ai_Ev an_ms an_lk (8, xs) 35 11 54 [.ref 49, .int (xs 3)] (ah_w S z f1 f2 f3 g1 g2 0 a b s1 s2 0 0 (vp_updL (fun _ => 0) 0 0)) true (.inl (some (.int 1), (ah_w S z f1 f2 f3 g1 g2 0 a b s1 s2 0 0 (vp_updL (fun _ => 0) 0 0)), true, 0, 0)) := by
  refine ev_of (M := an_X10_isCell) rfl (Nat.le_of_ble_eq_true rfl) ?_
  refine go_n 1 (fr' := (1, [(0, .ref 49), (1, .int (xs 3))], [.int (xs 3)], (ah_w S z f1 f2 f3 g1 g2 0 a b s1 s2 0 0 (vp_updL (fun _ => 0) 0 0)), true, 0, 0)) rfl ?_
  refine go_if_lt (t := 21) rfl (fun q1 => absurd q1 hk0) (fun q1 => ?_)
  refine go_n 2 (fr' := (6, [(0, .ref 49), (1, .int (xs 3))], [.ref 49, .int (xs 3)], (ah_w S z f1 f2 f3 g1 g2 0 a b s1 s2 0 0 (vp_updL (fun _ => 0) 0 0)), true, 0, 0)) rfl ?_
  refine go_get rfl rfl rfl rfl ?_
  refine go_n 1 (fr' := (10, [(0, .ref 49), (1, .int (xs 3))], [.ref 49, .int (nI a), .int (xs 3)], (ah_w S z f1 f2 f3 g1 g2 0 a b s1 s2 0 0 (vp_updL (fun _ => 0) 0 0)), true, 0, 0)) rfl ?_
  refine go_get rfl rfl rfl rfl ?_
  refine go_n 1 (fr' := (14, [(0, .ref 49), (1, .int (xs 3))], [.int ((nI a) * (nI b)), .int (xs 3)], (ah_w S z f1 f2 f3 g1 g2 0 a b s1 s2 0 0 (vp_updL (fun _ => 0) 0 0)), true, 0, 0)) rfl ?_
  refine go_ic_ge (t := 21) rfl (fun q2 => absurd q2 (Int32.not_le.mpr hkm)) (fun q2 => ?_)
  refine go_n 2 (fr' := (22, [(0, .ref 49), (1, .int (xs 3))], [.int 1], (ah_w S z f1 f2 f3 g1 g2 0 a b s1 s2 0 0 (vp_updL (fun _ => 0) 0 0)), true, 0, 0)) rfl ?_
  refine go_rt (i := .ireturn) (tg := []) rfl ?_
  rfl
set_option maxRecDepth 20000 in
theorem pl_house_4_6_house {xs : Nat → Int32} {S : Nat} {z : Int32} {f1 f2 f3 g1 g2 s1 s2 : Nat → Int32} {a b : Nat} (hk0 : ¬ xs 3 < 0) (hkz : xs 3 < z) (hkm : xs 3 < nI a * nI b) (hi : ai_in (xs 3) S = true) (hj : ai_in (xs 3) 64 = true) (hg1 : g1 (xs 3).toNatClampNeg = -1) (hg2 : g2 (xs 3).toNatClampNeg = -1) (hs1 : s1 (xs 3).toNatClampNeg = -1) (hs2 : s2 (xs 3).toNatClampNeg = -1) (h1 : ¬ xs 4 < 1) (h2 : ¬ 9 < xs 4) (h3 : ¬ xs 5 < 0) (h4 : 7 < xs 5) : ai_Ev an_ms an_lk (8, xs) 35 12 56 [.ref 49, .int (xs 3), .int (xs 4), .int (xs 5)] (ah_w S z f1 f2 f3 g1 g2 0 a b s1 s2 0 0 (vp_updL (fun _ => 0) 0 0)) true (.inl (some (.int 0), (ah_w S z f1 f2 f3 g1 g2 0 a b s1 s2 0 0 (vp_updL (fun _ => 0) 0 0)), true, 0, 0)) := by
  refine ev_of (M := an_X10_house) rfl (Nat.le_of_ble_eq_true rfl) ?_
  refine go_n 2 (fr' := (2, [(0, .ref 49), (1, .int (xs 3)), (2, .int (xs 4)), (3, .int (xs 5))], [.int 0, .ref 49], (ah_w S z f1 f2 f3 g1 g2 0 a b s1 s2 0 0 (vp_updL (fun _ => 0) 0 0)), true, 0, 0)) rfl ?_
  refine go_put rfl rfl rfl (Nat.le_of_ble_eq_true rfl) rfl ?_
  refine go_n 2 (fr' := (7, [(0, .ref 49), (1, .int (xs 3)), (2, .int (xs 4)), (3, .int (xs 5))], [.int (xs 3), .ref 49], (ah_w S z f1 f2 f3 g1 g2 0 a b s1 s2 0 0 (vp_updL (fun _ => 0) 0 0)), true, 0, 0)) rfl ?_
  refine go_call (q := 54) (M1 := an_X10_isCell) rfl rfl (by decide) rfl ⟨_, rfl⟩ trivial (pl_house_4_7_isCell hk0 hkz hkm hi hj hg1 hg2 hs1 hs2 h1 h2 h3 h4) ?_
  refine go_eq (fr' := (10, [(0, .ref 49), (1, .int (xs 3)), (2, .int (xs 4)), (3, .int (xs 5))], [.int 1], (ah_w S z f1 f2 f3 g1 g2 0 a b s1 s2 0 0 (vp_updL (fun _ => 0) 0 0)), true, 0, 0)) rfl ?_
  refine go_n 2 (fr' := (21, [(0, .ref 49), (1, .int (xs 3)), (2, .int (xs 4)), (3, .int (xs 5))], [.ref 49], (ah_w S z f1 f2 f3 g1 g2 0 a b s1 s2 0 0 (vp_updL (fun _ => 0) 0 0)), true, 0, 0)) rfl ?_
  refine go_get rfl rfl rfl rfl ?_
  refine go_n 1 (fr' := (25, [(0, .ref 49), (1, .int (xs 3)), (2, .int (xs 4)), (3, .int (xs 5))], [.int (xs 3), .ref 58], (ah_w S z f1 f2 f3 g1 g2 0 a b s1 s2 0 0 (vp_updL (fun _ => 0) 0 0)), true, 0, 0)) rfl ?_
  refine go_zal rfl rfl hj ?_
  refine go_n 2 (fr' := (30, [(0, .ref 49), (1, .int (xs 3)), (2, .int (xs 4)), (3, .int (xs 5))], [.ref 49], (ah_w S z f1 f2 f3 g1 g2 0 a b s1 s2 0 0 (vp_updL (fun _ => 0) 0 0)), true, 0, 0)) rfl ?_
  refine go_get rfl rfl rfl rfl ?_
  refine go_n 1 (fr' := (34, [(0, .ref 49), (1, .int (xs 3)), (2, .int (xs 4)), (3, .int (xs 5))], [.int (xs 3), .ref 51], (ah_w S z f1 f2 f3 g1 g2 0 a b s1 s2 0 0 (vp_updL (fun _ => 0) 0 0)), true, 0, 0)) rfl ?_
  refine go_ial rfl (by decide) rfl hj ?_
  rw [hs1]
  refine go_n 2 (fr' := (39, [(0, .ref 49), (1, .int (xs 3)), (2, .int (xs 4)), (3, .int (xs 5))], [.ref 49], (ah_w S z f1 f2 f3 g1 g2 0 a b s1 s2 0 0 (vp_updL (fun _ => 0) 0 0)), true, 0, 0)) rfl ?_
  refine go_get rfl rfl rfl rfl ?_
  refine go_n 1 (fr' := (43, [(0, .ref 49), (1, .int (xs 3)), (2, .int (xs 4)), (3, .int (xs 5))], [.int (xs 3), .ref 51], (ah_w S z f1 f2 f3 g1 g2 0 a b s1 s2 0 0 (vp_updL (fun _ => 0) 0 0)), true, 0, 0)) rfl ?_
  refine go_ial rfl (by decide) rfl hj ?_
  rw [hs1]
  refine go_n 4 (fr' := (50, [(0, .ref 49), (1, .int (xs 3)), (2, .int (xs 4)), (3, .int (xs 5))], [.int 1, .int (xs 4)], (ah_w S z f1 f2 f3 g1 g2 0 a b s1 s2 0 0 (vp_updL (fun _ => 0) 0 0)), true, 0, 0)) rfl ?_
  refine go_ic_lt (t := 69) rfl (fun q1 => absurd q1 h1) (fun q1 => ?_)
  refine go_n 2 (fr' := (56, [(0, .ref 49), (1, .int (xs 3)), (2, .int (xs 4)), (3, .int (xs 5))], [.int 9, .int (xs 4)], (ah_w S z f1 f2 f3 g1 g2 0 a b s1 s2 0 0 (vp_updL (fun _ => 0) 0 0)), true, 0, 0)) rfl ?_
  refine go_ic_gt (t := 69) rfl (fun q2 => absurd q2 h2) (fun q2 => ?_)
  refine go_n 1 (fr' := (60, [(0, .ref 49), (1, .int (xs 3)), (2, .int (xs 4)), (3, .int (xs 5))], [.int (xs 5)], (ah_w S z f1 f2 f3 g1 g2 0 a b s1 s2 0 0 (vp_updL (fun _ => 0) 0 0)), true, 0, 0)) rfl ?_
  refine go_if_lt (t := 69) rfl (fun q3 => absurd q3 h3) (fun q3 => ?_)
  refine go_n 2 (fr' := (66, [(0, .ref 49), (1, .int (xs 3)), (2, .int (xs 4)), (3, .int (xs 5))], [.int 7, .int (xs 5)], (ah_w S z f1 f2 f3 g1 g2 0 a b s1 s2 0 0 (vp_updL (fun _ => 0) 0 0)), true, 0, 0)) rfl ?_
  refine go_ic_le (t := 71) rfl (fun q4 => absurd q4 (Int32.not_le.mpr h4)) (fun q4 => ?_)
  refine go_n 1 (fr' := (70, [(0, .ref 49), (1, .int (xs 3)), (2, .int (xs 4)), (3, .int (xs 5))], [.int 0], (ah_w S z f1 f2 f3 g1 g2 0 a b s1 s2 0 0 (vp_updL (fun _ => 0) 0 0)), true, 0, 0)) rfl ?_
  refine go_rt (i := .ireturn) (tg := []) rfl ?_
  rfl
set_option maxRecDepth 20000 in
theorem pl_house_4_8_thrown {xs : Nat → Int32} {S : Nat} {z : Int32} {f1 f2 f3 g1 g2 s1 s2 : Nat → Int32} {a b : Nat} (hk0 : ¬ xs 3 < 0) (hkz : xs 3 < z) (hkm : xs 3 < nI a * nI b) (hi : ai_in (xs 3) S = true) (hj : ai_in (xs 3) 64 = true) (hg1 : g1 (xs 3).toNatClampNeg = -1) (hg2 : g2 (xs 3).toNatClampNeg = -1) (hs1 : s1 (xs 3).toNatClampNeg = -1) (hs2 : s2 (xs 3).toNatClampNeg = -1) (h1 : ¬ xs 4 < 1) (h2 : ¬ 9 < xs 4) (h3 : ¬ xs 5 < 0) (h4 : 7 < xs 5) : ai_Ev an_ms an_lk (8, xs) 35 12 52 [.ref 49] (ah_w S z f1 f2 f3 g1 g2 0 a b s1 s2 0 0 (vp_updL (fun _ => 0) 0 0)) true (.inl (some (.int 0), (ah_w S z f1 f2 f3 g1 g2 0 a b s1 s2 0 0 (vp_updL (fun _ => 0) 0 0)), true, 0, 0)) := by
  refine ev_of (M := an_X10_thrown) rfl (Nat.le_of_ble_eq_true rfl) ?_
  refine go_n 1 (fr' := (1, [(0, .ref 49)], [.ref 49], (ah_w S z f1 f2 f3 g1 g2 0 a b s1 s2 0 0 (vp_updL (fun _ => 0) 0 0)), true, 0, 0)) rfl ?_
  refine go_get rfl rfl rfl rfl ?_
  refine go_rt (i := .ireturn) (tg := []) rfl ?_
  rfl
set_option maxRecDepth 20000 in
theorem pl_house_4 {xs : Nat → Int32} {S : Nat} {z : Int32} {f1 f2 f3 g1 g2 s1 s2 : Nat → Int32} {a b : Nat} {ns : Nat} (hk0 : ¬ xs 3 < 0) (hkz : xs 3 < z) (hkm : xs 3 < nI a * nI b) (hi : ai_in (xs 3) S = true) (hj : ai_in (xs 3) 64 = true) (hg1 : g1 (xs 3).toNatClampNeg = -1) (hg2 : g2 (xs 3).toNatClampNeg = -1) (hs1 : s1 (xs 3).toNatClampNeg = -1) (hs2 : s2 (xs 3).toNatClampNeg = -1) (h1 : ¬ xs 4 < 1) (h2 : ¬ 9 < xs 4) (h3 : ¬ xs 5 < 0) (h4 : 7 < xs 5) : pl_ok xs (140, [(0, .ref 1000000), (1, .ref 0), (2, .ref 49), (3, .ref 85), (4, .int 2)], [], (ah_w S z f1 f2 f3 g1 g2 0 a b s1 s2 0 0 (fun _ => 0)), true, 86, ns) ns := by
  refine pl_mk (h' := (ah_w S z f1 f2 f3 g1 g2 0 a b s1 s2 0 0 (vp_updL (fun _ => 0) 0 0))) (ex' := true) (nc := 86) (ns' := ns) ?_ (by omega) (by omega)
  refine go_n 17 (fr' := (160, [(0, .ref 1000000), (1, .ref 0), (2, .ref 49), (3, .ref 85), (4, .int 2)], [.ref 85, .int (xs 5), .int (xs 4), .int (xs 3), .ref 0], (ah_w S z f1 f2 f3 g1 g2 0 a b s1 s2 0 0 (fun _ => 0)), true, 86, ns)) rfl ?_
  refine go_call (q := 82) (M1 := an_L_house) rfl rfl (by decide) rfl trivial trivial (pl_house_4_1_house hk0 hkz hkm hi hj hg1 hg2 hs1 hs2 h1 h2 h3 h4) ?_
  refine go_eq (fr' := (163, [(0, .ref 1000000), (1, .ref 0), (2, .ref 49), (3, .ref 85), (4, .int 2)], [.int 0], (ah_w S z f1 f2 f3 g1 g2 0 a b s1 s2 0 0 (vp_updL (fun _ => 0) 0 0)), true, 86, ns)) rfl ?_
  refine go_n 17 (fr' := (184, [(0, .ref 1000000), (1, .ref 0), (2, .ref 49), (3, .ref 85), (4, .int 2), (5, .int 0)], [.int (xs 5), .int (xs 4), .int (xs 3), .ref 49], (ah_w S z f1 f2 f3 g1 g2 0 a b s1 s2 0 0 (vp_updL (fun _ => 0) 0 0)), true, 86, ns)) rfl ?_
  refine go_call (q := 56) (M1 := an_X10_house) rfl rfl (by decide) rfl ⟨_, rfl⟩ trivial (pl_house_4_6_house hk0 hkz hkm hi hj hg1 hg2 hs1 hs2 h1 h2 h3 h4) ?_
  refine go_eq (fr' := (187, [(0, .ref 1000000), (1, .ref 0), (2, .ref 49), (3, .ref 85), (4, .int 2), (5, .int 0)], [.int 0], (ah_w S z f1 f2 f3 g1 g2 0 a b s1 s2 0 0 (vp_updL (fun _ => 0) 0 0)), true, 86, ns)) rfl ?_
  refine go_n 2 (fr' := (190, [(0, .ref 1000000), (1, .ref 0), (2, .ref 49), (3, .ref 85), (4, .int 2), (5, .int 0), (6, .int 0)], [.ref 49], (ah_w S z f1 f2 f3 g1 g2 0 a b s1 s2 0 0 (vp_updL (fun _ => 0) 0 0)), true, 86, ns)) rfl ?_
  refine go_call (q := 52) (M1 := an_X10_thrown) rfl rfl (by decide) rfl ⟨_, rfl⟩ trivial (pl_house_4_8_thrown hk0 hkz hkm hi hj hg1 hg2 hs1 hs2 h1 h2 h3 h4) ?_
  refine go_eq (fr' := (193, [(0, .ref 1000000), (1, .ref 0), (2, .ref 49), (3, .ref 85), (4, .int 2), (5, .int 0), (6, .int 0)], [.int 0], (ah_w S z f1 f2 f3 g1 g2 0 a b s1 s2 0 0 (vp_updL (fun _ => 0) 0 0)), true, 86, ns)) rfl ?_
  refine go_n 11 (fr' := (219, [(0, .ref 1000000), (1, .ref 0), (2, .ref 49), (3, .ref 85), (4, .int 2), (5, .int 0), (6, .int 0)], [.int (lg_cmp 0 0)], (ah_w S z f1 f2 f3 g1 g2 0 a b s1 s2 0 0 (vp_updL (fun _ => 0) 0 0)), true, 86, ns)) rfl ?_
  refine go_if_eq (t := 224) rfl (fun q1 => ?_) (fun q1 => absurd (lg_self _) q1)
  refine go_n 1 (fr' := (1174, [(0, .ref 1000000), (1, .ref 0), (2, .ref 49), (3, .ref 85), (4, .int 2), (5, .int 0), (6, .int 0)], [], (ah_w S z f1 f2 f3 g1 g2 0 a b s1 s2 0 0 (vp_updL (fun _ => 0) 0 0)), true, 86, ns)) rfl ?_
  exact pl_end2
set_option maxRecDepth 20000 in
theorem pl_house_5_4_has {xs : Nat → Int32} {S : Nat} {z : Int32} {f1 f2 f3 g1 g2 s1 s2 : Nat → Int32} {a b : Nat} (hk0 : ¬ xs 3 < 0) (hkz : xs 3 < z) (hkm : xs 3 < nI a * nI b) (hi : ai_in (xs 3) S = true) (hj : ai_in (xs 3) 64 = true) (hg1 : g1 (xs 3).toNatClampNeg = -1) (hg2 : g2 (xs 3).toNatClampNeg = -1) (hs1 : s1 (xs 3).toNatClampNeg = -1) (hs2 : s2 (xs 3).toNatClampNeg = -1) (h1 : ¬ xs 4 < 1) (h2 : ¬ 9 < xs 4) (h3 : ¬ xs 5 < 0) (h4 : ¬ 7 < xs 5) : ai_Ev an_ms an_lk (8, xs) 35 9 2 [.ref 1, .int (xs 3)] (ah_w S z f1 f2 f3 g1 g2 0 a b s1 s2 0 0 (fun _ => 0)) true (.inl (some (.int 1), (ah_w S z f1 f2 f3 g1 g2 0 a b s1 s2 0 0 (fun _ => 0)), true, 0, 0)) := by
  refine ev_of (M := an_X0_has) rfl (Nat.le_of_ble_eq_true rfl) ?_
  refine go_n 1 (fr' := (1, [(0, .ref 1), (1, .int (xs 3))], [.int (xs 3)], (ah_w S z f1 f2 f3 g1 g2 0 a b s1 s2 0 0 (fun _ => 0)), true, 0, 0)) rfl ?_
  refine go_if_lt (t := 16) rfl (fun q1 => absurd q1 hk0) (fun q1 => ?_)
  refine go_n 2 (fr' := (6, [(0, .ref 1), (1, .int (xs 3))], [.ref 1, .int (xs 3)], (ah_w S z f1 f2 f3 g1 g2 0 a b s1 s2 0 0 (fun _ => 0)), true, 0, 0)) rfl ?_
  refine go_get rfl rfl rfl rfl ?_
  refine go_ic_ge (t := 16) rfl (fun q2 => absurd q2 (Int32.not_le.mpr hkz)) (fun q2 => ?_)
  refine go_n 2 (fr' := (17, [(0, .ref 1), (1, .int (xs 3))], [.int 1], (ah_w S z f1 f2 f3 g1 g2 0 a b s1 s2 0 0 (fun _ => 0)), true, 0, 0)) rfl ?_
  refine go_rt (i := .ireturn) (tg := []) rfl ?_
  rfl
set_option maxRecDepth 20000 in
theorem pl_house_5_3_needCell {xs : Nat → Int32} {S : Nat} {z : Int32} {f1 f2 f3 g1 g2 s1 s2 : Nat → Int32} {a b : Nat} (hk0 : ¬ xs 3 < 0) (hkz : xs 3 < z) (hkm : xs 3 < nI a * nI b) (hi : ai_in (xs 3) S = true) (hj : ai_in (xs 3) 64 = true) (hg1 : g1 (xs 3).toNatClampNeg = -1) (hg2 : g2 (xs 3).toNatClampNeg = -1) (hs1 : s1 (xs 3).toNatClampNeg = -1) (hs2 : s2 (xs 3).toNatClampNeg = -1) (h1 : ¬ xs 4 < 1) (h2 : ¬ 9 < xs 4) (h3 : ¬ xs 5 < 0) (h4 : ¬ 7 < xs 5) : ai_Ev an_ms an_lk (8, xs) 35 10 41 [.ref 0, .int (xs 3)] (ah_w S z f1 f2 f3 g1 g2 0 a b s1 s2 0 0 (fun _ => 0)) true (.inl (none, (ah_w S z f1 f2 f3 g1 g2 0 a b s1 s2 0 0 (fun _ => 0)), true, 0, 0)) := by
  refine ev_of (M := an_X9_needCell) rfl (Nat.le_of_ble_eq_true rfl) ?_
  refine go_n 1 (fr' := (1, [(0, .ref 0), (1, .int (xs 3))], [.ref 0], (ah_w S z f1 f2 f3 g1 g2 0 a b s1 s2 0 0 (fun _ => 0)), true, 0, 0)) rfl ?_
  refine go_get rfl rfl rfl rfl ?_
  refine go_n 1 (fr' := (5, [(0, .ref 0), (1, .int (xs 3))], [.int (xs 3), .ref 1], (ah_w S z f1 f2 f3 g1 g2 0 a b s1 s2 0 0 (fun _ => 0)), true, 0, 0)) rfl ?_
  refine go_call (q := 2) (M1 := an_X0_has) rfl rfl (by decide) rfl ⟨_, rfl⟩ trivial (pl_house_5_4_has hk0 hkz hkm hi hj hg1 hg2 hs1 hs2 h1 h2 h3 h4) ?_
  refine go_eq (fr' := (8, [(0, .ref 0), (1, .int (xs 3))], [.int 1], (ah_w S z f1 f2 f3 g1 g2 0 a b s1 s2 0 0 (fun _ => 0)), true, 0, 0)) rfl ?_
  refine go_n 1 (fr' := (21, [(0, .ref 0), (1, .int (xs 3))], [], (ah_w S z f1 f2 f3 g1 g2 0 a b s1 s2 0 0 (fun _ => 0)), true, 0, 0)) rfl ?_
  refine go_rt (i := .return_) (tg := []) rfl ?_
  rfl
set_option maxRecDepth 20000 in
theorem pl_house_5_5_isWard {xs : Nat → Int32} {S : Nat} {z : Int32} {f1 f2 f3 g1 g2 s1 s2 : Nat → Int32} {a b : Nat} (hk0 : ¬ xs 3 < 0) (hkz : xs 3 < z) (hkm : xs 3 < nI a * nI b) (hi : ai_in (xs 3) S = true) (hj : ai_in (xs 3) 64 = true) (hg1 : g1 (xs 3).toNatClampNeg = -1) (hg2 : g2 (xs 3).toNatClampNeg = -1) (hs1 : s1 (xs 3).toNatClampNeg = -1) (hs2 : s2 (xs 3).toNatClampNeg = -1) (h1 : ¬ xs 4 < 1) (h2 : ¬ 9 < xs 4) (h3 : ¬ xs 5 < 0) (h4 : ¬ 7 < xs 5) : ai_Ev an_ms an_lk (8, xs) 35 10 43 [.int (xs 5)] (ah_w S z f1 f2 f3 g1 g2 0 a b s1 s2 0 0 (fun _ => 0)) true (.inl (some (.int 1), (ah_w S z f1 f2 f3 g1 g2 0 a b s1 s2 0 0 (fun _ => 0)), true, 0, 0)) := by
  refine ev_of (M := an_X9_isWard) rfl (Nat.le_of_ble_eq_true rfl) ?_
  refine go_n 1 (fr' := (1, [(0, .int (xs 5))], [.int (xs 5)], (ah_w S z f1 f2 f3 g1 g2 0 a b s1 s2 0 0 (fun _ => 0)), true, 0, 0)) rfl ?_
  refine go_if_lt (t := 14) rfl (fun q1 => absurd q1 h3) (fun q1 => ?_)
  refine go_n 2 (fr' := (7, [(0, .int (xs 5))], [.int 7, .int (xs 5)], (ah_w S z f1 f2 f3 g1 g2 0 a b s1 s2 0 0 (fun _ => 0)), true, 0, 0)) rfl ?_
  refine go_ic_gt (t := 14) rfl (fun q2 => absurd q2 h4) (fun q2 => ?_)
  refine go_n 2 (fr' := (15, [(0, .int (xs 5))], [.int 1], (ah_w S z f1 f2 f3 g1 g2 0 a b s1 s2 0 0 (fun _ => 0)), true, 0, 0)) rfl ?_
  refine go_rt (i := .ireturn) (tg := []) rfl ?_
  rfl
set_option maxRecDepth 20000 in
theorem pl_house_5_6_build {xs : Nat → Int32} {S : Nat} {z : Int32} {f1 f2 f3 g1 g2 s1 s2 : Nat → Int32} {a b : Nat} (hk0 : ¬ xs 3 < 0) (hkz : xs 3 < z) (hkm : xs 3 < nI a * nI b) (hi : ai_in (xs 3) S = true) (hj : ai_in (xs 3) 64 = true) (hg1 : g1 (xs 3).toNatClampNeg = -1) (hg2 : g2 (xs 3).toNatClampNeg = -1) (hs1 : s1 (xs 3).toNatClampNeg = -1) (hs2 : s2 (xs 3).toNatClampNeg = -1) (h1 : ¬ xs 4 < 1) (h2 : ¬ 9 < xs 4) (h3 : ¬ xs 5 < 0) (h4 : ¬ 7 < xs 5) : ai_Ev an_ms an_lk (8, xs) 35 10 3 [.ref 1, .int (xs 3), .int (xs 4), .int (xs 5)] (ah_w S z f1 f2 f3 g1 g2 0 a b s1 s2 0 0 (fun _ => 0)) true (.inl (some (.int 1), (((((((((ah_w S z f1 f2 f3 g1 g2 0 a b s1 s2 0 0 (fun _ => 0)) : ai_H).set 5 (.inl (0, S, .inl (upd g1 (xs 3).toNatClampNeg 0)))) : ai_H).set 6 (.inl (0, S, .inl (upd (fun _ => 0) (xs 3).toNatClampNeg (xs 4))))) : ai_H).set 7 (.inl (0, S, .inl (upd (fun _ => 0) (xs 3).toNatClampNeg (xs 5))))) : ai_H).set 8 (.inl (0, S, .inl (upd (fun _ => 0) (xs 3).toNatClampNeg (xs 4))))), true, 0, 0)) := by
  refine ev_of (M := an_X0_build) rfl (Nat.le_of_ble_eq_true rfl) ?_
  refine go_n 1 (fr' := (1, [(0, .ref 1), (1, .int (xs 3)), (2, .int (xs 4)), (3, .int (xs 5))], [.ref 1], (ah_w S z f1 f2 f3 g1 g2 0 a b s1 s2 0 0 (fun _ => 0)), true, 0, 0)) rfl ?_
  refine go_get rfl rfl rfl rfl ?_
  refine go_n 1 (fr' := (5, [(0, .ref 1), (1, .int (xs 3)), (2, .int (xs 4)), (3, .int (xs 5))], [.int (xs 3), .ref 12], (ah_w S z f1 f2 f3 g1 g2 0 a b s1 s2 0 0 (fun _ => 0)), true, 0, 0)) rfl ?_
  refine go_zal rfl rfl hi ?_
  refine go_n 2 (fr' := (10, [(0, .ref 1), (1, .int (xs 3)), (2, .int (xs 4)), (3, .int (xs 5))], [.ref 1], (ah_w S z f1 f2 f3 g1 g2 0 a b s1 s2 0 0 (fun _ => 0)), true, 0, 0)) rfl ?_
  refine go_get rfl rfl rfl rfl ?_
  refine go_n 1 (fr' := (14, [(0, .ref 1), (1, .int (xs 3)), (2, .int (xs 4)), (3, .int (xs 5))], [.int (xs 3), .ref 5], (ah_w S z f1 f2 f3 g1 g2 0 a b s1 s2 0 0 (fun _ => 0)), true, 0, 0)) rfl ?_
  refine go_ial rfl (by decide) rfl hi ?_
  rw [hg1]
  refine go_n 2 (fr' := (19, [(0, .ref 1), (1, .int (xs 3)), (2, .int (xs 4)), (3, .int (xs 5))], [.ref 1], (ah_w S z f1 f2 f3 g1 g2 0 a b s1 s2 0 0 (fun _ => 0)), true, 0, 0)) rfl ?_
  refine go_get rfl rfl rfl rfl ?_
  refine go_n 1 (fr' := (23, [(0, .ref 1), (1, .int (xs 3)), (2, .int (xs 4)), (3, .int (xs 5))], [.int (xs 3), .ref 5], (ah_w S z f1 f2 f3 g1 g2 0 a b s1 s2 0 0 (fun _ => 0)), true, 0, 0)) rfl ?_
  refine go_ial rfl (by decide) rfl hi ?_
  rw [hg1]
  refine go_n 3 (fr' := (31, [(0, .ref 1), (1, .int (xs 3)), (2, .int (xs 4)), (3, .int (xs 5))], [.ref 1], (ah_w S z f1 f2 f3 g1 g2 0 a b s1 s2 0 0 (fun _ => 0)), true, 0, 0)) rfl ?_
  refine go_get rfl rfl rfl rfl ?_
  refine go_n 2 (fr' := (36, [(0, .ref 1), (1, .int (xs 3)), (2, .int (xs 4)), (3, .int (xs 5))], [.int 0, .int (xs 3), .ref 5], (ah_w S z f1 f2 f3 g1 g2 0 a b s1 s2 0 0 (fun _ => 0)), true, 0, 0)) rfl ?_
  refine go_ias rfl rfl hi ?_
  refine go_n 1 (fr' := (38, [(0, .ref 1), (1, .int (xs 3)), (2, .int (xs 4)), (3, .int (xs 5))], [.ref 1], (((ah_w S z f1 f2 f3 g1 g2 0 a b s1 s2 0 0 (fun _ => 0)) : ai_H).set 5 (.inl (0, S, .inl (upd g1 (xs 3).toNatClampNeg 0)))), true, 0, 0)) rfl ?_
  refine go_get rfl rfl rfl rfl ?_
  refine go_n 2 (fr' := (43, [(0, .ref 1), (1, .int (xs 3)), (2, .int (xs 4)), (3, .int (xs 5))], [.int (xs 4), .int (xs 3), .ref 6], (((ah_w S z f1 f2 f3 g1 g2 0 a b s1 s2 0 0 (fun _ => 0)) : ai_H).set 5 (.inl (0, S, .inl (upd g1 (xs 3).toNatClampNeg 0)))), true, 0, 0)) rfl ?_
  refine go_ias rfl rfl hi ?_
  refine go_n 1 (fr' := (45, [(0, .ref 1), (1, .int (xs 3)), (2, .int (xs 4)), (3, .int (xs 5))], [.ref 1], (((((ah_w S z f1 f2 f3 g1 g2 0 a b s1 s2 0 0 (fun _ => 0)) : ai_H).set 5 (.inl (0, S, .inl (upd g1 (xs 3).toNatClampNeg 0)))) : ai_H).set 6 (.inl (0, S, .inl (upd (fun _ => 0) (xs 3).toNatClampNeg (xs 4))))), true, 0, 0)) rfl ?_
  refine go_get rfl rfl rfl rfl ?_
  refine go_n 2 (fr' := (50, [(0, .ref 1), (1, .int (xs 3)), (2, .int (xs 4)), (3, .int (xs 5))], [.int (xs 5), .int (xs 3), .ref 7], (((((ah_w S z f1 f2 f3 g1 g2 0 a b s1 s2 0 0 (fun _ => 0)) : ai_H).set 5 (.inl (0, S, .inl (upd g1 (xs 3).toNatClampNeg 0)))) : ai_H).set 6 (.inl (0, S, .inl (upd (fun _ => 0) (xs 3).toNatClampNeg (xs 4))))), true, 0, 0)) rfl ?_
  refine go_ias rfl rfl hi ?_
  refine go_n 1 (fr' := (52, [(0, .ref 1), (1, .int (xs 3)), (2, .int (xs 4)), (3, .int (xs 5))], [.ref 1], (((((((ah_w S z f1 f2 f3 g1 g2 0 a b s1 s2 0 0 (fun _ => 0)) : ai_H).set 5 (.inl (0, S, .inl (upd g1 (xs 3).toNatClampNeg 0)))) : ai_H).set 6 (.inl (0, S, .inl (upd (fun _ => 0) (xs 3).toNatClampNeg (xs 4))))) : ai_H).set 7 (.inl (0, S, .inl (upd (fun _ => 0) (xs 3).toNatClampNeg (xs 5))))), true, 0, 0)) rfl ?_
  refine go_get rfl rfl rfl rfl ?_
  refine go_n 2 (fr' := (57, [(0, .ref 1), (1, .int (xs 3)), (2, .int (xs 4)), (3, .int (xs 5))], [.int (xs 4), .int (xs 3), .ref 8], (((((((ah_w S z f1 f2 f3 g1 g2 0 a b s1 s2 0 0 (fun _ => 0)) : ai_H).set 5 (.inl (0, S, .inl (upd g1 (xs 3).toNatClampNeg 0)))) : ai_H).set 6 (.inl (0, S, .inl (upd (fun _ => 0) (xs 3).toNatClampNeg (xs 4))))) : ai_H).set 7 (.inl (0, S, .inl (upd (fun _ => 0) (xs 3).toNatClampNeg (xs 5))))), true, 0, 0)) rfl ?_
  refine go_ias rfl rfl hi ?_
  refine go_n 1 (fr' := (59, [(0, .ref 1), (1, .int (xs 3)), (2, .int (xs 4)), (3, .int (xs 5))], [.ref 1], (((((((((ah_w S z f1 f2 f3 g1 g2 0 a b s1 s2 0 0 (fun _ => 0)) : ai_H).set 5 (.inl (0, S, .inl (upd g1 (xs 3).toNatClampNeg 0)))) : ai_H).set 6 (.inl (0, S, .inl (upd (fun _ => 0) (xs 3).toNatClampNeg (xs 4))))) : ai_H).set 7 (.inl (0, S, .inl (upd (fun _ => 0) (xs 3).toNatClampNeg (xs 5))))) : ai_H).set 8 (.inl (0, S, .inl (upd (fun _ => 0) (xs 3).toNatClampNeg (xs 4))))), true, 0, 0)) rfl ?_
  refine go_get rfl rfl rfl rfl ?_
  refine go_n 2 (fr' := (64, [(0, .ref 1), (1, .int (xs 3)), (2, .int (xs 4)), (3, .int (xs 5))], [.int 0, .int (xs 3), .ref 9], (((((((((ah_w S z f1 f2 f3 g1 g2 0 a b s1 s2 0 0 (fun _ => 0)) : ai_H).set 5 (.inl (0, S, .inl (upd g1 (xs 3).toNatClampNeg 0)))) : ai_H).set 6 (.inl (0, S, .inl (upd (fun _ => 0) (xs 3).toNatClampNeg (xs 4))))) : ai_H).set 7 (.inl (0, S, .inl (upd (fun _ => 0) (xs 3).toNatClampNeg (xs 5))))) : ai_H).set 8 (.inl (0, S, .inl (upd (fun _ => 0) (xs 3).toNatClampNeg (xs 4))))), true, 0, 0)) rfl ?_
  refine go_ias0 rfl rfl hi rfl ?_
  refine go_n 1 (fr' := (66, [(0, .ref 1), (1, .int (xs 3)), (2, .int (xs 4)), (3, .int (xs 5))], [.ref 1], (((((((((ah_w S z f1 f2 f3 g1 g2 0 a b s1 s2 0 0 (fun _ => 0)) : ai_H).set 5 (.inl (0, S, .inl (upd g1 (xs 3).toNatClampNeg 0)))) : ai_H).set 6 (.inl (0, S, .inl (upd (fun _ => 0) (xs 3).toNatClampNeg (xs 4))))) : ai_H).set 7 (.inl (0, S, .inl (upd (fun _ => 0) (xs 3).toNatClampNeg (xs 5))))) : ai_H).set 8 (.inl (0, S, .inl (upd (fun _ => 0) (xs 3).toNatClampNeg (xs 4))))), true, 0, 0)) rfl ?_
  refine go_get rfl rfl rfl rfl ?_
  refine go_n 2 (fr' := (71, [(0, .ref 1), (1, .int (xs 3)), (2, .int (xs 4)), (3, .int (xs 5))], [.int 0, .int (xs 3), .ref 10], (((((((((ah_w S z f1 f2 f3 g1 g2 0 a b s1 s2 0 0 (fun _ => 0)) : ai_H).set 5 (.inl (0, S, .inl (upd g1 (xs 3).toNatClampNeg 0)))) : ai_H).set 6 (.inl (0, S, .inl (upd (fun _ => 0) (xs 3).toNatClampNeg (xs 4))))) : ai_H).set 7 (.inl (0, S, .inl (upd (fun _ => 0) (xs 3).toNatClampNeg (xs 5))))) : ai_H).set 8 (.inl (0, S, .inl (upd (fun _ => 0) (xs 3).toNatClampNeg (xs 4))))), true, 0, 0)) rfl ?_
  refine go_ias0 rfl rfl hi rfl ?_
  refine go_n 1 (fr' := (73, [(0, .ref 1), (1, .int (xs 3)), (2, .int (xs 4)), (3, .int (xs 5))], [.int 1], (((((((((ah_w S z f1 f2 f3 g1 g2 0 a b s1 s2 0 0 (fun _ => 0)) : ai_H).set 5 (.inl (0, S, .inl (upd g1 (xs 3).toNatClampNeg 0)))) : ai_H).set 6 (.inl (0, S, .inl (upd (fun _ => 0) (xs 3).toNatClampNeg (xs 4))))) : ai_H).set 7 (.inl (0, S, .inl (upd (fun _ => 0) (xs 3).toNatClampNeg (xs 5))))) : ai_H).set 8 (.inl (0, S, .inl (upd (fun _ => 0) (xs 3).toNatClampNeg (xs 4))))), true, 0, 0)) rfl ?_
  refine go_rt (i := .ireturn) (tg := []) rfl ?_
  rfl
set_option maxRecDepth 20000 in
theorem pl_house_5_2_house {xs : Nat → Int32} {S : Nat} {z : Int32} {f1 f2 f3 g1 g2 s1 s2 : Nat → Int32} {a b : Nat} (hk0 : ¬ xs 3 < 0) (hkz : xs 3 < z) (hkm : xs 3 < nI a * nI b) (hi : ai_in (xs 3) S = true) (hj : ai_in (xs 3) 64 = true) (hg1 : g1 (xs 3).toNatClampNeg = -1) (hg2 : g2 (xs 3).toNatClampNeg = -1) (hs1 : s1 (xs 3).toNatClampNeg = -1) (hs2 : s2 (xs 3).toNatClampNeg = -1) (h1 : ¬ xs 4 < 1) (h2 : ¬ 9 < xs 4) (h3 : ¬ xs 5 < 0) (h4 : ¬ 7 < xs 5) : ai_Ev an_ms an_lk (8, xs) 35 11 25 [.ref 0, .int (xs 3), .int (xs 4), .int (xs 5)] (ah_w S z f1 f2 f3 g1 g2 0 a b s1 s2 0 0 (fun _ => 0)) true (.inl (some (.int 1), (((((((((ah_w S z f1 f2 f3 g1 g2 0 a b s1 s2 0 0 (fun _ => 0)) : ai_H).set 5 (.inl (0, S, .inl (upd g1 (xs 3).toNatClampNeg 0)))) : ai_H).set 6 (.inl (0, S, .inl (upd (fun _ => 0) (xs 3).toNatClampNeg (xs 4))))) : ai_H).set 7 (.inl (0, S, .inl (upd (fun _ => 0) (xs 3).toNatClampNeg (xs 5))))) : ai_H).set 8 (.inl (0, S, .inl (upd (fun _ => 0) (xs 3).toNatClampNeg (xs 4))))), true, 0, 0)) := by
  refine ev_of (M := an_X9_house) rfl (Nat.le_of_ble_eq_true rfl) ?_
  refine go_n 2 (fr' := (2, [(0, .ref 0), (1, .int (xs 3)), (2, .int (xs 4)), (3, .int (xs 5))], [.int (xs 3), .ref 0], (ah_w S z f1 f2 f3 g1 g2 0 a b s1 s2 0 0 (fun _ => 0)), true, 0, 0)) rfl ?_
  refine go_call (q := 41) (M1 := an_X9_needCell) rfl rfl (by decide) rfl ⟨_, rfl⟩ trivial (pl_house_5_3_needCell hk0 hkz hkm hi hj hg1 hg2 hs1 hs2 h1 h2 h3 h4) ?_
  refine go_eq (fr' := (5, [(0, .ref 0), (1, .int (xs 3)), (2, .int (xs 4)), (3, .int (xs 5))], [], (ah_w S z f1 f2 f3 g1 g2 0 a b s1 s2 0 0 (fun _ => 0)), true, 0, 0)) rfl ?_
  refine go_n 2 (fr' := (7, [(0, .ref 0), (1, .int (xs 3)), (2, .int (xs 4)), (3, .int (xs 5))], [.int 1, .int (xs 4)], (ah_w S z f1 f2 f3 g1 g2 0 a b s1 s2 0 0 (fun _ => 0)), true, 0, 0)) rfl ?_
  refine go_ic_lt (t := 23) rfl (fun q1 => absurd q1 h1) (fun q1 => ?_)
  refine go_n 2 (fr' := (13, [(0, .ref 0), (1, .int (xs 3)), (2, .int (xs 4)), (3, .int (xs 5))], [.int 9, .int (xs 4)], (ah_w S z f1 f2 f3 g1 g2 0 a b s1 s2 0 0 (fun _ => 0)), true, 0, 0)) rfl ?_
  refine go_ic_gt (t := 23) rfl (fun q2 => absurd q2 h2) (fun q2 => ?_)
  refine go_n 1 (fr' := (17, [(0, .ref 0), (1, .int (xs 3)), (2, .int (xs 4)), (3, .int (xs 5))], [.int (xs 5)], (ah_w S z f1 f2 f3 g1 g2 0 a b s1 s2 0 0 (fun _ => 0)), true, 0, 0)) rfl ?_
  refine go_call (q := 43) (M1 := an_X9_isWard) rfl rfl (by decide) rfl trivial trivial (pl_house_5_5_isWard hk0 hkz hkm hi hj hg1 hg2 hs1 hs2 h1 h2 h3 h4) ?_
  refine go_eq (fr' := (20, [(0, .ref 0), (1, .int (xs 3)), (2, .int (xs 4)), (3, .int (xs 5))], [.int 1], (ah_w S z f1 f2 f3 g1 g2 0 a b s1 s2 0 0 (fun _ => 0)), true, 0, 0)) rfl ?_
  refine go_n 2 (fr' := (26, [(0, .ref 0), (1, .int (xs 3)), (2, .int (xs 4)), (3, .int (xs 5))], [.ref 0], (ah_w S z f1 f2 f3 g1 g2 0 a b s1 s2 0 0 (fun _ => 0)), true, 0, 0)) rfl ?_
  refine go_get rfl rfl rfl rfl ?_
  refine go_n 3 (fr' := (32, [(0, .ref 0), (1, .int (xs 3)), (2, .int (xs 4)), (3, .int (xs 5))], [.int (xs 5), .int (xs 4), .int (xs 3), .ref 1], (ah_w S z f1 f2 f3 g1 g2 0 a b s1 s2 0 0 (fun _ => 0)), true, 0, 0)) rfl ?_
  refine go_call (q := 3) (M1 := an_X0_build) rfl rfl (by decide) rfl ⟨_, rfl⟩ trivial (pl_house_5_6_build hk0 hkz hkm hi hj hg1 hg2 hs1 hs2 h1 h2 h3 h4) ?_
  refine go_eq (fr' := (35, [(0, .ref 0), (1, .int (xs 3)), (2, .int (xs 4)), (3, .int (xs 5))], [.int 1], (((((((((ah_w S z f1 f2 f3 g1 g2 0 a b s1 s2 0 0 (fun _ => 0)) : ai_H).set 5 (.inl (0, S, .inl (upd g1 (xs 3).toNatClampNeg 0)))) : ai_H).set 6 (.inl (0, S, .inl (upd (fun _ => 0) (xs 3).toNatClampNeg (xs 4))))) : ai_H).set 7 (.inl (0, S, .inl (upd (fun _ => 0) (xs 3).toNatClampNeg (xs 5))))) : ai_H).set 8 (.inl (0, S, .inl (upd (fun _ => 0) (xs 3).toNatClampNeg (xs 4))))), true, 0, 0)) rfl ?_
  refine go_rt (i := .ireturn) (tg := []) rfl ?_
  rfl
set_option maxRecDepth 20000 in
theorem pl_house_5_1_house {xs : Nat → Int32} {S : Nat} {z : Int32} {f1 f2 f3 g1 g2 s1 s2 : Nat → Int32} {a b : Nat} (hk0 : ¬ xs 3 < 0) (hkz : xs 3 < z) (hkm : xs 3 < nI a * nI b) (hi : ai_in (xs 3) S = true) (hj : ai_in (xs 3) 64 = true) (hg1 : g1 (xs 3).toNatClampNeg = -1) (hg2 : g2 (xs 3).toNatClampNeg = -1) (hs1 : s1 (xs 3).toNatClampNeg = -1) (hs2 : s2 (xs 3).toNatClampNeg = -1) (h1 : ¬ xs 4 < 1) (h2 : ¬ 9 < xs 4) (h3 : ¬ xs 5 < 0) (h4 : ¬ 7 < xs 5) : ai_Ev an_ms an_lk (8, xs) 35 12 82 [.ref 0, .int (xs 3), .int (xs 4), .int (xs 5), .ref 85] (ah_w S z f1 f2 f3 g1 g2 0 a b s1 s2 0 0 (fun _ => 0)) true (.inl (some (.int 0), (((((((((ah_w S z f1 f2 f3 g1 g2 0 a b s1 s2 0 0 (vp_updL (fun _ => 0) 0 1)) : ai_H).set 5 (.inl (0, S, .inl (upd g1 (xs 3).toNatClampNeg 0)))) : ai_H).set 6 (.inl (0, S, .inl (upd (fun _ => 0) (xs 3).toNatClampNeg (xs 4))))) : ai_H).set 7 (.inl (0, S, .inl (upd (fun _ => 0) (xs 3).toNatClampNeg (xs 5))))) : ai_H).set 8 (.inl (0, S, .inl (upd (fun _ => 0) (xs 3).toNatClampNeg (xs 4))))), true, 0, 0)) := by
  refine ev_of (M := an_L_house) rfl (Nat.le_of_ble_eq_true rfl) ?_
  refine go_n 6 (fr' := (7, [(0, .ref 0), (1, .int (xs 3)), (2, .int (xs 4)), (3, .int (xs 5)), (4, .ref 85)], [.int (xs 5), .int (xs 4), .int (xs 3), .ref 0, .int 0, .ref 85], (ah_w S z f1 f2 f3 g1 g2 0 a b s1 s2 0 0 (fun _ => 0)), true, 0, 0)) rfl ?_
  refine go_call (q := 25) (M1 := an_X9_house) rfl rfl (by decide) rfl ⟨_, rfl⟩ trivial (pl_house_5_2_house hk0 hkz hkm hi hj hg1 hg2 hs1 hs2 h1 h2 h3 h4) ?_
  refine go_eq (fr' := (10, [(0, .ref 0), (1, .int (xs 3)), (2, .int (xs 4)), (3, .int (xs 5)), (4, .ref 85)], [.int 1, .int 0, .ref 85], (((((((((ah_w S z f1 f2 f3 g1 g2 0 a b s1 s2 0 0 (fun _ => 0)) : ai_H).set 5 (.inl (0, S, .inl (upd g1 (xs 3).toNatClampNeg 0)))) : ai_H).set 6 (.inl (0, S, .inl (upd (fun _ => 0) (xs 3).toNatClampNeg (xs 4))))) : ai_H).set 7 (.inl (0, S, .inl (upd (fun _ => 0) (xs 3).toNatClampNeg (xs 5))))) : ai_H).set 8 (.inl (0, S, .inl (upd (fun _ => 0) (xs 3).toNatClampNeg (xs 4))))), true, 0, 0)) rfl ?_
  refine go_n 6 (fr' := (27, [(0, .ref 0), (1, .int (xs 3)), (2, .int (xs 4)), (3, .int (xs 5)), (4, .ref 85)], [.int 0], (((((((((ah_w S z f1 f2 f3 g1 g2 0 a b s1 s2 0 0 (vp_updL (fun _ => 0) 0 1)) : ai_H).set 5 (.inl (0, S, .inl (upd g1 (xs 3).toNatClampNeg 0)))) : ai_H).set 6 (.inl (0, S, .inl (upd (fun _ => 0) (xs 3).toNatClampNeg (xs 4))))) : ai_H).set 7 (.inl (0, S, .inl (upd (fun _ => 0) (xs 3).toNatClampNeg (xs 5))))) : ai_H).set 8 (.inl (0, S, .inl (upd (fun _ => 0) (xs 3).toNatClampNeg (xs 4))))), true, 0, 0)) rfl ?_
  refine go_rt (i := .ireturn) (tg := []) rfl ?_
  rfl
set_option maxRecDepth 20000 in
theorem pl_house_5_8_isCell {xs : Nat → Int32} {S : Nat} {z : Int32} {f1 f2 f3 g1 g2 s1 s2 : Nat → Int32} {a b : Nat} (hk0 : ¬ xs 3 < 0) (hkz : xs 3 < z) (hkm : xs 3 < nI a * nI b) (hi : ai_in (xs 3) S = true) (hj : ai_in (xs 3) 64 = true) (hg1 : g1 (xs 3).toNatClampNeg = -1) (hg2 : g2 (xs 3).toNatClampNeg = -1) (hs1 : s1 (xs 3).toNatClampNeg = -1) (hs2 : s2 (xs 3).toNatClampNeg = -1) (h1 : ¬ xs 4 < 1) (h2 : ¬ 9 < xs 4) (h3 : ¬ xs 5 < 0) (h4 : ¬ 7 < xs 5) : ai_Ev an_ms an_lk (8, xs) 35 11 54 [.ref 49, .int (xs 3)] (((((((((ah_w S z f1 f2 f3 g1 g2 0 a b s1 s2 0 0 (vp_updL (fun _ => 0) 0 1)) : ai_H).set 5 (.inl (0, S, .inl (upd g1 (xs 3).toNatClampNeg 0)))) : ai_H).set 6 (.inl (0, S, .inl (upd (fun _ => 0) (xs 3).toNatClampNeg (xs 4))))) : ai_H).set 7 (.inl (0, S, .inl (upd (fun _ => 0) (xs 3).toNatClampNeg (xs 5))))) : ai_H).set 8 (.inl (0, S, .inl (upd (fun _ => 0) (xs 3).toNatClampNeg (xs 4))))) true (.inl (some (.int 1), (((((((((ah_w S z f1 f2 f3 g1 g2 0 a b s1 s2 0 0 (vp_updL (fun _ => 0) 0 1)) : ai_H).set 5 (.inl (0, S, .inl (upd g1 (xs 3).toNatClampNeg 0)))) : ai_H).set 6 (.inl (0, S, .inl (upd (fun _ => 0) (xs 3).toNatClampNeg (xs 4))))) : ai_H).set 7 (.inl (0, S, .inl (upd (fun _ => 0) (xs 3).toNatClampNeg (xs 5))))) : ai_H).set 8 (.inl (0, S, .inl (upd (fun _ => 0) (xs 3).toNatClampNeg (xs 4))))), true, 0, 0)) := by
  refine ev_of (M := an_X10_isCell) rfl (Nat.le_of_ble_eq_true rfl) ?_
  refine go_n 1 (fr' := (1, [(0, .ref 49), (1, .int (xs 3))], [.int (xs 3)], (((((((((ah_w S z f1 f2 f3 g1 g2 0 a b s1 s2 0 0 (vp_updL (fun _ => 0) 0 1)) : ai_H).set 5 (.inl (0, S, .inl (upd g1 (xs 3).toNatClampNeg 0)))) : ai_H).set 6 (.inl (0, S, .inl (upd (fun _ => 0) (xs 3).toNatClampNeg (xs 4))))) : ai_H).set 7 (.inl (0, S, .inl (upd (fun _ => 0) (xs 3).toNatClampNeg (xs 5))))) : ai_H).set 8 (.inl (0, S, .inl (upd (fun _ => 0) (xs 3).toNatClampNeg (xs 4))))), true, 0, 0)) rfl ?_
  refine go_if_lt (t := 21) rfl (fun q1 => absurd q1 hk0) (fun q1 => ?_)
  refine go_n 2 (fr' := (6, [(0, .ref 49), (1, .int (xs 3))], [.ref 49, .int (xs 3)], (((((((((ah_w S z f1 f2 f3 g1 g2 0 a b s1 s2 0 0 (vp_updL (fun _ => 0) 0 1)) : ai_H).set 5 (.inl (0, S, .inl (upd g1 (xs 3).toNatClampNeg 0)))) : ai_H).set 6 (.inl (0, S, .inl (upd (fun _ => 0) (xs 3).toNatClampNeg (xs 4))))) : ai_H).set 7 (.inl (0, S, .inl (upd (fun _ => 0) (xs 3).toNatClampNeg (xs 5))))) : ai_H).set 8 (.inl (0, S, .inl (upd (fun _ => 0) (xs 3).toNatClampNeg (xs 4))))), true, 0, 0)) rfl ?_
  refine go_get rfl rfl rfl rfl ?_
  refine go_n 1 (fr' := (10, [(0, .ref 49), (1, .int (xs 3))], [.ref 49, .int (nI a), .int (xs 3)], (((((((((ah_w S z f1 f2 f3 g1 g2 0 a b s1 s2 0 0 (vp_updL (fun _ => 0) 0 1)) : ai_H).set 5 (.inl (0, S, .inl (upd g1 (xs 3).toNatClampNeg 0)))) : ai_H).set 6 (.inl (0, S, .inl (upd (fun _ => 0) (xs 3).toNatClampNeg (xs 4))))) : ai_H).set 7 (.inl (0, S, .inl (upd (fun _ => 0) (xs 3).toNatClampNeg (xs 5))))) : ai_H).set 8 (.inl (0, S, .inl (upd (fun _ => 0) (xs 3).toNatClampNeg (xs 4))))), true, 0, 0)) rfl ?_
  refine go_get rfl rfl rfl rfl ?_
  refine go_n 1 (fr' := (14, [(0, .ref 49), (1, .int (xs 3))], [.int ((nI a) * (nI b)), .int (xs 3)], (((((((((ah_w S z f1 f2 f3 g1 g2 0 a b s1 s2 0 0 (vp_updL (fun _ => 0) 0 1)) : ai_H).set 5 (.inl (0, S, .inl (upd g1 (xs 3).toNatClampNeg 0)))) : ai_H).set 6 (.inl (0, S, .inl (upd (fun _ => 0) (xs 3).toNatClampNeg (xs 4))))) : ai_H).set 7 (.inl (0, S, .inl (upd (fun _ => 0) (xs 3).toNatClampNeg (xs 5))))) : ai_H).set 8 (.inl (0, S, .inl (upd (fun _ => 0) (xs 3).toNatClampNeg (xs 4))))), true, 0, 0)) rfl ?_
  refine go_ic_ge (t := 21) rfl (fun q2 => absurd q2 (Int32.not_le.mpr hkm)) (fun q2 => ?_)
  refine go_n 2 (fr' := (22, [(0, .ref 49), (1, .int (xs 3))], [.int 1], (((((((((ah_w S z f1 f2 f3 g1 g2 0 a b s1 s2 0 0 (vp_updL (fun _ => 0) 0 1)) : ai_H).set 5 (.inl (0, S, .inl (upd g1 (xs 3).toNatClampNeg 0)))) : ai_H).set 6 (.inl (0, S, .inl (upd (fun _ => 0) (xs 3).toNatClampNeg (xs 4))))) : ai_H).set 7 (.inl (0, S, .inl (upd (fun _ => 0) (xs 3).toNatClampNeg (xs 5))))) : ai_H).set 8 (.inl (0, S, .inl (upd (fun _ => 0) (xs 3).toNatClampNeg (xs 4))))), true, 0, 0)) rfl ?_
  refine go_rt (i := .ireturn) (tg := []) rfl ?_
  rfl
set_option maxRecDepth 20000 in
theorem pl_house_5_7_house {xs : Nat → Int32} {S : Nat} {z : Int32} {f1 f2 f3 g1 g2 s1 s2 : Nat → Int32} {a b : Nat} (hk0 : ¬ xs 3 < 0) (hkz : xs 3 < z) (hkm : xs 3 < nI a * nI b) (hi : ai_in (xs 3) S = true) (hj : ai_in (xs 3) 64 = true) (hg1 : g1 (xs 3).toNatClampNeg = -1) (hg2 : g2 (xs 3).toNatClampNeg = -1) (hs1 : s1 (xs 3).toNatClampNeg = -1) (hs2 : s2 (xs 3).toNatClampNeg = -1) (h1 : ¬ xs 4 < 1) (h2 : ¬ 9 < xs 4) (h3 : ¬ xs 5 < 0) (h4 : ¬ 7 < xs 5) : ai_Ev an_ms an_lk (8, xs) 35 12 56 [.ref 49, .int (xs 3), .int (xs 4), .int (xs 5)] (((((((((ah_w S z f1 f2 f3 g1 g2 0 a b s1 s2 0 0 (vp_updL (fun _ => 0) 0 1)) : ai_H).set 5 (.inl (0, S, .inl (upd g1 (xs 3).toNatClampNeg 0)))) : ai_H).set 6 (.inl (0, S, .inl (upd (fun _ => 0) (xs 3).toNatClampNeg (xs 4))))) : ai_H).set 7 (.inl (0, S, .inl (upd (fun _ => 0) (xs 3).toNatClampNeg (xs 5))))) : ai_H).set 8 (.inl (0, S, .inl (upd (fun _ => 0) (xs 3).toNatClampNeg (xs 4))))) true (.inl (some (.int 1), (((((((((((((((((ah_w S z f1 f2 f3 g1 g2 0 a b s1 s2 0 0 (vp_updL (fun _ => 0) 0 1)) : ai_H).set 5 (.inl (0, S, .inl (upd g1 (xs 3).toNatClampNeg 0)))) : ai_H).set 6 (.inl (0, S, .inl (upd (fun _ => 0) (xs 3).toNatClampNeg (xs 4))))) : ai_H).set 7 (.inl (0, S, .inl (upd (fun _ => 0) (xs 3).toNatClampNeg (xs 5))))) : ai_H).set 8 (.inl (0, S, .inl (upd (fun _ => 0) (xs 3).toNatClampNeg (xs 4))))) : ai_H).set 51 (.inl (0, 64, .inl (upd s1 (xs 3).toNatClampNeg 0)))) : ai_H).set 52 (.inl (0, 64, .inl (upd (fun _ => 0) (xs 3).toNatClampNeg (xs 4))))) : ai_H).set 53 (.inl (0, 64, .inl (upd (fun _ => 0) (xs 3).toNatClampNeg (xs 5))))) : ai_H).set 54 (.inl (0, 64, .inl (upd (fun _ => 0) (xs 3).toNatClampNeg (xs 4))))), true, 0, 0)) := by
  refine ev_of (M := an_X10_house) rfl (Nat.le_of_ble_eq_true rfl) ?_
  refine go_n 2 (fr' := (2, [(0, .ref 49), (1, .int (xs 3)), (2, .int (xs 4)), (3, .int (xs 5))], [.int 0, .ref 49], (((((((((ah_w S z f1 f2 f3 g1 g2 0 a b s1 s2 0 0 (vp_updL (fun _ => 0) 0 1)) : ai_H).set 5 (.inl (0, S, .inl (upd g1 (xs 3).toNatClampNeg 0)))) : ai_H).set 6 (.inl (0, S, .inl (upd (fun _ => 0) (xs 3).toNatClampNeg (xs 4))))) : ai_H).set 7 (.inl (0, S, .inl (upd (fun _ => 0) (xs 3).toNatClampNeg (xs 5))))) : ai_H).set 8 (.inl (0, S, .inl (upd (fun _ => 0) (xs 3).toNatClampNeg (xs 4))))), true, 0, 0)) rfl ?_
  refine go_put rfl rfl rfl (Nat.le_of_ble_eq_true rfl) rfl ?_
  refine go_n 2 (fr' := (7, [(0, .ref 49), (1, .int (xs 3)), (2, .int (xs 4)), (3, .int (xs 5))], [.int (xs 3), .ref 49], (((((((((ah_w S z f1 f2 f3 g1 g2 0 a b s1 s2 0 0 (vp_updL (fun _ => 0) 0 1)) : ai_H).set 5 (.inl (0, S, .inl (upd g1 (xs 3).toNatClampNeg 0)))) : ai_H).set 6 (.inl (0, S, .inl (upd (fun _ => 0) (xs 3).toNatClampNeg (xs 4))))) : ai_H).set 7 (.inl (0, S, .inl (upd (fun _ => 0) (xs 3).toNatClampNeg (xs 5))))) : ai_H).set 8 (.inl (0, S, .inl (upd (fun _ => 0) (xs 3).toNatClampNeg (xs 4))))), true, 0, 0)) rfl ?_
  refine go_call (q := 54) (M1 := an_X10_isCell) rfl rfl (by decide) rfl ⟨_, rfl⟩ trivial (pl_house_5_8_isCell hk0 hkz hkm hi hj hg1 hg2 hs1 hs2 h1 h2 h3 h4) ?_
  refine go_eq (fr' := (10, [(0, .ref 49), (1, .int (xs 3)), (2, .int (xs 4)), (3, .int (xs 5))], [.int 1], (((((((((ah_w S z f1 f2 f3 g1 g2 0 a b s1 s2 0 0 (vp_updL (fun _ => 0) 0 1)) : ai_H).set 5 (.inl (0, S, .inl (upd g1 (xs 3).toNatClampNeg 0)))) : ai_H).set 6 (.inl (0, S, .inl (upd (fun _ => 0) (xs 3).toNatClampNeg (xs 4))))) : ai_H).set 7 (.inl (0, S, .inl (upd (fun _ => 0) (xs 3).toNatClampNeg (xs 5))))) : ai_H).set 8 (.inl (0, S, .inl (upd (fun _ => 0) (xs 3).toNatClampNeg (xs 4))))), true, 0, 0)) rfl ?_
  refine go_n 2 (fr' := (21, [(0, .ref 49), (1, .int (xs 3)), (2, .int (xs 4)), (3, .int (xs 5))], [.ref 49], (((((((((ah_w S z f1 f2 f3 g1 g2 0 a b s1 s2 0 0 (vp_updL (fun _ => 0) 0 1)) : ai_H).set 5 (.inl (0, S, .inl (upd g1 (xs 3).toNatClampNeg 0)))) : ai_H).set 6 (.inl (0, S, .inl (upd (fun _ => 0) (xs 3).toNatClampNeg (xs 4))))) : ai_H).set 7 (.inl (0, S, .inl (upd (fun _ => 0) (xs 3).toNatClampNeg (xs 5))))) : ai_H).set 8 (.inl (0, S, .inl (upd (fun _ => 0) (xs 3).toNatClampNeg (xs 4))))), true, 0, 0)) rfl ?_
  refine go_get rfl rfl rfl rfl ?_
  refine go_n 1 (fr' := (25, [(0, .ref 49), (1, .int (xs 3)), (2, .int (xs 4)), (3, .int (xs 5))], [.int (xs 3), .ref 58], (((((((((ah_w S z f1 f2 f3 g1 g2 0 a b s1 s2 0 0 (vp_updL (fun _ => 0) 0 1)) : ai_H).set 5 (.inl (0, S, .inl (upd g1 (xs 3).toNatClampNeg 0)))) : ai_H).set 6 (.inl (0, S, .inl (upd (fun _ => 0) (xs 3).toNatClampNeg (xs 4))))) : ai_H).set 7 (.inl (0, S, .inl (upd (fun _ => 0) (xs 3).toNatClampNeg (xs 5))))) : ai_H).set 8 (.inl (0, S, .inl (upd (fun _ => 0) (xs 3).toNatClampNeg (xs 4))))), true, 0, 0)) rfl ?_
  refine go_zal rfl rfl hj ?_
  refine go_n 2 (fr' := (30, [(0, .ref 49), (1, .int (xs 3)), (2, .int (xs 4)), (3, .int (xs 5))], [.ref 49], (((((((((ah_w S z f1 f2 f3 g1 g2 0 a b s1 s2 0 0 (vp_updL (fun _ => 0) 0 1)) : ai_H).set 5 (.inl (0, S, .inl (upd g1 (xs 3).toNatClampNeg 0)))) : ai_H).set 6 (.inl (0, S, .inl (upd (fun _ => 0) (xs 3).toNatClampNeg (xs 4))))) : ai_H).set 7 (.inl (0, S, .inl (upd (fun _ => 0) (xs 3).toNatClampNeg (xs 5))))) : ai_H).set 8 (.inl (0, S, .inl (upd (fun _ => 0) (xs 3).toNatClampNeg (xs 4))))), true, 0, 0)) rfl ?_
  refine go_get rfl rfl rfl rfl ?_
  refine go_n 1 (fr' := (34, [(0, .ref 49), (1, .int (xs 3)), (2, .int (xs 4)), (3, .int (xs 5))], [.int (xs 3), .ref 51], (((((((((ah_w S z f1 f2 f3 g1 g2 0 a b s1 s2 0 0 (vp_updL (fun _ => 0) 0 1)) : ai_H).set 5 (.inl (0, S, .inl (upd g1 (xs 3).toNatClampNeg 0)))) : ai_H).set 6 (.inl (0, S, .inl (upd (fun _ => 0) (xs 3).toNatClampNeg (xs 4))))) : ai_H).set 7 (.inl (0, S, .inl (upd (fun _ => 0) (xs 3).toNatClampNeg (xs 5))))) : ai_H).set 8 (.inl (0, S, .inl (upd (fun _ => 0) (xs 3).toNatClampNeg (xs 4))))), true, 0, 0)) rfl ?_
  refine go_ial rfl (by decide) rfl hj ?_
  rw [hs1]
  refine go_n 2 (fr' := (39, [(0, .ref 49), (1, .int (xs 3)), (2, .int (xs 4)), (3, .int (xs 5))], [.ref 49], (((((((((ah_w S z f1 f2 f3 g1 g2 0 a b s1 s2 0 0 (vp_updL (fun _ => 0) 0 1)) : ai_H).set 5 (.inl (0, S, .inl (upd g1 (xs 3).toNatClampNeg 0)))) : ai_H).set 6 (.inl (0, S, .inl (upd (fun _ => 0) (xs 3).toNatClampNeg (xs 4))))) : ai_H).set 7 (.inl (0, S, .inl (upd (fun _ => 0) (xs 3).toNatClampNeg (xs 5))))) : ai_H).set 8 (.inl (0, S, .inl (upd (fun _ => 0) (xs 3).toNatClampNeg (xs 4))))), true, 0, 0)) rfl ?_
  refine go_get rfl rfl rfl rfl ?_
  refine go_n 1 (fr' := (43, [(0, .ref 49), (1, .int (xs 3)), (2, .int (xs 4)), (3, .int (xs 5))], [.int (xs 3), .ref 51], (((((((((ah_w S z f1 f2 f3 g1 g2 0 a b s1 s2 0 0 (vp_updL (fun _ => 0) 0 1)) : ai_H).set 5 (.inl (0, S, .inl (upd g1 (xs 3).toNatClampNeg 0)))) : ai_H).set 6 (.inl (0, S, .inl (upd (fun _ => 0) (xs 3).toNatClampNeg (xs 4))))) : ai_H).set 7 (.inl (0, S, .inl (upd (fun _ => 0) (xs 3).toNatClampNeg (xs 5))))) : ai_H).set 8 (.inl (0, S, .inl (upd (fun _ => 0) (xs 3).toNatClampNeg (xs 4))))), true, 0, 0)) rfl ?_
  refine go_ial rfl (by decide) rfl hj ?_
  rw [hs1]
  refine go_n 4 (fr' := (50, [(0, .ref 49), (1, .int (xs 3)), (2, .int (xs 4)), (3, .int (xs 5))], [.int 1, .int (xs 4)], (((((((((ah_w S z f1 f2 f3 g1 g2 0 a b s1 s2 0 0 (vp_updL (fun _ => 0) 0 1)) : ai_H).set 5 (.inl (0, S, .inl (upd g1 (xs 3).toNatClampNeg 0)))) : ai_H).set 6 (.inl (0, S, .inl (upd (fun _ => 0) (xs 3).toNatClampNeg (xs 4))))) : ai_H).set 7 (.inl (0, S, .inl (upd (fun _ => 0) (xs 3).toNatClampNeg (xs 5))))) : ai_H).set 8 (.inl (0, S, .inl (upd (fun _ => 0) (xs 3).toNatClampNeg (xs 4))))), true, 0, 0)) rfl ?_
  refine go_ic_lt (t := 69) rfl (fun q1 => absurd q1 h1) (fun q1 => ?_)
  refine go_n 2 (fr' := (56, [(0, .ref 49), (1, .int (xs 3)), (2, .int (xs 4)), (3, .int (xs 5))], [.int 9, .int (xs 4)], (((((((((ah_w S z f1 f2 f3 g1 g2 0 a b s1 s2 0 0 (vp_updL (fun _ => 0) 0 1)) : ai_H).set 5 (.inl (0, S, .inl (upd g1 (xs 3).toNatClampNeg 0)))) : ai_H).set 6 (.inl (0, S, .inl (upd (fun _ => 0) (xs 3).toNatClampNeg (xs 4))))) : ai_H).set 7 (.inl (0, S, .inl (upd (fun _ => 0) (xs 3).toNatClampNeg (xs 5))))) : ai_H).set 8 (.inl (0, S, .inl (upd (fun _ => 0) (xs 3).toNatClampNeg (xs 4))))), true, 0, 0)) rfl ?_
  refine go_ic_gt (t := 69) rfl (fun q2 => absurd q2 h2) (fun q2 => ?_)
  refine go_n 1 (fr' := (60, [(0, .ref 49), (1, .int (xs 3)), (2, .int (xs 4)), (3, .int (xs 5))], [.int (xs 5)], (((((((((ah_w S z f1 f2 f3 g1 g2 0 a b s1 s2 0 0 (vp_updL (fun _ => 0) 0 1)) : ai_H).set 5 (.inl (0, S, .inl (upd g1 (xs 3).toNatClampNeg 0)))) : ai_H).set 6 (.inl (0, S, .inl (upd (fun _ => 0) (xs 3).toNatClampNeg (xs 4))))) : ai_H).set 7 (.inl (0, S, .inl (upd (fun _ => 0) (xs 3).toNatClampNeg (xs 5))))) : ai_H).set 8 (.inl (0, S, .inl (upd (fun _ => 0) (xs 3).toNatClampNeg (xs 4))))), true, 0, 0)) rfl ?_
  refine go_if_lt (t := 69) rfl (fun q3 => absurd q3 h3) (fun q3 => ?_)
  refine go_n 2 (fr' := (66, [(0, .ref 49), (1, .int (xs 3)), (2, .int (xs 4)), (3, .int (xs 5))], [.int 7, .int (xs 5)], (((((((((ah_w S z f1 f2 f3 g1 g2 0 a b s1 s2 0 0 (vp_updL (fun _ => 0) 0 1)) : ai_H).set 5 (.inl (0, S, .inl (upd g1 (xs 3).toNatClampNeg 0)))) : ai_H).set 6 (.inl (0, S, .inl (upd (fun _ => 0) (xs 3).toNatClampNeg (xs 4))))) : ai_H).set 7 (.inl (0, S, .inl (upd (fun _ => 0) (xs 3).toNatClampNeg (xs 5))))) : ai_H).set 8 (.inl (0, S, .inl (upd (fun _ => 0) (xs 3).toNatClampNeg (xs 4))))), true, 0, 0)) rfl ?_
  refine go_ic_le (t := 71) rfl (fun q4 => ?_) (fun q4 => absurd (Int32.not_lt.mp h4) q4)
  refine go_n 1 (fr' := (72, [(0, .ref 49), (1, .int (xs 3)), (2, .int (xs 4)), (3, .int (xs 5))], [.ref 49], (((((((((ah_w S z f1 f2 f3 g1 g2 0 a b s1 s2 0 0 (vp_updL (fun _ => 0) 0 1)) : ai_H).set 5 (.inl (0, S, .inl (upd g1 (xs 3).toNatClampNeg 0)))) : ai_H).set 6 (.inl (0, S, .inl (upd (fun _ => 0) (xs 3).toNatClampNeg (xs 4))))) : ai_H).set 7 (.inl (0, S, .inl (upd (fun _ => 0) (xs 3).toNatClampNeg (xs 5))))) : ai_H).set 8 (.inl (0, S, .inl (upd (fun _ => 0) (xs 3).toNatClampNeg (xs 4))))), true, 0, 0)) rfl ?_
  refine go_get rfl rfl rfl rfl ?_
  refine go_n 2 (fr' := (77, [(0, .ref 49), (1, .int (xs 3)), (2, .int (xs 4)), (3, .int (xs 5))], [.int 0, .int (xs 3), .ref 51], (((((((((ah_w S z f1 f2 f3 g1 g2 0 a b s1 s2 0 0 (vp_updL (fun _ => 0) 0 1)) : ai_H).set 5 (.inl (0, S, .inl (upd g1 (xs 3).toNatClampNeg 0)))) : ai_H).set 6 (.inl (0, S, .inl (upd (fun _ => 0) (xs 3).toNatClampNeg (xs 4))))) : ai_H).set 7 (.inl (0, S, .inl (upd (fun _ => 0) (xs 3).toNatClampNeg (xs 5))))) : ai_H).set 8 (.inl (0, S, .inl (upd (fun _ => 0) (xs 3).toNatClampNeg (xs 4))))), true, 0, 0)) rfl ?_
  refine go_ias rfl rfl hj ?_
  refine go_n 1 (fr' := (79, [(0, .ref 49), (1, .int (xs 3)), (2, .int (xs 4)), (3, .int (xs 5))], [.ref 49], (((((((((((ah_w S z f1 f2 f3 g1 g2 0 a b s1 s2 0 0 (vp_updL (fun _ => 0) 0 1)) : ai_H).set 5 (.inl (0, S, .inl (upd g1 (xs 3).toNatClampNeg 0)))) : ai_H).set 6 (.inl (0, S, .inl (upd (fun _ => 0) (xs 3).toNatClampNeg (xs 4))))) : ai_H).set 7 (.inl (0, S, .inl (upd (fun _ => 0) (xs 3).toNatClampNeg (xs 5))))) : ai_H).set 8 (.inl (0, S, .inl (upd (fun _ => 0) (xs 3).toNatClampNeg (xs 4))))) : ai_H).set 51 (.inl (0, 64, .inl (upd s1 (xs 3).toNatClampNeg 0)))), true, 0, 0)) rfl ?_
  refine go_get rfl rfl rfl rfl ?_
  refine go_n 2 (fr' := (84, [(0, .ref 49), (1, .int (xs 3)), (2, .int (xs 4)), (3, .int (xs 5))], [.int (xs 4), .int (xs 3), .ref 52], (((((((((((ah_w S z f1 f2 f3 g1 g2 0 a b s1 s2 0 0 (vp_updL (fun _ => 0) 0 1)) : ai_H).set 5 (.inl (0, S, .inl (upd g1 (xs 3).toNatClampNeg 0)))) : ai_H).set 6 (.inl (0, S, .inl (upd (fun _ => 0) (xs 3).toNatClampNeg (xs 4))))) : ai_H).set 7 (.inl (0, S, .inl (upd (fun _ => 0) (xs 3).toNatClampNeg (xs 5))))) : ai_H).set 8 (.inl (0, S, .inl (upd (fun _ => 0) (xs 3).toNatClampNeg (xs 4))))) : ai_H).set 51 (.inl (0, 64, .inl (upd s1 (xs 3).toNatClampNeg 0)))), true, 0, 0)) rfl ?_
  refine go_ias rfl rfl hj ?_
  refine go_n 1 (fr' := (86, [(0, .ref 49), (1, .int (xs 3)), (2, .int (xs 4)), (3, .int (xs 5))], [.ref 49], (((((((((((((ah_w S z f1 f2 f3 g1 g2 0 a b s1 s2 0 0 (vp_updL (fun _ => 0) 0 1)) : ai_H).set 5 (.inl (0, S, .inl (upd g1 (xs 3).toNatClampNeg 0)))) : ai_H).set 6 (.inl (0, S, .inl (upd (fun _ => 0) (xs 3).toNatClampNeg (xs 4))))) : ai_H).set 7 (.inl (0, S, .inl (upd (fun _ => 0) (xs 3).toNatClampNeg (xs 5))))) : ai_H).set 8 (.inl (0, S, .inl (upd (fun _ => 0) (xs 3).toNatClampNeg (xs 4))))) : ai_H).set 51 (.inl (0, 64, .inl (upd s1 (xs 3).toNatClampNeg 0)))) : ai_H).set 52 (.inl (0, 64, .inl (upd (fun _ => 0) (xs 3).toNatClampNeg (xs 4))))), true, 0, 0)) rfl ?_
  refine go_get rfl rfl rfl rfl ?_
  refine go_n 2 (fr' := (91, [(0, .ref 49), (1, .int (xs 3)), (2, .int (xs 4)), (3, .int (xs 5))], [.int (xs 5), .int (xs 3), .ref 53], (((((((((((((ah_w S z f1 f2 f3 g1 g2 0 a b s1 s2 0 0 (vp_updL (fun _ => 0) 0 1)) : ai_H).set 5 (.inl (0, S, .inl (upd g1 (xs 3).toNatClampNeg 0)))) : ai_H).set 6 (.inl (0, S, .inl (upd (fun _ => 0) (xs 3).toNatClampNeg (xs 4))))) : ai_H).set 7 (.inl (0, S, .inl (upd (fun _ => 0) (xs 3).toNatClampNeg (xs 5))))) : ai_H).set 8 (.inl (0, S, .inl (upd (fun _ => 0) (xs 3).toNatClampNeg (xs 4))))) : ai_H).set 51 (.inl (0, 64, .inl (upd s1 (xs 3).toNatClampNeg 0)))) : ai_H).set 52 (.inl (0, 64, .inl (upd (fun _ => 0) (xs 3).toNatClampNeg (xs 4))))), true, 0, 0)) rfl ?_
  refine go_ias rfl rfl hj ?_
  refine go_n 1 (fr' := (93, [(0, .ref 49), (1, .int (xs 3)), (2, .int (xs 4)), (3, .int (xs 5))], [.ref 49], (((((((((((((((ah_w S z f1 f2 f3 g1 g2 0 a b s1 s2 0 0 (vp_updL (fun _ => 0) 0 1)) : ai_H).set 5 (.inl (0, S, .inl (upd g1 (xs 3).toNatClampNeg 0)))) : ai_H).set 6 (.inl (0, S, .inl (upd (fun _ => 0) (xs 3).toNatClampNeg (xs 4))))) : ai_H).set 7 (.inl (0, S, .inl (upd (fun _ => 0) (xs 3).toNatClampNeg (xs 5))))) : ai_H).set 8 (.inl (0, S, .inl (upd (fun _ => 0) (xs 3).toNatClampNeg (xs 4))))) : ai_H).set 51 (.inl (0, 64, .inl (upd s1 (xs 3).toNatClampNeg 0)))) : ai_H).set 52 (.inl (0, 64, .inl (upd (fun _ => 0) (xs 3).toNatClampNeg (xs 4))))) : ai_H).set 53 (.inl (0, 64, .inl (upd (fun _ => 0) (xs 3).toNatClampNeg (xs 5))))), true, 0, 0)) rfl ?_
  refine go_get rfl rfl rfl rfl ?_
  refine go_n 2 (fr' := (98, [(0, .ref 49), (1, .int (xs 3)), (2, .int (xs 4)), (3, .int (xs 5))], [.int (xs 4), .int (xs 3), .ref 54], (((((((((((((((ah_w S z f1 f2 f3 g1 g2 0 a b s1 s2 0 0 (vp_updL (fun _ => 0) 0 1)) : ai_H).set 5 (.inl (0, S, .inl (upd g1 (xs 3).toNatClampNeg 0)))) : ai_H).set 6 (.inl (0, S, .inl (upd (fun _ => 0) (xs 3).toNatClampNeg (xs 4))))) : ai_H).set 7 (.inl (0, S, .inl (upd (fun _ => 0) (xs 3).toNatClampNeg (xs 5))))) : ai_H).set 8 (.inl (0, S, .inl (upd (fun _ => 0) (xs 3).toNatClampNeg (xs 4))))) : ai_H).set 51 (.inl (0, 64, .inl (upd s1 (xs 3).toNatClampNeg 0)))) : ai_H).set 52 (.inl (0, 64, .inl (upd (fun _ => 0) (xs 3).toNatClampNeg (xs 4))))) : ai_H).set 53 (.inl (0, 64, .inl (upd (fun _ => 0) (xs 3).toNatClampNeg (xs 5))))), true, 0, 0)) rfl ?_
  refine go_ias rfl rfl hj ?_
  refine go_n 1 (fr' := (100, [(0, .ref 49), (1, .int (xs 3)), (2, .int (xs 4)), (3, .int (xs 5))], [.ref 49], (((((((((((((((((ah_w S z f1 f2 f3 g1 g2 0 a b s1 s2 0 0 (vp_updL (fun _ => 0) 0 1)) : ai_H).set 5 (.inl (0, S, .inl (upd g1 (xs 3).toNatClampNeg 0)))) : ai_H).set 6 (.inl (0, S, .inl (upd (fun _ => 0) (xs 3).toNatClampNeg (xs 4))))) : ai_H).set 7 (.inl (0, S, .inl (upd (fun _ => 0) (xs 3).toNatClampNeg (xs 5))))) : ai_H).set 8 (.inl (0, S, .inl (upd (fun _ => 0) (xs 3).toNatClampNeg (xs 4))))) : ai_H).set 51 (.inl (0, 64, .inl (upd s1 (xs 3).toNatClampNeg 0)))) : ai_H).set 52 (.inl (0, 64, .inl (upd (fun _ => 0) (xs 3).toNatClampNeg (xs 4))))) : ai_H).set 53 (.inl (0, 64, .inl (upd (fun _ => 0) (xs 3).toNatClampNeg (xs 5))))) : ai_H).set 54 (.inl (0, 64, .inl (upd (fun _ => 0) (xs 3).toNatClampNeg (xs 4))))), true, 0, 0)) rfl ?_
  refine go_get rfl rfl rfl rfl ?_
  refine go_n 2 (fr' := (105, [(0, .ref 49), (1, .int (xs 3)), (2, .int (xs 4)), (3, .int (xs 5))], [.int 0, .int (xs 3), .ref 55], (((((((((((((((((ah_w S z f1 f2 f3 g1 g2 0 a b s1 s2 0 0 (vp_updL (fun _ => 0) 0 1)) : ai_H).set 5 (.inl (0, S, .inl (upd g1 (xs 3).toNatClampNeg 0)))) : ai_H).set 6 (.inl (0, S, .inl (upd (fun _ => 0) (xs 3).toNatClampNeg (xs 4))))) : ai_H).set 7 (.inl (0, S, .inl (upd (fun _ => 0) (xs 3).toNatClampNeg (xs 5))))) : ai_H).set 8 (.inl (0, S, .inl (upd (fun _ => 0) (xs 3).toNatClampNeg (xs 4))))) : ai_H).set 51 (.inl (0, 64, .inl (upd s1 (xs 3).toNatClampNeg 0)))) : ai_H).set 52 (.inl (0, 64, .inl (upd (fun _ => 0) (xs 3).toNatClampNeg (xs 4))))) : ai_H).set 53 (.inl (0, 64, .inl (upd (fun _ => 0) (xs 3).toNatClampNeg (xs 5))))) : ai_H).set 54 (.inl (0, 64, .inl (upd (fun _ => 0) (xs 3).toNatClampNeg (xs 4))))), true, 0, 0)) rfl ?_
  refine go_ias0 rfl rfl hj rfl ?_
  refine go_n 1 (fr' := (107, [(0, .ref 49), (1, .int (xs 3)), (2, .int (xs 4)), (3, .int (xs 5))], [.ref 49], (((((((((((((((((ah_w S z f1 f2 f3 g1 g2 0 a b s1 s2 0 0 (vp_updL (fun _ => 0) 0 1)) : ai_H).set 5 (.inl (0, S, .inl (upd g1 (xs 3).toNatClampNeg 0)))) : ai_H).set 6 (.inl (0, S, .inl (upd (fun _ => 0) (xs 3).toNatClampNeg (xs 4))))) : ai_H).set 7 (.inl (0, S, .inl (upd (fun _ => 0) (xs 3).toNatClampNeg (xs 5))))) : ai_H).set 8 (.inl (0, S, .inl (upd (fun _ => 0) (xs 3).toNatClampNeg (xs 4))))) : ai_H).set 51 (.inl (0, 64, .inl (upd s1 (xs 3).toNatClampNeg 0)))) : ai_H).set 52 (.inl (0, 64, .inl (upd (fun _ => 0) (xs 3).toNatClampNeg (xs 4))))) : ai_H).set 53 (.inl (0, 64, .inl (upd (fun _ => 0) (xs 3).toNatClampNeg (xs 5))))) : ai_H).set 54 (.inl (0, 64, .inl (upd (fun _ => 0) (xs 3).toNatClampNeg (xs 4))))), true, 0, 0)) rfl ?_
  refine go_get rfl rfl rfl rfl ?_
  refine go_n 2 (fr' := (112, [(0, .ref 49), (1, .int (xs 3)), (2, .int (xs 4)), (3, .int (xs 5))], [.int 0, .int (xs 3), .ref 56], (((((((((((((((((ah_w S z f1 f2 f3 g1 g2 0 a b s1 s2 0 0 (vp_updL (fun _ => 0) 0 1)) : ai_H).set 5 (.inl (0, S, .inl (upd g1 (xs 3).toNatClampNeg 0)))) : ai_H).set 6 (.inl (0, S, .inl (upd (fun _ => 0) (xs 3).toNatClampNeg (xs 4))))) : ai_H).set 7 (.inl (0, S, .inl (upd (fun _ => 0) (xs 3).toNatClampNeg (xs 5))))) : ai_H).set 8 (.inl (0, S, .inl (upd (fun _ => 0) (xs 3).toNatClampNeg (xs 4))))) : ai_H).set 51 (.inl (0, 64, .inl (upd s1 (xs 3).toNatClampNeg 0)))) : ai_H).set 52 (.inl (0, 64, .inl (upd (fun _ => 0) (xs 3).toNatClampNeg (xs 4))))) : ai_H).set 53 (.inl (0, 64, .inl (upd (fun _ => 0) (xs 3).toNatClampNeg (xs 5))))) : ai_H).set 54 (.inl (0, 64, .inl (upd (fun _ => 0) (xs 3).toNatClampNeg (xs 4))))), true, 0, 0)) rfl ?_
  refine go_ias0 rfl rfl hj rfl ?_
  refine go_n 1 (fr' := (114, [(0, .ref 49), (1, .int (xs 3)), (2, .int (xs 4)), (3, .int (xs 5))], [.int 1], (((((((((((((((((ah_w S z f1 f2 f3 g1 g2 0 a b s1 s2 0 0 (vp_updL (fun _ => 0) 0 1)) : ai_H).set 5 (.inl (0, S, .inl (upd g1 (xs 3).toNatClampNeg 0)))) : ai_H).set 6 (.inl (0, S, .inl (upd (fun _ => 0) (xs 3).toNatClampNeg (xs 4))))) : ai_H).set 7 (.inl (0, S, .inl (upd (fun _ => 0) (xs 3).toNatClampNeg (xs 5))))) : ai_H).set 8 (.inl (0, S, .inl (upd (fun _ => 0) (xs 3).toNatClampNeg (xs 4))))) : ai_H).set 51 (.inl (0, 64, .inl (upd s1 (xs 3).toNatClampNeg 0)))) : ai_H).set 52 (.inl (0, 64, .inl (upd (fun _ => 0) (xs 3).toNatClampNeg (xs 4))))) : ai_H).set 53 (.inl (0, 64, .inl (upd (fun _ => 0) (xs 3).toNatClampNeg (xs 5))))) : ai_H).set 54 (.inl (0, 64, .inl (upd (fun _ => 0) (xs 3).toNatClampNeg (xs 4))))), true, 0, 0)) rfl ?_
  refine go_rt (i := .ireturn) (tg := []) rfl ?_
  rfl
set_option maxRecDepth 20000 in
theorem pl_house_5_9_thrown {xs : Nat → Int32} {S : Nat} {z : Int32} {f1 f2 f3 g1 g2 s1 s2 : Nat → Int32} {a b : Nat} (hk0 : ¬ xs 3 < 0) (hkz : xs 3 < z) (hkm : xs 3 < nI a * nI b) (hi : ai_in (xs 3) S = true) (hj : ai_in (xs 3) 64 = true) (hg1 : g1 (xs 3).toNatClampNeg = -1) (hg2 : g2 (xs 3).toNatClampNeg = -1) (hs1 : s1 (xs 3).toNatClampNeg = -1) (hs2 : s2 (xs 3).toNatClampNeg = -1) (h1 : ¬ xs 4 < 1) (h2 : ¬ 9 < xs 4) (h3 : ¬ xs 5 < 0) (h4 : ¬ 7 < xs 5) : ai_Ev an_ms an_lk (8, xs) 35 12 52 [.ref 49] (((((((((((((((((ah_w S z f1 f2 f3 g1 g2 0 a b s1 s2 0 0 (vp_updL (fun _ => 0) 0 1)) : ai_H).set 5 (.inl (0, S, .inl (upd g1 (xs 3).toNatClampNeg 0)))) : ai_H).set 6 (.inl (0, S, .inl (upd (fun _ => 0) (xs 3).toNatClampNeg (xs 4))))) : ai_H).set 7 (.inl (0, S, .inl (upd (fun _ => 0) (xs 3).toNatClampNeg (xs 5))))) : ai_H).set 8 (.inl (0, S, .inl (upd (fun _ => 0) (xs 3).toNatClampNeg (xs 4))))) : ai_H).set 51 (.inl (0, 64, .inl (upd s1 (xs 3).toNatClampNeg 0)))) : ai_H).set 52 (.inl (0, 64, .inl (upd (fun _ => 0) (xs 3).toNatClampNeg (xs 4))))) : ai_H).set 53 (.inl (0, 64, .inl (upd (fun _ => 0) (xs 3).toNatClampNeg (xs 5))))) : ai_H).set 54 (.inl (0, 64, .inl (upd (fun _ => 0) (xs 3).toNatClampNeg (xs 4))))) true (.inl (some (.int 0), (((((((((((((((((ah_w S z f1 f2 f3 g1 g2 0 a b s1 s2 0 0 (vp_updL (fun _ => 0) 0 1)) : ai_H).set 5 (.inl (0, S, .inl (upd g1 (xs 3).toNatClampNeg 0)))) : ai_H).set 6 (.inl (0, S, .inl (upd (fun _ => 0) (xs 3).toNatClampNeg (xs 4))))) : ai_H).set 7 (.inl (0, S, .inl (upd (fun _ => 0) (xs 3).toNatClampNeg (xs 5))))) : ai_H).set 8 (.inl (0, S, .inl (upd (fun _ => 0) (xs 3).toNatClampNeg (xs 4))))) : ai_H).set 51 (.inl (0, 64, .inl (upd s1 (xs 3).toNatClampNeg 0)))) : ai_H).set 52 (.inl (0, 64, .inl (upd (fun _ => 0) (xs 3).toNatClampNeg (xs 4))))) : ai_H).set 53 (.inl (0, 64, .inl (upd (fun _ => 0) (xs 3).toNatClampNeg (xs 5))))) : ai_H).set 54 (.inl (0, 64, .inl (upd (fun _ => 0) (xs 3).toNatClampNeg (xs 4))))), true, 0, 0)) := by
  refine ev_of (M := an_X10_thrown) rfl (Nat.le_of_ble_eq_true rfl) ?_
  refine go_n 1 (fr' := (1, [(0, .ref 49)], [.ref 49], (((((((((((((((((ah_w S z f1 f2 f3 g1 g2 0 a b s1 s2 0 0 (vp_updL (fun _ => 0) 0 1)) : ai_H).set 5 (.inl (0, S, .inl (upd g1 (xs 3).toNatClampNeg 0)))) : ai_H).set 6 (.inl (0, S, .inl (upd (fun _ => 0) (xs 3).toNatClampNeg (xs 4))))) : ai_H).set 7 (.inl (0, S, .inl (upd (fun _ => 0) (xs 3).toNatClampNeg (xs 5))))) : ai_H).set 8 (.inl (0, S, .inl (upd (fun _ => 0) (xs 3).toNatClampNeg (xs 4))))) : ai_H).set 51 (.inl (0, 64, .inl (upd s1 (xs 3).toNatClampNeg 0)))) : ai_H).set 52 (.inl (0, 64, .inl (upd (fun _ => 0) (xs 3).toNatClampNeg (xs 4))))) : ai_H).set 53 (.inl (0, 64, .inl (upd (fun _ => 0) (xs 3).toNatClampNeg (xs 5))))) : ai_H).set 54 (.inl (0, 64, .inl (upd (fun _ => 0) (xs 3).toNatClampNeg (xs 4))))), true, 0, 0)) rfl ?_
  refine go_get rfl rfl rfl rfl ?_
  refine go_rt (i := .ireturn) (tg := []) rfl ?_
  rfl
set_option maxRecDepth 20000 in
theorem pl_house_5 {xs : Nat → Int32} {S : Nat} {z : Int32} {f1 f2 f3 g1 g2 s1 s2 : Nat → Int32} {a b : Nat} {ns : Nat} (hk0 : ¬ xs 3 < 0) (hkz : xs 3 < z) (hkm : xs 3 < nI a * nI b) (hi : ai_in (xs 3) S = true) (hj : ai_in (xs 3) 64 = true) (hg1 : g1 (xs 3).toNatClampNeg = -1) (hg2 : g2 (xs 3).toNatClampNeg = -1) (hs1 : s1 (xs 3).toNatClampNeg = -1) (hs2 : s2 (xs 3).toNatClampNeg = -1) (h1 : ¬ xs 4 < 1) (h2 : ¬ 9 < xs 4) (h3 : ¬ xs 5 < 0) (h4 : ¬ 7 < xs 5) : pl_ok xs (140, [(0, .ref 1000000), (1, .ref 0), (2, .ref 49), (3, .ref 85), (4, .int 2)], [], (ah_w S z f1 f2 f3 g1 g2 0 a b s1 s2 0 0 (fun _ => 0)), true, 86, ns) ns := by
  refine pl_mk (h' := (((((((((((((((((ah_w S z f1 f2 f3 g1 g2 0 a b s1 s2 0 0 (vp_updL (fun _ => 0) 0 1)) : ai_H).set 5 (.inl (0, S, .inl (upd g1 (xs 3).toNatClampNeg 0)))) : ai_H).set 6 (.inl (0, S, .inl (upd (fun _ => 0) (xs 3).toNatClampNeg (xs 4))))) : ai_H).set 7 (.inl (0, S, .inl (upd (fun _ => 0) (xs 3).toNatClampNeg (xs 5))))) : ai_H).set 8 (.inl (0, S, .inl (upd (fun _ => 0) (xs 3).toNatClampNeg (xs 4))))) : ai_H).set 51 (.inl (0, 64, .inl (upd s1 (xs 3).toNatClampNeg 0)))) : ai_H).set 52 (.inl (0, 64, .inl (upd (fun _ => 0) (xs 3).toNatClampNeg (xs 4))))) : ai_H).set 53 (.inl (0, 64, .inl (upd (fun _ => 0) (xs 3).toNatClampNeg (xs 5))))) : ai_H).set 54 (.inl (0, 64, .inl (upd (fun _ => 0) (xs 3).toNatClampNeg (xs 4)))))) (ex' := true) (nc := 86) (ns' := ns) ?_ (by omega) (by omega)
  refine go_n 17 (fr' := (160, [(0, .ref 1000000), (1, .ref 0), (2, .ref 49), (3, .ref 85), (4, .int 2)], [.ref 85, .int (xs 5), .int (xs 4), .int (xs 3), .ref 0], (ah_w S z f1 f2 f3 g1 g2 0 a b s1 s2 0 0 (fun _ => 0)), true, 86, ns)) rfl ?_
  refine go_call (q := 82) (M1 := an_L_house) rfl rfl (by decide) rfl trivial trivial (pl_house_5_1_house hk0 hkz hkm hi hj hg1 hg2 hs1 hs2 h1 h2 h3 h4) ?_
  refine go_eq (fr' := (163, [(0, .ref 1000000), (1, .ref 0), (2, .ref 49), (3, .ref 85), (4, .int 2)], [.int 0], (((((((((ah_w S z f1 f2 f3 g1 g2 0 a b s1 s2 0 0 (vp_updL (fun _ => 0) 0 1)) : ai_H).set 5 (.inl (0, S, .inl (upd g1 (xs 3).toNatClampNeg 0)))) : ai_H).set 6 (.inl (0, S, .inl (upd (fun _ => 0) (xs 3).toNatClampNeg (xs 4))))) : ai_H).set 7 (.inl (0, S, .inl (upd (fun _ => 0) (xs 3).toNatClampNeg (xs 5))))) : ai_H).set 8 (.inl (0, S, .inl (upd (fun _ => 0) (xs 3).toNatClampNeg (xs 4))))), true, 86, ns)) rfl ?_
  refine go_n 17 (fr' := (184, [(0, .ref 1000000), (1, .ref 0), (2, .ref 49), (3, .ref 85), (4, .int 2), (5, .int 0)], [.int (xs 5), .int (xs 4), .int (xs 3), .ref 49], (((((((((ah_w S z f1 f2 f3 g1 g2 0 a b s1 s2 0 0 (vp_updL (fun _ => 0) 0 1)) : ai_H).set 5 (.inl (0, S, .inl (upd g1 (xs 3).toNatClampNeg 0)))) : ai_H).set 6 (.inl (0, S, .inl (upd (fun _ => 0) (xs 3).toNatClampNeg (xs 4))))) : ai_H).set 7 (.inl (0, S, .inl (upd (fun _ => 0) (xs 3).toNatClampNeg (xs 5))))) : ai_H).set 8 (.inl (0, S, .inl (upd (fun _ => 0) (xs 3).toNatClampNeg (xs 4))))), true, 86, ns)) rfl ?_
  refine go_call (q := 56) (M1 := an_X10_house) rfl rfl (by decide) rfl ⟨_, rfl⟩ trivial (pl_house_5_7_house hk0 hkz hkm hi hj hg1 hg2 hs1 hs2 h1 h2 h3 h4) ?_
  refine go_eq (fr' := (187, [(0, .ref 1000000), (1, .ref 0), (2, .ref 49), (3, .ref 85), (4, .int 2), (5, .int 0)], [.int 1], (((((((((((((((((ah_w S z f1 f2 f3 g1 g2 0 a b s1 s2 0 0 (vp_updL (fun _ => 0) 0 1)) : ai_H).set 5 (.inl (0, S, .inl (upd g1 (xs 3).toNatClampNeg 0)))) : ai_H).set 6 (.inl (0, S, .inl (upd (fun _ => 0) (xs 3).toNatClampNeg (xs 4))))) : ai_H).set 7 (.inl (0, S, .inl (upd (fun _ => 0) (xs 3).toNatClampNeg (xs 5))))) : ai_H).set 8 (.inl (0, S, .inl (upd (fun _ => 0) (xs 3).toNatClampNeg (xs 4))))) : ai_H).set 51 (.inl (0, 64, .inl (upd s1 (xs 3).toNatClampNeg 0)))) : ai_H).set 52 (.inl (0, 64, .inl (upd (fun _ => 0) (xs 3).toNatClampNeg (xs 4))))) : ai_H).set 53 (.inl (0, 64, .inl (upd (fun _ => 0) (xs 3).toNatClampNeg (xs 5))))) : ai_H).set 54 (.inl (0, 64, .inl (upd (fun _ => 0) (xs 3).toNatClampNeg (xs 4))))), true, 86, ns)) rfl ?_
  refine go_n 2 (fr' := (190, [(0, .ref 1000000), (1, .ref 0), (2, .ref 49), (3, .ref 85), (4, .int 2), (5, .int 0), (6, .int 1)], [.ref 49], (((((((((((((((((ah_w S z f1 f2 f3 g1 g2 0 a b s1 s2 0 0 (vp_updL (fun _ => 0) 0 1)) : ai_H).set 5 (.inl (0, S, .inl (upd g1 (xs 3).toNatClampNeg 0)))) : ai_H).set 6 (.inl (0, S, .inl (upd (fun _ => 0) (xs 3).toNatClampNeg (xs 4))))) : ai_H).set 7 (.inl (0, S, .inl (upd (fun _ => 0) (xs 3).toNatClampNeg (xs 5))))) : ai_H).set 8 (.inl (0, S, .inl (upd (fun _ => 0) (xs 3).toNatClampNeg (xs 4))))) : ai_H).set 51 (.inl (0, 64, .inl (upd s1 (xs 3).toNatClampNeg 0)))) : ai_H).set 52 (.inl (0, 64, .inl (upd (fun _ => 0) (xs 3).toNatClampNeg (xs 4))))) : ai_H).set 53 (.inl (0, 64, .inl (upd (fun _ => 0) (xs 3).toNatClampNeg (xs 5))))) : ai_H).set 54 (.inl (0, 64, .inl (upd (fun _ => 0) (xs 3).toNatClampNeg (xs 4))))), true, 86, ns)) rfl ?_
  refine go_call (q := 52) (M1 := an_X10_thrown) rfl rfl (by decide) rfl ⟨_, rfl⟩ trivial (pl_house_5_9_thrown hk0 hkz hkm hi hj hg1 hg2 hs1 hs2 h1 h2 h3 h4) ?_
  refine go_eq (fr' := (193, [(0, .ref 1000000), (1, .ref 0), (2, .ref 49), (3, .ref 85), (4, .int 2), (5, .int 0), (6, .int 1)], [.int 0], (((((((((((((((((ah_w S z f1 f2 f3 g1 g2 0 a b s1 s2 0 0 (vp_updL (fun _ => 0) 0 1)) : ai_H).set 5 (.inl (0, S, .inl (upd g1 (xs 3).toNatClampNeg 0)))) : ai_H).set 6 (.inl (0, S, .inl (upd (fun _ => 0) (xs 3).toNatClampNeg (xs 4))))) : ai_H).set 7 (.inl (0, S, .inl (upd (fun _ => 0) (xs 3).toNatClampNeg (xs 5))))) : ai_H).set 8 (.inl (0, S, .inl (upd (fun _ => 0) (xs 3).toNatClampNeg (xs 4))))) : ai_H).set 51 (.inl (0, 64, .inl (upd s1 (xs 3).toNatClampNeg 0)))) : ai_H).set 52 (.inl (0, 64, .inl (upd (fun _ => 0) (xs 3).toNatClampNeg (xs 4))))) : ai_H).set 53 (.inl (0, 64, .inl (upd (fun _ => 0) (xs 3).toNatClampNeg (xs 5))))) : ai_H).set 54 (.inl (0, 64, .inl (upd (fun _ => 0) (xs 3).toNatClampNeg (xs 4))))), true, 86, ns)) rfl ?_
  refine go_n 12 (fr' := (219, [(0, .ref 1000000), (1, .ref 0), (2, .ref 49), (3, .ref 85), (4, .int 2), (5, .int 0), (6, .int 1)], [.int (lg_cmp 1 1)], (((((((((((((((((ah_w S z f1 f2 f3 g1 g2 0 a b s1 s2 0 0 (vp_updL (fun _ => 0) 0 1)) : ai_H).set 5 (.inl (0, S, .inl (upd g1 (xs 3).toNatClampNeg 0)))) : ai_H).set 6 (.inl (0, S, .inl (upd (fun _ => 0) (xs 3).toNatClampNeg (xs 4))))) : ai_H).set 7 (.inl (0, S, .inl (upd (fun _ => 0) (xs 3).toNatClampNeg (xs 5))))) : ai_H).set 8 (.inl (0, S, .inl (upd (fun _ => 0) (xs 3).toNatClampNeg (xs 4))))) : ai_H).set 51 (.inl (0, 64, .inl (upd s1 (xs 3).toNatClampNeg 0)))) : ai_H).set 52 (.inl (0, 64, .inl (upd (fun _ => 0) (xs 3).toNatClampNeg (xs 4))))) : ai_H).set 53 (.inl (0, 64, .inl (upd (fun _ => 0) (xs 3).toNatClampNeg (xs 5))))) : ai_H).set 54 (.inl (0, 64, .inl (upd (fun _ => 0) (xs 3).toNatClampNeg (xs 4))))), true, 86, ns)) rfl ?_
  refine go_if_eq (t := 224) rfl (fun q1 => ?_) (fun q1 => absurd (lg_self _) q1)
  refine go_n 1 (fr' := (1174, [(0, .ref 1000000), (1, .ref 0), (2, .ref 49), (3, .ref 85), (4, .int 2), (5, .int 0), (6, .int 1)], [], (((((((((((((((((ah_w S z f1 f2 f3 g1 g2 0 a b s1 s2 0 0 (vp_updL (fun _ => 0) 0 1)) : ai_H).set 5 (.inl (0, S, .inl (upd g1 (xs 3).toNatClampNeg 0)))) : ai_H).set 6 (.inl (0, S, .inl (upd (fun _ => 0) (xs 3).toNatClampNeg (xs 4))))) : ai_H).set 7 (.inl (0, S, .inl (upd (fun _ => 0) (xs 3).toNatClampNeg (xs 5))))) : ai_H).set 8 (.inl (0, S, .inl (upd (fun _ => 0) (xs 3).toNatClampNeg (xs 4))))) : ai_H).set 51 (.inl (0, 64, .inl (upd s1 (xs 3).toNatClampNeg 0)))) : ai_H).set 52 (.inl (0, 64, .inl (upd (fun _ => 0) (xs 3).toNatClampNeg (xs 4))))) : ai_H).set 53 (.inl (0, 64, .inl (upd (fun _ => 0) (xs 3).toNatClampNeg (xs 5))))) : ai_H).set 54 (.inl (0, 64, .inl (upd (fun _ => 0) (xs 3).toNatClampNeg (xs 4))))), true, 86, ns)) rfl ?_
  exact pl_end2
