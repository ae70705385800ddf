set_option maxRecDepth 20000 in
theorem pl_cell_0_4_has {xs : Nat → Int32} {S : Nat} {z : Int32} {f1 f2 f3 g1 g2 s1 s2 : Nat → Int32} {a b : Nat} (hk0 : ¬ xs 3 < 0) (hkz : xs 3 < z) (hkm : xs 3 < nI a * nI b) (hi : ai_in (xs 3) S = true) (hj : ai_in (xs 3) 64 = true) (hg1 : g1 (xs 3).toNatClampNeg = -1) (hg2 : g2 (xs 3).toNatClampNeg = -1) (hs1 : s1 (xs 3).toNatClampNeg = -1) (hs2 : s2 (xs 3).toNatClampNeg = -1) (hw : xs 4 = 0) : ai_Ev an_ms an_lk (8, xs) 35 9 2 [.ref 1, .int (xs 3)] (ah_w S z f1 f2 f3 g1 g2 0 a b s1 s2 0 0 (fun _ => 0)) true (.inl (some (.int 1), (ah_w S z f1 f2 f3 g1 g2 0 a b s1 s2 0 0 (fun _ => 0)), true, 0, 0)) := by
  refine ev_of (M := an_X0_has) rfl (Nat.le_of_ble_eq_true rfl) ?_
  refine go_n 1 (fr' := (1, [(0, .ref 1), (1, .int (xs 3))], [.int (xs 3)], (ah_w S z f1 f2 f3 g1 g2 0 a b s1 s2 0 0 (fun _ => 0)), true, 0, 0)) rfl ?_
  refine go_if_lt (t := 16) rfl (fun q1 => absurd q1 hk0) (fun q1 => ?_)
  refine go_n 2 (fr' := (6, [(0, .ref 1), (1, .int (xs 3))], [.ref 1, .int (xs 3)], (ah_w S z f1 f2 f3 g1 g2 0 a b s1 s2 0 0 (fun _ => 0)), true, 0, 0)) rfl ?_
  refine go_get rfl rfl rfl rfl ?_
  refine go_ic_ge (t := 16) rfl (fun q2 => absurd q2 (Int32.not_le.mpr hkz)) (fun q2 => ?_)
  refine go_n 2 (fr' := (17, [(0, .ref 1), (1, .int (xs 3))], [.int 1], (ah_w S z f1 f2 f3 g1 g2 0 a b s1 s2 0 0 (fun _ => 0)), true, 0, 0)) rfl ?_
  refine go_rt (i := .ireturn) (tg := []) rfl ?_
  rfl
set_option maxRecDepth 20000 in
theorem pl_cell_0_3_needCell {xs : Nat → Int32} {S : Nat} {z : Int32} {f1 f2 f3 g1 g2 s1 s2 : Nat → Int32} {a b : Nat} (hk0 : ¬ xs 3 < 0) (hkz : xs 3 < z) (hkm : xs 3 < nI a * nI b) (hi : ai_in (xs 3) S = true) (hj : ai_in (xs 3) 64 = true) (hg1 : g1 (xs 3).toNatClampNeg = -1) (hg2 : g2 (xs 3).toNatClampNeg = -1) (hs1 : s1 (xs 3).toNatClampNeg = -1) (hs2 : s2 (xs 3).toNatClampNeg = -1) (hw : xs 4 = 0) : ai_Ev an_ms an_lk (8, xs) 35 10 41 [.ref 0, .int (xs 3)] (ah_w S z f1 f2 f3 g1 g2 0 a b s1 s2 0 0 (fun _ => 0)) true (.inl (none, (ah_w S z f1 f2 f3 g1 g2 0 a b s1 s2 0 0 (fun _ => 0)), true, 0, 0)) := by
  refine ev_of (M := an_X9_needCell) rfl (Nat.le_of_ble_eq_true rfl) ?_
  refine go_n 1 (fr' := (1, [(0, .ref 0), (1, .int (xs 3))], [.ref 0], (ah_w S z f1 f2 f3 g1 g2 0 a b s1 s2 0 0 (fun _ => 0)), true, 0, 0)) rfl ?_
  refine go_get rfl rfl rfl rfl ?_
  refine go_n 1 (fr' := (5, [(0, .ref 0), (1, .int (xs 3))], [.int (xs 3), .ref 1], (ah_w S z f1 f2 f3 g1 g2 0 a b s1 s2 0 0 (fun _ => 0)), true, 0, 0)) rfl ?_
  refine go_call (q := 2) (M1 := an_X0_has) rfl rfl (by decide) rfl ⟨_, rfl⟩ trivial (pl_cell_0_4_has hk0 hkz hkm hi hj hg1 hg2 hs1 hs2 hw) ?_
  refine go_eq (fr' := (8, [(0, .ref 0), (1, .int (xs 3))], [.int 1], (ah_w S z f1 f2 f3 g1 g2 0 a b s1 s2 0 0 (fun _ => 0)), true, 0, 0)) rfl ?_
  refine go_n 1 (fr' := (21, [(0, .ref 0), (1, .int (xs 3))], [], (ah_w S z f1 f2 f3 g1 g2 0 a b s1 s2 0 0 (fun _ => 0)), true, 0, 0)) rfl ?_
  refine go_rt (i := .return_) (tg := []) rfl ?_
  rfl
set_option maxRecDepth 20000 in
theorem pl_cell_0_2_cell {xs : Nat → Int32} {S : Nat} {z : Int32} {f1 f2 f3 g1 g2 s1 s2 : Nat → Int32} {a b : Nat} (hk0 : ¬ xs 3 < 0) (hkz : xs 3 < z) (hkm : xs 3 < nI a * nI b) (hi : ai_in (xs 3) S = true) (hj : ai_in (xs 3) 64 = true) (hg1 : g1 (xs 3).toNatClampNeg = -1) (hg2 : g2 (xs 3).toNatClampNeg = -1) (hs1 : s1 (xs 3).toNatClampNeg = -1) (hs2 : s2 (xs 3).toNatClampNeg = -1) (hw : xs 4 = 0) : ai_Ev an_ms an_lk (8, xs) 35 11 36 [.ref 0, .int (xs 3), .int 0] (ah_w S z f1 f2 f3 g1 g2 0 a b s1 s2 0 0 (fun _ => 0)) true (.inl (some (.int (-1)), (ah_w S z f1 f2 f3 g1 g2 0 a b s1 s2 0 0 (fun _ => 0)), true, 0, 0)) := by
  refine ev_of (M := an_X9_cell) rfl (Nat.le_of_ble_eq_true rfl) ?_
  refine go_n 2 (fr' := (2, [(0, .ref 0), (1, .int (xs 3)), (2, .int 0)], [.int (xs 3), .ref 0], (ah_w S z f1 f2 f3 g1 g2 0 a b s1 s2 0 0 (fun _ => 0)), true, 0, 0)) rfl ?_
  refine go_call (q := 41) (M1 := an_X9_needCell) rfl rfl (by decide) rfl ⟨_, rfl⟩ trivial (pl_cell_0_3_needCell hk0 hkz hkm hi hj hg1 hg2 hs1 hs2 hw) ?_
  refine go_eq (fr' := (5, [(0, .ref 0), (1, .int (xs 3)), (2, .int 0)], [], (ah_w S z f1 f2 f3 g1 g2 0 a b s1 s2 0 0 (fun _ => 0)), true, 0, 0)) rfl ?_
  refine go_n 1 (fr' := (6, [(0, .ref 0), (1, .int (xs 3)), (2, .int 0)], [.int 0], (ah_w S z f1 f2 f3 g1 g2 0 a b s1 s2 0 0 (fun _ => 0)), true, 0, 0)) rfl ?_
  refine go_tb (t := 52) rfl 0 (by decide) (by decide) rfl ?_
  refine go_n 1 (fr' := (53, [(0, .ref 0), (1, .int (xs 3)), (2, .int 0)], [.ref 0], (ah_w S z f1 f2 f3 g1 g2 0 a b s1 s2 0 0 (fun _ => 0)), true, 0, 0)) rfl ?_
  refine go_get rfl rfl rfl rfl ?_
  refine go_get rfl rfl rfl rfl ?_
  refine go_n 1 (fr' := (60, [(0, .ref 0), (1, .int (xs 3)), (2, .int 0)], [.int (xs 3), .ref 5], (ah_w S z f1 f2 f3 g1 g2 0 a b s1 s2 0 0 (fun _ => 0)), true, 0, 0)) rfl ?_
  refine go_ial rfl (by decide) rfl hi ?_
  rw [hg1]
  refine go_rt (i := .ireturn) (tg := []) rfl ?_
  rfl
set_option maxRecDepth 20000 in
theorem pl_cell_0_1_cell_ {xs : Nat → Int32} {S : Nat} {z : Int32} {f1 f2 f3 g1 g2 s1 s2 : Nat → Int32} {a b : Nat} (hk0 : ¬ xs 3 < 0) (hkz : xs 3 < z) (hkm : xs 3 < nI a * nI b) (hi : ai_in (xs 3) S = true) (hj : ai_in (xs 3) 64 = true) (hg1 : g1 (xs 3).toNatClampNeg = -1) (hg2 : g2 (xs 3).toNatClampNeg = -1) (hs1 : s1 (xs 3).toNatClampNeg = -1) (hs2 : s2 (xs 3).toNatClampNeg = -1) (hw : xs 4 = 0) : ai_Ev an_ms an_lk (8, xs) 35 12 91 [.ref 0, .int (xs 3), .int 0, .ref 85] (ah_w S z f1 f2 f3 g1 g2 0 a b s1 s2 0 0 (fun _ => 0)) true (.inl (some (.int 0), (ah_w S z f1 f2 f3 g1 g2 0 a b s1 s2 0 0 (vp_updL (fun _ => 0) 0 (((-1) : Int32).toInt64))), true, 0, 0)) := by
  refine ev_of (M := an_L_cell_) rfl (Nat.le_of_ble_eq_true rfl) ?_
  refine go_n 5 (fr' := (5, [(0, .ref 0), (1, .int (xs 3)), (2, .int 0), (3, .ref 85)], [.int 0, .int (xs 3), .ref 0, .int 0, .ref 85], (ah_w S z f1 f2 f3 g1 g2 0 a b s1 s2 0 0 (fun _ => 0)), true, 0, 0)) rfl ?_
  refine go_call (q := 36) (M1 := an_X9_cell) rfl rfl (by decide) rfl ⟨_, rfl⟩ trivial (pl_cell_0_2_cell hk0 hkz hkm hi hj hg1 hg2 hs1 hs2 hw) ?_
  refine go_eq (fr' := (8, [(0, .ref 0), (1, .int (xs 3)), (2, .int 0), (3, .ref 85)], [.int (-1), .int 0, .ref 85], (ah_w S z f1 f2 f3 g1 g2 0 a b s1 s2 0 0 (fun _ => 0)), true, 0, 0)) rfl ?_
  refine go_n 4 (fr' := (18, [(0, .ref 0), (1, .int (xs 3)), (2, .int 0), (3, .ref 85)], [.int 0], (ah_w S z f1 f2 f3 g1 g2 0 a b s1 s2 0 0 (vp_updL (fun _ => 0) 0 (((-1) : Int32).toInt64))), true, 0, 0)) rfl ?_
  refine go_rt (i := .ireturn) (tg := []) rfl ?_
  rfl
set_option maxRecDepth 20000 in
theorem pl_cell_0_6_isCell {xs : Nat → Int32} {S : Nat} {z : Int32} {f1 f2 f3 g1 g2 s1 s2 : Nat → Int32} {a b : Nat} (hk0 : ¬ xs 3 < 0) (hkz : xs 3 < z) (hkm : xs 3 < nI a * nI b) (hi : ai_in (xs 3) S = true) (hj : ai_in (xs 3) 64 = true) (hg1 : g1 (xs 3).toNatClampNeg = -1) (hg2 : g2 (xs 3).toNatClampNeg = -1) (hs1 : s1 (xs 3).toNatClampNeg = -1) (hs2 : s2 (xs 3).toNatClampNeg = -1) (hw : xs 4 = 0) : ai_Ev an_ms an_lk (8, xs) 35 11 54 [.ref 49, .int (xs 3)] (ah_w S z f1 f2 f3 g1 g2 0 a b s1 s2 0 0 (vp_updL (fun _ => 0) 0 (((-1) : Int32).toInt64))) true (.inl (some (.int 1), (ah_w S z f1 f2 f3 g1 g2 0 a b s1 s2 0 0 (vp_updL (fun _ => 0) 0 (((-1) : Int32).toInt64))), true, 0, 0)) := by
  refine ev_of (M := an_X10_isCell) rfl (Nat.le_of_ble_eq_true rfl) ?_
  refine go_n 1 (fr' := (1, [(0, .ref 49), (1, .int (xs 3))], [.int (xs 3)], (ah_w S z f1 f2 f3 g1 g2 0 a b s1 s2 0 0 (vp_updL (fun _ => 0) 0 (((-1) : Int32).toInt64))), true, 0, 0)) rfl ?_
  refine go_if_lt (t := 21) rfl (fun q1 => absurd q1 hk0) (fun q1 => ?_)
  refine go_n 2 (fr' := (6, [(0, .ref 49), (1, .int (xs 3))], [.ref 49, .int (xs 3)], (ah_w S z f1 f2 f3 g1 g2 0 a b s1 s2 0 0 (vp_updL (fun _ => 0) 0 (((-1) : Int32).toInt64))), true, 0, 0)) rfl ?_
  refine go_get rfl rfl rfl rfl ?_
  refine go_n 1 (fr' := (10, [(0, .ref 49), (1, .int (xs 3))], [.ref 49, .int (nI a), .int (xs 3)], (ah_w S z f1 f2 f3 g1 g2 0 a b s1 s2 0 0 (vp_updL (fun _ => 0) 0 (((-1) : Int32).toInt64))), true, 0, 0)) rfl ?_
  refine go_get rfl rfl rfl rfl ?_
  refine go_n 1 (fr' := (14, [(0, .ref 49), (1, .int (xs 3))], [.int ((nI a) * (nI b)), .int (xs 3)], (ah_w S z f1 f2 f3 g1 g2 0 a b s1 s2 0 0 (vp_updL (fun _ => 0) 0 (((-1) : Int32).toInt64))), true, 0, 0)) rfl ?_
  refine go_ic_ge (t := 21) rfl (fun q2 => absurd q2 (Int32.not_le.mpr hkm)) (fun q2 => ?_)
  refine go_n 2 (fr' := (22, [(0, .ref 49), (1, .int (xs 3))], [.int 1], (ah_w S z f1 f2 f3 g1 g2 0 a b s1 s2 0 0 (vp_updL (fun _ => 0) 0 (((-1) : Int32).toInt64))), true, 0, 0)) rfl ?_
  refine go_rt (i := .ireturn) (tg := []) rfl ?_
  rfl
set_option maxRecDepth 20000 in
theorem pl_cell_0_5_cell {xs : Nat → Int32} {S : Nat} {z : Int32} {f1 f2 f3 g1 g2 s1 s2 : Nat → Int32} {a b : Nat} (hk0 : ¬ xs 3 < 0) (hkz : xs 3 < z) (hkm : xs 3 < nI a * nI b) (hi : ai_in (xs 3) S = true) (hj : ai_in (xs 3) 64 = true) (hg1 : g1 (xs 3).toNatClampNeg = -1) (hg2 : g2 (xs 3).toNatClampNeg = -1) (hs1 : s1 (xs 3).toNatClampNeg = -1) (hs2 : s2 (xs 3).toNatClampNeg = -1) (hw : xs 4 = 0) : ai_Ev an_ms an_lk (8, xs) 35 12 75 [.ref 49, .int (xs 3), .int 0] (ah_w S z f1 f2 f3 g1 g2 0 a b s1 s2 0 0 (vp_updL (fun _ => 0) 0 (((-1) : Int32).toInt64))) true (.inl (some (.int (-1)), (ah_w S z f1 f2 f3 g1 g2 0 a b s1 s2 0 0 (vp_updL (fun _ => 0) 0 (((-1) : Int32).toInt64))), true, 0, 0)) := by
  refine ev_of (M := an_X10_cell) rfl (Nat.le_of_ble_eq_true rfl) ?_
  refine go_n 2 (fr' := (2, [(0, .ref 49), (1, .int (xs 3)), (2, .int 0)], [.int 0, .ref 49], (ah_w S z f1 f2 f3 g1 g2 0 a b s1 s2 0 0 (vp_updL (fun _ => 0) 0 (((-1) : Int32).toInt64))), true, 0, 0)) rfl ?_
  refine go_put rfl rfl rfl (Nat.le_of_ble_eq_true rfl) rfl ?_
  refine go_n 2 (fr' := (7, [(0, .ref 49), (1, .int (xs 3)), (2, .int 0)], [.int (xs 3), .ref 49], (ah_w S z f1 f2 f3 g1 g2 0 a b s1 s2 0 0 (vp_updL (fun _ => 0) 0 (((-1) : Int32).toInt64))), true, 0, 0)) rfl ?_
  refine go_call (q := 54) (M1 := an_X10_isCell) rfl rfl (by decide) rfl ⟨_, rfl⟩ trivial (pl_cell_0_6_isCell hk0 hkz hkm hi hj hg1 hg2 hs1 hs2 hw) ?_
  refine go_eq (fr' := (10, [(0, .ref 49), (1, .int (xs 3)), (2, .int 0)], [.int 1], (ah_w S z f1 f2 f3 g1 g2 0 a b s1 s2 0 0 (vp_updL (fun _ => 0) 0 (((-1) : Int32).toInt64))), true, 0, 0)) rfl ?_
  refine go_n 2 (fr' := (19, [(0, .ref 49), (1, .int (xs 3)), (2, .int 0)], [.int 0], (ah_w S z f1 f2 f3 g1 g2 0 a b s1 s2 0 0 (vp_updL (fun _ => 0) 0 (((-1) : Int32).toInt64))), true, 0, 0)) rfl ?_
  refine go_tb (t := 64) rfl 0 (by decide) (by decide) rfl ?_
  refine go_n 1 (fr' := (65, [(0, .ref 49), (1, .int (xs 3)), (2, .int 0)], [.ref 49], (ah_w S z f1 f2 f3 g1 g2 0 a b s1 s2 0 0 (vp_updL (fun _ => 0) 0 (((-1) : Int32).toInt64))), true, 0, 0)) rfl ?_
  refine go_get rfl rfl rfl rfl ?_
  refine go_n 1 (fr' := (69, [(0, .ref 49), (1, .int (xs 3)), (2, .int 0)], [.int (xs 3), .ref 51], (ah_w S z f1 f2 f3 g1 g2 0 a b s1 s2 0 0 (vp_updL (fun _ => 0) 0 (((-1) : Int32).toInt64))), true, 0, 0)) rfl ?_
  refine go_ial rfl (by decide) rfl hj ?_
  rw [hs1]
  refine go_rt (i := .ireturn) (tg := []) rfl ?_
  rfl
set_option maxRecDepth 20000 in
theorem pl_cell_0_7_thrown {xs : Nat → Int32} {S : Nat} {z : Int32} {f1 f2 f3 g1 g2 s1 s2 : Nat → Int32} {a b : Nat} (hk0 : ¬ xs 3 < 0) (hkz : xs 3 < z) (hkm : xs 3 < nI a * nI b) (hi : ai_in (xs 3) S = true) (hj : ai_in (xs 3) 64 = true) (hg1 : g1 (xs 3).toNatClampNeg = -1) (hg2 : g2 (xs 3).toNatClampNeg = -1) (hs1 : s1 (xs 3).toNatClampNeg = -1) (hs2 : s2 (xs 3).toNatClampNeg = -1) (hw : xs 4 = 0) : ai_Ev an_ms an_lk (8, xs) 35 12 52 [.ref 49] (ah_w S z f1 f2 f3 g1 g2 0 a b s1 s2 0 0 (vp_updL (fun _ => 0) 0 (((-1) : Int32).toInt64))) true (.inl (some (.int 0), (ah_w S z f1 f2 f3 g1 g2 0 a b s1 s2 0 0 (vp_updL (fun _ => 0) 0 (((-1) : Int32).toInt64))), true, 0, 0)) := by
  refine ev_of (M := an_X10_thrown) rfl (Nat.le_of_ble_eq_true rfl) ?_
  refine go_n 1 (fr' := (1, [(0, .ref 49)], [.ref 49], (ah_w S z f1 f2 f3 g1 g2 0 a b s1 s2 0 0 (vp_updL (fun _ => 0) 0 (((-1) : Int32).toInt64))), true, 0, 0)) rfl ?_
  refine go_get rfl rfl rfl rfl ?_
  refine go_rt (i := .ireturn) (tg := []) rfl ?_
  rfl
set_option maxRecDepth 20000 in
theorem pl_cell_0 {xs : Nat → Int32} {S : Nat} {z : Int32} {f1 f2 f3 g1 g2 s1 s2 : Nat → Int32} {a b : Nat} {ns : Nat} (hk0 : ¬ xs 3 < 0) (hkz : xs 3 < z) (hkm : xs 3 < nI a * nI b) (hi : ai_in (xs 3) S = true) (hj : ai_in (xs 3) 64 = true) (hg1 : g1 (xs 3).toNatClampNeg = -1) (hg2 : g2 (xs 3).toNatClampNeg = -1) (hs1 : s1 (xs 3).toNatClampNeg = -1) (hs2 : s2 (xs 3).toNatClampNeg = -1) (hw : xs 4 = 0) : pl_ok xs (870, [(0, .ref 1000000), (1, .ref 0), (2, .ref 49), (3, .ref 85), (4, .int 2)], [], (ah_w S z f1 f2 f3 g1 g2 0 a b s1 s2 0 0 (fun _ => 0)), true, 86, ns) ns := by
  refine pl_mk (h' := (ah_w S z f1 f2 f3 g1 g2 0 a b s1 s2 0 0 (vp_updL (fun _ => 0) 0 (((-1) : Int32).toInt64)))) (ex' := true) (nc := 86) (ns' := ns) ?_ (by omega) (by omega)
  refine go_n 11 (fr' := (883, [(0, .ref 1000000), (1, .ref 0), (2, .ref 49), (3, .ref 85), (4, .int 2)], [.int (xs 4), .int (xs 3), .ref 0], (ah_w S z f1 f2 f3 g1 g2 0 a b s1 s2 0 0 (fun _ => 0)), true, 86, ns)) rfl ?_
  rw [hw]
  refine go_n 1 (fr' := (884, [(0, .ref 1000000), (1, .ref 0), (2, .ref 49), (3, .ref 85), (4, .int 2)], [.ref 85, .int 0, .int (xs 3), .ref 0], (ah_w S z f1 f2 f3 g1 g2 0 a b s1 s2 0 0 (fun _ => 0)), true, 86, ns)) rfl ?_
  refine go_call (q := 91) (M1 := an_L_cell_) rfl rfl (by decide) rfl trivial trivial (pl_cell_0_1_cell_ hk0 hkz hkm hi hj hg1 hg2 hs1 hs2 hw) ?_
  refine go_eq (fr' := (887, [(0, .ref 1000000), (1, .ref 0), (2, .ref 49), (3, .ref 85), (4, .int 2)], [.int 0], (ah_w S z f1 f2 f3 g1 g2 0 a b s1 s2 0 0 (vp_updL (fun _ => 0) 0 (((-1) : Int32).toInt64))), true, 86, ns)) rfl ?_
  refine go_n 12 (fr' := (902, [(0, .ref 1000000), (1, .ref 0), (2, .ref 49), (3, .ref 85), (4, .int 2), (5, .int 0)], [.int (xs 4), .int (xs 3), .ref 49], (ah_w S z f1 f2 f3 g1 g2 0 a b s1 s2 0 0 (vp_updL (fun _ => 0) 0 (((-1) : Int32).toInt64))), true, 86, ns)) rfl ?_
  rw [hw]
  refine go_call (q := 75) (M1 := an_X10_cell) rfl rfl (by decide) rfl ⟨_, rfl⟩ trivial (pl_cell_0_5_cell hk0 hkz hkm hi hj hg1 hg2 hs1 hs2 hw) ?_
  refine go_eq (fr' := (905, [(0, .ref 1000000), (1, .ref 0), (2, .ref 49), (3, .ref 85), (4, .int 2), (5, .int 0)], [.int (-1)], (ah_w S z f1 f2 f3 g1 g2 0 a b s1 s2 0 0 (vp_updL (fun _ => 0) 0 (((-1) : Int32).toInt64))), true, 86, ns)) rfl ?_
  refine go_n 2 (fr' := (908, [(0, .ref 1000000), (1, .ref 0), (2, .ref 49), (3, .ref 85), (4, .int 2), (5, .int 0), (6, .int (-1))], [.ref 49], (ah_w S z f1 f2 f3 g1 g2 0 a b s1 s2 0 0 (vp_updL (fun _ => 0) 0 (((-1) : Int32).toInt64))), true, 86, ns)) rfl ?_
  refine go_call (q := 52) (M1 := an_X10_thrown) rfl rfl (by decide) rfl ⟨_, rfl⟩ trivial (pl_cell_0_7_thrown hk0 hkz hkm hi hj hg1 hg2 hs1 hs2 hw) ?_
  refine go_eq (fr' := (911, [(0, .ref 1000000), (1, .ref 0), (2, .ref 49), (3, .ref 85), (4, .int 2), (5, .int 0), (6, .int (-1))], [.int 0], (ah_w S z f1 f2 f3 g1 g2 0 a b s1 s2 0 0 (vp_updL (fun _ => 0) 0 (((-1) : Int32).toInt64))), true, 86, ns)) rfl ?_
  refine go_n 10 (fr' := (930, [(0, .ref 1000000), (1, .ref 0), (2, .ref 49), (3, .ref 85), (4, .int 2), (5, .int 0), (6, .int (-1))], [.int (lg_cmp (((-1) : Int32).toInt64) (((-1) : Int32).toInt64))], (ah_w S z f1 f2 f3 g1 g2 0 a b s1 s2 0 0 (vp_updL (fun _ => 0) 0 (((-1) : Int32).toInt64))), true, 86, ns)) rfl ?_
  refine go_if_eq (t := 935) rfl (fun q1 => ?_) (fun q1 => absurd (lg_self _) q1)
  refine go_n 1 (fr' := (1174, [(0, .ref 1000000), (1, .ref 0), (2, .ref 49), (3, .ref 85), (4, .int 2), (5, .int 0), (6, .int (-1))], [], (ah_w S z f1 f2 f3 g1 g2 0 a b s1 s2 0 0 (vp_updL (fun _ => 0) 0 (((-1) : Int32).toInt64))), true, 86, ns)) rfl ?_
  exact pl_end2
set_option maxRecDepth 20000 in
theorem pl_cell_1_4_has {xs : Nat → Int32} {S : Nat} {z : Int32} {f1 f2 f3 g1 g2 s1 s2 : Nat → Int32} {a b : Nat} (hk0 : ¬ xs 3 < 0) (hkz : xs 3 < z) (hkm : xs 3 < nI a * nI b) (hi : ai_in (xs 3) S = true) (hj : ai_in (xs 3) 64 = true) (hg1 : g1 (xs 3).toNatClampNeg = -1) (hg2 : g2 (xs 3).toNatClampNeg = -1) (hs1 : s1 (xs 3).toNatClampNeg = -1) (hs2 : s2 (xs 3).toNatClampNeg = -1) (hw : xs 4 = 1) : ai_Ev an_ms an_lk (8, xs) 35 9 2 [.ref 1, .int (xs 3)] (ah_w S z f1 f2 f3 g1 g2 0 a b s1 s2 0 0 (fun _ => 0)) true (.inl (some (.int 1), (ah_w S z f1 f2 f3 g1 g2 0 a b s1 s2 0 0 (fun _ => 0)), true, 0, 0)) := by
  refine ev_of (M := an_X0_has) rfl (Nat.le_of_ble_eq_true rfl) ?_
  refine go_n 1 (fr' := (1, [(0, .ref 1), (1, .int (xs 3))], [.int (xs 3)], (ah_w S z f1 f2 f3 g1 g2 0 a b s1 s2 0 0 (fun _ => 0)), true, 0, 0)) rfl ?_
  refine go_if_lt (t := 16) rfl (fun q1 => absurd q1 hk0) (fun q1 => ?_)
  refine go_n 2 (fr' := (6, [(0, .ref 1), (1, .int (xs 3))], [.ref 1, .int (xs 3)], (ah_w S z f1 f2 f3 g1 g2 0 a b s1 s2 0 0 (fun _ => 0)), true, 0, 0)) rfl ?_
  refine go_get rfl rfl rfl rfl ?_
  refine go_ic_ge (t := 16) rfl (fun q2 => absurd q2 (Int32.not_le.mpr hkz)) (fun q2 => ?_)
  refine go_n 2 (fr' := (17, [(0, .ref 1), (1, .int (xs 3))], [.int 1], (ah_w S z f1 f2 f3 g1 g2 0 a b s1 s2 0 0 (fun _ => 0)), true, 0, 0)) rfl ?_
  refine go_rt (i := .ireturn) (tg := []) rfl ?_
  rfl
set_option maxRecDepth 20000 in
theorem pl_cell_1_3_needCell {xs : Nat → Int32} {S : Nat} {z : Int32} {f1 f2 f3 g1 g2 s1 s2 : Nat → Int32} {a b : Nat} (hk0 : ¬ xs 3 < 0) (hkz : xs 3 < z) (hkm : xs 3 < nI a * nI b) (hi : ai_in (xs 3) S = true) (hj : ai_in (xs 3) 64 = true) (hg1 : g1 (xs 3).toNatClampNeg = -1) (hg2 : g2 (xs 3).toNatClampNeg = -1) (hs1 : s1 (xs 3).toNatClampNeg = -1) (hs2 : s2 (xs 3).toNatClampNeg = -1) (hw : xs 4 = 1) : ai_Ev an_ms an_lk (8, xs) 35 10 41 [.ref 0, .int (xs 3)] (ah_w S z f1 f2 f3 g1 g2 0 a b s1 s2 0 0 (fun _ => 0)) true (.inl (none, (ah_w S z f1 f2 f3 g1 g2 0 a b s1 s2 0 0 (fun _ => 0)), true, 0, 0)) := by
  refine ev_of (M := an_X9_needCell) rfl (Nat.le_of_ble_eq_true rfl) ?_
  refine go_n 1 (fr' := (1, [(0, .ref 0), (1, .int (xs 3))], [.ref 0], (ah_w S z f1 f2 f3 g1 g2 0 a b s1 s2 0 0 (fun _ => 0)), true, 0, 0)) rfl ?_
  refine go_get rfl rfl rfl rfl ?_
  refine go_n 1 (fr' := (5, [(0, .ref 0), (1, .int (xs 3))], [.int (xs 3), .ref 1], (ah_w S z f1 f2 f3 g1 g2 0 a b s1 s2 0 0 (fun _ => 0)), true, 0, 0)) rfl ?_
  refine go_call (q := 2) (M1 := an_X0_has) rfl rfl (by decide) rfl ⟨_, rfl⟩ trivial (pl_cell_1_4_has hk0 hkz hkm hi hj hg1 hg2 hs1 hs2 hw) ?_
  refine go_eq (fr' := (8, [(0, .ref 0), (1, .int (xs 3))], [.int 1], (ah_w S z f1 f2 f3 g1 g2 0 a b s1 s2 0 0 (fun _ => 0)), true, 0, 0)) rfl ?_
  refine go_n 1 (fr' := (21, [(0, .ref 0), (1, .int (xs 3))], [], (ah_w S z f1 f2 f3 g1 g2 0 a b s1 s2 0 0 (fun _ => 0)), true, 0, 0)) rfl ?_
  refine go_rt (i := .return_) (tg := []) rfl ?_
  rfl
set_option maxRecDepth 20000 in
theorem pl_cell_1_2_cell {xs : Nat → Int32} {S : Nat} {z : Int32} {f1 f2 f3 g1 g2 s1 s2 : Nat → Int32} {a b : Nat} (hk0 : ¬ xs 3 < 0) (hkz : xs 3 < z) (hkm : xs 3 < nI a * nI b) (hi : ai_in (xs 3) S = true) (hj : ai_in (xs 3) 64 = true) (hg1 : g1 (xs 3).toNatClampNeg = -1) (hg2 : g2 (xs 3).toNatClampNeg = -1) (hs1 : s1 (xs 3).toNatClampNeg = -1) (hs2 : s2 (xs 3).toNatClampNeg = -1) (hw : xs 4 = 1) : ai_Ev an_ms an_lk (8, xs) 35 11 36 [.ref 0, .int (xs 3), .int 1] (ah_w S z f1 f2 f3 g1 g2 0 a b s1 s2 0 0 (fun _ => 0)) true (.inl (some (.int 0), (ah_w S z f1 f2 f3 g1 g2 0 a b s1 s2 0 0 (fun _ => 0)), true, 0, 0)) := by
  refine ev_of (M := an_X9_cell) rfl (Nat.le_of_ble_eq_true rfl) ?_
  refine go_n 2 (fr' := (2, [(0, .ref 0), (1, .int (xs 3)), (2, .int 1)], [.int (xs 3), .ref 0], (ah_w S z f1 f2 f3 g1 g2 0 a b s1 s2 0 0 (fun _ => 0)), true, 0, 0)) rfl ?_
  refine go_call (q := 41) (M1 := an_X9_needCell) rfl rfl (by decide) rfl ⟨_, rfl⟩ trivial (pl_cell_1_3_needCell hk0 hkz hkm hi hj hg1 hg2 hs1 hs2 hw) ?_
  refine go_eq (fr' := (5, [(0, .ref 0), (1, .int (xs 3)), (2, .int 1)], [], (ah_w S z f1 f2 f3 g1 g2 0 a b s1 s2 0 0 (fun _ => 0)), true, 0, 0)) rfl ?_
  refine go_n 1 (fr' := (6, [(0, .ref 0), (1, .int (xs 3)), (2, .int 1)], [.int 1], (ah_w S z f1 f2 f3 g1 g2 0 a b s1 s2 0 0 (fun _ => 0)), true, 0, 0)) rfl ?_
  refine go_tb (t := 62) rfl 1 (by decide) (by decide) rfl ?_
  refine go_n 1 (fr' := (63, [(0, .ref 0), (1, .int (xs 3)), (2, .int 1)], [.ref 0], (ah_w S z f1 f2 f3 g1 g2 0 a b s1 s2 0 0 (fun _ => 0)), true, 0, 0)) rfl ?_
  refine go_get rfl rfl rfl rfl ?_
  refine go_get rfl rfl rfl rfl ?_
  refine go_n 1 (fr' := (70, [(0, .ref 0), (1, .int (xs 3)), (2, .int 1)], [.int (xs 3), .ref 6], (ah_w S z f1 f2 f3 g1 g2 0 a b s1 s2 0 0 (fun _ => 0)), true, 0, 0)) rfl ?_
  refine go_ial rfl (by decide) rfl hi ?_
  refine go_rt (i := .ireturn) (tg := []) rfl ?_
  rfl
set_option maxRecDepth 20000 in
theorem pl_cell_1_1_cell_ {xs : Nat → Int32} {S : Nat} {z : Int32} {f1 f2 f3 g1 g2 s1 s2 : Nat → Int32} {a b : Nat} (hk0 : ¬ xs 3 < 0) (hkz : xs 3 < z) (hkm : xs 3 < nI a * nI b) (hi : ai_in (xs 3) S = true) (hj : ai_in (xs 3) 64 = true) (hg1 : g1 (xs 3).toNatClampNeg = -1) (hg2 : g2 (xs 3).toNatClampNeg = -1) (hs1 : s1 (xs 3).toNatClampNeg = -1) (hs2 : s2 (xs 3).toNatClampNeg = -1) (hw : xs 4 = 1) : ai_Ev an_ms an_lk (8, xs) 35 12 91 [.ref 0, .int (xs 3), .int 1, .ref 85] (ah_w S z f1 f2 f3 g1 g2 0 a b s1 s2 0 0 (fun _ => 0)) true (.inl (some (.int 0), (ah_w S z f1 f2 f3 g1 g2 0 a b s1 s2 0 0 (vp_updL (fun _ => 0) 0 ((0 : Int32).toInt64))), true, 0, 0)) := by
  refine ev_of (M := an_L_cell_) rfl (Nat.le_of_ble_eq_true rfl) ?_
  refine go_n 5 (fr' := (5, [(0, .ref 0), (1, .int (xs 3)), (2, .int 1), (3, .ref 85)], [.int 1, .int (xs 3), .ref 0, .int 0, .ref 85], (ah_w S z f1 f2 f3 g1 g2 0 a b s1 s2 0 0 (fun _ => 0)), true, 0, 0)) rfl ?_
  refine go_call (q := 36) (M1 := an_X9_cell) rfl rfl (by decide) rfl ⟨_, rfl⟩ trivial (pl_cell_1_2_cell hk0 hkz hkm hi hj hg1 hg2 hs1 hs2 hw) ?_
  refine go_eq (fr' := (8, [(0, .ref 0), (1, .int (xs 3)), (2, .int 1), (3, .ref 85)], [.int 0, .int 0, .ref 85], (ah_w S z f1 f2 f3 g1 g2 0 a b s1 s2 0 0 (fun _ => 0)), true, 0, 0)) rfl ?_
  refine go_n 4 (fr' := (18, [(0, .ref 0), (1, .int (xs 3)), (2, .int 1), (3, .ref 85)], [.int 0], (ah_w S z f1 f2 f3 g1 g2 0 a b s1 s2 0 0 (vp_updL (fun _ => 0) 0 ((0 : Int32).toInt64))), true, 0, 0)) rfl ?_
  refine go_rt (i := .ireturn) (tg := []) rfl ?_
  rfl
set_option maxRecDepth 20000 in
theorem pl_cell_1_6_isCell {xs : Nat → Int32} {S : Nat} {z : Int32} {f1 f2 f3 g1 g2 s1 s2 : Nat → Int32} {a b : Nat} (hk0 : ¬ xs 3 < 0) (hkz : xs 3 < z) (hkm : xs 3 < nI a * nI b) (hi : ai_in (xs 3) S = true) (hj : ai_in (xs 3) 64 = true) (hg1 : g1 (xs 3).toNatClampNeg = -1) (hg2 : g2 (xs 3).toNatClampNeg = -1) (hs1 : s1 (xs 3).toNatClampNeg = -1) (hs2 : s2 (xs 3).toNatClampNeg = -1) (hw : xs 4 = 1) : ai_Ev an_ms an_lk (8, xs) 35 11 54 [.ref 49, .int (xs 3)] (ah_w S z f1 f2 f3 g1 g2 0 a b s1 s2 0 0 (vp_updL (fun _ => 0) 0 ((0 : Int32).toInt64))) true (.inl (some (.int 1), (ah_w S z f1 f2 f3 g1 g2 0 a b s1 s2 0 0 (vp_updL (fun _ => 0) 0 ((0 : Int32).toInt64))), true, 0, 0)) := by
  refine ev_of (M := an_X10_isCell) rfl (Nat.le_of_ble_eq_true rfl) ?_
  refine go_n 1 (fr' := (1, [(0, .ref 49), (1, .int (xs 3))], [.int (xs 3)], (ah_w S z f1 f2 f3 g1 g2 0 a b s1 s2 0 0 (vp_updL (fun _ => 0) 0 ((0 : Int32).toInt64))), true, 0, 0)) rfl ?_
  refine go_if_lt (t := 21) rfl (fun q1 => absurd q1 hk0) (fun q1 => ?_)
  refine go_n 2 (fr' := (6, [(0, .ref 49), (1, .int (xs 3))], [.ref 49, .int (xs 3)], (ah_w S z f1 f2 f3 g1 g2 0 a b s1 s2 0 0 (vp_updL (fun _ => 0) 0 ((0 : Int32).toInt64))), true, 0, 0)) rfl ?_
  refine go_get rfl rfl rfl rfl ?_
  refine go_n 1 (fr' := (10, [(0, .ref 49), (1, .int (xs 3))], [.ref 49, .int (nI a), .int (xs 3)], (ah_w S z f1 f2 f3 g1 g2 0 a b s1 s2 0 0 (vp_updL (fun _ => 0) 0 ((0 : Int32).toInt64))), true, 0, 0)) rfl ?_
  refine go_get rfl rfl rfl rfl ?_
  refine go_n 1 (fr' := (14, [(0, .ref 49), (1, .int (xs 3))], [.int ((nI a) * (nI b)), .int (xs 3)], (ah_w S z f1 f2 f3 g1 g2 0 a b s1 s2 0 0 (vp_updL (fun _ => 0) 0 ((0 : Int32).toInt64))), true, 0, 0)) rfl ?_
  refine go_ic_ge (t := 21) rfl (fun q2 => absurd q2 (Int32.not_le.mpr hkm)) (fun q2 => ?_)
  refine go_n 2 (fr' := (22, [(0, .ref 49), (1, .int (xs 3))], [.int 1], (ah_w S z f1 f2 f3 g1 g2 0 a b s1 s2 0 0 (vp_updL (fun _ => 0) 0 ((0 : Int32).toInt64))), true, 0, 0)) rfl ?_
  refine go_rt (i := .ireturn) (tg := []) rfl ?_
  rfl
set_option maxRecDepth 20000 in
theorem pl_cell_1_5_cell {xs : Nat → Int32} {S : Nat} {z : Int32} {f1 f2 f3 g1 g2 s1 s2 : Nat → Int32} {a b : Nat} (hk0 : ¬ xs 3 < 0) (hkz : xs 3 < z) (hkm : xs 3 < nI a * nI b) (hi : ai_in (xs 3) S = true) (hj : ai_in (xs 3) 64 = true) (hg1 : g1 (xs 3).toNatClampNeg = -1) (hg2 : g2 (xs 3).toNatClampNeg = -1) (hs1 : s1 (xs 3).toNatClampNeg = -1) (hs2 : s2 (xs 3).toNatClampNeg = -1) (hw : xs 4 = 1) : ai_Ev an_ms an_lk (8, xs) 35 12 75 [.ref 49, .int (xs 3), .int 1] (ah_w S z f1 f2 f3 g1 g2 0 a b s1 s2 0 0 (vp_updL (fun _ => 0) 0 ((0 : Int32).toInt64))) true (.inl (some (.int 0), (ah_w S z f1 f2 f3 g1 g2 0 a b s1 s2 0 0 (vp_updL (fun _ => 0) 0 ((0 : Int32).toInt64))), true, 0, 0)) := by
  refine ev_of (M := an_X10_cell) rfl (Nat.le_of_ble_eq_true rfl) ?_
  refine go_n 2 (fr' := (2, [(0, .ref 49), (1, .int (xs 3)), (2, .int 1)], [.int 0, .ref 49], (ah_w S z f1 f2 f3 g1 g2 0 a b s1 s2 0 0 (vp_updL (fun _ => 0) 0 ((0 : Int32).toInt64))), true, 0, 0)) rfl ?_
  refine go_put rfl rfl rfl (Nat.le_of_ble_eq_true rfl) rfl ?_
  refine go_n 2 (fr' := (7, [(0, .ref 49), (1, .int (xs 3)), (2, .int 1)], [.int (xs 3), .ref 49], (ah_w S z f1 f2 f3 g1 g2 0 a b s1 s2 0 0 (vp_updL (fun _ => 0) 0 ((0 : Int32).toInt64))), true, 0, 0)) rfl ?_
  refine go_call (q := 54) (M1 := an_X10_isCell) rfl rfl (by decide) rfl ⟨_, rfl⟩ trivial (pl_cell_1_6_isCell hk0 hkz hkm hi hj hg1 hg2 hs1 hs2 hw) ?_
  refine go_eq (fr' := (10, [(0, .ref 49), (1, .int (xs 3)), (2, .int 1)], [.int 1], (ah_w S z f1 f2 f3 g1 g2 0 a b s1 s2 0 0 (vp_updL (fun _ => 0) 0 ((0 : Int32).toInt64))), true, 0, 0)) rfl ?_
  refine go_n 2 (fr' := (19, [(0, .ref 49), (1, .int (xs 3)), (2, .int 1)], [.int 1], (ah_w S z f1 f2 f3 g1 g2 0 a b s1 s2 0 0 (vp_updL (fun _ => 0) 0 ((0 : Int32).toInt64))), true, 0, 0)) rfl ?_
  refine go_tb (t := 71) rfl 1 (by decide) (by decide) rfl ?_
  refine go_n 1 (fr' := (72, [(0, .ref 49), (1, .int (xs 3)), (2, .int 1)], [.ref 49], (ah_w S z f1 f2 f3 g1 g2 0 a b s1 s2 0 0 (vp_updL (fun _ => 0) 0 ((0 : Int32).toInt64))), true, 0, 0)) rfl ?_
  refine go_get rfl rfl rfl rfl ?_
  refine go_n 1 (fr' := (76, [(0, .ref 49), (1, .int (xs 3)), (2, .int 1)], [.int (xs 3), .ref 52], (ah_w S z f1 f2 f3 g1 g2 0 a b s1 s2 0 0 (vp_updL (fun _ => 0) 0 ((0 : Int32).toInt64))), true, 0, 0)) rfl ?_
  refine go_ial rfl (by decide) rfl hj ?_
  refine go_rt (i := .ireturn) (tg := []) rfl ?_
  rfl
set_option maxRecDepth 20000 in
theorem pl_cell_1_7_thrown {xs : Nat → Int32} {S : Nat} {z : Int32} {f1 f2 f3 g1 g2 s1 s2 : Nat → Int32} {a b : Nat} (hk0 : ¬ xs 3 < 0) (hkz : xs 3 < z) (hkm : xs 3 < nI a * nI b) (hi : ai_in (xs 3) S = true) (hj : ai_in (xs 3) 64 = true) (hg1 : g1 (xs 3).toNatClampNeg = -1) (hg2 : g2 (xs 3).toNatClampNeg = -1) (hs1 : s1 (xs 3).toNatClampNeg = -1) (hs2 : s2 (xs 3).toNatClampNeg = -1) (hw : xs 4 = 1) : ai_Ev an_ms an_lk (8, xs) 35 12 52 [.ref 49] (ah_w S z f1 f2 f3 g1 g2 0 a b s1 s2 0 0 (vp_updL (fun _ => 0) 0 ((0 : Int32).toInt64))) true (.inl (some (.int 0), (ah_w S z f1 f2 f3 g1 g2 0 a b s1 s2 0 0 (vp_updL (fun _ => 0) 0 ((0 : Int32).toInt64))), true, 0, 0)) := by
  refine ev_of (M := an_X10_thrown) rfl (Nat.le_of_ble_eq_true rfl) ?_
  refine go_n 1 (fr' := (1, [(0, .ref 49)], [.ref 49], (ah_w S z f1 f2 f3 g1 g2 0 a b s1 s2 0 0 (vp_updL (fun _ => 0) 0 ((0 : Int32).toInt64))), true, 0, 0)) rfl ?_
  refine go_get rfl rfl rfl rfl ?_
  refine go_rt (i := .ireturn) (tg := []) rfl ?_
  rfl
set_option maxRecDepth 20000 in
theorem pl_cell_1 {xs : Nat → Int32} {S : Nat} {z : Int32} {f1 f2 f3 g1 g2 s1 s2 : Nat → Int32} {a b : Nat} {ns : Nat} (hk0 : ¬ xs 3 < 0) (hkz : xs 3 < z) (hkm : xs 3 < nI a * nI b) (hi : ai_in (xs 3) S = true) (hj : ai_in (xs 3) 64 = true) (hg1 : g1 (xs 3).toNatClampNeg = -1) (hg2 : g2 (xs 3).toNatClampNeg = -1) (hs1 : s1 (xs 3).toNatClampNeg = -1) (hs2 : s2 (xs 3).toNatClampNeg = -1) (hw : xs 4 = 1) : pl_ok xs (870, [(0, .ref 1000000), (1, .ref 0), (2, .ref 49), (3, .ref 85), (4, .int 2)], [], (ah_w S z f1 f2 f3 g1 g2 0 a b s1 s2 0 0 (fun _ => 0)), true, 86, ns) ns := by
  refine pl_mk (h' := (ah_w S z f1 f2 f3 g1 g2 0 a b s1 s2 0 0 (vp_updL (fun _ => 0) 0 ((0 : Int32).toInt64)))) (ex' := true) (nc := 86) (ns' := ns) ?_ (by omega) (by omega)
  refine go_n 11 (fr' := (883, [(0, .ref 1000000), (1, .ref 0), (2, .ref 49), (3, .ref 85), (4, .int 2)], [.int (xs 4), .int (xs 3), .ref 0], (ah_w S z f1 f2 f3 g1 g2 0 a b s1 s2 0 0 (fun _ => 0)), true, 86, ns)) rfl ?_
  rw [hw]
  refine go_n 1 (fr' := (884, [(0, .ref 1000000), (1, .ref 0), (2, .ref 49), (3, .ref 85), (4, .int 2)], [.ref 85, .int 1, .int (xs 3), .ref 0], (ah_w S z f1 f2 f3 g1 g2 0 a b s1 s2 0 0 (fun _ => 0)), true, 86, ns)) rfl ?_
  refine go_call (q := 91) (M1 := an_L_cell_) rfl rfl (by decide) rfl trivial trivial (pl_cell_1_1_cell_ hk0 hkz hkm hi hj hg1 hg2 hs1 hs2 hw) ?_
  refine go_eq (fr' := (887, [(0, .ref 1000000), (1, .ref 0), (2, .ref 49), (3, .ref 85), (4, .int 2)], [.int 0], (ah_w S z f1 f2 f3 g1 g2 0 a b s1 s2 0 0 (vp_updL (fun _ => 0) 0 ((0 : Int32).toInt64))), true, 86, ns)) rfl ?_
  refine go_n 12 (fr' := (902, [(0, .ref 1000000), (1, .ref 0), (2, .ref 49), (3, .ref 85), (4, .int 2), (5, .int 0)], [.int (xs 4), .int (xs 3), .ref 49], (ah_w S z f1 f2 f3 g1 g2 0 a b s1 s2 0 0 (vp_updL (fun _ => 0) 0 ((0 : Int32).toInt64))), true, 86, ns)) rfl ?_
  rw [hw]
  refine go_call (q := 75) (M1 := an_X10_cell) rfl rfl (by decide) rfl ⟨_, rfl⟩ trivial (pl_cell_1_5_cell hk0 hkz hkm hi hj hg1 hg2 hs1 hs2 hw) ?_
  refine go_eq (fr' := (905, [(0, .ref 1000000), (1, .ref 0), (2, .ref 49), (3, .ref 85), (4, .int 2), (5, .int 0)], [.int 0], (ah_w S z f1 f2 f3 g1 g2 0 a b s1 s2 0 0 (vp_updL (fun _ => 0) 0 ((0 : Int32).toInt64))), true, 86, ns)) rfl ?_
  refine go_n 2 (fr' := (908, [(0, .ref 1000000), (1, .ref 0), (2, .ref 49), (3, .ref 85), (4, .int 2), (5, .int 0), (6, .int 0)], [.ref 49], (ah_w S z f1 f2 f3 g1 g2 0 a b s1 s2 0 0 (vp_updL (fun _ => 0) 0 ((0 : Int32).toInt64))), true, 86, ns)) rfl ?_
  refine go_call (q := 52) (M1 := an_X10_thrown) rfl rfl (by decide) rfl ⟨_, rfl⟩ trivial (pl_cell_1_7_thrown hk0 hkz hkm hi hj hg1 hg2 hs1 hs2 hw) ?_
  refine go_eq (fr' := (911, [(0, .ref 1000000), (1, .ref 0), (2, .ref 49), (3, .ref 85), (4, .int 2), (5, .int 0), (6, .int 0)], [.int 0], (ah_w S z f1 f2 f3 g1 g2 0 a b s1 s2 0 0 (vp_updL (fun _ => 0) 0 ((0 : Int32).toInt64))), true, 86, ns)) rfl ?_
  refine go_n 10 (fr' := (930, [(0, .ref 1000000), (1, .ref 0), (2, .ref 49), (3, .ref 85), (4, .int 2), (5, .int 0), (6, .int 0)], [.int (lg_cmp ((0 : Int32).toInt64) ((0 : Int32).toInt64))], (ah_w S z f1 f2 f3 g1 g2 0 a b s1 s2 0 0 (vp_updL (fun _ => 0) 0 ((0 : Int32).toInt64))), true, 86, ns)) rfl ?_
  refine go_if_eq (t := 935) rfl (fun q1 => ?_) (fun q1 => absurd (lg_self _) q1)
  refine go_n 1 (fr' := (1174, [(0, .ref 1000000), (1, .ref 0), (2, .ref 49), (3, .ref 85), (4, .int 2), (5, .int 0), (6, .int 0)], [], (ah_w S z f1 f2 f3 g1 g2 0 a b s1 s2 0 0 (vp_updL (fun _ => 0) 0 ((0 : Int32).toInt64))), true, 86, ns)) rfl ?_
  exact pl_end2
set_option maxRecDepth 20000 in
theorem pl_cell_2_4_has {xs : Nat → Int32} {S : Nat} {z : Int32} {f1 f2 f3 g1 g2 s1 s2 : Nat → Int32} {a b : Nat} (hk0 : ¬ xs 3 < 0) (hkz : xs 3 < z) (hkm : xs 3 < nI a * nI b) (hi : ai_in (xs 3) S = true) (hj : ai_in (xs 3) 64 = true) (hg1 : g1 (xs 3).toNatClampNeg = -1) (hg2 : g2 (xs 3).toNatClampNeg = -1) (hs1 : s1 (xs 3).toNatClampNeg = -1) (hs2 : s2 (xs 3).toNatClampNeg = -1) (hw : xs 4 = 2) : ai_Ev an_ms an_lk (8, xs) 35 9 2 [.ref 1, .int (xs 3)] (ah_w S z f1 f2 f3 g1 g2 0 a b s1 s2 0 0 (fun _ => 0)) true (.inl (some (.int 1), (ah_w S z f1 f2 f3 g1 g2 0 a b s1 s2 0 0 (fun _ => 0)), true, 0, 0)) := by
  refine ev_of (M := an_X0_has) rfl (Nat.le_of_ble_eq_true rfl) ?_
  refine go_n 1 (fr' := (1, [(0, .ref 1), (1, .int (xs 3))], [.int (xs 3)], (ah_w S z f1 f2 f3 g1 g2 0 a b s1 s2 0 0 (fun _ => 0)), true, 0, 0)) rfl ?_
  refine go_if_lt (t := 16) rfl (fun q1 => absurd q1 hk0) (fun q1 => ?_)
  refine go_n 2 (fr' := (6, [(0, .ref 1), (1, .int (xs 3))], [.ref 1, .int (xs 3)], (ah_w S z f1 f2 f3 g1 g2 0 a b s1 s2 0 0 (fun _ => 0)), true, 0, 0)) rfl ?_
  refine go_get rfl rfl rfl rfl ?_
  refine go_ic_ge (t := 16) rfl (fun q2 => absurd q2 (Int32.not_le.mpr hkz)) (fun q2 => ?_)
  refine go_n 2 (fr' := (17, [(0, .ref 1), (1, .int (xs 3))], [.int 1], (ah_w S z f1 f2 f3 g1 g2 0 a b s1 s2 0 0 (fun _ => 0)), true, 0, 0)) rfl ?_
  refine go_rt (i := .ireturn) (tg := []) rfl ?_
  rfl
set_option maxRecDepth 20000 in
theorem pl_cell_2_3_needCell {xs : Nat → Int32} {S : Nat} {z : Int32} {f1 f2 f3 g1 g2 s1 s2 : Nat → Int32} {a b : Nat} (hk0 : ¬ xs 3 < 0) (hkz : xs 3 < z) (hkm : xs 3 < nI a * nI b) (hi : ai_in (xs 3) S = true) (hj : ai_in (xs 3) 64 = true) (hg1 : g1 (xs 3).toNatClampNeg = -1) (hg2 : g2 (xs 3).toNatClampNeg = -1) (hs1 : s1 (xs 3).toNatClampNeg = -1) (hs2 : s2 (xs 3).toNatClampNeg = -1) (hw : xs 4 = 2) : ai_Ev an_ms an_lk (8, xs) 35 10 41 [.ref 0, .int (xs 3)] (ah_w S z f1 f2 f3 g1 g2 0 a b s1 s2 0 0 (fun _ => 0)) true (.inl (none, (ah_w S z f1 f2 f3 g1 g2 0 a b s1 s2 0 0 (fun _ => 0)), true, 0, 0)) := by
  refine ev_of (M := an_X9_needCell) rfl (Nat.le_of_ble_eq_true rfl) ?_
  refine go_n 1 (fr' := (1, [(0, .ref 0), (1, .int (xs 3))], [.ref 0], (ah_w S z f1 f2 f3 g1 g2 0 a b s1 s2 0 0 (fun _ => 0)), true, 0, 0)) rfl ?_
  refine go_get rfl rfl rfl rfl ?_
  refine go_n 1 (fr' := (5, [(0, .ref 0), (1, .int (xs 3))], [.int (xs 3), .ref 1], (ah_w S z f1 f2 f3 g1 g2 0 a b s1 s2 0 0 (fun _ => 0)), true, 0, 0)) rfl ?_
  refine go_call (q := 2) (M1 := an_X0_has) rfl rfl (by decide) rfl ⟨_, rfl⟩ trivial (pl_cell_2_4_has hk0 hkz hkm hi hj hg1 hg2 hs1 hs2 hw) ?_
  refine go_eq (fr' := (8, [(0, .ref 0), (1, .int (xs 3))], [.int 1], (ah_w S z f1 f2 f3 g1 g2 0 a b s1 s2 0 0 (fun _ => 0)), true, 0, 0)) rfl ?_
  refine go_n 1 (fr' := (21, [(0, .ref 0), (1, .int (xs 3))], [], (ah_w S z f1 f2 f3 g1 g2 0 a b s1 s2 0 0 (fun _ => 0)), true, 0, 0)) rfl ?_
  refine go_rt (i := .return_) (tg := []) rfl ?_
  rfl
set_option maxRecDepth 20000 in
theorem pl_cell_2_2_cell {xs : Nat → Int32} {S : Nat} {z : Int32} {f1 f2 f3 g1 g2 s1 s2 : Nat → Int32} {a b : Nat} (hk0 : ¬ xs 3 < 0) (hkz : xs 3 < z) (hkm : xs 3 < nI a * nI b) (hi : ai_in (xs 3) S = true) (hj : ai_in (xs 3) 64 = true) (hg1 : g1 (xs 3).toNatClampNeg = -1) (hg2 : g2 (xs 3).toNatClampNeg = -1) (hs1 : s1 (xs 3).toNatClampNeg = -1) (hs2 : s2 (xs 3).toNatClampNeg = -1) (hw : xs 4 = 2) : ai_Ev an_ms an_lk (8, xs) 35 11 36 [.ref 0, .int (xs 3), .int 2] (ah_w S z f1 f2 f3 g1 g2 0 a b s1 s2 0 0 (fun _ => 0)) true (.inl (some (.int 0), (ah_w S z f1 f2 f3 g1 g2 0 a b s1 s2 0 0 (fun _ => 0)), true, 0, 0)) := by
  refine ev_of (M := an_X9_cell) rfl (Nat.le_of_ble_eq_true rfl) ?_
  refine go_n 2 (fr' := (2, [(0, .ref 0), (1, .int (xs 3)), (2, .int 2)], [.int (xs 3), .ref 0], (ah_w S z f1 f2 f3 g1 g2 0 a b s1 s2 0 0 (fun _ => 0)), true, 0, 0)) rfl ?_
  refine go_call (q := 41) (M1 := an_X9_needCell) rfl rfl (by decide) rfl ⟨_, rfl⟩ trivial (pl_cell_2_3_needCell hk0 hkz hkm hi hj hg1 hg2 hs1 hs2 hw) ?_
  refine go_eq (fr' := (5, [(0, .ref 0), (1, .int (xs 3)), (2, .int 2)], [], (ah_w S z f1 f2 f3 g1 g2 0 a b s1 s2 0 0 (fun _ => 0)), true, 0, 0)) rfl ?_
  refine go_n 1 (fr' := (6, [(0, .ref 0), (1, .int (xs 3)), (2, .int 2)], [.int 2], (ah_w S z f1 f2 f3 g1 g2 0 a b s1 s2 0 0 (fun _ => 0)), true, 0, 0)) rfl ?_
  refine go_tb (t := 72) rfl 2 (by decide) (by decide) rfl ?_
  refine go_n 1 (fr' := (73, [(0, .ref 0), (1, .int (xs 3)), (2, .int 2)], [.ref 0], (ah_w S z f1 f2 f3 g1 g2 0 a b s1 s2 0 0 (fun _ => 0)), true, 0, 0)) rfl ?_
  refine go_get rfl rfl rfl rfl ?_
  refine go_get rfl rfl rfl rfl ?_
  refine go_n 1 (fr' := (80, [(0, .ref 0), (1, .int (xs 3)), (2, .int 2)], [.int (xs 3), .ref 7], (ah_w S z f1 f2 f3 g1 g2 0 a b s1 s2 0 0 (fun _ => 0)), true, 0, 0)) rfl ?_
  refine go_ial rfl (by decide) rfl hi ?_
  refine go_rt (i := .ireturn) (tg := []) rfl ?_
  rfl
set_option maxRecDepth 20000 in
theorem pl_cell_2_1_cell_ {xs : Nat → Int32} {S : Nat} {z : Int32} {f1 f2 f3 g1 g2 s1 s2 : Nat → Int32} {a b : Nat} (hk0 : ¬ xs 3 < 0) (hkz : xs 3 < z) (hkm : xs 3 < nI a * nI b) (hi : ai_in (xs 3) S = true) (hj : ai_in (xs 3) 64 = true) (hg1 : g1 (xs 3).toNatClampNeg = -1) (hg2 : g2 (xs 3).toNatClampNeg = -1) (hs1 : s1 (xs 3).toNatClampNeg = -1) (hs2 : s2 (xs 3).toNatClampNeg = -1) (hw : xs 4 = 2) : ai_Ev an_ms an_lk (8, xs) 35 12 91 [.ref 0, .int (xs 3), .int 2, .ref 85] (ah_w S z f1 f2 f3 g1 g2 0 a b s1 s2 0 0 (fun _ => 0)) true (.inl (some (.int 0), (ah_w S z f1 f2 f3 g1 g2 0 a b s1 s2 0 0 (vp_updL (fun _ => 0) 0 ((0 : Int32).toInt64))), true, 0, 0)) := by
  refine ev_of (M := an_L_cell_) rfl (Nat.le_of_ble_eq_true rfl) ?_
  refine go_n 5 (fr' := (5, [(0, .ref 0), (1, .int (xs 3)), (2, .int 2), (3, .ref 85)], [.int 2, .int (xs 3), .ref 0, .int 0, .ref 85], (ah_w S z f1 f2 f3 g1 g2 0 a b s1 s2 0 0 (fun _ => 0)), true, 0, 0)) rfl ?_
  refine go_call (q := 36) (M1 := an_X9_cell) rfl rfl (by decide) rfl ⟨_, rfl⟩ trivial (pl_cell_2_2_cell hk0 hkz hkm hi hj hg1 hg2 hs1 hs2 hw) ?_
  refine go_eq (fr' := (8, [(0, .ref 0), (1, .int (xs 3)), (2, .int 2), (3, .ref 85)], [.int 0, .int 0, .ref 85], (ah_w S z f1 f2 f3 g1 g2 0 a b s1 s2 0 0 (fun _ => 0)), true, 0, 0)) rfl ?_
  refine go_n 4 (fr' := (18, [(0, .ref 0), (1, .int (xs 3)), (2, .int 2), (3, .ref 85)], [.int 0], (ah_w S z f1 f2 f3 g1 g2 0 a b s1 s2 0 0 (vp_updL (fun _ => 0) 0 ((0 : Int32).toInt64))), true, 0, 0)) rfl ?_
  refine go_rt (i := .ireturn) (tg := []) rfl ?_
  rfl
set_option maxRecDepth 20000 in
theorem pl_cell_2_6_isCell {xs : Nat → Int32} {S : Nat} {z : Int32} {f1 f2 f3 g1 g2 s1 s2 : Nat → Int32} {a b : Nat} (hk0 : ¬ xs 3 < 0) (hkz : xs 3 < z) (hkm : xs 3 < nI a * nI b) (hi : ai_in (xs 3) S = true) (hj : ai_in (xs 3) 64 = true) (hg1 : g1 (xs 3).toNatClampNeg = -1) (hg2 : g2 (xs 3).toNatClampNeg = -1) (hs1 : s1 (xs 3).toNatClampNeg = -1) (hs2 : s2 (xs 3).toNatClampNeg = -1) (hw : xs 4 = 2) : ai_Ev an_ms an_lk (8, xs) 35 11 54 [.ref 49, .int (xs 3)] (ah_w S z f1 f2 f3 g1 g2 0 a b s1 s2 0 0 (vp_updL (fun _ => 0) 0 ((0 : Int32).toInt64))) true (.inl (some (.int 1), (ah_w S z f1 f2 f3 g1 g2 0 a b s1 s2 0 0 (vp_updL (fun _ => 0) 0 ((0 : Int32).toInt64))), true, 0, 0)) := by
  refine ev_of (M := an_X10_isCell) rfl (Nat.le_of_ble_eq_true rfl) ?_
  refine go_n 1 (fr' := (1, [(0, .ref 49), (1, .int (xs 3))], [.int (xs 3)], (ah_w S z f1 f2 f3 g1 g2 0 a b s1 s2 0 0 (vp_updL (fun _ => 0) 0 ((0 : Int32).toInt64))), true, 0, 0)) rfl ?_
  refine go_if_lt (t := 21) rfl (fun q1 => absurd q1 hk0) (fun q1 => ?_)
  refine go_n 2 (fr' := (6, [(0, .ref 49), (1, .int (xs 3))], [.ref 49, .int (xs 3)], (ah_w S z f1 f2 f3 g1 g2 0 a b s1 s2 0 0 (vp_updL (fun _ => 0) 0 ((0 : Int32).toInt64))), true, 0, 0)) rfl ?_
  refine go_get rfl rfl rfl rfl ?_
  refine go_n 1 (fr' := (10, [(0, .ref 49), (1, .int (xs 3))], [.ref 49, .int (nI a), .int (xs 3)], (ah_w S z f1 f2 f3 g1 g2 0 a b s1 s2 0 0 (vp_updL (fun _ => 0) 0 ((0 : Int32).toInt64))), true, 0, 0)) rfl ?_
  refine go_get rfl rfl rfl rfl ?_
  refine go_n 1 (fr' := (14, [(0, .ref 49), (1, .int (xs 3))], [.int ((nI a) * (nI b)), .int (xs 3)], (ah_w S z f1 f2 f3 g1 g2 0 a b s1 s2 0 0 (vp_updL (fun _ => 0) 0 ((0 : Int32).toInt64))), true, 0, 0)) rfl ?_
  refine go_ic_ge (t := 21) rfl (fun q2 => absurd q2 (Int32.not_le.mpr hkm)) (fun q2 => ?_)
  refine go_n 2 (fr' := (22, [(0, .ref 49), (1, .int (xs 3))], [.int 1], (ah_w S z f1 f2 f3 g1 g2 0 a b s1 s2 0 0 (vp_updL (fun _ => 0) 0 ((0 : Int32).toInt64))), true, 0, 0)) rfl ?_
  refine go_rt (i := .ireturn) (tg := []) rfl ?_
  rfl
set_option maxRecDepth 20000 in
theorem pl_cell_2_5_cell {xs : Nat → Int32} {S : Nat} {z : Int32} {f1 f2 f3 g1 g2 s1 s2 : Nat → Int32} {a b : Nat} (hk0 : ¬ xs 3 < 0) (hkz : xs 3 < z) (hkm : xs 3 < nI a * nI b) (hi : ai_in (xs 3) S = true) (hj : ai_in (xs 3) 64 = true) (hg1 : g1 (xs 3).toNatClampNeg = -1) (hg2 : g2 (xs 3).toNatClampNeg = -1) (hs1 : s1 (xs 3).toNatClampNeg = -1) (hs2 : s2 (xs 3).toNatClampNeg = -1) (hw : xs 4 = 2) : ai_Ev an_ms an_lk (8, xs) 35 12 75 [.ref 49, .int (xs 3), .int 2] (ah_w S z f1 f2 f3 g1 g2 0 a b s1 s2 0 0 (vp_updL (fun _ => 0) 0 ((0 : Int32).toInt64))) true (.inl (some (.int 0), (ah_w S z f1 f2 f3 g1 g2 0 a b s1 s2 0 0 (vp_updL (fun _ => 0) 0 ((0 : Int32).toInt64))), true, 0, 0)) := by
  refine ev_of (M := an_X10_cell) rfl (Nat.le_of_ble_eq_true rfl) ?_
  refine go_n 2 (fr' := (2, [(0, .ref 49), (1, .int (xs 3)), (2, .int 2)], [.int 0, .ref 49], (ah_w S z f1 f2 f3 g1 g2 0 a b s1 s2 0 0 (vp_updL (fun _ => 0) 0 ((0 : Int32).toInt64))), true, 0, 0)) rfl ?_
  refine go_put rfl rfl rfl (Nat.le_of_ble_eq_true rfl) rfl ?_
  refine go_n 2 (fr' := (7, [(0, .ref 49), (1, .int (xs 3)), (2, .int 2)], [.int (xs 3), .ref 49], (ah_w S z f1 f2 f3 g1 g2 0 a b s1 s2 0 0 (vp_updL (fun _ => 0) 0 ((0 : Int32).toInt64))), true, 0, 0)) rfl ?_
  refine go_call (q := 54) (M1 := an_X10_isCell) rfl rfl (by decide) rfl ⟨_, rfl⟩ trivial (pl_cell_2_6_isCell hk0 hkz hkm hi hj hg1 hg2 hs1 hs2 hw) ?_
  refine go_eq (fr' := (10, [(0, .ref 49), (1, .int (xs 3)), (2, .int 2)], [.int 1], (ah_w S z f1 f2 f3 g1 g2 0 a b s1 s2 0 0 (vp_updL (fun _ => 0) 0 ((0 : Int32).toInt64))), true, 0, 0)) rfl ?_
  refine go_n 2 (fr' := (19, [(0, .ref 49), (1, .int (xs 3)), (2, .int 2)], [.int 2], (ah_w S z f1 f2 f3 g1 g2 0 a b s1 s2 0 0 (vp_updL (fun _ => 0) 0 ((0 : Int32).toInt64))), true, 0, 0)) rfl ?_
  refine go_tb (t := 78) rfl 2 (by decide) (by decide) rfl ?_
  refine go_n 1 (fr' := (79, [(0, .ref 49), (1, .int (xs 3)), (2, .int 2)], [.ref 49], (ah_w S z f1 f2 f3 g1 g2 0 a b s1 s2 0 0 (vp_updL (fun _ => 0) 0 ((0 : Int32).toInt64))), true, 0, 0)) rfl ?_
  refine go_get rfl rfl rfl rfl ?_
  refine go_n 1 (fr' := (83, [(0, .ref 49), (1, .int (xs 3)), (2, .int 2)], [.int (xs 3), .ref 53], (ah_w S z f1 f2 f3 g1 g2 0 a b s1 s2 0 0 (vp_updL (fun _ => 0) 0 ((0 : Int32).toInt64))), true, 0, 0)) rfl ?_
  refine go_ial rfl (by decide) rfl hj ?_
  refine go_rt (i := .ireturn) (tg := []) rfl ?_
  rfl
set_option maxRecDepth 20000 in
theorem pl_cell_2_7_thrown {xs : Nat → Int32} {S : Nat} {z : Int32} {f1 f2 f3 g1 g2 s1 s2 : Nat → Int32} {a b : Nat} (hk0 : ¬ xs 3 < 0) (hkz : xs 3 < z) (hkm : xs 3 < nI a * nI b) (hi : ai_in (xs 3) S = true) (hj : ai_in (xs 3) 64 = true) (hg1 : g1 (xs 3).toNatClampNeg = -1) (hg2 : g2 (xs 3).toNatClampNeg = -1) (hs1 : s1 (xs 3).toNatClampNeg = -1) (hs2 : s2 (xs 3).toNatClampNeg = -1) (hw : xs 4 = 2) : ai_Ev an_ms an_lk (8, xs) 35 12 52 [.ref 49] (ah_w S z f1 f2 f3 g1 g2 0 a b s1 s2 0 0 (vp_updL (fun _ => 0) 0 ((0 : Int32).toInt64))) true (.inl (some (.int 0), (ah_w S z f1 f2 f3 g1 g2 0 a b s1 s2 0 0 (vp_updL (fun _ => 0) 0 ((0 : Int32).toInt64))), true, 0, 0)) := by
  refine ev_of (M := an_X10_thrown) rfl (Nat.le_of_ble_eq_true rfl) ?_
  refine go_n 1 (fr' := (1, [(0, .ref 49)], [.ref 49], (ah_w S z f1 f2 f3 g1 g2 0 a b s1 s2 0 0 (vp_updL (fun _ => 0) 0 ((0 : Int32).toInt64))), true, 0, 0)) rfl ?_
  refine go_get rfl rfl rfl rfl ?_
  refine go_rt (i := .ireturn) (tg := []) rfl ?_
  rfl
set_option maxRecDepth 20000 in
theorem pl_cell_2 {xs : Nat → Int32} {S : Nat} {z : Int32} {f1 f2 f3 g1 g2 s1 s2 : Nat → Int32} {a b : Nat} {ns : Nat} (hk0 : ¬ xs 3 < 0) (hkz : xs 3 < z) (hkm : xs 3 < nI a * nI b) (hi : ai_in (xs 3) S = true) (hj : ai_in (xs 3) 64 = true) (hg1 : g1 (xs 3).toNatClampNeg = -1) (hg2 : g2 (xs 3).toNatClampNeg = -1) (hs1 : s1 (xs 3).toNatClampNeg = -1) (hs2 : s2 (xs 3).toNatClampNeg = -1) (hw : xs 4 = 2) : pl_ok xs (870, [(0, .ref 1000000), (1, .ref 0), (2, .ref 49), (3, .ref 85), (4, .int 2)], [], (ah_w S z f1 f2 f3 g1 g2 0 a b s1 s2 0 0 (fun _ => 0)), true, 86, ns) ns := by
  refine pl_mk (h' := (ah_w S z f1 f2 f3 g1 g2 0 a b s1 s2 0 0 (vp_updL (fun _ => 0) 0 ((0 : Int32).toInt64)))) (ex' := true) (nc := 86) (ns' := ns) ?_ (by omega) (by omega)
  refine go_n 11 (fr' := (883, [(0, .ref 1000000), (1, .ref 0), (2, .ref 49), (3, .ref 85), (4, .int 2)], [.int (xs 4), .int (xs 3), .ref 0], (ah_w S z f1 f2 f3 g1 g2 0 a b s1 s2 0 0 (fun _ => 0)), true, 86, ns)) rfl ?_
  rw [hw]
  refine go_n 1 (fr' := (884, [(0, .ref 1000000), (1, .ref 0), (2, .ref 49), (3, .ref 85), (4, .int 2)], [.ref 85, .int 2, .int (xs 3), .ref 0], (ah_w S z f1 f2 f3 g1 g2 0 a b s1 s2 0 0 (fun _ => 0)), true, 86, ns)) rfl ?_
  refine go_call (q := 91) (M1 := an_L_cell_) rfl rfl (by decide) rfl trivial trivial (pl_cell_2_1_cell_ hk0 hkz hkm hi hj hg1 hg2 hs1 hs2 hw) ?_
  refine go_eq (fr' := (887, [(0, .ref 1000000), (1, .ref 0), (2, .ref 49), (3, .ref 85), (4, .int 2)], [.int 0], (ah_w S z f1 f2 f3 g1 g2 0 a b s1 s2 0 0 (vp_updL (fun _ => 0) 0 ((0 : Int32).toInt64))), true, 86, ns)) rfl ?_
  refine go_n 12 (fr' := (902, [(0, .ref 1000000), (1, .ref 0), (2, .ref 49), (3, .ref 85), (4, .int 2), (5, .int 0)], [.int (xs 4), .int (xs 3), .ref 49], (ah_w S z f1 f2 f3 g1 g2 0 a b s1 s2 0 0 (vp_updL (fun _ => 0) 0 ((0 : Int32).toInt64))), true, 86, ns)) rfl ?_
  rw [hw]
  refine go_call (q := 75) (M1 := an_X10_cell) rfl rfl (by decide) rfl ⟨_, rfl⟩ trivial (pl_cell_2_5_cell hk0 hkz hkm hi hj hg1 hg2 hs1 hs2 hw) ?_
  refine go_eq (fr' := (905, [(0, .ref 1000000), (1, .ref 0), (2, .ref 49), (3, .ref 85), (4, .int 2), (5, .int 0)], [.int 0], (ah_w S z f1 f2 f3 g1 g2 0 a b s1 s2 0 0 (vp_updL (fun _ => 0) 0 ((0 : Int32).toInt64))), true, 86, ns)) rfl ?_
  refine go_n 2 (fr' := (908, [(0, .ref 1000000), (1, .ref 0), (2, .ref 49), (3, .ref 85), (4, .int 2), (5, .int 0), (6, .int 0)], [.ref 49], (ah_w S z f1 f2 f3 g1 g2 0 a b s1 s2 0 0 (vp_updL (fun _ => 0) 0 ((0 : Int32).toInt64))), true, 86, ns)) rfl ?_
  refine go_call (q := 52) (M1 := an_X10_thrown) rfl rfl (by decide) rfl ⟨_, rfl⟩ trivial (pl_cell_2_7_thrown hk0 hkz hkm hi hj hg1 hg2 hs1 hs2 hw) ?_
  refine go_eq (fr' := (911, [(0, .ref 1000000), (1, .ref 0), (2, .ref 49), (3, .ref 85), (4, .int 2), (5, .int 0), (6, .int 0)], [.int 0], (ah_w S z f1 f2 f3 g1 g2 0 a b s1 s2 0 0 (vp_updL (fun _ => 0) 0 ((0 : Int32).toInt64))), true, 86, ns)) rfl ?_
  refine go_n 10 (fr' := (930, [(0, .ref 1000000), (1, .ref 0), (2, .ref 49), (3, .ref 85), (4, .int 2), (5, .int 0), (6, .int 0)], [.int (lg_cmp ((0 : Int32).toInt64) ((0 : Int32).toInt64))], (ah_w S z f1 f2 f3 g1 g2 0 a b s1 s2 0 0 (vp_updL (fun _ => 0) 0 ((0 : Int32).toInt64))), true, 86, ns)) rfl ?_
  refine go_if_eq (t := 935) rfl (fun q1 => ?_) (fun q1 => absurd (lg_self _) q1)
  refine go_n 1 (fr' := (1174, [(0, .ref 1000000), (1, .ref 0), (2, .ref 49), (3, .ref 85), (4, .int 2), (5, .int 0), (6, .int 0)], [], (ah_w S z f1 f2 f3 g1 g2 0 a b s1 s2 0 0 (vp_updL (fun _ => 0) 0 ((0 : Int32).toInt64))), true, 86, ns)) rfl ?_
  exact pl_end2
set_option maxRecDepth 20000 in
theorem pl_cell_3_4_has {xs : Nat → Int32} {S : Nat} {z : Int32} {f1 f2 f3 g1 g2 s1 s2 : Nat → Int32} {a b : Nat} (hk0 : ¬ xs 3 < 0) (hkz : xs 3 < z) (hkm : xs 3 < nI a * nI b) (hi : ai_in (xs 3) S = true) (hj : ai_in (xs 3) 64 = true) (hg1 : g1 (xs 3).toNatClampNeg = -1) (hg2 : g2 (xs 3).toNatClampNeg = -1) (hs1 : s1 (xs 3).toNatClampNeg = -1) (hs2 : s2 (xs 3).toNatClampNeg = -1) (hw : xs 4 = 3) : ai_Ev an_ms an_lk (8, xs) 35 9 2 [.ref 1, .int (xs 3)] (ah_w S z f1 f2 f3 g1 g2 0 a b s1 s2 0 0 (fun _ => 0)) true (.inl (some (.int 1), (ah_w S z f1 f2 f3 g1 g2 0 a b s1 s2 0 0 (fun _ => 0)), true, 0, 0)) := by
  refine ev_of (M := an_X0_has) rfl (Nat.le_of_ble_eq_true rfl) ?_
  refine go_n 1 (fr' := (1, [(0, .ref 1), (1, .int (xs 3))], [.int (xs 3)], (ah_w S z f1 f2 f3 g1 g2 0 a b s1 s2 0 0 (fun _ => 0)), true, 0, 0)) rfl ?_
  refine go_if_lt (t := 16) rfl (fun q1 => absurd q1 hk0) (fun q1 => ?_)
  refine go_n 2 (fr' := (6, [(0, .ref 1), (1, .int (xs 3))], [.ref 1, .int (xs 3)], (ah_w S z f1 f2 f3 g1 g2 0 a b s1 s2 0 0 (fun _ => 0)), true, 0, 0)) rfl ?_
  refine go_get rfl rfl rfl rfl ?_
  refine go_ic_ge (t := 16) rfl (fun q2 => absurd q2 (Int32.not_le.mpr hkz)) (fun q2 => ?_)
  refine go_n 2 (fr' := (17, [(0, .ref 1), (1, .int (xs 3))], [.int 1], (ah_w S z f1 f2 f3 g1 g2 0 a b s1 s2 0 0 (fun _ => 0)), true, 0, 0)) rfl ?_
  refine go_rt (i := .ireturn) (tg := []) rfl ?_
  rfl
set_option maxRecDepth 20000 in
theorem pl_cell_3_3_needCell {xs : Nat → Int32} {S : Nat} {z : Int32} {f1 f2 f3 g1 g2 s1 s2 : Nat → Int32} {a b : Nat} (hk0 : ¬ xs 3 < 0) (hkz : xs 3 < z) (hkm : xs 3 < nI a * nI b) (hi : ai_in (xs 3) S = true) (hj : ai_in (xs 3) 64 = true) (hg1 : g1 (xs 3).toNatClampNeg = -1) (hg2 : g2 (xs 3).toNatClampNeg = -1) (hs1 : s1 (xs 3).toNatClampNeg = -1) (hs2 : s2 (xs 3).toNatClampNeg = -1) (hw : xs 4 = 3) : ai_Ev an_ms an_lk (8, xs) 35 10 41 [.ref 0, .int (xs 3)] (ah_w S z f1 f2 f3 g1 g2 0 a b s1 s2 0 0 (fun _ => 0)) true (.inl (none, (ah_w S z f1 f2 f3 g1 g2 0 a b s1 s2 0 0 (fun _ => 0)), true, 0, 0)) := by
  refine ev_of (M := an_X9_needCell) rfl (Nat.le_of_ble_eq_true rfl) ?_
  refine go_n 1 (fr' := (1, [(0, .ref 0), (1, .int (xs 3))], [.ref 0], (ah_w S z f1 f2 f3 g1 g2 0 a b s1 s2 0 0 (fun _ => 0)), true, 0, 0)) rfl ?_
  refine go_get rfl rfl rfl rfl ?_
  refine go_n 1 (fr' := (5, [(0, .ref 0), (1, .int (xs 3))], [.int (xs 3), .ref 1], (ah_w S z f1 f2 f3 g1 g2 0 a b s1 s2 0 0 (fun _ => 0)), true, 0, 0)) rfl ?_
  refine go_call (q := 2) (M1 := an_X0_has) rfl rfl (by decide) rfl ⟨_, rfl⟩ trivial (pl_cell_3_4_has hk0 hkz hkm hi hj hg1 hg2 hs1 hs2 hw) ?_
  refine go_eq (fr' := (8, [(0, .ref 0), (1, .int (xs 3))], [.int 1], (ah_w S z f1 f2 f3 g1 g2 0 a b s1 s2 0 0 (fun _ => 0)), true, 0, 0)) rfl ?_
  refine go_n 1 (fr' := (21, [(0, .ref 0), (1, .int (xs 3))], [], (ah_w S z f1 f2 f3 g1 g2 0 a b s1 s2 0 0 (fun _ => 0)), true, 0, 0)) rfl ?_
  refine go_rt (i := .return_) (tg := []) rfl ?_
  rfl
set_option maxRecDepth 20000 in
theorem pl_cell_3_2_cell {xs : Nat → Int32} {S : Nat} {z : Int32} {f1 f2 f3 g1 g2 s1 s2 : Nat → Int32} {a b : Nat} (hk0 : ¬ xs 3 < 0) (hkz : xs 3 < z) (hkm : xs 3 < nI a * nI b) (hi : ai_in (xs 3) S = true) (hj : ai_in (xs 3) 64 = true) (hg1 : g1 (xs 3).toNatClampNeg = -1) (hg2 : g2 (xs 3).toNatClampNeg = -1) (hs1 : s1 (xs 3).toNatClampNeg = -1) (hs2 : s2 (xs 3).toNatClampNeg = -1) (hw : xs 4 = 3) : ai_Ev an_ms an_lk (8, xs) 35 11 36 [.ref 0, .int (xs 3), .int 3] (ah_w S z f1 f2 f3 g1 g2 0 a b s1 s2 0 0 (fun _ => 0)) true (.inl (some (.int 0), (ah_w S z f1 f2 f3 g1 g2 0 a b s1 s2 0 0 (fun _ => 0)), true, 0, 0)) := by
  refine ev_of (M := an_X9_cell) rfl (Nat.le_of_ble_eq_true rfl) ?_
  refine go_n 2 (fr' := (2, [(0, .ref 0), (1, .int (xs 3)), (2, .int 3)], [.int (xs 3), .ref 0], (ah_w S z f1 f2 f3 g1 g2 0 a b s1 s2 0 0 (fun _ => 0)), true, 0, 0)) rfl ?_
  refine go_call (q := 41) (M1 := an_X9_needCell) rfl rfl (by decide) rfl ⟨_, rfl⟩ trivial (pl_cell_3_3_needCell hk0 hkz hkm hi hj hg1 hg2 hs1 hs2 hw) ?_
  refine go_eq (fr' := (5, [(0, .ref 0), (1, .int (xs 3)), (2, .int 3)], [], (ah_w S z f1 f2 f3 g1 g2 0 a b s1 s2 0 0 (fun _ => 0)), true, 0, 0)) rfl ?_
  refine go_n 1 (fr' := (6, [(0, .ref 0), (1, .int (xs 3)), (2, .int 3)], [.int 3], (ah_w S z f1 f2 f3 g1 g2 0 a b s1 s2 0 0 (fun _ => 0)), true, 0, 0)) rfl ?_
  refine go_tb (t := 82) rfl 3 (by decide) (by decide) rfl ?_
  refine go_n 1 (fr' := (83, [(0, .ref 0), (1, .int (xs 3)), (2, .int 3)], [.ref 0], (ah_w S z f1 f2 f3 g1 g2 0 a b s1 s2 0 0 (fun _ => 0)), true, 0, 0)) rfl ?_
  refine go_get rfl rfl rfl rfl ?_
  refine go_get rfl rfl rfl rfl ?_
  refine go_n 1 (fr' := (90, [(0, .ref 0), (1, .int (xs 3)), (2, .int 3)], [.int (xs 3), .ref 8], (ah_w S z f1 f2 f3 g1 g2 0 a b s1 s2 0 0 (fun _ => 0)), true, 0, 0)) rfl ?_
  refine go_ial rfl (by decide) rfl hi ?_
  refine go_rt (i := .ireturn) (tg := []) rfl ?_
  rfl
set_option maxRecDepth 20000 in
theorem pl_cell_3_1_cell_ {xs : Nat → Int32} {S : Nat} {z : Int32} {f1 f2 f3 g1 g2 s1 s2 : Nat → Int32} {a b : Nat} (hk0 : ¬ xs 3 < 0) (hkz : xs 3 < z) (hkm : xs 3 < nI a * nI b) (hi : ai_in (xs 3) S = true) (hj : ai_in (xs 3) 64 = true) (hg1 : g1 (xs 3).toNatClampNeg = -1) (hg2 : g2 (xs 3).toNatClampNeg = -1) (hs1 : s1 (xs 3).toNatClampNeg = -1) (hs2 : s2 (xs 3).toNatClampNeg = -1) (hw : xs 4 = 3) : ai_Ev an_ms an_lk (8, xs) 35 12 91 [.ref 0, .int (xs 3), .int 3, .ref 85] (ah_w S z f1 f2 f3 g1 g2 0 a b s1 s2 0 0 (fun _ => 0)) true (.inl (some (.int 0), (ah_w S z f1 f2 f3 g1 g2 0 a b s1 s2 0 0 (vp_updL (fun _ => 0) 0 ((0 : Int32).toInt64))), true, 0, 0)) := by
  refine ev_of (M := an_L_cell_) rfl (Nat.le_of_ble_eq_true rfl) ?_
  refine go_n 5 (fr' := (5, [(0, .ref 0), (1, .int (xs 3)), (2, .int 3), (3, .ref 85)], [.int 3, .int (xs 3), .ref 0, .int 0, .ref 85], (ah_w S z f1 f2 f3 g1 g2 0 a b s1 s2 0 0 (fun _ => 0)), true, 0, 0)) rfl ?_
  refine go_call (q := 36) (M1 := an_X9_cell) rfl rfl (by decide) rfl ⟨_, rfl⟩ trivial (pl_cell_3_2_cell hk0 hkz hkm hi hj hg1 hg2 hs1 hs2 hw) ?_
  refine go_eq (fr' := (8, [(0, .ref 0), (1, .int (xs 3)), (2, .int 3), (3, .ref 85)], [.int 0, .int 0, .ref 85], (ah_w S z f1 f2 f3 g1 g2 0 a b s1 s2 0 0 (fun _ => 0)), true, 0, 0)) rfl ?_
  refine go_n 4 (fr' := (18, [(0, .ref 0), (1, .int (xs 3)), (2, .int 3), (3, .ref 85)], [.int 0], (ah_w S z f1 f2 f3 g1 g2 0 a b s1 s2 0 0 (vp_updL (fun _ => 0) 0 ((0 : Int32).toInt64))), true, 0, 0)) rfl ?_
  refine go_rt (i := .ireturn) (tg := []) rfl ?_
  rfl
set_option maxRecDepth 20000 in
theorem pl_cell_3_6_isCell {xs : Nat → Int32} {S : Nat} {z : Int32} {f1 f2 f3 g1 g2 s1 s2 : Nat → Int32} {a b : Nat} (hk0 : ¬ xs 3 < 0) (hkz : xs 3 < z) (hkm : xs 3 < nI a * nI b) (hi : ai_in (xs 3) S = true) (hj : ai_in (xs 3) 64 = true) (hg1 : g1 (xs 3).toNatClampNeg = -1) (hg2 : g2 (xs 3).toNatClampNeg = -1) (hs1 : s1 (xs 3).toNatClampNeg = -1) (hs2 : s2 (xs 3).toNatClampNeg = -1) (hw : xs 4 = 3) : ai_Ev an_ms an_lk (8, xs) 35 11 54 [.ref 49, .int (xs 3)] (ah_w S z f1 f2 f3 g1 g2 0 a b s1 s2 0 0 (vp_updL (fun _ => 0) 0 ((0 : Int32).toInt64))) true (.inl (some (.int 1), (ah_w S z f1 f2 f3 g1 g2 0 a b s1 s2 0 0 (vp_updL (fun _ => 0) 0 ((0 : Int32).toInt64))), true, 0, 0)) := by
  refine ev_of (M := an_X10_isCell) rfl (Nat.le_of_ble_eq_true rfl) ?_
  refine go_n 1 (fr' := (1, [(0, .ref 49), (1, .int (xs 3))], [.int (xs 3)], (ah_w S z f1 f2 f3 g1 g2 0 a b s1 s2 0 0 (vp_updL (fun _ => 0) 0 ((0 : Int32).toInt64))), true, 0, 0)) rfl ?_
  refine go_if_lt (t := 21) rfl (fun q1 => absurd q1 hk0) (fun q1 => ?_)
  refine go_n 2 (fr' := (6, [(0, .ref 49), (1, .int (xs 3))], [.ref 49, .int (xs 3)], (ah_w S z f1 f2 f3 g1 g2 0 a b s1 s2 0 0 (vp_updL (fun _ => 0) 0 ((0 : Int32).toInt64))), true, 0, 0)) rfl ?_
  refine go_get rfl rfl rfl rfl ?_
  refine go_n 1 (fr' := (10, [(0, .ref 49), (1, .int (xs 3))], [.ref 49, .int (nI a), .int (xs 3)], (ah_w S z f1 f2 f3 g1 g2 0 a b s1 s2 0 0 (vp_updL (fun _ => 0) 0 ((0 : Int32).toInt64))), true, 0, 0)) rfl ?_
  refine go_get rfl rfl rfl rfl ?_
  refine go_n 1 (fr' := (14, [(0, .ref 49), (1, .int (xs 3))], [.int ((nI a) * (nI b)), .int (xs 3)], (ah_w S z f1 f2 f3 g1 g2 0 a b s1 s2 0 0 (vp_updL (fun _ => 0) 0 ((0 : Int32).toInt64))), true, 0, 0)) rfl ?_
  refine go_ic_ge (t := 21) rfl (fun q2 => absurd q2 (Int32.not_le.mpr hkm)) (fun q2 => ?_)
  refine go_n 2 (fr' := (22, [(0, .ref 49), (1, .int (xs 3))], [.int 1], (ah_w S z f1 f2 f3 g1 g2 0 a b s1 s2 0 0 (vp_updL (fun _ => 0) 0 ((0 : Int32).toInt64))), true, 0, 0)) rfl ?_
  refine go_rt (i := .ireturn) (tg := []) rfl ?_
  rfl
set_option maxRecDepth 20000 in
theorem pl_cell_3_5_cell {xs : Nat → Int32} {S : Nat} {z : Int32} {f1 f2 f3 g1 g2 s1 s2 : Nat → Int32} {a b : Nat} (hk0 : ¬ xs 3 < 0) (hkz : xs 3 < z) (hkm : xs 3 < nI a * nI b) (hi : ai_in (xs 3) S = true) (hj : ai_in (xs 3) 64 = true) (hg1 : g1 (xs 3).toNatClampNeg = -1) (hg2 : g2 (xs 3).toNatClampNeg = -1) (hs1 : s1 (xs 3).toNatClampNeg = -1) (hs2 : s2 (xs 3).toNatClampNeg = -1) (hw : xs 4 = 3) : ai_Ev an_ms an_lk (8, xs) 35 12 75 [.ref 49, .int (xs 3), .int 3] (ah_w S z f1 f2 f3 g1 g2 0 a b s1 s2 0 0 (vp_updL (fun _ => 0) 0 ((0 : Int32).toInt64))) true (.inl (some (.int 0), (ah_w S z f1 f2 f3 g1 g2 0 a b s1 s2 0 0 (vp_updL (fun _ => 0) 0 ((0 : Int32).toInt64))), true, 0, 0)) := by
  refine ev_of (M := an_X10_cell) rfl (Nat.le_of_ble_eq_true rfl) ?_
  refine go_n 2 (fr' := (2, [(0, .ref 49), (1, .int (xs 3)), (2, .int 3)], [.int 0, .ref 49], (ah_w S z f1 f2 f3 g1 g2 0 a b s1 s2 0 0 (vp_updL (fun _ => 0) 0 ((0 : Int32).toInt64))), true, 0, 0)) rfl ?_
  refine go_put rfl rfl rfl (Nat.le_of_ble_eq_true rfl) rfl ?_
  refine go_n 2 (fr' := (7, [(0, .ref 49), (1, .int (xs 3)), (2, .int 3)], [.int (xs 3), .ref 49], (ah_w S z f1 f2 f3 g1 g2 0 a b s1 s2 0 0 (vp_updL (fun _ => 0) 0 ((0 : Int32).toInt64))), true, 0, 0)) rfl ?_
  refine go_call (q := 54) (M1 := an_X10_isCell) rfl rfl (by decide) rfl ⟨_, rfl⟩ trivial (pl_cell_3_6_isCell hk0 hkz hkm hi hj hg1 hg2 hs1 hs2 hw) ?_
  refine go_eq (fr' := (10, [(0, .ref 49), (1, .int (xs 3)), (2, .int 3)], [.int 1], (ah_w S z f1 f2 f3 g1 g2 0 a b s1 s2 0 0 (vp_updL (fun _ => 0) 0 ((0 : Int32).toInt64))), true, 0, 0)) rfl ?_
  refine go_n 2 (fr' := (19, [(0, .ref 49), (1, .int (xs 3)), (2, .int 3)], [.int 3], (ah_w S z f1 f2 f3 g1 g2 0 a b s1 s2 0 0 (vp_updL (fun _ => 0) 0 ((0 : Int32).toInt64))), true, 0, 0)) rfl ?_
  refine go_tb (t := 85) rfl 3 (by decide) (by decide) rfl ?_
  refine go_n 1 (fr' := (86, [(0, .ref 49), (1, .int (xs 3)), (2, .int 3)], [.ref 49], (ah_w S z f1 f2 f3 g1 g2 0 a b s1 s2 0 0 (vp_updL (fun _ => 0) 0 ((0 : Int32).toInt64))), true, 0, 0)) rfl ?_
  refine go_get rfl rfl rfl rfl ?_
  refine go_n 1 (fr' := (90, [(0, .ref 49), (1, .int (xs 3)), (2, .int 3)], [.int (xs 3), .ref 54], (ah_w S z f1 f2 f3 g1 g2 0 a b s1 s2 0 0 (vp_updL (fun _ => 0) 0 ((0 : Int32).toInt64))), true, 0, 0)) rfl ?_
  refine go_ial rfl (by decide) rfl hj ?_
  refine go_rt (i := .ireturn) (tg := []) rfl ?_
  rfl
set_option maxRecDepth 20000 in
theorem pl_cell_3_7_thrown {xs : Nat → Int32} {S : Nat} {z : Int32} {f1 f2 f3 g1 g2 s1 s2 : Nat → Int32} {a b : Nat} (hk0 : ¬ xs 3 < 0) (hkz : xs 3 < z) (hkm : xs 3 < nI a * nI b) (hi : ai_in (xs 3) S = true) (hj : ai_in (xs 3) 64 = true) (hg1 : g1 (xs 3).toNatClampNeg = -1) (hg2 : g2 (xs 3).toNatClampNeg = -1) (hs1 : s1 (xs 3).toNatClampNeg = -1) (hs2 : s2 (xs 3).toNatClampNeg = -1) (hw : xs 4 = 3) : ai_Ev an_ms an_lk (8, xs) 35 12 52 [.ref 49] (ah_w S z f1 f2 f3 g1 g2 0 a b s1 s2 0 0 (vp_updL (fun _ => 0) 0 ((0 : Int32).toInt64))) true (.inl (some (.int 0), (ah_w S z f1 f2 f3 g1 g2 0 a b s1 s2 0 0 (vp_updL (fun _ => 0) 0 ((0 : Int32).toInt64))), true, 0, 0)) := by
  refine ev_of (M := an_X10_thrown) rfl (Nat.le_of_ble_eq_true rfl) ?_
  refine go_n 1 (fr' := (1, [(0, .ref 49)], [.ref 49], (ah_w S z f1 f2 f3 g1 g2 0 a b s1 s2 0 0 (vp_updL (fun _ => 0) 0 ((0 : Int32).toInt64))), true, 0, 0)) rfl ?_
  refine go_get rfl rfl rfl rfl ?_
  refine go_rt (i := .ireturn) (tg := []) rfl ?_
  rfl
set_option maxRecDepth 20000 in
theorem pl_cell_3 {xs : Nat → Int32} {S : Nat} {z : Int32} {f1 f2 f3 g1 g2 s1 s2 : Nat → Int32} {a b : Nat} {ns : Nat} (hk0 : ¬ xs 3 < 0) (hkz : xs 3 < z) (hkm : xs 3 < nI a * nI b) (hi : ai_in (xs 3) S = true) (hj : ai_in (xs 3) 64 = true) (hg1 : g1 (xs 3).toNatClampNeg = -1) (hg2 : g2 (xs 3).toNatClampNeg = -1) (hs1 : s1 (xs 3).toNatClampNeg = -1) (hs2 : s2 (xs 3).toNatClampNeg = -1) (hw : xs 4 = 3) : pl_ok xs (870, [(0, .ref 1000000), (1, .ref 0), (2, .ref 49), (3, .ref 85), (4, .int 2)], [], (ah_w S z f1 f2 f3 g1 g2 0 a b s1 s2 0 0 (fun _ => 0)), true, 86, ns) ns := by
  refine pl_mk (h' := (ah_w S z f1 f2 f3 g1 g2 0 a b s1 s2 0 0 (vp_updL (fun _ => 0) 0 ((0 : Int32).toInt64)))) (ex' := true) (nc := 86) (ns' := ns) ?_ (by omega) (by omega)
  refine go_n 11 (fr' := (883, [(0, .ref 1000000), (1, .ref 0), (2, .ref 49), (3, .ref 85), (4, .int 2)], [.int (xs 4), .int (xs 3), .ref 0], (ah_w S z f1 f2 f3 g1 g2 0 a b s1 s2 0 0 (fun _ => 0)), true, 86, ns)) rfl ?_
  rw [hw]
  refine go_n 1 (fr' := (884, [(0, .ref 1000000), (1, .ref 0), (2, .ref 49), (3, .ref 85), (4, .int 2)], [.ref 85, .int 3, .int (xs 3), .ref 0], (ah_w S z f1 f2 f3 g1 g2 0 a b s1 s2 0 0 (fun _ => 0)), true, 86, ns)) rfl ?_
  refine go_call (q := 91) (M1 := an_L_cell_) rfl rfl (by decide) rfl trivial trivial (pl_cell_3_1_cell_ hk0 hkz hkm hi hj hg1 hg2 hs1 hs2 hw) ?_
  refine go_eq (fr' := (887, [(0, .ref 1000000), (1, .ref 0), (2, .ref 49), (3, .ref 85), (4, .int 2)], [.int 0], (ah_w S z f1 f2 f3 g1 g2 0 a b s1 s2 0 0 (vp_updL (fun _ => 0) 0 ((0 : Int32).toInt64))), true, 86, ns)) rfl ?_
  refine go_n 12 (fr' := (902, [(0, .ref 1000000), (1, .ref 0), (2, .ref 49), (3, .ref 85), (4, .int 2), (5, .int 0)], [.int (xs 4), .int (xs 3), .ref 49], (ah_w S z f1 f2 f3 g1 g2 0 a b s1 s2 0 0 (vp_updL (fun _ => 0) 0 ((0 : Int32).toInt64))), true, 86, ns)) rfl ?_
  rw [hw]
  refine go_call (q := 75) (M1 := an_X10_cell) rfl rfl (by decide) rfl ⟨_, rfl⟩ trivial (pl_cell_3_5_cell hk0 hkz hkm hi hj hg1 hg2 hs1 hs2 hw) ?_
  refine go_eq (fr' := (905, [(0, .ref 1000000), (1, .ref 0), (2, .ref 49), (3, .ref 85), (4, .int 2), (5, .int 0)], [.int 0], (ah_w S z f1 f2 f3 g1 g2 0 a b s1 s2 0 0 (vp_updL (fun _ => 0) 0 ((0 : Int32).toInt64))), true, 86, ns)) rfl ?_
  refine go_n 2 (fr' := (908, [(0, .ref 1000000), (1, .ref 0), (2, .ref 49), (3, .ref 85), (4, .int 2), (5, .int 0), (6, .int 0)], [.ref 49], (ah_w S z f1 f2 f3 g1 g2 0 a b s1 s2 0 0 (vp_updL (fun _ => 0) 0 ((0 : Int32).toInt64))), true, 86, ns)) rfl ?_
  refine go_call (q := 52) (M1 := an_X10_thrown) rfl rfl (by decide) rfl ⟨_, rfl⟩ trivial (pl_cell_3_7_thrown hk0 hkz hkm hi hj hg1 hg2 hs1 hs2 hw) ?_
  refine go_eq (fr' := (911, [(0, .ref 1000000), (1, .ref 0), (2, .ref 49), (3, .ref 85), (4, .int 2), (5, .int 0), (6, .int 0)], [.int 0], (ah_w S z f1 f2 f3 g1 g2 0 a b s1 s2 0 0 (vp_updL (fun _ => 0) 0 ((0 : Int32).toInt64))), true, 86, ns)) rfl ?_
  refine go_n 10 (fr' := (930, [(0, .ref 1000000), (1, .ref 0), (2, .ref 49), (3, .ref 85), (4, .int 2), (5, .int 0), (6, .int 0)], [.int (lg_cmp ((0 : Int32).toInt64) ((0 : Int32).toInt64))], (ah_w S z f1 f2 f3 g1 g2 0 a b s1 s2 0 0 (vp_updL (fun _ => 0) 0 ((0 : Int32).toInt64))), true, 86, ns)) rfl ?_
  refine go_if_eq (t := 935) rfl (fun q1 => ?_) (fun q1 => absurd (lg_self _) q1)
  refine go_n 1 (fr' := (1174, [(0, .ref 1000000), (1, .ref 0), (2, .ref 49), (3, .ref 85), (4, .int 2), (5, .int 0), (6, .int 0)], [], (ah_w S z f1 f2 f3 g1 g2 0 a b s1 s2 0 0 (vp_updL (fun _ => 0) 0 ((0 : Int32).toInt64))), true, 86, ns)) rfl ?_
  exact pl_end2
set_option maxRecDepth 20000 in
theorem pl_cell_4_4_has {xs : Nat → Int32} {S : Nat} {z : Int32} {f1 f2 f3 g1 g2 s1 s2 : Nat → Int32} {a b : Nat} (hk0 : ¬ xs 3 < 0) (hkz : xs 3 < z) (hkm : xs 3 < nI a * nI b) (hi : ai_in (xs 3) S = true) (hj : ai_in (xs 3) 64 = true) (hg1 : g1 (xs 3).toNatClampNeg = -1) (hg2 : g2 (xs 3).toNatClampNeg = -1) (hs1 : s1 (xs 3).toNatClampNeg = -1) (hs2 : s2 (xs 3).toNatClampNeg = -1) (hw : xs 4 = 4) : ai_Ev an_ms an_lk (8, xs) 35 9 2 [.ref 1, .int (xs 3)] (ah_w S z f1 f2 f3 g1 g2 0 a b s1 s2 0 0 (fun _ => 0)) true (.inl (some (.int 1), (ah_w S z f1 f2 f3 g1 g2 0 a b s1 s2 0 0 (fun _ => 0)), true, 0, 0)) := by
  refine ev_of (M := an_X0_has) rfl (Nat.le_of_ble_eq_true rfl) ?_
  refine go_n 1 (fr' := (1, [(0, .ref 1), (1, .int (xs 3))], [.int (xs 3)], (ah_w S z f1 f2 f3 g1 g2 0 a b s1 s2 0 0 (fun _ => 0)), true, 0, 0)) rfl ?_
  refine go_if_lt (t := 16) rfl (fun q1 => absurd q1 hk0) (fun q1 => ?_)
  refine go_n 2 (fr' := (6, [(0, .ref 1), (1, .int (xs 3))], [.ref 1, .int (xs 3)], (ah_w S z f1 f2 f3 g1 g2 0 a b s1 s2 0 0 (fun _ => 0)), true, 0, 0)) rfl ?_
  refine go_get rfl rfl rfl rfl ?_
  refine go_ic_ge (t := 16) rfl (fun q2 => absurd q2 (Int32.not_le.mpr hkz)) (fun q2 => ?_)
  refine go_n 2 (fr' := (17, [(0, .ref 1), (1, .int (xs 3))], [.int 1], (ah_w S z f1 f2 f3 g1 g2 0 a b s1 s2 0 0 (fun _ => 0)), true, 0, 0)) rfl ?_
  refine go_rt (i := .ireturn) (tg := []) rfl ?_
  rfl
set_option maxRecDepth 20000 in
theorem pl_cell_4_3_needCell {xs : Nat → Int32} {S : Nat} {z : Int32} {f1 f2 f3 g1 g2 s1 s2 : Nat → Int32} {a b : Nat} (hk0 : ¬ xs 3 < 0) (hkz : xs 3 < z) (hkm : xs 3 < nI a * nI b) (hi : ai_in (xs 3) S = true) (hj : ai_in (xs 3) 64 = true) (hg1 : g1 (xs 3).toNatClampNeg = -1) (hg2 : g2 (xs 3).toNatClampNeg = -1) (hs1 : s1 (xs 3).toNatClampNeg = -1) (hs2 : s2 (xs 3).toNatClampNeg = -1) (hw : xs 4 = 4) : ai_Ev an_ms an_lk (8, xs) 35 10 41 [.ref 0, .int (xs 3)] (ah_w S z f1 f2 f3 g1 g2 0 a b s1 s2 0 0 (fun _ => 0)) true (.inl (none, (ah_w S z f1 f2 f3 g1 g2 0 a b s1 s2 0 0 (fun _ => 0)), true, 0, 0)) := by
  refine ev_of (M := an_X9_needCell) rfl (Nat.le_of_ble_eq_true rfl) ?_
  refine go_n 1 (fr' := (1, [(0, .ref 0), (1, .int (xs 3))], [.ref 0], (ah_w S z f1 f2 f3 g1 g2 0 a b s1 s2 0 0 (fun _ => 0)), true, 0, 0)) rfl ?_
  refine go_get rfl rfl rfl rfl ?_
  refine go_n 1 (fr' := (5, [(0, .ref 0), (1, .int (xs 3))], [.int (xs 3), .ref 1], (ah_w S z f1 f2 f3 g1 g2 0 a b s1 s2 0 0 (fun _ => 0)), true, 0, 0)) rfl ?_
  refine go_call (q := 2) (M1 := an_X0_has) rfl rfl (by decide) rfl ⟨_, rfl⟩ trivial (pl_cell_4_4_has hk0 hkz hkm hi hj hg1 hg2 hs1 hs2 hw) ?_
  refine go_eq (fr' := (8, [(0, .ref 0), (1, .int (xs 3))], [.int 1], (ah_w S z f1 f2 f3 g1 g2 0 a b s1 s2 0 0 (fun _ => 0)), true, 0, 0)) rfl ?_
  refine go_n 1 (fr' := (21, [(0, .ref 0), (1, .int (xs 3))], [], (ah_w S z f1 f2 f3 g1 g2 0 a b s1 s2 0 0 (fun _ => 0)), true, 0, 0)) rfl ?_
  refine go_rt (i := .return_) (tg := []) rfl ?_
  rfl
set_option maxRecDepth 20000 in
theorem pl_cell_4_2_cell {xs : Nat → Int32} {S : Nat} {z : Int32} {f1 f2 f3 g1 g2 s1 s2 : Nat → Int32} {a b : Nat} (hk0 : ¬ xs 3 < 0) (hkz : xs 3 < z) (hkm : xs 3 < nI a * nI b) (hi : ai_in (xs 3) S = true) (hj : ai_in (xs 3) 64 = true) (hg1 : g1 (xs 3).toNatClampNeg = -1) (hg2 : g2 (xs 3).toNatClampNeg = -1) (hs1 : s1 (xs 3).toNatClampNeg = -1) (hs2 : s2 (xs 3).toNatClampNeg = -1) (hw : xs 4 = 4) : ai_Ev an_ms an_lk (8, xs) 35 11 36 [.ref 0, .int (xs 3), .int 4] (ah_w S z f1 f2 f3 g1 g2 0 a b s1 s2 0 0 (fun _ => 0)) true (.inl (some (.int 0), (ah_w S z f1 f2 f3 g1 g2 0 a b s1 s2 0 0 (fun _ => 0)), true, 0, 0)) := by
  refine ev_of (M := an_X9_cell) rfl (Nat.le_of_ble_eq_true rfl) ?_
  refine go_n 2 (fr' := (2, [(0, .ref 0), (1, .int (xs 3)), (2, .int 4)], [.int (xs 3), .ref 0], (ah_w S z f1 f2 f3 g1 g2 0 a b s1 s2 0 0 (fun _ => 0)), true, 0, 0)) rfl ?_
  refine go_call (q := 41) (M1 := an_X9_needCell) rfl rfl (by decide) rfl ⟨_, rfl⟩ trivial (pl_cell_4_3_needCell hk0 hkz hkm hi hj hg1 hg2 hs1 hs2 hw) ?_
  refine go_eq (fr' := (5, [(0, .ref 0), (1, .int (xs 3)), (2, .int 4)], [], (ah_w S z f1 f2 f3 g1 g2 0 a b s1 s2 0 0 (fun _ => 0)), true, 0, 0)) rfl ?_
  refine go_n 1 (fr' := (6, [(0, .ref 0), (1, .int (xs 3)), (2, .int 4)], [.int 4], (ah_w S z f1 f2 f3 g1 g2 0 a b s1 s2 0 0 (fun _ => 0)), true, 0, 0)) rfl ?_
  refine go_tb (t := 92) rfl 4 (by decide) (by decide) rfl ?_
  refine go_n 1 (fr' := (93, [(0, .ref 0), (1, .int (xs 3)), (2, .int 4)], [.ref 0], (ah_w S z f1 f2 f3 g1 g2 0 a b s1 s2 0 0 (fun _ => 0)), true, 0, 0)) rfl ?_
  refine go_get rfl rfl rfl rfl ?_
  refine go_get rfl rfl rfl rfl ?_
  refine go_n 1 (fr' := (100, [(0, .ref 0), (1, .int (xs 3)), (2, .int 4)], [.int (xs 3), .ref 9], (ah_w S z f1 f2 f3 g1 g2 0 a b s1 s2 0 0 (fun _ => 0)), true, 0, 0)) rfl ?_
  refine go_ial rfl (by decide) rfl hi ?_
  refine go_rt (i := .ireturn) (tg := []) rfl ?_
  rfl
set_option maxRecDepth 20000 in
theorem pl_cell_4_1_cell_ {xs : Nat → Int32} {S : Nat} {z : Int32} {f1 f2 f3 g1 g2 s1 s2 : Nat → Int32} {a b : Nat} (hk0 : ¬ xs 3 < 0) (hkz : xs 3 < z) (hkm : xs 3 < nI a * nI b) (hi : ai_in (xs 3) S = true) (hj : ai_in (xs 3) 64 = true) (hg1 : g1 (xs 3).toNatClampNeg = -1) (hg2 : g2 (xs 3).toNatClampNeg = -1) (hs1 : s1 (xs 3).toNatClampNeg = -1) (hs2 : s2 (xs 3).toNatClampNeg = -1) (hw : xs 4 = 4) : ai_Ev an_ms an_lk (8, xs) 35 12 91 [.ref 0, .int (xs 3), .int 4, .ref 85] (ah_w S z f1 f2 f3 g1 g2 0 a b s1 s2 0 0 (fun _ => 0)) true (.inl (some (.int 0), (ah_w S z f1 f2 f3 g1 g2 0 a b s1 s2 0 0 (vp_updL (fun _ => 0) 0 ((0 : Int32).toInt64))), true, 0, 0)) := by
  refine ev_of (M := an_L_cell_) rfl (Nat.le_of_ble_eq_true rfl) ?_
  refine go_n 5 (fr' := (5, [(0, .ref 0), (1, .int (xs 3)), (2, .int 4), (3, .ref 85)], [.int 4, .int (xs 3), .ref 0, .int 0, .ref 85], (ah_w S z f1 f2 f3 g1 g2 0 a b s1 s2 0 0 (fun _ => 0)), true, 0, 0)) rfl ?_
  refine go_call (q := 36) (M1 := an_X9_cell) rfl rfl (by decide) rfl ⟨_, rfl⟩ trivial (pl_cell_4_2_cell hk0 hkz hkm hi hj hg1 hg2 hs1 hs2 hw) ?_
  refine go_eq (fr' := (8, [(0, .ref 0), (1, .int (xs 3)), (2, .int 4), (3, .ref 85)], [.int 0, .int 0, .ref 85], (ah_w S z f1 f2 f3 g1 g2 0 a b s1 s2 0 0 (fun _ => 0)), true, 0, 0)) rfl ?_
  refine go_n 4 (fr' := (18, [(0, .ref 0), (1, .int (xs 3)), (2, .int 4), (3, .ref 85)], [.int 0], (ah_w S z f1 f2 f3 g1 g2 0 a b s1 s2 0 0 (vp_updL (fun _ => 0) 0 ((0 : Int32).toInt64))), true, 0, 0)) rfl ?_
  refine go_rt (i := .ireturn) (tg := []) rfl ?_
  rfl
set_option maxRecDepth 20000 in
theorem pl_cell_4_6_isCell {xs : Nat → Int32} {S : Nat} {z : Int32} {f1 f2 f3 g1 g2 s1 s2 : Nat → Int32} {a b : Nat} (hk0 : ¬ xs 3 < 0) (hkz : xs 3 < z) (hkm : xs 3 < nI a * nI b) (hi : ai_in (xs 3) S = true) (hj : ai_in (xs 3) 64 = true) (hg1 : g1 (xs 3).toNatClampNeg = -1) (hg2 : g2 (xs 3).toNatClampNeg = -1) (hs1 : s1 (xs 3).toNatClampNeg = -1) (hs2 : s2 (xs 3).toNatClampNeg = -1) (hw : xs 4 = 4) : ai_Ev an_ms an_lk (8, xs) 35 11 54 [.ref 49, .int (xs 3)] (ah_w S z f1 f2 f3 g1 g2 0 a b s1 s2 0 0 (vp_updL (fun _ => 0) 0 ((0 : Int32).toInt64))) true (.inl (some (.int 1), (ah_w S z f1 f2 f3 g1 g2 0 a b s1 s2 0 0 (vp_updL (fun _ => 0) 0 ((0 : Int32).toInt64))), true, 0, 0)) := by
  refine ev_of (M := an_X10_isCell) rfl (Nat.le_of_ble_eq_true rfl) ?_
  refine go_n 1 (fr' := (1, [(0, .ref 49), (1, .int (xs 3))], [.int (xs 3)], (ah_w S z f1 f2 f3 g1 g2 0 a b s1 s2 0 0 (vp_updL (fun _ => 0) 0 ((0 : Int32).toInt64))), true, 0, 0)) rfl ?_
  refine go_if_lt (t := 21) rfl (fun q1 => absurd q1 hk0) (fun q1 => ?_)
  refine go_n 2 (fr' := (6, [(0, .ref 49), (1, .int (xs 3))], [.ref 49, .int (xs 3)], (ah_w S z f1 f2 f3 g1 g2 0 a b s1 s2 0 0 (vp_updL (fun _ => 0) 0 ((0 : Int32).toInt64))), true, 0, 0)) rfl ?_
  refine go_get rfl rfl rfl rfl ?_
  refine go_n 1 (fr' := (10, [(0, .ref 49), (1, .int (xs 3))], [.ref 49, .int (nI a), .int (xs 3)], (ah_w S z f1 f2 f3 g1 g2 0 a b s1 s2 0 0 (vp_updL (fun _ => 0) 0 ((0 : Int32).toInt64))), true, 0, 0)) rfl ?_
  refine go_get rfl rfl rfl rfl ?_
  refine go_n 1 (fr' := (14, [(0, .ref 49), (1, .int (xs 3))], [.int ((nI a) * (nI b)), .int (xs 3)], (ah_w S z f1 f2 f3 g1 g2 0 a b s1 s2 0 0 (vp_updL (fun _ => 0) 0 ((0 : Int32).toInt64))), true, 0, 0)) rfl ?_
  refine go_ic_ge (t := 21) rfl (fun q2 => absurd q2 (Int32.not_le.mpr hkm)) (fun q2 => ?_)
  refine go_n 2 (fr' := (22, [(0, .ref 49), (1, .int (xs 3))], [.int 1], (ah_w S z f1 f2 f3 g1 g2 0 a b s1 s2 0 0 (vp_updL (fun _ => 0) 0 ((0 : Int32).toInt64))), true, 0, 0)) rfl ?_
  refine go_rt (i := .ireturn) (tg := []) rfl ?_
  rfl
set_option maxRecDepth 20000 in
theorem pl_cell_4_5_cell {xs : Nat → Int32} {S : Nat} {z : Int32} {f1 f2 f3 g1 g2 s1 s2 : Nat → Int32} {a b : Nat} (hk0 : ¬ xs 3 < 0) (hkz : xs 3 < z) (hkm : xs 3 < nI a * nI b) (hi : ai_in (xs 3) S = true) (hj : ai_in (xs 3) 64 = true) (hg1 : g1 (xs 3).toNatClampNeg = -1) (hg2 : g2 (xs 3).toNatClampNeg = -1) (hs1 : s1 (xs 3).toNatClampNeg = -1) (hs2 : s2 (xs 3).toNatClampNeg = -1) (hw : xs 4 = 4) : ai_Ev an_ms an_lk (8, xs) 35 12 75 [.ref 49, .int (xs 3), .int 4] (ah_w S z f1 f2 f3 g1 g2 0 a b s1 s2 0 0 (vp_updL (fun _ => 0) 0 ((0 : Int32).toInt64))) true (.inl (some (.int 0), (ah_w S z f1 f2 f3 g1 g2 0 a b s1 s2 0 0 (vp_updL (fun _ => 0) 0 ((0 : Int32).toInt64))), true, 0, 0)) := by
  refine ev_of (M := an_X10_cell) rfl (Nat.le_of_ble_eq_true rfl) ?_
  refine go_n 2 (fr' := (2, [(0, .ref 49), (1, .int (xs 3)), (2, .int 4)], [.int 0, .ref 49], (ah_w S z f1 f2 f3 g1 g2 0 a b s1 s2 0 0 (vp_updL (fun _ => 0) 0 ((0 : Int32).toInt64))), true, 0, 0)) rfl ?_
  refine go_put rfl rfl rfl (Nat.le_of_ble_eq_true rfl) rfl ?_
  refine go_n 2 (fr' := (7, [(0, .ref 49), (1, .int (xs 3)), (2, .int 4)], [.int (xs 3), .ref 49], (ah_w S z f1 f2 f3 g1 g2 0 a b s1 s2 0 0 (vp_updL (fun _ => 0) 0 ((0 : Int32).toInt64))), true, 0, 0)) rfl ?_
  refine go_call (q := 54) (M1 := an_X10_isCell) rfl rfl (by decide) rfl ⟨_, rfl⟩ trivial (pl_cell_4_6_isCell hk0 hkz hkm hi hj hg1 hg2 hs1 hs2 hw) ?_
  refine go_eq (fr' := (10, [(0, .ref 49), (1, .int (xs 3)), (2, .int 4)], [.int 1], (ah_w S z f1 f2 f3 g1 g2 0 a b s1 s2 0 0 (vp_updL (fun _ => 0) 0 ((0 : Int32).toInt64))), true, 0, 0)) rfl ?_
  refine go_n 2 (fr' := (19, [(0, .ref 49), (1, .int (xs 3)), (2, .int 4)], [.int 4], (ah_w S z f1 f2 f3 g1 g2 0 a b s1 s2 0 0 (vp_updL (fun _ => 0) 0 ((0 : Int32).toInt64))), true, 0, 0)) rfl ?_
  refine go_tb (t := 92) rfl 4 (by decide) (by decide) rfl ?_
  refine go_n 1 (fr' := (93, [(0, .ref 49), (1, .int (xs 3)), (2, .int 4)], [.ref 49], (ah_w S z f1 f2 f3 g1 g2 0 a b s1 s2 0 0 (vp_updL (fun _ => 0) 0 ((0 : Int32).toInt64))), true, 0, 0)) rfl ?_
  refine go_get rfl rfl rfl rfl ?_
  refine go_n 1 (fr' := (97, [(0, .ref 49), (1, .int (xs 3)), (2, .int 4)], [.int (xs 3), .ref 55], (ah_w S z f1 f2 f3 g1 g2 0 a b s1 s2 0 0 (vp_updL (fun _ => 0) 0 ((0 : Int32).toInt64))), true, 0, 0)) rfl ?_
  refine go_ial rfl (by decide) rfl hj ?_
  refine go_rt (i := .ireturn) (tg := []) rfl ?_
  rfl
set_option maxRecDepth 20000 in
theorem pl_cell_4_7_thrown {xs : Nat → Int32} {S : Nat} {z : Int32} {f1 f2 f3 g1 g2 s1 s2 : Nat → Int32} {a b : Nat} (hk0 : ¬ xs 3 < 0) (hkz : xs 3 < z) (hkm : xs 3 < nI a * nI b) (hi : ai_in (xs 3) S = true) (hj : ai_in (xs 3) 64 = true) (hg1 : g1 (xs 3).toNatClampNeg = -1) (hg2 : g2 (xs 3).toNatClampNeg = -1) (hs1 : s1 (xs 3).toNatClampNeg = -1) (hs2 : s2 (xs 3).toNatClampNeg = -1) (hw : xs 4 = 4) : ai_Ev an_ms an_lk (8, xs) 35 12 52 [.ref 49] (ah_w S z f1 f2 f3 g1 g2 0 a b s1 s2 0 0 (vp_updL (fun _ => 0) 0 ((0 : Int32).toInt64))) true (.inl (some (.int 0), (ah_w S z f1 f2 f3 g1 g2 0 a b s1 s2 0 0 (vp_updL (fun _ => 0) 0 ((0 : Int32).toInt64))), true, 0, 0)) := by
  refine ev_of (M := an_X10_thrown) rfl (Nat.le_of_ble_eq_true rfl) ?_
  refine go_n 1 (fr' := (1, [(0, .ref 49)], [.ref 49], (ah_w S z f1 f2 f3 g1 g2 0 a b s1 s2 0 0 (vp_updL (fun _ => 0) 0 ((0 : Int32).toInt64))), true, 0, 0)) rfl ?_
  refine go_get rfl rfl rfl rfl ?_
  refine go_rt (i := .ireturn) (tg := []) rfl ?_
  rfl
set_option maxRecDepth 20000 in
theorem pl_cell_4 {xs : Nat → Int32} {S : Nat} {z : Int32} {f1 f2 f3 g1 g2 s1 s2 : Nat → Int32} {a b : Nat} {ns : Nat} (hk0 : ¬ xs 3 < 0) (hkz : xs 3 < z) (hkm : xs 3 < nI a * nI b) (hi : ai_in (xs 3) S = true) (hj : ai_in (xs 3) 64 = true) (hg1 : g1 (xs 3).toNatClampNeg = -1) (hg2 : g2 (xs 3).toNatClampNeg = -1) (hs1 : s1 (xs 3).toNatClampNeg = -1) (hs2 : s2 (xs 3).toNatClampNeg = -1) (hw : xs 4 = 4) : pl_ok xs (870, [(0, .ref 1000000), (1, .ref 0), (2, .ref 49), (3, .ref 85), (4, .int 2)], [], (ah_w S z f1 f2 f3 g1 g2 0 a b s1 s2 0 0 (fun _ => 0)), true, 86, ns) ns := by
  refine pl_mk (h' := (ah_w S z f1 f2 f3 g1 g2 0 a b s1 s2 0 0 (vp_updL (fun _ => 0) 0 ((0 : Int32).toInt64)))) (ex' := true) (nc := 86) (ns' := ns) ?_ (by omega) (by omega)
  refine go_n 11 (fr' := (883, [(0, .ref 1000000), (1, .ref 0), (2, .ref 49), (3, .ref 85), (4, .int 2)], [.int (xs 4), .int (xs 3), .ref 0], (ah_w S z f1 f2 f3 g1 g2 0 a b s1 s2 0 0 (fun _ => 0)), true, 86, ns)) rfl ?_
  rw [hw]
  refine go_n 1 (fr' := (884, [(0, .ref 1000000), (1, .ref 0), (2, .ref 49), (3, .ref 85), (4, .int 2)], [.ref 85, .int 4, .int (xs 3), .ref 0], (ah_w S z f1 f2 f3 g1 g2 0 a b s1 s2 0 0 (fun _ => 0)), true, 86, ns)) rfl ?_
  refine go_call (q := 91) (M1 := an_L_cell_) rfl rfl (by decide) rfl trivial trivial (pl_cell_4_1_cell_ hk0 hkz hkm hi hj hg1 hg2 hs1 hs2 hw) ?_
  refine go_eq (fr' := (887, [(0, .ref 1000000), (1, .ref 0), (2, .ref 49), (3, .ref 85), (4, .int 2)], [.int 0], (ah_w S z f1 f2 f3 g1 g2 0 a b s1 s2 0 0 (vp_updL (fun _ => 0) 0 ((0 : Int32).toInt64))), true, 86, ns)) rfl ?_
  refine go_n 12 (fr' := (902, [(0, .ref 1000000), (1, .ref 0), (2, .ref 49), (3, .ref 85), (4, .int 2), (5, .int 0)], [.int (xs 4), .int (xs 3), .ref 49], (ah_w S z f1 f2 f3 g1 g2 0 a b s1 s2 0 0 (vp_updL (fun _ => 0) 0 ((0 : Int32).toInt64))), true, 86, ns)) rfl ?_
  rw [hw]
  refine go_call (q := 75) (M1 := an_X10_cell) rfl rfl (by decide) rfl ⟨_, rfl⟩ trivial (pl_cell_4_5_cell hk0 hkz hkm hi hj hg1 hg2 hs1 hs2 hw) ?_
  refine go_eq (fr' := (905, [(0, .ref 1000000), (1, .ref 0), (2, .ref 49), (3, .ref 85), (4, .int 2), (5, .int 0)], [.int 0], (ah_w S z f1 f2 f3 g1 g2 0 a b s1 s2 0 0 (vp_updL (fun _ => 0) 0 ((0 : Int32).toInt64))), true, 86, ns)) rfl ?_
  refine go_n 2 (fr' := (908, [(0, .ref 1000000), (1, .ref 0), (2, .ref 49), (3, .ref 85), (4, .int 2), (5, .int 0), (6, .int 0)], [.ref 49], (ah_w S z f1 f2 f3 g1 g2 0 a b s1 s2 0 0 (vp_updL (fun _ => 0) 0 ((0 : Int32).toInt64))), true, 86, ns)) rfl ?_
  refine go_call (q := 52) (M1 := an_X10_thrown) rfl rfl (by decide) rfl ⟨_, rfl⟩ trivial (pl_cell_4_7_thrown hk0 hkz hkm hi hj hg1 hg2 hs1 hs2 hw) ?_
  refine go_eq (fr' := (911, [(0, .ref 1000000), (1, .ref 0), (2, .ref 49), (3, .ref 85), (4, .int 2), (5, .int 0), (6, .int 0)], [.int 0], (ah_w S z f1 f2 f3 g1 g2 0 a b s1 s2 0 0 (vp_updL (fun _ => 0) 0 ((0 : Int32).toInt64))), true, 86, ns)) rfl ?_
  refine go_n 10 (fr' := (930, [(0, .ref 1000000), (1, .ref 0), (2, .ref 49), (3, .ref 85), (4, .int 2), (5, .int 0), (6, .int 0)], [.int (lg_cmp ((0 : Int32).toInt64) ((0 : Int32).toInt64))], (ah_w S z f1 f2 f3 g1 g2 0 a b s1 s2 0 0 (vp_updL (fun _ => 0) 0 ((0 : Int32).toInt64))), true, 86, ns)) rfl ?_
  refine go_if_eq (t := 935) rfl (fun q1 => ?_) (fun q1 => absurd (lg_self _) q1)
  refine go_n 1 (fr' := (1174, [(0, .ref 1000000), (1, .ref 0), (2, .ref 49), (3, .ref 85), (4, .int 2), (5, .int 0), (6, .int 0)], [], (ah_w S z f1 f2 f3 g1 g2 0 a b s1 s2 0 0 (vp_updL (fun _ => 0) 0 ((0 : Int32).toInt64))), true, 86, ns)) rfl ?_
  exact pl_end2
set_option maxRecDepth 20000 in
theorem pl_cell_5_4_has {xs : Nat → Int32} {S : Nat} {z : Int32} {f1 f2 f3 g1 g2 s1 s2 : Nat → Int32} {a b : Nat} (hk0 : ¬ xs 3 < 0) (hkz : xs 3 < z) (hkm : xs 3 < nI a * nI b) (hi : ai_in (xs 3) S = true) (hj : ai_in (xs 3) 64 = true) (hg1 : g1 (xs 3).toNatClampNeg = -1) (hg2 : g2 (xs 3).toNatClampNeg = -1) (hs1 : s1 (xs 3).toNatClampNeg = -1) (hs2 : s2 (xs 3).toNatClampNeg = -1) (hw : xs 4 = 5) : ai_Ev an_ms an_lk (8, xs) 35 9 2 [.ref 1, .int (xs 3)] (ah_w S z f1 f2 f3 g1 g2 0 a b s1 s2 0 0 (fun _ => 0)) true (.inl (some (.int 1), (ah_w S z f1 f2 f3 g1 g2 0 a b s1 s2 0 0 (fun _ => 0)), true, 0, 0)) := by
  refine ev_of (M := an_X0_has) rfl (Nat.le_of_ble_eq_true rfl) ?_
  refine go_n 1 (fr' := (1, [(0, .ref 1), (1, .int (xs 3))], [.int (xs 3)], (ah_w S z f1 f2 f3 g1 g2 0 a b s1 s2 0 0 (fun _ => 0)), true, 0, 0)) rfl ?_
  refine go_if_lt (t := 16) rfl (fun q1 => absurd q1 hk0) (fun q1 => ?_)
  refine go_n 2 (fr' := (6, [(0, .ref 1), (1, .int (xs 3))], [.ref 1, .int (xs 3)], (ah_w S z f1 f2 f3 g1 g2 0 a b s1 s2 0 0 (fun _ => 0)), true, 0, 0)) rfl ?_
  refine go_get rfl rfl rfl rfl ?_
  refine go_ic_ge (t := 16) rfl (fun q2 => absurd q2 (Int32.not_le.mpr hkz)) (fun q2 => ?_)
  refine go_n 2 (fr' := (17, [(0, .ref 1), (1, .int (xs 3))], [.int 1], (ah_w S z f1 f2 f3 g1 g2 0 a b s1 s2 0 0 (fun _ => 0)), true, 0, 0)) rfl ?_
  refine go_rt (i := .ireturn) (tg := []) rfl ?_
  rfl
set_option maxRecDepth 20000 in
theorem pl_cell_5_3_needCell {xs : Nat → Int32} {S : Nat} {z : Int32} {f1 f2 f3 g1 g2 s1 s2 : Nat → Int32} {a b : Nat} (hk0 : ¬ xs 3 < 0) (hkz : xs 3 < z) (hkm : xs 3 < nI a * nI b) (hi : ai_in (xs 3) S = true) (hj : ai_in (xs 3) 64 = true) (hg1 : g1 (xs 3).toNatClampNeg = -1) (hg2 : g2 (xs 3).toNatClampNeg = -1) (hs1 : s1 (xs 3).toNatClampNeg = -1) (hs2 : s2 (xs 3).toNatClampNeg = -1) (hw : xs 4 = 5) : ai_Ev an_ms an_lk (8, xs) 35 10 41 [.ref 0, .int (xs 3)] (ah_w S z f1 f2 f3 g1 g2 0 a b s1 s2 0 0 (fun _ => 0)) true (.inl (none, (ah_w S z f1 f2 f3 g1 g2 0 a b s1 s2 0 0 (fun _ => 0)), true, 0, 0)) := by
  refine ev_of (M := an_X9_needCell) rfl (Nat.le_of_ble_eq_true rfl) ?_
  refine go_n 1 (fr' := (1, [(0, .ref 0), (1, .int (xs 3))], [.ref 0], (ah_w S z f1 f2 f3 g1 g2 0 a b s1 s2 0 0 (fun _ => 0)), true, 0, 0)) rfl ?_
  refine go_get rfl rfl rfl rfl ?_
  refine go_n 1 (fr' := (5, [(0, .ref 0), (1, .int (xs 3))], [.int (xs 3), .ref 1], (ah_w S z f1 f2 f3 g1 g2 0 a b s1 s2 0 0 (fun _ => 0)), true, 0, 0)) rfl ?_
  refine go_call (q := 2) (M1 := an_X0_has) rfl rfl (by decide) rfl ⟨_, rfl⟩ trivial (pl_cell_5_4_has hk0 hkz hkm hi hj hg1 hg2 hs1 hs2 hw) ?_
  refine go_eq (fr' := (8, [(0, .ref 0), (1, .int (xs 3))], [.int 1], (ah_w S z f1 f2 f3 g1 g2 0 a b s1 s2 0 0 (fun _ => 0)), true, 0, 0)) rfl ?_
  refine go_n 1 (fr' := (21, [(0, .ref 0), (1, .int (xs 3))], [], (ah_w S z f1 f2 f3 g1 g2 0 a b s1 s2 0 0 (fun _ => 0)), true, 0, 0)) rfl ?_
  refine go_rt (i := .return_) (tg := []) rfl ?_
  rfl
set_option maxRecDepth 20000 in
theorem pl_cell_5_2_cell {xs : Nat → Int32} {S : Nat} {z : Int32} {f1 f2 f3 g1 g2 s1 s2 : Nat → Int32} {a b : Nat} (hk0 : ¬ xs 3 < 0) (hkz : xs 3 < z) (hkm : xs 3 < nI a * nI b) (hi : ai_in (xs 3) S = true) (hj : ai_in (xs 3) 64 = true) (hg1 : g1 (xs 3).toNatClampNeg = -1) (hg2 : g2 (xs 3).toNatClampNeg = -1) (hs1 : s1 (xs 3).toNatClampNeg = -1) (hs2 : s2 (xs 3).toNatClampNeg = -1) (hw : xs 4 = 5) : ai_Ev an_ms an_lk (8, xs) 35 11 36 [.ref 0, .int (xs 3), .int 5] (ah_w S z f1 f2 f3 g1 g2 0 a b s1 s2 0 0 (fun _ => 0)) true (.inl (some (.int 0), (ah_w S z f1 f2 f3 g1 g2 0 a b s1 s2 0 0 (fun _ => 0)), true, 0, 0)) := by
  refine ev_of (M := an_X9_cell) rfl (Nat.le_of_ble_eq_true rfl) ?_
  refine go_n 2 (fr' := (2, [(0, .ref 0), (1, .int (xs 3)), (2, .int 5)], [.int (xs 3), .ref 0], (ah_w S z f1 f2 f3 g1 g2 0 a b s1 s2 0 0 (fun _ => 0)), true, 0, 0)) rfl ?_
  refine go_call (q := 41) (M1 := an_X9_needCell) rfl rfl (by decide) rfl ⟨_, rfl⟩ trivial (pl_cell_5_3_needCell hk0 hkz hkm hi hj hg1 hg2 hs1 hs2 hw) ?_
  refine go_eq (fr' := (5, [(0, .ref 0), (1, .int (xs 3)), (2, .int 5)], [], (ah_w S z f1 f2 f3 g1 g2 0 a b s1 s2 0 0 (fun _ => 0)), true, 0, 0)) rfl ?_
  refine go_n 1 (fr' := (6, [(0, .ref 0), (1, .int (xs 3)), (2, .int 5)], [.int 5], (ah_w S z f1 f2 f3 g1 g2 0 a b s1 s2 0 0 (fun _ => 0)), true, 0, 0)) rfl ?_
  refine go_tb (t := 102) rfl 5 (by decide) (by decide) rfl ?_
  refine go_n 1 (fr' := (103, [(0, .ref 0), (1, .int (xs 3)), (2, .int 5)], [.ref 0], (ah_w S z f1 f2 f3 g1 g2 0 a b s1 s2 0 0 (fun _ => 0)), true, 0, 0)) rfl ?_
  refine go_get rfl rfl rfl rfl ?_
  refine go_get rfl rfl rfl rfl ?_
  refine go_n 1 (fr' := (110, [(0, .ref 0), (1, .int (xs 3)), (2, .int 5)], [.int (xs 3), .ref 10], (ah_w S z f1 f2 f3 g1 g2 0 a b s1 s2 0 0 (fun _ => 0)), true, 0, 0)) rfl ?_
  refine go_ial rfl (by decide) rfl hi ?_
  refine go_rt (i := .ireturn) (tg := []) rfl ?_
  rfl
set_option maxRecDepth 20000 in
theorem pl_cell_5_1_cell_ {xs : Nat → Int32} {S : Nat} {z : Int32} {f1 f2 f3 g1 g2 s1 s2 : Nat → Int32} {a b : Nat} (hk0 : ¬ xs 3 < 0) (hkz : xs 3 < z) (hkm : xs 3 < nI a * nI b) (hi : ai_in (xs 3) S = true) (hj : ai_in (xs 3) 64 = true) (hg1 : g1 (xs 3).toNatClampNeg = -1) (hg2 : g2 (xs 3).toNatClampNeg = -1) (hs1 : s1 (xs 3).toNatClampNeg = -1) (hs2 : s2 (xs 3).toNatClampNeg = -1) (hw : xs 4 = 5) : ai_Ev an_ms an_lk (8, xs) 35 12 91 [.ref 0, .int (xs 3), .int 5, .ref 85] (ah_w S z f1 f2 f3 g1 g2 0 a b s1 s2 0 0 (fun _ => 0)) true (.inl (some (.int 0), (ah_w S z f1 f2 f3 g1 g2 0 a b s1 s2 0 0 (vp_updL (fun _ => 0) 0 ((0 : Int32).toInt64))), true, 0, 0)) := by
  refine ev_of (M := an_L_cell_) rfl (Nat.le_of_ble_eq_true rfl) ?_
  refine go_n 5 (fr' := (5, [(0, .ref 0), (1, .int (xs 3)), (2, .int 5), (3, .ref 85)], [.int 5, .int (xs 3), .ref 0, .int 0, .ref 85], (ah_w S z f1 f2 f3 g1 g2 0 a b s1 s2 0 0 (fun _ => 0)), true, 0, 0)) rfl ?_
  refine go_call (q := 36) (M1 := an_X9_cell) rfl rfl (by decide) rfl ⟨_, rfl⟩ trivial (pl_cell_5_2_cell hk0 hkz hkm hi hj hg1 hg2 hs1 hs2 hw) ?_
  refine go_eq (fr' := (8, [(0, .ref 0), (1, .int (xs 3)), (2, .int 5), (3, .ref 85)], [.int 0, .int 0, .ref 85], (ah_w S z f1 f2 f3 g1 g2 0 a b s1 s2 0 0 (fun _ => 0)), true, 0, 0)) rfl ?_
  refine go_n 4 (fr' := (18, [(0, .ref 0), (1, .int (xs 3)), (2, .int 5), (3, .ref 85)], [.int 0], (ah_w S z f1 f2 f3 g1 g2 0 a b s1 s2 0 0 (vp_updL (fun _ => 0) 0 ((0 : Int32).toInt64))), true, 0, 0)) rfl ?_
  refine go_rt (i := .ireturn) (tg := []) rfl ?_
  rfl
set_option maxRecDepth 20000 in
theorem pl_cell_5_6_isCell {xs : Nat → Int32} {S : Nat} {z : Int32} {f1 f2 f3 g1 g2 s1 s2 : Nat → Int32} {a b : Nat} (hk0 : ¬ xs 3 < 0) (hkz : xs 3 < z) (hkm : xs 3 < nI a * nI b) (hi : ai_in (xs 3) S = true) (hj : ai_in (xs 3) 64 = true) (hg1 : g1 (xs 3).toNatClampNeg = -1) (hg2 : g2 (xs 3).toNatClampNeg = -1) (hs1 : s1 (xs 3).toNatClampNeg = -1) (hs2 : s2 (xs 3).toNatClampNeg = -1) (hw : xs 4 = 5) : ai_Ev an_ms an_lk (8, xs) 35 11 54 [.ref 49, .int (xs 3)] (ah_w S z f1 f2 f3 g1 g2 0 a b s1 s2 0 0 (vp_updL (fun _ => 0) 0 ((0 : Int32).toInt64))) true (.inl (some (.int 1), (ah_w S z f1 f2 f3 g1 g2 0 a b s1 s2 0 0 (vp_updL (fun _ => 0) 0 ((0 : Int32).toInt64))), true, 0, 0)) := by
  refine ev_of (M := an_X10_isCell) rfl (Nat.le_of_ble_eq_true rfl) ?_
  refine go_n 1 (fr' := (1, [(0, .ref 49), (1, .int (xs 3))], [.int (xs 3)], (ah_w S z f1 f2 f3 g1 g2 0 a b s1 s2 0 0 (vp_updL (fun _ => 0) 0 ((0 : Int32).toInt64))), true, 0, 0)) rfl ?_
  refine go_if_lt (t := 21) rfl (fun q1 => absurd q1 hk0) (fun q1 => ?_)
  refine go_n 2 (fr' := (6, [(0, .ref 49), (1, .int (xs 3))], [.ref 49, .int (xs 3)], (ah_w S z f1 f2 f3 g1 g2 0 a b s1 s2 0 0 (vp_updL (fun _ => 0) 0 ((0 : Int32).toInt64))), true, 0, 0)) rfl ?_
  refine go_get rfl rfl rfl rfl ?_
  refine go_n 1 (fr' := (10, [(0, .ref 49), (1, .int (xs 3))], [.ref 49, .int (nI a), .int (xs 3)], (ah_w S z f1 f2 f3 g1 g2 0 a b s1 s2 0 0 (vp_updL (fun _ => 0) 0 ((0 : Int32).toInt64))), true, 0, 0)) rfl ?_
  refine go_get rfl rfl rfl rfl ?_
  refine go_n 1 (fr' := (14, [(0, .ref 49), (1, .int (xs 3))], [.int ((nI a) * (nI b)), .int (xs 3)], (ah_w S z f1 f2 f3 g1 g2 0 a b s1 s2 0 0 (vp_updL (fun _ => 0) 0 ((0 : Int32).toInt64))), true, 0, 0)) rfl ?_
  refine go_ic_ge (t := 21) rfl (fun q2 => absurd q2 (Int32.not_le.mpr hkm)) (fun q2 => ?_)
  refine go_n 2 (fr' := (22, [(0, .ref 49), (1, .int (xs 3))], [.int 1], (ah_w S z f1 f2 f3 g1 g2 0 a b s1 s2 0 0 (vp_updL (fun _ => 0) 0 ((0 : Int32).toInt64))), true, 0, 0)) rfl ?_
  refine go_rt (i := .ireturn) (tg := []) rfl ?_
  rfl
set_option maxRecDepth 20000 in
theorem pl_cell_5_5_cell {xs : Nat → Int32} {S : Nat} {z : Int32} {f1 f2 f3 g1 g2 s1 s2 : Nat → Int32} {a b : Nat} (hk0 : ¬ xs 3 < 0) (hkz : xs 3 < z) (hkm : xs 3 < nI a * nI b) (hi : ai_in (xs 3) S = true) (hj : ai_in (xs 3) 64 = true) (hg1 : g1 (xs 3).toNatClampNeg = -1) (hg2 : g2 (xs 3).toNatClampNeg = -1) (hs1 : s1 (xs 3).toNatClampNeg = -1) (hs2 : s2 (xs 3).toNatClampNeg = -1) (hw : xs 4 = 5) : ai_Ev an_ms an_lk (8, xs) 35 12 75 [.ref 49, .int (xs 3), .int 5] (ah_w S z f1 f2 f3 g1 g2 0 a b s1 s2 0 0 (vp_updL (fun _ => 0) 0 ((0 : Int32).toInt64))) true (.inl (some (.int 0), (ah_w S z f1 f2 f3 g1 g2 0 a b s1 s2 0 0 (vp_updL (fun _ => 0) 0 ((0 : Int32).toInt64))), true, 0, 0)) := by
  refine ev_of (M := an_X10_cell) rfl (Nat.le_of_ble_eq_true rfl) ?_
  refine go_n 2 (fr' := (2, [(0, .ref 49), (1, .int (xs 3)), (2, .int 5)], [.int 0, .ref 49], (ah_w S z f1 f2 f3 g1 g2 0 a b s1 s2 0 0 (vp_updL (fun _ => 0) 0 ((0 : Int32).toInt64))), true, 0, 0)) rfl ?_
  refine go_put rfl rfl rfl (Nat.le_of_ble_eq_true rfl) rfl ?_
  refine go_n 2 (fr' := (7, [(0, .ref 49), (1, .int (xs 3)), (2, .int 5)], [.int (xs 3), .ref 49], (ah_w S z f1 f2 f3 g1 g2 0 a b s1 s2 0 0 (vp_updL (fun _ => 0) 0 ((0 : Int32).toInt64))), true, 0, 0)) rfl ?_
  refine go_call (q := 54) (M1 := an_X10_isCell) rfl rfl (by decide) rfl ⟨_, rfl⟩ trivial (pl_cell_5_6_isCell hk0 hkz hkm hi hj hg1 hg2 hs1 hs2 hw) ?_
  refine go_eq (fr' := (10, [(0, .ref 49), (1, .int (xs 3)), (2, .int 5)], [.int 1], (ah_w S z f1 f2 f3 g1 g2 0 a b s1 s2 0 0 (vp_updL (fun _ => 0) 0 ((0 : Int32).toInt64))), true, 0, 0)) rfl ?_
  refine go_n 2 (fr' := (19, [(0, .ref 49), (1, .int (xs 3)), (2, .int 5)], [.int 5], (ah_w S z f1 f2 f3 g1 g2 0 a b s1 s2 0 0 (vp_updL (fun _ => 0) 0 ((0 : Int32).toInt64))), true, 0, 0)) rfl ?_
  refine go_tb (t := 99) rfl 5 (by decide) (by decide) rfl ?_
  refine go_n 1 (fr' := (100, [(0, .ref 49), (1, .int (xs 3)), (2, .int 5)], [.ref 49], (ah_w S z f1 f2 f3 g1 g2 0 a b s1 s2 0 0 (vp_updL (fun _ => 0) 0 ((0 : Int32).toInt64))), true, 0, 0)) rfl ?_
  refine go_get rfl rfl rfl rfl ?_
  refine go_n 1 (fr' := (104, [(0, .ref 49), (1, .int (xs 3)), (2, .int 5)], [.int (xs 3), .ref 56], (ah_w S z f1 f2 f3 g1 g2 0 a b s1 s2 0 0 (vp_updL (fun _ => 0) 0 ((0 : Int32).toInt64))), true, 0, 0)) rfl ?_
  refine go_ial rfl (by decide) rfl hj ?_
  refine go_rt (i := .ireturn) (tg := []) rfl ?_
  rfl
set_option maxRecDepth 20000 in
theorem pl_cell_5_7_thrown {xs : Nat → Int32} {S : Nat} {z : Int32} {f1 f2 f3 g1 g2 s1 s2 : Nat → Int32} {a b : Nat} (hk0 : ¬ xs 3 < 0) (hkz : xs 3 < z) (hkm : xs 3 < nI a * nI b) (hi : ai_in (xs 3) S = true) (hj : ai_in (xs 3) 64 = true) (hg1 : g1 (xs 3).toNatClampNeg = -1) (hg2 : g2 (xs 3).toNatClampNeg = -1) (hs1 : s1 (xs 3).toNatClampNeg = -1) (hs2 : s2 (xs 3).toNatClampNeg = -1) (hw : xs 4 = 5) : ai_Ev an_ms an_lk (8, xs) 35 12 52 [.ref 49] (ah_w S z f1 f2 f3 g1 g2 0 a b s1 s2 0 0 (vp_updL (fun _ => 0) 0 ((0 : Int32).toInt64))) true (.inl (some (.int 0), (ah_w S z f1 f2 f3 g1 g2 0 a b s1 s2 0 0 (vp_updL (fun _ => 0) 0 ((0 : Int32).toInt64))), true, 0, 0)) := by
  refine ev_of (M := an_X10_thrown) rfl (Nat.le_of_ble_eq_true rfl) ?_
  refine go_n 1 (fr' := (1, [(0, .ref 49)], [.ref 49], (ah_w S z f1 f2 f3 g1 g2 0 a b s1 s2 0 0 (vp_updL (fun _ => 0) 0 ((0 : Int32).toInt64))), true, 0, 0)) rfl ?_
  refine go_get rfl rfl rfl rfl ?_
  refine go_rt (i := .ireturn) (tg := []) rfl ?_
  rfl
set_option maxRecDepth 20000 in
theorem pl_cell_5 {xs : Nat → Int32} {S : Nat} {z : Int32} {f1 f2 f3 g1 g2 s1 s2 : Nat → Int32} {a b : Nat} {ns : Nat} (hk0 : ¬ xs 3 < 0) (hkz : xs 3 < z) (hkm : xs 3 < nI a * nI b) (hi : ai_in (xs 3) S = true) (hj : ai_in (xs 3) 64 = true) (hg1 : g1 (xs 3).toNatClampNeg = -1) (hg2 : g2 (xs 3).toNatClampNeg = -1) (hs1 : s1 (xs 3).toNatClampNeg = -1) (hs2 : s2 (xs 3).toNatClampNeg = -1) (hw : xs 4 = 5) : pl_ok xs (870, [(0, .ref 1000000), (1, .ref 0), (2, .ref 49), (3, .ref 85), (4, .int 2)], [], (ah_w S z f1 f2 f3 g1 g2 0 a b s1 s2 0 0 (fun _ => 0)), true, 86, ns) ns := by
  refine pl_mk (h' := (ah_w S z f1 f2 f3 g1 g2 0 a b s1 s2 0 0 (vp_updL (fun _ => 0) 0 ((0 : Int32).toInt64)))) (ex' := true) (nc := 86) (ns' := ns) ?_ (by omega) (by omega)
  refine go_n 11 (fr' := (883, [(0, .ref 1000000), (1, .ref 0), (2, .ref 49), (3, .ref 85), (4, .int 2)], [.int (xs 4), .int (xs 3), .ref 0], (ah_w S z f1 f2 f3 g1 g2 0 a b s1 s2 0 0 (fun _ => 0)), true, 86, ns)) rfl ?_
  rw [hw]
  refine go_n 1 (fr' := (884, [(0, .ref 1000000), (1, .ref 0), (2, .ref 49), (3, .ref 85), (4, .int 2)], [.ref 85, .int 5, .int (xs 3), .ref 0], (ah_w S z f1 f2 f3 g1 g2 0 a b s1 s2 0 0 (fun _ => 0)), true, 86, ns)) rfl ?_
  refine go_call (q := 91) (M1 := an_L_cell_) rfl rfl (by decide) rfl trivial trivial (pl_cell_5_1_cell_ hk0 hkz hkm hi hj hg1 hg2 hs1 hs2 hw) ?_
  refine go_eq (fr' := (887, [(0, .ref 1000000), (1, .ref 0), (2, .ref 49), (3, .ref 85), (4, .int 2)], [.int 0], (ah_w S z f1 f2 f3 g1 g2 0 a b s1 s2 0 0 (vp_updL (fun _ => 0) 0 ((0 : Int32).toInt64))), true, 86, ns)) rfl ?_
  refine go_n 12 (fr' := (902, [(0, .ref 1000000), (1, .ref 0), (2, .ref 49), (3, .ref 85), (4, .int 2), (5, .int 0)], [.int (xs 4), .int (xs 3), .ref 49], (ah_w S z f1 f2 f3 g1 g2 0 a b s1 s2 0 0 (vp_updL (fun _ => 0) 0 ((0 : Int32).toInt64))), true, 86, ns)) rfl ?_
  rw [hw]
  refine go_call (q := 75) (M1 := an_X10_cell) rfl rfl (by decide) rfl ⟨_, rfl⟩ trivial (pl_cell_5_5_cell hk0 hkz hkm hi hj hg1 hg2 hs1 hs2 hw) ?_
  refine go_eq (fr' := (905, [(0, .ref 1000000), (1, .ref 0), (2, .ref 49), (3, .ref 85), (4, .int 2), (5, .int 0)], [.int 0], (ah_w S z f1 f2 f3 g1 g2 0 a b s1 s2 0 0 (vp_updL (fun _ => 0) 0 ((0 : Int32).toInt64))), true, 86, ns)) rfl ?_
  refine go_n 2 (fr' := (908, [(0, .ref 1000000), (1, .ref 0), (2, .ref 49), (3, .ref 85), (4, .int 2), (5, .int 0), (6, .int 0)], [.ref 49], (ah_w S z f1 f2 f3 g1 g2 0 a b s1 s2 0 0 (vp_updL (fun _ => 0) 0 ((0 : Int32).toInt64))), true, 86, ns)) rfl ?_
  refine go_call (q := 52) (M1 := an_X10_thrown) rfl rfl (by decide) rfl ⟨_, rfl⟩ trivial (pl_cell_5_7_thrown hk0 hkz hkm hi hj hg1 hg2 hs1 hs2 hw) ?_
  refine go_eq (fr' := (911, [(0, .ref 1000000), (1, .ref 0), (2, .ref 49), (3, .ref 85), (4, .int 2), (5, .int 0), (6, .int 0)], [.int 0], (ah_w S z f1 f2 f3 g1 g2 0 a b s1 s2 0 0 (vp_updL (fun _ => 0) 0 ((0 : Int32).toInt64))), true, 86, ns)) rfl ?_
  refine go_n 10 (fr' := (930, [(0, .ref 1000000), (1, .ref 0), (2, .ref 49), (3, .ref 85), (4, .int 2), (5, .int 0), (6, .int 0)], [.int (lg_cmp ((0 : Int32).toInt64) ((0 : Int32).toInt64))], (ah_w S z f1 f2 f3 g1 g2 0 a b s1 s2 0 0 (vp_updL (fun _ => 0) 0 ((0 : Int32).toInt64))), true, 86, ns)) rfl ?_
  refine go_if_eq (t := 935) rfl (fun q1 => ?_) (fun q1 => absurd (lg_self _) q1)
  refine go_n 1 (fr' := (1174, [(0, .ref 1000000), (1, .ref 0), (2, .ref 49), (3, .ref 85), (4, .int 2), (5, .int 0), (6, .int 0)], [], (ah_w S z f1 f2 f3 g1 g2 0 a b s1 s2 0 0 (vp_updL (fun _ => 0) 0 ((0 : Int32).toInt64))), true, 86, ns)) rfl ?_
  exact pl_end2
set_option maxRecDepth 20000 in
theorem pl_cell_6_4_has {xs : Nat → Int32} {S : Nat} {z : Int32} {f1 f2 f3 g1 g2 s1 s2 : Nat → Int32} {a b : Nat} (hk0 : ¬ xs 3 < 0) (hkz : xs 3 < z) (hkm : xs 3 < nI a * nI b) (hi : ai_in (xs 3) S = true) (hj : ai_in (xs 3) 64 = true) (hg1 : g1 (xs 3).toNatClampNeg = -1) (hg2 : g2 (xs 3).toNatClampNeg = -1) (hs1 : s1 (xs 3).toNatClampNeg = -1) (hs2 : s2 (xs 3).toNatClampNeg = -1) (hw : xs 4 = 6) : ai_Ev an_ms an_lk (8, xs) 35 9 2 [.ref 1, .int (xs 3)] (ah_w S z f1 f2 f3 g1 g2 0 a b s1 s2 0 0 (fun _ => 0)) true (.inl (some (.int 1), (ah_w S z f1 f2 f3 g1 g2 0 a b s1 s2 0 0 (fun _ => 0)), true, 0, 0)) := by
  refine ev_of (M := an_X0_has) rfl (Nat.le_of_ble_eq_true rfl) ?_
  refine go_n 1 (fr' := (1, [(0, .ref 1), (1, .int (xs 3))], [.int (xs 3)], (ah_w S z f1 f2 f3 g1 g2 0 a b s1 s2 0 0 (fun _ => 0)), true, 0, 0)) rfl ?_
  refine go_if_lt (t := 16) rfl (fun q1 => absurd q1 hk0) (fun q1 => ?_)
  refine go_n 2 (fr' := (6, [(0, .ref 1), (1, .int (xs 3))], [.ref 1, .int (xs 3)], (ah_w S z f1 f2 f3 g1 g2 0 a b s1 s2 0 0 (fun _ => 0)), true, 0, 0)) rfl ?_
  refine go_get rfl rfl rfl rfl ?_
  refine go_ic_ge (t := 16) rfl (fun q2 => absurd q2 (Int32.not_le.mpr hkz)) (fun q2 => ?_)
  refine go_n 2 (fr' := (17, [(0, .ref 1), (1, .int (xs 3))], [.int 1], (ah_w S z f1 f2 f3 g1 g2 0 a b s1 s2 0 0 (fun _ => 0)), true, 0, 0)) rfl ?_
  refine go_rt (i := .ireturn) (tg := []) rfl ?_
  rfl
set_option maxRecDepth 20000 in
theorem pl_cell_6_3_needCell {xs : Nat → Int32} {S : Nat} {z : Int32} {f1 f2 f3 g1 g2 s1 s2 : Nat → Int32} {a b : Nat} (hk0 : ¬ xs 3 < 0) (hkz : xs 3 < z) (hkm : xs 3 < nI a * nI b) (hi : ai_in (xs 3) S = true) (hj : ai_in (xs 3) 64 = true) (hg1 : g1 (xs 3).toNatClampNeg = -1) (hg2 : g2 (xs 3).toNatClampNeg = -1) (hs1 : s1 (xs 3).toNatClampNeg = -1) (hs2 : s2 (xs 3).toNatClampNeg = -1) (hw : xs 4 = 6) : ai_Ev an_ms an_lk (8, xs) 35 10 41 [.ref 0, .int (xs 3)] (ah_w S z f1 f2 f3 g1 g2 0 a b s1 s2 0 0 (fun _ => 0)) true (.inl (none, (ah_w S z f1 f2 f3 g1 g2 0 a b s1 s2 0 0 (fun _ => 0)), true, 0, 0)) := by
  refine ev_of (M := an_X9_needCell) rfl (Nat.le_of_ble_eq_true rfl) ?_
  refine go_n 1 (fr' := (1, [(0, .ref 0), (1, .int (xs 3))], [.ref 0], (ah_w S z f1 f2 f3 g1 g2 0 a b s1 s2 0 0 (fun _ => 0)), true, 0, 0)) rfl ?_
  refine go_get rfl rfl rfl rfl ?_
  refine go_n 1 (fr' := (5, [(0, .ref 0), (1, .int (xs 3))], [.int (xs 3), .ref 1], (ah_w S z f1 f2 f3 g1 g2 0 a b s1 s2 0 0 (fun _ => 0)), true, 0, 0)) rfl ?_
  refine go_call (q := 2) (M1 := an_X0_has) rfl rfl (by decide) rfl ⟨_, rfl⟩ trivial (pl_cell_6_4_has hk0 hkz hkm hi hj hg1 hg2 hs1 hs2 hw) ?_
  refine go_eq (fr' := (8, [(0, .ref 0), (1, .int (xs 3))], [.int 1], (ah_w S z f1 f2 f3 g1 g2 0 a b s1 s2 0 0 (fun _ => 0)), true, 0, 0)) rfl ?_
  refine go_n 1 (fr' := (21, [(0, .ref 0), (1, .int (xs 3))], [], (ah_w S z f1 f2 f3 g1 g2 0 a b s1 s2 0 0 (fun _ => 0)), true, 0, 0)) rfl ?_
  refine go_rt (i := .return_) (tg := []) rfl ?_
  rfl
set_option maxRecDepth 20000 in
theorem pl_cell_6_2_cell {xs : Nat → Int32} {S : Nat} {z : Int32} {f1 f2 f3 g1 g2 s1 s2 : Nat → Int32} {a b : Nat} (hk0 : ¬ xs 3 < 0) (hkz : xs 3 < z) (hkm : xs 3 < nI a * nI b) (hi : ai_in (xs 3) S = true) (hj : ai_in (xs 3) 64 = true) (hg1 : g1 (xs 3).toNatClampNeg = -1) (hg2 : g2 (xs 3).toNatClampNeg = -1) (hs1 : s1 (xs 3).toNatClampNeg = -1) (hs2 : s2 (xs 3).toNatClampNeg = -1) (hw : xs 4 = 6) : ai_Ev an_ms an_lk (8, xs) 35 11 36 [.ref 0, .int (xs 3), .int 6] (ah_w S z f1 f2 f3 g1 g2 0 a b s1 s2 0 0 (fun _ => 0)) true (.inl (some (.int (-1)), (ah_w S z f1 f2 f3 g1 g2 0 a b s1 s2 0 0 (fun _ => 0)), true, 0, 0)) := by
  refine ev_of (M := an_X9_cell) rfl (Nat.le_of_ble_eq_true rfl) ?_
  refine go_n 2 (fr' := (2, [(0, .ref 0), (1, .int (xs 3)), (2, .int 6)], [.int (xs 3), .ref 0], (ah_w S z f1 f2 f3 g1 g2 0 a b s1 s2 0 0 (fun _ => 0)), true, 0, 0)) rfl ?_
  refine go_call (q := 41) (M1 := an_X9_needCell) rfl rfl (by decide) rfl ⟨_, rfl⟩ trivial (pl_cell_6_3_needCell hk0 hkz hkm hi hj hg1 hg2 hs1 hs2 hw) ?_
  refine go_eq (fr' := (5, [(0, .ref 0), (1, .int (xs 3)), (2, .int 6)], [], (ah_w S z f1 f2 f3 g1 g2 0 a b s1 s2 0 0 (fun _ => 0)), true, 0, 0)) rfl ?_
  refine go_n 1 (fr' := (6, [(0, .ref 0), (1, .int (xs 3)), (2, .int 6)], [.int 6], (ah_w S z f1 f2 f3 g1 g2 0 a b s1 s2 0 0 (fun _ => 0)), true, 0, 0)) rfl ?_
  refine go_tb (t := 112) rfl 6 (by decide) (by decide) rfl ?_
  refine go_n 1 (fr' := (113, [(0, .ref 0), (1, .int (xs 3)), (2, .int 6)], [.ref 0], (ah_w S z f1 f2 f3 g1 g2 0 a b s1 s2 0 0 (fun _ => 0)), true, 0, 0)) rfl ?_
  refine go_get rfl rfl rfl rfl ?_
  refine go_get rfl rfl rfl rfl ?_
  refine go_n 1 (fr' := (120, [(0, .ref 0), (1, .int (xs 3)), (2, .int 6)], [.int (xs 3), .ref 11], (ah_w S z f1 f2 f3 g1 g2 0 a b s1 s2 0 0 (fun _ => 0)), true, 0, 0)) rfl ?_
  refine go_ial rfl (by decide) rfl hi ?_
  rw [hg2]
  refine go_rt (i := .ireturn) (tg := []) rfl ?_
  rfl
set_option maxRecDepth 20000 in
theorem pl_cell_6_1_cell_ {xs : Nat → Int32} {S : Nat} {z : Int32} {f1 f2 f3 g1 g2 s1 s2 : Nat → Int32} {a b : Nat} (hk0 : ¬ xs 3 < 0) (hkz : xs 3 < z) (hkm : xs 3 < nI a * nI b) (hi : ai_in (xs 3) S = true) (hj : ai_in (xs 3) 64 = true) (hg1 : g1 (xs 3).toNatClampNeg = -1) (hg2 : g2 (xs 3).toNatClampNeg = -1) (hs1 : s1 (xs 3).toNatClampNeg = -1) (hs2 : s2 (xs 3).toNatClampNeg = -1) (hw : xs 4 = 6) : ai_Ev an_ms an_lk (8, xs) 35 12 91 [.ref 0, .int (xs 3), .int 6, .ref 85] (ah_w S z f1 f2 f3 g1 g2 0 a b s1 s2 0 0 (fun _ => 0)) true (.inl (some (.int 0), (ah_w S z f1 f2 f3 g1 g2 0 a b s1 s2 0 0 (vp_updL (fun _ => 0) 0 (((-1) : Int32).toInt64))), true, 0, 0)) := by
  refine ev_of (M := an_L_cell_) rfl (Nat.le_of_ble_eq_true rfl) ?_
  refine go_n 5 (fr' := (5, [(0, .ref 0), (1, .int (xs 3)), (2, .int 6), (3, .ref 85)], [.int 6, .int (xs 3), .ref 0, .int 0, .ref 85], (ah_w S z f1 f2 f3 g1 g2 0 a b s1 s2 0 0 (fun _ => 0)), true, 0, 0)) rfl ?_
  refine go_call (q := 36) (M1 := an_X9_cell) rfl rfl (by decide) rfl ⟨_, rfl⟩ trivial (pl_cell_6_2_cell hk0 hkz hkm hi hj hg1 hg2 hs1 hs2 hw) ?_
  refine go_eq (fr' := (8, [(0, .ref 0), (1, .int (xs 3)), (2, .int 6), (3, .ref 85)], [.int (-1), .int 0, .ref 85], (ah_w S z f1 f2 f3 g1 g2 0 a b s1 s2 0 0 (fun _ => 0)), true, 0, 0)) rfl ?_
  refine go_n 4 (fr' := (18, [(0, .ref 0), (1, .int (xs 3)), (2, .int 6), (3, .ref 85)], [.int 0], (ah_w S z f1 f2 f3 g1 g2 0 a b s1 s2 0 0 (vp_updL (fun _ => 0) 0 (((-1) : Int32).toInt64))), true, 0, 0)) rfl ?_
  refine go_rt (i := .ireturn) (tg := []) rfl ?_
  rfl
set_option maxRecDepth 20000 in
theorem pl_cell_6_6_isCell {xs : Nat → Int32} {S : Nat} {z : Int32} {f1 f2 f3 g1 g2 s1 s2 : Nat → Int32} {a b : Nat} (hk0 : ¬ xs 3 < 0) (hkz : xs 3 < z) (hkm : xs 3 < nI a * nI b) (hi : ai_in (xs 3) S = true) (hj : ai_in (xs 3) 64 = true) (hg1 : g1 (xs 3).toNatClampNeg = -1) (hg2 : g2 (xs 3).toNatClampNeg = -1) (hs1 : s1 (xs 3).toNatClampNeg = -1) (hs2 : s2 (xs 3).toNatClampNeg = -1) (hw : xs 4 = 6) : ai_Ev an_ms an_lk (8, xs) 35 11 54 [.ref 49, .int (xs 3)] (ah_w S z f1 f2 f3 g1 g2 0 a b s1 s2 0 0 (vp_updL (fun _ => 0) 0 (((-1) : Int32).toInt64))) true (.inl (some (.int 1), (ah_w S z f1 f2 f3 g1 g2 0 a b s1 s2 0 0 (vp_updL (fun _ => 0) 0 (((-1) : Int32).toInt64))), true, 0, 0)) := by
  refine ev_of (M := an_X10_isCell) rfl (Nat.le_of_ble_eq_true rfl) ?_
  refine go_n 1 (fr' := (1, [(0, .ref 49), (1, .int (xs 3))], [.int (xs 3)], (ah_w S z f1 f2 f3 g1 g2 0 a b s1 s2 0 0 (vp_updL (fun _ => 0) 0 (((-1) : Int32).toInt64))), true, 0, 0)) rfl ?_
  refine go_if_lt (t := 21) rfl (fun q1 => absurd q1 hk0) (fun q1 => ?_)
  refine go_n 2 (fr' := (6, [(0, .ref 49), (1, .int (xs 3))], [.ref 49, .int (xs 3)], (ah_w S z f1 f2 f3 g1 g2 0 a b s1 s2 0 0 (vp_updL (fun _ => 0) 0 (((-1) : Int32).toInt64))), true, 0, 0)) rfl ?_
  refine go_get rfl rfl rfl rfl ?_
  refine go_n 1 (fr' := (10, [(0, .ref 49), (1, .int (xs 3))], [.ref 49, .int (nI a), .int (xs 3)], (ah_w S z f1 f2 f3 g1 g2 0 a b s1 s2 0 0 (vp_updL (fun _ => 0) 0 (((-1) : Int32).toInt64))), true, 0, 0)) rfl ?_
  refine go_get rfl rfl rfl rfl ?_
  refine go_n 1 (fr' := (14, [(0, .ref 49), (1, .int (xs 3))], [.int ((nI a) * (nI b)), .int (xs 3)], (ah_w S z f1 f2 f3 g1 g2 0 a b s1 s2 0 0 (vp_updL (fun _ => 0) 0 (((-1) : Int32).toInt64))), true, 0, 0)) rfl ?_
  refine go_ic_ge (t := 21) rfl (fun q2 => absurd q2 (Int32.not_le.mpr hkm)) (fun q2 => ?_)
  refine go_n 2 (fr' := (22, [(0, .ref 49), (1, .int (xs 3))], [.int 1], (ah_w S z f1 f2 f3 g1 g2 0 a b s1 s2 0 0 (vp_updL (fun _ => 0) 0 (((-1) : Int32).toInt64))), true, 0, 0)) rfl ?_
  refine go_rt (i := .ireturn) (tg := []) rfl ?_
  rfl
set_option maxRecDepth 20000 in
theorem pl_cell_6_5_cell {xs : Nat → Int32} {S : Nat} {z : Int32} {f1 f2 f3 g1 g2 s1 s2 : Nat → Int32} {a b : Nat} (hk0 : ¬ xs 3 < 0) (hkz : xs 3 < z) (hkm : xs 3 < nI a * nI b) (hi : ai_in (xs 3) S = true) (hj : ai_in (xs 3) 64 = true) (hg1 : g1 (xs 3).toNatClampNeg = -1) (hg2 : g2 (xs 3).toNatClampNeg = -1) (hs1 : s1 (xs 3).toNatClampNeg = -1) (hs2 : s2 (xs 3).toNatClampNeg = -1) (hw : xs 4 = 6) : ai_Ev an_ms an_lk (8, xs) 35 12 75 [.ref 49, .int (xs 3), .int 6] (ah_w S z f1 f2 f3 g1 g2 0 a b s1 s2 0 0 (vp_updL (fun _ => 0) 0 (((-1) : Int32).toInt64))) true (.inl (some (.int (-1)), (ah_w S z f1 f2 f3 g1 g2 0 a b s1 s2 0 0 (vp_updL (fun _ => 0) 0 (((-1) : Int32).toInt64))), true, 0, 0)) := by
  refine ev_of (M := an_X10_cell) rfl (Nat.le_of_ble_eq_true rfl) ?_
  refine go_n 2 (fr' := (2, [(0, .ref 49), (1, .int (xs 3)), (2, .int 6)], [.int 0, .ref 49], (ah_w S z f1 f2 f3 g1 g2 0 a b s1 s2 0 0 (vp_updL (fun _ => 0) 0 (((-1) : Int32).toInt64))), true, 0, 0)) rfl ?_
  refine go_put rfl rfl rfl (Nat.le_of_ble_eq_true rfl) rfl ?_
  refine go_n 2 (fr' := (7, [(0, .ref 49), (1, .int (xs 3)), (2, .int 6)], [.int (xs 3), .ref 49], (ah_w S z f1 f2 f3 g1 g2 0 a b s1 s2 0 0 (vp_updL (fun _ => 0) 0 (((-1) : Int32).toInt64))), true, 0, 0)) rfl ?_
  refine go_call (q := 54) (M1 := an_X10_isCell) rfl rfl (by decide) rfl ⟨_, rfl⟩ trivial (pl_cell_6_6_isCell hk0 hkz hkm hi hj hg1 hg2 hs1 hs2 hw) ?_
  refine go_eq (fr' := (10, [(0, .ref 49), (1, .int (xs 3)), (2, .int 6)], [.int 1], (ah_w S z f1 f2 f3 g1 g2 0 a b s1 s2 0 0 (vp_updL (fun _ => 0) 0 (((-1) : Int32).toInt64))), true, 0, 0)) rfl ?_
  refine go_n 2 (fr' := (19, [(0, .ref 49), (1, .int (xs 3)), (2, .int 6)], [.int 6], (ah_w S z f1 f2 f3 g1 g2 0 a b s1 s2 0 0 (vp_updL (fun _ => 0) 0 (((-1) : Int32).toInt64))), true, 0, 0)) rfl ?_
  refine go_tb (t := 106) rfl 6 (by decide) (by decide) rfl ?_
  refine go_n 1 (fr' := (107, [(0, .ref 49), (1, .int (xs 3)), (2, .int 6)], [.ref 49], (ah_w S z f1 f2 f3 g1 g2 0 a b s1 s2 0 0 (vp_updL (fun _ => 0) 0 (((-1) : Int32).toInt64))), true, 0, 0)) rfl ?_
  refine go_get rfl rfl rfl rfl ?_
  refine go_n 1 (fr' := (111, [(0, .ref 49), (1, .int (xs 3)), (2, .int 6)], [.int (xs 3), .ref 57], (ah_w S z f1 f2 f3 g1 g2 0 a b s1 s2 0 0 (vp_updL (fun _ => 0) 0 (((-1) : Int32).toInt64))), true, 0, 0)) rfl ?_
  refine go_ial rfl (by decide) rfl hj ?_
  rw [hs2]
  refine go_rt (i := .ireturn) (tg := []) rfl ?_
  rfl
set_option maxRecDepth 20000 in
theorem pl_cell_6_7_thrown {xs : Nat → Int32} {S : Nat} {z : Int32} {f1 f2 f3 g1 g2 s1 s2 : Nat → Int32} {a b : Nat} (hk0 : ¬ xs 3 < 0) (hkz : xs 3 < z) (hkm : xs 3 < nI a * nI b) (hi : ai_in (xs 3) S = true) (hj : ai_in (xs 3) 64 = true) (hg1 : g1 (xs 3).toNatClampNeg = -1) (hg2 : g2 (xs 3).toNatClampNeg = -1) (hs1 : s1 (xs 3).toNatClampNeg = -1) (hs2 : s2 (xs 3).toNatClampNeg = -1) (hw : xs 4 = 6) : ai_Ev an_ms an_lk (8, xs) 35 12 52 [.ref 49] (ah_w S z f1 f2 f3 g1 g2 0 a b s1 s2 0 0 (vp_updL (fun _ => 0) 0 (((-1) : Int32).toInt64))) true (.inl (some (.int 0), (ah_w S z f1 f2 f3 g1 g2 0 a b s1 s2 0 0 (vp_updL (fun _ => 0) 0 (((-1) : Int32).toInt64))), true, 0, 0)) := by
  refine ev_of (M := an_X10_thrown) rfl (Nat.le_of_ble_eq_true rfl) ?_
  refine go_n 1 (fr' := (1, [(0, .ref 49)], [.ref 49], (ah_w S z f1 f2 f3 g1 g2 0 a b s1 s2 0 0 (vp_updL (fun _ => 0) 0 (((-1) : Int32).toInt64))), true, 0, 0)) rfl ?_
  refine go_get rfl rfl rfl rfl ?_
  refine go_rt (i := .ireturn) (tg := []) rfl ?_
  rfl
set_option maxRecDepth 20000 in
theorem pl_cell_6 {xs : Nat → Int32} {S : Nat} {z : Int32} {f1 f2 f3 g1 g2 s1 s2 : Nat → Int32} {a b : Nat} {ns : Nat} (hk0 : ¬ xs 3 < 0) (hkz : xs 3 < z) (hkm : xs 3 < nI a * nI b) (hi : ai_in (xs 3) S = true) (hj : ai_in (xs 3) 64 = true) (hg1 : g1 (xs 3).toNatClampNeg = -1) (hg2 : g2 (xs 3).toNatClampNeg = -1) (hs1 : s1 (xs 3).toNatClampNeg = -1) (hs2 : s2 (xs 3).toNatClampNeg = -1) (hw : xs 4 = 6) : pl_ok xs (870, [(0, .ref 1000000), (1, .ref 0), (2, .ref 49), (3, .ref 85), (4, .int 2)], [], (ah_w S z f1 f2 f3 g1 g2 0 a b s1 s2 0 0 (fun _ => 0)), true, 86, ns) ns := by
  refine pl_mk (h' := (ah_w S z f1 f2 f3 g1 g2 0 a b s1 s2 0 0 (vp_updL (fun _ => 0) 0 (((-1) : Int32).toInt64)))) (ex' := true) (nc := 86) (ns' := ns) ?_ (by omega) (by omega)
  refine go_n 11 (fr' := (883, [(0, .ref 1000000), (1, .ref 0), (2, .ref 49), (3, .ref 85), (4, .int 2)], [.int (xs 4), .int (xs 3), .ref 0], (ah_w S z f1 f2 f3 g1 g2 0 a b s1 s2 0 0 (fun _ => 0)), true, 86, ns)) rfl ?_
  rw [hw]
  refine go_n 1 (fr' := (884, [(0, .ref 1000000), (1, .ref 0), (2, .ref 49), (3, .ref 85), (4, .int 2)], [.ref 85, .int 6, .int (xs 3), .ref 0], (ah_w S z f1 f2 f3 g1 g2 0 a b s1 s2 0 0 (fun _ => 0)), true, 86, ns)) rfl ?_
  refine go_call (q := 91) (M1 := an_L_cell_) rfl rfl (by decide) rfl trivial trivial (pl_cell_6_1_cell_ hk0 hkz hkm hi hj hg1 hg2 hs1 hs2 hw) ?_
  refine go_eq (fr' := (887, [(0, .ref 1000000), (1, .ref 0), (2, .ref 49), (3, .ref 85), (4, .int 2)], [.int 0], (ah_w S z f1 f2 f3 g1 g2 0 a b s1 s2 0 0 (vp_updL (fun _ => 0) 0 (((-1) : Int32).toInt64))), true, 86, ns)) rfl ?_
  refine go_n 12 (fr' := (902, [(0, .ref 1000000), (1, .ref 0), (2, .ref 49), (3, .ref 85), (4, .int 2), (5, .int 0)], [.int (xs 4), .int (xs 3), .ref 49], (ah_w S z f1 f2 f3 g1 g2 0 a b s1 s2 0 0 (vp_updL (fun _ => 0) 0 (((-1) : Int32).toInt64))), true, 86, ns)) rfl ?_
  rw [hw]
  refine go_call (q := 75) (M1 := an_X10_cell) rfl rfl (by decide) rfl ⟨_, rfl⟩ trivial (pl_cell_6_5_cell hk0 hkz hkm hi hj hg1 hg2 hs1 hs2 hw) ?_
  refine go_eq (fr' := (905, [(0, .ref 1000000), (1, .ref 0), (2, .ref 49), (3, .ref 85), (4, .int 2), (5, .int 0)], [.int (-1)], (ah_w S z f1 f2 f3 g1 g2 0 a b s1 s2 0 0 (vp_updL (fun _ => 0) 0 (((-1) : Int32).toInt64))), true, 86, ns)) rfl ?_
  refine go_n 2 (fr' := (908, [(0, .ref 1000000), (1, .ref 0), (2, .ref 49), (3, .ref 85), (4, .int 2), (5, .int 0), (6, .int (-1))], [.ref 49], (ah_w S z f1 f2 f3 g1 g2 0 a b s1 s2 0 0 (vp_updL (fun _ => 0) 0 (((-1) : Int32).toInt64))), true, 86, ns)) rfl ?_
  refine go_call (q := 52) (M1 := an_X10_thrown) rfl rfl (by decide) rfl ⟨_, rfl⟩ trivial (pl_cell_6_7_thrown hk0 hkz hkm hi hj hg1 hg2 hs1 hs2 hw) ?_
  refine go_eq (fr' := (911, [(0, .ref 1000000), (1, .ref 0), (2, .ref 49), (3, .ref 85), (4, .int 2), (5, .int 0), (6, .int (-1))], [.int 0], (ah_w S z f1 f2 f3 g1 g2 0 a b s1 s2 0 0 (vp_updL (fun _ => 0) 0 (((-1) : Int32).toInt64))), true, 86, ns)) rfl ?_
  refine go_n 10 (fr' := (930, [(0, .ref 1000000), (1, .ref 0), (2, .ref 49), (3, .ref 85), (4, .int 2), (5, .int 0), (6, .int (-1))], [.int (lg_cmp (((-1) : Int32).toInt64) (((-1) : Int32).toInt64))], (ah_w S z f1 f2 f3 g1 g2 0 a b s1 s2 0 0 (vp_updL (fun _ => 0) 0 (((-1) : Int32).toInt64))), true, 86, ns)) rfl ?_
  refine go_if_eq (t := 935) rfl (fun q1 => ?_) (fun q1 => absurd (lg_self _) q1)
  refine go_n 1 (fr' := (1174, [(0, .ref 1000000), (1, .ref 0), (2, .ref 49), (3, .ref 85), (4, .int 2), (5, .int 0), (6, .int (-1))], [], (ah_w S z f1 f2 f3 g1 g2 0 a b s1 s2 0 0 (vp_updL (fun _ => 0) 0 (((-1) : Int32).toInt64))), true, 86, ns)) rfl ?_
  exact pl_end2
set_option maxRecDepth 20000 in
theorem pl_cell_7_4_has {xs : Nat → Int32} {S : Nat} {z : Int32} {f1 f2 f3 g1 g2 s1 s2 : Nat → Int32} {a b : Nat} (hk0 : ¬ xs 3 < 0) (hkz : xs 3 < z) (hkm : xs 3 < nI a * nI b) (hi : ai_in (xs 3) S = true) (hj : ai_in (xs 3) 64 = true) (hg1 : g1 (xs 3).toNatClampNeg = -1) (hg2 : g2 (xs 3).toNatClampNeg = -1) (hs1 : s1 (xs 3).toNatClampNeg = -1) (hs2 : s2 (xs 3).toNatClampNeg = -1) (hw : xs 4 = 7) : ai_Ev an_ms an_lk (8, xs) 35 9 2 [.ref 1, .int (xs 3)] (ah_w S z f1 f2 f3 g1 g2 0 a b s1 s2 0 0 (fun _ => 0)) true (.inl (some (.int 1), (ah_w S z f1 f2 f3 g1 g2 0 a b s1 s2 0 0 (fun _ => 0)), true, 0, 0)) := by
  refine ev_of (M := an_X0_has) rfl (Nat.le_of_ble_eq_true rfl) ?_
  refine go_n 1 (fr' := (1, [(0, .ref 1), (1, .int (xs 3))], [.int (xs 3)], (ah_w S z f1 f2 f3 g1 g2 0 a b s1 s2 0 0 (fun _ => 0)), true, 0, 0)) rfl ?_
  refine go_if_lt (t := 16) rfl (fun q1 => absurd q1 hk0) (fun q1 => ?_)
  refine go_n 2 (fr' := (6, [(0, .ref 1), (1, .int (xs 3))], [.ref 1, .int (xs 3)], (ah_w S z f1 f2 f3 g1 g2 0 a b s1 s2 0 0 (fun _ => 0)), true, 0, 0)) rfl ?_
  refine go_get rfl rfl rfl rfl ?_
  refine go_ic_ge (t := 16) rfl (fun q2 => absurd q2 (Int32.not_le.mpr hkz)) (fun q2 => ?_)
  refine go_n 2 (fr' := (17, [(0, .ref 1), (1, .int (xs 3))], [.int 1], (ah_w S z f1 f2 f3 g1 g2 0 a b s1 s2 0 0 (fun _ => 0)), true, 0, 0)) rfl ?_
  refine go_rt (i := .ireturn) (tg := []) rfl ?_
  rfl
set_option maxRecDepth 20000 in
theorem pl_cell_7_3_needCell {xs : Nat → Int32} {S : Nat} {z : Int32} {f1 f2 f3 g1 g2 s1 s2 : Nat → Int32} {a b : Nat} (hk0 : ¬ xs 3 < 0) (hkz : xs 3 < z) (hkm : xs 3 < nI a * nI b) (hi : ai_in (xs 3) S = true) (hj : ai_in (xs 3) 64 = true) (hg1 : g1 (xs 3).toNatClampNeg = -1) (hg2 : g2 (xs 3).toNatClampNeg = -1) (hs1 : s1 (xs 3).toNatClampNeg = -1) (hs2 : s2 (xs 3).toNatClampNeg = -1) (hw : xs 4 = 7) : ai_Ev an_ms an_lk (8, xs) 35 10 41 [.ref 0, .int (xs 3)] (ah_w S z f1 f2 f3 g1 g2 0 a b s1 s2 0 0 (fun _ => 0)) true (.inl (none, (ah_w S z f1 f2 f3 g1 g2 0 a b s1 s2 0 0 (fun _ => 0)), true, 0, 0)) := by
  refine ev_of (M := an_X9_needCell) rfl (Nat.le_of_ble_eq_true rfl) ?_
  refine go_n 1 (fr' := (1, [(0, .ref 0), (1, .int (xs 3))], [.ref 0], (ah_w S z f1 f2 f3 g1 g2 0 a b s1 s2 0 0 (fun _ => 0)), true, 0, 0)) rfl ?_
  refine go_get rfl rfl rfl rfl ?_
  refine go_n 1 (fr' := (5, [(0, .ref 0), (1, .int (xs 3))], [.int (xs 3), .ref 1], (ah_w S z f1 f2 f3 g1 g2 0 a b s1 s2 0 0 (fun _ => 0)), true, 0, 0)) rfl ?_
  refine go_call (q := 2) (M1 := an_X0_has) rfl rfl (by decide) rfl ⟨_, rfl⟩ trivial (pl_cell_7_4_has hk0 hkz hkm hi hj hg1 hg2 hs1 hs2 hw) ?_
  refine go_eq (fr' := (8, [(0, .ref 0), (1, .int (xs 3))], [.int 1], (ah_w S z f1 f2 f3 g1 g2 0 a b s1 s2 0 0 (fun _ => 0)), true, 0, 0)) rfl ?_
  refine go_n 1 (fr' := (21, [(0, .ref 0), (1, .int (xs 3))], [], (ah_w S z f1 f2 f3 g1 g2 0 a b s1 s2 0 0 (fun _ => 0)), true, 0, 0)) rfl ?_
  refine go_rt (i := .return_) (tg := []) rfl ?_
  rfl
set_option maxRecDepth 20000 in
theorem pl_cell_7_2_cell {xs : Nat → Int32} {S : Nat} {z : Int32} {f1 f2 f3 g1 g2 s1 s2 : Nat → Int32} {a b : Nat} (hk0 : ¬ xs 3 < 0) (hkz : xs 3 < z) (hkm : xs 3 < nI a * nI b) (hi : ai_in (xs 3) S = true) (hj : ai_in (xs 3) 64 = true) (hg1 : g1 (xs 3).toNatClampNeg = -1) (hg2 : g2 (xs 3).toNatClampNeg = -1) (hs1 : s1 (xs 3).toNatClampNeg = -1) (hs2 : s2 (xs 3).toNatClampNeg = -1) (hw : xs 4 = 7) : ai_Ev an_ms an_lk (8, xs) 35 11 36 [.ref 0, .int (xs 3), .int 7] (ah_w S z f1 f2 f3 g1 g2 0 a b s1 s2 0 0 (fun _ => 0)) true (.inl (some (.int 0), (ah_w S z f1 f2 f3 g1 g2 0 a b s1 s2 0 0 (fun _ => 0)), true, 0, 0)) := by
  refine ev_of (M := an_X9_cell) rfl (Nat.le_of_ble_eq_true rfl) ?_
  refine go_n 2 (fr' := (2, [(0, .ref 0), (1, .int (xs 3)), (2, .int 7)], [.int (xs 3), .ref 0], (ah_w S z f1 f2 f3 g1 g2 0 a b s1 s2 0 0 (fun _ => 0)), true, 0, 0)) rfl ?_
  refine go_call (q := 41) (M1 := an_X9_needCell) rfl rfl (by decide) rfl ⟨_, rfl⟩ trivial (pl_cell_7_3_needCell hk0 hkz hkm hi hj hg1 hg2 hs1 hs2 hw) ?_
  refine go_eq (fr' := (5, [(0, .ref 0), (1, .int (xs 3)), (2, .int 7)], [], (ah_w S z f1 f2 f3 g1 g2 0 a b s1 s2 0 0 (fun _ => 0)), true, 0, 0)) rfl ?_
  refine go_n 1 (fr' := (6, [(0, .ref 0), (1, .int (xs 3)), (2, .int 7)], [.int 7], (ah_w S z f1 f2 f3 g1 g2 0 a b s1 s2 0 0 (fun _ => 0)), true, 0, 0)) rfl ?_
  refine go_tb (t := 122) rfl 7 (by decide) (by decide) rfl ?_
  refine go_n 1 (fr' := (123, [(0, .ref 0), (1, .int (xs 3)), (2, .int 7)], [.ref 0], (ah_w S z f1 f2 f3 g1 g2 0 a b s1 s2 0 0 (fun _ => 0)), true, 0, 0)) rfl ?_
  refine go_get rfl rfl rfl rfl ?_
  refine go_get rfl rfl rfl rfl ?_
  refine go_n 1 (fr' := (130, [(0, .ref 0), (1, .int (xs 3)), (2, .int 7)], [.int (xs 3), .ref 12], (ah_w S z f1 f2 f3 g1 g2 0 a b s1 s2 0 0 (fun _ => 0)), true, 0, 0)) rfl ?_
  refine go_zal rfl rfl hi ?_
  refine go_n 2 (fr' := (139, [(0, .ref 0), (1, .int (xs 3)), (2, .int 7)], [.int 0], (ah_w S z f1 f2 f3 g1 g2 0 a b s1 s2 0 0 (fun _ => 0)), true, 0, 0)) rfl ?_
  refine go_rt (i := .ireturn) (tg := []) rfl ?_
  rfl
set_option maxRecDepth 20000 in
theorem pl_cell_7_1_cell_ {xs : Nat → Int32} {S : Nat} {z : Int32} {f1 f2 f3 g1 g2 s1 s2 : Nat → Int32} {a b : Nat} (hk0 : ¬ xs 3 < 0) (hkz : xs 3 < z) (hkm : xs 3 < nI a * nI b) (hi : ai_in (xs 3) S = true) (hj : ai_in (xs 3) 64 = true) (hg1 : g1 (xs 3).toNatClampNeg = -1) (hg2 : g2 (xs 3).toNatClampNeg = -1) (hs1 : s1 (xs 3).toNatClampNeg = -1) (hs2 : s2 (xs 3).toNatClampNeg = -1) (hw : xs 4 = 7) : ai_Ev an_ms an_lk (8, xs) 35 12 91 [.ref 0, .int (xs 3), .int 7, .ref 85] (ah_w S z f1 f2 f3 g1 g2 0 a b s1 s2 0 0 (fun _ => 0)) true (.inl (some (.int 0), (ah_w S z f1 f2 f3 g1 g2 0 a b s1 s2 0 0 (vp_updL (fun _ => 0) 0 ((0 : Int32).toInt64))), true, 0, 0)) := by
  refine ev_of (M := an_L_cell_) rfl (Nat.le_of_ble_eq_true rfl) ?_
  refine go_n 5 (fr' := (5, [(0, .ref 0), (1, .int (xs 3)), (2, .int 7), (3, .ref 85)], [.int 7, .int (xs 3), .ref 0, .int 0, .ref 85], (ah_w S z f1 f2 f3 g1 g2 0 a b s1 s2 0 0 (fun _ => 0)), true, 0, 0)) rfl ?_
  refine go_call (q := 36) (M1 := an_X9_cell) rfl rfl (by decide) rfl ⟨_, rfl⟩ trivial (pl_cell_7_2_cell hk0 hkz hkm hi hj hg1 hg2 hs1 hs2 hw) ?_
  refine go_eq (fr' := (8, [(0, .ref 0), (1, .int (xs 3)), (2, .int 7), (3, .ref 85)], [.int 0, .int 0, .ref 85], (ah_w S z f1 f2 f3 g1 g2 0 a b s1 s2 0 0 (fun _ => 0)), true, 0, 0)) rfl ?_
  refine go_n 4 (fr' := (18, [(0, .ref 0), (1, .int (xs 3)), (2, .int 7), (3, .ref 85)], [.int 0], (ah_w S z f1 f2 f3 g1 g2 0 a b s1 s2 0 0 (vp_updL (fun _ => 0) 0 ((0 : Int32).toInt64))), true, 0, 0)) rfl ?_
  refine go_rt (i := .ireturn) (tg := []) rfl ?_
  rfl
set_option maxRecDepth 20000 in
theorem pl_cell_7_6_isCell {xs : Nat → Int32} {S : Nat} {z : Int32} {f1 f2 f3 g1 g2 s1 s2 : Nat → Int32} {a b : Nat} (hk0 : ¬ xs 3 < 0) (hkz : xs 3 < z) (hkm : xs 3 < nI a * nI b) (hi : ai_in (xs 3) S = true) (hj : ai_in (xs 3) 64 = true) (hg1 : g1 (xs 3).toNatClampNeg = -1) (hg2 : g2 (xs 3).toNatClampNeg = -1) (hs1 : s1 (xs 3).toNatClampNeg = -1) (hs2 : s2 (xs 3).toNatClampNeg = -1) (hw : xs 4 = 7) : ai_Ev an_ms an_lk (8, xs) 35 11 54 [.ref 49, .int (xs 3)] (ah_w S z f1 f2 f3 g1 g2 0 a b s1 s2 0 0 (vp_updL (fun _ => 0) 0 ((0 : Int32).toInt64))) true (.inl (some (.int 1), (ah_w S z f1 f2 f3 g1 g2 0 a b s1 s2 0 0 (vp_updL (fun _ => 0) 0 ((0 : Int32).toInt64))), true, 0, 0)) := by
  refine ev_of (M := an_X10_isCell) rfl (Nat.le_of_ble_eq_true rfl) ?_
  refine go_n 1 (fr' := (1, [(0, .ref 49), (1, .int (xs 3))], [.int (xs 3)], (ah_w S z f1 f2 f3 g1 g2 0 a b s1 s2 0 0 (vp_updL (fun _ => 0) 0 ((0 : Int32).toInt64))), true, 0, 0)) rfl ?_
  refine go_if_lt (t := 21) rfl (fun q1 => absurd q1 hk0) (fun q1 => ?_)
  refine go_n 2 (fr' := (6, [(0, .ref 49), (1, .int (xs 3))], [.ref 49, .int (xs 3)], (ah_w S z f1 f2 f3 g1 g2 0 a b s1 s2 0 0 (vp_updL (fun _ => 0) 0 ((0 : Int32).toInt64))), true, 0, 0)) rfl ?_
  refine go_get rfl rfl rfl rfl ?_
  refine go_n 1 (fr' := (10, [(0, .ref 49), (1, .int (xs 3))], [.ref 49, .int (nI a), .int (xs 3)], (ah_w S z f1 f2 f3 g1 g2 0 a b s1 s2 0 0 (vp_updL (fun _ => 0) 0 ((0 : Int32).toInt64))), true, 0, 0)) rfl ?_
  refine go_get rfl rfl rfl rfl ?_
  refine go_n 1 (fr' := (14, [(0, .ref 49), (1, .int (xs 3))], [.int ((nI a) * (nI b)), .int (xs 3)], (ah_w S z f1 f2 f3 g1 g2 0 a b s1 s2 0 0 (vp_updL (fun _ => 0) 0 ((0 : Int32).toInt64))), true, 0, 0)) rfl ?_
  refine go_ic_ge (t := 21) rfl (fun q2 => absurd q2 (Int32.not_le.mpr hkm)) (fun q2 => ?_)
  refine go_n 2 (fr' := (22, [(0, .ref 49), (1, .int (xs 3))], [.int 1], (ah_w S z f1 f2 f3 g1 g2 0 a b s1 s2 0 0 (vp_updL (fun _ => 0) 0 ((0 : Int32).toInt64))), true, 0, 0)) rfl ?_
  refine go_rt (i := .ireturn) (tg := []) rfl ?_
  rfl
set_option maxRecDepth 20000 in
theorem pl_cell_7_5_cell {xs : Nat → Int32} {S : Nat} {z : Int32} {f1 f2 f3 g1 g2 s1 s2 : Nat → Int32} {a b : Nat} (hk0 : ¬ xs 3 < 0) (hkz : xs 3 < z) (hkm : xs 3 < nI a * nI b) (hi : ai_in (xs 3) S = true) (hj : ai_in (xs 3) 64 = true) (hg1 : g1 (xs 3).toNatClampNeg = -1) (hg2 : g2 (xs 3).toNatClampNeg = -1) (hs1 : s1 (xs 3).toNatClampNeg = -1) (hs2 : s2 (xs 3).toNatClampNeg = -1) (hw : xs 4 = 7) : ai_Ev an_ms an_lk (8, xs) 35 12 75 [.ref 49, .int (xs 3), .int 7] (ah_w S z f1 f2 f3 g1 g2 0 a b s1 s2 0 0 (vp_updL (fun _ => 0) 0 ((0 : Int32).toInt64))) true (.inl (some (.int 0), (ah_w S z f1 f2 f3 g1 g2 0 a b s1 s2 0 0 (vp_updL (fun _ => 0) 0 ((0 : Int32).toInt64))), true, 0, 0)) := by
  refine ev_of (M := an_X10_cell) rfl (Nat.le_of_ble_eq_true rfl) ?_
  refine go_n 2 (fr' := (2, [(0, .ref 49), (1, .int (xs 3)), (2, .int 7)], [.int 0, .ref 49], (ah_w S z f1 f2 f3 g1 g2 0 a b s1 s2 0 0 (vp_updL (fun _ => 0) 0 ((0 : Int32).toInt64))), true, 0, 0)) rfl ?_
  refine go_put rfl rfl rfl (Nat.le_of_ble_eq_true rfl) rfl ?_
  refine go_n 2 (fr' := (7, [(0, .ref 49), (1, .int (xs 3)), (2, .int 7)], [.int (xs 3), .ref 49], (ah_w S z f1 f2 f3 g1 g2 0 a b s1 s2 0 0 (vp_updL (fun _ => 0) 0 ((0 : Int32).toInt64))), true, 0, 0)) rfl ?_
  refine go_call (q := 54) (M1 := an_X10_isCell) rfl rfl (by decide) rfl ⟨_, rfl⟩ trivial (pl_cell_7_6_isCell hk0 hkz hkm hi hj hg1 hg2 hs1 hs2 hw) ?_
  refine go_eq (fr' := (10, [(0, .ref 49), (1, .int (xs 3)), (2, .int 7)], [.int 1], (ah_w S z f1 f2 f3 g1 g2 0 a b s1 s2 0 0 (vp_updL (fun _ => 0) 0 ((0 : Int32).toInt64))), true, 0, 0)) rfl ?_
  refine go_n 2 (fr' := (19, [(0, .ref 49), (1, .int (xs 3)), (2, .int 7)], [.int 7], (ah_w S z f1 f2 f3 g1 g2 0 a b s1 s2 0 0 (vp_updL (fun _ => 0) 0 ((0 : Int32).toInt64))), true, 0, 0)) rfl ?_
  refine go_tb (t := 113) rfl 7 (by decide) (by decide) rfl ?_
  refine go_n 1 (fr' := (114, [(0, .ref 49), (1, .int (xs 3)), (2, .int 7)], [.ref 49], (ah_w S z f1 f2 f3 g1 g2 0 a b s1 s2 0 0 (vp_updL (fun _ => 0) 0 ((0 : Int32).toInt64))), true, 0, 0)) rfl ?_
  refine go_get rfl rfl rfl rfl ?_
  refine go_n 1 (fr' := (118, [(0, .ref 49), (1, .int (xs 3)), (2, .int 7)], [.int (xs 3), .ref 58], (ah_w S z f1 f2 f3 g1 g2 0 a b s1 s2 0 0 (vp_updL (fun _ => 0) 0 ((0 : Int32).toInt64))), true, 0, 0)) rfl ?_
  refine go_zal rfl rfl hj ?_
  refine go_n 2 (fr' := (127, [(0, .ref 49), (1, .int (xs 3)), (2, .int 7)], [.int 0], (ah_w S z f1 f2 f3 g1 g2 0 a b s1 s2 0 0 (vp_updL (fun _ => 0) 0 ((0 : Int32).toInt64))), true, 0, 0)) rfl ?_
  refine go_rt (i := .ireturn) (tg := []) rfl ?_
  rfl
set_option maxRecDepth 20000 in
theorem pl_cell_7_7_thrown {xs : Nat → Int32} {S : Nat} {z : Int32} {f1 f2 f3 g1 g2 s1 s2 : Nat → Int32} {a b : Nat} (hk0 : ¬ xs 3 < 0) (hkz : xs 3 < z) (hkm : xs 3 < nI a * nI b) (hi : ai_in (xs 3) S = true) (hj : ai_in (xs 3) 64 = true) (hg1 : g1 (xs 3).toNatClampNeg = -1) (hg2 : g2 (xs 3).toNatClampNeg = -1) (hs1 : s1 (xs 3).toNatClampNeg = -1) (hs2 : s2 (xs 3).toNatClampNeg = -1) (hw : xs 4 = 7) : ai_Ev an_ms an_lk (8, xs) 35 12 52 [.ref 49] (ah_w S z f1 f2 f3 g1 g2 0 a b s1 s2 0 0 (vp_updL (fun _ => 0) 0 ((0 : Int32).toInt64))) true (.inl (some (.int 0), (ah_w S z f1 f2 f3 g1 g2 0 a b s1 s2 0 0 (vp_updL (fun _ => 0) 0 ((0 : Int32).toInt64))), true, 0, 0)) := by
  refine ev_of (M := an_X10_thrown) rfl (Nat.le_of_ble_eq_true rfl) ?_
  refine go_n 1 (fr' := (1, [(0, .ref 49)], [.ref 49], (ah_w S z f1 f2 f3 g1 g2 0 a b s1 s2 0 0 (vp_updL (fun _ => 0) 0 ((0 : Int32).toInt64))), true, 0, 0)) rfl ?_
  refine go_get rfl rfl rfl rfl ?_
  refine go_rt (i := .ireturn) (tg := []) rfl ?_
  rfl
set_option maxRecDepth 20000 in
theorem pl_cell_7 {xs : Nat → Int32} {S : Nat} {z : Int32} {f1 f2 f3 g1 g2 s1 s2 : Nat → Int32} {a b : Nat} {ns : Nat} (hk0 : ¬ xs 3 < 0) (hkz : xs 3 < z) (hkm : xs 3 < nI a * nI b) (hi : ai_in (xs 3) S = true) (hj : ai_in (xs 3) 64 = true) (hg1 : g1 (xs 3).toNatClampNeg = -1) (hg2 : g2 (xs 3).toNatClampNeg = -1) (hs1 : s1 (xs 3).toNatClampNeg = -1) (hs2 : s2 (xs 3).toNatClampNeg = -1) (hw : xs 4 = 7) : pl_ok xs (870, [(0, .ref 1000000), (1, .ref 0), (2, .ref 49), (3, .ref 85), (4, .int 2)], [], (ah_w S z f1 f2 f3 g1 g2 0 a b s1 s2 0 0 (fun _ => 0)), true, 86, ns) ns := by
  refine pl_mk (h' := (ah_w S z f1 f2 f3 g1 g2 0 a b s1 s2 0 0 (vp_updL (fun _ => 0) 0 ((0 : Int32).toInt64)))) (ex' := true) (nc := 86) (ns' := ns) ?_ (by omega) (by omega)
  refine go_n 11 (fr' := (883, [(0, .ref 1000000), (1, .ref 0), (2, .ref 49), (3, .ref 85), (4, .int 2)], [.int (xs 4), .int (xs 3), .ref 0], (ah_w S z f1 f2 f3 g1 g2 0 a b s1 s2 0 0 (fun _ => 0)), true, 86, ns)) rfl ?_
  rw [hw]
  refine go_n 1 (fr' := (884, [(0, .ref 1000000), (1, .ref 0), (2, .ref 49), (3, .ref 85), (4, .int 2)], [.ref 85, .int 7, .int (xs 3), .ref 0], (ah_w S z f1 f2 f3 g1 g2 0 a b s1 s2 0 0 (fun _ => 0)), true, 86, ns)) rfl ?_
  refine go_call (q := 91) (M1 := an_L_cell_) rfl rfl (by decide) rfl trivial trivial (pl_cell_7_1_cell_ hk0 hkz hkm hi hj hg1 hg2 hs1 hs2 hw) ?_
  refine go_eq (fr' := (887, [(0, .ref 1000000), (1, .ref 0), (2, .ref 49), (3, .ref 85), (4, .int 2)], [.int 0], (ah_w S z f1 f2 f3 g1 g2 0 a b s1 s2 0 0 (vp_updL (fun _ => 0) 0 ((0 : Int32).toInt64))), true, 86, ns)) rfl ?_
  refine go_n 12 (fr' := (902, [(0, .ref 1000000), (1, .ref 0), (2, .ref 49), (3, .ref 85), (4, .int 2), (5, .int 0)], [.int (xs 4), .int (xs 3), .ref 49], (ah_w S z f1 f2 f3 g1 g2 0 a b s1 s2 0 0 (vp_updL (fun _ => 0) 0 ((0 : Int32).toInt64))), true, 86, ns)) rfl ?_
  rw [hw]
  refine go_call (q := 75) (M1 := an_X10_cell) rfl rfl (by decide) rfl ⟨_, rfl⟩ trivial (pl_cell_7_5_cell hk0 hkz hkm hi hj hg1 hg2 hs1 hs2 hw) ?_
  refine go_eq (fr' := (905, [(0, .ref 1000000), (1, .ref 0), (2, .ref 49), (3, .ref 85), (4, .int 2), (5, .int 0)], [.int 0], (ah_w S z f1 f2 f3 g1 g2 0 a b s1 s2 0 0 (vp_updL (fun _ => 0) 0 ((0 : Int32).toInt64))), true, 86, ns)) rfl ?_
  refine go_n 2 (fr' := (908, [(0, .ref 1000000), (1, .ref 0), (2, .ref 49), (3, .ref 85), (4, .int 2), (5, .int 0), (6, .int 0)], [.ref 49], (ah_w S z f1 f2 f3 g1 g2 0 a b s1 s2 0 0 (vp_updL (fun _ => 0) 0 ((0 : Int32).toInt64))), true, 86, ns)) rfl ?_
  refine go_call (q := 52) (M1 := an_X10_thrown) rfl rfl (by decide) rfl ⟨_, rfl⟩ trivial (pl_cell_7_7_thrown hk0 hkz hkm hi hj hg1 hg2 hs1 hs2 hw) ?_
  refine go_eq (fr' := (911, [(0, .ref 1000000), (1, .ref 0), (2, .ref 49), (3, .ref 85), (4, .int 2), (5, .int 0), (6, .int 0)], [.int 0], (ah_w S z f1 f2 f3 g1 g2 0 a b s1 s2 0 0 (vp_updL (fun _ => 0) 0 ((0 : Int32).toInt64))), true, 86, ns)) rfl ?_
  refine go_n 10 (fr' := (930, [(0, .ref 1000000), (1, .ref 0), (2, .ref 49), (3, .ref 85), (4, .int 2), (5, .int 0), (6, .int 0)], [.int (lg_cmp ((0 : Int32).toInt64) ((0 : Int32).toInt64))], (ah_w S z f1 f2 f3 g1 g2 0 a b s1 s2 0 0 (vp_updL (fun _ => 0) 0 ((0 : Int32).toInt64))), true, 86, ns)) rfl ?_
  refine go_if_eq (t := 935) rfl (fun q1 => ?_) (fun q1 => absurd (lg_self _) q1)
  refine go_n 1 (fr' := (1174, [(0, .ref 1000000), (1, .ref 0), (2, .ref 49), (3, .ref 85), (4, .int 2), (5, .int 0), (6, .int 0)], [], (ah_w S z f1 f2 f3 g1 g2 0 a b s1 s2 0 0 (vp_updL (fun _ => 0) 0 ((0 : Int32).toInt64))), true, 86, ns)) rfl ?_
  exact pl_end2
set_option maxRecDepth 20000 in
theorem pl_cell_x_4_has {xs : Nat → Int32} {S : Nat} {z : Int32} {f1 f2 f3 g1 g2 s1 s2 : Nat → Int32} {a b : Nat} (hk0 : ¬ xs 3 < 0) (hkz : xs 3 < z) (hkm : xs 3 < nI a * nI b) (hi : ai_in (xs 3) S = true) (hj : ai_in (xs 3) 64 = true) (hg1 : g1 (xs 3).toNatClampNeg = -1) (hg2 : g2 (xs 3).toNatClampNeg = -1) (hs1 : s1 (xs 3).toNatClampNeg = -1) (hs2 : s2 (xs 3).toNatClampNeg = -1) (hw : (xs 4).toInt < 0 ∨ 7 < (xs 4).toInt) : ai_Ev an_ms an_lk (8, xs) 35 9 2 [.ref 1, .int (xs 3)] (ah_w S z f1 f2 f3 g1 g2 0 a b s1 s2 0 0 (fun _ => 0)) true (.inl (some (.int 1), (ah_w S z f1 f2 f3 g1 g2 0 a b s1 s2 0 0 (fun _ => 0)), true, 0, 0)) := by
  refine ev_of (M := an_X0_has) rfl (Nat.le_of_ble_eq_true rfl) ?_
  refine go_n 1 (fr' := (1, [(0, .ref 1), (1, .int (xs 3))], [.int (xs 3)], (ah_w S z f1 f2 f3 g1 g2 0 a b s1 s2 0 0 (fun _ => 0)), true, 0, 0)) rfl ?_
  refine go_if_lt (t := 16) rfl (fun q1 => absurd q1 hk0) (fun q1 => ?_)
  refine go_n 2 (fr' := (6, [(0, .ref 1), (1, .int (xs 3))], [.ref 1, .int (xs 3)], (ah_w S z f1 f2 f3 g1 g2 0 a b s1 s2 0 0 (fun _ => 0)), true, 0, 0)) rfl ?_
  refine go_get rfl rfl rfl rfl ?_
  refine go_ic_ge (t := 16) rfl (fun q2 => absurd q2 (Int32.not_le.mpr hkz)) (fun q2 => ?_)
  refine go_n 2 (fr' := (17, [(0, .ref 1), (1, .int (xs 3))], [.int 1], (ah_w S z f1 f2 f3 g1 g2 0 a b s1 s2 0 0 (fun _ => 0)), true, 0, 0)) rfl ?_
  refine go_rt (i := .ireturn) (tg := []) rfl ?_
  rfl
set_option maxRecDepth 20000 in
theorem pl_cell_x_3_needCell {xs : Nat → Int32} {S : Nat} {z : Int32} {f1 f2 f3 g1 g2 s1 s2 : Nat → Int32} {a b : Nat} (hk0 : ¬ xs 3 < 0) (hkz : xs 3 < z) (hkm : xs 3 < nI a * nI b) (hi : ai_in (xs 3) S = true) (hj : ai_in (xs 3) 64 = true) (hg1 : g1 (xs 3).toNatClampNeg = -1) (hg2 : g2 (xs 3).toNatClampNeg = -1) (hs1 : s1 (xs 3).toNatClampNeg = -1) (hs2 : s2 (xs 3).toNatClampNeg = -1) (hw : (xs 4).toInt < 0 ∨ 7 < (xs 4).toInt) : ai_Ev an_ms an_lk (8, xs) 35 10 41 [.ref 0, .int (xs 3)] (ah_w S z f1 f2 f3 g1 g2 0 a b s1 s2 0 0 (fun _ => 0)) true (.inl (none, (ah_w S z f1 f2 f3 g1 g2 0 a b s1 s2 0 0 (fun _ => 0)), true, 0, 0)) := by
  refine ev_of (M := an_X9_needCell) rfl (Nat.le_of_ble_eq_true rfl) ?_
  refine go_n 1 (fr' := (1, [(0, .ref 0), (1, .int (xs 3))], [.ref 0], (ah_w S z f1 f2 f3 g1 g2 0 a b s1 s2 0 0 (fun _ => 0)), true, 0, 0)) rfl ?_
  refine go_get rfl rfl rfl rfl ?_
  refine go_n 1 (fr' := (5, [(0, .ref 0), (1, .int (xs 3))], [.int (xs 3), .ref 1], (ah_w S z f1 f2 f3 g1 g2 0 a b s1 s2 0 0 (fun _ => 0)), true, 0, 0)) rfl ?_
  refine go_call (q := 2) (M1 := an_X0_has) rfl rfl (by decide) rfl ⟨_, rfl⟩ trivial (pl_cell_x_4_has hk0 hkz hkm hi hj hg1 hg2 hs1 hs2 hw) ?_
  refine go_eq (fr' := (8, [(0, .ref 0), (1, .int (xs 3))], [.int 1], (ah_w S z f1 f2 f3 g1 g2 0 a b s1 s2 0 0 (fun _ => 0)), true, 0, 0)) rfl ?_
  refine go_n 1 (fr' := (21, [(0, .ref 0), (1, .int (xs 3))], [], (ah_w S z f1 f2 f3 g1 g2 0 a b s1 s2 0 0 (fun _ => 0)), true, 0, 0)) rfl ?_
  refine go_rt (i := .return_) (tg := []) rfl ?_
  rfl
set_option maxRecDepth 20000 in
theorem pl_cell_x_2_cell {xs : Nat → Int32} {S : Nat} {z : Int32} {f1 f2 f3 g1 g2 s1 s2 : Nat → Int32} {a b : Nat} (hk0 : ¬ xs 3 < 0) (hkz : xs 3 < z) (hkm : xs 3 < nI a * nI b) (hi : ai_in (xs 3) S = true) (hj : ai_in (xs 3) 64 = true) (hg1 : g1 (xs 3).toNatClampNeg = -1) (hg2 : g2 (xs 3).toNatClampNeg = -1) (hs1 : s1 (xs 3).toNatClampNeg = -1) (hs2 : s2 (xs 3).toNatClampNeg = -1) (hw : (xs 4).toInt < 0 ∨ 7 < (xs 4).toInt) : ai_Ev an_ms an_lk (8, xs) 35 11 36 [.ref 0, .int (xs 3), .int (xs 4)] (ah_w S z f1 f2 f3 g1 g2 0 a b s1 s2 0 0 (fun _ => 0)) true (.inr ("java/util/NoSuchElementException", (ah_w S z f1 f2 f3 g1 g2 0 a b s1 s2 0 0 (fun _ => 0)), 1, 6)) := by
  refine ev_of (M := an_X9_cell) rfl (Nat.le_of_ble_eq_true rfl) ?_
  refine go_n 2 (fr' := (2, [(0, .ref 0), (1, .int (xs 3)), (2, .int (xs 4))], [.int (xs 3), .ref 0], (ah_w S z f1 f2 f3 g1 g2 0 a b s1 s2 0 0 (fun _ => 0)), true, 0, 0)) rfl ?_
  refine go_call (q := 41) (M1 := an_X9_needCell) rfl rfl (by decide) rfl ⟨_, rfl⟩ trivial (pl_cell_x_3_needCell hk0 hkz hkm hi hj hg1 hg2 hs1 hs2 hw) ?_
  refine go_eq (fr' := (5, [(0, .ref 0), (1, .int (xs 3)), (2, .int (xs 4))], [], (ah_w S z f1 f2 f3 g1 g2 0 a b s1 s2 0 0 (fun _ => 0)), true, 0, 0)) rfl ?_
  refine go_n 1 (fr' := (6, [(0, .ref 0), (1, .int (xs 3)), (2, .int (xs 4))], [.int (xs 4)], (ah_w S z f1 f2 f3 g1 g2 0 a b s1 s2 0 0 (fun _ => 0)), true, 0, 0)) rfl ?_
  refine go_td (t := 140) rfl hw rfl ?_
  exact go_th (i := .new 183) (tg := []) rfl rfl
set_option maxRecDepth 20000 in
theorem pl_cell_x_1_cell_ {xs : Nat → Int32} {S : Nat} {z : Int32} {f1 f2 f3 g1 g2 s1 s2 : Nat → Int32} {a b : Nat} (hk0 : ¬ xs 3 < 0) (hkz : xs 3 < z) (hkm : xs 3 < nI a * nI b) (hi : ai_in (xs 3) S = true) (hj : ai_in (xs 3) 64 = true) (hg1 : g1 (xs 3).toNatClampNeg = -1) (hg2 : g2 (xs 3).toNatClampNeg = -1) (hs1 : s1 (xs 3).toNatClampNeg = -1) (hs2 : s2 (xs 3).toNatClampNeg = -1) (hw : (xs 4).toInt < 0 ∨ 7 < (xs 4).toInt) : ai_Ev an_ms an_lk (8, xs) 35 12 91 [.ref 0, .int (xs 3), .int (xs 4), .ref 85] (ah_w S z f1 f2 f3 g1 g2 0 a b s1 s2 0 0 (fun _ => 0)) true (.inl (some (.int 1), (ah_w S z f1 f2 f3 g1 g2 0 a b s1 s2 0 0 (fun _ => 0)), false, 1, 6)) := by
  refine ev_of (M := an_L_cell_) rfl (Nat.le_of_ble_eq_true rfl) ?_
  refine go_n 5 (fr' := (5, [(0, .ref 0), (1, .int (xs 3)), (2, .int (xs 4)), (3, .ref 85)], [.int (xs 4), .int (xs 3), .ref 0, .int 0, .ref 85], (ah_w S z f1 f2 f3 g1 g2 0 a b s1 s2 0 0 (fun _ => 0)), true, 0, 0)) rfl ?_
  exact go_cat (fr := (5, [(0, .ref 0), (1, .int (xs 3)), (2, .int (xs 4)), (3, .ref 85)], [.int (xs 4), .int (xs 3), .ref 0, .int 0, .ref 85], (ah_w S z f1 f2 f3 g1 g2 0 a b s1 s2 0 0 (fun _ => 0)), true, 0, 0)) (i := .invokevirtual 46) (tg := []) (q := 36) (As := [.ref 0, .int (xs 3), .int (xs 4)]) (rest := [.int 0, .ref 85]) (M1 := an_X9_cell) rfl rfl (by decide) rfl ⟨_, rfl⟩ trivial (pl_cell_x_2_cell hk0 hkz hkm hi hj hg1 hg2 hs1 hs2 hw) (st := 0) (en := 10) (hp := 13) (ix := 13) rfl (Nat.le_of_ble_eq_true rfl) (Nat.le_of_ble_eq_true rfl) rfl
set_option maxRecDepth 20000 in
theorem pl_cell_x_6_isCell {xs : Nat → Int32} {S : Nat} {z : Int32} {f1 f2 f3 g1 g2 s1 s2 : Nat → Int32} {a b : Nat} (hk0 : ¬ xs 3 < 0) (hkz : xs 3 < z) (hkm : xs 3 < nI a * nI b) (hi : ai_in (xs 3) S = true) (hj : ai_in (xs 3) 64 = true) (hg1 : g1 (xs 3).toNatClampNeg = -1) (hg2 : g2 (xs 3).toNatClampNeg = -1) (hs1 : s1 (xs 3).toNatClampNeg = -1) (hs2 : s2 (xs 3).toNatClampNeg = -1) (hw : (xs 4).toInt < 0 ∨ 7 < (xs 4).toInt) : ai_Ev an_ms an_lk (8, xs) 35 11 54 [.ref 49, .int (xs 3)] (ah_w S z f1 f2 f3 g1 g2 0 a b s1 s2 0 0 (fun _ => 0)) false (.inl (some (.int 1), (ah_w S z f1 f2 f3 g1 g2 0 a b s1 s2 0 0 (fun _ => 0)), false, 0, 0)) := by
  refine ev_of (M := an_X10_isCell) rfl (Nat.le_of_ble_eq_true rfl) ?_
  refine go_n 1 (fr' := (1, [(0, .ref 49), (1, .int (xs 3))], [.int (xs 3)], (ah_w S z f1 f2 f3 g1 g2 0 a b s1 s2 0 0 (fun _ => 0)), false, 0, 0)) rfl ?_
  refine go_if_lt (t := 21) rfl (fun q1 => absurd q1 hk0) (fun q1 => ?_)
  refine go_n 2 (fr' := (6, [(0, .ref 49), (1, .int (xs 3))], [.ref 49, .int (xs 3)], (ah_w S z f1 f2 f3 g1 g2 0 a b s1 s2 0 0 (fun _ => 0)), false, 0, 0)) rfl ?_
  refine go_get rfl rfl rfl rfl ?_
  refine go_n 1 (fr' := (10, [(0, .ref 49), (1, .int (xs 3))], [.ref 49, .int (nI a), .int (xs 3)], (ah_w S z f1 f2 f3 g1 g2 0 a b s1 s2 0 0 (fun _ => 0)), false, 0, 0)) rfl ?_
  refine go_get rfl rfl rfl rfl ?_
  refine go_n 1 (fr' := (14, [(0, .ref 49), (1, .int (xs 3))], [.int ((nI a) * (nI b)), .int (xs 3)], (ah_w S z f1 f2 f3 g1 g2 0 a b s1 s2 0 0 (fun _ => 0)), false, 0, 0)) rfl ?_
  refine go_ic_ge (t := 21) rfl (fun q2 => absurd q2 (Int32.not_le.mpr hkm)) (fun q2 => ?_)
  refine go_n 2 (fr' := (22, [(0, .ref 49), (1, .int (xs 3))], [.int 1], (ah_w S z f1 f2 f3 g1 g2 0 a b s1 s2 0 0 (fun _ => 0)), false, 0, 0)) rfl ?_
  refine go_rt (i := .ireturn) (tg := []) rfl ?_
  rfl
set_option maxRecDepth 20000 in
theorem pl_cell_x_7_fail {xs : Nat → Int32} {S : Nat} {z : Int32} {f1 f2 f3 g1 g2 s1 s2 : Nat → Int32} {a b : Nat} (hk0 : ¬ xs 3 < 0) (hkz : xs 3 < z) (hkm : xs 3 < nI a * nI b) (hi : ai_in (xs 3) S = true) (hj : ai_in (xs 3) 64 = true) (hg1 : g1 (xs 3).toNatClampNeg = -1) (hg2 : g2 (xs 3).toNatClampNeg = -1) (hs1 : s1 (xs 3).toNatClampNeg = -1) (hs2 : s2 (xs 3).toNatClampNeg = -1) (hw : (xs 4).toInt < 0 ∨ 7 < (xs 4).toInt) : ai_Ev an_ms an_lk (8, xs) 35 11 53 [.ref 49] (ah_w S z f1 f2 f3 g1 g2 0 a b s1 s2 0 0 (fun _ => 0)) false (.inl (some (.int 0), (ah_w S z f1 f2 f3 g1 g2 0 a b s1 s2 0 1 (fun _ => 0)), false, 0, 0)) := by
  refine ev_of (M := an_X10_fail) rfl (Nat.le_of_ble_eq_true rfl) ?_
  refine go_n 2 (fr' := (2, [(0, .ref 49)], [.int 1, .ref 49], (ah_w S z f1 f2 f3 g1 g2 0 a b s1 s2 0 0 (fun _ => 0)), false, 0, 0)) rfl ?_
  refine go_put rfl rfl rfl (Nat.le_of_ble_eq_true rfl) rfl ?_
  refine go_n 1 (fr' := (6, [(0, .ref 49)], [.int 0], (ah_w S z f1 f2 f3 g1 g2 0 a b s1 s2 0 1 (fun _ => 0)), false, 0, 0)) rfl ?_
  refine go_rt (i := .ireturn) (tg := []) rfl ?_
  rfl
set_option maxRecDepth 20000 in
theorem pl_cell_x_5_cell {xs : Nat → Int32} {S : Nat} {z : Int32} {f1 f2 f3 g1 g2 s1 s2 : Nat → Int32} {a b : Nat} (hk0 : ¬ xs 3 < 0) (hkz : xs 3 < z) (hkm : xs 3 < nI a * nI b) (hi : ai_in (xs 3) S = true) (hj : ai_in (xs 3) 64 = true) (hg1 : g1 (xs 3).toNatClampNeg = -1) (hg2 : g2 (xs 3).toNatClampNeg = -1) (hs1 : s1 (xs 3).toNatClampNeg = -1) (hs2 : s2 (xs 3).toNatClampNeg = -1) (hw : (xs 4).toInt < 0 ∨ 7 < (xs 4).toInt) : ai_Ev an_ms an_lk (8, xs) 35 12 75 [.ref 49, .int (xs 3), .int (xs 4)] (ah_w S z f1 f2 f3 g1 g2 0 a b s1 s2 0 0 (fun _ => 0)) false (.inl (some (.int 0), (ah_w S z f1 f2 f3 g1 g2 0 a b s1 s2 0 1 (fun _ => 0)), false, 0, 0)) := by
  refine ev_of (M := an_X10_cell) rfl (Nat.le_of_ble_eq_true rfl) ?_
  refine go_n 2 (fr' := (2, [(0, .ref 49), (1, .int (xs 3)), (2, .int (xs 4))], [.int 0, .ref 49], (ah_w S z f1 f2 f3 g1 g2 0 a b s1 s2 0 0 (fun _ => 0)), false, 0, 0)) rfl ?_
  refine go_put rfl rfl rfl (Nat.le_of_ble_eq_true rfl) rfl ?_
  refine go_n 2 (fr' := (7, [(0, .ref 49), (1, .int (xs 3)), (2, .int (xs 4))], [.int (xs 3), .ref 49], (ah_w S z f1 f2 f3 g1 g2 0 a b s1 s2 0 0 (fun _ => 0)), false, 0, 0)) rfl ?_
  refine go_callS (q := 54) (M1 := an_X10_isCell) rfl rfl (by decide) rfl ⟨_, rfl⟩ trivial (pl_cell_x_6_isCell hk0 hkz hkm hi hj hg1 hg2 hs1 hs2 hw) ?_
  refine go_eq (fr' := (10, [(0, .ref 49), (1, .int (xs 3)), (2, .int (xs 4))], [.int 1], (ah_w S z f1 f2 f3 g1 g2 0 a b s1 s2 0 0 (fun _ => 0)), false, 0, 0)) rfl ?_
  refine go_n 2 (fr' := (19, [(0, .ref 49), (1, .int (xs 3)), (2, .int (xs 4))], [.int (xs 4)], (ah_w S z f1 f2 f3 g1 g2 0 a b s1 s2 0 0 (fun _ => 0)), false, 0, 0)) rfl ?_
  refine go_td (t := 128) rfl hw rfl ?_
  refine go_n 1 (fr' := (129, [(0, .ref 49), (1, .int (xs 3)), (2, .int (xs 4))], [.ref 49], (ah_w S z f1 f2 f3 g1 g2 0 a b s1 s2 0 0 (fun _ => 0)), false, 0, 0)) rfl ?_
  refine go_callS (q := 53) (M1 := an_X10_fail) rfl rfl (by decide) rfl ⟨_, rfl⟩ trivial (pl_cell_x_7_fail hk0 hkz hkm hi hj hg1 hg2 hs1 hs2 hw) ?_
  refine go_eq (fr' := (132, [(0, .ref 49), (1, .int (xs 3)), (2, .int (xs 4))], [.int 0], (ah_w S z f1 f2 f3 g1 g2 0 a b s1 s2 0 1 (fun _ => 0)), false, 0, 0)) rfl ?_
  refine go_rt (i := .ireturn) (tg := []) rfl ?_
  rfl
set_option maxRecDepth 20000 in
theorem pl_cell_x_8_thrown {xs : Nat → Int32} {S : Nat} {z : Int32} {f1 f2 f3 g1 g2 s1 s2 : Nat → Int32} {a b : Nat} (hk0 : ¬ xs 3 < 0) (hkz : xs 3 < z) (hkm : xs 3 < nI a * nI b) (hi : ai_in (xs 3) S = true) (hj : ai_in (xs 3) 64 = true) (hg1 : g1 (xs 3).toNatClampNeg = -1) (hg2 : g2 (xs 3).toNatClampNeg = -1) (hs1 : s1 (xs 3).toNatClampNeg = -1) (hs2 : s2 (xs 3).toNatClampNeg = -1) (hw : (xs 4).toInt < 0 ∨ 7 < (xs 4).toInt) : ai_Ev an_ms an_lk (8, xs) 35 12 52 [.ref 49] (ah_w S z f1 f2 f3 g1 g2 0 a b s1 s2 0 1 (fun _ => 0)) false (.inl (some (.int 1), (ah_w S z f1 f2 f3 g1 g2 0 a b s1 s2 0 1 (fun _ => 0)), false, 0, 0)) := by
  refine ev_of (M := an_X10_thrown) rfl (Nat.le_of_ble_eq_true rfl) ?_
  refine go_n 1 (fr' := (1, [(0, .ref 49)], [.ref 49], (ah_w S z f1 f2 f3 g1 g2 0 a b s1 s2 0 1 (fun _ => 0)), false, 0, 0)) rfl ?_
  refine go_get rfl rfl rfl rfl ?_
  refine go_rt (i := .ireturn) (tg := []) rfl ?_
  rfl
set_option maxRecDepth 20000 in
theorem pl_cell_x {xs : Nat → Int32} {S : Nat} {z : Int32} {f1 f2 f3 g1 g2 s1 s2 : Nat → Int32} {a b : Nat} {ns : Nat} (hk0 : ¬ xs 3 < 0) (hkz : xs 3 < z) (hkm : xs 3 < nI a * nI b) (hi : ai_in (xs 3) S = true) (hj : ai_in (xs 3) 64 = true) (hg1 : g1 (xs 3).toNatClampNeg = -1) (hg2 : g2 (xs 3).toNatClampNeg = -1) (hs1 : s1 (xs 3).toNatClampNeg = -1) (hs2 : s2 (xs 3).toNatClampNeg = -1) (hw : (xs 4).toInt < 0 ∨ 7 < (xs 4).toInt) : pl_ok xs (870, [(0, .ref 1000000), (1, .ref 0), (2, .ref 49), (3, .ref 85), (4, .int 2)], [], (ah_w S z f1 f2 f3 g1 g2 0 a b s1 s2 0 0 (fun _ => 0)), true, 86, ns) ns := by
  refine pl_mk (h' := (ah_w S z f1 f2 f3 g1 g2 0 a b s1 s2 0 1 (fun _ => 0))) (ex' := false) (nc := 87) (ns' := (ns + 6)) ?_ (by omega) (by omega)
  refine go_n 12 (fr' := (884, [(0, .ref 1000000), (1, .ref 0), (2, .ref 49), (3, .ref 85), (4, .int 2)], [.ref 85, .int (xs 4), .int (xs 3), .ref 0], (ah_w S z f1 f2 f3 g1 g2 0 a b s1 s2 0 0 (fun _ => 0)), true, 86, ns)) rfl ?_
  refine go_call (q := 91) (M1 := an_L_cell_) rfl rfl (by decide) rfl trivial trivial (pl_cell_x_1_cell_ hk0 hkz hkm hi hj hg1 hg2 hs1 hs2 hw) ?_
  refine go_eq (fr' := (887, [(0, .ref 1000000), (1, .ref 0), (2, .ref 49), (3, .ref 85), (4, .int 2)], [.int 1], (ah_w S z f1 f2 f3 g1 g2 0 a b s1 s2 0 0 (fun _ => 0)), false, 87, (ns + 6))) rfl ?_
  refine go_n 12 (fr' := (902, [(0, .ref 1000000), (1, .ref 0), (2, .ref 49), (3, .ref 85), (4, .int 2), (5, .int 1)], [.int (xs 4), .int (xs 3), .ref 49], (ah_w S z f1 f2 f3 g1 g2 0 a b s1 s2 0 0 (fun _ => 0)), false, 87, (ns + 6))) rfl ?_
  refine go_callS (q := 75) (M1 := an_X10_cell) rfl rfl (by decide) rfl ⟨_, rfl⟩ trivial (pl_cell_x_5_cell hk0 hkz hkm hi hj hg1 hg2 hs1 hs2 hw) ?_
  refine go_eq (fr' := (905, [(0, .ref 1000000), (1, .ref 0), (2, .ref 49), (3, .ref 85), (4, .int 2), (5, .int 1)], [.int 0], (ah_w S z f1 f2 f3 g1 g2 0 a b s1 s2 0 1 (fun _ => 0)), false, 87, (ns + 6))) rfl ?_
  refine go_n 2 (fr' := (908, [(0, .ref 1000000), (1, .ref 0), (2, .ref 49), (3, .ref 85), (4, .int 2), (5, .int 1), (6, .int 0)], [.ref 49], (ah_w S z f1 f2 f3 g1 g2 0 a b s1 s2 0 1 (fun _ => 0)), false, 87, (ns + 6))) rfl ?_
  refine go_callS (q := 52) (M1 := an_X10_thrown) rfl rfl (by decide) rfl ⟨_, rfl⟩ trivial (pl_cell_x_8_thrown hk0 hkz hkm hi hj hg1 hg2 hs1 hs2 hw) ?_
  refine go_eq (fr' := (911, [(0, .ref 1000000), (1, .ref 0), (2, .ref 49), (3, .ref 85), (4, .int 2), (5, .int 1), (6, .int 0)], [.int 1], (ah_w S z f1 f2 f3 g1 g2 0 a b s1 s2 0 1 (fun _ => 0)), false, 87, (ns + 6))) rfl ?_
  refine go_n 5 (fr' := (1174, [(0, .ref 1000000), (1, .ref 0), (2, .ref 49), (3, .ref 85), (4, .int 2), (5, .int 1), (6, .int 0)], [], (ah_w S z f1 f2 f3 g1 g2 0 a b s1 s2 0 1 (fun _ => 0)), false, 87, (ns + 6))) rfl ?_
  exact pl_end2
