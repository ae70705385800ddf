set_option maxRecDepth 20000 in
theorem pl_count_0_2_count {xs : Nat → Int32} {S : Nat} {z : Int32} {f1 f2 f3 g1 g2 s1 s2 : Nat → Int32} {a b : Nat} (hw : xs 3 = 0) : ai_Ev an_ms an_lk (8, xs) 35 11 40 [.ref 0, .int 0] (ah_w S z f1 f2 f3 g1 g2 0 a b s1 s2 0 0 (fun _ => 0)) true (.inl (some (.int 0), (ah_w S z f1 f2 f3 g1 g2 0 a b s1 s2 0 0 (fun _ => 0)), true, 0, 0)) := by
  refine ev_of (M := an_X9_count) rfl (Nat.le_of_ble_eq_true rfl) ?_
  refine go_n 1 (fr' := (1, [(0, .ref 0), (1, .int 0)], [.int 0], (ah_w S z f1 f2 f3 g1 g2 0 a b s1 s2 0 0 (fun _ => 0)), true, 0, 0)) rfl ?_
  refine go_tb (t := 56) rfl 0 (by decide) (by decide) rfl ?_
  refine go_n 1 (fr' := (57, [(0, .ref 0), (1, .int 0)], [.ref 0], (ah_w S z f1 f2 f3 g1 g2 0 a b s1 s2 0 0 (fun _ => 0)), true, 0, 0)) rfl ?_
  refine go_get rfl rfl rfl rfl ?_
  refine go_rt (i := .ireturn) (tg := []) rfl ?_
  rfl
set_option maxRecDepth 20000 in
theorem pl_count_0_1_count {xs : Nat → Int32} {S : Nat} {z : Int32} {f1 f2 f3 g1 g2 s1 s2 : Nat → Int32} {a b : Nat} (hw : xs 3 = 0) : ai_Ev an_ms an_lk (8, xs) 35 12 95 [.ref 0, .int 0, .ref 85] (ah_w S z f1 f2 f3 g1 g2 0 a b s1 s2 0 0 (fun _ => 0)) true (.inl (some (.int 0), (ah_w S z f1 f2 f3 g1 g2 0 a b s1 s2 0 0 (vp_updL (fun _ => 0) 0 ((0 : Int32).toInt64))), true, 0, 0)) := by
  refine ev_of (M := an_L_count) rfl (Nat.le_of_ble_eq_true rfl) ?_
  refine go_n 4 (fr' := (4, [(0, .ref 0), (1, .int 0), (2, .ref 85)], [.int 0, .ref 0, .int 0, .ref 85], (ah_w S z f1 f2 f3 g1 g2 0 a b s1 s2 0 0 (fun _ => 0)), true, 0, 0)) rfl ?_
  refine go_call (q := 40) (M1 := an_X9_count) rfl rfl (by decide) rfl ⟨_, rfl⟩ trivial (pl_count_0_2_count hw) ?_
  refine go_eq (fr' := (7, [(0, .ref 0), (1, .int 0), (2, .ref 85)], [.int 0, .int 0, .ref 85], (ah_w S z f1 f2 f3 g1 g2 0 a b s1 s2 0 0 (fun _ => 0)), true, 0, 0)) rfl ?_
  refine go_n 4 (fr' := (16, [(0, .ref 0), (1, .int 0), (2, .ref 85)], [.int 0], (ah_w S z f1 f2 f3 g1 g2 0 a b s1 s2 0 0 (vp_updL (fun _ => 0) 0 ((0 : Int32).toInt64))), true, 0, 0)) rfl ?_
  refine go_rt (i := .ireturn) (tg := []) rfl ?_
  rfl
set_option maxRecDepth 20000 in
theorem pl_count_0_3_count {xs : Nat → Int32} {S : Nat} {z : Int32} {f1 f2 f3 g1 g2 s1 s2 : Nat → Int32} {a b : Nat} (hw : xs 3 = 0) : ai_Ev an_ms an_lk (8, xs) 35 12 79 [.ref 49, .int 0] (ah_w S z f1 f2 f3 g1 g2 0 a b s1 s2 0 0 (vp_updL (fun _ => 0) 0 ((0 : Int32).toInt64))) true (.inl (some (.int 0), (ah_w S z f1 f2 f3 g1 g2 0 a b s1 s2 0 0 (vp_updL (fun _ => 0) 0 ((0 : Int32).toInt64))), true, 0, 0)) := by
  refine ev_of (M := an_X10_count) rfl (Nat.le_of_ble_eq_true rfl) ?_
  refine go_n 2 (fr' := (2, [(0, .ref 49), (1, .int 0)], [.int 0, .ref 49], (ah_w S z f1 f2 f3 g1 g2 0 a b s1 s2 0 0 (vp_updL (fun _ => 0) 0 ((0 : Int32).toInt64))), true, 0, 0)) rfl ?_
  refine go_put rfl rfl rfl (Nat.le_of_ble_eq_true rfl) rfl ?_
  refine go_n 1 (fr' := (6, [(0, .ref 49), (1, .int 0)], [.int 0], (ah_w S z f1 f2 f3 g1 g2 0 a b s1 s2 0 0 (vp_updL (fun _ => 0) 0 ((0 : Int32).toInt64))), true, 0, 0)) rfl ?_
  refine go_tb (t := 60) rfl 0 (by decide) (by decide) rfl ?_
  refine go_n 1 (fr' := (61, [(0, .ref 49), (1, .int 0)], [.ref 49], (ah_w S z f1 f2 f3 g1 g2 0 a b s1 s2 0 0 (vp_updL (fun _ => 0) 0 ((0 : Int32).toInt64))), true, 0, 0)) rfl ?_
  refine go_get rfl rfl rfl rfl ?_
  refine go_rt (i := .ireturn) (tg := []) rfl ?_
  rfl
set_option maxRecDepth 20000 in
theorem pl_count_0_4_thrown {xs : Nat → Int32} {S : Nat} {z : Int32} {f1 f2 f3 g1 g2 s1 s2 : Nat → Int32} {a b : Nat} (hw : xs 3 = 0) : ai_Ev an_ms an_lk (8, xs) 35 12 52 [.ref 49] (ah_w S z f1 f2 f3 g1 g2 0 a b s1 s2 0 0 (vp_updL (fun _ => 0) 0 ((0 : Int32).toInt64))) true (.inl (some (.int 0), (ah_w S z f1 f2 f3 g1 g2 0 a b s1 s2 0 0 (vp_updL (fun _ => 0) 0 ((0 : Int32).toInt64))), true, 0, 0)) := by
  refine ev_of (M := an_X10_thrown) rfl (Nat.le_of_ble_eq_true rfl) ?_
  refine go_n 1 (fr' := (1, [(0, .ref 49)], [.ref 49], (ah_w S z f1 f2 f3 g1 g2 0 a b s1 s2 0 0 (vp_updL (fun _ => 0) 0 ((0 : Int32).toInt64))), true, 0, 0)) rfl ?_
  refine go_get rfl rfl rfl rfl ?_
  refine go_rt (i := .ireturn) (tg := []) rfl ?_
  rfl
set_option maxRecDepth 20000 in
theorem pl_count_0 {xs : Nat → Int32} {S : Nat} {z : Int32} {f1 f2 f3 g1 g2 s1 s2 : Nat → Int32} {a b : Nat} {ns : Nat} (hw : xs 3 = 0) : pl_ok xs (1118, [(0, .ref 1000000), (1, .ref 0), (2, .ref 49), (3, .ref 85), (4, .int 2)], [], (ah_w S z f1 f2 f3 g1 g2 0 a b s1 s2 0 0 (fun _ => 0)), true, 86, ns) ns := by
  refine pl_mk (h' := (ah_w S z f1 f2 f3 g1 g2 0 a b s1 s2 0 0 (vp_updL (fun _ => 0) 0 ((0 : Int32).toInt64)))) (ex' := true) (nc := 86) (ns' := ns) ?_ (by omega) (by omega)
  refine go_n 6 (fr' := (1125, [(0, .ref 1000000), (1, .ref 0), (2, .ref 49), (3, .ref 85), (4, .int 2)], [.int (xs 3), .ref 0], (ah_w S z f1 f2 f3 g1 g2 0 a b s1 s2 0 0 (fun _ => 0)), true, 86, ns)) rfl ?_
  rw [hw]
  refine go_n 1 (fr' := (1126, [(0, .ref 1000000), (1, .ref 0), (2, .ref 49), (3, .ref 85), (4, .int 2)], [.ref 85, .int 0, .ref 0], (ah_w S z f1 f2 f3 g1 g2 0 a b s1 s2 0 0 (fun _ => 0)), true, 86, ns)) rfl ?_
  refine go_call (q := 95) (M1 := an_L_count) rfl rfl (by decide) rfl trivial trivial (pl_count_0_1_count hw) ?_
  refine go_eq (fr' := (1129, [(0, .ref 1000000), (1, .ref 0), (2, .ref 49), (3, .ref 85), (4, .int 2)], [.int 0], (ah_w S z f1 f2 f3 g1 g2 0 a b s1 s2 0 0 (vp_updL (fun _ => 0) 0 ((0 : Int32).toInt64))), true, 86, ns)) rfl ?_
  refine go_n 7 (fr' := (1138, [(0, .ref 1000000), (1, .ref 0), (2, .ref 49), (3, .ref 85), (4, .int 2), (5, .int 0)], [.int (xs 3), .ref 49], (ah_w S z f1 f2 f3 g1 g2 0 a b s1 s2 0 0 (vp_updL (fun _ => 0) 0 ((0 : Int32).toInt64))), true, 86, ns)) rfl ?_
  rw [hw]
  refine go_call (q := 79) (M1 := an_X10_count) rfl rfl (by decide) rfl ⟨_, rfl⟩ trivial (pl_count_0_3_count hw) ?_
  refine go_eq (fr' := (1141, [(0, .ref 1000000), (1, .ref 0), (2, .ref 49), (3, .ref 85), (4, .int 2), (5, .int 0)], [.int 0], (ah_w S z f1 f2 f3 g1 g2 0 a b s1 s2 0 0 (vp_updL (fun _ => 0) 0 ((0 : Int32).toInt64))), true, 86, ns)) rfl ?_
  refine go_n 2 (fr' := (1144, [(0, .ref 1000000), (1, .ref 0), (2, .ref 49), (3, .ref 85), (4, .int 2), (5, .int 0), (6, .int 0)], [.ref 49], (ah_w S z f1 f2 f3 g1 g2 0 a b s1 s2 0 0 (vp_updL (fun _ => 0) 0 ((0 : Int32).toInt64))), true, 86, ns)) rfl ?_
  refine go_call (q := 52) (M1 := an_X10_thrown) rfl rfl (by decide) rfl ⟨_, rfl⟩ trivial (pl_count_0_4_thrown hw) ?_
  refine go_eq (fr' := (1147, [(0, .ref 1000000), (1, .ref 0), (2, .ref 49), (3, .ref 85), (4, .int 2), (5, .int 0), (6, .int 0)], [.int 0], (ah_w S z f1 f2 f3 g1 g2 0 a b s1 s2 0 0 (vp_updL (fun _ => 0) 0 ((0 : Int32).toInt64))), true, 86, ns)) rfl ?_
  refine go_n 10 (fr' := (1166, [(0, .ref 1000000), (1, .ref 0), (2, .ref 49), (3, .ref 85), (4, .int 2), (5, .int 0), (6, .int 0)], [.int (lg_cmp ((0 : Int32).toInt64) ((0 : Int32).toInt64))], (ah_w S z f1 f2 f3 g1 g2 0 a b s1 s2 0 0 (vp_updL (fun _ => 0) 0 ((0 : Int32).toInt64))), true, 86, ns)) rfl ?_
  refine go_if_eq (t := 1171) rfl (fun q1 => ?_) (fun q1 => absurd (lg_self _) q1)
  refine go_n 1 (fr' := (1174, [(0, .ref 1000000), (1, .ref 0), (2, .ref 49), (3, .ref 85), (4, .int 2), (5, .int 0), (6, .int 0)], [], (ah_w S z f1 f2 f3 g1 g2 0 a b s1 s2 0 0 (vp_updL (fun _ => 0) 0 ((0 : Int32).toInt64))), true, 86, ns)) rfl ?_
  exact pl_end2
set_option maxRecDepth 20000 in
theorem pl_count_5_2_count {xs : Nat → Int32} {S : Nat} {z : Int32} {f1 f2 f3 g1 g2 s1 s2 : Nat → Int32} {a b : Nat} (hw : xs 3 = 5) : ai_Ev an_ms an_lk (8, xs) 35 11 40 [.ref 0, .int 5] (ah_w S z f1 f2 f3 g1 g2 0 a b s1 s2 0 0 (fun _ => 0)) true (.inl (some (.int 0), (ah_w S z f1 f2 f3 g1 g2 0 a b s1 s2 0 0 (fun _ => 0)), true, 0, 0)) := by
  refine ev_of (M := an_X9_count) rfl (Nat.le_of_ble_eq_true rfl) ?_
  refine go_n 1 (fr' := (1, [(0, .ref 0), (1, .int 5)], [.int 5], (ah_w S z f1 f2 f3 g1 g2 0 a b s1 s2 0 0 (fun _ => 0)), true, 0, 0)) rfl ?_
  refine go_tb (t := 97) rfl 5 (by decide) (by decide) rfl ?_
  refine go_n 1 (fr' := (98, [(0, .ref 0), (1, .int 5)], [.ref 0], (ah_w S z f1 f2 f3 g1 g2 0 a b s1 s2 0 0 (fun _ => 0)), true, 0, 0)) rfl ?_
  refine go_get rfl rfl rfl rfl ?_
  refine go_get rfl rfl rfl rfl ?_
  refine go_rt (i := .ireturn) (tg := []) rfl ?_
  rfl
set_option maxRecDepth 20000 in
theorem pl_count_5_1_count {xs : Nat → Int32} {S : Nat} {z : Int32} {f1 f2 f3 g1 g2 s1 s2 : Nat → Int32} {a b : Nat} (hw : xs 3 = 5) : ai_Ev an_ms an_lk (8, xs) 35 12 95 [.ref 0, .int 5, .ref 85] (ah_w S z f1 f2 f3 g1 g2 0 a b s1 s2 0 0 (fun _ => 0)) true (.inl (some (.int 0), (ah_w S z f1 f2 f3 g1 g2 0 a b s1 s2 0 0 (vp_updL (fun _ => 0) 0 ((0 : Int32).toInt64))), true, 0, 0)) := by
  refine ev_of (M := an_L_count) rfl (Nat.le_of_ble_eq_true rfl) ?_
  refine go_n 4 (fr' := (4, [(0, .ref 0), (1, .int 5), (2, .ref 85)], [.int 5, .ref 0, .int 0, .ref 85], (ah_w S z f1 f2 f3 g1 g2 0 a b s1 s2 0 0 (fun _ => 0)), true, 0, 0)) rfl ?_
  refine go_call (q := 40) (M1 := an_X9_count) rfl rfl (by decide) rfl ⟨_, rfl⟩ trivial (pl_count_5_2_count hw) ?_
  refine go_eq (fr' := (7, [(0, .ref 0), (1, .int 5), (2, .ref 85)], [.int 0, .int 0, .ref 85], (ah_w S z f1 f2 f3 g1 g2 0 a b s1 s2 0 0 (fun _ => 0)), true, 0, 0)) rfl ?_
  refine go_n 4 (fr' := (16, [(0, .ref 0), (1, .int 5), (2, .ref 85)], [.int 0], (ah_w S z f1 f2 f3 g1 g2 0 a b s1 s2 0 0 (vp_updL (fun _ => 0) 0 ((0 : Int32).toInt64))), true, 0, 0)) rfl ?_
  refine go_rt (i := .ireturn) (tg := []) rfl ?_
  rfl
set_option maxRecDepth 20000 in
theorem pl_count_5_3_count {xs : Nat → Int32} {S : Nat} {z : Int32} {f1 f2 f3 g1 g2 s1 s2 : Nat → Int32} {a b : Nat} (hw : xs 3 = 5) : ai_Ev an_ms an_lk (8, xs) 35 12 79 [.ref 49, .int 5] (ah_w S z f1 f2 f3 g1 g2 0 a b s1 s2 0 0 (vp_updL (fun _ => 0) 0 ((0 : Int32).toInt64))) true (.inl (some (.int 0), (ah_w S z f1 f2 f3 g1 g2 0 a b s1 s2 0 0 (vp_updL (fun _ => 0) 0 ((0 : Int32).toInt64))), true, 0, 0)) := by
  refine ev_of (M := an_X10_count) rfl (Nat.le_of_ble_eq_true rfl) ?_
  refine go_n 2 (fr' := (2, [(0, .ref 49), (1, .int 5)], [.int 0, .ref 49], (ah_w S z f1 f2 f3 g1 g2 0 a b s1 s2 0 0 (vp_updL (fun _ => 0) 0 ((0 : Int32).toInt64))), true, 0, 0)) rfl ?_
  refine go_put rfl rfl rfl (Nat.le_of_ble_eq_true rfl) rfl ?_
  refine go_n 1 (fr' := (6, [(0, .ref 49), (1, .int 5)], [.int 5], (ah_w S z f1 f2 f3 g1 g2 0 a b s1 s2 0 0 (vp_updL (fun _ => 0) 0 ((0 : Int32).toInt64))), true, 0, 0)) rfl ?_
  refine go_tb (t := 89) rfl 5 (by decide) (by decide) rfl ?_
  refine go_n 1 (fr' := (90, [(0, .ref 49), (1, .int 5)], [.ref 49], (ah_w S z f1 f2 f3 g1 g2 0 a b s1 s2 0 0 (vp_updL (fun _ => 0) 0 ((0 : Int32).toInt64))), true, 0, 0)) rfl ?_
  refine go_get rfl rfl rfl rfl ?_
  refine go_rt (i := .ireturn) (tg := []) rfl ?_
  rfl
set_option maxRecDepth 20000 in
theorem pl_count_5_4_thrown {xs : Nat → Int32} {S : Nat} {z : Int32} {f1 f2 f3 g1 g2 s1 s2 : Nat → Int32} {a b : Nat} (hw : xs 3 = 5) : ai_Ev an_ms an_lk (8, xs) 35 12 52 [.ref 49] (ah_w S z f1 f2 f3 g1 g2 0 a b s1 s2 0 0 (vp_updL (fun _ => 0) 0 ((0 : Int32).toInt64))) true (.inl (some (.int 0), (ah_w S z f1 f2 f3 g1 g2 0 a b s1 s2 0 0 (vp_updL (fun _ => 0) 0 ((0 : Int32).toInt64))), true, 0, 0)) := by
  refine ev_of (M := an_X10_thrown) rfl (Nat.le_of_ble_eq_true rfl) ?_
  refine go_n 1 (fr' := (1, [(0, .ref 49)], [.ref 49], (ah_w S z f1 f2 f3 g1 g2 0 a b s1 s2 0 0 (vp_updL (fun _ => 0) 0 ((0 : Int32).toInt64))), true, 0, 0)) rfl ?_
  refine go_get rfl rfl rfl rfl ?_
  refine go_rt (i := .ireturn) (tg := []) rfl ?_
  rfl
set_option maxRecDepth 20000 in
theorem pl_count_5 {xs : Nat → Int32} {S : Nat} {z : Int32} {f1 f2 f3 g1 g2 s1 s2 : Nat → Int32} {a b : Nat} {ns : Nat} (hw : xs 3 = 5) : pl_ok xs (1118, [(0, .ref 1000000), (1, .ref 0), (2, .ref 49), (3, .ref 85), (4, .int 2)], [], (ah_w S z f1 f2 f3 g1 g2 0 a b s1 s2 0 0 (fun _ => 0)), true, 86, ns) ns := by
  refine pl_mk (h' := (ah_w S z f1 f2 f3 g1 g2 0 a b s1 s2 0 0 (vp_updL (fun _ => 0) 0 ((0 : Int32).toInt64)))) (ex' := true) (nc := 86) (ns' := ns) ?_ (by omega) (by omega)
  refine go_n 6 (fr' := (1125, [(0, .ref 1000000), (1, .ref 0), (2, .ref 49), (3, .ref 85), (4, .int 2)], [.int (xs 3), .ref 0], (ah_w S z f1 f2 f3 g1 g2 0 a b s1 s2 0 0 (fun _ => 0)), true, 86, ns)) rfl ?_
  rw [hw]
  refine go_n 1 (fr' := (1126, [(0, .ref 1000000), (1, .ref 0), (2, .ref 49), (3, .ref 85), (4, .int 2)], [.ref 85, .int 5, .ref 0], (ah_w S z f1 f2 f3 g1 g2 0 a b s1 s2 0 0 (fun _ => 0)), true, 86, ns)) rfl ?_
  refine go_call (q := 95) (M1 := an_L_count) rfl rfl (by decide) rfl trivial trivial (pl_count_5_1_count hw) ?_
  refine go_eq (fr' := (1129, [(0, .ref 1000000), (1, .ref 0), (2, .ref 49), (3, .ref 85), (4, .int 2)], [.int 0], (ah_w S z f1 f2 f3 g1 g2 0 a b s1 s2 0 0 (vp_updL (fun _ => 0) 0 ((0 : Int32).toInt64))), true, 86, ns)) rfl ?_
  refine go_n 7 (fr' := (1138, [(0, .ref 1000000), (1, .ref 0), (2, .ref 49), (3, .ref 85), (4, .int 2), (5, .int 0)], [.int (xs 3), .ref 49], (ah_w S z f1 f2 f3 g1 g2 0 a b s1 s2 0 0 (vp_updL (fun _ => 0) 0 ((0 : Int32).toInt64))), true, 86, ns)) rfl ?_
  rw [hw]
  refine go_call (q := 79) (M1 := an_X10_count) rfl rfl (by decide) rfl ⟨_, rfl⟩ trivial (pl_count_5_3_count hw) ?_
  refine go_eq (fr' := (1141, [(0, .ref 1000000), (1, .ref 0), (2, .ref 49), (3, .ref 85), (4, .int 2), (5, .int 0)], [.int 0], (ah_w S z f1 f2 f3 g1 g2 0 a b s1 s2 0 0 (vp_updL (fun _ => 0) 0 ((0 : Int32).toInt64))), true, 86, ns)) rfl ?_
  refine go_n 2 (fr' := (1144, [(0, .ref 1000000), (1, .ref 0), (2, .ref 49), (3, .ref 85), (4, .int 2), (5, .int 0), (6, .int 0)], [.ref 49], (ah_w S z f1 f2 f3 g1 g2 0 a b s1 s2 0 0 (vp_updL (fun _ => 0) 0 ((0 : Int32).toInt64))), true, 86, ns)) rfl ?_
  refine go_call (q := 52) (M1 := an_X10_thrown) rfl rfl (by decide) rfl ⟨_, rfl⟩ trivial (pl_count_5_4_thrown hw) ?_
  refine go_eq (fr' := (1147, [(0, .ref 1000000), (1, .ref 0), (2, .ref 49), (3, .ref 85), (4, .int 2), (5, .int 0), (6, .int 0)], [.int 0], (ah_w S z f1 f2 f3 g1 g2 0 a b s1 s2 0 0 (vp_updL (fun _ => 0) 0 ((0 : Int32).toInt64))), true, 86, ns)) rfl ?_
  refine go_n 10 (fr' := (1166, [(0, .ref 1000000), (1, .ref 0), (2, .ref 49), (3, .ref 85), (4, .int 2), (5, .int 0), (6, .int 0)], [.int (lg_cmp ((0 : Int32).toInt64) ((0 : Int32).toInt64))], (ah_w S z f1 f2 f3 g1 g2 0 a b s1 s2 0 0 (vp_updL (fun _ => 0) 0 ((0 : Int32).toInt64))), true, 86, ns)) rfl ?_
  refine go_if_eq (t := 1171) rfl (fun q1 => ?_) (fun q1 => absurd (lg_self _) q1)
  refine go_n 1 (fr' := (1174, [(0, .ref 1000000), (1, .ref 0), (2, .ref 49), (3, .ref 85), (4, .int 2), (5, .int 0), (6, .int 0)], [], (ah_w S z f1 f2 f3 g1 g2 0 a b s1 s2 0 0 (vp_updL (fun _ => 0) 0 ((0 : Int32).toInt64))), true, 86, ns)) rfl ?_
  exact pl_end2
set_option maxRecDepth 20000 in
theorem pl_count_6_2_count {xs : Nat → Int32} {S : Nat} {z : Int32} {f1 f2 f3 g1 g2 s1 s2 : Nat → Int32} {a b : Nat} (hw : xs 3 = 6) : ai_Ev an_ms an_lk (8, xs) 35 11 40 [.ref 0, .int 6] (ah_w S z f1 f2 f3 g1 g2 0 a b s1 s2 0 0 (fun _ => 0)) true (.inl (some (.int 0), (ah_w S z f1 f2 f3 g1 g2 0 a b s1 s2 0 0 (fun _ => 0)), true, 0, 0)) := by
  refine ev_of (M := an_X9_count) rfl (Nat.le_of_ble_eq_true rfl) ?_
  refine go_n 1 (fr' := (1, [(0, .ref 0), (1, .int 6)], [.int 6], (ah_w S z f1 f2 f3 g1 g2 0 a b s1 s2 0 0 (fun _ => 0)), true, 0, 0)) rfl ?_
  refine go_tb (t := 105) rfl 6 (by decide) (by decide) rfl ?_
  refine go_n 1 (fr' := (106, [(0, .ref 0), (1, .int 6)], [.ref 0], (ah_w S z f1 f2 f3 g1 g2 0 a b s1 s2 0 0 (fun _ => 0)), true, 0, 0)) rfl ?_
  refine go_get rfl rfl rfl rfl ?_
  refine go_get rfl rfl rfl rfl ?_
  refine go_rt (i := .ireturn) (tg := []) rfl ?_
  rfl
set_option maxRecDepth 20000 in
theorem pl_count_6_1_count {xs : Nat → Int32} {S : Nat} {z : Int32} {f1 f2 f3 g1 g2 s1 s2 : Nat → Int32} {a b : Nat} (hw : xs 3 = 6) : ai_Ev an_ms an_lk (8, xs) 35 12 95 [.ref 0, .int 6, .ref 85] (ah_w S z f1 f2 f3 g1 g2 0 a b s1 s2 0 0 (fun _ => 0)) true (.inl (some (.int 0), (ah_w S z f1 f2 f3 g1 g2 0 a b s1 s2 0 0 (vp_updL (fun _ => 0) 0 ((0 : Int32).toInt64))), true, 0, 0)) := by
  refine ev_of (M := an_L_count) rfl (Nat.le_of_ble_eq_true rfl) ?_
  refine go_n 4 (fr' := (4, [(0, .ref 0), (1, .int 6), (2, .ref 85)], [.int 6, .ref 0, .int 0, .ref 85], (ah_w S z f1 f2 f3 g1 g2 0 a b s1 s2 0 0 (fun _ => 0)), true, 0, 0)) rfl ?_
  refine go_call (q := 40) (M1 := an_X9_count) rfl rfl (by decide) rfl ⟨_, rfl⟩ trivial (pl_count_6_2_count hw) ?_
  refine go_eq (fr' := (7, [(0, .ref 0), (1, .int 6), (2, .ref 85)], [.int 0, .int 0, .ref 85], (ah_w S z f1 f2 f3 g1 g2 0 a b s1 s2 0 0 (fun _ => 0)), true, 0, 0)) rfl ?_
  refine go_n 4 (fr' := (16, [(0, .ref 0), (1, .int 6), (2, .ref 85)], [.int 0], (ah_w S z f1 f2 f3 g1 g2 0 a b s1 s2 0 0 (vp_updL (fun _ => 0) 0 ((0 : Int32).toInt64))), true, 0, 0)) rfl ?_
  refine go_rt (i := .ireturn) (tg := []) rfl ?_
  rfl
set_option maxRecDepth 20000 in
theorem pl_count_6_3_count {xs : Nat → Int32} {S : Nat} {z : Int32} {f1 f2 f3 g1 g2 s1 s2 : Nat → Int32} {a b : Nat} (hw : xs 3 = 6) : ai_Ev an_ms an_lk (8, xs) 35 12 79 [.ref 49, .int 6] (ah_w S z f1 f2 f3 g1 g2 0 a b s1 s2 0 0 (vp_updL (fun _ => 0) 0 ((0 : Int32).toInt64))) true (.inl (some (.int 0), (ah_w S z f1 f2 f3 g1 g2 0 a b s1 s2 0 0 (vp_updL (fun _ => 0) 0 ((0 : Int32).toInt64))), true, 0, 0)) := by
  refine ev_of (M := an_X10_count) rfl (Nat.le_of_ble_eq_true rfl) ?_
  refine go_n 2 (fr' := (2, [(0, .ref 49), (1, .int 6)], [.int 0, .ref 49], (ah_w S z f1 f2 f3 g1 g2 0 a b s1 s2 0 0 (vp_updL (fun _ => 0) 0 ((0 : Int32).toInt64))), true, 0, 0)) rfl ?_
  refine go_put rfl rfl rfl (Nat.le_of_ble_eq_true rfl) rfl ?_
  refine go_n 1 (fr' := (6, [(0, .ref 49), (1, .int 6)], [.int 6], (ah_w S z f1 f2 f3 g1 g2 0 a b s1 s2 0 0 (vp_updL (fun _ => 0) 0 ((0 : Int32).toInt64))), true, 0, 0)) rfl ?_
  refine go_tb (t := 94) rfl 6 (by decide) (by decide) rfl ?_
  refine go_n 1 (fr' := (95, [(0, .ref 49), (1, .int 6)], [.ref 49], (ah_w S z f1 f2 f3 g1 g2 0 a b s1 s2 0 0 (vp_updL (fun _ => 0) 0 ((0 : Int32).toInt64))), true, 0, 0)) rfl ?_
  refine go_get rfl rfl rfl rfl ?_
  refine go_rt (i := .ireturn) (tg := []) rfl ?_
  rfl
set_option maxRecDepth 20000 in
theorem pl_count_6_4_thrown {xs : Nat → Int32} {S : Nat} {z : Int32} {f1 f2 f3 g1 g2 s1 s2 : Nat → Int32} {a b : Nat} (hw : xs 3 = 6) : ai_Ev an_ms an_lk (8, xs) 35 12 52 [.ref 49] (ah_w S z f1 f2 f3 g1 g2 0 a b s1 s2 0 0 (vp_updL (fun _ => 0) 0 ((0 : Int32).toInt64))) true (.inl (some (.int 0), (ah_w S z f1 f2 f3 g1 g2 0 a b s1 s2 0 0 (vp_updL (fun _ => 0) 0 ((0 : Int32).toInt64))), true, 0, 0)) := by
  refine ev_of (M := an_X10_thrown) rfl (Nat.le_of_ble_eq_true rfl) ?_
  refine go_n 1 (fr' := (1, [(0, .ref 49)], [.ref 49], (ah_w S z f1 f2 f3 g1 g2 0 a b s1 s2 0 0 (vp_updL (fun _ => 0) 0 ((0 : Int32).toInt64))), true, 0, 0)) rfl ?_
  refine go_get rfl rfl rfl rfl ?_
  refine go_rt (i := .ireturn) (tg := []) rfl ?_
  rfl
set_option maxRecDepth 20000 in
theorem pl_count_6 {xs : Nat → Int32} {S : Nat} {z : Int32} {f1 f2 f3 g1 g2 s1 s2 : Nat → Int32} {a b : Nat} {ns : Nat} (hw : xs 3 = 6) : pl_ok xs (1118, [(0, .ref 1000000), (1, .ref 0), (2, .ref 49), (3, .ref 85), (4, .int 2)], [], (ah_w S z f1 f2 f3 g1 g2 0 a b s1 s2 0 0 (fun _ => 0)), true, 86, ns) ns := by
  refine pl_mk (h' := (ah_w S z f1 f2 f3 g1 g2 0 a b s1 s2 0 0 (vp_updL (fun _ => 0) 0 ((0 : Int32).toInt64)))) (ex' := true) (nc := 86) (ns' := ns) ?_ (by omega) (by omega)
  refine go_n 6 (fr' := (1125, [(0, .ref 1000000), (1, .ref 0), (2, .ref 49), (3, .ref 85), (4, .int 2)], [.int (xs 3), .ref 0], (ah_w S z f1 f2 f3 g1 g2 0 a b s1 s2 0 0 (fun _ => 0)), true, 86, ns)) rfl ?_
  rw [hw]
  refine go_n 1 (fr' := (1126, [(0, .ref 1000000), (1, .ref 0), (2, .ref 49), (3, .ref 85), (4, .int 2)], [.ref 85, .int 6, .ref 0], (ah_w S z f1 f2 f3 g1 g2 0 a b s1 s2 0 0 (fun _ => 0)), true, 86, ns)) rfl ?_
  refine go_call (q := 95) (M1 := an_L_count) rfl rfl (by decide) rfl trivial trivial (pl_count_6_1_count hw) ?_
  refine go_eq (fr' := (1129, [(0, .ref 1000000), (1, .ref 0), (2, .ref 49), (3, .ref 85), (4, .int 2)], [.int 0], (ah_w S z f1 f2 f3 g1 g2 0 a b s1 s2 0 0 (vp_updL (fun _ => 0) 0 ((0 : Int32).toInt64))), true, 86, ns)) rfl ?_
  refine go_n 7 (fr' := (1138, [(0, .ref 1000000), (1, .ref 0), (2, .ref 49), (3, .ref 85), (4, .int 2), (5, .int 0)], [.int (xs 3), .ref 49], (ah_w S z f1 f2 f3 g1 g2 0 a b s1 s2 0 0 (vp_updL (fun _ => 0) 0 ((0 : Int32).toInt64))), true, 86, ns)) rfl ?_
  rw [hw]
  refine go_call (q := 79) (M1 := an_X10_count) rfl rfl (by decide) rfl ⟨_, rfl⟩ trivial (pl_count_6_3_count hw) ?_
  refine go_eq (fr' := (1141, [(0, .ref 1000000), (1, .ref 0), (2, .ref 49), (3, .ref 85), (4, .int 2), (5, .int 0)], [.int 0], (ah_w S z f1 f2 f3 g1 g2 0 a b s1 s2 0 0 (vp_updL (fun _ => 0) 0 ((0 : Int32).toInt64))), true, 86, ns)) rfl ?_
  refine go_n 2 (fr' := (1144, [(0, .ref 1000000), (1, .ref 0), (2, .ref 49), (3, .ref 85), (4, .int 2), (5, .int 0), (6, .int 0)], [.ref 49], (ah_w S z f1 f2 f3 g1 g2 0 a b s1 s2 0 0 (vp_updL (fun _ => 0) 0 ((0 : Int32).toInt64))), true, 86, ns)) rfl ?_
  refine go_call (q := 52) (M1 := an_X10_thrown) rfl rfl (by decide) rfl ⟨_, rfl⟩ trivial (pl_count_6_4_thrown hw) ?_
  refine go_eq (fr' := (1147, [(0, .ref 1000000), (1, .ref 0), (2, .ref 49), (3, .ref 85), (4, .int 2), (5, .int 0), (6, .int 0)], [.int 0], (ah_w S z f1 f2 f3 g1 g2 0 a b s1 s2 0 0 (vp_updL (fun _ => 0) 0 ((0 : Int32).toInt64))), true, 86, ns)) rfl ?_
  refine go_n 10 (fr' := (1166, [(0, .ref 1000000), (1, .ref 0), (2, .ref 49), (3, .ref 85), (4, .int 2), (5, .int 0), (6, .int 0)], [.int (lg_cmp ((0 : Int32).toInt64) ((0 : Int32).toInt64))], (ah_w S z f1 f2 f3 g1 g2 0 a b s1 s2 0 0 (vp_updL (fun _ => 0) 0 ((0 : Int32).toInt64))), true, 86, ns)) rfl ?_
  refine go_if_eq (t := 1171) rfl (fun q1 => ?_) (fun q1 => absurd (lg_self _) q1)
  refine go_n 1 (fr' := (1174, [(0, .ref 1000000), (1, .ref 0), (2, .ref 49), (3, .ref 85), (4, .int 2), (5, .int 0), (6, .int 0)], [], (ah_w S z f1 f2 f3 g1 g2 0 a b s1 s2 0 0 (vp_updL (fun _ => 0) 0 ((0 : Int32).toInt64))), true, 86, ns)) rfl ?_
  exact pl_end2
set_option maxRecDepth 20000 in
theorem pl_count_7_3_allQuarrels {xs : Nat → Int32} {S : Nat} {z : Int32} {f1 f2 f3 g1 g2 s1 s2 : Nat → Int32} {a b : Nat} (hw : xs 3 = 7) : ai_Ev an_ms an_lk (8, xs) 35 10 9 [.ref 13] (ah_w S z f1 f2 f3 g1 g2 0 a b s1 s2 0 0 (fun _ => 0)) true (.inl (some (.int 0), (ah_w S z f1 f2 f3 g1 g2 0 a b s1 s2 0 0 (fun _ => 0)), true, 0, 0)) := by
  refine ev_of (M := an_X1_allQuarrels) rfl (Nat.le_of_ble_eq_true rfl) ?_
  refine go_n 6 (fr' := (6, [(0, .ref 13), (1, .int 0), (2, .int 0)], [.ref 13, .int 0], (ah_w S z f1 f2 f3 g1 g2 0 a b s1 s2 0 0 (fun _ => 0)), true, 0, 0)) rfl ?_
  refine go_get rfl rfl rfl rfl ?_
  refine go_n 2 (fr' := (28, [(0, .ref 13), (1, .int 0), (2, .int 0)], [.int 0], (ah_w S z f1 f2 f3 g1 g2 0 a b s1 s2 0 0 (fun _ => 0)), true, 0, 0)) rfl ?_
  refine go_rt (i := .ireturn) (tg := []) rfl ?_
  rfl
set_option maxRecDepth 20000 in
theorem pl_count_7_2_count {xs : Nat → Int32} {S : Nat} {z : Int32} {f1 f2 f3 g1 g2 s1 s2 : Nat → Int32} {a b : Nat} (hw : xs 3 = 7) : ai_Ev an_ms an_lk (8, xs) 35 11 40 [.ref 0, .int 7] (ah_w S z f1 f2 f3 g1 g2 0 a b s1 s2 0 0 (fun _ => 0)) true (.inl (some (.int 0), (ah_w S z f1 f2 f3 g1 g2 0 a b s1 s2 0 0 (fun _ => 0)), true, 0, 0)) := by
  refine ev_of (M := an_X9_count) rfl (Nat.le_of_ble_eq_true rfl) ?_
  refine go_n 1 (fr' := (1, [(0, .ref 0), (1, .int 7)], [.int 7], (ah_w S z f1 f2 f3 g1 g2 0 a b s1 s2 0 0 (fun _ => 0)), true, 0, 0)) rfl ?_
  refine go_tb (t := 113) rfl 7 (by decide) (by decide) rfl ?_
  refine go_n 1 (fr' := (114, [(0, .ref 0), (1, .int 7)], [.ref 0], (ah_w S z f1 f2 f3 g1 g2 0 a b s1 s2 0 0 (fun _ => 0)), true, 0, 0)) rfl ?_
  refine go_get rfl rfl rfl rfl ?_
  refine go_call (q := 9) (M1 := an_X1_allQuarrels) rfl rfl (by decide) rfl ⟨_, rfl⟩ trivial (pl_count_7_3_allQuarrels hw) ?_
  refine go_eq (fr' := (120, [(0, .ref 0), (1, .int 7)], [.int 0], (ah_w S z f1 f2 f3 g1 g2 0 a b s1 s2 0 0 (fun _ => 0)), true, 0, 0)) rfl ?_
  refine go_rt (i := .ireturn) (tg := []) rfl ?_
  rfl
set_option maxRecDepth 20000 in
theorem pl_count_7_1_count {xs : Nat → Int32} {S : Nat} {z : Int32} {f1 f2 f3 g1 g2 s1 s2 : Nat → Int32} {a b : Nat} (hw : xs 3 = 7) : ai_Ev an_ms an_lk (8, xs) 35 12 95 [.ref 0, .int 7, .ref 85] (ah_w S z f1 f2 f3 g1 g2 0 a b s1 s2 0 0 (fun _ => 0)) true (.inl (some (.int 0), (ah_w S z f1 f2 f3 g1 g2 0 a b s1 s2 0 0 (vp_updL (fun _ => 0) 0 ((0 : Int32).toInt64))), true, 0, 0)) := by
  refine ev_of (M := an_L_count) rfl (Nat.le_of_ble_eq_true rfl) ?_
  refine go_n 4 (fr' := (4, [(0, .ref 0), (1, .int 7), (2, .ref 85)], [.int 7, .ref 0, .int 0, .ref 85], (ah_w S z f1 f2 f3 g1 g2 0 a b s1 s2 0 0 (fun _ => 0)), true, 0, 0)) rfl ?_
  refine go_call (q := 40) (M1 := an_X9_count) rfl rfl (by decide) rfl ⟨_, rfl⟩ trivial (pl_count_7_2_count hw) ?_
  refine go_eq (fr' := (7, [(0, .ref 0), (1, .int 7), (2, .ref 85)], [.int 0, .int 0, .ref 85], (ah_w S z f1 f2 f3 g1 g2 0 a b s1 s2 0 0 (fun _ => 0)), true, 0, 0)) rfl ?_
  refine go_n 4 (fr' := (16, [(0, .ref 0), (1, .int 7), (2, .ref 85)], [.int 0], (ah_w S z f1 f2 f3 g1 g2 0 a b s1 s2 0 0 (vp_updL (fun _ => 0) 0 ((0 : Int32).toInt64))), true, 0, 0)) rfl ?_
  refine go_rt (i := .ireturn) (tg := []) rfl ?_
  rfl
set_option maxRecDepth 20000 in
theorem pl_count_7_4_count {xs : Nat → Int32} {S : Nat} {z : Int32} {f1 f2 f3 g1 g2 s1 s2 : Nat → Int32} {a b : Nat} (hw : xs 3 = 7) : ai_Ev an_ms an_lk (8, xs) 35 12 79 [.ref 49, .int 7] (ah_w S z f1 f2 f3 g1 g2 0 a b s1 s2 0 0 (vp_updL (fun _ => 0) 0 ((0 : Int32).toInt64))) true (.inl (some (.int 0), (ah_w S z f1 f2 f3 g1 g2 0 a b s1 s2 0 0 (vp_updL (fun _ => 0) 0 ((0 : Int32).toInt64))), true, 0, 0)) := by
  refine ev_of (M := an_X10_count) rfl (Nat.le_of_ble_eq_true rfl) ?_
  refine go_n 2 (fr' := (2, [(0, .ref 49), (1, .int 7)], [.int 0, .ref 49], (ah_w S z f1 f2 f3 g1 g2 0 a b s1 s2 0 0 (vp_updL (fun _ => 0) 0 ((0 : Int32).toInt64))), true, 0, 0)) rfl ?_
  refine go_put rfl rfl rfl (Nat.le_of_ble_eq_true rfl) rfl ?_
  refine go_n 1 (fr' := (6, [(0, .ref 49), (1, .int 7)], [.int 7], (ah_w S z f1 f2 f3 g1 g2 0 a b s1 s2 0 0 (vp_updL (fun _ => 0) 0 ((0 : Int32).toInt64))), true, 0, 0)) rfl ?_
  refine go_tb (t := 99) rfl 7 (by decide) (by decide) rfl ?_
  refine go_n 1 (fr' := (100, [(0, .ref 49), (1, .int 7)], [.ref 49], (ah_w S z f1 f2 f3 g1 g2 0 a b s1 s2 0 0 (vp_updL (fun _ => 0) 0 ((0 : Int32).toInt64))), true, 0, 0)) rfl ?_
  refine go_get rfl rfl rfl rfl ?_
  refine go_rt (i := .ireturn) (tg := []) rfl ?_
  rfl
set_option maxRecDepth 20000 in
theorem pl_count_7_5_thrown {xs : Nat → Int32} {S : Nat} {z : Int32} {f1 f2 f3 g1 g2 s1 s2 : Nat → Int32} {a b : Nat} (hw : xs 3 = 7) : ai_Ev an_ms an_lk (8, xs) 35 12 52 [.ref 49] (ah_w S z f1 f2 f3 g1 g2 0 a b s1 s2 0 0 (vp_updL (fun _ => 0) 0 ((0 : Int32).toInt64))) true (.inl (some (.int 0), (ah_w S z f1 f2 f3 g1 g2 0 a b s1 s2 0 0 (vp_updL (fun _ => 0) 0 ((0 : Int32).toInt64))), true, 0, 0)) := by
  refine ev_of (M := an_X10_thrown) rfl (Nat.le_of_ble_eq_true rfl) ?_
  refine go_n 1 (fr' := (1, [(0, .ref 49)], [.ref 49], (ah_w S z f1 f2 f3 g1 g2 0 a b s1 s2 0 0 (vp_updL (fun _ => 0) 0 ((0 : Int32).toInt64))), true, 0, 0)) rfl ?_
  refine go_get rfl rfl rfl rfl ?_
  refine go_rt (i := .ireturn) (tg := []) rfl ?_
  rfl
set_option maxRecDepth 20000 in
theorem pl_count_7 {xs : Nat → Int32} {S : Nat} {z : Int32} {f1 f2 f3 g1 g2 s1 s2 : Nat → Int32} {a b : Nat} {ns : Nat} (hw : xs 3 = 7) : pl_ok xs (1118, [(0, .ref 1000000), (1, .ref 0), (2, .ref 49), (3, .ref 85), (4, .int 2)], [], (ah_w S z f1 f2 f3 g1 g2 0 a b s1 s2 0 0 (fun _ => 0)), true, 86, ns) ns := by
  refine pl_mk (h' := (ah_w S z f1 f2 f3 g1 g2 0 a b s1 s2 0 0 (vp_updL (fun _ => 0) 0 ((0 : Int32).toInt64)))) (ex' := true) (nc := 86) (ns' := ns) ?_ (by omega) (by omega)
  refine go_n 6 (fr' := (1125, [(0, .ref 1000000), (1, .ref 0), (2, .ref 49), (3, .ref 85), (4, .int 2)], [.int (xs 3), .ref 0], (ah_w S z f1 f2 f3 g1 g2 0 a b s1 s2 0 0 (fun _ => 0)), true, 86, ns)) rfl ?_
  rw [hw]
  refine go_n 1 (fr' := (1126, [(0, .ref 1000000), (1, .ref 0), (2, .ref 49), (3, .ref 85), (4, .int 2)], [.ref 85, .int 7, .ref 0], (ah_w S z f1 f2 f3 g1 g2 0 a b s1 s2 0 0 (fun _ => 0)), true, 86, ns)) rfl ?_
  refine go_call (q := 95) (M1 := an_L_count) rfl rfl (by decide) rfl trivial trivial (pl_count_7_1_count hw) ?_
  refine go_eq (fr' := (1129, [(0, .ref 1000000), (1, .ref 0), (2, .ref 49), (3, .ref 85), (4, .int 2)], [.int 0], (ah_w S z f1 f2 f3 g1 g2 0 a b s1 s2 0 0 (vp_updL (fun _ => 0) 0 ((0 : Int32).toInt64))), true, 86, ns)) rfl ?_
  refine go_n 7 (fr' := (1138, [(0, .ref 1000000), (1, .ref 0), (2, .ref 49), (3, .ref 85), (4, .int 2), (5, .int 0)], [.int (xs 3), .ref 49], (ah_w S z f1 f2 f3 g1 g2 0 a b s1 s2 0 0 (vp_updL (fun _ => 0) 0 ((0 : Int32).toInt64))), true, 86, ns)) rfl ?_
  rw [hw]
  refine go_call (q := 79) (M1 := an_X10_count) rfl rfl (by decide) rfl ⟨_, rfl⟩ trivial (pl_count_7_4_count hw) ?_
  refine go_eq (fr' := (1141, [(0, .ref 1000000), (1, .ref 0), (2, .ref 49), (3, .ref 85), (4, .int 2), (5, .int 0)], [.int 0], (ah_w S z f1 f2 f3 g1 g2 0 a b s1 s2 0 0 (vp_updL (fun _ => 0) 0 ((0 : Int32).toInt64))), true, 86, ns)) rfl ?_
  refine go_n 2 (fr' := (1144, [(0, .ref 1000000), (1, .ref 0), (2, .ref 49), (3, .ref 85), (4, .int 2), (5, .int 0), (6, .int 0)], [.ref 49], (ah_w S z f1 f2 f3 g1 g2 0 a b s1 s2 0 0 (vp_updL (fun _ => 0) 0 ((0 : Int32).toInt64))), true, 86, ns)) rfl ?_
  refine go_call (q := 52) (M1 := an_X10_thrown) rfl rfl (by decide) rfl ⟨_, rfl⟩ trivial (pl_count_7_5_thrown hw) ?_
  refine go_eq (fr' := (1147, [(0, .ref 1000000), (1, .ref 0), (2, .ref 49), (3, .ref 85), (4, .int 2), (5, .int 0), (6, .int 0)], [.int 0], (ah_w S z f1 f2 f3 g1 g2 0 a b s1 s2 0 0 (vp_updL (fun _ => 0) 0 ((0 : Int32).toInt64))), true, 86, ns)) rfl ?_
  refine go_n 10 (fr' := (1166, [(0, .ref 1000000), (1, .ref 0), (2, .ref 49), (3, .ref 85), (4, .int 2), (5, .int 0), (6, .int 0)], [.int (lg_cmp ((0 : Int32).toInt64) ((0 : Int32).toInt64))], (ah_w S z f1 f2 f3 g1 g2 0 a b s1 s2 0 0 (vp_updL (fun _ => 0) 0 ((0 : Int32).toInt64))), true, 86, ns)) rfl ?_
  refine go_if_eq (t := 1171) rfl (fun q1 => ?_) (fun q1 => absurd (lg_self _) q1)
  refine go_n 1 (fr' := (1174, [(0, .ref 1000000), (1, .ref 0), (2, .ref 49), (3, .ref 85), (4, .int 2), (5, .int 0), (6, .int 0)], [], (ah_w S z f1 f2 f3 g1 g2 0 a b s1 s2 0 0 (vp_updL (fun _ => 0) 0 ((0 : Int32).toInt64))), true, 86, ns)) rfl ?_
  exact pl_end2
set_option maxRecDepth 20000 in
theorem pl_count_8_2_count {xs : Nat → Int32} {S : Nat} {z : Int32} {f1 f2 f3 g1 g2 s1 s2 : Nat → Int32} {a b : Nat} (hw : xs 3 = 8) : ai_Ev an_ms an_lk (8, xs) 35 11 40 [.ref 0, .int 8] (ah_w S z f1 f2 f3 g1 g2 0 a b s1 s2 0 0 (fun _ => 0)) true (.inl (some (.int 0), (ah_w S z f1 f2 f3 g1 g2 0 a b s1 s2 0 0 (fun _ => 0)), true, 0, 0)) := by
  refine ev_of (M := an_X9_count) rfl (Nat.le_of_ble_eq_true rfl) ?_
  refine go_n 1 (fr' := (1, [(0, .ref 0), (1, .int 8)], [.int 8], (ah_w S z f1 f2 f3 g1 g2 0 a b s1 s2 0 0 (fun _ => 0)), true, 0, 0)) rfl ?_
  refine go_tb (t := 121) rfl 8 (by decide) (by decide) rfl ?_
  refine go_n 1 (fr' := (122, [(0, .ref 0), (1, .int 8)], [.ref 0], (ah_w S z f1 f2 f3 g1 g2 0 a b s1 s2 0 0 (fun _ => 0)), true, 0, 0)) rfl ?_
  refine go_get rfl rfl rfl rfl ?_
  refine go_get rfl rfl rfl rfl ?_
  refine go_rt (i := .ireturn) (tg := []) rfl ?_
  rfl
set_option maxRecDepth 20000 in
theorem pl_count_8_1_count {xs : Nat → Int32} {S : Nat} {z : Int32} {f1 f2 f3 g1 g2 s1 s2 : Nat → Int32} {a b : Nat} (hw : xs 3 = 8) : ai_Ev an_ms an_lk (8, xs) 35 12 95 [.ref 0, .int 8, .ref 85] (ah_w S z f1 f2 f3 g1 g2 0 a b s1 s2 0 0 (fun _ => 0)) true (.inl (some (.int 0), (ah_w S z f1 f2 f3 g1 g2 0 a b s1 s2 0 0 (vp_updL (fun _ => 0) 0 ((0 : Int32).toInt64))), true, 0, 0)) := by
  refine ev_of (M := an_L_count) rfl (Nat.le_of_ble_eq_true rfl) ?_
  refine go_n 4 (fr' := (4, [(0, .ref 0), (1, .int 8), (2, .ref 85)], [.int 8, .ref 0, .int 0, .ref 85], (ah_w S z f1 f2 f3 g1 g2 0 a b s1 s2 0 0 (fun _ => 0)), true, 0, 0)) rfl ?_
  refine go_call (q := 40) (M1 := an_X9_count) rfl rfl (by decide) rfl ⟨_, rfl⟩ trivial (pl_count_8_2_count hw) ?_
  refine go_eq (fr' := (7, [(0, .ref 0), (1, .int 8), (2, .ref 85)], [.int 0, .int 0, .ref 85], (ah_w S z f1 f2 f3 g1 g2 0 a b s1 s2 0 0 (fun _ => 0)), true, 0, 0)) rfl ?_
  refine go_n 4 (fr' := (16, [(0, .ref 0), (1, .int 8), (2, .ref 85)], [.int 0], (ah_w S z f1 f2 f3 g1 g2 0 a b s1 s2 0 0 (vp_updL (fun _ => 0) 0 ((0 : Int32).toInt64))), true, 0, 0)) rfl ?_
  refine go_rt (i := .ireturn) (tg := []) rfl ?_
  rfl
set_option maxRecDepth 20000 in
theorem pl_count_8_3_count {xs : Nat → Int32} {S : Nat} {z : Int32} {f1 f2 f3 g1 g2 s1 s2 : Nat → Int32} {a b : Nat} (hw : xs 3 = 8) : ai_Ev an_ms an_lk (8, xs) 35 12 79 [.ref 49, .int 8] (ah_w S z f1 f2 f3 g1 g2 0 a b s1 s2 0 0 (vp_updL (fun _ => 0) 0 ((0 : Int32).toInt64))) true (.inl (some (.int 0), (ah_w S z f1 f2 f3 g1 g2 0 a b s1 s2 0 0 (vp_updL (fun _ => 0) 0 ((0 : Int32).toInt64))), true, 0, 0)) := by
  refine ev_of (M := an_X10_count) rfl (Nat.le_of_ble_eq_true rfl) ?_
  refine go_n 2 (fr' := (2, [(0, .ref 49), (1, .int 8)], [.int 0, .ref 49], (ah_w S z f1 f2 f3 g1 g2 0 a b s1 s2 0 0 (vp_updL (fun _ => 0) 0 ((0 : Int32).toInt64))), true, 0, 0)) rfl ?_
  refine go_put rfl rfl rfl (Nat.le_of_ble_eq_true rfl) rfl ?_
  refine go_n 1 (fr' := (6, [(0, .ref 49), (1, .int 8)], [.int 8], (ah_w S z f1 f2 f3 g1 g2 0 a b s1 s2 0 0 (vp_updL (fun _ => 0) 0 ((0 : Int32).toInt64))), true, 0, 0)) rfl ?_
  refine go_tb (t := 104) rfl 8 (by decide) (by decide) rfl ?_
  refine go_n 1 (fr' := (105, [(0, .ref 49), (1, .int 8)], [.ref 49], (ah_w S z f1 f2 f3 g1 g2 0 a b s1 s2 0 0 (vp_updL (fun _ => 0) 0 ((0 : Int32).toInt64))), true, 0, 0)) rfl ?_
  refine go_get rfl rfl rfl rfl ?_
  refine go_rt (i := .ireturn) (tg := []) rfl ?_
  rfl
set_option maxRecDepth 20000 in
theorem pl_count_8_4_thrown {xs : Nat → Int32} {S : Nat} {z : Int32} {f1 f2 f3 g1 g2 s1 s2 : Nat → Int32} {a b : Nat} (hw : xs 3 = 8) : ai_Ev an_ms an_lk (8, xs) 35 12 52 [.ref 49] (ah_w S z f1 f2 f3 g1 g2 0 a b s1 s2 0 0 (vp_updL (fun _ => 0) 0 ((0 : Int32).toInt64))) true (.inl (some (.int 0), (ah_w S z f1 f2 f3 g1 g2 0 a b s1 s2 0 0 (vp_updL (fun _ => 0) 0 ((0 : Int32).toInt64))), true, 0, 0)) := by
  refine ev_of (M := an_X10_thrown) rfl (Nat.le_of_ble_eq_true rfl) ?_
  refine go_n 1 (fr' := (1, [(0, .ref 49)], [.ref 49], (ah_w S z f1 f2 f3 g1 g2 0 a b s1 s2 0 0 (vp_updL (fun _ => 0) 0 ((0 : Int32).toInt64))), true, 0, 0)) rfl ?_
  refine go_get rfl rfl rfl rfl ?_
  refine go_rt (i := .ireturn) (tg := []) rfl ?_
  rfl
set_option maxRecDepth 20000 in
theorem pl_count_8 {xs : Nat → Int32} {S : Nat} {z : Int32} {f1 f2 f3 g1 g2 s1 s2 : Nat → Int32} {a b : Nat} {ns : Nat} (hw : xs 3 = 8) : pl_ok xs (1118, [(0, .ref 1000000), (1, .ref 0), (2, .ref 49), (3, .ref 85), (4, .int 2)], [], (ah_w S z f1 f2 f3 g1 g2 0 a b s1 s2 0 0 (fun _ => 0)), true, 86, ns) ns := by
  refine pl_mk (h' := (ah_w S z f1 f2 f3 g1 g2 0 a b s1 s2 0 0 (vp_updL (fun _ => 0) 0 ((0 : Int32).toInt64)))) (ex' := true) (nc := 86) (ns' := ns) ?_ (by omega) (by omega)
  refine go_n 6 (fr' := (1125, [(0, .ref 1000000), (1, .ref 0), (2, .ref 49), (3, .ref 85), (4, .int 2)], [.int (xs 3), .ref 0], (ah_w S z f1 f2 f3 g1 g2 0 a b s1 s2 0 0 (fun _ => 0)), true, 86, ns)) rfl ?_
  rw [hw]
  refine go_n 1 (fr' := (1126, [(0, .ref 1000000), (1, .ref 0), (2, .ref 49), (3, .ref 85), (4, .int 2)], [.ref 85, .int 8, .ref 0], (ah_w S z f1 f2 f3 g1 g2 0 a b s1 s2 0 0 (fun _ => 0)), true, 86, ns)) rfl ?_
  refine go_call (q := 95) (M1 := an_L_count) rfl rfl (by decide) rfl trivial trivial (pl_count_8_1_count hw) ?_
  refine go_eq (fr' := (1129, [(0, .ref 1000000), (1, .ref 0), (2, .ref 49), (3, .ref 85), (4, .int 2)], [.int 0], (ah_w S z f1 f2 f3 g1 g2 0 a b s1 s2 0 0 (vp_updL (fun _ => 0) 0 ((0 : Int32).toInt64))), true, 86, ns)) rfl ?_
  refine go_n 7 (fr' := (1138, [(0, .ref 1000000), (1, .ref 0), (2, .ref 49), (3, .ref 85), (4, .int 2), (5, .int 0)], [.int (xs 3), .ref 49], (ah_w S z f1 f2 f3 g1 g2 0 a b s1 s2 0 0 (vp_updL (fun _ => 0) 0 ((0 : Int32).toInt64))), true, 86, ns)) rfl ?_
  rw [hw]
  refine go_call (q := 79) (M1 := an_X10_count) rfl rfl (by decide) rfl ⟨_, rfl⟩ trivial (pl_count_8_3_count hw) ?_
  refine go_eq (fr' := (1141, [(0, .ref 1000000), (1, .ref 0), (2, .ref 49), (3, .ref 85), (4, .int 2), (5, .int 0)], [.int 0], (ah_w S z f1 f2 f3 g1 g2 0 a b s1 s2 0 0 (vp_updL (fun _ => 0) 0 ((0 : Int32).toInt64))), true, 86, ns)) rfl ?_
  refine go_n 2 (fr' := (1144, [(0, .ref 1000000), (1, .ref 0), (2, .ref 49), (3, .ref 85), (4, .int 2), (5, .int 0), (6, .int 0)], [.ref 49], (ah_w S z f1 f2 f3 g1 g2 0 a b s1 s2 0 0 (vp_updL (fun _ => 0) 0 ((0 : Int32).toInt64))), true, 86, ns)) rfl ?_
  refine go_call (q := 52) (M1 := an_X10_thrown) rfl rfl (by decide) rfl ⟨_, rfl⟩ trivial (pl_count_8_4_thrown hw) ?_
  refine go_eq (fr' := (1147, [(0, .ref 1000000), (1, .ref 0), (2, .ref 49), (3, .ref 85), (4, .int 2), (5, .int 0), (6, .int 0)], [.int 0], (ah_w S z f1 f2 f3 g1 g2 0 a b s1 s2 0 0 (vp_updL (fun _ => 0) 0 ((0 : Int32).toInt64))), true, 86, ns)) rfl ?_
  refine go_n 10 (fr' := (1166, [(0, .ref 1000000), (1, .ref 0), (2, .ref 49), (3, .ref 85), (4, .int 2), (5, .int 0), (6, .int 0)], [.int (lg_cmp ((0 : Int32).toInt64) ((0 : Int32).toInt64))], (ah_w S z f1 f2 f3 g1 g2 0 a b s1 s2 0 0 (vp_updL (fun _ => 0) 0 ((0 : Int32).toInt64))), true, 86, ns)) rfl ?_
  refine go_if_eq (t := 1171) rfl (fun q1 => ?_) (fun q1 => absurd (lg_self _) q1)
  refine go_n 1 (fr' := (1174, [(0, .ref 1000000), (1, .ref 0), (2, .ref 49), (3, .ref 85), (4, .int 2), (5, .int 0), (6, .int 0)], [], (ah_w S z f1 f2 f3 g1 g2 0 a b s1 s2 0 0 (vp_updL (fun _ => 0) 0 ((0 : Int32).toInt64))), true, 86, ns)) rfl ?_
  exact pl_end2
set_option maxRecDepth 20000 in
theorem pl_count_9_3_inForce {xs : Nat → Int32} {S : Nat} {z : Int32} {f1 f2 f3 g1 g2 s1 s2 : Nat → Int32} {a b : Nat} (hw : xs 3 = 9) : ai_Ev an_ms an_lk (8, xs) 35 10 15 [.ref 29, .int 0] (ah_w S z f1 f2 f3 g1 g2 0 a b s1 s2 0 0 (fun _ => 0)) true (.inl (some (.int (-1)), (ah_w S z f1 f2 f3 g1 g2 0 a b s1 s2 0 0 (fun _ => 0)), true, 0, 0)) := by
  refine ev_of (M := an_X4_inForce) rfl (Nat.le_of_ble_eq_true rfl) ?_
  refine go_n 6 (fr' := (6, [(0, .ref 29), (1, .int 0), (2, .int (-1)), (3, .int 0)], [.ref 29, .int 0], (ah_w S z f1 f2 f3 g1 g2 0 a b s1 s2 0 0 (fun _ => 0)), true, 0, 0)) rfl ?_
  refine go_get rfl rfl rfl rfl ?_
  refine go_n 2 (fr' := (51, [(0, .ref 29), (1, .int 0), (2, .int (-1)), (3, .int 0)], [.int (-1)], (ah_w S z f1 f2 f3 g1 g2 0 a b s1 s2 0 0 (fun _ => 0)), true, 0, 0)) rfl ?_
  refine go_rt (i := .ireturn) (tg := []) rfl ?_
  rfl
set_option maxRecDepth 20000 in
theorem pl_count_9_2_count {xs : Nat → Int32} {S : Nat} {z : Int32} {f1 f2 f3 g1 g2 s1 s2 : Nat → Int32} {a b : Nat} (hw : xs 3 = 9) : ai_Ev an_ms an_lk (8, xs) 35 11 40 [.ref 0, .int 9] (ah_w S z f1 f2 f3 g1 g2 0 a b s1 s2 0 0 (fun _ => 0)) true (.inl (some (.int (-1)), (ah_w S z f1 f2 f3 g1 g2 0 a b s1 s2 0 0 (fun _ => 0)), true, 0, 0)) := by
  refine ev_of (M := an_X9_count) rfl (Nat.le_of_ble_eq_true rfl) ?_
  refine go_n 1 (fr' := (1, [(0, .ref 0), (1, .int 9)], [.int 9], (ah_w S z f1 f2 f3 g1 g2 0 a b s1 s2 0 0 (fun _ => 0)), true, 0, 0)) rfl ?_
  refine go_tb (t := 129) rfl 9 (by decide) (by decide) rfl ?_
  refine go_n 1 (fr' := (130, [(0, .ref 0), (1, .int 9)], [.ref 0], (ah_w S z f1 f2 f3 g1 g2 0 a b s1 s2 0 0 (fun _ => 0)), true, 0, 0)) rfl ?_
  refine go_get rfl rfl rfl rfl ?_
  refine go_n 1 (fr' := (134, [(0, .ref 0), (1, .int 9)], [.ref 0, .ref 29], (ah_w S z f1 f2 f3 g1 g2 0 a b s1 s2 0 0 (fun _ => 0)), true, 0, 0)) rfl ?_
  refine go_get rfl rfl rfl rfl ?_
  refine go_n 2 (fr' := (140, [(0, .ref 0), (1, .int 9)], [.int 0, .ref 29], (ah_w S z f1 f2 f3 g1 g2 0 a b s1 s2 0 0 (fun _ => 0)), true, 0, 0)) rfl ?_
  refine go_call (q := 15) (M1 := an_X4_inForce) rfl rfl (by decide) rfl ⟨_, rfl⟩ trivial (pl_count_9_3_inForce hw) ?_
  refine go_eq (fr' := (143, [(0, .ref 0), (1, .int 9)], [.int (-1)], (ah_w S z f1 f2 f3 g1 g2 0 a b s1 s2 0 0 (fun _ => 0)), true, 0, 0)) rfl ?_
  refine go_rt (i := .ireturn) (tg := []) rfl ?_
  rfl
set_option maxRecDepth 20000 in
theorem pl_count_9_1_count {xs : Nat → Int32} {S : Nat} {z : Int32} {f1 f2 f3 g1 g2 s1 s2 : Nat → Int32} {a b : Nat} (hw : xs 3 = 9) : ai_Ev an_ms an_lk (8, xs) 35 12 95 [.ref 0, .int 9, .ref 85] (ah_w S z f1 f2 f3 g1 g2 0 a b s1 s2 0 0 (fun _ => 0)) true (.inl (some (.int 0), (ah_w S z f1 f2 f3 g1 g2 0 a b s1 s2 0 0 (vp_updL (fun _ => 0) 0 (((-1) : Int32).toInt64))), true, 0, 0)) := by
  refine ev_of (M := an_L_count) rfl (Nat.le_of_ble_eq_true rfl) ?_
  refine go_n 4 (fr' := (4, [(0, .ref 0), (1, .int 9), (2, .ref 85)], [.int 9, .ref 0, .int 0, .ref 85], (ah_w S z f1 f2 f3 g1 g2 0 a b s1 s2 0 0 (fun _ => 0)), true, 0, 0)) rfl ?_
  refine go_call (q := 40) (M1 := an_X9_count) rfl rfl (by decide) rfl ⟨_, rfl⟩ trivial (pl_count_9_2_count hw) ?_
  refine go_eq (fr' := (7, [(0, .ref 0), (1, .int 9), (2, .ref 85)], [.int (-1), .int 0, .ref 85], (ah_w S z f1 f2 f3 g1 g2 0 a b s1 s2 0 0 (fun _ => 0)), true, 0, 0)) rfl ?_
  refine go_n 4 (fr' := (16, [(0, .ref 0), (1, .int 9), (2, .ref 85)], [.int 0], (ah_w S z f1 f2 f3 g1 g2 0 a b s1 s2 0 0 (vp_updL (fun _ => 0) 0 (((-1) : Int32).toInt64))), true, 0, 0)) rfl ?_
  refine go_rt (i := .ireturn) (tg := []) rfl ?_
  rfl
set_option maxRecDepth 20000 in
theorem pl_count_9_5_force {xs : Nat → Int32} {S : Nat} {z : Int32} {f1 f2 f3 g1 g2 s1 s2 : Nat → Int32} {a b : Nat} (hw : xs 3 = 9) : ai_Ev an_ms an_lk (8, xs) 35 11 66 [.ref 49] (ah_w S z f1 f2 f3 g1 g2 0 a b s1 s2 0 0 (vp_updL (fun _ => 0) 0 (((-1) : Int32).toInt64))) true (.inl (some (.int (-1)), (ah_w S z f1 f2 f3 g1 g2 0 a b s1 s2 0 0 (vp_updL (fun _ => 0) 0 (((-1) : Int32).toInt64))), true, 0, 0)) := by
  refine ev_of (M := an_X10_force) rfl (Nat.le_of_ble_eq_true rfl) ?_
  refine go_n 6 (fr' := (6, [(0, .ref 49), (1, .int (-1)), (2, .int 0)], [.ref 49, .int 0], (ah_w S z f1 f2 f3 g1 g2 0 a b s1 s2 0 0 (vp_updL (fun _ => 0) 0 (((-1) : Int32).toInt64))), true, 0, 0)) rfl ?_
  refine go_get rfl rfl rfl rfl ?_
  refine go_n 2 (fr' := (57, [(0, .ref 49), (1, .int (-1)), (2, .int 0)], [.int (-1)], (ah_w S z f1 f2 f3 g1 g2 0 a b s1 s2 0 0 (vp_updL (fun _ => 0) 0 (((-1) : Int32).toInt64))), true, 0, 0)) rfl ?_
  refine go_rt (i := .ireturn) (tg := []) rfl ?_
  rfl
set_option maxRecDepth 20000 in
theorem pl_count_9_4_count {xs : Nat → Int32} {S : Nat} {z : Int32} {f1 f2 f3 g1 g2 s1 s2 : Nat → Int32} {a b : Nat} (hw : xs 3 = 9) : ai_Ev an_ms an_lk (8, xs) 35 12 79 [.ref 49, .int 9] (ah_w S z f1 f2 f3 g1 g2 0 a b s1 s2 0 0 (vp_updL (fun _ => 0) 0 (((-1) : Int32).toInt64))) true (.inl (some (.int (-1)), (ah_w S z f1 f2 f3 g1 g2 0 a b s1 s2 0 0 (vp_updL (fun _ => 0) 0 (((-1) : Int32).toInt64))), true, 0, 0)) := by
  refine ev_of (M := an_X10_count) rfl (Nat.le_of_ble_eq_true rfl) ?_
  refine go_n 2 (fr' := (2, [(0, .ref 49), (1, .int 9)], [.int 0, .ref 49], (ah_w S z f1 f2 f3 g1 g2 0 a b s1 s2 0 0 (vp_updL (fun _ => 0) 0 (((-1) : Int32).toInt64))), true, 0, 0)) rfl ?_
  refine go_put rfl rfl rfl (Nat.le_of_ble_eq_true rfl) rfl ?_
  refine go_n 1 (fr' := (6, [(0, .ref 49), (1, .int 9)], [.int 9], (ah_w S z f1 f2 f3 g1 g2 0 a b s1 s2 0 0 (vp_updL (fun _ => 0) 0 (((-1) : Int32).toInt64))), true, 0, 0)) rfl ?_
  refine go_tb (t := 109) rfl 9 (by decide) (by decide) rfl ?_
  refine go_n 1 (fr' := (110, [(0, .ref 49), (1, .int 9)], [.ref 49], (ah_w S z f1 f2 f3 g1 g2 0 a b s1 s2 0 0 (vp_updL (fun _ => 0) 0 (((-1) : Int32).toInt64))), true, 0, 0)) rfl ?_
  refine go_call (q := 66) (M1 := an_X10_force) rfl rfl (by decide) rfl ⟨_, rfl⟩ trivial (pl_count_9_5_force hw) ?_
  refine go_eq (fr' := (113, [(0, .ref 49), (1, .int 9)], [.int (-1)], (ah_w S z f1 f2 f3 g1 g2 0 a b s1 s2 0 0 (vp_updL (fun _ => 0) 0 (((-1) : Int32).toInt64))), true, 0, 0)) rfl ?_
  refine go_rt (i := .ireturn) (tg := []) rfl ?_
  rfl
set_option maxRecDepth 20000 in
theorem pl_count_9_6_thrown {xs : Nat → Int32} {S : Nat} {z : Int32} {f1 f2 f3 g1 g2 s1 s2 : Nat → Int32} {a b : Nat} (hw : xs 3 = 9) : ai_Ev an_ms an_lk (8, xs) 35 12 52 [.ref 49] (ah_w S z f1 f2 f3 g1 g2 0 a b s1 s2 0 0 (vp_updL (fun _ => 0) 0 (((-1) : Int32).toInt64))) true (.inl (some (.int 0), (ah_w S z f1 f2 f3 g1 g2 0 a b s1 s2 0 0 (vp_updL (fun _ => 0) 0 (((-1) : Int32).toInt64))), true, 0, 0)) := by
  refine ev_of (M := an_X10_thrown) rfl (Nat.le_of_ble_eq_true rfl) ?_
  refine go_n 1 (fr' := (1, [(0, .ref 49)], [.ref 49], (ah_w S z f1 f2 f3 g1 g2 0 a b s1 s2 0 0 (vp_updL (fun _ => 0) 0 (((-1) : Int32).toInt64))), true, 0, 0)) rfl ?_
  refine go_get rfl rfl rfl rfl ?_
  refine go_rt (i := .ireturn) (tg := []) rfl ?_
  rfl
set_option maxRecDepth 20000 in
theorem pl_count_9 {xs : Nat → Int32} {S : Nat} {z : Int32} {f1 f2 f3 g1 g2 s1 s2 : Nat → Int32} {a b : Nat} {ns : Nat} (hw : xs 3 = 9) : pl_ok xs (1118, [(0, .ref 1000000), (1, .ref 0), (2, .ref 49), (3, .ref 85), (4, .int 2)], [], (ah_w S z f1 f2 f3 g1 g2 0 a b s1 s2 0 0 (fun _ => 0)), true, 86, ns) ns := by
  refine pl_mk (h' := (ah_w S z f1 f2 f3 g1 g2 0 a b s1 s2 0 0 (vp_updL (fun _ => 0) 0 (((-1) : Int32).toInt64)))) (ex' := true) (nc := 86) (ns' := ns) ?_ (by omega) (by omega)
  refine go_n 6 (fr' := (1125, [(0, .ref 1000000), (1, .ref 0), (2, .ref 49), (3, .ref 85), (4, .int 2)], [.int (xs 3), .ref 0], (ah_w S z f1 f2 f3 g1 g2 0 a b s1 s2 0 0 (fun _ => 0)), true, 86, ns)) rfl ?_
  rw [hw]
  refine go_n 1 (fr' := (1126, [(0, .ref 1000000), (1, .ref 0), (2, .ref 49), (3, .ref 85), (4, .int 2)], [.ref 85, .int 9, .ref 0], (ah_w S z f1 f2 f3 g1 g2 0 a b s1 s2 0 0 (fun _ => 0)), true, 86, ns)) rfl ?_
  refine go_call (q := 95) (M1 := an_L_count) rfl rfl (by decide) rfl trivial trivial (pl_count_9_1_count hw) ?_
  refine go_eq (fr' := (1129, [(0, .ref 1000000), (1, .ref 0), (2, .ref 49), (3, .ref 85), (4, .int 2)], [.int 0], (ah_w S z f1 f2 f3 g1 g2 0 a b s1 s2 0 0 (vp_updL (fun _ => 0) 0 (((-1) : Int32).toInt64))), true, 86, ns)) rfl ?_
  refine go_n 7 (fr' := (1138, [(0, .ref 1000000), (1, .ref 0), (2, .ref 49), (3, .ref 85), (4, .int 2), (5, .int 0)], [.int (xs 3), .ref 49], (ah_w S z f1 f2 f3 g1 g2 0 a b s1 s2 0 0 (vp_updL (fun _ => 0) 0 (((-1) : Int32).toInt64))), true, 86, ns)) rfl ?_
  rw [hw]
  refine go_call (q := 79) (M1 := an_X10_count) rfl rfl (by decide) rfl ⟨_, rfl⟩ trivial (pl_count_9_4_count hw) ?_
  refine go_eq (fr' := (1141, [(0, .ref 1000000), (1, .ref 0), (2, .ref 49), (3, .ref 85), (4, .int 2), (5, .int 0)], [.int (-1)], (ah_w S z f1 f2 f3 g1 g2 0 a b s1 s2 0 0 (vp_updL (fun _ => 0) 0 (((-1) : Int32).toInt64))), true, 86, ns)) rfl ?_
  refine go_n 2 (fr' := (1144, [(0, .ref 1000000), (1, .ref 0), (2, .ref 49), (3, .ref 85), (4, .int 2), (5, .int 0), (6, .int (-1))], [.ref 49], (ah_w S z f1 f2 f3 g1 g2 0 a b s1 s2 0 0 (vp_updL (fun _ => 0) 0 (((-1) : Int32).toInt64))), true, 86, ns)) rfl ?_
  refine go_call (q := 52) (M1 := an_X10_thrown) rfl rfl (by decide) rfl ⟨_, rfl⟩ trivial (pl_count_9_6_thrown hw) ?_
  refine go_eq (fr' := (1147, [(0, .ref 1000000), (1, .ref 0), (2, .ref 49), (3, .ref 85), (4, .int 2), (5, .int 0), (6, .int (-1))], [.int 0], (ah_w S z f1 f2 f3 g1 g2 0 a b s1 s2 0 0 (vp_updL (fun _ => 0) 0 (((-1) : Int32).toInt64))), true, 86, ns)) rfl ?_
  refine go_n 10 (fr' := (1166, [(0, .ref 1000000), (1, .ref 0), (2, .ref 49), (3, .ref 85), (4, .int 2), (5, .int 0), (6, .int (-1))], [.int (lg_cmp (((-1) : Int32).toInt64) (((-1) : Int32).toInt64))], (ah_w S z f1 f2 f3 g1 g2 0 a b s1 s2 0 0 (vp_updL (fun _ => 0) 0 (((-1) : Int32).toInt64))), true, 86, ns)) rfl ?_
  refine go_if_eq (t := 1171) rfl (fun q1 => ?_) (fun q1 => absurd (lg_self _) q1)
  refine go_n 1 (fr' := (1174, [(0, .ref 1000000), (1, .ref 0), (2, .ref 49), (3, .ref 85), (4, .int 2), (5, .int 0), (6, .int (-1))], [], (ah_w S z f1 f2 f3 g1 g2 0 a b s1 s2 0 0 (vp_updL (fun _ => 0) 0 (((-1) : Int32).toInt64))), true, 86, ns)) rfl ?_
  exact pl_end2
set_option maxRecDepth 20000 in
theorem pl_count_x_2_count {xs : Nat → Int32} {S : Nat} {z : Int32} {f1 f2 f3 g1 g2 s1 s2 : Nat → Int32} {a b : Nat} (hw : (xs 3).toInt < 0 ∨ 9 < (xs 3).toInt) : ai_Ev an_ms an_lk (8, xs) 35 11 40 [.ref 0, .int (xs 3)] (ah_w S z f1 f2 f3 g1 g2 0 a b s1 s2 0 0 (fun _ => 0)) true (.inr ("java/util/NoSuchElementException", (ah_w S z f1 f2 f3 g1 g2 0 a b s1 s2 0 0 (fun _ => 0)), 1, 6)) := by
  refine ev_of (M := an_X9_count) rfl (Nat.le_of_ble_eq_true rfl) ?_
  refine go_n 1 (fr' := (1, [(0, .ref 0), (1, .int (xs 3))], [.int (xs 3)], (ah_w S z f1 f2 f3 g1 g2 0 a b s1 s2 0 0 (fun _ => 0)), true, 0, 0)) rfl ?_
  refine go_td (t := 144) rfl hw rfl ?_
  exact go_th (i := .new 183) (tg := []) rfl rfl
set_option maxRecDepth 20000 in
theorem pl_count_x_1_count {xs : Nat → Int32} {S : Nat} {z : Int32} {f1 f2 f3 g1 g2 s1 s2 : Nat → Int32} {a b : Nat} (hw : (xs 3).toInt < 0 ∨ 9 < (xs 3).toInt) : ai_Ev an_ms an_lk (8, xs) 35 12 95 [.ref 0, .int (xs 3), .ref 85] (ah_w S z f1 f2 f3 g1 g2 0 a b s1 s2 0 0 (fun _ => 0)) true (.inl (some (.int 1), (ah_w S z f1 f2 f3 g1 g2 0 a b s1 s2 0 0 (fun _ => 0)), false, 1, 6)) := by
  refine ev_of (M := an_L_count) rfl (Nat.le_of_ble_eq_true rfl) ?_
  refine go_n 4 (fr' := (4, [(0, .ref 0), (1, .int (xs 3)), (2, .ref 85)], [.int (xs 3), .ref 0, .int 0, .ref 85], (ah_w S z f1 f2 f3 g1 g2 0 a b s1 s2 0 0 (fun _ => 0)), true, 0, 0)) rfl ?_
  exact go_cat (fr := (4, [(0, .ref 0), (1, .int (xs 3)), (2, .ref 85)], [.int (xs 3), .ref 0, .int 0, .ref 85], (ah_w S z f1 f2 f3 g1 g2 0 a b s1 s2 0 0 (fun _ => 0)), true, 0, 0)) (i := .invokevirtual 58) (tg := []) (q := 40) (As := [.ref 0, .int (xs 3)]) (rest := [.int 0, .ref 85]) (M1 := an_X9_count) rfl rfl (by decide) rfl ⟨_, rfl⟩ trivial (pl_count_x_2_count hw) (st := 0) (en := 9) (hp := 12) (ix := 13) rfl (Nat.le_of_ble_eq_true rfl) (Nat.le_of_ble_eq_true rfl) rfl
set_option maxRecDepth 20000 in
theorem pl_count_x_4_fail {xs : Nat → Int32} {S : Nat} {z : Int32} {f1 f2 f3 g1 g2 s1 s2 : Nat → Int32} {a b : Nat} (hw : (xs 3).toInt < 0 ∨ 9 < (xs 3).toInt) : ai_Ev an_ms an_lk (8, xs) 35 11 53 [.ref 49] (ah_w S z f1 f2 f3 g1 g2 0 a b s1 s2 0 0 (fun _ => 0)) false (.inl (some (.int 0), (ah_w S z f1 f2 f3 g1 g2 0 a b s1 s2 0 1 (fun _ => 0)), false, 0, 0)) := by
  refine ev_of (M := an_X10_fail) rfl (Nat.le_of_ble_eq_true rfl) ?_
  refine go_n 2 (fr' := (2, [(0, .ref 49)], [.int 1, .ref 49], (ah_w S z f1 f2 f3 g1 g2 0 a b s1 s2 0 0 (fun _ => 0)), false, 0, 0)) rfl ?_
  refine go_put rfl rfl rfl (Nat.le_of_ble_eq_true rfl) rfl ?_
  refine go_n 1 (fr' := (6, [(0, .ref 49)], [.int 0], (ah_w S z f1 f2 f3 g1 g2 0 a b s1 s2 0 1 (fun _ => 0)), false, 0, 0)) rfl ?_
  refine go_rt (i := .ireturn) (tg := []) rfl ?_
  rfl
set_option maxRecDepth 20000 in
theorem pl_count_x_3_count {xs : Nat → Int32} {S : Nat} {z : Int32} {f1 f2 f3 g1 g2 s1 s2 : Nat → Int32} {a b : Nat} (hw : (xs 3).toInt < 0 ∨ 9 < (xs 3).toInt) : ai_Ev an_ms an_lk (8, xs) 35 12 79 [.ref 49, .int (xs 3)] (ah_w S z f1 f2 f3 g1 g2 0 a b s1 s2 0 0 (fun _ => 0)) false (.inl (some (.int 0), (ah_w S z f1 f2 f3 g1 g2 0 a b s1 s2 0 1 (fun _ => 0)), false, 0, 0)) := by
  refine ev_of (M := an_X10_count) rfl (Nat.le_of_ble_eq_true rfl) ?_
  refine go_n 2 (fr' := (2, [(0, .ref 49), (1, .int (xs 3))], [.int 0, .ref 49], (ah_w S z f1 f2 f3 g1 g2 0 a b s1 s2 0 0 (fun _ => 0)), false, 0, 0)) rfl ?_
  refine go_put rfl rfl rfl (Nat.le_of_ble_eq_true rfl) rfl ?_
  refine go_n 1 (fr' := (6, [(0, .ref 49), (1, .int (xs 3))], [.int (xs 3)], (ah_w S z f1 f2 f3 g1 g2 0 a b s1 s2 0 0 (fun _ => 0)), false, 0, 0)) rfl ?_
  refine go_td (t := 114) rfl hw rfl ?_
  refine go_n 1 (fr' := (115, [(0, .ref 49), (1, .int (xs 3))], [.ref 49], (ah_w S z f1 f2 f3 g1 g2 0 a b s1 s2 0 0 (fun _ => 0)), false, 0, 0)) rfl ?_
  refine go_callS (q := 53) (M1 := an_X10_fail) rfl rfl (by decide) rfl ⟨_, rfl⟩ trivial (pl_count_x_4_fail hw) ?_
  refine go_eq (fr' := (118, [(0, .ref 49), (1, .int (xs 3))], [.int 0], (ah_w S z f1 f2 f3 g1 g2 0 a b s1 s2 0 1 (fun _ => 0)), false, 0, 0)) rfl ?_
  refine go_rt (i := .ireturn) (tg := []) rfl ?_
  rfl
set_option maxRecDepth 20000 in
theorem pl_count_x_5_thrown {xs : Nat → Int32} {S : Nat} {z : Int32} {f1 f2 f3 g1 g2 s1 s2 : Nat → Int32} {a b : Nat} (hw : (xs 3).toInt < 0 ∨ 9 < (xs 3).toInt) : ai_Ev an_ms an_lk (8, xs) 35 12 52 [.ref 49] (ah_w S z f1 f2 f3 g1 g2 0 a b s1 s2 0 1 (fun _ => 0)) false (.inl (some (.int 1), (ah_w S z f1 f2 f3 g1 g2 0 a b s1 s2 0 1 (fun _ => 0)), false, 0, 0)) := by
  refine ev_of (M := an_X10_thrown) rfl (Nat.le_of_ble_eq_true rfl) ?_
  refine go_n 1 (fr' := (1, [(0, .ref 49)], [.ref 49], (ah_w S z f1 f2 f3 g1 g2 0 a b s1 s2 0 1 (fun _ => 0)), false, 0, 0)) rfl ?_
  refine go_get rfl rfl rfl rfl ?_
  refine go_rt (i := .ireturn) (tg := []) rfl ?_
  rfl
set_option maxRecDepth 20000 in
theorem pl_count_x {xs : Nat → Int32} {S : Nat} {z : Int32} {f1 f2 f3 g1 g2 s1 s2 : Nat → Int32} {a b : Nat} {ns : Nat} (hw : (xs 3).toInt < 0 ∨ 9 < (xs 3).toInt) : pl_ok xs (1118, [(0, .ref 1000000), (1, .ref 0), (2, .ref 49), (3, .ref 85), (4, .int 2)], [], (ah_w S z f1 f2 f3 g1 g2 0 a b s1 s2 0 0 (fun _ => 0)), true, 86, ns) ns := by
  refine pl_mk (h' := (ah_w S z f1 f2 f3 g1 g2 0 a b s1 s2 0 1 (fun _ => 0))) (ex' := false) (nc := 87) (ns' := (ns + 6)) ?_ (by omega) (by omega)
  refine go_n 7 (fr' := (1126, [(0, .ref 1000000), (1, .ref 0), (2, .ref 49), (3, .ref 85), (4, .int 2)], [.ref 85, .int (xs 3), .ref 0], (ah_w S z f1 f2 f3 g1 g2 0 a b s1 s2 0 0 (fun _ => 0)), true, 86, ns)) rfl ?_
  refine go_call (q := 95) (M1 := an_L_count) rfl rfl (by decide) rfl trivial trivial (pl_count_x_1_count hw) ?_
  refine go_eq (fr' := (1129, [(0, .ref 1000000), (1, .ref 0), (2, .ref 49), (3, .ref 85), (4, .int 2)], [.int 1], (ah_w S z f1 f2 f3 g1 g2 0 a b s1 s2 0 0 (fun _ => 0)), false, 87, (ns + 6))) rfl ?_
  refine go_n 7 (fr' := (1138, [(0, .ref 1000000), (1, .ref 0), (2, .ref 49), (3, .ref 85), (4, .int 2), (5, .int 1)], [.int (xs 3), .ref 49], (ah_w S z f1 f2 f3 g1 g2 0 a b s1 s2 0 0 (fun _ => 0)), false, 87, (ns + 6))) rfl ?_
  refine go_callS (q := 79) (M1 := an_X10_count) rfl rfl (by decide) rfl ⟨_, rfl⟩ trivial (pl_count_x_3_count hw) ?_
  refine go_eq (fr' := (1141, [(0, .ref 1000000), (1, .ref 0), (2, .ref 49), (3, .ref 85), (4, .int 2), (5, .int 1)], [.int 0], (ah_w S z f1 f2 f3 g1 g2 0 a b s1 s2 0 1 (fun _ => 0)), false, 87, (ns + 6))) rfl ?_
  refine go_n 2 (fr' := (1144, [(0, .ref 1000000), (1, .ref 0), (2, .ref 49), (3, .ref 85), (4, .int 2), (5, .int 1), (6, .int 0)], [.ref 49], (ah_w S z f1 f2 f3 g1 g2 0 a b s1 s2 0 1 (fun _ => 0)), false, 87, (ns + 6))) rfl ?_
  refine go_callS (q := 52) (M1 := an_X10_thrown) rfl rfl (by decide) rfl ⟨_, rfl⟩ trivial (pl_count_x_5_thrown hw) ?_
  refine go_eq (fr' := (1147, [(0, .ref 1000000), (1, .ref 0), (2, .ref 49), (3, .ref 85), (4, .int 2), (5, .int 1), (6, .int 0)], [.int 1], (ah_w S z f1 f2 f3 g1 g2 0 a b s1 s2 0 1 (fun _ => 0)), false, 87, (ns + 6))) rfl ?_
  refine go_n 5 (fr' := (1174, [(0, .ref 1000000), (1, .ref 0), (2, .ref 49), (3, .ref 85), (4, .int 2), (5, .int 1), (6, .int 0)], [], (ah_w S z f1 f2 f3 g1 g2 0 a b s1 s2 0 1 (fun _ => 0)), false, 87, (ns + 6))) rfl ?_
  exact pl_end2
