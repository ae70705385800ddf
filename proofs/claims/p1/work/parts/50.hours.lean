set_option maxRecDepth 20000 in
theorem pl_hours_1_2_hours {xs : Nat → Int32} {S : Nat} {z : Int32} {f1 f2 f3 g1 g2 s1 s2 : Nat → Int32} {a b : Nat} (h1 : xs 3 < 0) : ai_Ev an_ms an_lk (8, xs) 35 11 35 [.ref 0, .int (xs 3)] (ah_w S z f1 f2 f3 g1 g2 0 a b s1 s2 0 0 (fun _ => 0)) true (.inr ("java/lang/IllegalArgumentException", (ah_w S z f1 f2 f3 g1 g2 0 a b s1 s2 0 0 (fun _ => 0)), 1, 6)) := by
  refine ev_of (M := an_X9_hours) rfl (Nat.le_of_ble_eq_true rfl) ?_
  refine go_n 1 (fr' := (1, [(0, .ref 0), (1, .int (xs 3))], [.int (xs 3)], (ah_w S z f1 f2 f3 g1 g2 0 a b s1 s2 0 0 (fun _ => 0)), true, 0, 0)) rfl ?_
  refine go_if_lt (t := 22) rfl (fun q1 => ?_) (fun q1 => absurd h1 q1)
  exact go_th (i := .new 105) (tg := []) rfl rfl
set_option maxRecDepth 20000 in
theorem pl_hours_1_1_hours {xs : Nat → Int32} {S : Nat} {z : Int32} {f1 f2 f3 g1 g2 s1 s2 : Nat → Int32} {a b : Nat} (h1 : xs 3 < 0) : ai_Ev an_ms an_lk (8, xs) 35 12 90 [.ref 0, .int (xs 3), .ref 85] (ah_w S z f1 f2 f3 g1 g2 0 a b s1 s2 0 0 (fun _ => 0)) true (.inl (some (.int 1), (ah_w S z f1 f2 f3 g1 g2 0 a b s1 s2 0 0 (fun _ => 0)), false, 1, 6)) := by
  refine ev_of (M := an_L_hours) rfl (Nat.le_of_ble_eq_true rfl) ?_
  refine go_n 4 (fr' := (4, [(0, .ref 0), (1, .int (xs 3)), (2, .ref 85)], [.int (xs 3), .ref 0, .int 0, .ref 85], (ah_w S z f1 f2 f3 g1 g2 0 a b s1 s2 0 0 (fun _ => 0)), true, 0, 0)) rfl ?_
  exact go_cat (fr := (4, [(0, .ref 0), (1, .int (xs 3)), (2, .ref 85)], [.int (xs 3), .ref 0, .int 0, .ref 85], (ah_w S z f1 f2 f3 g1 g2 0 a b s1 s2 0 0 (fun _ => 0)), true, 0, 0)) (i := .invokevirtual 43) (tg := []) (q := 35) (As := [.ref 0, .int (xs 3)]) (rest := [.int 0, .ref 85]) (M1 := an_X9_hours) rfl rfl (by decide) rfl ⟨_, rfl⟩ trivial (pl_hours_1_2_hours h1) (st := 0) (en := 9) (hp := 12) (ix := 23) rfl (Nat.le_of_ble_eq_true rfl) (Nat.le_of_ble_eq_true rfl) rfl
set_option maxRecDepth 20000 in
theorem pl_hours_1_4_fail {xs : Nat → Int32} {S : Nat} {z : Int32} {f1 f2 f3 g1 g2 s1 s2 : Nat → Int32} {a b : Nat} (h1 : xs 3 < 0) : ai_Ev an_ms an_lk (8, xs) 35 11 53 [.ref 49] (ah_w S z f1 f2 f3 g1 g2 0 a b s1 s2 0 0 (fun _ => 0)) false (.inl (some (.int 0), (ah_w S z f1 f2 f3 g1 g2 0 a b s1 s2 0 1 (fun _ => 0)), false, 0, 0)) := by
  refine ev_of (M := an_X10_fail) rfl (Nat.le_of_ble_eq_true rfl) ?_
  refine go_n 2 (fr' := (2, [(0, .ref 49)], [.int 1, .ref 49], (ah_w S z f1 f2 f3 g1 g2 0 a b s1 s2 0 0 (fun _ => 0)), false, 0, 0)) rfl ?_
  refine go_put rfl rfl rfl (Nat.le_of_ble_eq_true rfl) rfl ?_
  refine go_n 1 (fr' := (6, [(0, .ref 49)], [.int 0], (ah_w S z f1 f2 f3 g1 g2 0 a b s1 s2 0 1 (fun _ => 0)), false, 0, 0)) rfl ?_
  refine go_rt (i := .ireturn) (tg := []) rfl ?_
  rfl
set_option maxRecDepth 20000 in
theorem pl_hours_1_3_hours {xs : Nat → Int32} {S : Nat} {z : Int32} {f1 f2 f3 g1 g2 s1 s2 : Nat → Int32} {a b : Nat} (h1 : xs 3 < 0) : ai_Ev an_ms an_lk (8, xs) 35 12 74 [.ref 49, .int (xs 3)] (ah_w S z f1 f2 f3 g1 g2 0 a b s1 s2 0 0 (fun _ => 0)) false (.inl (some (.int 0), (ah_w S z f1 f2 f3 g1 g2 0 a b s1 s2 0 1 (fun _ => 0)), false, 0, 0)) := by
  refine ev_of (M := an_X10_hours) rfl (Nat.le_of_ble_eq_true rfl) ?_
  refine go_n 2 (fr' := (2, [(0, .ref 49), (1, .int (xs 3))], [.int 0, .ref 49], (ah_w S z f1 f2 f3 g1 g2 0 a b s1 s2 0 0 (fun _ => 0)), false, 0, 0)) rfl ?_
  refine go_put rfl rfl rfl (Nat.le_of_ble_eq_true rfl) rfl ?_
  refine go_n 1 (fr' := (6, [(0, .ref 49), (1, .int (xs 3))], [.int (xs 3)], (ah_w S z f1 f2 f3 g1 g2 0 a b s1 s2 0 0 (fun _ => 0)), false, 0, 0)) rfl ?_
  refine go_if_lt (t := 27) rfl (fun q1 => ?_) (fun q1 => absurd h1 q1)
  refine go_n 1 (fr' := (28, [(0, .ref 49), (1, .int (xs 3))], [.ref 49], (ah_w S z f1 f2 f3 g1 g2 0 a b s1 s2 0 0 (fun _ => 0)), false, 0, 0)) rfl ?_
  refine go_callS (q := 53) (M1 := an_X10_fail) rfl rfl (by decide) rfl ⟨_, rfl⟩ trivial (pl_hours_1_4_fail h1) ?_
  refine go_eq (fr' := (31, [(0, .ref 49), (1, .int (xs 3))], [.int 0], (ah_w S z f1 f2 f3 g1 g2 0 a b s1 s2 0 1 (fun _ => 0)), false, 0, 0)) rfl ?_
  refine go_rt (i := .ireturn) (tg := []) rfl ?_
  rfl
set_option maxRecDepth 20000 in
theorem pl_hours_1_5_thrown {xs : Nat → Int32} {S : Nat} {z : Int32} {f1 f2 f3 g1 g2 s1 s2 : Nat → Int32} {a b : Nat} (h1 : xs 3 < 0) : ai_Ev an_ms an_lk (8, xs) 35 12 52 [.ref 49] (ah_w S z f1 f2 f3 g1 g2 0 a b s1 s2 0 1 (fun _ => 0)) false (.inl (some (.int 1), (ah_w S z f1 f2 f3 g1 g2 0 a b s1 s2 0 1 (fun _ => 0)), false, 0, 0)) := by
  refine ev_of (M := an_X10_thrown) rfl (Nat.le_of_ble_eq_true rfl) ?_
  refine go_n 1 (fr' := (1, [(0, .ref 49)], [.ref 49], (ah_w S z f1 f2 f3 g1 g2 0 a b s1 s2 0 1 (fun _ => 0)), false, 0, 0)) rfl ?_
  refine go_get rfl rfl rfl rfl ?_
  refine go_rt (i := .ireturn) (tg := []) rfl ?_
  rfl
set_option maxRecDepth 20000 in
theorem pl_hours_1 {xs : Nat → Int32} {S : Nat} {z : Int32} {f1 f2 f3 g1 g2 s1 s2 : Nat → Int32} {a b : Nat} {ns : Nat} (h1 : xs 3 < 0) : pl_ok xs (814, [(0, .ref 1000000), (1, .ref 0), (2, .ref 49), (3, .ref 85), (4, .int 2)], [], (ah_w S z f1 f2 f3 g1 g2 0 a b s1 s2 0 0 (fun _ => 0)), true, 86, ns) ns := by
  refine pl_mk (h' := (ah_w S z f1 f2 f3 g1 g2 0 a b s1 s2 0 1 (fun _ => 0))) (ex' := false) (nc := 87) (ns' := (ns + 6)) ?_ (by omega) (by omega)
  refine go_n 7 (fr' := (822, [(0, .ref 1000000), (1, .ref 0), (2, .ref 49), (3, .ref 85), (4, .int 2)], [.ref 85, .int (xs 3), .ref 0], (ah_w S z f1 f2 f3 g1 g2 0 a b s1 s2 0 0 (fun _ => 0)), true, 86, ns)) rfl ?_
  refine go_call (q := 90) (M1 := an_L_hours) rfl rfl (by decide) rfl trivial trivial (pl_hours_1_1_hours h1) ?_
  refine go_eq (fr' := (825, [(0, .ref 1000000), (1, .ref 0), (2, .ref 49), (3, .ref 85), (4, .int 2)], [.int 1], (ah_w S z f1 f2 f3 g1 g2 0 a b s1 s2 0 0 (fun _ => 0)), false, 87, (ns + 6))) rfl ?_
  refine go_n 7 (fr' := (834, [(0, .ref 1000000), (1, .ref 0), (2, .ref 49), (3, .ref 85), (4, .int 2), (5, .int 1)], [.int (xs 3), .ref 49], (ah_w S z f1 f2 f3 g1 g2 0 a b s1 s2 0 0 (fun _ => 0)), false, 87, (ns + 6))) rfl ?_
  refine go_callS (q := 74) (M1 := an_X10_hours) rfl rfl (by decide) rfl ⟨_, rfl⟩ trivial (pl_hours_1_3_hours h1) ?_
  refine go_eq (fr' := (837, [(0, .ref 1000000), (1, .ref 0), (2, .ref 49), (3, .ref 85), (4, .int 2), (5, .int 1)], [.int 0], (ah_w S z f1 f2 f3 g1 g2 0 a b s1 s2 0 1 (fun _ => 0)), false, 87, (ns + 6))) rfl ?_
  refine go_n 2 (fr' := (840, [(0, .ref 1000000), (1, .ref 0), (2, .ref 49), (3, .ref 85), (4, .int 2), (5, .int 1), (6, .int 0)], [.ref 49], (ah_w S z f1 f2 f3 g1 g2 0 a b s1 s2 0 1 (fun _ => 0)), false, 87, (ns + 6))) rfl ?_
  refine go_callS (q := 52) (M1 := an_X10_thrown) rfl rfl (by decide) rfl ⟨_, rfl⟩ trivial (pl_hours_1_5_thrown h1) ?_
  refine go_eq (fr' := (843, [(0, .ref 1000000), (1, .ref 0), (2, .ref 49), (3, .ref 85), (4, .int 2), (5, .int 1), (6, .int 0)], [.int 1], (ah_w S z f1 f2 f3 g1 g2 0 a b s1 s2 0 1 (fun _ => 0)), false, 87, (ns + 6))) rfl ?_
  refine go_n 5 (fr' := (1174, [(0, .ref 1000000), (1, .ref 0), (2, .ref 49), (3, .ref 85), (4, .int 2), (5, .int 1), (6, .int 0)], [], (ah_w S z f1 f2 f3 g1 g2 0 a b s1 s2 0 1 (fun _ => 0)), false, 87, (ns + 6))) rfl ?_
  exact pl_end2
set_option maxRecDepth 20000 in
theorem pl_hours_2_2_hours {xs : Nat → Int32} {S : Nat} {z : Int32} {f1 f2 f3 g1 g2 s1 s2 : Nat → Int32} {a b : Nat} (h1 : ¬ xs 3 < 0) (h2 : 100 < xs 3) : ai_Ev an_ms an_lk (8, xs) 35 11 35 [.ref 0, .int (xs 3)] (ah_w S z f1 f2 f3 g1 g2 0 a b s1 s2 0 0 (fun _ => 0)) true (.inr ("java/lang/IllegalArgumentException", (ah_w S z f1 f2 f3 g1 g2 0 a b s1 s2 0 0 (fun _ => 0)), 1, 6)) := by
  refine ev_of (M := an_X9_hours) rfl (Nat.le_of_ble_eq_true rfl) ?_
  refine go_n 1 (fr' := (1, [(0, .ref 0), (1, .int (xs 3))], [.int (xs 3)], (ah_w S z f1 f2 f3 g1 g2 0 a b s1 s2 0 0 (fun _ => 0)), true, 0, 0)) rfl ?_
  refine go_if_lt (t := 22) rfl (fun q1 => absurd q1 h1) (fun q1 => ?_)
  refine go_n 2 (fr' := (7, [(0, .ref 0), (1, .int (xs 3))], [.int 100, .int (xs 3)], (ah_w S z f1 f2 f3 g1 g2 0 a b s1 s2 0 0 (fun _ => 0)), true, 0, 0)) rfl ?_
  refine go_ic_gt (t := 22) rfl (fun q2 => ?_) (fun q2 => absurd h2 q2)
  exact go_th (i := .new 105) (tg := []) rfl rfl
set_option maxRecDepth 20000 in
theorem pl_hours_2_1_hours {xs : Nat → Int32} {S : Nat} {z : Int32} {f1 f2 f3 g1 g2 s1 s2 : Nat → Int32} {a b : Nat} (h1 : ¬ xs 3 < 0) (h2 : 100 < xs 3) : ai_Ev an_ms an_lk (8, xs) 35 12 90 [.ref 0, .int (xs 3), .ref 85] (ah_w S z f1 f2 f3 g1 g2 0 a b s1 s2 0 0 (fun _ => 0)) true (.inl (some (.int 1), (ah_w S z f1 f2 f3 g1 g2 0 a b s1 s2 0 0 (fun _ => 0)), false, 1, 6)) := by
  refine ev_of (M := an_L_hours) rfl (Nat.le_of_ble_eq_true rfl) ?_
  refine go_n 4 (fr' := (4, [(0, .ref 0), (1, .int (xs 3)), (2, .ref 85)], [.int (xs 3), .ref 0, .int 0, .ref 85], (ah_w S z f1 f2 f3 g1 g2 0 a b s1 s2 0 0 (fun _ => 0)), true, 0, 0)) rfl ?_
  exact go_cat (fr := (4, [(0, .ref 0), (1, .int (xs 3)), (2, .ref 85)], [.int (xs 3), .ref 0, .int 0, .ref 85], (ah_w S z f1 f2 f3 g1 g2 0 a b s1 s2 0 0 (fun _ => 0)), true, 0, 0)) (i := .invokevirtual 43) (tg := []) (q := 35) (As := [.ref 0, .int (xs 3)]) (rest := [.int 0, .ref 85]) (M1 := an_X9_hours) rfl rfl (by decide) rfl ⟨_, rfl⟩ trivial (pl_hours_2_2_hours h1 h2) (st := 0) (en := 9) (hp := 12) (ix := 23) rfl (Nat.le_of_ble_eq_true rfl) (Nat.le_of_ble_eq_true rfl) rfl
set_option maxRecDepth 20000 in
theorem pl_hours_2_4_fail {xs : Nat → Int32} {S : Nat} {z : Int32} {f1 f2 f3 g1 g2 s1 s2 : Nat → Int32} {a b : Nat} (h1 : ¬ xs 3 < 0) (h2 : 100 < xs 3) : ai_Ev an_ms an_lk (8, xs) 35 11 53 [.ref 49] (ah_w S z f1 f2 f3 g1 g2 0 a b s1 s2 0 0 (fun _ => 0)) false (.inl (some (.int 0), (ah_w S z f1 f2 f3 g1 g2 0 a b s1 s2 0 1 (fun _ => 0)), false, 0, 0)) := by
  refine ev_of (M := an_X10_fail) rfl (Nat.le_of_ble_eq_true rfl) ?_
  refine go_n 2 (fr' := (2, [(0, .ref 49)], [.int 1, .ref 49], (ah_w S z f1 f2 f3 g1 g2 0 a b s1 s2 0 0 (fun _ => 0)), false, 0, 0)) rfl ?_
  refine go_put rfl rfl rfl (Nat.le_of_ble_eq_true rfl) rfl ?_
  refine go_n 1 (fr' := (6, [(0, .ref 49)], [.int 0], (ah_w S z f1 f2 f3 g1 g2 0 a b s1 s2 0 1 (fun _ => 0)), false, 0, 0)) rfl ?_
  refine go_rt (i := .ireturn) (tg := []) rfl ?_
  rfl
set_option maxRecDepth 20000 in
theorem pl_hours_2_3_hours {xs : Nat → Int32} {S : Nat} {z : Int32} {f1 f2 f3 g1 g2 s1 s2 : Nat → Int32} {a b : Nat} (h1 : ¬ xs 3 < 0) (h2 : 100 < xs 3) : ai_Ev an_ms an_lk (8, xs) 35 12 74 [.ref 49, .int (xs 3)] (ah_w S z f1 f2 f3 g1 g2 0 a b s1 s2 0 0 (fun _ => 0)) false (.inl (some (.int 0), (ah_w S z f1 f2 f3 g1 g2 0 a b s1 s2 0 1 (fun _ => 0)), false, 0, 0)) := by
  refine ev_of (M := an_X10_hours) rfl (Nat.le_of_ble_eq_true rfl) ?_
  refine go_n 2 (fr' := (2, [(0, .ref 49), (1, .int (xs 3))], [.int 0, .ref 49], (ah_w S z f1 f2 f3 g1 g2 0 a b s1 s2 0 0 (fun _ => 0)), false, 0, 0)) rfl ?_
  refine go_put rfl rfl rfl (Nat.le_of_ble_eq_true rfl) rfl ?_
  refine go_n 1 (fr' := (6, [(0, .ref 49), (1, .int (xs 3))], [.int (xs 3)], (ah_w S z f1 f2 f3 g1 g2 0 a b s1 s2 0 0 (fun _ => 0)), false, 0, 0)) rfl ?_
  refine go_if_lt (t := 27) rfl (fun q1 => absurd q1 h1) (fun q1 => ?_)
  refine go_n 2 (fr' := (12, [(0, .ref 49), (1, .int (xs 3))], [.int 100, .int (xs 3)], (ah_w S z f1 f2 f3 g1 g2 0 a b s1 s2 0 0 (fun _ => 0)), false, 0, 0)) rfl ?_
  refine go_ic_gt (t := 27) rfl (fun q2 => ?_) (fun q2 => absurd h2 q2)
  refine go_n 1 (fr' := (28, [(0, .ref 49), (1, .int (xs 3))], [.ref 49], (ah_w S z f1 f2 f3 g1 g2 0 a b s1 s2 0 0 (fun _ => 0)), false, 0, 0)) rfl ?_
  refine go_callS (q := 53) (M1 := an_X10_fail) rfl rfl (by decide) rfl ⟨_, rfl⟩ trivial (pl_hours_2_4_fail h1 h2) ?_
  refine go_eq (fr' := (31, [(0, .ref 49), (1, .int (xs 3))], [.int 0], (ah_w S z f1 f2 f3 g1 g2 0 a b s1 s2 0 1 (fun _ => 0)), false, 0, 0)) rfl ?_
  refine go_rt (i := .ireturn) (tg := []) rfl ?_
  rfl
set_option maxRecDepth 20000 in
theorem pl_hours_2_5_thrown {xs : Nat → Int32} {S : Nat} {z : Int32} {f1 f2 f3 g1 g2 s1 s2 : Nat → Int32} {a b : Nat} (h1 : ¬ xs 3 < 0) (h2 : 100 < xs 3) : ai_Ev an_ms an_lk (8, xs) 35 12 52 [.ref 49] (ah_w S z f1 f2 f3 g1 g2 0 a b s1 s2 0 1 (fun _ => 0)) false (.inl (some (.int 1), (ah_w S z f1 f2 f3 g1 g2 0 a b s1 s2 0 1 (fun _ => 0)), false, 0, 0)) := by
  refine ev_of (M := an_X10_thrown) rfl (Nat.le_of_ble_eq_true rfl) ?_
  refine go_n 1 (fr' := (1, [(0, .ref 49)], [.ref 49], (ah_w S z f1 f2 f3 g1 g2 0 a b s1 s2 0 1 (fun _ => 0)), false, 0, 0)) rfl ?_
  refine go_get rfl rfl rfl rfl ?_
  refine go_rt (i := .ireturn) (tg := []) rfl ?_
  rfl
set_option maxRecDepth 20000 in
theorem pl_hours_2 {xs : Nat → Int32} {S : Nat} {z : Int32} {f1 f2 f3 g1 g2 s1 s2 : Nat → Int32} {a b : Nat} {ns : Nat} (h1 : ¬ xs 3 < 0) (h2 : 100 < xs 3) : pl_ok xs (814, [(0, .ref 1000000), (1, .ref 0), (2, .ref 49), (3, .ref 85), (4, .int 2)], [], (ah_w S z f1 f2 f3 g1 g2 0 a b s1 s2 0 0 (fun _ => 0)), true, 86, ns) ns := by
  refine pl_mk (h' := (ah_w S z f1 f2 f3 g1 g2 0 a b s1 s2 0 1 (fun _ => 0))) (ex' := false) (nc := 87) (ns' := (ns + 6)) ?_ (by omega) (by omega)
  refine go_n 7 (fr' := (822, [(0, .ref 1000000), (1, .ref 0), (2, .ref 49), (3, .ref 85), (4, .int 2)], [.ref 85, .int (xs 3), .ref 0], (ah_w S z f1 f2 f3 g1 g2 0 a b s1 s2 0 0 (fun _ => 0)), true, 86, ns)) rfl ?_
  refine go_call (q := 90) (M1 := an_L_hours) rfl rfl (by decide) rfl trivial trivial (pl_hours_2_1_hours h1 h2) ?_
  refine go_eq (fr' := (825, [(0, .ref 1000000), (1, .ref 0), (2, .ref 49), (3, .ref 85), (4, .int 2)], [.int 1], (ah_w S z f1 f2 f3 g1 g2 0 a b s1 s2 0 0 (fun _ => 0)), false, 87, (ns + 6))) rfl ?_
  refine go_n 7 (fr' := (834, [(0, .ref 1000000), (1, .ref 0), (2, .ref 49), (3, .ref 85), (4, .int 2), (5, .int 1)], [.int (xs 3), .ref 49], (ah_w S z f1 f2 f3 g1 g2 0 a b s1 s2 0 0 (fun _ => 0)), false, 87, (ns + 6))) rfl ?_
  refine go_callS (q := 74) (M1 := an_X10_hours) rfl rfl (by decide) rfl ⟨_, rfl⟩ trivial (pl_hours_2_3_hours h1 h2) ?_
  refine go_eq (fr' := (837, [(0, .ref 1000000), (1, .ref 0), (2, .ref 49), (3, .ref 85), (4, .int 2), (5, .int 1)], [.int 0], (ah_w S z f1 f2 f3 g1 g2 0 a b s1 s2 0 1 (fun _ => 0)), false, 87, (ns + 6))) rfl ?_
  refine go_n 2 (fr' := (840, [(0, .ref 1000000), (1, .ref 0), (2, .ref 49), (3, .ref 85), (4, .int 2), (5, .int 1), (6, .int 0)], [.ref 49], (ah_w S z f1 f2 f3 g1 g2 0 a b s1 s2 0 1 (fun _ => 0)), false, 87, (ns + 6))) rfl ?_
  refine go_callS (q := 52) (M1 := an_X10_thrown) rfl rfl (by decide) rfl ⟨_, rfl⟩ trivial (pl_hours_2_5_thrown h1 h2) ?_
  refine go_eq (fr' := (843, [(0, .ref 1000000), (1, .ref 0), (2, .ref 49), (3, .ref 85), (4, .int 2), (5, .int 1), (6, .int 0)], [.int 1], (ah_w S z f1 f2 f3 g1 g2 0 a b s1 s2 0 1 (fun _ => 0)), false, 87, (ns + 6))) rfl ?_
  refine go_n 5 (fr' := (1174, [(0, .ref 1000000), (1, .ref 0), (2, .ref 49), (3, .ref 85), (4, .int 2), (5, .int 1), (6, .int 0)], [], (ah_w S z f1 f2 f3 g1 g2 0 a b s1 s2 0 1 (fun _ => 0)), false, 87, (ns + 6))) rfl ?_
  exact pl_end2
set_option maxRecDepth 20000 in
theorem pl_hours_0_2_hours {xs : Nat → Int32} {S : Nat} {z : Int32} {f1 f2 f3 g1 g2 s1 s2 : Nat → Int32} {a b : Nat} (hw : xs 3 = 0) : ai_Ev an_ms an_lk (8, xs) 35 11 35 [.ref 0, .int 0] (ah_w S z f1 f2 f3 g1 g2 0 a b s1 s2 0 0 (fun _ => 0)) true (.inl (some (.int 0), (ah_w S z f1 f2 f3 g1 g2 0 a b s1 s2 0 0 (fun _ => 0)), true, 0, 0)) := by
  refine ev_of (M := an_X9_hours) rfl (Nat.le_of_ble_eq_true rfl) ?_
  refine go_n 8 (fr' := (15, [(0, .ref 0), (1, .int 0)], [.ref 0, .int 2400, .int 0], (ah_w S z f1 f2 f3 g1 g2 0 a b s1 s2 0 0 (fun _ => 0)), true, 0, 0)) rfl ?_
  refine go_get rfl rfl rfl rfl ?_
  refine go_n 8 (fr' := (50, [(0, .ref 0), (1, .int 0), (2, .int 0)], [.ref 0], (ah_w S z f1 f2 f3 g1 g2 0 a b s1 s2 0 0 (fun _ => 0)), true, 0, 0)) rfl ?_
  refine go_get rfl rfl rfl rfl ?_
  refine go_rt (i := .ireturn) (tg := []) rfl ?_
  rfl
set_option maxRecDepth 20000 in
theorem pl_hours_0_1_hours {xs : Nat → Int32} {S : Nat} {z : Int32} {f1 f2 f3 g1 g2 s1 s2 : Nat → Int32} {a b : Nat} (hw : xs 3 = 0) : ai_Ev an_ms an_lk (8, xs) 35 12 90 [.ref 0, .int 0, .ref 85] (ah_w S z f1 f2 f3 g1 g2 0 a b s1 s2 0 0 (fun _ => 0)) true (.inl (some (.int 0), (ah_w S z f1 f2 f3 g1 g2 0 a b s1 s2 0 0 (vp_updL (fun _ => 0) 0 ((0 : Int32).toInt64))), true, 0, 0)) := by
  refine ev_of (M := an_L_hours) rfl (Nat.le_of_ble_eq_true rfl) ?_
  refine go_n 4 (fr' := (4, [(0, .ref 0), (1, .int 0), (2, .ref 85)], [.int 0, .ref 0, .int 0, .ref 85], (ah_w S z f1 f2 f3 g1 g2 0 a b s1 s2 0 0 (fun _ => 0)), true, 0, 0)) rfl ?_
  refine go_call (q := 35) (M1 := an_X9_hours) rfl rfl (by decide) rfl ⟨_, rfl⟩ trivial (pl_hours_0_2_hours hw) ?_
  refine go_eq (fr' := (7, [(0, .ref 0), (1, .int 0), (2, .ref 85)], [.int 0, .int 0, .ref 85], (ah_w S z f1 f2 f3 g1 g2 0 a b s1 s2 0 0 (fun _ => 0)), true, 0, 0)) rfl ?_
  refine go_n 4 (fr' := (16, [(0, .ref 0), (1, .int 0), (2, .ref 85)], [.int 0], (ah_w S z f1 f2 f3 g1 g2 0 a b s1 s2 0 0 (vp_updL (fun _ => 0) 0 ((0 : Int32).toInt64))), true, 0, 0)) rfl ?_
  refine go_rt (i := .ireturn) (tg := []) rfl ?_
  rfl
set_option maxRecDepth 20000 in
theorem pl_hours_0_3_hours {xs : Nat → Int32} {S : Nat} {z : Int32} {f1 f2 f3 g1 g2 s1 s2 : Nat → Int32} {a b : Nat} (hw : xs 3 = 0) : ai_Ev an_ms an_lk (8, xs) 35 12 74 [.ref 49, .int 0] (ah_w S z f1 f2 f3 g1 g2 0 a b s1 s2 0 0 (vp_updL (fun _ => 0) 0 ((0 : Int32).toInt64))) true (.inl (some (.int 0), (ah_w S z f1 f2 f3 g1 g2 0 a b s1 s2 0 0 (vp_updL (fun _ => 0) 0 ((0 : Int32).toInt64))), true, 0, 0)) := by
  refine ev_of (M := an_X10_hours) rfl (Nat.le_of_ble_eq_true rfl) ?_
  refine go_n 2 (fr' := (2, [(0, .ref 49), (1, .int 0)], [.int 0, .ref 49], (ah_w S z f1 f2 f3 g1 g2 0 a b s1 s2 0 0 (vp_updL (fun _ => 0) 0 ((0 : Int32).toInt64))), true, 0, 0)) rfl ?_
  refine go_put rfl rfl rfl (Nat.le_of_ble_eq_true rfl) rfl ?_
  refine go_n 6 (fr' := (16, [(0, .ref 49), (1, .int 0)], [.ref 49], (ah_w S z f1 f2 f3 g1 g2 0 a b s1 s2 0 0 (vp_updL (fun _ => 0) 0 ((0 : Int32).toInt64))), true, 0, 0)) rfl ?_
  refine go_get rfl rfl rfl rfl ?_
  refine go_n 5 (fr' := (33, [(0, .ref 49), (1, .int 0)], [.ref 49], (ah_w S z f1 f2 f3 g1 g2 0 a b s1 s2 0 0 (vp_updL (fun _ => 0) 0 ((0 : Int32).toInt64))), true, 0, 0)) rfl ?_
  refine go_get rfl rfl rfl rfl ?_
  refine go_n 1 (fr' := (37, [(0, .ref 49), (1, .int 0)], [.ref 49, .int (nI a)], (ah_w S z f1 f2 f3 g1 g2 0 a b s1 s2 0 0 (vp_updL (fun _ => 0) 0 ((0 : Int32).toInt64))), true, 0, 0)) rfl ?_
  refine go_get rfl rfl rfl rfl ?_
  refine go_n 8 (fr' := (217, [(0, .ref 49), (1, .int 0), (2, .int ((nI a) * (nI b))), (3, .int 0)], [.ref 49], (ah_w S z f1 f2 f3 g1 g2 0 a b s1 s2 0 0 (vp_updL (fun _ => 0) 0 ((0 : Int32).toInt64))), true, 0, 0)) rfl ?_
  refine go_get rfl rfl rfl rfl ?_
  refine go_rt (i := .ireturn) (tg := []) rfl ?_
  rfl
set_option maxRecDepth 20000 in
theorem pl_hours_0_4_thrown {xs : Nat → Int32} {S : Nat} {z : Int32} {f1 f2 f3 g1 g2 s1 s2 : Nat → Int32} {a b : Nat} (hw : xs 3 = 0) : ai_Ev an_ms an_lk (8, xs) 35 12 52 [.ref 49] (ah_w S z f1 f2 f3 g1 g2 0 a b s1 s2 0 0 (vp_updL (fun _ => 0) 0 ((0 : Int32).toInt64))) true (.inl (some (.int 0), (ah_w S z f1 f2 f3 g1 g2 0 a b s1 s2 0 0 (vp_updL (fun _ => 0) 0 ((0 : Int32).toInt64))), true, 0, 0)) := by
  refine ev_of (M := an_X10_thrown) rfl (Nat.le_of_ble_eq_true rfl) ?_
  refine go_n 1 (fr' := (1, [(0, .ref 49)], [.ref 49], (ah_w S z f1 f2 f3 g1 g2 0 a b s1 s2 0 0 (vp_updL (fun _ => 0) 0 ((0 : Int32).toInt64))), true, 0, 0)) rfl ?_
  refine go_get rfl rfl rfl rfl ?_
  refine go_rt (i := .ireturn) (tg := []) rfl ?_
  rfl
set_option maxRecDepth 20000 in
theorem pl_hours_0 {xs : Nat → Int32} {S : Nat} {z : Int32} {f1 f2 f3 g1 g2 s1 s2 : Nat → Int32} {a b : Nat} {ns : Nat} (hw : xs 3 = 0) : pl_ok xs (814, [(0, .ref 1000000), (1, .ref 0), (2, .ref 49), (3, .ref 85), (4, .int 2)], [], (ah_w S z f1 f2 f3 g1 g2 0 a b s1 s2 0 0 (fun _ => 0)), true, 86, ns) ns := by
  refine pl_mk (h' := (ah_w S z f1 f2 f3 g1 g2 0 a b s1 s2 0 0 (vp_updL (fun _ => 0) 0 ((0 : Int32).toInt64)))) (ex' := true) (nc := 86) (ns' := ns) ?_ (by omega) (by omega)
  refine go_n 6 (fr' := (821, [(0, .ref 1000000), (1, .ref 0), (2, .ref 49), (3, .ref 85), (4, .int 2)], [.int (xs 3), .ref 0], (ah_w S z f1 f2 f3 g1 g2 0 a b s1 s2 0 0 (fun _ => 0)), true, 86, ns)) rfl ?_
  rw [hw]
  refine go_n 1 (fr' := (822, [(0, .ref 1000000), (1, .ref 0), (2, .ref 49), (3, .ref 85), (4, .int 2)], [.ref 85, .int 0, .ref 0], (ah_w S z f1 f2 f3 g1 g2 0 a b s1 s2 0 0 (fun _ => 0)), true, 86, ns)) rfl ?_
  refine go_call (q := 90) (M1 := an_L_hours) rfl rfl (by decide) rfl trivial trivial (pl_hours_0_1_hours hw) ?_
  refine go_eq (fr' := (825, [(0, .ref 1000000), (1, .ref 0), (2, .ref 49), (3, .ref 85), (4, .int 2)], [.int 0], (ah_w S z f1 f2 f3 g1 g2 0 a b s1 s2 0 0 (vp_updL (fun _ => 0) 0 ((0 : Int32).toInt64))), true, 86, ns)) rfl ?_
  refine go_n 7 (fr' := (834, [(0, .ref 1000000), (1, .ref 0), (2, .ref 49), (3, .ref 85), (4, .int 2), (5, .int 0)], [.int (xs 3), .ref 49], (ah_w S z f1 f2 f3 g1 g2 0 a b s1 s2 0 0 (vp_updL (fun _ => 0) 0 ((0 : Int32).toInt64))), true, 86, ns)) rfl ?_
  rw [hw]
  refine go_call (q := 74) (M1 := an_X10_hours) rfl rfl (by decide) rfl ⟨_, rfl⟩ trivial (pl_hours_0_3_hours hw) ?_
  refine go_eq (fr' := (837, [(0, .ref 1000000), (1, .ref 0), (2, .ref 49), (3, .ref 85), (4, .int 2), (5, .int 0)], [.int 0], (ah_w S z f1 f2 f3 g1 g2 0 a b s1 s2 0 0 (vp_updL (fun _ => 0) 0 ((0 : Int32).toInt64))), true, 86, ns)) rfl ?_
  refine go_n 2 (fr' := (840, [(0, .ref 1000000), (1, .ref 0), (2, .ref 49), (3, .ref 85), (4, .int 2), (5, .int 0), (6, .int 0)], [.ref 49], (ah_w S z f1 f2 f3 g1 g2 0 a b s1 s2 0 0 (vp_updL (fun _ => 0) 0 ((0 : Int32).toInt64))), true, 86, ns)) rfl ?_
  refine go_call (q := 52) (M1 := an_X10_thrown) rfl rfl (by decide) rfl ⟨_, rfl⟩ trivial (pl_hours_0_4_thrown hw) ?_
  refine go_eq (fr' := (843, [(0, .ref 1000000), (1, .ref 0), (2, .ref 49), (3, .ref 85), (4, .int 2), (5, .int 0), (6, .int 0)], [.int 0], (ah_w S z f1 f2 f3 g1 g2 0 a b s1 s2 0 0 (vp_updL (fun _ => 0) 0 ((0 : Int32).toInt64))), true, 86, ns)) rfl ?_
  refine go_n 10 (fr' := (862, [(0, .ref 1000000), (1, .ref 0), (2, .ref 49), (3, .ref 85), (4, .int 2), (5, .int 0), (6, .int 0)], [.int (lg_cmp ((0 : Int32).toInt64) ((0 : Int32).toInt64))], (ah_w S z f1 f2 f3 g1 g2 0 a b s1 s2 0 0 (vp_updL (fun _ => 0) 0 ((0 : Int32).toInt64))), true, 86, ns)) rfl ?_
  refine go_if_eq (t := 867) rfl (fun q1 => ?_) (fun q1 => absurd (lg_self _) q1)
  refine go_n 1 (fr' := (1174, [(0, .ref 1000000), (1, .ref 0), (2, .ref 49), (3, .ref 85), (4, .int 2), (5, .int 0), (6, .int 0)], [], (ah_w S z f1 f2 f3 g1 g2 0 a b s1 s2 0 0 (vp_updL (fun _ => 0) 0 ((0 : Int32).toInt64))), true, 86, ns)) rfl ?_
  exact pl_end2
set_option maxRecDepth 20000 in
theorem pl_hours_3_2_hours {xs : Nat → Int32} {S : Nat} {f1 f2 f3 g1 g2 s1 s2 : Nat → Int32} {a b : Nat} (hS1 : 1 ≤ S) (hS : S ≤ 64) (hab : nI a * nI b = nI S) (hg : ∀ j, j < S → g1 j = -1) (hs : ∀ j, j < 64 → s1 j = -1) {n : Nat} (hn : n + 1 ≤ 100) (hx : xs 3 = nI (n + 1)) (h0 : ¬ nI (n + 1) < 0) (h1 : ¬ 100 < nI (n + 1)) (h2 : ¬ 2400 < nI (n + 1)) (h3 : ¬ 2400 < 0 + nI (n + 1)) (h4 : 0 < nI (n + 1)) : ai_Ev an_ms an_lk (8, xs) 35 11 35 [.ref 0, .int (nI (n + 1))] (ah_w S (nI S) f1 f2 f3 g1 g2 0 a b s1 s2 0 0 (fun _ => 0)) true (.inl (some (.int (nI (n + 1))), (ah_w S (nI S) f1 f2 f3 g1 g2 (nI (n + 1)) a b s1 s2 0 0 (fun _ => 0)), true, 0, 0)) := by
  refine ev_of (M := an_X9_hours) rfl (Nat.le_of_ble_eq_true rfl) ?_
  refine go_n 1 (fr' := (1, [(0, .ref 0), (1, .int (nI (n + 1)))], [.int (nI (n + 1))], (ah_w S (nI S) f1 f2 f3 g1 g2 0 a b s1 s2 0 0 (fun _ => 0)), true, 0, 0)) rfl ?_
  refine go_if_lt (t := 22) rfl (fun q1 => absurd q1 h0) (fun q1 => ?_)
  refine go_n 2 (fr' := (7, [(0, .ref 0), (1, .int (nI (n + 1)))], [.int 100, .int (nI (n + 1))], (ah_w S (nI S) f1 f2 f3 g1 g2 0 a b s1 s2 0 0 (fun _ => 0)), true, 0, 0)) rfl ?_
  refine go_ic_gt (t := 22) rfl (fun q2 => absurd q2 h1) (fun q2 => ?_)
  refine go_n 3 (fr' := (15, [(0, .ref 0), (1, .int (nI (n + 1)))], [.ref 0, .int 2400, .int (nI (n + 1))], (ah_w S (nI S) f1 f2 f3 g1 g2 0 a b s1 s2 0 0 (fun _ => 0)), true, 0, 0)) rfl ?_
  refine go_get rfl rfl rfl rfl ?_
  refine go_n 1 (fr' := (19, [(0, .ref 0), (1, .int (nI (n + 1)))], [.int 2400, .int (nI (n + 1))], (ah_w S (nI S) f1 f2 f3 g1 g2 0 a b s1 s2 0 0 (fun _ => 0)), true, 0, 0)) rfl ?_
  refine go_ic_le (t := 32) rfl (fun q3 => ?_) (fun q3 => absurd (Int32.not_lt.mp h2) q3)
  refine go_n 2 (fr' := (34, [(0, .ref 0), (1, .int (nI (n + 1))), (2, .int 0)], [], (ah_w S (nI S) f1 f2 f3 g1 g2 0 a b s1 s2 0 0 (fun _ => 0)), true, 0, 0)) rfl ?_
  refine go_eq (fr' := (34, [(0, .ref 0), (1, .int (nI (n + 1))), (2, .int (nI 0))], [], (ah_w S (nI S) f1 f2 f3 g1 g2 (nI 0) a b s1 s2 0 0 (fun _ => 0)), true, 0, 0)) rfl ?_
  refine lp_hours (ex := true) (d := 0) hS1 hS hab hg hs (N := n + 1) hn (n + 1) 0 (Nat.zero_add _) _ ?_
  refine go_n 1 (fr' := (50, [(0, .ref 0), (1, .int (nI (n + 1))), (2, .int (nI (n + 1)))], [.ref 0], (ah_w S (nI S) f1 f2 f3 g1 g2 (nI (n + 1)) a b s1 s2 0 0 (fun _ => 0)), true, 0, 0)) rfl ?_
  refine go_get rfl rfl rfl rfl ?_
  refine go_rt (i := .ireturn) (tg := []) rfl ?_
  rfl
set_option maxRecDepth 20000 in
theorem pl_hours_3_1_hours {xs : Nat → Int32} {S : Nat} {f1 f2 f3 g1 g2 s1 s2 : Nat → Int32} {a b : Nat} (hS1 : 1 ≤ S) (hS : S ≤ 64) (hab : nI a * nI b = nI S) (hg : ∀ j, j < S → g1 j = -1) (hs : ∀ j, j < 64 → s1 j = -1) {n : Nat} (hn : n + 1 ≤ 100) (hx : xs 3 = nI (n + 1)) (h0 : ¬ nI (n + 1) < 0) (h1 : ¬ 100 < nI (n + 1)) (h2 : ¬ 2400 < nI (n + 1)) (h3 : ¬ 2400 < 0 + nI (n + 1)) (h4 : 0 < nI (n + 1)) : ai_Ev an_ms an_lk (8, xs) 35 12 90 [.ref 0, .int (nI (n + 1)), .ref 85] (ah_w S (nI S) f1 f2 f3 g1 g2 0 a b s1 s2 0 0 (fun _ => 0)) true (.inl (some (.int 0), (ah_w S (nI S) f1 f2 f3 g1 g2 (nI (n + 1)) a b s1 s2 0 0 (vp_updL (fun _ => 0) 0 (((nI (n + 1)) : Int32).toInt64))), true, 0, 0)) := by
  refine ev_of (M := an_L_hours) rfl (Nat.le_of_ble_eq_true rfl) ?_
  refine go_n 4 (fr' := (4, [(0, .ref 0), (1, .int (nI (n + 1))), (2, .ref 85)], [.int (nI (n + 1)), .ref 0, .int 0, .ref 85], (ah_w S (nI S) f1 f2 f3 g1 g2 0 a b s1 s2 0 0 (fun _ => 0)), true, 0, 0)) rfl ?_
  refine go_call (q := 35) (M1 := an_X9_hours) rfl rfl (by decide) rfl ⟨_, rfl⟩ trivial (pl_hours_3_2_hours hS1 hS hab hg hs hn hx h0 h1 h2 h3 h4) ?_
  refine go_eq (fr' := (7, [(0, .ref 0), (1, .int (nI (n + 1))), (2, .ref 85)], [.int (nI (n + 1)), .int 0, .ref 85], (ah_w S (nI S) f1 f2 f3 g1 g2 (nI (n + 1)) a b s1 s2 0 0 (fun _ => 0)), true, 0, 0)) rfl ?_
  refine go_n 4 (fr' := (16, [(0, .ref 0), (1, .int (nI (n + 1))), (2, .ref 85)], [.int 0], (ah_w S (nI S) f1 f2 f3 g1 g2 (nI (n + 1)) a b s1 s2 0 0 (vp_updL (fun _ => 0) 0 (((nI (n + 1)) : Int32).toInt64))), true, 0, 0)) rfl ?_
  refine go_rt (i := .ireturn) (tg := []) rfl ?_
  rfl
set_option maxRecDepth 20000 in
theorem pl_hours_3_3_hours {xs : Nat → Int32} {S : Nat} {f1 f2 f3 g1 g2 s1 s2 : Nat → Int32} {a b : Nat} (hS1 : 1 ≤ S) (hS : S ≤ 64) (hab : nI a * nI b = nI S) (hg : ∀ j, j < S → g1 j = -1) (hs : ∀ j, j < 64 → s1 j = -1) {n : Nat} (hn : n + 1 ≤ 100) (hx : xs 3 = nI (n + 1)) (h0 : ¬ nI (n + 1) < 0) (h1 : ¬ 100 < nI (n + 1)) (h2 : ¬ 2400 < nI (n + 1)) (h3 : ¬ 2400 < 0 + nI (n + 1)) (h4 : 0 < nI (n + 1)) : ai_Ev an_ms an_lk (8, xs) 35 12 74 [.ref 49, .int (nI (n + 1))] (ah_w S (nI S) f1 f2 f3 g1 g2 (nI (n + 1)) a b s1 s2 0 0 (vp_updL (fun _ => 0) 0 (((nI (n + 1)) : Int32).toInt64))) true (.inl (some (.int (nI (n + 1))), (ah_w S (nI S) f1 f2 f3 g1 g2 (nI (n + 1)) a b s1 s2 (nI (n + 1)) 0 (vp_updL (fun _ => 0) 0 (((nI (n + 1)) : Int32).toInt64))), true, 0, 0)) := by
  refine ev_of (M := an_X10_hours) rfl (Nat.le_of_ble_eq_true rfl) ?_
  refine go_n 2 (fr' := (2, [(0, .ref 49), (1, .int (nI (n + 1)))], [.int 0, .ref 49], (ah_w S (nI S) f1 f2 f3 g1 g2 (nI (n + 1)) a b s1 s2 0 0 (vp_updL (fun _ => 0) 0 (((nI (n + 1)) : Int32).toInt64))), true, 0, 0)) rfl ?_
  refine go_put rfl rfl rfl (Nat.le_of_ble_eq_true rfl) rfl ?_
  refine go_n 1 (fr' := (6, [(0, .ref 49), (1, .int (nI (n + 1)))], [.int (nI (n + 1))], (ah_w S (nI S) f1 f2 f3 g1 g2 (nI (n + 1)) a b s1 s2 0 0 (vp_updL (fun _ => 0) 0 (((nI (n + 1)) : Int32).toInt64))), true, 0, 0)) rfl ?_
  refine go_if_lt (t := 27) rfl (fun q1 => absurd q1 h0) (fun q1 => ?_)
  refine go_n 2 (fr' := (12, [(0, .ref 49), (1, .int (nI (n + 1)))], [.int 100, .int (nI (n + 1))], (ah_w S (nI S) f1 f2 f3 g1 g2 (nI (n + 1)) a b s1 s2 0 0 (vp_updL (fun _ => 0) 0 (((nI (n + 1)) : Int32).toInt64))), true, 0, 0)) rfl ?_
  refine go_ic_gt (t := 27) rfl (fun q2 => absurd q2 h1) (fun q2 => ?_)
  refine go_n 1 (fr' := (16, [(0, .ref 49), (1, .int (nI (n + 1)))], [.ref 49], (ah_w S (nI S) f1 f2 f3 g1 g2 (nI (n + 1)) a b s1 s2 0 0 (vp_updL (fun _ => 0) 0 (((nI (n + 1)) : Int32).toInt64))), true, 0, 0)) rfl ?_
  refine go_get rfl rfl rfl rfl ?_
  refine go_n 3 (fr' := (24, [(0, .ref 49), (1, .int (nI (n + 1)))], [.int 2400, .int (0 + (nI (n + 1)))], (ah_w S (nI S) f1 f2 f3 g1 g2 (nI (n + 1)) a b s1 s2 0 0 (vp_updL (fun _ => 0) 0 (((nI (n + 1)) : Int32).toInt64))), true, 0, 0)) rfl ?_
  refine go_ic_le (t := 32) rfl (fun q3 => ?_) (fun q3 => absurd (Int32.not_lt.mp h3) q3)
  refine go_n 1 (fr' := (33, [(0, .ref 49), (1, .int (nI (n + 1)))], [.ref 49], (ah_w S (nI S) f1 f2 f3 g1 g2 (nI (n + 1)) a b s1 s2 0 0 (vp_updL (fun _ => 0) 0 (((nI (n + 1)) : Int32).toInt64))), true, 0, 0)) rfl ?_
  refine go_get rfl rfl rfl rfl ?_
  refine go_n 1 (fr' := (37, [(0, .ref 49), (1, .int (nI (n + 1)))], [.ref 49, .int (nI a)], (ah_w S (nI S) f1 f2 f3 g1 g2 (nI (n + 1)) a b s1 s2 0 0 (vp_updL (fun _ => 0) 0 (((nI (n + 1)) : Int32).toInt64))), true, 0, 0)) rfl ?_
  refine go_get rfl rfl rfl rfl ?_
  refine go_n 4 (fr' := (44, [(0, .ref 49), (1, .int (nI (n + 1))), (2, .int ((nI a) * (nI b))), (3, .int 0)], [], (ah_w S (nI S) f1 f2 f3 g1 g2 (nI (n + 1)) a b s1 s2 0 0 (vp_updL (fun _ => 0) 0 (((nI (n + 1)) : Int32).toInt64))), true, 0, 0)) rfl ?_
  refine go_n 2 (fr' := (46, [(0, .ref 49), (1, .int (nI (n + 1))), (2, .int ((nI a) * (nI b))), (3, .int 0)], [.int (nI (n + 1)), .int 0], (ah_w S (nI S) f1 f2 f3 g1 g2 (nI (n + 1)) a b s1 s2 0 0 (vp_updL (fun _ => 0) 0 (((nI (n + 1)) : Int32).toInt64))), true, 0, 0)) rfl ?_
  refine go_ic_ge (t := 216) rfl (fun q4 => absurd q4 (Int32.not_le.mpr h4)) (fun q4 => ?_)
  refine go_n 2 (fr' := (52, [(0, .ref 49), (1, .int (nI (n + 1))), (2, .int ((nI a) * (nI b))), (3, .int 0), (4, .int 0)], [], (ah_w S (nI S) f1 f2 f3 g1 g2 (nI (n + 1)) a b s1 s2 0 0 (vp_updL (fun _ => 0) 0 (((nI (n + 1)) : Int32).toInt64))), true, 0, 0)) rfl ?_
  refine go_eq (fr' := (52, [(0, .ref 49), (1, .int (nI (n + 1))), (2, .int ((nI a) * (nI b))), (3, .int 0), (4, .int 0)], [], (ah_w S (nI S) f1 f2 f3 g1 g2 (nI (n + 1)) a b s1 s2 0 0 (vp_updL (fun _ => 0) 0 (((nI (n + 1)) : Int32).toInt64))), true, 0, 0)) rfl ?_
  refine lp_body hS1 hS hab hg hs _ ?_
  refine go_eq (fr' := (44, [(0, .ref 49), (1, .int (nI (n + 1))), (2, .int ((nI a) * (nI b))), (3, .int (nI 1)), (4, .int (nI S))], [], (ah_w S (nI S) f1 f2 f3 g1 g2 (nI (n + 1)) a b s1 s2 (nI 1) 0 (vp_updL (fun _ => 0) 0 (((nI (n + 1)) : Int32).toInt64))), true, 0, 0)) rfl ?_
  refine lp_hoursR (ex := true) (d := 0) hS1 hS hab hg hs (N := n + 1) hn n 1 (Nat.add_comm 1 n) _ ?_
  refine go_n 1 (fr' := (217, [(0, .ref 49), (1, .int (nI (n + 1))), (2, .int ((nI a) * (nI b))), (3, .int (nI (n + 1))), (4, .int (nI S))], [.ref 49], (ah_w S (nI S) f1 f2 f3 g1 g2 (nI (n + 1)) a b s1 s2 (nI (n + 1)) 0 (vp_updL (fun _ => 0) 0 (((nI (n + 1)) : Int32).toInt64))), true, 0, 0)) rfl ?_
  refine go_get rfl rfl rfl rfl ?_
  refine go_rt (i := .ireturn) (tg := []) rfl ?_
  rfl
set_option maxRecDepth 20000 in
theorem pl_hours_3_4_thrown {xs : Nat → Int32} {S : Nat} {f1 f2 f3 g1 g2 s1 s2 : Nat → Int32} {a b : Nat} (hS1 : 1 ≤ S) (hS : S ≤ 64) (hab : nI a * nI b = nI S) (hg : ∀ j, j < S → g1 j = -1) (hs : ∀ j, j < 64 → s1 j = -1) {n : Nat} (hn : n + 1 ≤ 100) (hx : xs 3 = nI (n + 1)) (h0 : ¬ nI (n + 1) < 0) (h1 : ¬ 100 < nI (n + 1)) (h2 : ¬ 2400 < nI (n + 1)) (h3 : ¬ 2400 < 0 + nI (n + 1)) (h4 : 0 < nI (n + 1)) : ai_Ev an_ms an_lk (8, xs) 35 12 52 [.ref 49] (ah_w S (nI S) f1 f2 f3 g1 g2 (nI (n + 1)) a b s1 s2 (nI (n + 1)) 0 (vp_updL (fun _ => 0) 0 (((nI (n + 1)) : Int32).toInt64))) true (.inl (some (.int 0), (ah_w S (nI S) f1 f2 f3 g1 g2 (nI (n + 1)) a b s1 s2 (nI (n + 1)) 0 (vp_updL (fun _ => 0) 0 (((nI (n + 1)) : Int32).toInt64))), true, 0, 0)) := by
  refine ev_of (M := an_X10_thrown) rfl (Nat.le_of_ble_eq_true rfl) ?_
  refine go_n 1 (fr' := (1, [(0, .ref 49)], [.ref 49], (ah_w S (nI S) f1 f2 f3 g1 g2 (nI (n + 1)) a b s1 s2 (nI (n + 1)) 0 (vp_updL (fun _ => 0) 0 (((nI (n + 1)) : Int32).toInt64))), true, 0, 0)) rfl ?_
  refine go_get rfl rfl rfl rfl ?_
  refine go_rt (i := .ireturn) (tg := []) rfl ?_
  rfl
set_option maxRecDepth 20000 in
theorem pl_hours_3 {xs : Nat → Int32} {S : Nat} {f1 f2 f3 g1 g2 s1 s2 : Nat → Int32} {a b : Nat} {ns : Nat} (hS1 : 1 ≤ S) (hS : S ≤ 64) (hab : nI a * nI b = nI S) (hg : ∀ j, j < S → g1 j = -1) (hs : ∀ j, j < 64 → s1 j = -1) {n : Nat} (hn : n + 1 ≤ 100) (hx : xs 3 = nI (n + 1)) (h0 : ¬ nI (n + 1) < 0) (h1 : ¬ 100 < nI (n + 1)) (h2 : ¬ 2400 < nI (n + 1)) (h3 : ¬ 2400 < 0 + nI (n + 1)) (h4 : 0 < nI (n + 1)) : pl_ok xs (814, [(0, .ref 1000000), (1, .ref 0), (2, .ref 49), (3, .ref 85), (4, .int 2)], [], (ah_w S (nI S) f1 f2 f3 g1 g2 0 a b s1 s2 0 0 (fun _ => 0)), true, 86, ns) ns := by
  refine pl_mk (h' := (ah_w S (nI S) f1 f2 f3 g1 g2 (nI (n + 1)) a b s1 s2 (nI (n + 1)) 0 (vp_updL (fun _ => 0) 0 (((nI (n + 1)) : Int32).toInt64)))) (ex' := true) (nc := 86) (ns' := ns) ?_ (by omega) (by omega)
  refine go_n 6 (fr' := (821, [(0, .ref 1000000), (1, .ref 0), (2, .ref 49), (3, .ref 85), (4, .int 2)], [.int (xs 3), .ref 0], (ah_w S (nI S) f1 f2 f3 g1 g2 0 a b s1 s2 0 0 (fun _ => 0)), true, 86, ns)) rfl ?_
  rw [hx]
  refine go_n 1 (fr' := (822, [(0, .ref 1000000), (1, .ref 0), (2, .ref 49), (3, .ref 85), (4, .int 2)], [.ref 85, .int (nI (n + 1)), .ref 0], (ah_w S (nI S) f1 f2 f3 g1 g2 0 a b s1 s2 0 0 (fun _ => 0)), true, 86, ns)) rfl ?_
  refine go_call (q := 90) (M1 := an_L_hours) rfl rfl (by decide) rfl trivial trivial (pl_hours_3_1_hours hS1 hS hab hg hs hn hx h0 h1 h2 h3 h4) ?_
  refine go_eq (fr' := (825, [(0, .ref 1000000), (1, .ref 0), (2, .ref 49), (3, .ref 85), (4, .int 2)], [.int 0], (ah_w S (nI S) f1 f2 f3 g1 g2 (nI (n + 1)) a b s1 s2 0 0 (vp_updL (fun _ => 0) 0 (((nI (n + 1)) : Int32).toInt64))), true, 86, ns)) rfl ?_
  refine go_n 7 (fr' := (834, [(0, .ref 1000000), (1, .ref 0), (2, .ref 49), (3, .ref 85), (4, .int 2), (5, .int 0)], [.int (xs 3), .ref 49], (ah_w S (nI S) f1 f2 f3 g1 g2 (nI (n + 1)) a b s1 s2 0 0 (vp_updL (fun _ => 0) 0 (((nI (n + 1)) : Int32).toInt64))), true, 86, ns)) rfl ?_
  rw [hx]
  refine go_call (q := 74) (M1 := an_X10_hours) rfl rfl (by decide) rfl ⟨_, rfl⟩ trivial (pl_hours_3_3_hours hS1 hS hab hg hs hn hx h0 h1 h2 h3 h4) ?_
  refine go_eq (fr' := (837, [(0, .ref 1000000), (1, .ref 0), (2, .ref 49), (3, .ref 85), (4, .int 2), (5, .int 0)], [.int (nI (n + 1))], (ah_w S (nI S) f1 f2 f3 g1 g2 (nI (n + 1)) a b s1 s2 (nI (n + 1)) 0 (vp_updL (fun _ => 0) 0 (((nI (n + 1)) : Int32).toInt64))), true, 86, ns)) rfl ?_
  refine go_n 2 (fr' := (840, [(0, .ref 1000000), (1, .ref 0), (2, .ref 49), (3, .ref 85), (4, .int 2), (5, .int 0), (6, .int (nI (n + 1)))], [.ref 49], (ah_w S (nI S) f1 f2 f3 g1 g2 (nI (n + 1)) a b s1 s2 (nI (n + 1)) 0 (vp_updL (fun _ => 0) 0 (((nI (n + 1)) : Int32).toInt64))), true, 86, ns)) rfl ?_
  refine go_call (q := 52) (M1 := an_X10_thrown) rfl rfl (by decide) rfl ⟨_, rfl⟩ trivial (pl_hours_3_4_thrown hS1 hS hab hg hs hn hx h0 h1 h2 h3 h4) ?_
  refine go_eq (fr' := (843, [(0, .ref 1000000), (1, .ref 0), (2, .ref 49), (3, .ref 85), (4, .int 2), (5, .int 0), (6, .int (nI (n + 1)))], [.int 0], (ah_w S (nI S) f1 f2 f3 g1 g2 (nI (n + 1)) a b s1 s2 (nI (n + 1)) 0 (vp_updL (fun _ => 0) 0 (((nI (n + 1)) : Int32).toInt64))), true, 86, ns)) rfl ?_
  refine go_n 10 (fr' := (862, [(0, .ref 1000000), (1, .ref 0), (2, .ref 49), (3, .ref 85), (4, .int 2), (5, .int 0), (6, .int (nI (n + 1)))], [.int (lg_cmp (((nI (n + 1)) : Int32).toInt64) (((nI (n + 1)) : Int32).toInt64))], (ah_w S (nI S) f1 f2 f3 g1 g2 (nI (n + 1)) a b s1 s2 (nI (n + 1)) 0 (vp_updL (fun _ => 0) 0 (((nI (n + 1)) : Int32).toInt64))), true, 86, ns)) rfl ?_
  refine go_if_eq (t := 867) rfl (fun q1 => ?_) (fun q1 => absurd (lg_self _) q1)
  refine go_n 1 (fr' := (1174, [(0, .ref 1000000), (1, .ref 0), (2, .ref 49), (3, .ref 85), (4, .int 2), (5, .int 0), (6, .int (nI (n + 1)))], [], (ah_w S (nI S) f1 f2 f3 g1 g2 (nI (n + 1)) a b s1 s2 (nI (n + 1)) 0 (vp_updL (fun _ => 0) 0 (((nI (n + 1)) : Int32).toInt64))), true, 86, ns)) rfl ?_
  exact pl_end2
