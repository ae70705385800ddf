set_option maxRecDepth 20000 in
theorem pl_law_1_2_law {xs : Nat → Int32} {S : Nat} {z : Int32} {f1 f2 f3 g1 g2 s1 s2 : Nat → Int32} {a b : Nat} (h1 : xs 3 < 0) : ai_Ev an_ms an_lk (8, xs) 35 11 30 [.ref 0, .int (xs 3), .int (xs 4)] (ah_w S z f1 f2 f3 g1 g2 0 a b s1 s2 0 0 (fun _ => 0)) true (.inr ("java/lang/IllegalArgumentException", (ah_w S z f1 f2 f3 g1 g2 0 a b s1 s2 0 0 (fun _ => 0)), 1, 6)) := by
  refine ev_of (M := an_X9_law) rfl (Nat.le_of_ble_eq_true rfl) ?_
  refine go_n 1 (fr' := (1, [(0, .ref 0), (1, .int (xs 3)), (2, .int (xs 4))], [.int (xs 3)], (ah_w S z f1 f2 f3 g1 g2 0 a b s1 s2 0 0 (fun _ => 0)), true, 0, 0)) rfl ?_
  refine go_if_lt (t := 25) rfl (fun q1 => ?_) (fun q1 => absurd h1 q1)
  exact go_th (i := .new 105) (tg := []) rfl rfl
set_option maxRecDepth 20000 in
theorem pl_law_1_1_law {xs : Nat → Int32} {S : Nat} {z : Int32} {f1 f2 f3 g1 g2 s1 s2 : Nat → Int32} {a b : Nat} (h1 : xs 3 < 0) : ai_Ev an_ms an_lk (8, xs) 35 12 86 [.ref 0, .int (xs 3), .int (xs 4), .ref 85] (ah_w S z f1 f2 f3 g1 g2 0 a b s1 s2 0 0 (fun _ => 0)) true (.inl (some (.int 1), (ah_w S z f1 f2 f3 g1 g2 0 a b s1 s2 0 0 (fun _ => 0)), false, 1, 6)) := by
  refine ev_of (M := an_L_law) rfl (Nat.le_of_ble_eq_true rfl) ?_
  refine go_n 5 (fr' := (5, [(0, .ref 0), (1, .int (xs 3)), (2, .int (xs 4)), (3, .ref 85)], [.int (xs 4), .int (xs 3), .ref 0, .int 0, .ref 85], (ah_w S z f1 f2 f3 g1 g2 0 a b s1 s2 0 0 (fun _ => 0)), true, 0, 0)) rfl ?_
  exact go_cat (fr := (5, [(0, .ref 0), (1, .int (xs 3)), (2, .int (xs 4)), (3, .ref 85)], [.int (xs 4), .int (xs 3), .ref 0, .int 0, .ref 85], (ah_w S z f1 f2 f3 g1 g2 0 a b s1 s2 0 0 (fun _ => 0)), true, 0, 0)) (i := .invokevirtual 29) (tg := []) (q := 30) (As := [.ref 0, .int (xs 3), .int (xs 4)]) (rest := [.int 0, .ref 85]) (M1 := an_X9_law) rfl rfl (by decide) rfl ⟨_, rfl⟩ trivial (pl_law_1_2_law h1) (st := 0) (en := 10) (hp := 13) (ix := 23) rfl (Nat.le_of_ble_eq_true rfl) (Nat.le_of_ble_eq_true rfl) rfl
set_option maxRecDepth 20000 in
theorem pl_law_1_4_fail {xs : Nat → Int32} {S : Nat} {z : Int32} {f1 f2 f3 g1 g2 s1 s2 : Nat → Int32} {a b : Nat} (h1 : xs 3 < 0) : ai_Ev an_ms an_lk (8, xs) 35 11 53 [.ref 49] (ah_w S z f1 f2 f3 g1 g2 0 a b s1 s2 0 0 (fun _ => 0)) false (.inl (some (.int 0), (ah_w S z f1 f2 f3 g1 g2 0 a b s1 s2 0 1 (fun _ => 0)), false, 0, 0)) := by
  refine ev_of (M := an_X10_fail) rfl (Nat.le_of_ble_eq_true rfl) ?_
  refine go_n 2 (fr' := (2, [(0, .ref 49)], [.int 1, .ref 49], (ah_w S z f1 f2 f3 g1 g2 0 a b s1 s2 0 0 (fun _ => 0)), false, 0, 0)) rfl ?_
  refine go_put rfl rfl rfl (Nat.le_of_ble_eq_true rfl) rfl ?_
  refine go_n 1 (fr' := (6, [(0, .ref 49)], [.int 0], (ah_w S z f1 f2 f3 g1 g2 0 a b s1 s2 0 1 (fun _ => 0)), false, 0, 0)) rfl ?_
  refine go_rt (i := .ireturn) (tg := []) rfl ?_
  rfl
set_option maxRecDepth 20000 in
theorem pl_law_1_3_law {xs : Nat → Int32} {S : Nat} {z : Int32} {f1 f2 f3 g1 g2 s1 s2 : Nat → Int32} {a b : Nat} (h1 : xs 3 < 0) : ai_Ev an_ms an_lk (8, xs) 35 12 64 [.ref 49, .int (xs 3), .int (xs 4)] (ah_w S z f1 f2 f3 g1 g2 0 a b s1 s2 0 0 (fun _ => 0)) false (.inl (some (.int 0), (ah_w S z f1 f2 f3 g1 g2 0 a b s1 s2 0 1 (fun _ => 0)), false, 0, 0)) := by
  refine ev_of (M := an_X10_law) rfl (Nat.le_of_ble_eq_true rfl) ?_
  refine go_n 2 (fr' := (2, [(0, .ref 49), (1, .int (xs 3)), (2, .int (xs 4))], [.int 0, .ref 49], (ah_w S z f1 f2 f3 g1 g2 0 a b s1 s2 0 0 (fun _ => 0)), false, 0, 0)) rfl ?_
  refine go_put rfl rfl rfl (Nat.le_of_ble_eq_true rfl) rfl ?_
  refine go_n 1 (fr' := (6, [(0, .ref 49), (1, .int (xs 3)), (2, .int (xs 4))], [.int (xs 3)], (ah_w S z f1 f2 f3 g1 g2 0 a b s1 s2 0 0 (fun _ => 0)), false, 0, 0)) rfl ?_
  refine go_if_lt (t := 27) rfl (fun q1 => ?_) (fun q1 => absurd h1 q1)
  refine go_n 1 (fr' := (28, [(0, .ref 49), (1, .int (xs 3)), (2, .int (xs 4))], [.ref 49], (ah_w S z f1 f2 f3 g1 g2 0 a b s1 s2 0 0 (fun _ => 0)), false, 0, 0)) rfl ?_
  refine go_callS (q := 53) (M1 := an_X10_fail) rfl rfl (by decide) rfl ⟨_, rfl⟩ trivial (pl_law_1_4_fail h1) ?_
  refine go_eq (fr' := (31, [(0, .ref 49), (1, .int (xs 3)), (2, .int (xs 4))], [.int 0], (ah_w S z f1 f2 f3 g1 g2 0 a b s1 s2 0 1 (fun _ => 0)), false, 0, 0)) rfl ?_
  refine go_rt (i := .ireturn) (tg := []) rfl ?_
  rfl
set_option maxRecDepth 20000 in
theorem pl_law_1_5_thrown {xs : Nat → Int32} {S : Nat} {z : Int32} {f1 f2 f3 g1 g2 s1 s2 : Nat → Int32} {a b : Nat} (h1 : xs 3 < 0) : ai_Ev an_ms an_lk (8, xs) 35 12 52 [.ref 49] (ah_w S z f1 f2 f3 g1 g2 0 a b s1 s2 0 1 (fun _ => 0)) false (.inl (some (.int 1), (ah_w S z f1 f2 f3 g1 g2 0 a b s1 s2 0 1 (fun _ => 0)), false, 0, 0)) := by
  refine ev_of (M := an_X10_thrown) rfl (Nat.le_of_ble_eq_true rfl) ?_
  refine go_n 1 (fr' := (1, [(0, .ref 49)], [.ref 49], (ah_w S z f1 f2 f3 g1 g2 0 a b s1 s2 0 1 (fun _ => 0)), false, 0, 0)) rfl ?_
  refine go_get rfl rfl rfl rfl ?_
  refine go_rt (i := .ireturn) (tg := []) rfl ?_
  rfl
set_option maxRecDepth 20000 in
theorem pl_law_1 {xs : Nat → Int32} {S : Nat} {z : Int32} {f1 f2 f3 g1 g2 s1 s2 : Nat → Int32} {a b : Nat} {ns : Nat} (h1 : xs 3 < 0) : pl_ok xs (527, [(0, .ref 1000000), (1, .ref 0), (2, .ref 49), (3, .ref 85), (4, .int 2)], [], (ah_w S z f1 f2 f3 g1 g2 0 a b s1 s2 0 0 (fun _ => 0)), true, 86, ns) ns := by
  refine pl_mk (h' := (ah_w S z f1 f2 f3 g1 g2 0 a b s1 s2 0 1 (fun _ => 0))) (ex' := false) (nc := 87) (ns' := (ns + 6)) ?_ (by omega) (by omega)
  refine go_n 12 (fr' := (541, [(0, .ref 1000000), (1, .ref 0), (2, .ref 49), (3, .ref 85), (4, .int 2)], [.ref 85, .int (xs 4), .int (xs 3), .ref 0], (ah_w S z f1 f2 f3 g1 g2 0 a b s1 s2 0 0 (fun _ => 0)), true, 86, ns)) rfl ?_
  refine go_call (q := 86) (M1 := an_L_law) rfl rfl (by decide) rfl trivial trivial (pl_law_1_1_law h1) ?_
  refine go_eq (fr' := (544, [(0, .ref 1000000), (1, .ref 0), (2, .ref 49), (3, .ref 85), (4, .int 2)], [.int 1], (ah_w S z f1 f2 f3 g1 g2 0 a b s1 s2 0 0 (fun _ => 0)), false, 87, (ns + 6))) rfl ?_
  refine go_n 12 (fr' := (559, [(0, .ref 1000000), (1, .ref 0), (2, .ref 49), (3, .ref 85), (4, .int 2), (5, .int 1)], [.int (xs 4), .int (xs 3), .ref 49], (ah_w S z f1 f2 f3 g1 g2 0 a b s1 s2 0 0 (fun _ => 0)), false, 87, (ns + 6))) rfl ?_
  refine go_callS (q := 64) (M1 := an_X10_law) rfl rfl (by decide) rfl ⟨_, rfl⟩ trivial (pl_law_1_3_law h1) ?_
  refine go_eq (fr' := (562, [(0, .ref 1000000), (1, .ref 0), (2, .ref 49), (3, .ref 85), (4, .int 2), (5, .int 1)], [.int 0], (ah_w S z f1 f2 f3 g1 g2 0 a b s1 s2 0 1 (fun _ => 0)), false, 87, (ns + 6))) rfl ?_
  refine go_n 2 (fr' := (565, [(0, .ref 1000000), (1, .ref 0), (2, .ref 49), (3, .ref 85), (4, .int 2), (5, .int 1), (6, .int 0)], [.ref 49], (ah_w S z f1 f2 f3 g1 g2 0 a b s1 s2 0 1 (fun _ => 0)), false, 87, (ns + 6))) rfl ?_
  refine go_callS (q := 52) (M1 := an_X10_thrown) rfl rfl (by decide) rfl ⟨_, rfl⟩ trivial (pl_law_1_5_thrown h1) ?_
  refine go_eq (fr' := (568, [(0, .ref 1000000), (1, .ref 0), (2, .ref 49), (3, .ref 85), (4, .int 2), (5, .int 1), (6, .int 0)], [.int 1], (ah_w S z f1 f2 f3 g1 g2 0 a b s1 s2 0 1 (fun _ => 0)), false, 87, (ns + 6))) rfl ?_
  refine go_n 5 (fr' := (1174, [(0, .ref 1000000), (1, .ref 0), (2, .ref 49), (3, .ref 85), (4, .int 2), (5, .int 1), (6, .int 0)], [], (ah_w S z f1 f2 f3 g1 g2 0 a b s1 s2 0 1 (fun _ => 0)), false, 87, (ns + 6))) rfl ?_
  exact pl_end2
set_option maxRecDepth 20000 in
theorem pl_law_2_2_law {xs : Nat → Int32} {S : Nat} {z : Int32} {f1 f2 f3 g1 g2 s1 s2 : Nat → Int32} {a b : Nat} (h1 : ¬ xs 3 < 0) (h2 : 0 < xs 3) : ai_Ev an_ms an_lk (8, xs) 35 11 30 [.ref 0, .int (xs 3), .int (xs 4)] (ah_w S z f1 f2 f3 g1 g2 0 a b s1 s2 0 0 (fun _ => 0)) true (.inr ("java/lang/IllegalArgumentException", (ah_w S z f1 f2 f3 g1 g2 0 a b s1 s2 0 0 (fun _ => 0)), 1, 6)) := by
  refine ev_of (M := an_X9_law) rfl (Nat.le_of_ble_eq_true rfl) ?_
  refine go_n 1 (fr' := (1, [(0, .ref 0), (1, .int (xs 3)), (2, .int (xs 4))], [.int (xs 3)], (ah_w S z f1 f2 f3 g1 g2 0 a b s1 s2 0 0 (fun _ => 0)), true, 0, 0)) rfl ?_
  refine go_if_lt (t := 25) rfl (fun q1 => absurd q1 h1) (fun q1 => ?_)
  refine go_n 2 (fr' := (6, [(0, .ref 0), (1, .int (xs 3)), (2, .int (xs 4))], [.ref 0, .int (xs 3)], (ah_w S z f1 f2 f3 g1 g2 0 a b s1 s2 0 0 (fun _ => 0)), true, 0, 0)) rfl ?_
  refine go_get rfl rfl rfl rfl ?_
  refine go_get rfl rfl rfl rfl ?_
  refine go_ic_gt (t := 25) rfl (fun q2 => ?_) (fun q2 => absurd h2 q2)
  exact go_th (i := .new 105) (tg := []) rfl rfl
set_option maxRecDepth 20000 in
theorem pl_law_2_1_law {xs : Nat → Int32} {S : Nat} {z : Int32} {f1 f2 f3 g1 g2 s1 s2 : Nat → Int32} {a b : Nat} (h1 : ¬ xs 3 < 0) (h2 : 0 < xs 3) : ai_Ev an_ms an_lk (8, xs) 35 12 86 [.ref 0, .int (xs 3), .int (xs 4), .ref 85] (ah_w S z f1 f2 f3 g1 g2 0 a b s1 s2 0 0 (fun _ => 0)) true (.inl (some (.int 1), (ah_w S z f1 f2 f3 g1 g2 0 a b s1 s2 0 0 (fun _ => 0)), false, 1, 6)) := by
  refine ev_of (M := an_L_law) rfl (Nat.le_of_ble_eq_true rfl) ?_
  refine go_n 5 (fr' := (5, [(0, .ref 0), (1, .int (xs 3)), (2, .int (xs 4)), (3, .ref 85)], [.int (xs 4), .int (xs 3), .ref 0, .int 0, .ref 85], (ah_w S z f1 f2 f3 g1 g2 0 a b s1 s2 0 0 (fun _ => 0)), true, 0, 0)) rfl ?_
  exact go_cat (fr := (5, [(0, .ref 0), (1, .int (xs 3)), (2, .int (xs 4)), (3, .ref 85)], [.int (xs 4), .int (xs 3), .ref 0, .int 0, .ref 85], (ah_w S z f1 f2 f3 g1 g2 0 a b s1 s2 0 0 (fun _ => 0)), true, 0, 0)) (i := .invokevirtual 29) (tg := []) (q := 30) (As := [.ref 0, .int (xs 3), .int (xs 4)]) (rest := [.int 0, .ref 85]) (M1 := an_X9_law) rfl rfl (by decide) rfl ⟨_, rfl⟩ trivial (pl_law_2_2_law h1 h2) (st := 0) (en := 10) (hp := 13) (ix := 23) rfl (Nat.le_of_ble_eq_true rfl) (Nat.le_of_ble_eq_true rfl) rfl
set_option maxRecDepth 20000 in
theorem pl_law_2_4_fail {xs : Nat → Int32} {S : Nat} {z : Int32} {f1 f2 f3 g1 g2 s1 s2 : Nat → Int32} {a b : Nat} (h1 : ¬ xs 3 < 0) (h2 : 0 < xs 3) : ai_Ev an_ms an_lk (8, xs) 35 11 53 [.ref 49] (ah_w S z f1 f2 f3 g1 g2 0 a b s1 s2 0 0 (fun _ => 0)) false (.inl (some (.int 0), (ah_w S z f1 f2 f3 g1 g2 0 a b s1 s2 0 1 (fun _ => 0)), false, 0, 0)) := by
  refine ev_of (M := an_X10_fail) rfl (Nat.le_of_ble_eq_true rfl) ?_
  refine go_n 2 (fr' := (2, [(0, .ref 49)], [.int 1, .ref 49], (ah_w S z f1 f2 f3 g1 g2 0 a b s1 s2 0 0 (fun _ => 0)), false, 0, 0)) rfl ?_
  refine go_put rfl rfl rfl (Nat.le_of_ble_eq_true rfl) rfl ?_
  refine go_n 1 (fr' := (6, [(0, .ref 49)], [.int 0], (ah_w S z f1 f2 f3 g1 g2 0 a b s1 s2 0 1 (fun _ => 0)), false, 0, 0)) rfl ?_
  refine go_rt (i := .ireturn) (tg := []) rfl ?_
  rfl
set_option maxRecDepth 20000 in
theorem pl_law_2_3_law {xs : Nat → Int32} {S : Nat} {z : Int32} {f1 f2 f3 g1 g2 s1 s2 : Nat → Int32} {a b : Nat} (h1 : ¬ xs 3 < 0) (h2 : 0 < xs 3) : ai_Ev an_ms an_lk (8, xs) 35 12 64 [.ref 49, .int (xs 3), .int (xs 4)] (ah_w S z f1 f2 f3 g1 g2 0 a b s1 s2 0 0 (fun _ => 0)) false (.inl (some (.int 0), (ah_w S z f1 f2 f3 g1 g2 0 a b s1 s2 0 1 (fun _ => 0)), false, 0, 0)) := by
  refine ev_of (M := an_X10_law) rfl (Nat.le_of_ble_eq_true rfl) ?_
  refine go_n 2 (fr' := (2, [(0, .ref 49), (1, .int (xs 3)), (2, .int (xs 4))], [.int 0, .ref 49], (ah_w S z f1 f2 f3 g1 g2 0 a b s1 s2 0 0 (fun _ => 0)), false, 0, 0)) rfl ?_
  refine go_put rfl rfl rfl (Nat.le_of_ble_eq_true rfl) rfl ?_
  refine go_n 1 (fr' := (6, [(0, .ref 49), (1, .int (xs 3)), (2, .int (xs 4))], [.int (xs 3)], (ah_w S z f1 f2 f3 g1 g2 0 a b s1 s2 0 0 (fun _ => 0)), false, 0, 0)) rfl ?_
  refine go_if_lt (t := 27) rfl (fun q1 => absurd q1 h1) (fun q1 => ?_)
  refine go_n 2 (fr' := (11, [(0, .ref 49), (1, .int (xs 3)), (2, .int (xs 4))], [.ref 49, .int (xs 3)], (ah_w S z f1 f2 f3 g1 g2 0 a b s1 s2 0 0 (fun _ => 0)), false, 0, 0)) rfl ?_
  refine go_get rfl rfl rfl rfl ?_
  refine go_ic_gt (t := 27) rfl (fun q2 => ?_) (fun q2 => absurd h2 q2)
  refine go_n 1 (fr' := (28, [(0, .ref 49), (1, .int (xs 3)), (2, .int (xs 4))], [.ref 49], (ah_w S z f1 f2 f3 g1 g2 0 a b s1 s2 0 0 (fun _ => 0)), false, 0, 0)) rfl ?_
  refine go_callS (q := 53) (M1 := an_X10_fail) rfl rfl (by decide) rfl ⟨_, rfl⟩ trivial (pl_law_2_4_fail h1 h2) ?_
  refine go_eq (fr' := (31, [(0, .ref 49), (1, .int (xs 3)), (2, .int (xs 4))], [.int 0], (ah_w S z f1 f2 f3 g1 g2 0 a b s1 s2 0 1 (fun _ => 0)), false, 0, 0)) rfl ?_
  refine go_rt (i := .ireturn) (tg := []) rfl ?_
  rfl
set_option maxRecDepth 20000 in
theorem pl_law_2_5_thrown {xs : Nat → Int32} {S : Nat} {z : Int32} {f1 f2 f3 g1 g2 s1 s2 : Nat → Int32} {a b : Nat} (h1 : ¬ xs 3 < 0) (h2 : 0 < xs 3) : ai_Ev an_ms an_lk (8, xs) 35 12 52 [.ref 49] (ah_w S z f1 f2 f3 g1 g2 0 a b s1 s2 0 1 (fun _ => 0)) false (.inl (some (.int 1), (ah_w S z f1 f2 f3 g1 g2 0 a b s1 s2 0 1 (fun _ => 0)), false, 0, 0)) := by
  refine ev_of (M := an_X10_thrown) rfl (Nat.le_of_ble_eq_true rfl) ?_
  refine go_n 1 (fr' := (1, [(0, .ref 49)], [.ref 49], (ah_w S z f1 f2 f3 g1 g2 0 a b s1 s2 0 1 (fun _ => 0)), false, 0, 0)) rfl ?_
  refine go_get rfl rfl rfl rfl ?_
  refine go_rt (i := .ireturn) (tg := []) rfl ?_
  rfl
set_option maxRecDepth 20000 in
theorem pl_law_2 {xs : Nat → Int32} {S : Nat} {z : Int32} {f1 f2 f3 g1 g2 s1 s2 : Nat → Int32} {a b : Nat} {ns : Nat} (h1 : ¬ xs 3 < 0) (h2 : 0 < xs 3) : pl_ok xs (527, [(0, .ref 1000000), (1, .ref 0), (2, .ref 49), (3, .ref 85), (4, .int 2)], [], (ah_w S z f1 f2 f3 g1 g2 0 a b s1 s2 0 0 (fun _ => 0)), true, 86, ns) ns := by
  refine pl_mk (h' := (ah_w S z f1 f2 f3 g1 g2 0 a b s1 s2 0 1 (fun _ => 0))) (ex' := false) (nc := 87) (ns' := (ns + 6)) ?_ (by omega) (by omega)
  refine go_n 12 (fr' := (541, [(0, .ref 1000000), (1, .ref 0), (2, .ref 49), (3, .ref 85), (4, .int 2)], [.ref 85, .int (xs 4), .int (xs 3), .ref 0], (ah_w S z f1 f2 f3 g1 g2 0 a b s1 s2 0 0 (fun _ => 0)), true, 86, ns)) rfl ?_
  refine go_call (q := 86) (M1 := an_L_law) rfl rfl (by decide) rfl trivial trivial (pl_law_2_1_law h1 h2) ?_
  refine go_eq (fr' := (544, [(0, .ref 1000000), (1, .ref 0), (2, .ref 49), (3, .ref 85), (4, .int 2)], [.int 1], (ah_w S z f1 f2 f3 g1 g2 0 a b s1 s2 0 0 (fun _ => 0)), false, 87, (ns + 6))) rfl ?_
  refine go_n 12 (fr' := (559, [(0, .ref 1000000), (1, .ref 0), (2, .ref 49), (3, .ref 85), (4, .int 2), (5, .int 1)], [.int (xs 4), .int (xs 3), .ref 49], (ah_w S z f1 f2 f3 g1 g2 0 a b s1 s2 0 0 (fun _ => 0)), false, 87, (ns + 6))) rfl ?_
  refine go_callS (q := 64) (M1 := an_X10_law) rfl rfl (by decide) rfl ⟨_, rfl⟩ trivial (pl_law_2_3_law h1 h2) ?_
  refine go_eq (fr' := (562, [(0, .ref 1000000), (1, .ref 0), (2, .ref 49), (3, .ref 85), (4, .int 2), (5, .int 1)], [.int 0], (ah_w S z f1 f2 f3 g1 g2 0 a b s1 s2 0 1 (fun _ => 0)), false, 87, (ns + 6))) rfl ?_
  refine go_n 2 (fr' := (565, [(0, .ref 1000000), (1, .ref 0), (2, .ref 49), (3, .ref 85), (4, .int 2), (5, .int 1), (6, .int 0)], [.ref 49], (ah_w S z f1 f2 f3 g1 g2 0 a b s1 s2 0 1 (fun _ => 0)), false, 87, (ns + 6))) rfl ?_
  refine go_callS (q := 52) (M1 := an_X10_thrown) rfl rfl (by decide) rfl ⟨_, rfl⟩ trivial (pl_law_2_5_thrown h1 h2) ?_
  refine go_eq (fr' := (568, [(0, .ref 1000000), (1, .ref 0), (2, .ref 49), (3, .ref 85), (4, .int 2), (5, .int 1), (6, .int 0)], [.int 1], (ah_w S z f1 f2 f3 g1 g2 0 a b s1 s2 0 1 (fun _ => 0)), false, 87, (ns + 6))) rfl ?_
  refine go_n 5 (fr' := (1174, [(0, .ref 1000000), (1, .ref 0), (2, .ref 49), (3, .ref 85), (4, .int 2), (5, .int 1), (6, .int 0)], [], (ah_w S z f1 f2 f3 g1 g2 0 a b s1 s2 0 1 (fun _ => 0)), false, 87, (ns + 6))) rfl ?_
  exact pl_end2
set_option maxRecDepth 20000 in
theorem pl_law_3_2_law {xs : Nat → Int32} {S : Nat} {z : Int32} {f1 f2 f3 g1 g2 s1 s2 : Nat → Int32} {a b : Nat} (h1 : xs 3 = 0) (h2 : xs 4 < 0) : ai_Ev an_ms an_lk (8, xs) 35 11 30 [.ref 0, .int 0, .int (xs 4)] (ah_w S z f1 f2 f3 g1 g2 0 a b s1 s2 0 0 (fun _ => 0)) true (.inr ("java/lang/IllegalArgumentException", (ah_w S z f1 f2 f3 g1 g2 0 a b s1 s2 0 0 (fun _ => 0)), 1, 6)) := by
  refine ev_of (M := an_X9_law) rfl (Nat.le_of_ble_eq_true rfl) ?_
  refine go_n 4 (fr' := (6, [(0, .ref 0), (1, .int 0), (2, .int (xs 4))], [.ref 0, .int 0], (ah_w S z f1 f2 f3 g1 g2 0 a b s1 s2 0 0 (fun _ => 0)), true, 0, 0)) rfl ?_
  refine go_get rfl rfl rfl rfl ?_
  refine go_get rfl rfl rfl rfl ?_
  refine go_n 2 (fr' := (16, [(0, .ref 0), (1, .int 0), (2, .int (xs 4))], [.int (xs 4)], (ah_w S z f1 f2 f3 g1 g2 0 a b s1 s2 0 0 (fun _ => 0)), true, 0, 0)) rfl ?_
  refine go_if_lt (t := 25) rfl (fun q1 => ?_) (fun q1 => absurd h2 q1)
  exact go_th (i := .new 105) (tg := []) rfl rfl
set_option maxRecDepth 20000 in
theorem pl_law_3_1_law {xs : Nat → Int32} {S : Nat} {z : Int32} {f1 f2 f3 g1 g2 s1 s2 : Nat → Int32} {a b : Nat} (h1 : xs 3 = 0) (h2 : xs 4 < 0) : ai_Ev an_ms an_lk (8, xs) 35 12 86 [.ref 0, .int 0, .int (xs 4), .ref 85] (ah_w S z f1 f2 f3 g1 g2 0 a b s1 s2 0 0 (fun _ => 0)) true (.inl (some (.int 1), (ah_w S z f1 f2 f3 g1 g2 0 a b s1 s2 0 0 (fun _ => 0)), false, 1, 6)) := by
  refine ev_of (M := an_L_law) rfl (Nat.le_of_ble_eq_true rfl) ?_
  refine go_n 5 (fr' := (5, [(0, .ref 0), (1, .int 0), (2, .int (xs 4)), (3, .ref 85)], [.int (xs 4), .int 0, .ref 0, .int 0, .ref 85], (ah_w S z f1 f2 f3 g1 g2 0 a b s1 s2 0 0 (fun _ => 0)), true, 0, 0)) rfl ?_
  exact go_cat (fr := (5, [(0, .ref 0), (1, .int 0), (2, .int (xs 4)), (3, .ref 85)], [.int (xs 4), .int 0, .ref 0, .int 0, .ref 85], (ah_w S z f1 f2 f3 g1 g2 0 a b s1 s2 0 0 (fun _ => 0)), true, 0, 0)) (i := .invokevirtual 29) (tg := []) (q := 30) (As := [.ref 0, .int 0, .int (xs 4)]) (rest := [.int 0, .ref 85]) (M1 := an_X9_law) rfl rfl (by decide) rfl ⟨_, rfl⟩ trivial (pl_law_3_2_law h1 h2) (st := 0) (en := 10) (hp := 13) (ix := 23) rfl (Nat.le_of_ble_eq_true rfl) (Nat.le_of_ble_eq_true rfl) rfl
set_option maxRecDepth 20000 in
theorem pl_law_3_4_fail {xs : Nat → Int32} {S : Nat} {z : Int32} {f1 f2 f3 g1 g2 s1 s2 : Nat → Int32} {a b : Nat} (h1 : xs 3 = 0) (h2 : xs 4 < 0) : ai_Ev an_ms an_lk (8, xs) 35 11 53 [.ref 49] (ah_w S z f1 f2 f3 g1 g2 0 a b s1 s2 0 0 (fun _ => 0)) false (.inl (some (.int 0), (ah_w S z f1 f2 f3 g1 g2 0 a b s1 s2 0 1 (fun _ => 0)), false, 0, 0)) := by
  refine ev_of (M := an_X10_fail) rfl (Nat.le_of_ble_eq_true rfl) ?_
  refine go_n 2 (fr' := (2, [(0, .ref 49)], [.int 1, .ref 49], (ah_w S z f1 f2 f3 g1 g2 0 a b s1 s2 0 0 (fun _ => 0)), false, 0, 0)) rfl ?_
  refine go_put rfl rfl rfl (Nat.le_of_ble_eq_true rfl) rfl ?_
  refine go_n 1 (fr' := (6, [(0, .ref 49)], [.int 0], (ah_w S z f1 f2 f3 g1 g2 0 a b s1 s2 0 1 (fun _ => 0)), false, 0, 0)) rfl ?_
  refine go_rt (i := .ireturn) (tg := []) rfl ?_
  rfl
set_option maxRecDepth 20000 in
theorem pl_law_3_3_law {xs : Nat → Int32} {S : Nat} {z : Int32} {f1 f2 f3 g1 g2 s1 s2 : Nat → Int32} {a b : Nat} (h1 : xs 3 = 0) (h2 : xs 4 < 0) : ai_Ev an_ms an_lk (8, xs) 35 12 64 [.ref 49, .int 0, .int (xs 4)] (ah_w S z f1 f2 f3 g1 g2 0 a b s1 s2 0 0 (fun _ => 0)) false (.inl (some (.int 0), (ah_w S z f1 f2 f3 g1 g2 0 a b s1 s2 0 1 (fun _ => 0)), false, 0, 0)) := by
  refine ev_of (M := an_X10_law) rfl (Nat.le_of_ble_eq_true rfl) ?_
  refine go_n 2 (fr' := (2, [(0, .ref 49), (1, .int 0), (2, .int (xs 4))], [.int 0, .ref 49], (ah_w S z f1 f2 f3 g1 g2 0 a b s1 s2 0 0 (fun _ => 0)), false, 0, 0)) rfl ?_
  refine go_put rfl rfl rfl (Nat.le_of_ble_eq_true rfl) rfl ?_
  refine go_n 4 (fr' := (11, [(0, .ref 49), (1, .int 0), (2, .int (xs 4))], [.ref 49, .int 0], (ah_w S z f1 f2 f3 g1 g2 0 a b s1 s2 0 0 (fun _ => 0)), false, 0, 0)) rfl ?_
  refine go_get rfl rfl rfl rfl ?_
  refine go_n 2 (fr' := (18, [(0, .ref 49), (1, .int 0), (2, .int (xs 4))], [.int (xs 4)], (ah_w S z f1 f2 f3 g1 g2 0 a b s1 s2 0 0 (fun _ => 0)), false, 0, 0)) rfl ?_
  refine go_if_lt (t := 27) rfl (fun q1 => ?_) (fun q1 => absurd h2 q1)
  refine go_n 1 (fr' := (28, [(0, .ref 49), (1, .int 0), (2, .int (xs 4))], [.ref 49], (ah_w S z f1 f2 f3 g1 g2 0 a b s1 s2 0 0 (fun _ => 0)), false, 0, 0)) rfl ?_
  refine go_callS (q := 53) (M1 := an_X10_fail) rfl rfl (by decide) rfl ⟨_, rfl⟩ trivial (pl_law_3_4_fail h1 h2) ?_
  refine go_eq (fr' := (31, [(0, .ref 49), (1, .int 0), (2, .int (xs 4))], [.int 0], (ah_w S z f1 f2 f3 g1 g2 0 a b s1 s2 0 1 (fun _ => 0)), false, 0, 0)) rfl ?_
  refine go_rt (i := .ireturn) (tg := []) rfl ?_
  rfl
set_option maxRecDepth 20000 in
theorem pl_law_3_5_thrown {xs : Nat → Int32} {S : Nat} {z : Int32} {f1 f2 f3 g1 g2 s1 s2 : Nat → Int32} {a b : Nat} (h1 : xs 3 = 0) (h2 : xs 4 < 0) : ai_Ev an_ms an_lk (8, xs) 35 12 52 [.ref 49] (ah_w S z f1 f2 f3 g1 g2 0 a b s1 s2 0 1 (fun _ => 0)) false (.inl (some (.int 1), (ah_w S z f1 f2 f3 g1 g2 0 a b s1 s2 0 1 (fun _ => 0)), false, 0, 0)) := by
  refine ev_of (M := an_X10_thrown) rfl (Nat.le_of_ble_eq_true rfl) ?_
  refine go_n 1 (fr' := (1, [(0, .ref 49)], [.ref 49], (ah_w S z f1 f2 f3 g1 g2 0 a b s1 s2 0 1 (fun _ => 0)), false, 0, 0)) rfl ?_
  refine go_get rfl rfl rfl rfl ?_
  refine go_rt (i := .ireturn) (tg := []) rfl ?_
  rfl
set_option maxRecDepth 20000 in
theorem pl_law_3 {xs : Nat → Int32} {S : Nat} {z : Int32} {f1 f2 f3 g1 g2 s1 s2 : Nat → Int32} {a b : Nat} {ns : Nat} (h1 : xs 3 = 0) (h2 : xs 4 < 0) : pl_ok xs (527, [(0, .ref 1000000), (1, .ref 0), (2, .ref 49), (3, .ref 85), (4, .int 2)], [], (ah_w S z f1 f2 f3 g1 g2 0 a b s1 s2 0 0 (fun _ => 0)), true, 86, ns) ns := by
  refine pl_mk (h' := (ah_w S z f1 f2 f3 g1 g2 0 a b s1 s2 0 1 (fun _ => 0))) (ex' := false) (nc := 87) (ns' := (ns + 6)) ?_ (by omega) (by omega)
  refine go_n 6 (fr' := (534, [(0, .ref 1000000), (1, .ref 0), (2, .ref 49), (3, .ref 85), (4, .int 2)], [.int (xs 3), .ref 0], (ah_w S z f1 f2 f3 g1 g2 0 a b s1 s2 0 0 (fun _ => 0)), true, 86, ns)) rfl ?_
  rw [h1]
  refine go_n 6 (fr' := (541, [(0, .ref 1000000), (1, .ref 0), (2, .ref 49), (3, .ref 85), (4, .int 2)], [.ref 85, .int (xs 4), .int 0, .ref 0], (ah_w S z f1 f2 f3 g1 g2 0 a b s1 s2 0 0 (fun _ => 0)), true, 86, ns)) rfl ?_
  refine go_call (q := 86) (M1 := an_L_law) rfl rfl (by decide) rfl trivial trivial (pl_law_3_1_law h1 h2) ?_
  refine go_eq (fr' := (544, [(0, .ref 1000000), (1, .ref 0), (2, .ref 49), (3, .ref 85), (4, .int 2)], [.int 1], (ah_w S z f1 f2 f3 g1 g2 0 a b s1 s2 0 0 (fun _ => 0)), false, 87, (ns + 6))) rfl ?_
  refine go_n 7 (fr' := (553, [(0, .ref 1000000), (1, .ref 0), (2, .ref 49), (3, .ref 85), (4, .int 2), (5, .int 1)], [.int (xs 3), .ref 49], (ah_w S z f1 f2 f3 g1 g2 0 a b s1 s2 0 0 (fun _ => 0)), false, 87, (ns + 6))) rfl ?_
  rw [h1]
  refine go_n 5 (fr' := (559, [(0, .ref 1000000), (1, .ref 0), (2, .ref 49), (3, .ref 85), (4, .int 2), (5, .int 1)], [.int (xs 4), .int 0, .ref 49], (ah_w S z f1 f2 f3 g1 g2 0 a b s1 s2 0 0 (fun _ => 0)), false, 87, (ns + 6))) rfl ?_
  refine go_callS (q := 64) (M1 := an_X10_law) rfl rfl (by decide) rfl ⟨_, rfl⟩ trivial (pl_law_3_3_law h1 h2) ?_
  refine go_eq (fr' := (562, [(0, .ref 1000000), (1, .ref 0), (2, .ref 49), (3, .ref 85), (4, .int 2), (5, .int 1)], [.int 0], (ah_w S z f1 f2 f3 g1 g2 0 a b s1 s2 0 1 (fun _ => 0)), false, 87, (ns + 6))) rfl ?_
  refine go_n 2 (fr' := (565, [(0, .ref 1000000), (1, .ref 0), (2, .ref 49), (3, .ref 85), (4, .int 2), (5, .int 1), (6, .int 0)], [.ref 49], (ah_w S z f1 f2 f3 g1 g2 0 a b s1 s2 0 1 (fun _ => 0)), false, 87, (ns + 6))) rfl ?_
  refine go_callS (q := 52) (M1 := an_X10_thrown) rfl rfl (by decide) rfl ⟨_, rfl⟩ trivial (pl_law_3_5_thrown h1 h2) ?_
  refine go_eq (fr' := (568, [(0, .ref 1000000), (1, .ref 0), (2, .ref 49), (3, .ref 85), (4, .int 2), (5, .int 1), (6, .int 0)], [.int 1], (ah_w S z f1 f2 f3 g1 g2 0 a b s1 s2 0 1 (fun _ => 0)), false, 87, (ns + 6))) rfl ?_
  refine go_n 5 (fr' := (1174, [(0, .ref 1000000), (1, .ref 0), (2, .ref 49), (3, .ref 85), (4, .int 2), (5, .int 1), (6, .int 0)], [], (ah_w S z f1 f2 f3 g1 g2 0 a b s1 s2 0 1 (fun _ => 0)), false, 87, (ns + 6))) rfl ?_
  exact pl_end2
set_option maxRecDepth 20000 in
theorem pl_law_4_2_law {xs : Nat → Int32} {S : Nat} {z : Int32} {f1 f2 f3 g1 g2 s1 s2 : Nat → Int32} {a b : Nat} (h1 : xs 3 = 0) (h2 : ¬ xs 4 < 0) (h3 : 100 < xs 4) : ai_Ev an_ms an_lk (8, xs) 35 11 30 [.ref 0, .int 0, .int (xs 4)] (ah_w S z f1 f2 f3 g1 g2 0 a b s1 s2 0 0 (fun _ => 0)) true (.inr ("java/lang/IllegalArgumentException", (ah_w S z f1 f2 f3 g1 g2 0 a b s1 s2 0 0 (fun _ => 0)), 1, 6)) := by
  refine ev_of (M := an_X9_law) rfl (Nat.le_of_ble_eq_true rfl) ?_
  refine go_n 4 (fr' := (6, [(0, .ref 0), (1, .int 0), (2, .int (xs 4))], [.ref 0, .int 0], (ah_w S z f1 f2 f3 g1 g2 0 a b s1 s2 0 0 (fun _ => 0)), true, 0, 0)) rfl ?_
  refine go_get rfl rfl rfl rfl ?_
  refine go_get rfl rfl rfl rfl ?_
  refine go_n 2 (fr' := (16, [(0, .ref 0), (1, .int 0), (2, .int (xs 4))], [.int (xs 4)], (ah_w S z f1 f2 f3 g1 g2 0 a b s1 s2 0 0 (fun _ => 0)), true, 0, 0)) rfl ?_
  refine go_if_lt (t := 25) rfl (fun q1 => absurd q1 h2) (fun q1 => ?_)
  refine go_n 2 (fr' := (22, [(0, .ref 0), (1, .int 0), (2, .int (xs 4))], [.int 100, .int (xs 4)], (ah_w S z f1 f2 f3 g1 g2 0 a b s1 s2 0 0 (fun _ => 0)), true, 0, 0)) rfl ?_
  refine go_ic_le (t := 35) rfl (fun q2 => absurd q2 (Int32.not_le.mpr h3)) (fun q2 => ?_)
  exact go_th (i := .new 105) (tg := []) rfl rfl
set_option maxRecDepth 20000 in
theorem pl_law_4_1_law {xs : Nat → Int32} {S : Nat} {z : Int32} {f1 f2 f3 g1 g2 s1 s2 : Nat → Int32} {a b : Nat} (h1 : xs 3 = 0) (h2 : ¬ xs 4 < 0) (h3 : 100 < xs 4) : ai_Ev an_ms an_lk (8, xs) 35 12 86 [.ref 0, .int 0, .int (xs 4), .ref 85] (ah_w S z f1 f2 f3 g1 g2 0 a b s1 s2 0 0 (fun _ => 0)) true (.inl (some (.int 1), (ah_w S z f1 f2 f3 g1 g2 0 a b s1 s2 0 0 (fun _ => 0)), false, 1, 6)) := by
  refine ev_of (M := an_L_law) rfl (Nat.le_of_ble_eq_true rfl) ?_
  refine go_n 5 (fr' := (5, [(0, .ref 0), (1, .int 0), (2, .int (xs 4)), (3, .ref 85)], [.int (xs 4), .int 0, .ref 0, .int 0, .ref 85], (ah_w S z f1 f2 f3 g1 g2 0 a b s1 s2 0 0 (fun _ => 0)), true, 0, 0)) rfl ?_
  exact go_cat (fr := (5, [(0, .ref 0), (1, .int 0), (2, .int (xs 4)), (3, .ref 85)], [.int (xs 4), .int 0, .ref 0, .int 0, .ref 85], (ah_w S z f1 f2 f3 g1 g2 0 a b s1 s2 0 0 (fun _ => 0)), true, 0, 0)) (i := .invokevirtual 29) (tg := []) (q := 30) (As := [.ref 0, .int 0, .int (xs 4)]) (rest := [.int 0, .ref 85]) (M1 := an_X9_law) rfl rfl (by decide) rfl ⟨_, rfl⟩ trivial (pl_law_4_2_law h1 h2 h3) (st := 0) (en := 10) (hp := 13) (ix := 23) rfl (Nat.le_of_ble_eq_true rfl) (Nat.le_of_ble_eq_true rfl) rfl
set_option maxRecDepth 20000 in
theorem pl_law_4_4_fail {xs : Nat → Int32} {S : Nat} {z : Int32} {f1 f2 f3 g1 g2 s1 s2 : Nat → Int32} {a b : Nat} (h1 : xs 3 = 0) (h2 : ¬ xs 4 < 0) (h3 : 100 < xs 4) : ai_Ev an_ms an_lk (8, xs) 35 11 53 [.ref 49] (ah_w S z f1 f2 f3 g1 g2 0 a b s1 s2 0 0 (fun _ => 0)) false (.inl (some (.int 0), (ah_w S z f1 f2 f3 g1 g2 0 a b s1 s2 0 1 (fun _ => 0)), false, 0, 0)) := by
  refine ev_of (M := an_X10_fail) rfl (Nat.le_of_ble_eq_true rfl) ?_
  refine go_n 2 (fr' := (2, [(0, .ref 49)], [.int 1, .ref 49], (ah_w S z f1 f2 f3 g1 g2 0 a b s1 s2 0 0 (fun _ => 0)), false, 0, 0)) rfl ?_
  refine go_put rfl rfl rfl (Nat.le_of_ble_eq_true rfl) rfl ?_
  refine go_n 1 (fr' := (6, [(0, .ref 49)], [.int 0], (ah_w S z f1 f2 f3 g1 g2 0 a b s1 s2 0 1 (fun _ => 0)), false, 0, 0)) rfl ?_
  refine go_rt (i := .ireturn) (tg := []) rfl ?_
  rfl
set_option maxRecDepth 20000 in
theorem pl_law_4_3_law {xs : Nat → Int32} {S : Nat} {z : Int32} {f1 f2 f3 g1 g2 s1 s2 : Nat → Int32} {a b : Nat} (h1 : xs 3 = 0) (h2 : ¬ xs 4 < 0) (h3 : 100 < xs 4) : ai_Ev an_ms an_lk (8, xs) 35 12 64 [.ref 49, .int 0, .int (xs 4)] (ah_w S z f1 f2 f3 g1 g2 0 a b s1 s2 0 0 (fun _ => 0)) false (.inl (some (.int 0), (ah_w S z f1 f2 f3 g1 g2 0 a b s1 s2 0 1 (fun _ => 0)), false, 0, 0)) := by
  refine ev_of (M := an_X10_law) rfl (Nat.le_of_ble_eq_true rfl) ?_
  refine go_n 2 (fr' := (2, [(0, .ref 49), (1, .int 0), (2, .int (xs 4))], [.int 0, .ref 49], (ah_w S z f1 f2 f3 g1 g2 0 a b s1 s2 0 0 (fun _ => 0)), false, 0, 0)) rfl ?_
  refine go_put rfl rfl rfl (Nat.le_of_ble_eq_true rfl) rfl ?_
  refine go_n 4 (fr' := (11, [(0, .ref 49), (1, .int 0), (2, .int (xs 4))], [.ref 49, .int 0], (ah_w S z f1 f2 f3 g1 g2 0 a b s1 s2 0 0 (fun _ => 0)), false, 0, 0)) rfl ?_
  refine go_get rfl rfl rfl rfl ?_
  refine go_n 2 (fr' := (18, [(0, .ref 49), (1, .int 0), (2, .int (xs 4))], [.int (xs 4)], (ah_w S z f1 f2 f3 g1 g2 0 a b s1 s2 0 0 (fun _ => 0)), false, 0, 0)) rfl ?_
  refine go_if_lt (t := 27) rfl (fun q1 => absurd q1 h2) (fun q1 => ?_)
  refine go_n 2 (fr' := (24, [(0, .ref 49), (1, .int 0), (2, .int (xs 4))], [.int 100, .int (xs 4)], (ah_w S z f1 f2 f3 g1 g2 0 a b s1 s2 0 0 (fun _ => 0)), false, 0, 0)) rfl ?_
  refine go_ic_le (t := 32) rfl (fun q2 => absurd q2 (Int32.not_le.mpr h3)) (fun q2 => ?_)
  refine go_n 1 (fr' := (28, [(0, .ref 49), (1, .int 0), (2, .int (xs 4))], [.ref 49], (ah_w S z f1 f2 f3 g1 g2 0 a b s1 s2 0 0 (fun _ => 0)), false, 0, 0)) rfl ?_
  refine go_callS (q := 53) (M1 := an_X10_fail) rfl rfl (by decide) rfl ⟨_, rfl⟩ trivial (pl_law_4_4_fail h1 h2 h3) ?_
  refine go_eq (fr' := (31, [(0, .ref 49), (1, .int 0), (2, .int (xs 4))], [.int 0], (ah_w S z f1 f2 f3 g1 g2 0 a b s1 s2 0 1 (fun _ => 0)), false, 0, 0)) rfl ?_
  refine go_rt (i := .ireturn) (tg := []) rfl ?_
  rfl
set_option maxRecDepth 20000 in
theorem pl_law_4_5_thrown {xs : Nat → Int32} {S : Nat} {z : Int32} {f1 f2 f3 g1 g2 s1 s2 : Nat → Int32} {a b : Nat} (h1 : xs 3 = 0) (h2 : ¬ xs 4 < 0) (h3 : 100 < xs 4) : ai_Ev an_ms an_lk (8, xs) 35 12 52 [.ref 49] (ah_w S z f1 f2 f3 g1 g2 0 a b s1 s2 0 1 (fun _ => 0)) false (.inl (some (.int 1), (ah_w S z f1 f2 f3 g1 g2 0 a b s1 s2 0 1 (fun _ => 0)), false, 0, 0)) := by
  refine ev_of (M := an_X10_thrown) rfl (Nat.le_of_ble_eq_true rfl) ?_
  refine go_n 1 (fr' := (1, [(0, .ref 49)], [.ref 49], (ah_w S z f1 f2 f3 g1 g2 0 a b s1 s2 0 1 (fun _ => 0)), false, 0, 0)) rfl ?_
  refine go_get rfl rfl rfl rfl ?_
  refine go_rt (i := .ireturn) (tg := []) rfl ?_
  rfl
set_option maxRecDepth 20000 in
theorem pl_law_4 {xs : Nat → Int32} {S : Nat} {z : Int32} {f1 f2 f3 g1 g2 s1 s2 : Nat → Int32} {a b : Nat} {ns : Nat} (h1 : xs 3 = 0) (h2 : ¬ xs 4 < 0) (h3 : 100 < xs 4) : pl_ok xs (527, [(0, .ref 1000000), (1, .ref 0), (2, .ref 49), (3, .ref 85), (4, .int 2)], [], (ah_w S z f1 f2 f3 g1 g2 0 a b s1 s2 0 0 (fun _ => 0)), true, 86, ns) ns := by
  refine pl_mk (h' := (ah_w S z f1 f2 f3 g1 g2 0 a b s1 s2 0 1 (fun _ => 0))) (ex' := false) (nc := 87) (ns' := (ns + 6)) ?_ (by omega) (by omega)
  refine go_n 6 (fr' := (534, [(0, .ref 1000000), (1, .ref 0), (2, .ref 49), (3, .ref 85), (4, .int 2)], [.int (xs 3), .ref 0], (ah_w S z f1 f2 f3 g1 g2 0 a b s1 s2 0 0 (fun _ => 0)), true, 86, ns)) rfl ?_
  rw [h1]
  refine go_n 6 (fr' := (541, [(0, .ref 1000000), (1, .ref 0), (2, .ref 49), (3, .ref 85), (4, .int 2)], [.ref 85, .int (xs 4), .int 0, .ref 0], (ah_w S z f1 f2 f3 g1 g2 0 a b s1 s2 0 0 (fun _ => 0)), true, 86, ns)) rfl ?_
  refine go_call (q := 86) (M1 := an_L_law) rfl rfl (by decide) rfl trivial trivial (pl_law_4_1_law h1 h2 h3) ?_
  refine go_eq (fr' := (544, [(0, .ref 1000000), (1, .ref 0), (2, .ref 49), (3, .ref 85), (4, .int 2)], [.int 1], (ah_w S z f1 f2 f3 g1 g2 0 a b s1 s2 0 0 (fun _ => 0)), false, 87, (ns + 6))) rfl ?_
  refine go_n 7 (fr' := (553, [(0, .ref 1000000), (1, .ref 0), (2, .ref 49), (3, .ref 85), (4, .int 2), (5, .int 1)], [.int (xs 3), .ref 49], (ah_w S z f1 f2 f3 g1 g2 0 a b s1 s2 0 0 (fun _ => 0)), false, 87, (ns + 6))) rfl ?_
  rw [h1]
  refine go_n 5 (fr' := (559, [(0, .ref 1000000), (1, .ref 0), (2, .ref 49), (3, .ref 85), (4, .int 2), (5, .int 1)], [.int (xs 4), .int 0, .ref 49], (ah_w S z f1 f2 f3 g1 g2 0 a b s1 s2 0 0 (fun _ => 0)), false, 87, (ns + 6))) rfl ?_
  refine go_callS (q := 64) (M1 := an_X10_law) rfl rfl (by decide) rfl ⟨_, rfl⟩ trivial (pl_law_4_3_law h1 h2 h3) ?_
  refine go_eq (fr' := (562, [(0, .ref 1000000), (1, .ref 0), (2, .ref 49), (3, .ref 85), (4, .int 2), (5, .int 1)], [.int 0], (ah_w S z f1 f2 f3 g1 g2 0 a b s1 s2 0 1 (fun _ => 0)), false, 87, (ns + 6))) rfl ?_
  refine go_n 2 (fr' := (565, [(0, .ref 1000000), (1, .ref 0), (2, .ref 49), (3, .ref 85), (4, .int 2), (5, .int 1), (6, .int 0)], [.ref 49], (ah_w S z f1 f2 f3 g1 g2 0 a b s1 s2 0 1 (fun _ => 0)), false, 87, (ns + 6))) rfl ?_
  refine go_callS (q := 52) (M1 := an_X10_thrown) rfl rfl (by decide) rfl ⟨_, rfl⟩ trivial (pl_law_4_5_thrown h1 h2 h3) ?_
  refine go_eq (fr' := (568, [(0, .ref 1000000), (1, .ref 0), (2, .ref 49), (3, .ref 85), (4, .int 2), (5, .int 1), (6, .int 0)], [.int 1], (ah_w S z f1 f2 f3 g1 g2 0 a b s1 s2 0 1 (fun _ => 0)), false, 87, (ns + 6))) rfl ?_
  refine go_n 5 (fr' := (1174, [(0, .ref 1000000), (1, .ref 0), (2, .ref 49), (3, .ref 85), (4, .int 2), (5, .int 1), (6, .int 0)], [], (ah_w S z f1 f2 f3 g1 g2 0 a b s1 s2 0 1 (fun _ => 0)), false, 87, (ns + 6))) rfl ?_
  exact pl_end2
