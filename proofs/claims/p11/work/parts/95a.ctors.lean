/-! the constructors -/
set_option maxRecDepth 10000 in
theorem pv_X1_init {X : Nat × (Nat → Int32)} {c0 c1 c2 c3 c4 c5 c6 c7 c8 c9 c10 c11 c12 : ai_C} (d : Nat) : ai_Ev an_ms an_lk X 35 (d + 1) 13 [.ref 13] [c0, c1, c2, c3, c4, c5, c6, c7, c8, c9, c10, c11, c12, .inr (1, [.null, .null, .null, .null, .null, .null, .null, .null, .int 0])] true (.inl (none, [c0, c1, c2, c3, c4, c5, c6, c7, c8, c9, c10, c11, c12, .inr (1, [.ref 14, .ref 15, .ref 16, .ref 17, .ref 18, .ref 19, .ref 20, .ref 21, .int 0]), .inl (0, 8, .inl (fun _ => 0)), .inl (0, 8, .inl (fun _ => 0)), .inl (0, 8, .inl (fun _ => 0)), .inl (0, 8, .inl (fun _ => 0)), .inl (1, 8, .inl (fun _ => 0)), .inl (0, 8, .inl (fun _ => 0)), .inl (0, 8, .inl (fun _ => 0)), .inl (0, 8, .inl (fun _ => 0))], true, 8, 64)) := by
  refine ev_of (M := an_X1_init) rfl (Nat.le_of_ble_eq_true rfl) ?_
  refine go_n 4 (fr' := (7, [(0, .ref 13)], [.int 8, .ref 13], [c0, c1, c2, c3, c4, c5, c6, c7, c8, c9, c10, c11, c12, .inr (1, [.null, .null, .null, .null, .null, .null, .null, .null, .int 0])], true, 0, 0)) rfl ?_
  refine go_nwa (N := 8) rfl rfl (by decide) rfl (Nat.le_of_ble_eq_true rfl) ?_
  refine go_put rfl rfl rfl (Nat.le_of_ble_eq_true rfl) rfl ?_
  refine go_n 2 (fr' := (15, [(0, .ref 13)], [.int 8, .ref 13], [c0, c1, c2, c3, c4, c5, c6, c7, c8, c9, c10, c11, c12, .inr (1, [.ref 14, .null, .null, .null, .null, .null, .null, .null, .int 0]), .inl (0, 8, .inl (fun _ => 0))], true, 1, 8)) rfl ?_
  refine go_nwa (N := 8) rfl rfl (by decide) rfl (Nat.le_of_ble_eq_true rfl) ?_
  refine go_put rfl rfl rfl (Nat.le_of_ble_eq_true rfl) rfl ?_
  refine go_n 2 (fr' := (23, [(0, .ref 13)], [.int 8, .ref 13], [c0, c1, c2, c3, c4, c5, c6, c7, c8, c9, c10, c11, c12, .inr (1, [.ref 14, .ref 15, .null, .null, .null, .null, .null, .null, .int 0]), .inl (0, 8, .inl (fun _ => 0)), .inl (0, 8, .inl (fun _ => 0))], true, 2, 16)) rfl ?_
  refine go_nwa (N := 8) rfl rfl (by decide) rfl (Nat.le_of_ble_eq_true rfl) ?_
  refine go_put rfl rfl rfl (Nat.le_of_ble_eq_true rfl) rfl ?_
  refine go_n 2 (fr' := (31, [(0, .ref 13)], [.int 8, .ref 13], [c0, c1, c2, c3, c4, c5, c6, c7, c8, c9, c10, c11, c12, .inr (1, [.ref 14, .ref 15, .ref 16, .null, .null, .null, .null, .null, .int 0]), .inl (0, 8, .inl (fun _ => 0)), .inl (0, 8, .inl (fun _ => 0)), .inl (0, 8, .inl (fun _ => 0))], true, 3, 24)) rfl ?_
  refine go_nwa (N := 8) rfl rfl (by decide) rfl (Nat.le_of_ble_eq_true rfl) ?_
  refine go_put rfl rfl rfl (Nat.le_of_ble_eq_true rfl) rfl ?_
  refine go_n 2 (fr' := (39, [(0, .ref 13)], [.int 8, .ref 13], [c0, c1, c2, c3, c4, c5, c6, c7, c8, c9, c10, c11, c12, .inr (1, [.ref 14, .ref 15, .ref 16, .ref 17, .null, .null, .null, .null, .int 0]), .inl (0, 8, .inl (fun _ => 0)), .inl (0, 8, .inl (fun _ => 0)), .inl (0, 8, .inl (fun _ => 0)), .inl (0, 8, .inl (fun _ => 0))], true, 4, 32)) rfl ?_
  refine go_nwa (N := 8) rfl rfl (by decide) rfl (Nat.le_of_ble_eq_true rfl) ?_
  refine go_put rfl rfl rfl (Nat.le_of_ble_eq_true rfl) rfl ?_
  refine go_n 2 (fr' := (47, [(0, .ref 13)], [.int 8, .ref 13], [c0, c1, c2, c3, c4, c5, c6, c7, c8, c9, c10, c11, c12, .inr (1, [.ref 14, .ref 15, .ref 16, .ref 17, .ref 18, .null, .null, .null, .int 0]), .inl (0, 8, .inl (fun _ => 0)), .inl (0, 8, .inl (fun _ => 0)), .inl (0, 8, .inl (fun _ => 0)), .inl (0, 8, .inl (fun _ => 0)), .inl (1, 8, .inl (fun _ => 0))], true, 5, 40)) rfl ?_
  refine go_nwa (N := 8) rfl rfl (by decide) rfl (Nat.le_of_ble_eq_true rfl) ?_
  refine go_put rfl rfl rfl (Nat.le_of_ble_eq_true rfl) rfl ?_
  refine go_n 2 (fr' := (55, [(0, .ref 13)], [.int 8, .ref 13], [c0, c1, c2, c3, c4, c5, c6, c7, c8, c9, c10, c11, c12, .inr (1, [.ref 14, .ref 15, .ref 16, .ref 17, .ref 18, .ref 19, .null, .null, .int 0]), .inl (0, 8, .inl (fun _ => 0)), .inl (0, 8, .inl (fun _ => 0)), .inl (0, 8, .inl (fun _ => 0)), .inl (0, 8, .inl (fun _ => 0)), .inl (1, 8, .inl (fun _ => 0)), .inl (0, 8, .inl (fun _ => 0))], true, 6, 48)) rfl ?_
  refine go_nwa (N := 8) rfl rfl (by decide) rfl (Nat.le_of_ble_eq_true rfl) ?_
  refine go_put rfl rfl rfl (Nat.le_of_ble_eq_true rfl) rfl ?_
  refine go_n 2 (fr' := (63, [(0, .ref 13)], [.int 8, .ref 13], [c0, c1, c2, c3, c4, c5, c6, c7, c8, c9, c10, c11, c12, .inr (1, [.ref 14, .ref 15, .ref 16, .ref 17, .ref 18, .ref 19, .ref 20, .null, .int 0]), .inl (0, 8, .inl (fun _ => 0)), .inl (0, 8, .inl (fun _ => 0)), .inl (0, 8, .inl (fun _ => 0)), .inl (0, 8, .inl (fun _ => 0)), .inl (1, 8, .inl (fun _ => 0)), .inl (0, 8, .inl (fun _ => 0)), .inl (0, 8, .inl (fun _ => 0))], true, 7, 56)) rfl ?_
  refine go_nwa (N := 8) rfl rfl (by decide) rfl (Nat.le_of_ble_eq_true rfl) ?_
  refine go_put rfl rfl rfl (Nat.le_of_ble_eq_true rfl) rfl ?_
  refine go_rt (i := .return_) (tg := []) rfl ?_
  rfl
set_option maxRecDepth 10000 in
theorem pv_X6_init {X : Nat × (Nat → Int32)} {c0 c1 c2 c3 c4 c5 c6 c7 c8 c9 c10 c11 c12 c13 c14 c15 c16 c17 c18 c19 c20 c21 : ai_C} (d : Nat) : ai_Ev an_ms an_lk X 35 (d + 1) 54 [.ref 22] [c0, c1, c2, c3, c4, c5, c6, c7, c8, c9, c10, c11, c12, c13, c14, c15, c16, c17, c18, c19, c20, c21, .inr (6, [.null, .int 0])] true (.inl (none, [c0, c1, c2, c3, c4, c5, c6, c7, c8, c9, c10, c11, c12, c13, c14, c15, c16, c17, c18, c19, c20, c21, .inr (6, [.ref 23, .int 0]), .inl (2, 400, .inl (fun _ => 0))], true, 1, 400)) := by
  refine ev_of (M := an_X6_init) rfl (Nat.le_of_ble_eq_true rfl) ?_
  refine go_n 4 (fr' := (8, [(0, .ref 22)], [.int 400, .ref 22], [c0, c1, c2, c3, c4, c5, c6, c7, c8, c9, c10, c11, c12, c13, c14, c15, c16, c17, c18, c19, c20, c21, .inr (6, [.null, .int 0])], true, 0, 0)) rfl ?_
  refine go_nwa (N := 400) rfl rfl (by decide) rfl (Nat.le_of_ble_eq_true rfl) ?_
  refine go_put rfl rfl rfl (Nat.le_of_ble_eq_true rfl) rfl ?_
  refine go_rt (i := .return_) (tg := []) rfl ?_
  rfl
set_option maxRecDepth 10000 in
theorem pv_X7_init {X : Nat × (Nat → Int32)} {c0 c1 c2 c3 c4 c5 c6 c7 c8 c9 c10 c11 c12 c13 c14 c15 c16 c17 c18 c19 c20 c21 c22 c23 c24 c25 : ai_C} (d : Nat) : ai_Ev an_ms an_lk X 35 (d + 1) 56 [.ref 26, .ref 23] [c0, c1, c2, c3, c4, c5, c6, c7, c8, c9, c10, c11, c12, c13, c14, c15, c16, c17, c18, c19, c20, c21, c22, c23, c24, c25, .inr (7, [.null, .null, .int 0, .null, .int 0, .int 0])] true (.inl (none, [c0, c1, c2, c3, c4, c5, c6, c7, c8, c9, c10, c11, c12, c13, c14, c15, c16, c17, c18, c19, c20, c21, c22, c23, c24, c25, .inr (7, [.ref 27, .ref 28, .int 0, .ref 23, .int 0, .int 0]), .inl (0, 401, .inl (fun _ => 0)), .inl (0, 401, .inl (fun _ => 0))], true, 2, 802)) := by
  refine ev_of (M := an_X7_init) rfl (Nat.le_of_ble_eq_true rfl) ?_
  refine go_n 4 (fr' := (8, [(0, .ref 26), (1, .ref 23)], [.int 401, .ref 26], [c0, c1, c2, c3, c4, c5, c6, c7, c8, c9, c10, c11, c12, c13, c14, c15, c16, c17, c18, c19, c20, c21, c22, c23, c24, c25, .inr (7, [.null, .null, .int 0, .null, .int 0, .int 0])], true, 0, 0)) rfl ?_
  refine go_nwa (N := 401) rfl rfl (by decide) rfl (Nat.le_of_ble_eq_true rfl) ?_
  refine go_put rfl rfl rfl (Nat.le_of_ble_eq_true rfl) rfl ?_
  refine go_n 2 (fr' := (17, [(0, .ref 26), (1, .ref 23)], [.int 401, .ref 26], [c0, c1, c2, c3, c4, c5, c6, c7, c8, c9, c10, c11, c12, c13, c14, c15, c16, c17, c18, c19, c20, c21, c22, c23, c24, c25, .inr (7, [.ref 27, .null, .int 0, .null, .int 0, .int 0]), .inl (0, 401, .inl (fun _ => 0))], true, 1, 401)) rfl ?_
  refine go_nwa (N := 401) rfl rfl (by decide) rfl (Nat.le_of_ble_eq_true rfl) ?_
  refine go_put rfl rfl rfl (Nat.le_of_ble_eq_true rfl) rfl ?_
  refine go_n 2 (fr' := (24, [(0, .ref 26), (1, .ref 23)], [.ref 23, .ref 26], [c0, c1, c2, c3, c4, c5, c6, c7, c8, c9, c10, c11, c12, c13, c14, c15, c16, c17, c18, c19, c20, c21, c22, c23, c24, c25, .inr (7, [.ref 27, .ref 28, .int 0, .null, .int 0, .int 0]), .inl (0, 401, .inl (fun _ => 0)), .inl (0, 401, .inl (fun _ => 0))], true, 2, 802)) rfl ?_
  refine go_put rfl rfl rfl (Nat.le_of_ble_eq_true rfl) rfl ?_
  refine go_rt (i := .return_) (tg := []) rfl ?_
  rfl
set_option maxRecDepth 10000 in
theorem pv_X5_init {X : Nat × (Nat → Int32)} {c0 c1 c2 c3 c4 c5 c6 c7 c8 c9 c10 c11 c12 c13 c14 c15 c16 c17 c18 c19 c20 c21 c22 c23 : ai_C} (d : Nat) : ai_Ev an_ms an_lk X 35 (d + 2) 40 [.ref 24, .ref 23] [c0, c1, c2, c3, c4, c5, c6, c7, c8, c9, c10, c11, c12, c13, c14, c15, c16, c17, c18, c19, c20, c21, c22, c23, .inr (5, [.null, .int 0, .int 0, .null, .int 0, .int 0])] true (.inl (none, [c0, c1, c2, c3, c4, c5, c6, c7, c8, c9, c10, c11, c12, c13, c14, c15, c16, c17, c18, c19, c20, c21, c22, c23, .inr (5, [.ref 25, .int 0, .int 0, .ref 26, .int 0, .int 0]), .inl (0, 400, .inl (fun _ => 0)), .inr (7, [.ref 27, .ref 28, .int 0, .ref 23, .int 0, .int 0]), .inl (0, 401, .inl (fun _ => 0)), .inl (0, 401, .inl (fun _ => 0))], true, 4, 1208)) := by
  refine ev_of (M := an_X5_init) rfl (Nat.le_of_ble_eq_true rfl) ?_
  refine go_n 4 (fr' := (8, [(0, .ref 24), (1, .ref 23)], [.int 400, .ref 24], [c0, c1, c2, c3, c4, c5, c6, c7, c8, c9, c10, c11, c12, c13, c14, c15, c16, c17, c18, c19, c20, c21, c22, c23, .inr (5, [.null, .int 0, .int 0, .null, .int 0, .int 0])], true, 0, 0)) rfl ?_
  refine go_nwa (N := 400) rfl rfl (by decide) rfl (Nat.le_of_ble_eq_true rfl) ?_
  refine go_put rfl rfl rfl (Nat.le_of_ble_eq_true rfl) rfl ?_
  refine go_n 4 (fr' := (19, [(0, .ref 24), (1, .ref 23)], [.ref 23, .ref 26, .ref 26, .ref 24], [c0, c1, c2, c3, c4, c5, c6, c7, c8, c9, c10, c11, c12, c13, c14, c15, c16, c17, c18, c19, c20, c21, c22, c23, .inr (5, [.ref 25, .int 0, .int 0, .null, .int 0, .int 0]), .inl (0, 400, .inl (fun _ => 0)), .inr (7, [.null, .null, .int 0, .null, .int 0, .int 0])], true, 2, 406)) rfl ?_
  refine go_call (q := 56) (M1 := an_X7_init) rfl rfl (by decide) rfl trivial trivial (pv_X7_init d) ?_
  refine go_eq (fr' := (22, [(0, .ref 24), (1, .ref 23)], [.ref 26, .ref 24], [c0, c1, c2, c3, c4, c5, c6, c7, c8, c9, c10, c11, c12, c13, c14, c15, c16, c17, c18, c19, c20, c21, c22, c23, .inr (5, [.ref 25, .int 0, .int 0, .null, .int 0, .int 0]), .inl (0, 400, .inl (fun _ => 0)), .inr (7, [.ref 27, .ref 28, .int 0, .ref 23, .int 0, .int 0]), .inl (0, 401, .inl (fun _ => 0)), .inl (0, 401, .inl (fun _ => 0))], true, 4, 1208)) rfl ?_
  refine go_put rfl rfl rfl (Nat.le_of_ble_eq_true rfl) rfl ?_
  refine go_rt (i := .return_) (tg := []) rfl ?_
  rfl
set_option maxRecDepth 10000 in
theorem pv_X4_init {X : Nat × (Nat → Int32)} {c0 c1 c2 c3 c4 c5 c6 c7 c8 c9 c10 c11 c12 c13 c14 c15 c16 c17 c18 c19 c20 c21 c22 c23 c24 c25 c26 c27 c28 : ai_C} (d : Nat) : ai_Ev an_ms an_lk X 35 (d + 1) 36 [.ref 29] [c0, c1, c2, c3, c4, c5, c6, c7, c8, c9, c10, c11, c12, c13, c14, c15, c16, c17, c18, c19, c20, c21, c22, c23, c24, c25, c26, c27, c28, .inr (4, [.null, .null, .null, .int 0])] true (.inl (none, [c0, c1, c2, c3, c4, c5, c6, c7, c8, c9, c10, c11, c12, c13, c14, c15, c16, c17, c18, c19, c20, c21, c22, c23, c24, c25, c26, c27, c28, .inr (4, [.ref 30, .ref 31, .ref 32, .int 0]), .inl (0, 2400, .inl (fun _ => 0)), .inl (0, 6, .inl (fun _ => 0)), .inl (0, 6, .inl (fun _ => 0))], true, 3, 2412)) := by
  refine ev_of (M := an_X4_init) rfl (Nat.le_of_ble_eq_true rfl) ?_
  refine go_n 4 (fr' := (8, [(0, .ref 29)], [.int 2400, .ref 29], [c0, c1, c2, c3, c4, c5, c6, c7, c8, c9, c10, c11, c12, c13, c14, c15, c16, c17, c18, c19, c20, c21, c22, c23, c24, c25, c26, c27, c28, .inr (4, [.null, .null, .null, .int 0])], true, 0, 0)) rfl ?_
  refine go_nwa (N := 2400) rfl rfl (by decide) rfl (Nat.le_of_ble_eq_true rfl) ?_
  refine go_put rfl rfl rfl (Nat.le_of_ble_eq_true rfl) rfl ?_
  refine go_n 2 (fr' := (16, [(0, .ref 29)], [.int 6, .ref 29], [c0, c1, c2, c3, c4, c5, c6, c7, c8, c9, c10, c11, c12, c13, c14, c15, c16, c17, c18, c19, c20, c21, c22, c23, c24, c25, c26, c27, c28, .inr (4, [.ref 30, .null, .null, .int 0]), .inl (0, 2400, .inl (fun _ => 0))], true, 1, 2400)) rfl ?_
  refine go_nwa (N := 6) rfl rfl (by decide) rfl (Nat.le_of_ble_eq_true rfl) ?_
  refine go_put rfl rfl rfl (Nat.le_of_ble_eq_true rfl) rfl ?_
  refine go_n 2 (fr' := (24, [(0, .ref 29)], [.int 6, .ref 29], [c0, c1, c2, c3, c4, c5, c6, c7, c8, c9, c10, c11, c12, c13, c14, c15, c16, c17, c18, c19, c20, c21, c22, c23, c24, c25, c26, c27, c28, .inr (4, [.ref 30, .ref 31, .null, .int 0]), .inl (0, 2400, .inl (fun _ => 0)), .inl (0, 6, .inl (fun _ => 0))], true, 2, 2406)) rfl ?_
  refine go_nwa (N := 6) rfl rfl (by decide) rfl (Nat.le_of_ble_eq_true rfl) ?_
  refine go_put rfl rfl rfl (Nat.le_of_ble_eq_true rfl) rfl ?_
  refine go_rt (i := .return_) (tg := []) rfl ?_
  rfl
set_option maxRecDepth 10000 in
theorem pv_X3_init {X : Nat × (Nat → Int32)} {c0 c1 c2 c3 c4 c5 c6 c7 c8 c9 c10 c11 c12 c13 c14 c15 c16 c17 c18 c19 c20 c21 c22 c23 c24 c25 c26 c27 c28 c29 c30 c31 c32 : ai_C} (d : Nat) : ai_Ev an_ms an_lk X 35 (d + 1) 29 [.ref 33] [c0, c1, c2, c3, c4, c5, c6, c7, c8, c9, c10, c11, c12, c13, c14, c15, c16, c17, c18, c19, c20, c21, c22, c23, c24, c25, c26, c27, c28, c29, c30, c31, c32, .inr (3, [.int 0, .int 0, .null, .null, .int 0])] true (.inl (none, [c0, c1, c2, c3, c4, c5, c6, c7, c8, c9, c10, c11, c12, c13, c14, c15, c16, c17, c18, c19, c20, c21, c22, c23, c24, c25, c26, c27, c28, c29, c30, c31, c32, .inr (3, [.int 0, .int 0, .ref 34, .ref 35, .int 0]), .inl (0, 8, .inl (fun _ => 0)), .inl (0, 20, .inl (fun _ => 0))], true, 2, 28)) := by
  refine ev_of (M := an_X3_init) rfl (Nat.le_of_ble_eq_true rfl) ?_
  refine go_n 4 (fr' := (7, [(0, .ref 33)], [.int 8, .ref 33], [c0, c1, c2, c3, c4, c5, c6, c7, c8, c9, c10, c11, c12, c13, c14, c15, c16, c17, c18, c19, c20, c21, c22, c23, c24, c25, c26, c27, c28, c29, c30, c31, c32, .inr (3, [.int 0, .int 0, .null, .null, .int 0])], true, 0, 0)) rfl ?_
  refine go_nwa (N := 8) rfl rfl (by decide) rfl (Nat.le_of_ble_eq_true rfl) ?_
  refine go_put rfl rfl rfl (Nat.le_of_ble_eq_true rfl) rfl ?_
  refine go_n 2 (fr' := (15, [(0, .ref 33)], [.int 20, .ref 33], [c0, c1, c2, c3, c4, c5, c6, c7, c8, c9, c10, c11, c12, c13, c14, c15, c16, c17, c18, c19, c20, c21, c22, c23, c24, c25, c26, c27, c28, c29, c30, c31, c32, .inr (3, [.int 0, .int 0, .ref 34, .null, .int 0]), .inl (0, 8, .inl (fun _ => 0))], true, 1, 8)) rfl ?_
  refine go_nwa (N := 20) rfl rfl (by decide) rfl (Nat.le_of_ble_eq_true rfl) ?_
  refine go_put rfl rfl rfl (Nat.le_of_ble_eq_true rfl) rfl ?_
  refine go_rt (i := .return_) (tg := []) rfl ?_
  rfl
set_option maxRecDepth 10000 in
theorem pv_X8_init {X : Nat × (Nat → Int32)} {c0 c2 c3 c4 c5 c6 c7 c8 c9 c10 c11 c12 c13 c14 c15 c16 c17 c18 c19 c20 c21 c22 c23 c24 c25 c26 c27 c28 c29 c30 c31 c32 c33 c34 c35 : ai_C} {z : Int32} {fs : List Value} {S : Nat} (hz : z = nI S) (hS : S ≤ 64) (d : Nat) : ai_Ev an_ms an_lk X 35 (d + 1) 68 [.ref 36, .ref 1] [c0, .inr (0, .int z :: fs), c2, c3, c4, c5, c6, c7, c8, c9, c10, c11, c12, c13, c14, c15, c16, c17, c18, c19, c20, c21, c22, c23, c24, c25, c26, c27, c28, c29, c30, c31, c32, c33, c34, c35, .inr (8, [.null, .null, .null, .int 0])] true (.inl (none, [c0, .inr (0, .int z :: fs), c2, c3, c4, c5, c6, c7, c8, c9, c10, c11, c12, c13, c14, c15, c16, c17, c18, c19, c20, c21, c22, c23, c24, c25, c26, c27, c28, c29, c30, c31, c32, c33, c34, c35, .inr (8, [.ref 1, .ref 37, .ref 38, .int 0]), .inl (0, S, .inl (fun _ => 0)), .inl (0, S, .inl (fun _ => 0))], true, 2, ((0 + S) + S))) := by
  refine ev_of (M := an_X8_init) rfl (Nat.le_of_ble_eq_true rfl) ?_
  refine go_n 4 (fr' := (6, [(0, .ref 36), (1, .ref 1)], [.ref 1, .ref 36], [c0, .inr (0, .int z :: fs), c2, c3, c4, c5, c6, c7, c8, c9, c10, c11, c12, c13, c14, c15, c16, c17, c18, c19, c20, c21, c22, c23, c24, c25, c26, c27, c28, c29, c30, c31, c32, c33, c34, c35, .inr (8, [.null, .null, .null, .int 0])], true, 0, 0)) rfl ?_
  refine go_put rfl rfl rfl (Nat.le_of_ble_eq_true rfl) rfl ?_
  refine go_n 2 (fr' := (11, [(0, .ref 36), (1, .ref 1)], [.ref 1, .ref 36], [c0, .inr (0, .int z :: fs), c2, c3, c4, c5, c6, c7, c8, c9, c10, c11, c12, c13, c14, c15, c16, c17, c18, c19, c20, c21, c22, c23, c24, c25, c26, c27, c28, c29, c30, c31, c32, c33, c34, c35, .inr (8, [.ref 1, .null, .null, .int 0])], true, 0, 0)) rfl ?_
  refine go_get rfl rfl rfl rfl ?_
  refine go_nwa (N := S) rfl hz (by omega) rfl (Nat.le_of_ble_eq_true rfl) ?_
  refine go_put rfl rfl rfl (Nat.le_of_ble_eq_true rfl) rfl ?_
  refine go_n 2 (fr' := (21, [(0, .ref 36), (1, .ref 1)], [.ref 1, .ref 36], [c0, .inr (0, .int z :: fs), c2, c3, c4, c5, c6, c7, c8, c9, c10, c11, c12, c13, c14, c15, c16, c17, c18, c19, c20, c21, c22, c23, c24, c25, c26, c27, c28, c29, c30, c31, c32, c33, c34, c35, .inr (8, [.ref 1, .ref 37, .null, .int 0]), .inl (0, S, .inl (fun _ => 0))], true, 1, (0 + S))) rfl ?_
  refine go_get rfl rfl rfl rfl ?_
  refine go_nwa (N := S) rfl hz (by omega) rfl (Nat.le_of_ble_eq_true rfl) ?_
  refine go_put rfl rfl rfl (Nat.le_of_ble_eq_true rfl) rfl ?_
  refine go_rt (i := .return_) (tg := []) rfl ?_
  rfl
set_option maxRecDepth 10000 in
theorem pv_X2_init {X : Nat × (Nat → Int32)} {c0 c2 c3 c4 c5 c6 c7 c8 c9 c10 c11 c12 c13 c14 c15 c16 c17 c18 c19 c20 c21 c22 c23 c24 c25 c26 c27 c28 c29 c30 c31 c32 c33 c34 c35 c36 c37 c38 : ai_C} {z : Int32} {fs : List Value} {S : Nat} (hz : z = nI S) (hS : S ≤ 64) (d : Nat) : ai_Ev an_ms an_lk X 35 (d + 1) 19 [.ref 39, .ref 1] [c0, .inr (0, .int z :: fs), c2, c3, c4, c5, c6, c7, c8, c9, c10, c11, c12, c13, c14, c15, c16, c17, c18, c19, c20, c21, c22, c23, c24, c25, c26, c27, c28, c29, c30, c31, c32, c33, c34, c35, c36, c37, c38, .inr (2, [.null, .int 0, .null, .int 0, .null, .null, .null, .null, .null, .null, .null, .int 0, .int 0])] true (.inl (none, [c0, .inr (0, .int z :: fs), c2, c3, c4, c5, c6, c7, c8, c9, c10, c11, c12, c13, c14, c15, c16, c17, c18, c19, c20, c21, c22, c23, c24, c25, c26, c27, c28, c29, c30, c31, c32, c33, c34, c35, c36, c37, c38, .inr (2, [.ref 40, .int 0, .ref 1, .int z, .ref 41, .ref 42, .ref 43, .ref 44, .ref 45, .ref 46, .ref 47, .int 0, .int 0]), .inl (0, 4, .inl (fun _ => 0)), .inl (1, S, .inl (fun _ => 0)), .inl (1, S, .inl (fun _ => 0)), .inl (1, S, .inl (fun _ => 0)), .inl (0, S, .inl (fun _ => 0)), .inl (0, S, .inl (fun _ => 0)), .inl (0, (2 * S), .inl (fun _ => 0)), .inl (0, (2 * S), .inl (fun _ => 0))], true, 8, (((((((4 + S) + S) + S) + S) + S) + (2 * S)) + (2 * S)))) := by
  refine ev_of (M := an_X2_init) rfl (Nat.le_of_ble_eq_true rfl) ?_
  refine go_n 4 (fr' := (6, [(0, .ref 39), (1, .ref 1)], [.int 4, .ref 39], [c0, .inr (0, .int z :: fs), c2, c3, c4, c5, c6, c7, c8, c9, c10, c11, c12, c13, c14, c15, c16, c17, c18, c19, c20, c21, c22, c23, c24, c25, c26, c27, c28, c29, c30, c31, c32, c33, c34, c35, c36, c37, c38, .inr (2, [.null, .int 0, .null, .int 0, .null, .null, .null, .null, .null, .null, .null, .int 0, .int 0])], true, 0, 0)) rfl ?_
  refine go_nwa (N := 4) rfl rfl (by decide) rfl (Nat.le_of_ble_eq_true rfl) ?_
  refine go_put rfl rfl rfl (Nat.le_of_ble_eq_true rfl) rfl ?_
  refine go_n 2 (fr' := (13, [(0, .ref 39), (1, .ref 1)], [.ref 1, .ref 39], [c0, .inr (0, .int z :: fs), c2, c3, c4, c5, c6, c7, c8, c9, c10, c11, c12, c13, c14, c15, c16, c17, c18, c19, c20, c21, c22, c23, c24, c25, c26, c27, c28, c29, c30, c31, c32, c33, c34, c35, c36, c37, c38, .inr (2, [.ref 40, .int 0, .null, .int 0, .null, .null, .null, .null, .null, .null, .null, .int 0, .int 0]), .inl (0, 4, .inl (fun _ => 0))], true, 1, 4)) rfl ?_
  refine go_put rfl rfl rfl (Nat.le_of_ble_eq_true rfl) rfl ?_
  refine go_n 2 (fr' := (18, [(0, .ref 39), (1, .ref 1)], [.ref 1, .ref 39], [c0, .inr (0, .int z :: fs), c2, c3, c4, c5, c6, c7, c8, c9, c10, c11, c12, c13, c14, c15, c16, c17, c18, c19, c20, c21, c22, c23, c24, c25, c26, c27, c28, c29, c30, c31, c32, c33, c34, c35, c36, c37, c38, .inr (2, [.ref 40, .int 0, .ref 1, .int 0, .null, .null, .null, .null, .null, .null, .null, .int 0, .int 0]), .inl (0, 4, .inl (fun _ => 0))], true, 1, 4)) rfl ?_
  refine go_get rfl rfl rfl rfl ?_
  refine go_put rfl rfl rfl (Nat.le_of_ble_eq_true rfl) rfl ?_
  refine go_n 2 (fr' := (26, [(0, .ref 39), (1, .ref 1)], [.ref 39, .ref 39], [c0, .inr (0, .int z :: fs), c2, c3, c4, c5, c6, c7, c8, c9, c10, c11, c12, c13, c14, c15, c16, c17, c18, c19, c20, c21, c22, c23, c24, c25, c26, c27, c28, c29, c30, c31, c32, c33, c34, c35, c36, c37, c38, .inr (2, [.ref 40, .int 0, .ref 1, .int z, .null, .null, .null, .null, .null, .null, .null, .int 0, .int 0]), .inl (0, 4, .inl (fun _ => 0))], true, 1, 4)) rfl ?_
  refine go_get rfl rfl rfl rfl ?_
  refine go_nwa (N := S) rfl hz (by omega) rfl (Nat.le_of_ble_eq_true rfl) ?_
  refine go_put rfl rfl rfl (Nat.le_of_ble_eq_true rfl) rfl ?_
  refine go_n 2 (fr' := (36, [(0, .ref 39), (1, .ref 1)], [.ref 39, .ref 39], [c0, .inr (0, .int z :: fs), c2, c3, c4, c5, c6, c7, c8, c9, c10, c11, c12, c13, c14, c15, c16, c17, c18, c19, c20, c21, c22, c23, c24, c25, c26, c27, c28, c29, c30, c31, c32, c33, c34, c35, c36, c37, c38, .inr (2, [.ref 40, .int 0, .ref 1, .int z, .ref 41, .null, .null, .null, .null, .null, .null, .int 0, .int 0]), .inl (0, 4, .inl (fun _ => 0)), .inl (1, S, .inl (fun _ => 0))], true, 2, (4 + S))) rfl ?_
  refine go_get rfl rfl rfl rfl ?_
  refine go_nwa (N := S) rfl hz (by omega) rfl (Nat.le_of_ble_eq_true rfl) ?_
  refine go_put rfl rfl rfl (Nat.le_of_ble_eq_true rfl) rfl ?_
  refine go_n 2 (fr' := (46, [(0, .ref 39), (1, .ref 1)], [.ref 39, .ref 39], [c0, .inr (0, .int z :: fs), c2, c3, c4, c5, c6, c7, c8, c9, c10, c11, c12, c13, c14, c15, c16, c17, c18, c19, c20, c21, c22, c23, c24, c25, c26, c27, c28, c29, c30, c31, c32, c33, c34, c35, c36, c37, c38, .inr (2, [.ref 40, .int 0, .ref 1, .int z, .ref 41, .ref 42, .null, .null, .null, .null, .null, .int 0, .int 0]), .inl (0, 4, .inl (fun _ => 0)), .inl (1, S, .inl (fun _ => 0)), .inl (1, S, .inl (fun _ => 0))], true, 3, ((4 + S) + S))) rfl ?_
  refine go_get rfl rfl rfl rfl ?_
  refine go_nwa (N := S) rfl hz (by omega) rfl (Nat.le_of_ble_eq_true rfl) ?_
  refine go_put rfl rfl rfl (Nat.le_of_ble_eq_true rfl) rfl ?_
  refine go_n 2 (fr' := (56, [(0, .ref 39), (1, .ref 1)], [.ref 39, .ref 39], [c0, .inr (0, .int z :: fs), c2, c3, c4, c5, c6, c7, c8, c9, c10, c11, c12, c13, c14, c15, c16, c17, c18, c19, c20, c21, c22, c23, c24, c25, c26, c27, c28, c29, c30, c31, c32, c33, c34, c35, c36, c37, c38, .inr (2, [.ref 40, .int 0, .ref 1, .int z, .ref 41, .ref 42, .ref 43, .null, .null, .null, .null, .int 0, .int 0]), .inl (0, 4, .inl (fun _ => 0)), .inl (1, S, .inl (fun _ => 0)), .inl (1, S, .inl (fun _ => 0)), .inl (1, S, .inl (fun _ => 0))], true, 4, (((4 + S) + S) + S))) rfl ?_
  refine go_get rfl rfl rfl rfl ?_
  refine go_nwa (N := S) rfl hz (by omega) rfl (Nat.le_of_ble_eq_true rfl) ?_
  refine go_put rfl rfl rfl (Nat.le_of_ble_eq_true rfl) rfl ?_
  refine go_n 2 (fr' := (66, [(0, .ref 39), (1, .ref 1)], [.ref 39, .ref 39], [c0, .inr (0, .int z :: fs), c2, c3, c4, c5, c6, c7, c8, c9, c10, c11, c12, c13, c14, c15, c16, c17, c18, c19, c20, c21, c22, c23, c24, c25, c26, c27, c28, c29, c30, c31, c32, c33, c34, c35, c36, c37, c38, .inr (2, [.ref 40, .int 0, .ref 1, .int z, .ref 41, .ref 42, .ref 43, .ref 44, .null, .null, .null, .int 0, .int 0]), .inl (0, 4, .inl (fun _ => 0)), .inl (1, S, .inl (fun _ => 0)), .inl (1, S, .inl (fun _ => 0)), .inl (1, S, .inl (fun _ => 0)), .inl (0, S, .inl (fun _ => 0))], true, 5, ((((4 + S) + S) + S) + S))) rfl ?_
  refine go_get rfl rfl rfl rfl ?_
  refine go_nwa (N := S) rfl hz (by omega) rfl (Nat.le_of_ble_eq_true rfl) ?_
  refine go_put rfl rfl rfl (Nat.le_of_ble_eq_true rfl) rfl ?_
  refine go_n 3 (fr' := (77, [(0, .ref 39), (1, .ref 1)], [.ref 39, .int 2, .ref 39], [c0, .inr (0, .int z :: fs), c2, c3, c4, c5, c6, c7, c8, c9, c10, c11, c12, c13, c14, c15, c16, c17, c18, c19, c20, c21, c22, c23, c24, c25, c26, c27, c28, c29, c30, c31, c32, c33, c34, c35, c36, c37, c38, .inr (2, [.ref 40, .int 0, .ref 1, .int z, .ref 41, .ref 42, .ref 43, .ref 44, .ref 45, .null, .null, .int 0, .int 0]), .inl (0, 4, .inl (fun _ => 0)), .inl (1, S, .inl (fun _ => 0)), .inl (1, S, .inl (fun _ => 0)), .inl (1, S, .inl (fun _ => 0)), .inl (0, S, .inl (fun _ => 0)), .inl (0, S, .inl (fun _ => 0))], true, 6, (((((4 + S) + S) + S) + S) + S))) rfl ?_
  refine go_get rfl rfl rfl rfl ?_
  refine go_n 1 (fr' := (81, [(0, .ref 39), (1, .ref 1)], [.int (2 * z), .ref 39], [c0, .inr (0, .int z :: fs), c2, c3, c4, c5, c6, c7, c8, c9, c10, c11, c12, c13, c14, c15, c16, c17, c18, c19, c20, c21, c22, c23, c24, c25, c26, c27, c28, c29, c30, c31, c32, c33, c34, c35, c36, c37, c38, .inr (2, [.ref 40, .int 0, .ref 1, .int z, .ref 41, .ref 42, .ref 43, .ref 44, .ref 45, .null, .null, .int 0, .int 0]), .inl (0, 4, .inl (fun _ => 0)), .inl (1, S, .inl (fun _ => 0)), .inl (1, S, .inl (fun _ => 0)), .inl (1, S, .inl (fun _ => 0)), .inl (0, S, .inl (fun _ => 0)), .inl (0, S, .inl (fun _ => 0))], true, 6, (((((4 + S) + S) + S) + S) + S))) rfl ?_
  refine go_nwa (N := (2 * S)) rfl (by rw [hz, show (2 : Int32) = nI 2 from rfl, pk_mul]) (by omega) rfl (Nat.le_of_ble_eq_true rfl) ?_
  refine go_put rfl rfl rfl (Nat.le_of_ble_eq_true rfl) rfl ?_
  refine go_n 3 (fr' := (89, [(0, .ref 39), (1, .ref 1)], [.ref 39, .int 2, .ref 39], [c0, .inr (0, .int z :: fs), c2, c3, c4, c5, c6, c7, c8, c9, c10, c11, c12, c13, c14, c15, c16, c17, c18, c19, c20, c21, c22, c23, c24, c25, c26, c27, c28, c29, c30, c31, c32, c33, c34, c35, c36, c37, c38, .inr (2, [.ref 40, .int 0, .ref 1, .int z, .ref 41, .ref 42, .ref 43, .ref 44, .ref 45, .ref 46, .null, .int 0, .int 0]), .inl (0, 4, .inl (fun _ => 0)), .inl (1, S, .inl (fun _ => 0)), .inl (1, S, .inl (fun _ => 0)), .inl (1, S, .inl (fun _ => 0)), .inl (0, S, .inl (fun _ => 0)), .inl (0, S, .inl (fun _ => 0)), .inl (0, (2 * S), .inl (fun _ => 0))], true, 7, ((((((4 + S) + S) + S) + S) + S) + (2 * S)))) rfl ?_
  refine go_get rfl rfl rfl rfl ?_
  refine go_n 1 (fr' := (93, [(0, .ref 39), (1, .ref 1)], [.int (2 * z), .ref 39], [c0, .inr (0, .int z :: fs), c2, c3, c4, c5, c6, c7, c8, c9, c10, c11, c12, c13, c14, c15, c16, c17, c18, c19, c20, c21, c22, c23, c24, c25, c26, c27, c28, c29, c30, c31, c32, c33, c34, c35, c36, c37, c38, .inr (2, [.ref 40, .int 0, .ref 1, .int z, .ref 41, .ref 42, .ref 43, .ref 44, .ref 45, .ref 46, .null, .int 0, .int 0]), .inl (0, 4, .inl (fun _ => 0)), .inl (1, S, .inl (fun _ => 0)), .inl (1, S, .inl (fun _ => 0)), .inl (1, S, .inl (fun _ => 0)), .inl (0, S, .inl (fun _ => 0)), .inl (0, S, .inl (fun _ => 0)), .inl (0, (2 * S), .inl (fun _ => 0))], true, 7, ((((((4 + S) + S) + S) + S) + S) + (2 * S)))) rfl ?_
  refine go_nwa (N := (2 * S)) rfl (by rw [hz, show (2 : Int32) = nI 2 from rfl, pk_mul]) (by omega) rfl (Nat.le_of_ble_eq_true rfl) ?_
  refine go_put rfl rfl rfl (Nat.le_of_ble_eq_true rfl) rfl ?_
  refine go_rt (i := .return_) (tg := []) rfl ?_
  rfl
