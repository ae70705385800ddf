/-! the class's methods on a new object -/
set_option maxRecDepth 10000 in
theorem pv_needCell {X : Nat × (Nat → Int32)} {S : Nat} {z : Int32} {f1 f2 f3 g1 g2 : Nat → Int32} {u : Int32} {R : List ai_C} {k : Int32} (hk : 0 ≤ k ∧ k < z) (d : Nat) : ai_Ev an_ms an_lk X 35 (d + 2) 41 [.ref 0, .int k] (ah_fw S z f1 f2 f3 g1 g2 u ++ R) true (.inl (none, (ah_fw S z f1 f2 f3 g1 g2 u ++ R), true, 0, 0)) := by
  refine ev_of (M := an_X9_needCell) rfl (Nat.le_of_ble_eq_true rfl) ?_
  refine go_n 1 (fr' := (1, [(0, .ref 0), (1, .int k)], [.ref 0], (ah_fw S z f1 f2 f3 g1 g2 u ++ R), true, 0, 0)) rfl ?_
  refine go_get rfl rfl rfl rfl ?_
  refine go_n 1 (fr' := (5, [(0, .ref 0), (1, .int k)], [.int k, .ref 1], (ah_fw S z f1 f2 f3 g1 g2 u ++ R), true, 0, 0)) rfl ?_
  have e1 := pv_X0_has (X := X) (h := (ah_fw S z f1 f2 f3 g1 g2 u ++ R)) (a := 1) rfl k true d
  rw [if_pos hk] at e1
  refine go_call (q := 2) (M1 := an_X0_has) rfl rfl (by decide) rfl ⟨_, rfl⟩ trivial (e1) ?_
  refine go_eq (fr' := (8, [(0, .ref 0), (1, .int k)], [.int 1], (ah_fw S z f1 f2 f3 g1 g2 u ++ R), true, 0, 0)) rfl ?_
  refine go_n 1 (fr' := (21, [(0, .ref 0), (1, .int k)], [], (ah_fw S z f1 f2 f3 g1 g2 u ++ R), true, 0, 0)) rfl ?_
  refine go_rt (i := .return_) (tg := []) rfl ?_
  rfl
set_option maxRecDepth 10000 in
theorem pv_needCell_no {X : Nat × (Nat → Int32)} {S : Nat} {z : Int32} {f1 f2 f3 g1 g2 : Nat → Int32} {u : Int32} {R : List ai_C} {k : Int32} (hk : ¬ (0 ≤ k ∧ k < z)) (d : Nat) : ai_Ev an_ms an_lk X 35 (d + 2) 41 [.ref 0, .int k] (ah_fw S z f1 f2 f3 g1 g2 u ++ R) true (.inr ("java/util/NoSuchElementException", (ah_fw S z f1 f2 f3 g1 g2 u ++ R), 1, 6)) := by
  refine ev_of (M := an_X9_needCell) rfl (Nat.le_of_ble_eq_true rfl) ?_
  refine go_n 1 (fr' := (1, [(0, .ref 0), (1, .int k)], [.ref 0], (ah_fw S z f1 f2 f3 g1 g2 u ++ R), true, 0, 0)) rfl ?_
  refine go_get rfl rfl rfl rfl ?_
  refine go_n 1 (fr' := (5, [(0, .ref 0), (1, .int k)], [.int k, .ref 1], (ah_fw S z f1 f2 f3 g1 g2 u ++ R), true, 0, 0)) rfl ?_
  have e1 := pv_X0_has (X := X) (h := (ah_fw S z f1 f2 f3 g1 g2 u ++ R)) (a := 1) rfl k true d
  rw [if_neg hk] at e1
  refine go_call (q := 2) (M1 := an_X0_has) rfl rfl (by decide) rfl ⟨_, rfl⟩ trivial (e1) ?_
  refine go_eq (fr' := (8, [(0, .ref 0), (1, .int k)], [.int 0], (ah_fw S z f1 f2 f3 g1 g2 u ++ R), true, 0, 0)) rfl ?_
  refine go_n 1 (fr' := (11, [(0, .ref 0), (1, .int k)], [], (ah_fw S z f1 f2 f3 g1 g2 u ++ R), true, 0, 0)) rfl ?_
  exact go_th (i := .new 183) (tg := []) rfl rfl
set_option maxRecDepth 10000 in
theorem pv_wind {X : Nat × (Nat → Int32)} {S : Nat} {z : Int32} {f1 f2 f3 g1 g2 : Nat → Int32} {u : Int32} {R : List ai_C} {k : Int32} (h1 : ¬ k < 0) (h2 : k ≤ 4) (d : Nat) : ai_Ev an_ms an_lk X 35 (d + 1) 27 [.ref 0, .int k] (ah_fw S z f1 f2 f3 g1 g2 u ++ R) true (.inl (some (.int 0), ((ah_fw S z f1 f2 f3 g1 g2 u ++ R).set 1 (.inr (0, [.int z, .ref 2, .ref 3, .ref 4, .ref 5, .ref 6, .ref 7, .ref 8, .ref 9, .ref 10, .ref 11, .ref 12, .int k]))), true, 0, 0)) := by
  refine ev_of (M := an_X9_wind) rfl (Nat.le_of_ble_eq_true rfl) ?_
  refine go_n 1 (fr' := (1, [(0, .ref 0), (1, .int k)], [.int k], (ah_fw S z f1 f2 f3 g1 g2 u ++ R), true, 0, 0)) rfl ?_
  refine go_if_lt (t := 9) rfl (fun q1 => absurd q1 h1) (fun q1 => ?_)
  refine go_n 2 (fr' := (6, [(0, .ref 0), (1, .int k)], [.int 4, .int k], (ah_fw S z f1 f2 f3 g1 g2 u ++ R), true, 0, 0)) rfl ?_
  refine go_ic_le (t := 19) rfl (fun q2 => ?_) (fun q2 => absurd h2 q2)
  refine go_n 1 (fr' := (20, [(0, .ref 0), (1, .int k)], [.ref 0], (ah_fw S z f1 f2 f3 g1 g2 u ++ R), true, 0, 0)) rfl ?_
  refine go_get rfl rfl rfl rfl ?_
  refine go_get rfl rfl rfl rfl ?_
  refine go_n 2 (fr' := (28, [(0, .ref 0), (1, .int k), (2, .int 0)], [.ref 0], (ah_fw S z f1 f2 f3 g1 g2 u ++ R), true, 0, 0)) rfl ?_
  refine go_get rfl rfl rfl rfl ?_
  refine go_n 1 (fr' := (32, [(0, .ref 0), (1, .int k), (2, .int 0)], [.int k, .ref 1], (ah_fw S z f1 f2 f3 g1 g2 u ++ R), true, 0, 0)) rfl ?_
  refine go_put rfl rfl rfl (Nat.le_of_ble_eq_true rfl) rfl ?_
  refine go_n 1 (fr' := (36, [(0, .ref 0), (1, .int k), (2, .int 0)], [.int 0], ((ah_fw S z f1 f2 f3 g1 g2 u ++ R).set 1 (.inr (0, [.int z, .ref 2, .ref 3, .ref 4, .ref 5, .ref 6, .ref 7, .ref 8, .ref 9, .ref 10, .ref 11, .ref 12, .int k]))), true, 0, 0)) rfl ?_
  refine go_rt (i := .ireturn) (tg := []) rfl ?_
  rfl
set_option maxRecDepth 10000 in
theorem pv_wind_lo {X : Nat × (Nat → Int32)} {S : Nat} {z : Int32} {f1 f2 f3 g1 g2 : Nat → Int32} {u : Int32} {R : List ai_C} {k : Int32} (h1 : k < 0) (d : Nat) : ai_Ev an_ms an_lk X 35 (d + 1) 27 [.ref 0, .int k] (ah_fw S z f1 f2 f3 g1 g2 u ++ R) true (.inr ("java/lang/IllegalArgumentException", (ah_fw S z f1 f2 f3 g1 g2 u ++ R), 1, 6)) := by
  refine ev_of (M := an_X9_wind) rfl (Nat.le_of_ble_eq_true rfl) ?_
  refine go_n 1 (fr' := (1, [(0, .ref 0), (1, .int k)], [.int k], (ah_fw S z f1 f2 f3 g1 g2 u ++ R), true, 0, 0)) rfl ?_
  refine go_if_lt (t := 9) rfl (fun q1 => ?_) (fun q1 => absurd h1 q1)
  exact go_th (i := .new 105) (tg := []) rfl rfl
set_option maxRecDepth 10000 in
theorem pv_wind_hi {X : Nat × (Nat → Int32)} {S : Nat} {z : Int32} {f1 f2 f3 g1 g2 : Nat → Int32} {u : Int32} {R : List ai_C} {k : Int32} (h1 : ¬ k < 0) (h2 : ¬ k ≤ 4) (d : Nat) : ai_Ev an_ms an_lk X 35 (d + 1) 27 [.ref 0, .int k] (ah_fw S z f1 f2 f3 g1 g2 u ++ R) true (.inr ("java/lang/IllegalArgumentException", (ah_fw S z f1 f2 f3 g1 g2 u ++ R), 1, 6)) := by
  refine ev_of (M := an_X9_wind) rfl (Nat.le_of_ble_eq_true rfl) ?_
  refine go_n 1 (fr' := (1, [(0, .ref 0), (1, .int k)], [.int k], (ah_fw S z f1 f2 f3 g1 g2 u ++ R), true, 0, 0)) rfl ?_
  refine go_if_lt (t := 9) rfl (fun q1 => absurd q1 h1) (fun q1 => ?_)
  refine go_n 2 (fr' := (6, [(0, .ref 0), (1, .int k)], [.int 4, .int k], (ah_fw S z f1 f2 f3 g1 g2 u ++ R), true, 0, 0)) rfl ?_
  refine go_ic_le (t := 19) rfl (fun q2 => absurd q2 h2) (fun q2 => ?_)
  exact go_th (i := .new 105) (tg := []) rfl rfl
set_option maxRecDepth 10000 in
theorem pv_fault {X : Nat × (Nat → Int32)} {S : Nat} {z : Int32} {f1 f2 f3 g1 g2 : Nat → Int32} {u : Int32} {R : List ai_C}  (d : Nat) : ai_Ev an_ms an_lk X 35 (d + 1) 31 [.ref 0] (ah_fw S z f1 f2 f3 g1 g2 u ++ R) true (.inl (some (.int (-1)), (ah_fw S z f1 f2 f3 g1 g2 u ++ R), true, 0, 0)) := by
  refine ev_of (M := an_X9_fault) rfl (Nat.le_of_ble_eq_true rfl) ?_
  refine go_n 1 (fr' := (1, [(0, .ref 0)], [.ref 0], (ah_fw S z f1 f2 f3 g1 g2 u ++ R), true, 0, 0)) rfl ?_
  refine go_get rfl rfl rfl rfl ?_
  refine go_rt (i := .ireturn) (tg := []) rfl ?_
  rfl
theorem pv_X1_has_no {X : Nat × (Nat → Int32)} {h : ai_H} {a : Nat} {v0 v1 v2 v3 v4 v5 v6 v7 : Value} (hh : h[a]? = some (.inr (1, [v0, v1, v2, v3, v4, v5, v6, v7, .int 0]))) (k : Int32) (ex : Bool) (d : Nat) : ai_Ev an_ms an_lk X 35 (d + 1) 7 [.ref a, .int k] h ex (.inl (some (.int 0), h, ex, 0, 0)) := by
  refine ev_of (M := an_X1_has) rfl (Nat.le_of_ble_eq_true rfl) ?_
  refine go_n 1 (fr' := (1, [(0, .ref a), (1, .int k)], [.int k], h, ex, 0, 0)) rfl ?_
  refine go_if_lt (t := 16) rfl (fun q => ?_) (fun q => ?_)
  · refine go_n 1 (fr' := (17, [(0, .ref a), (1, .int k)], [.int 0], h, ex, 0, 0)) rfl ?_
    exact go_rt (i := .ireturn) (tg := []) rfl rfl
  · refine go_n 2 (fr' := (6, [(0, .ref a), (1, .int k)], [.ref a, .int k], h, ex, 0, 0)) rfl ?_
    refine go_get rfl rfl hh rfl ?_
    refine go_ic_ge (t := 16) rfl (fun q2 => ?_) (fun q2 => absurd (Int32.not_lt.mp q) q2)
    refine go_n 1 (fr' := (17, [(0, .ref a), (1, .int k)], [.int 0], h, ex, 0, 0)) rfl ?_
    exact go_rt (i := .ireturn) (tg := []) rfl rfl
set_option maxRecDepth 10000 in
theorem pv_needCrew_no {X : Nat × (Nat → Int32)} {S : Nat} {z : Int32} {f1 f2 f3 g1 g2 : Nat → Int32} {u : Int32} {R : List ai_C} {k : Int32} (d : Nat) : ai_Ev an_ms an_lk X 35 (d + 2) 42 [.ref 0, .int k] (ah_fw S z f1 f2 f3 g1 g2 u ++ R) true (.inr ("java/util/NoSuchElementException", (ah_fw S z f1 f2 f3 g1 g2 u ++ R), 1, 6)) := by
  refine ev_of (M := an_X9_needCrew) rfl (Nat.le_of_ble_eq_true rfl) ?_
  refine go_n 1 (fr' := (1, [(0, .ref 0), (1, .int k)], [.ref 0], (ah_fw S z f1 f2 f3 g1 g2 u ++ R), true, 0, 0)) rfl ?_
  refine go_get rfl rfl rfl rfl ?_
  refine go_n 1 (fr' := (5, [(0, .ref 0), (1, .int k)], [.int k, .ref 13], (ah_fw S z f1 f2 f3 g1 g2 u ++ R), true, 0, 0)) rfl ?_
  have e1 := pv_X1_has_no (X := X) (h := (ah_fw S z f1 f2 f3 g1 g2 u ++ R)) (a := 13) rfl k true d
  refine go_call (q := 7) (M1 := an_X1_has) rfl rfl (by decide) rfl ⟨_, rfl⟩ trivial (e1) ?_
  refine go_eq (fr' := (8, [(0, .ref 0), (1, .int k)], [.int 0], (ah_fw S z f1 f2 f3 g1 g2 u ++ R), true, 0, 0)) rfl ?_
  refine go_n 1 (fr' := (11, [(0, .ref 0), (1, .int k)], [], (ah_fw S z f1 f2 f3 g1 g2 u ++ R), true, 0, 0)) rfl ?_
  exact go_th (i := .new 183) (tg := []) rfl rfl
set_option maxRecDepth 10000 in
theorem pv_breaker_lo {X : Nat × (Nat → Int32)} {S : Nat} {z : Int32} {f1 f2 f3 g1 g2 : Nat → Int32} {u : Int32} {R : List ai_C} {k : Int32} (h1 : k < 0) (d : Nat) : ai_Ev an_ms an_lk X 35 (d + 1) 39 [.ref 0, .int k] (ah_fw S z f1 f2 f3 g1 g2 u ++ R) true (.inr ("java/util/NoSuchElementException", (ah_fw S z f1 f2 f3 g1 g2 u ++ R), 1, 6)) := by
  refine ev_of (M := an_X9_breaker) rfl (Nat.le_of_ble_eq_true rfl) ?_
  refine go_n 1 (fr' := (1, [(0, .ref 0), (1, .int k)], [.int k], (ah_fw S z f1 f2 f3 g1 g2 u ++ R), true, 0, 0)) rfl ?_
  refine go_if_lt (t := 15) rfl (fun q1 => ?_) (fun q1 => absurd h1 q1)
  exact go_th (i := .new 183) (tg := []) rfl rfl
set_option maxRecDepth 10000 in
theorem pv_breaker_hi {X : Nat × (Nat → Int32)} {S : Nat} {z : Int32} {f1 f2 f3 g1 g2 : Nat → Int32} {u : Int32} {R : List ai_C} {k : Int32} (h1 : ¬ k < 0) (d : Nat) : ai_Ev an_ms an_lk X 35 (d + 1) 39 [.ref 0, .int k] (ah_fw S z f1 f2 f3 g1 g2 u ++ R) true (.inr ("java/util/NoSuchElementException", (ah_fw S z f1 f2 f3 g1 g2 u ++ R), 1, 6)) := by
  refine ev_of (M := an_X9_breaker) rfl (Nat.le_of_ble_eq_true rfl) ?_
  refine go_n 1 (fr' := (1, [(0, .ref 0), (1, .int k)], [.int k], (ah_fw S z f1 f2 f3 g1 g2 u ++ R), true, 0, 0)) rfl ?_
  refine go_if_lt (t := 15) rfl (fun q1 => absurd q1 h1) (fun q1 => ?_)
  refine go_n 2 (fr' := (6, [(0, .ref 0), (1, .int k)], [.ref 0, .int k], (ah_fw S z f1 f2 f3 g1 g2 u ++ R), true, 0, 0)) rfl ?_
  refine go_get rfl rfl rfl rfl ?_
  refine go_get rfl rfl rfl rfl ?_
  refine go_ic_lt (t := 25) rfl (fun q2 => absurd q2 h1) (fun q2 => ?_)
  exact go_th (i := .new 183) (tg := []) rfl rfl
set_option maxRecDepth 10000 in
theorem pv_isWard {X : Nat × (Nat → Int32)} {S : Nat} {z : Int32} {f1 f2 f3 g1 g2 : Nat → Int32} {u : Int32} {R : List ai_C} {k : Int32} (h1 : ¬ k < 0) (h2 : ¬ 7 < k) (d : Nat) : ai_Ev an_ms an_lk X 35 (d + 1) 43 [.int k] (ah_fw S z f1 f2 f3 g1 g2 u ++ R) true (.inl (some (.int 1), (ah_fw S z f1 f2 f3 g1 g2 u ++ R), true, 0, 0)) := by
  refine ev_of (M := an_X9_isWard) rfl (Nat.le_of_ble_eq_true rfl) ?_
  refine go_n 1 (fr' := (1, [(0, .int k)], [.int k], (ah_fw S z f1 f2 f3 g1 g2 u ++ R), true, 0, 0)) rfl ?_
  refine go_if_lt (t := 14) rfl (fun q1 => absurd q1 h1) (fun q1 => ?_)
  refine go_n 2 (fr' := (7, [(0, .int k)], [.int 7, .int k], (ah_fw S z f1 f2 f3 g1 g2 u ++ R), true, 0, 0)) rfl ?_
  refine go_ic_gt (t := 14) rfl (fun q2 => absurd q2 h2) (fun q2 => ?_)
  refine go_n 2 (fr' := (15, [(0, .int k)], [.int 1], (ah_fw S z f1 f2 f3 g1 g2 u ++ R), true, 0, 0)) rfl ?_
  refine go_rt (i := .ireturn) (tg := []) rfl ?_
  rfl
set_option maxRecDepth 10000 in
theorem pv_isWard_lo {X : Nat × (Nat → Int32)} {S : Nat} {z : Int32} {f1 f2 f3 g1 g2 : Nat → Int32} {u : Int32} {R : List ai_C} {k : Int32} (h1 : k < 0) (d : Nat) : ai_Ev an_ms an_lk X 35 (d + 1) 43 [.int k] (ah_fw S z f1 f2 f3 g1 g2 u ++ R) true (.inl (some (.int 0), (ah_fw S z f1 f2 f3 g1 g2 u ++ R), true, 0, 0)) := by
  refine ev_of (M := an_X9_isWard) rfl (Nat.le_of_ble_eq_true rfl) ?_
  refine go_n 1 (fr' := (1, [(0, .int k)], [.int k], (ah_fw S z f1 f2 f3 g1 g2 u ++ R), true, 0, 0)) rfl ?_
  refine go_if_lt (t := 14) rfl (fun q1 => ?_) (fun q1 => absurd h1 q1)
  refine go_n 1 (fr' := (15, [(0, .int k)], [.int 0], (ah_fw S z f1 f2 f3 g1 g2 u ++ R), true, 0, 0)) rfl ?_
  refine go_rt (i := .ireturn) (tg := []) rfl ?_
  rfl
set_option maxRecDepth 10000 in
theorem pv_isWard_hi {X : Nat × (Nat → Int32)} {S : Nat} {z : Int32} {f1 f2 f3 g1 g2 : Nat → Int32} {u : Int32} {R : List ai_C} {k : Int32} (h1 : ¬ k < 0) (h2 : 7 < k) (d : Nat) : ai_Ev an_ms an_lk X 35 (d + 1) 43 [.int k] (ah_fw S z f1 f2 f3 g1 g2 u ++ R) true (.inl (some (.int 0), (ah_fw S z f1 f2 f3 g1 g2 u ++ R), true, 0, 0)) := by
  refine ev_of (M := an_X9_isWard) rfl (Nat.le_of_ble_eq_true rfl) ?_
  refine go_n 1 (fr' := (1, [(0, .int k)], [.int k], (ah_fw S z f1 f2 f3 g1 g2 u ++ R), true, 0, 0)) rfl ?_
  refine go_if_lt (t := 14) rfl (fun q1 => absurd q1 h1) (fun q1 => ?_)
  refine go_n 2 (fr' := (7, [(0, .int k)], [.int 7, .int k], (ah_fw S z f1 f2 f3 g1 g2 u ++ R), true, 0, 0)) rfl ?_
  refine go_ic_gt (t := 14) rfl (fun q2 => ?_) (fun q2 => absurd h2 q2)
  refine go_n 1 (fr' := (15, [(0, .int k)], [.int 0], (ah_fw S z f1 f2 f3 g1 g2 u ++ R), true, 0, 0)) rfl ?_
  refine go_rt (i := .ireturn) (tg := []) rfl ?_
  rfl
set_option maxRecDepth 10000 in
theorem pv_house_no {X : Nat × (Nat → Int32)} {S : Nat} {z : Int32} {f1 f2 f3 g1 g2 : Nat → Int32} {u : Int32} {R : List ai_C} {k p1 p2 : Int32} (hk : ¬ (0 ≤ k ∧ k < z)) (d : Nat) : ai_Ev an_ms an_lk X 35 (d + 3) 25 [.ref 0, .int k, .int p1, .int p2] (ah_fw S z f1 f2 f3 g1 g2 u ++ R) true (.inr ("java/util/NoSuchElementException", (ah_fw S z f1 f2 f3 g1 g2 u ++ R), 1, 6)) := by
  refine ev_of (M := an_X9_house) rfl (Nat.le_of_ble_eq_true rfl) ?_
  refine go_n 2 (fr' := (2, [(0, .ref 0), (1, .int k), (2, .int p1), (3, .int p2)], [.int k, .ref 0], (ah_fw S z f1 f2 f3 g1 g2 u ++ R), true, 0, 0)) rfl ?_
  exact go_thr (fr := (2, [(0, .ref 0), (1, .int k), (2, .int p1), (3, .int p2)], [.int k, .ref 0], (ah_fw S z f1 f2 f3 g1 g2 u ++ R), true, 0, 0)) (i := .invokevirtual 86) (tg := []) (q := 41) (As := [.ref 0, .int k]) (rest := []) (M1 := an_X9_needCell) rfl rfl (by decide) rfl ⟨_, rfl⟩ trivial (pv_needCell_no hk d) rfl
set_option maxRecDepth 10000 in
theorem pv_well_no {X : Nat × (Nat → Int32)} {S : Nat} {z : Int32} {f1 f2 f3 g1 g2 : Nat → Int32} {u : Int32} {R : List ai_C} {k p1 : Int32} (hk : ¬ (0 ≤ k ∧ k < z)) (d : Nat) : ai_Ev an_ms an_lk X 35 (d + 3) 26 [.ref 0, .int k, .int p1] (ah_fw S z f1 f2 f3 g1 g2 u ++ R) true (.inr ("java/util/NoSuchElementException", (ah_fw S z f1 f2 f3 g1 g2 u ++ R), 1, 6)) := by
  refine ev_of (M := an_X9_well) rfl (Nat.le_of_ble_eq_true rfl) ?_
  refine go_n 2 (fr' := (2, [(0, .ref 0), (1, .int k), (2, .int p1)], [.int k, .ref 0], (ah_fw S z f1 f2 f3 g1 g2 u ++ R), true, 0, 0)) rfl ?_
  exact go_thr (fr := (2, [(0, .ref 0), (1, .int k), (2, .int p1)], [.int k, .ref 0], (ah_fw S z f1 f2 f3 g1 g2 u ++ R), true, 0, 0)) (i := .invokevirtual 86) (tg := []) (q := 41) (As := [.ref 0, .int k]) (rest := []) (M1 := an_X9_needCell) rfl rfl (by decide) rfl ⟨_, rfl⟩ trivial (pv_needCell_no hk d) rfl
set_option maxRecDepth 10000 in
theorem pv_light_no {X : Nat × (Nat → Int32)} {S : Nat} {z : Int32} {f1 f2 f3 g1 g2 : Nat → Int32} {u : Int32} {R : List ai_C} {k : Int32} (hk : ¬ (0 ≤ k ∧ k < z)) (d : Nat) : ai_Ev an_ms an_lk X 35 (d + 3) 32 [.ref 0, .int k] (ah_fw S z f1 f2 f3 g1 g2 u ++ R) true (.inr ("java/util/NoSuchElementException", (ah_fw S z f1 f2 f3 g1 g2 u ++ R), 1, 6)) := by
  refine ev_of (M := an_X9_light) rfl (Nat.le_of_ble_eq_true rfl) ?_
  refine go_n 2 (fr' := (2, [(0, .ref 0), (1, .int k)], [.int k, .ref 0], (ah_fw S z f1 f2 f3 g1 g2 u ++ R), true, 0, 0)) rfl ?_
  exact go_thr (fr := (2, [(0, .ref 0), (1, .int k)], [.int k, .ref 0], (ah_fw S z f1 f2 f3 g1 g2 u ++ R), true, 0, 0)) (i := .invokevirtual 86) (tg := []) (q := 41) (As := [.ref 0, .int k]) (rest := []) (M1 := an_X9_needCell) rfl rfl (by decide) rfl ⟨_, rfl⟩ trivial (pv_needCell_no hk d) rfl
set_option maxRecDepth 10000 in
theorem pv_cell_no {X : Nat × (Nat → Int32)} {S : Nat} {z : Int32} {f1 f2 f3 g1 g2 : Nat → Int32} {u : Int32} {R : List ai_C} {k p1 : Int32} (hk : ¬ (0 ≤ k ∧ k < z)) (d : Nat) : ai_Ev an_ms an_lk X 35 (d + 3) 36 [.ref 0, .int k, .int p1] (ah_fw S z f1 f2 f3 g1 g2 u ++ R) true (.inr ("java/util/NoSuchElementException", (ah_fw S z f1 f2 f3 g1 g2 u ++ R), 1, 6)) := by
  refine ev_of (M := an_X9_cell) rfl (Nat.le_of_ble_eq_true rfl) ?_
  refine go_n 2 (fr' := (2, [(0, .ref 0), (1, .int k), (2, .int p1)], [.int k, .ref 0], (ah_fw S z f1 f2 f3 g1 g2 u ++ R), true, 0, 0)) rfl ?_
  exact go_thr (fr := (2, [(0, .ref 0), (1, .int k), (2, .int p1)], [.int k, .ref 0], (ah_fw S z f1 f2 f3 g1 g2 u ++ R), true, 0, 0)) (i := .invokevirtual 86) (tg := []) (q := 41) (As := [.ref 0, .int k]) (rest := []) (M1 := an_X9_needCell) rfl rfl (by decide) rfl ⟨_, rfl⟩ trivial (pv_needCell_no hk d) rfl
set_option maxRecDepth 10000 in
theorem pv_breaks_no {X : Nat × (Nat → Int32)} {S : Nat} {z : Int32} {f1 f2 f3 g1 g2 : Nat → Int32} {u : Int32} {R : List ai_C} {k : Int32} (hk : ¬ (0 ≤ k ∧ k < z)) (d : Nat) : ai_Ev an_ms an_lk X 35 (d + 3) 38 [.ref 0, .int k] (ah_fw S z f1 f2 f3 g1 g2 u ++ R) true (.inr ("java/util/NoSuchElementException", (ah_fw S z f1 f2 f3 g1 g2 u ++ R), 1, 6)) := by
  refine ev_of (M := an_X9_breaks) rfl (Nat.le_of_ble_eq_true rfl) ?_
  refine go_n 2 (fr' := (2, [(0, .ref 0), (1, .int k)], [.int k, .ref 0], (ah_fw S z f1 f2 f3 g1 g2 u ++ R), true, 0, 0)) rfl ?_
  exact go_thr (fr := (2, [(0, .ref 0), (1, .int k)], [.int k, .ref 0], (ah_fw S z f1 f2 f3 g1 g2 u ++ R), true, 0, 0)) (i := .invokevirtual 86) (tg := []) (q := 41) (As := [.ref 0, .int k]) (rest := []) (M1 := an_X9_needCell) rfl rfl (by decide) rfl ⟨_, rfl⟩ trivial (pv_needCell_no hk d) rfl
set_option maxRecDepth 10000 in
theorem pv_company_no {X : Nat × (Nat → Int32)} {S : Nat} {z : Int32} {f1 f2 f3 g1 g2 : Nat → Int32} {u : Int32} {R : List ai_C} {p1 p2 k : Int32} (hk : ¬ (0 ≤ k ∧ k < z)) (d : Nat) : ai_Ev an_ms an_lk X 35 (d + 3) 28 [.ref 0, .int p1, .int p2, .int k] (ah_fw S z f1 f2 f3 g1 g2 u ++ R) true (.inr ("java/util/NoSuchElementException", (ah_fw S z f1 f2 f3 g1 g2 u ++ R), 1, 6)) := by
  refine ev_of (M := an_X9_company) rfl (Nat.le_of_ble_eq_true rfl) ?_
  refine go_n 2 (fr' := (2, [(0, .ref 0), (1, .int p1), (2, .int p2), (3, .int k)], [.int k, .ref 0], (ah_fw S z f1 f2 f3 g1 g2 u ++ R), true, 0, 0)) rfl ?_
  exact go_thr (fr := (2, [(0, .ref 0), (1, .int p1), (2, .int p2), (3, .int k)], [.int k, .ref 0], (ah_fw S z f1 f2 f3 g1 g2 u ++ R), true, 0, 0)) (i := .invokevirtual 86) (tg := []) (q := 41) (As := [.ref 0, .int k]) (rest := []) (M1 := an_X9_needCell) rfl rfl (by decide) rfl ⟨_, rfl⟩ trivial (pv_needCell_no hk d) rfl
set_option maxRecDepth 10000 in
theorem pv_order_no {X : Nat × (Nat → Int32)} {S : Nat} {z : Int32} {f1 f2 f3 g1 g2 : Nat → Int32} {u : Int32} {R : List ai_C} {k p1 p2 : Int32} (d : Nat) : ai_Ev an_ms an_lk X 35 (d + 3) 44 [.ref 0, .int k, .int p1, .int p2] (ah_fw S z f1 f2 f3 g1 g2 u ++ R) true (.inr ("java/util/NoSuchElementException", (ah_fw S z f1 f2 f3 g1 g2 u ++ R), 1, 6)) := by
  refine ev_of (M := an_X9_order) rfl (Nat.le_of_ble_eq_true rfl) ?_
  refine go_n 2 (fr' := (2, [(0, .ref 0), (1, .int k), (2, .int p1), (3, .int p2)], [.int k, .ref 0], (ah_fw S z f1 f2 f3 g1 g2 u ++ R), true, 0, 0)) rfl ?_
  exact go_thr (fr := (2, [(0, .ref 0), (1, .int k), (2, .int p1), (3, .int p2)], [.int k, .ref 0], (ah_fw S z f1 f2 f3 g1 g2 u ++ R), true, 0, 0)) (i := .invokevirtual 188) (tg := []) (q := 42) (As := [.ref 0, .int k]) (rest := []) (M1 := an_X9_needCrew) rfl rfl (by decide) rfl ⟨_, rfl⟩ trivial (pv_needCrew_no d) rfl
set_option maxRecDepth 10000 in
theorem pv_of_no {X : Nat × (Nat → Int32)} {S : Nat} {z : Int32} {f1 f2 f3 g1 g2 : Nat → Int32} {u : Int32} {R : List ai_C} {k p1 : Int32} (d : Nat) : ai_Ev an_ms an_lk X 35 (d + 3) 37 [.ref 0, .int k, .int p1] (ah_fw S z f1 f2 f3 g1 g2 u ++ R) true (.inr ("java/util/NoSuchElementException", (ah_fw S z f1 f2 f3 g1 g2 u ++ R), 1, 6)) := by
  refine ev_of (M := an_X9_of) rfl (Nat.le_of_ble_eq_true rfl) ?_
  refine go_n 2 (fr' := (2, [(0, .ref 0), (1, .int k), (2, .int p1)], [.int k, .ref 0], (ah_fw S z f1 f2 f3 g1 g2 u ++ R), true, 0, 0)) rfl ?_
  exact go_thr (fr := (2, [(0, .ref 0), (1, .int k), (2, .int p1)], [.int k, .ref 0], (ah_fw S z f1 f2 f3 g1 g2 u ++ R), true, 0, 0)) (i := .invokevirtual 188) (tg := []) (q := 42) (As := [.ref 0, .int k]) (rest := []) (M1 := an_X9_needCrew) rfl rfl (by decide) rfl ⟨_, rfl⟩ trivial (pv_needCrew_no d) rfl
set_option maxRecDepth 10000 in
theorem pv_send_no {X : Nat × (Nat → Int32)} {S : Nat} {z : Int32} {f1 f2 f3 g1 g2 : Nat → Int32} {u : Int32} {R : List ai_C} {k p1 : Int32} (d : Nat) : ai_Ev an_ms an_lk X 35 (d + 4) 33 [.ref 0, .int k, .int p1] (ah_fw S z f1 f2 f3 g1 g2 u ++ R) true (.inr ("java/util/NoSuchElementException", (ah_fw S z f1 f2 f3 g1 g2 u ++ R), 1, 6)) := by
  refine ev_of (M := an_X9_send) rfl (Nat.le_of_ble_eq_true rfl) ?_
  refine go_n 4 (fr' := (4, [(0, .ref 0), (1, .int k), (2, .int p1)], [.int 1, .int p1, .int k, .ref 0], (ah_fw S z f1 f2 f3 g1 g2 u ++ R), true, 0, 0)) rfl ?_
  exact go_thr (fr := (4, [(0, .ref 0), (1, .int k), (2, .int p1)], [.int 1, .int p1, .int k, .ref 0], (ah_fw S z f1 f2 f3 g1 g2 u ++ R), true, 0, 0)) (i := .invokevirtual 154) (tg := []) (q := 44) (As := [.ref 0, .int k, .int p1, .int 1]) (rest := []) (M1 := an_X9_order) rfl rfl (by decide) rfl ⟨_, rfl⟩ trivial (pv_order_no d) rfl
set_option maxRecDepth 10000 in
theorem pv_pull_no {X : Nat × (Nat → Int32)} {S : Nat} {z : Int32} {f1 f2 f3 g1 g2 : Nat → Int32} {u : Int32} {R : List ai_C} {k p1 : Int32} (d : Nat) : ai_Ev an_ms an_lk X 35 (d + 4) 34 [.ref 0, .int k, .int p1] (ah_fw S z f1 f2 f3 g1 g2 u ++ R) true (.inr ("java/util/NoSuchElementException", (ah_fw S z f1 f2 f3 g1 g2 u ++ R), 1, 6)) := by
  refine ev_of (M := an_X9_pull) rfl (Nat.le_of_ble_eq_true rfl) ?_
  refine go_n 4 (fr' := (4, [(0, .ref 0), (1, .int k), (2, .int p1)], [.int 0, .int p1, .int k, .ref 0], (ah_fw S z f1 f2 f3 g1 g2 u ++ R), true, 0, 0)) rfl ?_
  exact go_thr (fr := (4, [(0, .ref 0), (1, .int k), (2, .int p1)], [.int 0, .int p1, .int k, .ref 0], (ah_fw S z f1 f2 f3 g1 g2 u ++ R), true, 0, 0)) (i := .invokevirtual 154) (tg := []) (q := 44) (As := [.ref 0, .int k, .int p1, .int 0]) (rest := []) (M1 := an_X9_order) rfl rfl (by decide) rfl ⟨_, rfl⟩ trivial (pv_order_no d) rfl
