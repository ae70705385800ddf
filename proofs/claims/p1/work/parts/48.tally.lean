set_option maxRecDepth 20000 in
theorem pl_count_1_3_tally {xs : Nat → Int32} {S : Nat} {f1 f2 f3 g1 g2 s1 s2 : Nat → Int32} {a b : Nat} (hS1 : 1 ≤ S) (hS : S ≤ 64) (hab : nI a * nI b = nI S) (hg : ∀ j, j < S → g1 j = -1) (hs : ∀ j, j < 64 → s1 j = -1) (hw : xs 3 = 1) : ai_Ev an_ms an_lk (8, xs) 35 10 4 [.ref 1, .int 1] (ah_w S (nI S) f1 f2 f3 g1 g2 0 a b s1 s2 0 0 (fun _ => 0)) true (.inl (some (.int 0), (ah_w S (nI S) f1 f2 f3 g1 g2 0 a b s1 s2 0 0 (fun _ => 0)), true, 0, 0)) := by
  refine ev_of (M := an_X0_tally) rfl (Nat.le_of_ble_eq_true rfl) ?_
  refine go_n 4 (fr' := (4, [(0, .ref 1), (1, .int 1), (2, .int 0), (3, .int 0)], [], (ah_w S (nI S) f1 f2 f3 g1 g2 0 a b s1 s2 0 0 (fun _ => 0)), true, 0, 0)) rfl ?_
  refine go_eq (fr' := (4, [(0, .ref 1), (1, .int 1), (2, .int 0), (3, .int (nI 0))], [], (ah_w S (nI S) f1 f2 f3 g1 g2 0 a b s1 s2 0 0 (fun _ => 0)), true, 0, 0)) rfl ?_
  refine lp_tally hS1 hS hab hg hs (by decide) S 0 (Nat.zero_add _) _ ?_
  refine go_n 1 (fr' := (32, [(0, .ref 1), (1, .int 1), (2, .int 0), (3, .int (nI S))], [.int 0], (ah_w S (nI S) f1 f2 f3 g1 g2 0 a b s1 s2 0 0 (fun _ => 0)), true, 0, 0)) rfl ?_
  refine go_rt (i := .ireturn) (tg := []) rfl ?_
  rfl
set_option maxRecDepth 20000 in
theorem pl_count_1_2_count {xs : Nat → Int32} {S : Nat} {f1 f2 f3 g1 g2 s1 s2 : Nat → Int32} {a b : Nat} (hS1 : 1 ≤ S) (hS : S ≤ 64) (hab : nI a * nI b = nI S) (hg : ∀ j, j < S → g1 j = -1) (hs : ∀ j, j < 64 → s1 j = -1) (hw : xs 3 = 1) : ai_Ev an_ms an_lk (8, xs) 35 11 40 [.ref 0, .int 1] (ah_w S (nI S) f1 f2 f3 g1 g2 0 a b s1 s2 0 0 (fun _ => 0)) true (.inl (some (.int 0), (ah_w S (nI S) f1 f2 f3 g1 g2 0 a b s1 s2 0 0 (fun _ => 0)), true, 0, 0)) := by
  refine ev_of (M := an_X9_count) rfl (Nat.le_of_ble_eq_true rfl) ?_
  refine go_n 1 (fr' := (1, [(0, .ref 0), (1, .int 1)], [.int 1], (ah_w S (nI S) f1 f2 f3 g1 g2 0 a b s1 s2 0 0 (fun _ => 0)), true, 0, 0)) rfl ?_
  refine go_tb (t := 61) rfl 1 (by decide) (by decide) rfl ?_
  refine go_n 1 (fr' := (62, [(0, .ref 0), (1, .int 1)], [.ref 0], (ah_w S (nI S) f1 f2 f3 g1 g2 0 a b s1 s2 0 0 (fun _ => 0)), true, 0, 0)) rfl ?_
  refine go_get rfl rfl rfl rfl ?_
  refine go_n 1 (fr' := (66, [(0, .ref 0), (1, .int 1)], [.int 1, .ref 1], (ah_w S (nI S) f1 f2 f3 g1 g2 0 a b s1 s2 0 0 (fun _ => 0)), true, 0, 0)) rfl ?_
  refine go_call (q := 4) (M1 := an_X0_tally) rfl rfl (by decide) rfl ⟨_, rfl⟩ trivial (pl_count_1_3_tally hS1 hS hab hg hs hw) ?_
  refine go_eq (fr' := (69, [(0, .ref 0), (1, .int 1)], [.int 0], (ah_w S (nI S) f1 f2 f3 g1 g2 0 a b s1 s2 0 0 (fun _ => 0)), true, 0, 0)) rfl ?_
  refine go_rt (i := .ireturn) (tg := []) rfl ?_
  rfl
set_option maxRecDepth 20000 in
theorem pl_count_1_1_count {xs : Nat → Int32} {S : Nat} {f1 f2 f3 g1 g2 s1 s2 : Nat → Int32} {a b : Nat} (hS1 : 1 ≤ S) (hS : S ≤ 64) (hab : nI a * nI b = nI S) (hg : ∀ j, j < S → g1 j = -1) (hs : ∀ j, j < 64 → s1 j = -1) (hw : xs 3 = 1) : ai_Ev an_ms an_lk (8, xs) 35 12 95 [.ref 0, .int 1, .ref 85] (ah_w S (nI S) f1 f2 f3 g1 g2 0 a b s1 s2 0 0 (fun _ => 0)) true (.inl (some (.int 0), (ah_w S (nI S) f1 f2 f3 g1 g2 0 a b s1 s2 0 0 (vp_updL (fun _ => 0) 0 ((0 : Int32).toInt64))), true, 0, 0)) := by
  refine ev_of (M := an_L_count) rfl (Nat.le_of_ble_eq_true rfl) ?_
  refine go_n 4 (fr' := (4, [(0, .ref 0), (1, .int 1), (2, .ref 85)], [.int 1, .ref 0, .int 0, .ref 85], (ah_w S (nI S) f1 f2 f3 g1 g2 0 a b s1 s2 0 0 (fun _ => 0)), true, 0, 0)) rfl ?_
  refine go_call (q := 40) (M1 := an_X9_count) rfl rfl (by decide) rfl ⟨_, rfl⟩ trivial (pl_count_1_2_count hS1 hS hab hg hs hw) ?_
  refine go_eq (fr' := (7, [(0, .ref 0), (1, .int 1), (2, .ref 85)], [.int 0, .int 0, .ref 85], (ah_w S (nI S) f1 f2 f3 g1 g2 0 a b s1 s2 0 0 (fun _ => 0)), true, 0, 0)) rfl ?_
  refine go_n 4 (fr' := (16, [(0, .ref 0), (1, .int 1), (2, .ref 85)], [.int 0], (ah_w S (nI S) f1 f2 f3 g1 g2 0 a b s1 s2 0 0 (vp_updL (fun _ => 0) 0 ((0 : Int32).toInt64))), true, 0, 0)) rfl ?_
  refine go_rt (i := .ireturn) (tg := []) rfl ?_
  rfl
set_option maxRecDepth 20000 in
theorem pl_count_1_5_many {xs : Nat → Int32} {S : Nat} {f1 f2 f3 g1 g2 s1 s2 : Nat → Int32} {a b : Nat} (hS1 : 1 ≤ S) (hS : S ≤ 64) (hab : nI a * nI b = nI S) (hg : ∀ j, j < S → g1 j = -1) (hs : ∀ j, j < 64 → s1 j = -1) (hw : xs 3 = 1) : ai_Ev an_ms an_lk (8, xs) 35 11 67 [.ref 49, .int 1] (ah_w S (nI S) f1 f2 f3 g1 g2 0 a b s1 s2 0 0 (vp_updL (fun _ => 0) 0 ((0 : Int32).toInt64))) true (.inl (some (.int 0), (ah_w S (nI S) f1 f2 f3 g1 g2 0 a b s1 s2 0 0 (vp_updL (fun _ => 0) 0 ((0 : Int32).toInt64))), true, 0, 0)) := by
  refine ev_of (M := an_X10_many) rfl (Nat.le_of_ble_eq_true rfl) ?_
  refine go_n 4 (fr' := (4, [(0, .ref 49), (1, .int 1), (2, .int 0), (3, .int 0)], [], (ah_w S (nI S) f1 f2 f3 g1 g2 0 a b s1 s2 0 0 (vp_updL (fun _ => 0) 0 ((0 : Int32).toInt64))), true, 0, 0)) rfl ?_
  refine go_eq (fr' := (4, [(0, .ref 49), (1, .int 1), (2, .int 0), (3, .int (nI 0))], [], (ah_w S (nI S) f1 f2 f3 g1 g2 0 a b s1 s2 0 0 (vp_updL (fun _ => 0) 0 ((0 : Int32).toInt64))), true, 0, 0)) rfl ?_
  refine lp_many hS1 hS hab hg hs (by decide) S 0 (Nat.zero_add _) _ ?_
  refine go_n 1 (fr' := (42, [(0, .ref 49), (1, .int 1), (2, .int 0), (3, .int (nI S))], [.int 0], (ah_w S (nI S) f1 f2 f3 g1 g2 0 a b s1 s2 0 0 (vp_updL (fun _ => 0) 0 ((0 : Int32).toInt64))), true, 0, 0)) rfl ?_
  refine go_rt (i := .ireturn) (tg := []) rfl ?_
  rfl
set_option maxRecDepth 20000 in
theorem pl_count_1_4_count {xs : Nat → Int32} {S : Nat} {f1 f2 f3 g1 g2 s1 s2 : Nat → Int32} {a b : Nat} (hS1 : 1 ≤ S) (hS : S ≤ 64) (hab : nI a * nI b = nI S) (hg : ∀ j, j < S → g1 j = -1) (hs : ∀ j, j < 64 → s1 j = -1) (hw : xs 3 = 1) : ai_Ev an_ms an_lk (8, xs) 35 12 79 [.ref 49, .int 1] (ah_w S (nI S) f1 f2 f3 g1 g2 0 a b s1 s2 0 0 (vp_updL (fun _ => 0) 0 ((0 : Int32).toInt64))) true (.inl (some (.int 0), (ah_w S (nI S) f1 f2 f3 g1 g2 0 a b s1 s2 0 0 (vp_updL (fun _ => 0) 0 ((0 : Int32).toInt64))), true, 0, 0)) := by
  refine ev_of (M := an_X10_count) rfl (Nat.le_of_ble_eq_true rfl) ?_
  refine go_n 2 (fr' := (2, [(0, .ref 49), (1, .int 1)], [.int 0, .ref 49], (ah_w S (nI S) f1 f2 f3 g1 g2 0 a b s1 s2 0 0 (vp_updL (fun _ => 0) 0 ((0 : Int32).toInt64))), true, 0, 0)) rfl ?_
  refine go_put rfl rfl rfl (Nat.le_of_ble_eq_true rfl) rfl ?_
  refine go_n 1 (fr' := (6, [(0, .ref 49), (1, .int 1)], [.int 1], (ah_w S (nI S) f1 f2 f3 g1 g2 0 a b s1 s2 0 0 (vp_updL (fun _ => 0) 0 ((0 : Int32).toInt64))), true, 0, 0)) rfl ?_
  refine go_tb (t := 65) rfl 1 (by decide) (by decide) rfl ?_
  refine go_n 2 (fr' := (67, [(0, .ref 49), (1, .int 1)], [.int 1, .ref 49], (ah_w S (nI S) f1 f2 f3 g1 g2 0 a b s1 s2 0 0 (vp_updL (fun _ => 0) 0 ((0 : Int32).toInt64))), true, 0, 0)) rfl ?_
  refine go_call (q := 67) (M1 := an_X10_many) rfl rfl (by decide) rfl ⟨_, rfl⟩ trivial (pl_count_1_5_many hS1 hS hab hg hs hw) ?_
  refine go_eq (fr' := (70, [(0, .ref 49), (1, .int 1)], [.int 0], (ah_w S (nI S) f1 f2 f3 g1 g2 0 a b s1 s2 0 0 (vp_updL (fun _ => 0) 0 ((0 : Int32).toInt64))), true, 0, 0)) rfl ?_
  refine go_rt (i := .ireturn) (tg := []) rfl ?_
  rfl
set_option maxRecDepth 20000 in
theorem pl_count_1_6_thrown {xs : Nat → Int32} {S : Nat} {f1 f2 f3 g1 g2 s1 s2 : Nat → Int32} {a b : Nat} (hS1 : 1 ≤ S) (hS : S ≤ 64) (hab : nI a * nI b = nI S) (hg : ∀ j, j < S → g1 j = -1) (hs : ∀ j, j < 64 → s1 j = -1) (hw : xs 3 = 1) : ai_Ev an_ms an_lk (8, xs) 35 12 52 [.ref 49] (ah_w S (nI S) f1 f2 f3 g1 g2 0 a b s1 s2 0 0 (vp_updL (fun _ => 0) 0 ((0 : Int32).toInt64))) true (.inl (some (.int 0), (ah_w S (nI S) f1 f2 f3 g1 g2 0 a b s1 s2 0 0 (vp_updL (fun _ => 0) 0 ((0 : Int32).toInt64))), true, 0, 0)) := by
  refine ev_of (M := an_X10_thrown) rfl (Nat.le_of_ble_eq_true rfl) ?_
  refine go_n 1 (fr' := (1, [(0, .ref 49)], [.ref 49], (ah_w S (nI S) f1 f2 f3 g1 g2 0 a b s1 s2 0 0 (vp_updL (fun _ => 0) 0 ((0 : Int32).toInt64))), true, 0, 0)) rfl ?_
  refine go_get rfl rfl rfl rfl ?_
  refine go_rt (i := .ireturn) (tg := []) rfl ?_
  rfl
set_option maxRecDepth 20000 in
theorem pl_count_1 {xs : Nat → Int32} {S : Nat} {f1 f2 f3 g1 g2 s1 s2 : Nat → Int32} {a b : Nat} {ns : Nat} (hS1 : 1 ≤ S) (hS : S ≤ 64) (hab : nI a * nI b = nI S) (hg : ∀ j, j < S → g1 j = -1) (hs : ∀ j, j < 64 → s1 j = -1) (hw : xs 3 = 1) : pl_ok xs (1118, [(0, .ref 1000000), (1, .ref 0), (2, .ref 49), (3, .ref 85), (4, .int 2)], [], (ah_w S (nI S) f1 f2 f3 g1 g2 0 a b s1 s2 0 0 (fun _ => 0)), true, 86, ns) ns := by
  refine pl_mk (h' := (ah_w S (nI S) f1 f2 f3 g1 g2 0 a b s1 s2 0 0 (vp_updL (fun _ => 0) 0 ((0 : Int32).toInt64)))) (ex' := true) (nc := 86) (ns' := ns) ?_ (by omega) (by omega)
  refine go_n 6 (fr' := (1125, [(0, .ref 1000000), (1, .ref 0), (2, .ref 49), (3, .ref 85), (4, .int 2)], [.int (xs 3), .ref 0], (ah_w S (nI S) f1 f2 f3 g1 g2 0 a b s1 s2 0 0 (fun _ => 0)), true, 86, ns)) rfl ?_
  rw [hw]
  refine go_n 1 (fr' := (1126, [(0, .ref 1000000), (1, .ref 0), (2, .ref 49), (3, .ref 85), (4, .int 2)], [.ref 85, .int 1, .ref 0], (ah_w S (nI S) f1 f2 f3 g1 g2 0 a b s1 s2 0 0 (fun _ => 0)), true, 86, ns)) rfl ?_
  refine go_call (q := 95) (M1 := an_L_count) rfl rfl (by decide) rfl trivial trivial (pl_count_1_1_count hS1 hS hab hg hs hw) ?_
  refine go_eq (fr' := (1129, [(0, .ref 1000000), (1, .ref 0), (2, .ref 49), (3, .ref 85), (4, .int 2)], [.int 0], (ah_w S (nI S) f1 f2 f3 g1 g2 0 a b s1 s2 0 0 (vp_updL (fun _ => 0) 0 ((0 : Int32).toInt64))), true, 86, ns)) rfl ?_
  refine go_n 7 (fr' := (1138, [(0, .ref 1000000), (1, .ref 0), (2, .ref 49), (3, .ref 85), (4, .int 2), (5, .int 0)], [.int (xs 3), .ref 49], (ah_w S (nI S) f1 f2 f3 g1 g2 0 a b s1 s2 0 0 (vp_updL (fun _ => 0) 0 ((0 : Int32).toInt64))), true, 86, ns)) rfl ?_
  rw [hw]
  refine go_call (q := 79) (M1 := an_X10_count) rfl rfl (by decide) rfl ⟨_, rfl⟩ trivial (pl_count_1_4_count hS1 hS hab hg hs hw) ?_
  refine go_eq (fr' := (1141, [(0, .ref 1000000), (1, .ref 0), (2, .ref 49), (3, .ref 85), (4, .int 2), (5, .int 0)], [.int 0], (ah_w S (nI S) f1 f2 f3 g1 g2 0 a b s1 s2 0 0 (vp_updL (fun _ => 0) 0 ((0 : Int32).toInt64))), true, 86, ns)) rfl ?_
  refine go_n 2 (fr' := (1144, [(0, .ref 1000000), (1, .ref 0), (2, .ref 49), (3, .ref 85), (4, .int 2), (5, .int 0), (6, .int 0)], [.ref 49], (ah_w S (nI S) f1 f2 f3 g1 g2 0 a b s1 s2 0 0 (vp_updL (fun _ => 0) 0 ((0 : Int32).toInt64))), true, 86, ns)) rfl ?_
  refine go_call (q := 52) (M1 := an_X10_thrown) rfl rfl (by decide) rfl ⟨_, rfl⟩ trivial (pl_count_1_6_thrown hS1 hS hab hg hs hw) ?_
  refine go_eq (fr' := (1147, [(0, .ref 1000000), (1, .ref 0), (2, .ref 49), (3, .ref 85), (4, .int 2), (5, .int 0), (6, .int 0)], [.int 0], (ah_w S (nI S) f1 f2 f3 g1 g2 0 a b s1 s2 0 0 (vp_updL (fun _ => 0) 0 ((0 : Int32).toInt64))), true, 86, ns)) rfl ?_
  refine go_n 10 (fr' := (1166, [(0, .ref 1000000), (1, .ref 0), (2, .ref 49), (3, .ref 85), (4, .int 2), (5, .int 0), (6, .int 0)], [.int (lg_cmp ((0 : Int32).toInt64) ((0 : Int32).toInt64))], (ah_w S (nI S) f1 f2 f3 g1 g2 0 a b s1 s2 0 0 (vp_updL (fun _ => 0) 0 ((0 : Int32).toInt64))), true, 86, ns)) rfl ?_
  refine go_if_eq (t := 1171) rfl (fun q1 => ?_) (fun q1 => absurd (lg_self _) q1)
  refine go_n 1 (fr' := (1174, [(0, .ref 1000000), (1, .ref 0), (2, .ref 49), (3, .ref 85), (4, .int 2), (5, .int 0), (6, .int 0)], [], (ah_w S (nI S) f1 f2 f3 g1 g2 0 a b s1 s2 0 0 (vp_updL (fun _ => 0) 0 ((0 : Int32).toInt64))), true, 86, ns)) rfl ?_
  exact pl_end2
set_option maxRecDepth 20000 in
theorem pl_count_2_3_tally {xs : Nat → Int32} {S : Nat} {f1 f2 f3 g1 g2 s1 s2 : Nat → Int32} {a b : Nat} (hS1 : 1 ≤ S) (hS : S ≤ 64) (hab : nI a * nI b = nI S) (hg : ∀ j, j < S → g1 j = -1) (hs : ∀ j, j < 64 → s1 j = -1) (hw : xs 3 = 2) : ai_Ev an_ms an_lk (8, xs) 35 10 4 [.ref 1, .int 0] (ah_w S (nI S) f1 f2 f3 g1 g2 0 a b s1 s2 0 0 (fun _ => 0)) true (.inl (some (.int 0), (ah_w S (nI S) f1 f2 f3 g1 g2 0 a b s1 s2 0 0 (fun _ => 0)), true, 0, 0)) := by
  refine ev_of (M := an_X0_tally) rfl (Nat.le_of_ble_eq_true rfl) ?_
  refine go_n 4 (fr' := (4, [(0, .ref 1), (1, .int 0), (2, .int 0), (3, .int 0)], [], (ah_w S (nI S) f1 f2 f3 g1 g2 0 a b s1 s2 0 0 (fun _ => 0)), true, 0, 0)) rfl ?_
  refine go_eq (fr' := (4, [(0, .ref 1), (1, .int 0), (2, .int 0), (3, .int (nI 0))], [], (ah_w S (nI S) f1 f2 f3 g1 g2 0 a b s1 s2 0 0 (fun _ => 0)), true, 0, 0)) rfl ?_
  refine lp_tally hS1 hS hab hg hs (by decide) S 0 (Nat.zero_add _) _ ?_
  refine go_n 1 (fr' := (32, [(0, .ref 1), (1, .int 0), (2, .int 0), (3, .int (nI S))], [.int 0], (ah_w S (nI S) f1 f2 f3 g1 g2 0 a b s1 s2 0 0 (fun _ => 0)), true, 0, 0)) rfl ?_
  refine go_rt (i := .ireturn) (tg := []) rfl ?_
  rfl
set_option maxRecDepth 20000 in
theorem pl_count_2_2_count {xs : Nat → Int32} {S : Nat} {f1 f2 f3 g1 g2 s1 s2 : Nat → Int32} {a b : Nat} (hS1 : 1 ≤ S) (hS : S ≤ 64) (hab : nI a * nI b = nI S) (hg : ∀ j, j < S → g1 j = -1) (hs : ∀ j, j < 64 → s1 j = -1) (hw : xs 3 = 2) : ai_Ev an_ms an_lk (8, xs) 35 11 40 [.ref 0, .int 2] (ah_w S (nI S) f1 f2 f3 g1 g2 0 a b s1 s2 0 0 (fun _ => 0)) true (.inl (some (.int 0), (ah_w S (nI S) f1 f2 f3 g1 g2 0 a b s1 s2 0 0 (fun _ => 0)), true, 0, 0)) := by
  refine ev_of (M := an_X9_count) rfl (Nat.le_of_ble_eq_true rfl) ?_
  refine go_n 1 (fr' := (1, [(0, .ref 0), (1, .int 2)], [.int 2], (ah_w S (nI S) f1 f2 f3 g1 g2 0 a b s1 s2 0 0 (fun _ => 0)), true, 0, 0)) rfl ?_
  refine go_tb (t := 70) rfl 2 (by decide) (by decide) rfl ?_
  refine go_n 1 (fr' := (71, [(0, .ref 0), (1, .int 2)], [.ref 0], (ah_w S (nI S) f1 f2 f3 g1 g2 0 a b s1 s2 0 0 (fun _ => 0)), true, 0, 0)) rfl ?_
  refine go_get rfl rfl rfl rfl ?_
  refine go_n 1 (fr' := (75, [(0, .ref 0), (1, .int 2)], [.int 0, .ref 1], (ah_w S (nI S) f1 f2 f3 g1 g2 0 a b s1 s2 0 0 (fun _ => 0)), true, 0, 0)) rfl ?_
  refine go_call (q := 4) (M1 := an_X0_tally) rfl rfl (by decide) rfl ⟨_, rfl⟩ trivial (pl_count_2_3_tally hS1 hS hab hg hs hw) ?_
  refine go_eq (fr' := (78, [(0, .ref 0), (1, .int 2)], [.int 0], (ah_w S (nI S) f1 f2 f3 g1 g2 0 a b s1 s2 0 0 (fun _ => 0)), true, 0, 0)) rfl ?_
  refine go_rt (i := .ireturn) (tg := []) rfl ?_
  rfl
set_option maxRecDepth 20000 in
theorem pl_count_2_1_count {xs : Nat → Int32} {S : Nat} {f1 f2 f3 g1 g2 s1 s2 : Nat → Int32} {a b : Nat} (hS1 : 1 ≤ S) (hS : S ≤ 64) (hab : nI a * nI b = nI S) (hg : ∀ j, j < S → g1 j = -1) (hs : ∀ j, j < 64 → s1 j = -1) (hw : xs 3 = 2) : ai_Ev an_ms an_lk (8, xs) 35 12 95 [.ref 0, .int 2, .ref 85] (ah_w S (nI S) f1 f2 f3 g1 g2 0 a b s1 s2 0 0 (fun _ => 0)) true (.inl (some (.int 0), (ah_w S (nI S) f1 f2 f3 g1 g2 0 a b s1 s2 0 0 (vp_updL (fun _ => 0) 0 ((0 : Int32).toInt64))), true, 0, 0)) := by
  refine ev_of (M := an_L_count) rfl (Nat.le_of_ble_eq_true rfl) ?_
  refine go_n 4 (fr' := (4, [(0, .ref 0), (1, .int 2), (2, .ref 85)], [.int 2, .ref 0, .int 0, .ref 85], (ah_w S (nI S) f1 f2 f3 g1 g2 0 a b s1 s2 0 0 (fun _ => 0)), true, 0, 0)) rfl ?_
  refine go_call (q := 40) (M1 := an_X9_count) rfl rfl (by decide) rfl ⟨_, rfl⟩ trivial (pl_count_2_2_count hS1 hS hab hg hs hw) ?_
  refine go_eq (fr' := (7, [(0, .ref 0), (1, .int 2), (2, .ref 85)], [.int 0, .int 0, .ref 85], (ah_w S (nI S) f1 f2 f3 g1 g2 0 a b s1 s2 0 0 (fun _ => 0)), true, 0, 0)) rfl ?_
  refine go_n 4 (fr' := (16, [(0, .ref 0), (1, .int 2), (2, .ref 85)], [.int 0], (ah_w S (nI S) f1 f2 f3 g1 g2 0 a b s1 s2 0 0 (vp_updL (fun _ => 0) 0 ((0 : Int32).toInt64))), true, 0, 0)) rfl ?_
  refine go_rt (i := .ireturn) (tg := []) rfl ?_
  rfl
set_option maxRecDepth 20000 in
theorem pl_count_2_5_many {xs : Nat → Int32} {S : Nat} {f1 f2 f3 g1 g2 s1 s2 : Nat → Int32} {a b : Nat} (hS1 : 1 ≤ S) (hS : S ≤ 64) (hab : nI a * nI b = nI S) (hg : ∀ j, j < S → g1 j = -1) (hs : ∀ j, j < 64 → s1 j = -1) (hw : xs 3 = 2) : ai_Ev an_ms an_lk (8, xs) 35 11 67 [.ref 49, .int 0] (ah_w S (nI S) f1 f2 f3 g1 g2 0 a b s1 s2 0 0 (vp_updL (fun _ => 0) 0 ((0 : Int32).toInt64))) true (.inl (some (.int 0), (ah_w S (nI S) f1 f2 f3 g1 g2 0 a b s1 s2 0 0 (vp_updL (fun _ => 0) 0 ((0 : Int32).toInt64))), true, 0, 0)) := by
  refine ev_of (M := an_X10_many) rfl (Nat.le_of_ble_eq_true rfl) ?_
  refine go_n 4 (fr' := (4, [(0, .ref 49), (1, .int 0), (2, .int 0), (3, .int 0)], [], (ah_w S (nI S) f1 f2 f3 g1 g2 0 a b s1 s2 0 0 (vp_updL (fun _ => 0) 0 ((0 : Int32).toInt64))), true, 0, 0)) rfl ?_
  refine go_eq (fr' := (4, [(0, .ref 49), (1, .int 0), (2, .int 0), (3, .int (nI 0))], [], (ah_w S (nI S) f1 f2 f3 g1 g2 0 a b s1 s2 0 0 (vp_updL (fun _ => 0) 0 ((0 : Int32).toInt64))), true, 0, 0)) rfl ?_
  refine lp_many hS1 hS hab hg hs (by decide) S 0 (Nat.zero_add _) _ ?_
  refine go_n 1 (fr' := (42, [(0, .ref 49), (1, .int 0), (2, .int 0), (3, .int (nI S))], [.int 0], (ah_w S (nI S) f1 f2 f3 g1 g2 0 a b s1 s2 0 0 (vp_updL (fun _ => 0) 0 ((0 : Int32).toInt64))), true, 0, 0)) rfl ?_
  refine go_rt (i := .ireturn) (tg := []) rfl ?_
  rfl
set_option maxRecDepth 20000 in
theorem pl_count_2_4_count {xs : Nat → Int32} {S : Nat} {f1 f2 f3 g1 g2 s1 s2 : Nat → Int32} {a b : Nat} (hS1 : 1 ≤ S) (hS : S ≤ 64) (hab : nI a * nI b = nI S) (hg : ∀ j, j < S → g1 j = -1) (hs : ∀ j, j < 64 → s1 j = -1) (hw : xs 3 = 2) : ai_Ev an_ms an_lk (8, xs) 35 12 79 [.ref 49, .int 2] (ah_w S (nI S) f1 f2 f3 g1 g2 0 a b s1 s2 0 0 (vp_updL (fun _ => 0) 0 ((0 : Int32).toInt64))) true (.inl (some (.int 0), (ah_w S (nI S) f1 f2 f3 g1 g2 0 a b s1 s2 0 0 (vp_updL (fun _ => 0) 0 ((0 : Int32).toInt64))), true, 0, 0)) := by
  refine ev_of (M := an_X10_count) rfl (Nat.le_of_ble_eq_true rfl) ?_
  refine go_n 2 (fr' := (2, [(0, .ref 49), (1, .int 2)], [.int 0, .ref 49], (ah_w S (nI S) f1 f2 f3 g1 g2 0 a b s1 s2 0 0 (vp_updL (fun _ => 0) 0 ((0 : Int32).toInt64))), true, 0, 0)) rfl ?_
  refine go_put rfl rfl rfl (Nat.le_of_ble_eq_true rfl) rfl ?_
  refine go_n 1 (fr' := (6, [(0, .ref 49), (1, .int 2)], [.int 2], (ah_w S (nI S) f1 f2 f3 g1 g2 0 a b s1 s2 0 0 (vp_updL (fun _ => 0) 0 ((0 : Int32).toInt64))), true, 0, 0)) rfl ?_
  refine go_tb (t := 71) rfl 2 (by decide) (by decide) rfl ?_
  refine go_n 2 (fr' := (73, [(0, .ref 49), (1, .int 2)], [.int 0, .ref 49], (ah_w S (nI S) f1 f2 f3 g1 g2 0 a b s1 s2 0 0 (vp_updL (fun _ => 0) 0 ((0 : Int32).toInt64))), true, 0, 0)) rfl ?_
  refine go_call (q := 67) (M1 := an_X10_many) rfl rfl (by decide) rfl ⟨_, rfl⟩ trivial (pl_count_2_5_many hS1 hS hab hg hs hw) ?_
  refine go_eq (fr' := (76, [(0, .ref 49), (1, .int 2)], [.int 0], (ah_w S (nI S) f1 f2 f3 g1 g2 0 a b s1 s2 0 0 (vp_updL (fun _ => 0) 0 ((0 : Int32).toInt64))), true, 0, 0)) rfl ?_
  refine go_rt (i := .ireturn) (tg := []) rfl ?_
  rfl
set_option maxRecDepth 20000 in
theorem pl_count_2_6_thrown {xs : Nat → Int32} {S : Nat} {f1 f2 f3 g1 g2 s1 s2 : Nat → Int32} {a b : Nat} (hS1 : 1 ≤ S) (hS : S ≤ 64) (hab : nI a * nI b = nI S) (hg : ∀ j, j < S → g1 j = -1) (hs : ∀ j, j < 64 → s1 j = -1) (hw : xs 3 = 2) : ai_Ev an_ms an_lk (8, xs) 35 12 52 [.ref 49] (ah_w S (nI S) f1 f2 f3 g1 g2 0 a b s1 s2 0 0 (vp_updL (fun _ => 0) 0 ((0 : Int32).toInt64))) true (.inl (some (.int 0), (ah_w S (nI S) f1 f2 f3 g1 g2 0 a b s1 s2 0 0 (vp_updL (fun _ => 0) 0 ((0 : Int32).toInt64))), true, 0, 0)) := by
  refine ev_of (M := an_X10_thrown) rfl (Nat.le_of_ble_eq_true rfl) ?_
  refine go_n 1 (fr' := (1, [(0, .ref 49)], [.ref 49], (ah_w S (nI S) f1 f2 f3 g1 g2 0 a b s1 s2 0 0 (vp_updL (fun _ => 0) 0 ((0 : Int32).toInt64))), true, 0, 0)) rfl ?_
  refine go_get rfl rfl rfl rfl ?_
  refine go_rt (i := .ireturn) (tg := []) rfl ?_
  rfl
set_option maxRecDepth 20000 in
theorem pl_count_2 {xs : Nat → Int32} {S : Nat} {f1 f2 f3 g1 g2 s1 s2 : Nat → Int32} {a b : Nat} {ns : Nat} (hS1 : 1 ≤ S) (hS : S ≤ 64) (hab : nI a * nI b = nI S) (hg : ∀ j, j < S → g1 j = -1) (hs : ∀ j, j < 64 → s1 j = -1) (hw : xs 3 = 2) : pl_ok xs (1118, [(0, .ref 1000000), (1, .ref 0), (2, .ref 49), (3, .ref 85), (4, .int 2)], [], (ah_w S (nI S) f1 f2 f3 g1 g2 0 a b s1 s2 0 0 (fun _ => 0)), true, 86, ns) ns := by
  refine pl_mk (h' := (ah_w S (nI S) f1 f2 f3 g1 g2 0 a b s1 s2 0 0 (vp_updL (fun _ => 0) 0 ((0 : Int32).toInt64)))) (ex' := true) (nc := 86) (ns' := ns) ?_ (by omega) (by omega)
  refine go_n 6 (fr' := (1125, [(0, .ref 1000000), (1, .ref 0), (2, .ref 49), (3, .ref 85), (4, .int 2)], [.int (xs 3), .ref 0], (ah_w S (nI S) f1 f2 f3 g1 g2 0 a b s1 s2 0 0 (fun _ => 0)), true, 86, ns)) rfl ?_
  rw [hw]
  refine go_n 1 (fr' := (1126, [(0, .ref 1000000), (1, .ref 0), (2, .ref 49), (3, .ref 85), (4, .int 2)], [.ref 85, .int 2, .ref 0], (ah_w S (nI S) f1 f2 f3 g1 g2 0 a b s1 s2 0 0 (fun _ => 0)), true, 86, ns)) rfl ?_
  refine go_call (q := 95) (M1 := an_L_count) rfl rfl (by decide) rfl trivial trivial (pl_count_2_1_count hS1 hS hab hg hs hw) ?_
  refine go_eq (fr' := (1129, [(0, .ref 1000000), (1, .ref 0), (2, .ref 49), (3, .ref 85), (4, .int 2)], [.int 0], (ah_w S (nI S) f1 f2 f3 g1 g2 0 a b s1 s2 0 0 (vp_updL (fun _ => 0) 0 ((0 : Int32).toInt64))), true, 86, ns)) rfl ?_
  refine go_n 7 (fr' := (1138, [(0, .ref 1000000), (1, .ref 0), (2, .ref 49), (3, .ref 85), (4, .int 2), (5, .int 0)], [.int (xs 3), .ref 49], (ah_w S (nI S) f1 f2 f3 g1 g2 0 a b s1 s2 0 0 (vp_updL (fun _ => 0) 0 ((0 : Int32).toInt64))), true, 86, ns)) rfl ?_
  rw [hw]
  refine go_call (q := 79) (M1 := an_X10_count) rfl rfl (by decide) rfl ⟨_, rfl⟩ trivial (pl_count_2_4_count hS1 hS hab hg hs hw) ?_
  refine go_eq (fr' := (1141, [(0, .ref 1000000), (1, .ref 0), (2, .ref 49), (3, .ref 85), (4, .int 2), (5, .int 0)], [.int 0], (ah_w S (nI S) f1 f2 f3 g1 g2 0 a b s1 s2 0 0 (vp_updL (fun _ => 0) 0 ((0 : Int32).toInt64))), true, 86, ns)) rfl ?_
  refine go_n 2 (fr' := (1144, [(0, .ref 1000000), (1, .ref 0), (2, .ref 49), (3, .ref 85), (4, .int 2), (5, .int 0), (6, .int 0)], [.ref 49], (ah_w S (nI S) f1 f2 f3 g1 g2 0 a b s1 s2 0 0 (vp_updL (fun _ => 0) 0 ((0 : Int32).toInt64))), true, 86, ns)) rfl ?_
  refine go_call (q := 52) (M1 := an_X10_thrown) rfl rfl (by decide) rfl ⟨_, rfl⟩ trivial (pl_count_2_6_thrown hS1 hS hab hg hs hw) ?_
  refine go_eq (fr' := (1147, [(0, .ref 1000000), (1, .ref 0), (2, .ref 49), (3, .ref 85), (4, .int 2), (5, .int 0), (6, .int 0)], [.int 0], (ah_w S (nI S) f1 f2 f3 g1 g2 0 a b s1 s2 0 0 (vp_updL (fun _ => 0) 0 ((0 : Int32).toInt64))), true, 86, ns)) rfl ?_
  refine go_n 10 (fr' := (1166, [(0, .ref 1000000), (1, .ref 0), (2, .ref 49), (3, .ref 85), (4, .int 2), (5, .int 0), (6, .int 0)], [.int (lg_cmp ((0 : Int32).toInt64) ((0 : Int32).toInt64))], (ah_w S (nI S) f1 f2 f3 g1 g2 0 a b s1 s2 0 0 (vp_updL (fun _ => 0) 0 ((0 : Int32).toInt64))), true, 86, ns)) rfl ?_
  refine go_if_eq (t := 1171) rfl (fun q1 => ?_) (fun q1 => absurd (lg_self _) q1)
  refine go_n 1 (fr' := (1174, [(0, .ref 1000000), (1, .ref 0), (2, .ref 49), (3, .ref 85), (4, .int 2), (5, .int 0), (6, .int 0)], [], (ah_w S (nI S) f1 f2 f3 g1 g2 0 a b s1 s2 0 0 (vp_updL (fun _ => 0) 0 ((0 : Int32).toInt64))), true, 86, ns)) rfl ?_
  exact pl_end2
set_option maxRecDepth 20000 in
theorem pl_count_3_3_tally {xs : Nat → Int32} {S : Nat} {f1 f2 f3 g1 g2 s1 s2 : Nat → Int32} {a b : Nat} (hS1 : 1 ≤ S) (hS : S ≤ 64) (hab : nI a * nI b = nI S) (hg : ∀ j, j < S → g1 j = -1) (hs : ∀ j, j < 64 → s1 j = -1) (hw : xs 3 = 3) : ai_Ev an_ms an_lk (8, xs) 35 10 4 [.ref 1, .int 2] (ah_w S (nI S) f1 f2 f3 g1 g2 0 a b s1 s2 0 0 (fun _ => 0)) true (.inl (some (.int 0), (ah_w S (nI S) f1 f2 f3 g1 g2 0 a b s1 s2 0 0 (fun _ => 0)), true, 0, 0)) := by
  refine ev_of (M := an_X0_tally) rfl (Nat.le_of_ble_eq_true rfl) ?_
  refine go_n 4 (fr' := (4, [(0, .ref 1), (1, .int 2), (2, .int 0), (3, .int 0)], [], (ah_w S (nI S) f1 f2 f3 g1 g2 0 a b s1 s2 0 0 (fun _ => 0)), true, 0, 0)) rfl ?_
  refine go_eq (fr' := (4, [(0, .ref 1), (1, .int 2), (2, .int 0), (3, .int (nI 0))], [], (ah_w S (nI S) f1 f2 f3 g1 g2 0 a b s1 s2 0 0 (fun _ => 0)), true, 0, 0)) rfl ?_
  refine lp_tally hS1 hS hab hg hs (by decide) S 0 (Nat.zero_add _) _ ?_
  refine go_n 1 (fr' := (32, [(0, .ref 1), (1, .int 2), (2, .int 0), (3, .int (nI S))], [.int 0], (ah_w S (nI S) f1 f2 f3 g1 g2 0 a b s1 s2 0 0 (fun _ => 0)), true, 0, 0)) rfl ?_
  refine go_rt (i := .ireturn) (tg := []) rfl ?_
  rfl
set_option maxRecDepth 20000 in
theorem pl_count_3_2_count {xs : Nat → Int32} {S : Nat} {f1 f2 f3 g1 g2 s1 s2 : Nat → Int32} {a b : Nat} (hS1 : 1 ≤ S) (hS : S ≤ 64) (hab : nI a * nI b = nI S) (hg : ∀ j, j < S → g1 j = -1) (hs : ∀ j, j < 64 → s1 j = -1) (hw : xs 3 = 3) : ai_Ev an_ms an_lk (8, xs) 35 11 40 [.ref 0, .int 3] (ah_w S (nI S) f1 f2 f3 g1 g2 0 a b s1 s2 0 0 (fun _ => 0)) true (.inl (some (.int 0), (ah_w S (nI S) f1 f2 f3 g1 g2 0 a b s1 s2 0 0 (fun _ => 0)), true, 0, 0)) := by
  refine ev_of (M := an_X9_count) rfl (Nat.le_of_ble_eq_true rfl) ?_
  refine go_n 1 (fr' := (1, [(0, .ref 0), (1, .int 3)], [.int 3], (ah_w S (nI S) f1 f2 f3 g1 g2 0 a b s1 s2 0 0 (fun _ => 0)), true, 0, 0)) rfl ?_
  refine go_tb (t := 79) rfl 3 (by decide) (by decide) rfl ?_
  refine go_n 1 (fr' := (80, [(0, .ref 0), (1, .int 3)], [.ref 0], (ah_w S (nI S) f1 f2 f3 g1 g2 0 a b s1 s2 0 0 (fun _ => 0)), true, 0, 0)) rfl ?_
  refine go_get rfl rfl rfl rfl ?_
  refine go_n 1 (fr' := (84, [(0, .ref 0), (1, .int 3)], [.int 2, .ref 1], (ah_w S (nI S) f1 f2 f3 g1 g2 0 a b s1 s2 0 0 (fun _ => 0)), true, 0, 0)) rfl ?_
  refine go_call (q := 4) (M1 := an_X0_tally) rfl rfl (by decide) rfl ⟨_, rfl⟩ trivial (pl_count_3_3_tally hS1 hS hab hg hs hw) ?_
  refine go_eq (fr' := (87, [(0, .ref 0), (1, .int 3)], [.int 0], (ah_w S (nI S) f1 f2 f3 g1 g2 0 a b s1 s2 0 0 (fun _ => 0)), true, 0, 0)) rfl ?_
  refine go_rt (i := .ireturn) (tg := []) rfl ?_
  rfl
set_option maxRecDepth 20000 in
theorem pl_count_3_1_count {xs : Nat → Int32} {S : Nat} {f1 f2 f3 g1 g2 s1 s2 : Nat → Int32} {a b : Nat} (hS1 : 1 ≤ S) (hS : S ≤ 64) (hab : nI a * nI b = nI S) (hg : ∀ j, j < S → g1 j = -1) (hs : ∀ j, j < 64 → s1 j = -1) (hw : xs 3 = 3) : ai_Ev an_ms an_lk (8, xs) 35 12 95 [.ref 0, .int 3, .ref 85] (ah_w S (nI S) f1 f2 f3 g1 g2 0 a b s1 s2 0 0 (fun _ => 0)) true (.inl (some (.int 0), (ah_w S (nI S) f1 f2 f3 g1 g2 0 a b s1 s2 0 0 (vp_updL (fun _ => 0) 0 ((0 : Int32).toInt64))), true, 0, 0)) := by
  refine ev_of (M := an_L_count) rfl (Nat.le_of_ble_eq_true rfl) ?_
  refine go_n 4 (fr' := (4, [(0, .ref 0), (1, .int 3), (2, .ref 85)], [.int 3, .ref 0, .int 0, .ref 85], (ah_w S (nI S) f1 f2 f3 g1 g2 0 a b s1 s2 0 0 (fun _ => 0)), true, 0, 0)) rfl ?_
  refine go_call (q := 40) (M1 := an_X9_count) rfl rfl (by decide) rfl ⟨_, rfl⟩ trivial (pl_count_3_2_count hS1 hS hab hg hs hw) ?_
  refine go_eq (fr' := (7, [(0, .ref 0), (1, .int 3), (2, .ref 85)], [.int 0, .int 0, .ref 85], (ah_w S (nI S) f1 f2 f3 g1 g2 0 a b s1 s2 0 0 (fun _ => 0)), true, 0, 0)) rfl ?_
  refine go_n 4 (fr' := (16, [(0, .ref 0), (1, .int 3), (2, .ref 85)], [.int 0], (ah_w S (nI S) f1 f2 f3 g1 g2 0 a b s1 s2 0 0 (vp_updL (fun _ => 0) 0 ((0 : Int32).toInt64))), true, 0, 0)) rfl ?_
  refine go_rt (i := .ireturn) (tg := []) rfl ?_
  rfl
set_option maxRecDepth 20000 in
theorem pl_count_3_5_many {xs : Nat → Int32} {S : Nat} {f1 f2 f3 g1 g2 s1 s2 : Nat → Int32} {a b : Nat} (hS1 : 1 ≤ S) (hS : S ≤ 64) (hab : nI a * nI b = nI S) (hg : ∀ j, j < S → g1 j = -1) (hs : ∀ j, j < 64 → s1 j = -1) (hw : xs 3 = 3) : ai_Ev an_ms an_lk (8, xs) 35 11 67 [.ref 49, .int 2] (ah_w S (nI S) f1 f2 f3 g1 g2 0 a b s1 s2 0 0 (vp_updL (fun _ => 0) 0 ((0 : Int32).toInt64))) true (.inl (some (.int 0), (ah_w S (nI S) f1 f2 f3 g1 g2 0 a b s1 s2 0 0 (vp_updL (fun _ => 0) 0 ((0 : Int32).toInt64))), true, 0, 0)) := by
  refine ev_of (M := an_X10_many) rfl (Nat.le_of_ble_eq_true rfl) ?_
  refine go_n 4 (fr' := (4, [(0, .ref 49), (1, .int 2), (2, .int 0), (3, .int 0)], [], (ah_w S (nI S) f1 f2 f3 g1 g2 0 a b s1 s2 0 0 (vp_updL (fun _ => 0) 0 ((0 : Int32).toInt64))), true, 0, 0)) rfl ?_
  refine go_eq (fr' := (4, [(0, .ref 49), (1, .int 2), (2, .int 0), (3, .int (nI 0))], [], (ah_w S (nI S) f1 f2 f3 g1 g2 0 a b s1 s2 0 0 (vp_updL (fun _ => 0) 0 ((0 : Int32).toInt64))), true, 0, 0)) rfl ?_
  refine lp_many hS1 hS hab hg hs (by decide) S 0 (Nat.zero_add _) _ ?_
  refine go_n 1 (fr' := (42, [(0, .ref 49), (1, .int 2), (2, .int 0), (3, .int (nI S))], [.int 0], (ah_w S (nI S) f1 f2 f3 g1 g2 0 a b s1 s2 0 0 (vp_updL (fun _ => 0) 0 ((0 : Int32).toInt64))), true, 0, 0)) rfl ?_
  refine go_rt (i := .ireturn) (tg := []) rfl ?_
  rfl
set_option maxRecDepth 20000 in
theorem pl_count_3_4_count {xs : Nat → Int32} {S : Nat} {f1 f2 f3 g1 g2 s1 s2 : Nat → Int32} {a b : Nat} (hS1 : 1 ≤ S) (hS : S ≤ 64) (hab : nI a * nI b = nI S) (hg : ∀ j, j < S → g1 j = -1) (hs : ∀ j, j < 64 → s1 j = -1) (hw : xs 3 = 3) : ai_Ev an_ms an_lk (8, xs) 35 12 79 [.ref 49, .int 3] (ah_w S (nI S) f1 f2 f3 g1 g2 0 a b s1 s2 0 0 (vp_updL (fun _ => 0) 0 ((0 : Int32).toInt64))) true (.inl (some (.int 0), (ah_w S (nI S) f1 f2 f3 g1 g2 0 a b s1 s2 0 0 (vp_updL (fun _ => 0) 0 ((0 : Int32).toInt64))), true, 0, 0)) := by
  refine ev_of (M := an_X10_count) rfl (Nat.le_of_ble_eq_true rfl) ?_
  refine go_n 2 (fr' := (2, [(0, .ref 49), (1, .int 3)], [.int 0, .ref 49], (ah_w S (nI S) f1 f2 f3 g1 g2 0 a b s1 s2 0 0 (vp_updL (fun _ => 0) 0 ((0 : Int32).toInt64))), true, 0, 0)) rfl ?_
  refine go_put rfl rfl rfl (Nat.le_of_ble_eq_true rfl) rfl ?_
  refine go_n 1 (fr' := (6, [(0, .ref 49), (1, .int 3)], [.int 3], (ah_w S (nI S) f1 f2 f3 g1 g2 0 a b s1 s2 0 0 (vp_updL (fun _ => 0) 0 ((0 : Int32).toInt64))), true, 0, 0)) rfl ?_
  refine go_tb (t := 77) rfl 3 (by decide) (by decide) rfl ?_
  refine go_n 2 (fr' := (79, [(0, .ref 49), (1, .int 3)], [.int 2, .ref 49], (ah_w S (nI S) f1 f2 f3 g1 g2 0 a b s1 s2 0 0 (vp_updL (fun _ => 0) 0 ((0 : Int32).toInt64))), true, 0, 0)) rfl ?_
  refine go_call (q := 67) (M1 := an_X10_many) rfl rfl (by decide) rfl ⟨_, rfl⟩ trivial (pl_count_3_5_many hS1 hS hab hg hs hw) ?_
  refine go_eq (fr' := (82, [(0, .ref 49), (1, .int 3)], [.int 0], (ah_w S (nI S) f1 f2 f3 g1 g2 0 a b s1 s2 0 0 (vp_updL (fun _ => 0) 0 ((0 : Int32).toInt64))), true, 0, 0)) rfl ?_
  refine go_rt (i := .ireturn) (tg := []) rfl ?_
  rfl
set_option maxRecDepth 20000 in
theorem pl_count_3_6_thrown {xs : Nat → Int32} {S : Nat} {f1 f2 f3 g1 g2 s1 s2 : Nat → Int32} {a b : Nat} (hS1 : 1 ≤ S) (hS : S ≤ 64) (hab : nI a * nI b = nI S) (hg : ∀ j, j < S → g1 j = -1) (hs : ∀ j, j < 64 → s1 j = -1) (hw : xs 3 = 3) : ai_Ev an_ms an_lk (8, xs) 35 12 52 [.ref 49] (ah_w S (nI S) f1 f2 f3 g1 g2 0 a b s1 s2 0 0 (vp_updL (fun _ => 0) 0 ((0 : Int32).toInt64))) true (.inl (some (.int 0), (ah_w S (nI S) f1 f2 f3 g1 g2 0 a b s1 s2 0 0 (vp_updL (fun _ => 0) 0 ((0 : Int32).toInt64))), true, 0, 0)) := by
  refine ev_of (M := an_X10_thrown) rfl (Nat.le_of_ble_eq_true rfl) ?_
  refine go_n 1 (fr' := (1, [(0, .ref 49)], [.ref 49], (ah_w S (nI S) f1 f2 f3 g1 g2 0 a b s1 s2 0 0 (vp_updL (fun _ => 0) 0 ((0 : Int32).toInt64))), true, 0, 0)) rfl ?_
  refine go_get rfl rfl rfl rfl ?_
  refine go_rt (i := .ireturn) (tg := []) rfl ?_
  rfl
set_option maxRecDepth 20000 in
theorem pl_count_3 {xs : Nat → Int32} {S : Nat} {f1 f2 f3 g1 g2 s1 s2 : Nat → Int32} {a b : Nat} {ns : Nat} (hS1 : 1 ≤ S) (hS : S ≤ 64) (hab : nI a * nI b = nI S) (hg : ∀ j, j < S → g1 j = -1) (hs : ∀ j, j < 64 → s1 j = -1) (hw : xs 3 = 3) : pl_ok xs (1118, [(0, .ref 1000000), (1, .ref 0), (2, .ref 49), (3, .ref 85), (4, .int 2)], [], (ah_w S (nI S) f1 f2 f3 g1 g2 0 a b s1 s2 0 0 (fun _ => 0)), true, 86, ns) ns := by
  refine pl_mk (h' := (ah_w S (nI S) f1 f2 f3 g1 g2 0 a b s1 s2 0 0 (vp_updL (fun _ => 0) 0 ((0 : Int32).toInt64)))) (ex' := true) (nc := 86) (ns' := ns) ?_ (by omega) (by omega)
  refine go_n 6 (fr' := (1125, [(0, .ref 1000000), (1, .ref 0), (2, .ref 49), (3, .ref 85), (4, .int 2)], [.int (xs 3), .ref 0], (ah_w S (nI S) f1 f2 f3 g1 g2 0 a b s1 s2 0 0 (fun _ => 0)), true, 86, ns)) rfl ?_
  rw [hw]
  refine go_n 1 (fr' := (1126, [(0, .ref 1000000), (1, .ref 0), (2, .ref 49), (3, .ref 85), (4, .int 2)], [.ref 85, .int 3, .ref 0], (ah_w S (nI S) f1 f2 f3 g1 g2 0 a b s1 s2 0 0 (fun _ => 0)), true, 86, ns)) rfl ?_
  refine go_call (q := 95) (M1 := an_L_count) rfl rfl (by decide) rfl trivial trivial (pl_count_3_1_count hS1 hS hab hg hs hw) ?_
  refine go_eq (fr' := (1129, [(0, .ref 1000000), (1, .ref 0), (2, .ref 49), (3, .ref 85), (4, .int 2)], [.int 0], (ah_w S (nI S) f1 f2 f3 g1 g2 0 a b s1 s2 0 0 (vp_updL (fun _ => 0) 0 ((0 : Int32).toInt64))), true, 86, ns)) rfl ?_
  refine go_n 7 (fr' := (1138, [(0, .ref 1000000), (1, .ref 0), (2, .ref 49), (3, .ref 85), (4, .int 2), (5, .int 0)], [.int (xs 3), .ref 49], (ah_w S (nI S) f1 f2 f3 g1 g2 0 a b s1 s2 0 0 (vp_updL (fun _ => 0) 0 ((0 : Int32).toInt64))), true, 86, ns)) rfl ?_
  rw [hw]
  refine go_call (q := 79) (M1 := an_X10_count) rfl rfl (by decide) rfl ⟨_, rfl⟩ trivial (pl_count_3_4_count hS1 hS hab hg hs hw) ?_
  refine go_eq (fr' := (1141, [(0, .ref 1000000), (1, .ref 0), (2, .ref 49), (3, .ref 85), (4, .int 2), (5, .int 0)], [.int 0], (ah_w S (nI S) f1 f2 f3 g1 g2 0 a b s1 s2 0 0 (vp_updL (fun _ => 0) 0 ((0 : Int32).toInt64))), true, 86, ns)) rfl ?_
  refine go_n 2 (fr' := (1144, [(0, .ref 1000000), (1, .ref 0), (2, .ref 49), (3, .ref 85), (4, .int 2), (5, .int 0), (6, .int 0)], [.ref 49], (ah_w S (nI S) f1 f2 f3 g1 g2 0 a b s1 s2 0 0 (vp_updL (fun _ => 0) 0 ((0 : Int32).toInt64))), true, 86, ns)) rfl ?_
  refine go_call (q := 52) (M1 := an_X10_thrown) rfl rfl (by decide) rfl ⟨_, rfl⟩ trivial (pl_count_3_6_thrown hS1 hS hab hg hs hw) ?_
  refine go_eq (fr' := (1147, [(0, .ref 1000000), (1, .ref 0), (2, .ref 49), (3, .ref 85), (4, .int 2), (5, .int 0), (6, .int 0)], [.int 0], (ah_w S (nI S) f1 f2 f3 g1 g2 0 a b s1 s2 0 0 (vp_updL (fun _ => 0) 0 ((0 : Int32).toInt64))), true, 86, ns)) rfl ?_
  refine go_n 10 (fr' := (1166, [(0, .ref 1000000), (1, .ref 0), (2, .ref 49), (3, .ref 85), (4, .int 2), (5, .int 0), (6, .int 0)], [.int (lg_cmp ((0 : Int32).toInt64) ((0 : Int32).toInt64))], (ah_w S (nI S) f1 f2 f3 g1 g2 0 a b s1 s2 0 0 (vp_updL (fun _ => 0) 0 ((0 : Int32).toInt64))), true, 86, ns)) rfl ?_
  refine go_if_eq (t := 1171) rfl (fun q1 => ?_) (fun q1 => absurd (lg_self _) q1)
  refine go_n 1 (fr' := (1174, [(0, .ref 1000000), (1, .ref 0), (2, .ref 49), (3, .ref 85), (4, .int 2), (5, .int 0), (6, .int 0)], [], (ah_w S (nI S) f1 f2 f3 g1 g2 0 a b s1 s2 0 0 (vp_updL (fun _ => 0) 0 ((0 : Int32).toInt64))), true, 86, ns)) rfl ?_
  exact pl_end2
set_option maxRecDepth 20000 in
theorem pl_count_4_3_tally {xs : Nat → Int32} {S : Nat} {f1 f2 f3 g1 g2 s1 s2 : Nat → Int32} {a b : Nat} (hS1 : 1 ≤ S) (hS : S ≤ 64) (hab : nI a * nI b = nI S) (hg : ∀ j, j < S → g1 j = -1) (hs : ∀ j, j < 64 → s1 j = -1) (hw : xs 3 = 4) : ai_Ev an_ms an_lk (8, xs) 35 10 4 [.ref 1, .int 3] (ah_w S (nI S) f1 f2 f3 g1 g2 0 a b s1 s2 0 0 (fun _ => 0)) true (.inl (some (.int 0), (ah_w S (nI S) f1 f2 f3 g1 g2 0 a b s1 s2 0 0 (fun _ => 0)), true, 0, 0)) := by
  refine ev_of (M := an_X0_tally) rfl (Nat.le_of_ble_eq_true rfl) ?_
  refine go_n 4 (fr' := (4, [(0, .ref 1), (1, .int 3), (2, .int 0), (3, .int 0)], [], (ah_w S (nI S) f1 f2 f3 g1 g2 0 a b s1 s2 0 0 (fun _ => 0)), true, 0, 0)) rfl ?_
  refine go_eq (fr' := (4, [(0, .ref 1), (1, .int 3), (2, .int 0), (3, .int (nI 0))], [], (ah_w S (nI S) f1 f2 f3 g1 g2 0 a b s1 s2 0 0 (fun _ => 0)), true, 0, 0)) rfl ?_
  refine lp_tally hS1 hS hab hg hs (by decide) S 0 (Nat.zero_add _) _ ?_
  refine go_n 1 (fr' := (32, [(0, .ref 1), (1, .int 3), (2, .int 0), (3, .int (nI S))], [.int 0], (ah_w S (nI S) f1 f2 f3 g1 g2 0 a b s1 s2 0 0 (fun _ => 0)), true, 0, 0)) rfl ?_
  refine go_rt (i := .ireturn) (tg := []) rfl ?_
  rfl
set_option maxRecDepth 20000 in
theorem pl_count_4_2_count {xs : Nat → Int32} {S : Nat} {f1 f2 f3 g1 g2 s1 s2 : Nat → Int32} {a b : Nat} (hS1 : 1 ≤ S) (hS : S ≤ 64) (hab : nI a * nI b = nI S) (hg : ∀ j, j < S → g1 j = -1) (hs : ∀ j, j < 64 → s1 j = -1) (hw : xs 3 = 4) : ai_Ev an_ms an_lk (8, xs) 35 11 40 [.ref 0, .int 4] (ah_w S (nI S) f1 f2 f3 g1 g2 0 a b s1 s2 0 0 (fun _ => 0)) true (.inl (some (.int 0), (ah_w S (nI S) f1 f2 f3 g1 g2 0 a b s1 s2 0 0 (fun _ => 0)), true, 0, 0)) := by
  refine ev_of (M := an_X9_count) rfl (Nat.le_of_ble_eq_true rfl) ?_
  refine go_n 1 (fr' := (1, [(0, .ref 0), (1, .int 4)], [.int 4], (ah_w S (nI S) f1 f2 f3 g1 g2 0 a b s1 s2 0 0 (fun _ => 0)), true, 0, 0)) rfl ?_
  refine go_tb (t := 88) rfl 4 (by decide) (by decide) rfl ?_
  refine go_n 1 (fr' := (89, [(0, .ref 0), (1, .int 4)], [.ref 0], (ah_w S (nI S) f1 f2 f3 g1 g2 0 a b s1 s2 0 0 (fun _ => 0)), true, 0, 0)) rfl ?_
  refine go_get rfl rfl rfl rfl ?_
  refine go_n 1 (fr' := (93, [(0, .ref 0), (1, .int 4)], [.int 3, .ref 1], (ah_w S (nI S) f1 f2 f3 g1 g2 0 a b s1 s2 0 0 (fun _ => 0)), true, 0, 0)) rfl ?_
  refine go_call (q := 4) (M1 := an_X0_tally) rfl rfl (by decide) rfl ⟨_, rfl⟩ trivial (pl_count_4_3_tally hS1 hS hab hg hs hw) ?_
  refine go_eq (fr' := (96, [(0, .ref 0), (1, .int 4)], [.int 0], (ah_w S (nI S) f1 f2 f3 g1 g2 0 a b s1 s2 0 0 (fun _ => 0)), true, 0, 0)) rfl ?_
  refine go_rt (i := .ireturn) (tg := []) rfl ?_
  rfl
set_option maxRecDepth 20000 in
theorem pl_count_4_1_count {xs : Nat → Int32} {S : Nat} {f1 f2 f3 g1 g2 s1 s2 : Nat → Int32} {a b : Nat} (hS1 : 1 ≤ S) (hS : S ≤ 64) (hab : nI a * nI b = nI S) (hg : ∀ j, j < S → g1 j = -1) (hs : ∀ j, j < 64 → s1 j = -1) (hw : xs 3 = 4) : ai_Ev an_ms an_lk (8, xs) 35 12 95 [.ref 0, .int 4, .ref 85] (ah_w S (nI S) f1 f2 f3 g1 g2 0 a b s1 s2 0 0 (fun _ => 0)) true (.inl (some (.int 0), (ah_w S (nI S) f1 f2 f3 g1 g2 0 a b s1 s2 0 0 (vp_updL (fun _ => 0) 0 ((0 : Int32).toInt64))), true, 0, 0)) := by
  refine ev_of (M := an_L_count) rfl (Nat.le_of_ble_eq_true rfl) ?_
  refine go_n 4 (fr' := (4, [(0, .ref 0), (1, .int 4), (2, .ref 85)], [.int 4, .ref 0, .int 0, .ref 85], (ah_w S (nI S) f1 f2 f3 g1 g2 0 a b s1 s2 0 0 (fun _ => 0)), true, 0, 0)) rfl ?_
  refine go_call (q := 40) (M1 := an_X9_count) rfl rfl (by decide) rfl ⟨_, rfl⟩ trivial (pl_count_4_2_count hS1 hS hab hg hs hw) ?_
  refine go_eq (fr' := (7, [(0, .ref 0), (1, .int 4), (2, .ref 85)], [.int 0, .int 0, .ref 85], (ah_w S (nI S) f1 f2 f3 g1 g2 0 a b s1 s2 0 0 (fun _ => 0)), true, 0, 0)) rfl ?_
  refine go_n 4 (fr' := (16, [(0, .ref 0), (1, .int 4), (2, .ref 85)], [.int 0], (ah_w S (nI S) f1 f2 f3 g1 g2 0 a b s1 s2 0 0 (vp_updL (fun _ => 0) 0 ((0 : Int32).toInt64))), true, 0, 0)) rfl ?_
  refine go_rt (i := .ireturn) (tg := []) rfl ?_
  rfl
set_option maxRecDepth 20000 in
theorem pl_count_4_5_many {xs : Nat → Int32} {S : Nat} {f1 f2 f3 g1 g2 s1 s2 : Nat → Int32} {a b : Nat} (hS1 : 1 ≤ S) (hS : S ≤ 64) (hab : nI a * nI b = nI S) (hg : ∀ j, j < S → g1 j = -1) (hs : ∀ j, j < 64 → s1 j = -1) (hw : xs 3 = 4) : ai_Ev an_ms an_lk (8, xs) 35 11 67 [.ref 49, .int 3] (ah_w S (nI S) f1 f2 f3 g1 g2 0 a b s1 s2 0 0 (vp_updL (fun _ => 0) 0 ((0 : Int32).toInt64))) true (.inl (some (.int 0), (ah_w S (nI S) f1 f2 f3 g1 g2 0 a b s1 s2 0 0 (vp_updL (fun _ => 0) 0 ((0 : Int32).toInt64))), true, 0, 0)) := by
  refine ev_of (M := an_X10_many) rfl (Nat.le_of_ble_eq_true rfl) ?_
  refine go_n 4 (fr' := (4, [(0, .ref 49), (1, .int 3), (2, .int 0), (3, .int 0)], [], (ah_w S (nI S) f1 f2 f3 g1 g2 0 a b s1 s2 0 0 (vp_updL (fun _ => 0) 0 ((0 : Int32).toInt64))), true, 0, 0)) rfl ?_
  refine go_eq (fr' := (4, [(0, .ref 49), (1, .int 3), (2, .int 0), (3, .int (nI 0))], [], (ah_w S (nI S) f1 f2 f3 g1 g2 0 a b s1 s2 0 0 (vp_updL (fun _ => 0) 0 ((0 : Int32).toInt64))), true, 0, 0)) rfl ?_
  refine lp_many hS1 hS hab hg hs (by decide) S 0 (Nat.zero_add _) _ ?_
  refine go_n 1 (fr' := (42, [(0, .ref 49), (1, .int 3), (2, .int 0), (3, .int (nI S))], [.int 0], (ah_w S (nI S) f1 f2 f3 g1 g2 0 a b s1 s2 0 0 (vp_updL (fun _ => 0) 0 ((0 : Int32).toInt64))), true, 0, 0)) rfl ?_
  refine go_rt (i := .ireturn) (tg := []) rfl ?_
  rfl
set_option maxRecDepth 20000 in
theorem pl_count_4_4_count {xs : Nat → Int32} {S : Nat} {f1 f2 f3 g1 g2 s1 s2 : Nat → Int32} {a b : Nat} (hS1 : 1 ≤ S) (hS : S ≤ 64) (hab : nI a * nI b = nI S) (hg : ∀ j, j < S → g1 j = -1) (hs : ∀ j, j < 64 → s1 j = -1) (hw : xs 3 = 4) : ai_Ev an_ms an_lk (8, xs) 35 12 79 [.ref 49, .int 4] (ah_w S (nI S) f1 f2 f3 g1 g2 0 a b s1 s2 0 0 (vp_updL (fun _ => 0) 0 ((0 : Int32).toInt64))) true (.inl (some (.int 0), (ah_w S (nI S) f1 f2 f3 g1 g2 0 a b s1 s2 0 0 (vp_updL (fun _ => 0) 0 ((0 : Int32).toInt64))), true, 0, 0)) := by
  refine ev_of (M := an_X10_count) rfl (Nat.le_of_ble_eq_true rfl) ?_
  refine go_n 2 (fr' := (2, [(0, .ref 49), (1, .int 4)], [.int 0, .ref 49], (ah_w S (nI S) f1 f2 f3 g1 g2 0 a b s1 s2 0 0 (vp_updL (fun _ => 0) 0 ((0 : Int32).toInt64))), true, 0, 0)) rfl ?_
  refine go_put rfl rfl rfl (Nat.le_of_ble_eq_true rfl) rfl ?_
  refine go_n 1 (fr' := (6, [(0, .ref 49), (1, .int 4)], [.int 4], (ah_w S (nI S) f1 f2 f3 g1 g2 0 a b s1 s2 0 0 (vp_updL (fun _ => 0) 0 ((0 : Int32).toInt64))), true, 0, 0)) rfl ?_
  refine go_tb (t := 83) rfl 4 (by decide) (by decide) rfl ?_
  refine go_n 2 (fr' := (85, [(0, .ref 49), (1, .int 4)], [.int 3, .ref 49], (ah_w S (nI S) f1 f2 f3 g1 g2 0 a b s1 s2 0 0 (vp_updL (fun _ => 0) 0 ((0 : Int32).toInt64))), true, 0, 0)) rfl ?_
  refine go_call (q := 67) (M1 := an_X10_many) rfl rfl (by decide) rfl ⟨_, rfl⟩ trivial (pl_count_4_5_many hS1 hS hab hg hs hw) ?_
  refine go_eq (fr' := (88, [(0, .ref 49), (1, .int 4)], [.int 0], (ah_w S (nI S) f1 f2 f3 g1 g2 0 a b s1 s2 0 0 (vp_updL (fun _ => 0) 0 ((0 : Int32).toInt64))), true, 0, 0)) rfl ?_
  refine go_rt (i := .ireturn) (tg := []) rfl ?_
  rfl
set_option maxRecDepth 20000 in
theorem pl_count_4_6_thrown {xs : Nat → Int32} {S : Nat} {f1 f2 f3 g1 g2 s1 s2 : Nat → Int32} {a b : Nat} (hS1 : 1 ≤ S) (hS : S ≤ 64) (hab : nI a * nI b = nI S) (hg : ∀ j, j < S → g1 j = -1) (hs : ∀ j, j < 64 → s1 j = -1) (hw : xs 3 = 4) : ai_Ev an_ms an_lk (8, xs) 35 12 52 [.ref 49] (ah_w S (nI S) f1 f2 f3 g1 g2 0 a b s1 s2 0 0 (vp_updL (fun _ => 0) 0 ((0 : Int32).toInt64))) true (.inl (some (.int 0), (ah_w S (nI S) f1 f2 f3 g1 g2 0 a b s1 s2 0 0 (vp_updL (fun _ => 0) 0 ((0 : Int32).toInt64))), true, 0, 0)) := by
  refine ev_of (M := an_X10_thrown) rfl (Nat.le_of_ble_eq_true rfl) ?_
  refine go_n 1 (fr' := (1, [(0, .ref 49)], [.ref 49], (ah_w S (nI S) f1 f2 f3 g1 g2 0 a b s1 s2 0 0 (vp_updL (fun _ => 0) 0 ((0 : Int32).toInt64))), true, 0, 0)) rfl ?_
  refine go_get rfl rfl rfl rfl ?_
  refine go_rt (i := .ireturn) (tg := []) rfl ?_
  rfl
set_option maxRecDepth 20000 in
theorem pl_count_4 {xs : Nat → Int32} {S : Nat} {f1 f2 f3 g1 g2 s1 s2 : Nat → Int32} {a b : Nat} {ns : Nat} (hS1 : 1 ≤ S) (hS : S ≤ 64) (hab : nI a * nI b = nI S) (hg : ∀ j, j < S → g1 j = -1) (hs : ∀ j, j < 64 → s1 j = -1) (hw : xs 3 = 4) : pl_ok xs (1118, [(0, .ref 1000000), (1, .ref 0), (2, .ref 49), (3, .ref 85), (4, .int 2)], [], (ah_w S (nI S) f1 f2 f3 g1 g2 0 a b s1 s2 0 0 (fun _ => 0)), true, 86, ns) ns := by
  refine pl_mk (h' := (ah_w S (nI S) f1 f2 f3 g1 g2 0 a b s1 s2 0 0 (vp_updL (fun _ => 0) 0 ((0 : Int32).toInt64)))) (ex' := true) (nc := 86) (ns' := ns) ?_ (by omega) (by omega)
  refine go_n 6 (fr' := (1125, [(0, .ref 1000000), (1, .ref 0), (2, .ref 49), (3, .ref 85), (4, .int 2)], [.int (xs 3), .ref 0], (ah_w S (nI S) f1 f2 f3 g1 g2 0 a b s1 s2 0 0 (fun _ => 0)), true, 86, ns)) rfl ?_
  rw [hw]
  refine go_n 1 (fr' := (1126, [(0, .ref 1000000), (1, .ref 0), (2, .ref 49), (3, .ref 85), (4, .int 2)], [.ref 85, .int 4, .ref 0], (ah_w S (nI S) f1 f2 f3 g1 g2 0 a b s1 s2 0 0 (fun _ => 0)), true, 86, ns)) rfl ?_
  refine go_call (q := 95) (M1 := an_L_count) rfl rfl (by decide) rfl trivial trivial (pl_count_4_1_count hS1 hS hab hg hs hw) ?_
  refine go_eq (fr' := (1129, [(0, .ref 1000000), (1, .ref 0), (2, .ref 49), (3, .ref 85), (4, .int 2)], [.int 0], (ah_w S (nI S) f1 f2 f3 g1 g2 0 a b s1 s2 0 0 (vp_updL (fun _ => 0) 0 ((0 : Int32).toInt64))), true, 86, ns)) rfl ?_
  refine go_n 7 (fr' := (1138, [(0, .ref 1000000), (1, .ref 0), (2, .ref 49), (3, .ref 85), (4, .int 2), (5, .int 0)], [.int (xs 3), .ref 49], (ah_w S (nI S) f1 f2 f3 g1 g2 0 a b s1 s2 0 0 (vp_updL (fun _ => 0) 0 ((0 : Int32).toInt64))), true, 86, ns)) rfl ?_
  rw [hw]
  refine go_call (q := 79) (M1 := an_X10_count) rfl rfl (by decide) rfl ⟨_, rfl⟩ trivial (pl_count_4_4_count hS1 hS hab hg hs hw) ?_
  refine go_eq (fr' := (1141, [(0, .ref 1000000), (1, .ref 0), (2, .ref 49), (3, .ref 85), (4, .int 2), (5, .int 0)], [.int 0], (ah_w S (nI S) f1 f2 f3 g1 g2 0 a b s1 s2 0 0 (vp_updL (fun _ => 0) 0 ((0 : Int32).toInt64))), true, 86, ns)) rfl ?_
  refine go_n 2 (fr' := (1144, [(0, .ref 1000000), (1, .ref 0), (2, .ref 49), (3, .ref 85), (4, .int 2), (5, .int 0), (6, .int 0)], [.ref 49], (ah_w S (nI S) f1 f2 f3 g1 g2 0 a b s1 s2 0 0 (vp_updL (fun _ => 0) 0 ((0 : Int32).toInt64))), true, 86, ns)) rfl ?_
  refine go_call (q := 52) (M1 := an_X10_thrown) rfl rfl (by decide) rfl ⟨_, rfl⟩ trivial (pl_count_4_6_thrown hS1 hS hab hg hs hw) ?_
  refine go_eq (fr' := (1147, [(0, .ref 1000000), (1, .ref 0), (2, .ref 49), (3, .ref 85), (4, .int 2), (5, .int 0), (6, .int 0)], [.int 0], (ah_w S (nI S) f1 f2 f3 g1 g2 0 a b s1 s2 0 0 (vp_updL (fun _ => 0) 0 ((0 : Int32).toInt64))), true, 86, ns)) rfl ?_
  refine go_n 10 (fr' := (1166, [(0, .ref 1000000), (1, .ref 0), (2, .ref 49), (3, .ref 85), (4, .int 2), (5, .int 0), (6, .int 0)], [.int (lg_cmp ((0 : Int32).toInt64) ((0 : Int32).toInt64))], (ah_w S (nI S) f1 f2 f3 g1 g2 0 a b s1 s2 0 0 (vp_updL (fun _ => 0) 0 ((0 : Int32).toInt64))), true, 86, ns)) rfl ?_
  refine go_if_eq (t := 1171) rfl (fun q1 => ?_) (fun q1 => absurd (lg_self _) q1)
  refine go_n 1 (fr' := (1174, [(0, .ref 1000000), (1, .ref 0), (2, .ref 49), (3, .ref 85), (4, .int 2), (5, .int 0), (6, .int 0)], [], (ah_w S (nI S) f1 f2 f3 g1 g2 0 a b s1 s2 0 0 (vp_updL (fun _ => 0) 0 ((0 : Int32).toInt64))), true, 86, ns)) rfl ?_
  exact pl_end2
