set_option maxRecDepth 20000 in
theorem ph_2_crewsGo {xs : Nat → Int32} {S : Nat} {f1 f2 f3 g1 g2 s1 s2 : Nat → Int32} {a b : Nat} (hS1 : 1 ≤ S) (hS : S ≤ 64) (hab : nI a * nI b = nI S) (hg : ∀ j, j < S → g1 j = -1) (hs : ∀ j, j < 64 → s1 j = -1) {u v t : Int32} {lo : Nat → Int64} : ai_Ev an_ms an_lk (8, xs) 35 9 46 [.ref 0] (ah_w S (nI S) f1 f2 f3 g1 g2 u a b s1 s2 v t lo) true (.inl (none, (ah_w S (nI S) f1 f2 f3 g1 g2 u a b s1 s2 v t lo), true, 0, 0)) := by
  refine ev_of (M := an_X9_crewsGo) rfl (Nat.le_of_ble_eq_true rfl) ?_
  refine go_n 4 (fr' := (4, [(0, .ref 0), (1, .int 0)], [.ref 0, .int 0], (ah_w S (nI S) f1 f2 f3 g1 g2 u a b s1 s2 v t lo), true, 0, 0)) rfl ?_
  refine go_get rfl rfl rfl rfl ?_
  refine go_get rfl rfl rfl rfl ?_
  refine go_n 1 (fr' := (80, [(0, .ref 0), (1, .int 0)], [], (ah_w S (nI S) f1 f2 f3 g1 g2 u a b s1 s2 v t lo), true, 0, 0)) rfl ?_
  refine go_rt (i := .return_) (tg := []) rfl ?_
  rfl
set_option maxRecDepth 20000 in
theorem ph_3_giveRoofs {xs : Nat → Int32} {S : Nat} {f1 f2 f3 g1 g2 s1 s2 : Nat → Int32} {a b : Nat} (hS1 : 1 ≤ S) (hS : S ≤ 64) (hab : nI a * nI b = nI S) (hg : ∀ j, j < S → g1 j = -1) (hs : ∀ j, j < 64 → s1 j = -1) {u v t : Int32} {lo : Nat → Int64} : ai_Ev an_ms an_lk (8, xs) 35 9 47 [.ref 0] (ah_w S (nI S) f1 f2 f3 g1 g2 u a b s1 s2 v t lo) true (.inl (none, (ah_w S (nI S) f1 f2 f3 g1 g2 u a b s1 s2 v t lo), true, 0, 0)) := by
  refine ev_of (M := an_X9_giveRoofs) rfl (Nat.le_of_ble_eq_true rfl) ?_
  refine go_n 2 (fr' := (2, [(0, .ref 0), (1, .int 0)], [], (ah_w S (nI S) f1 f2 f3 g1 g2 u a b s1 s2 v t lo), true, 0, 0)) rfl ?_
  refine go_eq (fr' := (2, [(0, .ref 0), (1, .int (nI 0))], [], (ah_w S (nI S) f1 f2 f3 g1 g2 u a b s1 s2 v t lo), true, 0, 0)) rfl ?_
  refine lp_giveRoofs hS1 hS hab hg hs  S 0 (Nat.zero_add _) _ ?_
  refine go_rt (i := .return_) (tg := []) rfl ?_
  rfl
set_option maxRecDepth 20000 in
theorem ph_4_crewsWork {xs : Nat → Int32} {S : Nat} {f1 f2 f3 g1 g2 s1 s2 : Nat → Int32} {a b : Nat} (hS1 : 1 ≤ S) (hS : S ≤ 64) (hab : nI a * nI b = nI S) (hg : ∀ j, j < S → g1 j = -1) (hs : ∀ j, j < 64 → s1 j = -1) {u v t : Int32} {lo : Nat → Int64} : ai_Ev an_ms an_lk (8, xs) 35 9 48 [.ref 0] (ah_w S (nI S) f1 f2 f3 g1 g2 u a b s1 s2 v t lo) true (.inl (none, (ah_w S (nI S) f1 f2 f3 g1 g2 u a b s1 s2 v t lo), true, 0, 0)) := by
  refine ev_of (M := an_X9_crewsWork) rfl (Nat.le_of_ble_eq_true rfl) ?_
  refine go_n 4 (fr' := (4, [(0, .ref 0), (1, .int 0)], [.ref 0, .int 0], (ah_w S (nI S) f1 f2 f3 g1 g2 u a b s1 s2 v t lo), true, 0, 0)) rfl ?_
  refine go_get rfl rfl rfl rfl ?_
  refine go_get rfl rfl rfl rfl ?_
  refine go_n 1 (fr' := (153, [(0, .ref 0), (1, .int 0)], [], (ah_w S (nI S) f1 f2 f3 g1 g2 u a b s1 s2 v t lo), true, 0, 0)) rfl ?_
  refine go_rt (i := .return_) (tg := []) rfl ?_
  rfl
set_option maxRecDepth 20000 in
theorem ph_5_fireEats {xs : Nat → Int32} {S : Nat} {f1 f2 f3 g1 g2 s1 s2 : Nat → Int32} {a b : Nat} (hS1 : 1 ≤ S) (hS : S ≤ 64) (hab : nI a * nI b = nI S) (hg : ∀ j, j < S → g1 j = -1) (hs : ∀ j, j < 64 → s1 j = -1) {u v t : Int32} {lo : Nat → Int64} : ai_Ev an_ms an_lk (8, xs) 35 9 49 [.ref 0] (ah_w S (nI S) f1 f2 f3 g1 g2 u a b s1 s2 v t lo) true (.inl (none, (ah_w S (nI S) f1 f2 f3 g1 g2 u a b s1 s2 v t lo), true, 0, 0)) := by
  refine ev_of (M := an_X9_fireEats) rfl (Nat.le_of_ble_eq_true rfl) ?_
  refine go_n 2 (fr' := (2, [(0, .ref 0), (1, .int 0)], [], (ah_w S (nI S) f1 f2 f3 g1 g2 u a b s1 s2 v t lo), true, 0, 0)) rfl ?_
  refine go_eq (fr' := (2, [(0, .ref 0), (1, .int (nI 0))], [], (ah_w S (nI S) f1 f2 f3 g1 g2 u a b s1 s2 v t lo), true, 0, 0)) rfl ?_
  refine lp_fireEats hS1 hS hab hg hs  S 0 (Nat.zero_add _) _ ?_
  refine go_rt (i := .return_) (tg := []) rfl ?_
  rfl
set_option maxRecDepth 20000 in
theorem ph_6_warmUp {xs : Nat → Int32} {S : Nat} {f1 f2 f3 g1 g2 s1 s2 : Nat → Int32} {a b : Nat} (hS1 : 1 ≤ S) (hS : S ≤ 64) (hab : nI a * nI b = nI S) (hg : ∀ j, j < S → g1 j = -1) (hs : ∀ j, j < 64 → s1 j = -1) {u v t : Int32} {lo : Nat → Int64} : ai_Ev an_ms an_lk (8, xs) 35 9 5 [.ref 1, .ref 48] (ah_w S (nI S) f1 f2 f3 g1 g2 u a b s1 s2 v t lo) true (.inl (some (.int 0), (ah_w S (nI S) f1 f2 f3 g1 g2 u a b s1 s2 v t lo), true, 0, 0)) := by
  refine ev_of (M := an_X0_warmUp) rfl (Nat.le_of_ble_eq_true rfl) ?_
  refine go_n 2 (fr' := (2, [(0, .ref 1), (1, .ref 48), (2, .int 0)], [], (ah_w S (nI S) f1 f2 f3 g1 g2 u a b s1 s2 v t lo), true, 0, 0)) rfl ?_
  refine go_eq (fr' := (2, [(0, .ref 1), (1, .ref 48), (2, .int (nI 0))], [], (ah_w S (nI S) f1 f2 f3 g1 g2 u a b s1 s2 v t lo), true, 0, 0)) rfl ?_
  refine lp_warmUp1 hS1 hS hab hg hs  S 0 (Nat.zero_add _) _ ?_
  refine go_n 4 (fr' := (53, [(0, .ref 1), (1, .ref 48), (2, .int 0), (3, .int 0)], [], (ah_w S (nI S) f1 f2 f3 g1 g2 u a b s1 s2 v t lo), true, 0, 0)) rfl ?_
  refine go_eq (fr' := (53, [(0, .ref 1), (1, .ref 48), (2, .int 0), (3, .int (nI 0))], [], (ah_w S (nI S) f1 f2 f3 g1 g2 u a b s1 s2 v t lo), true, 0, 0)) rfl ?_
  refine lp_warmUp2 hS1 hS hab hg hs  S 0 (Nat.zero_add _) _ ?_
  refine go_n 1 (fr' := (107, [(0, .ref 1), (1, .ref 48), (2, .int 0), (3, .int (nI S))], [.int 0], (ah_w S (nI S) f1 f2 f3 g1 g2 u a b s1 s2 v t lo), true, 0, 0)) rfl ?_
  refine go_rt (i := .ireturn) (tg := []) rfl ?_
  rfl
set_option maxRecDepth 20000 in
theorem ph_7_ringBells {xs : Nat → Int32} {S : Nat} {f1 f2 f3 g1 g2 s1 s2 : Nat → Int32} {a b : Nat} (hS1 : 1 ≤ S) (hS : S ≤ 64) (hab : nI a * nI b = nI S) (hg : ∀ j, j < S → g1 j = -1) (hs : ∀ j, j < 64 → s1 j = -1) {u v t : Int32} {lo : Nat → Int64} : ai_Ev an_ms an_lk (8, xs) 35 9 50 [.ref 0] (ah_w S (nI S) f1 f2 f3 g1 g2 u a b s1 s2 v t lo) true (.inl (none, (ah_w S (nI S) f1 f2 f3 g1 g2 u a b s1 s2 v t lo), true, 0, 0)) := by
  refine ev_of (M := an_X9_ringBells) rfl (Nat.le_of_ble_eq_true rfl) ?_
  refine go_n 1 (fr' := (1, [(0, .ref 0)], [.ref 0], (ah_w S (nI S) f1 f2 f3 g1 g2 u a b s1 s2 v t lo), true, 0, 0)) rfl ?_
  refine go_get rfl rfl rfl rfl ?_
  refine go_n 1 (fr' := (7, [(0, .ref 0)], [], (ah_w S (nI S) f1 f2 f3 g1 g2 u a b s1 s2 v t lo), true, 0, 0)) rfl ?_
  refine go_rt (i := .return_) (tg := []) rfl ?_
  rfl
set_option maxRecDepth 20000 in
theorem ph_1_passHour {xs : Nat → Int32} {S : Nat} {f1 f2 f3 g1 g2 s1 s2 : Nat → Int32} {a b : Nat} (hS1 : 1 ≤ S) (hS : S ≤ 64) (hab : nI a * nI b = nI S) (hg : ∀ j, j < S → g1 j = -1) (hs : ∀ j, j < 64 → s1 j = -1) {u v t : Int32} {lo : Nat → Int64} : ai_Ev an_ms an_lk (8, xs) 35 10 45 [.ref 0] (ah_w S (nI S) f1 f2 f3 g1 g2 u a b s1 s2 v t lo) true (.inl (none, (ah_w S (nI S) f1 f2 f3 g1 g2 (u + 1) a b s1 s2 v t lo), true, 0, 0)) := by
  refine ev_of (M := an_X9_passHour) rfl (Nat.le_of_ble_eq_true rfl) ?_
  refine go_n 1 (fr' := (1, [(0, .ref 0)], [.ref 0], (ah_w S (nI S) f1 f2 f3 g1 g2 u a b s1 s2 v t lo), true, 0, 0)) rfl ?_
  refine go_call (q := 46) (M1 := an_X9_crewsGo) rfl rfl (by decide) rfl ⟨_, rfl⟩ trivial (ph_2_crewsGo hS1 hS hab hg hs) ?_
  refine go_eq (fr' := (4, [(0, .ref 0)], [], (ah_w S (nI S) f1 f2 f3 g1 g2 u a b s1 s2 v t lo), true, 0, 0)) rfl ?_
  refine go_n 1 (fr' := (5, [(0, .ref 0)], [.ref 0], (ah_w S (nI S) f1 f2 f3 g1 g2 u a b s1 s2 v t lo), true, 0, 0)) rfl ?_
  refine go_call (q := 47) (M1 := an_X9_giveRoofs) rfl rfl (by decide) rfl ⟨_, rfl⟩ trivial (ph_3_giveRoofs hS1 hS hab hg hs) ?_
  refine go_eq (fr' := (8, [(0, .ref 0)], [], (ah_w S (nI S) f1 f2 f3 g1 g2 u a b s1 s2 v t lo), true, 0, 0)) rfl ?_
  refine go_n 1 (fr' := (9, [(0, .ref 0)], [.ref 0], (ah_w S (nI S) f1 f2 f3 g1 g2 u a b s1 s2 v t lo), true, 0, 0)) rfl ?_
  refine go_call (q := 48) (M1 := an_X9_crewsWork) rfl rfl (by decide) rfl ⟨_, rfl⟩ trivial (ph_4_crewsWork hS1 hS hab hg hs) ?_
  refine go_eq (fr' := (12, [(0, .ref 0)], [], (ah_w S (nI S) f1 f2 f3 g1 g2 u a b s1 s2 v t lo), true, 0, 0)) rfl ?_
  refine go_n 1 (fr' := (13, [(0, .ref 0)], [.ref 0], (ah_w S (nI S) f1 f2 f3 g1 g2 u a b s1 s2 v t lo), true, 0, 0)) rfl ?_
  refine go_call (q := 49) (M1 := an_X9_fireEats) rfl rfl (by decide) rfl ⟨_, rfl⟩ trivial (ph_5_fireEats hS1 hS hab hg hs) ?_
  refine go_eq (fr' := (16, [(0, .ref 0)], [], (ah_w S (nI S) f1 f2 f3 g1 g2 u a b s1 s2 v t lo), true, 0, 0)) rfl ?_
  refine go_n 2 (fr' := (18, [(0, .ref 0)], [.ref 0, .ref 0], (ah_w S (nI S) f1 f2 f3 g1 g2 u a b s1 s2 v t lo), true, 0, 0)) rfl ?_
  refine go_get rfl rfl rfl rfl ?_
  refine go_n 1 (fr' := (22, [(0, .ref 0)], [.ref 0, .ref 1, .ref 0], (ah_w S (nI S) f1 f2 f3 g1 g2 u a b s1 s2 v t lo), true, 0, 0)) rfl ?_
  refine go_get rfl rfl rfl rfl ?_
  refine go_call (q := 5) (M1 := an_X0_warmUp) rfl rfl (by decide) rfl ⟨_, rfl⟩ trivial (ph_6_warmUp hS1 hS hab hg hs) ?_
  refine go_eq (fr' := (28, [(0, .ref 0)], [.int 0, .ref 0], (ah_w S (nI S) f1 f2 f3 g1 g2 u a b s1 s2 v t lo), true, 0, 0)) rfl ?_
  refine go_put rfl rfl rfl (Nat.le_of_ble_eq_true rfl) rfl ?_
  refine go_n 1 (fr' := (32, [(0, .ref 0)], [.ref 0], (ah_w S (nI S) f1 f2 f3 g1 g2 u a b s1 s2 v t lo), true, 0, 0)) rfl ?_
  refine go_call (q := 50) (M1 := an_X9_ringBells) rfl rfl (by decide) rfl ⟨_, rfl⟩ trivial (ph_7_ringBells hS1 hS hab hg hs) ?_
  refine go_eq (fr' := (35, [(0, .ref 0)], [], (ah_w S (nI S) f1 f2 f3 g1 g2 u a b s1 s2 v t lo), true, 0, 0)) rfl ?_
  refine go_n 2 (fr' := (37, [(0, .ref 0)], [.ref 0, .ref 0], (ah_w S (nI S) f1 f2 f3 g1 g2 u a b s1 s2 v t lo), true, 0, 0)) rfl ?_
  refine go_get rfl rfl rfl rfl ?_
  refine go_n 2 (fr' := (42, [(0, .ref 0)], [.int (u + 1), .ref 0], (ah_w S (nI S) f1 f2 f3 g1 g2 u a b s1 s2 v t lo), true, 0, 0)) rfl ?_
  refine go_put rfl rfl rfl (Nat.le_of_ble_eq_true rfl) rfl ?_
  refine go_rt (i := .return_) (tg := []) rfl ?_
  rfl
set_option maxRecDepth 20000 in
theorem lp_hours {xs : Nat → Int32} {S : Nat} {f1 f2 f3 g1 g2 s1 s2 : Nat → Int32} {a b : Nat} {nc ns : Nat} {d : Nat} {ex : Bool} (hS1 : 1 ≤ S) (hS : S ≤ 64) (hab : nI a * nI b = nI S) (hg : ∀ j, j < S → g1 j = -1) (hs : ∀ j, j < 64 → s1 j = -1) {v t : Int32} {lo : Nat → Int64} {N : Nat} (hN : N ≤ 100) : ∀ m i : Nat, i + m = N → ∀ o, ag_Go (8, xs) 10 an_X9_hours (49, [(0, .ref 0), (1, .int (nI N)), (2, .int (nI N))], [], (ah_w S (nI S) f1 f2 f3 g1 g2 (nI N) a b s1 s2 v t lo), true, nc, ns) o → ag_Go (8, xs) 10 an_X9_hours (34, [(0, .ref 0), (1, .int (nI N)), (2, .int (nI i))], [], (ah_w S (nI S) f1 f2 f3 g1 g2 (nI i) a b s1 s2 v t lo), true, nc, ns) o := by
  intro m
  induction m with
  | zero =>
    intro i hi o k
    have e : i = N := by omega
    rw [e]
    have hn1 : ¬ nI N < nI N := Int32.lt_irrefl
    refine go_n 2 (fr' := (36, [(0, .ref 0), (1, .int (nI N)), (2, .int (nI N))], [.int (nI N), .int (nI N)], (ah_w S (nI S) f1 f2 f3 g1 g2 (nI N) a b s1 s2 v t lo), true, nc, ns)) rfl ?_
    refine go_ic_ge (t := 49) rfl (fun q1 => ?_) (fun q1 => absurd (Int32.not_lt.mp hn1) q1)
    exact k
  | succ m ih =>
    intro i hi o k
    have hl1 : nI i < nI N := nI_lt (by omega) (by omega)
    refine go_n 2 (fr' := (36, [(0, .ref 0), (1, .int (nI N)), (2, .int (nI i))], [.int (nI N), .int (nI i)], (ah_w S (nI S) f1 f2 f3 g1 g2 (nI i) a b s1 s2 v t lo), true, nc, ns)) rfl ?_
    refine go_ic_ge (t := 49) rfl (fun q1 => absurd q1 (Int32.not_le.mpr hl1)) (fun q1 => ?_)
    refine go_n 1 (fr' := (40, [(0, .ref 0), (1, .int (nI N)), (2, .int (nI i))], [.ref 0], (ah_w S (nI S) f1 f2 f3 g1 g2 (nI i) a b s1 s2 v t lo), true, nc, ns)) rfl ?_
    refine go_call (q := 45) (M1 := an_X9_passHour) rfl rfl (by decide) rfl ⟨_, rfl⟩ trivial (ph_1_passHour hS1 hS hab hg hs) ?_
    refine go_eq (fr' := (43, [(0, .ref 0), (1, .int (nI N)), (2, .int (nI i))], [], (ah_w S (nI S) f1 f2 f3 g1 g2 ((nI i) + 1) a b s1 s2 v t lo), true, nc, ns)) rfl ?_
    refine go_n 2 (fr' := (34, [(0, .ref 0), (1, .int (nI N)), (2, .int ((nI i) + 1))], [], (ah_w S (nI S) f1 f2 f3 g1 g2 ((nI i) + 1) a b s1 s2 v t lo), true, nc, ns)) rfl ?_
    rw [nI_1 i]
    refine go_eq (fr' := (34, [(0, .ref 0), (1, .int (nI N)), (2, .int (nI (i + 1)))], [], (ah_w S (nI S) f1 f2 f3 g1 g2 (nI (i + 1)) a b s1 s2 v t lo), true, nc, ns)) rfl ?_
    exact ih (i + 1) (by omega) o k
set_option maxRecDepth 20000 in
theorem rb_1_roofs {xs : Nat → Int32} {S : Nat} {f1 f2 f3 g1 g2 s1 s2 : Nat → Int32} {a b : Nat} (hS1 : 1 ≤ S) (hS : S ≤ 64) (hab : nI a * nI b = nI S) (hg : ∀ j, j < S → g1 j = -1) (hs : ∀ j, j < 64 → s1 j = -1) {u v t : Int32} {lo : Nat → Int64} : ai_Ev an_ms an_lk (8, xs) 35 11 72 [.ref 49] (ah_w S (nI S) f1 f2 f3 g1 g2 u a b s1 s2 v t lo) true (.inl (none, (ah_w S (nI S) f1 f2 f3 g1 g2 u a b s1 s2 v t lo), true, 0, 0)) := by
  refine ev_of (M := an_X10_roofs) rfl (Nat.le_of_ble_eq_true rfl) ?_
  refine go_n 2 (fr' := (2, [(0, .ref 49), (1, .int 0)], [], (ah_w S (nI S) f1 f2 f3 g1 g2 u a b s1 s2 v t lo), true, 0, 0)) rfl ?_
  refine go_eq (fr' := (2, [(0, .ref 49), (1, .int (nI 0))], [], (ah_w S (nI S) f1 f2 f3 g1 g2 u a b s1 s2 v t lo), true, 0, 0)) rfl ?_
  refine lp_roofs hS1 hS hab hg hs  S 0 (Nat.zero_add _) _ ?_
  refine go_rt (i := .return_) (tg := []) rfl ?_
  rfl
set_option maxRecDepth 20000 in
theorem rb_2_warm {xs : Nat → Int32} {S : Nat} {f1 f2 f3 g1 g2 s1 s2 : Nat → Int32} {a b : Nat} (hS1 : 1 ≤ S) (hS : S ≤ 64) (hab : nI a * nI b = nI S) (hg : ∀ j, j < S → g1 j = -1) (hs : ∀ j, j < 64 → s1 j = -1) {u v t : Int32} {lo : Nat → Int64} : ai_Ev an_ms an_lk (8, xs) 35 11 73 [.ref 49] (ah_w S (nI S) f1 f2 f3 g1 g2 u a b s1 s2 v t lo) true (.inl (none, (ah_w S (nI S) f1 f2 f3 g1 g2 u a b s1 s2 v t lo), true, 0, 0)) := by
  refine ev_of (M := an_X10_warm) rfl (Nat.le_of_ble_eq_true rfl) ?_
  refine go_n 1 (fr' := (1, [(0, .ref 49)], [.ref 49], (ah_w S (nI S) f1 f2 f3 g1 g2 u a b s1 s2 v t lo), true, 0, 0)) rfl ?_
  refine go_get rfl rfl rfl rfl ?_
  refine go_n 1 (fr' := (5, [(0, .ref 49)], [.ref 49, .int (nI a)], (ah_w S (nI S) f1 f2 f3 g1 g2 u a b s1 s2 v t lo), true, 0, 0)) rfl ?_
  refine go_get rfl rfl rfl rfl ?_
  refine go_n 4 (fr' := (12, [(0, .ref 49), (1, .int ((nI a) * (nI b))), (2, .int 0)], [], (ah_w S (nI S) f1 f2 f3 g1 g2 u a b s1 s2 v t lo), true, 0, 0)) rfl ?_
  refine go_eq (fr' := (12, [(0, .ref 49), (1, .int ((nI a) * (nI b))), (2, .int (nI 0))], [], (ah_w S (nI S) f1 f2 f3 g1 g2 u a b s1 s2 v t lo), true, 0, 0)) rfl ?_
  refine lp_warm1 hS1 hS hab hg hs  S 0 (Nat.zero_add _) _ ?_
  refine go_n 2 (fr' := (155, [(0, .ref 49), (1, .int ((nI a) * (nI b))), (2, .int 0)], [], (ah_w S (nI S) f1 f2 f3 g1 g2 u a b s1 s2 v t lo), true, 0, 0)) rfl ?_
  refine go_eq (fr' := (155, [(0, .ref 49), (1, .int ((nI a) * (nI b))), (2, .int (nI 0))], [], (ah_w S (nI S) f1 f2 f3 g1 g2 u a b s1 s2 v t lo), true, 0, 0)) rfl ?_
  refine lp_warm2 hS1 hS hab hg hs  S 0 (Nat.zero_add _) _ ?_
  refine go_n 2 (fr' := (210, [(0, .ref 49), (1, .int ((nI a) * (nI b))), (2, .int 0)], [], (ah_w S (nI S) f1 f2 f3 g1 g2 u a b s1 s2 v t lo), true, 0, 0)) rfl ?_
  refine go_eq (fr' := (210, [(0, .ref 49), (1, .int ((nI a) * (nI b))), (2, .int (nI 0))], [], (ah_w S (nI S) f1 f2 f3 g1 g2 u a b s1 s2 v t lo), true, 0, 0)) rfl ?_
  refine lp_warm3 hS1 hS hab hg hs  S 0 (Nat.zero_add _) _ ?_
  refine go_rt (i := .return_) (tg := []) rfl ?_
  rfl
set_option maxRecDepth 20000 in
theorem lp_body {xs : Nat → Int32} {S : Nat} {f1 f2 f3 g1 g2 s1 s2 : Nat → Int32} {a b : Nat} (hS1 : 1 ≤ S) (hS : S ≤ 64) (hab : nI a * nI b = nI S) (hg : ∀ j, j < S → g1 j = -1) (hs : ∀ j, j < 64 → s1 j = -1) {u v t : Int32} {lo : Nat → Int64} {w y : Int32} {nc ns : Nat} : ∀ o, ag_Go (8, xs) 11 an_X10_hours (44, [(0, .ref 49), (1, .int w), (2, .int ((nI a) * (nI b))), (3, .int (y + 1)), (4, .int (nI S))], [], (ah_w S (nI S) f1 f2 f3 g1 g2 u a b s1 s2 (v + 1) t lo), true, nc, ns) o → ag_Go (8, xs) 11 an_X10_hours (52, [(0, .ref 49), (1, .int w), (2, .int ((nI a) * (nI b))), (3, .int y), (4, .int 0)], [], (ah_w S (nI S) f1 f2 f3 g1 g2 u a b s1 s2 v t lo), true, nc, ns) o := by
  intro o k
  refine go_n 2 (fr' := (55, [(0, .ref 49), (1, .int w), (2, .int ((nI a) * (nI b))), (3, .int y), (4, .int 0)], [.ref 49, .int 0], (ah_w S (nI S) f1 f2 f3 g1 g2 u a b s1 s2 v t lo), true, nc, ns)) rfl ?_
  refine go_get rfl rfl rfl rfl ?_
  refine go_n 2 (fr' := (74, [(0, .ref 49), (1, .int w), (2, .int ((nI a) * (nI b))), (3, .int y), (4, .int 0)], [.ref 49], (ah_w S (nI S) f1 f2 f3 g1 g2 u a b s1 s2 v t lo), true, nc, ns)) rfl ?_
  refine go_call (q := 72) (M1 := an_X10_roofs) rfl rfl (by decide) rfl ⟨_, rfl⟩ trivial (rb_1_roofs hS1 hS hab hg hs) ?_
  refine go_eq (fr' := (77, [(0, .ref 49), (1, .int w), (2, .int ((nI a) * (nI b))), (3, .int y), (4, .int 0)], [], (ah_w S (nI S) f1 f2 f3 g1 g2 u a b s1 s2 v t lo), true, nc, ns)) rfl ?_
  refine go_n 4 (fr' := (83, [(0, .ref 49), (1, .int w), (2, .int ((nI a) * (nI b))), (3, .int y), (4, .int 0)], [.ref 49, .int 0], (ah_w S (nI S) f1 f2 f3 g1 g2 u a b s1 s2 v t lo), true, nc, ns)) rfl ?_
  refine go_get rfl rfl rfl rfl ?_
  refine go_n 3 (fr' := (104, [(0, .ref 49), (1, .int w), (2, .int ((nI a) * (nI b))), (3, .int y), (4, .int 0)], [], (ah_w S (nI S) f1 f2 f3 g1 g2 u a b s1 s2 v t lo), true, nc, ns)) rfl ?_
  refine go_eq (fr' := (104, [(0, .ref 49), (1, .int w), (2, .int ((nI a) * (nI b))), (3, .int y), (4, .int (nI 0))], [], (ah_w S (nI S) f1 f2 f3 g1 g2 u a b s1 s2 v t lo), true, nc, ns)) rfl ?_
  refine lp_burn hS1 hS hab hg hs  S 0 (Nat.zero_add _) _ ?_
  refine go_n 1 (fr' := (134, [(0, .ref 49), (1, .int w), (2, .int ((nI a) * (nI b))), (3, .int y), (4, .int (nI S))], [.ref 49], (ah_w S (nI S) f1 f2 f3 g1 g2 u a b s1 s2 v t lo), true, nc, ns)) rfl ?_
  refine go_call (q := 73) (M1 := an_X10_warm) rfl rfl (by decide) rfl ⟨_, rfl⟩ trivial (rb_2_warm hS1 hS hab hg hs) ?_
  refine go_eq (fr' := (137, [(0, .ref 49), (1, .int w), (2, .int ((nI a) * (nI b))), (3, .int y), (4, .int (nI S))], [], (ah_w S (nI S) f1 f2 f3 g1 g2 u a b s1 s2 v t lo), true, nc, ns)) rfl ?_
  refine go_n 2 (fr' := (140, [(0, .ref 49), (1, .int w), (2, .int ((nI a) * (nI b))), (3, .int y), (4, .int 0)], [], (ah_w S (nI S) f1 f2 f3 g1 g2 u a b s1 s2 v t lo), true, nc, ns)) rfl ?_
  refine go_eq (fr' := (140, [(0, .ref 49), (1, .int w), (2, .int ((nI a) * (nI b))), (3, .int y), (4, .int (nI 0))], [], (ah_w S (nI S) f1 f2 f3 g1 g2 u a b s1 s2 v t lo), true, nc, ns)) rfl ?_
  refine lp_noGoal hS1 hS hab hg hs  S 0 (Nat.zero_add _) _ ?_
  refine go_n 2 (fr' := (172, [(0, .ref 49), (1, .int w), (2, .int ((nI a) * (nI b))), (3, .int y), (4, .int 0)], [], (ah_w S (nI S) f1 f2 f3 g1 g2 u a b s1 s2 v t lo), true, nc, ns)) rfl ?_
  refine go_eq (fr' := (172, [(0, .ref 49), (1, .int w), (2, .int ((nI a) * (nI b))), (3, .int y), (4, .int (nI 0))], [], (ah_w S (nI S) f1 f2 f3 g1 g2 u a b s1 s2 v t lo), true, nc, ns)) rfl ?_
  refine lp_ring hS1 hS hab hg hs  S 0 (Nat.zero_add _) _ ?_
  refine go_n 2 (fr' := (202, [(0, .ref 49), (1, .int w), (2, .int ((nI a) * (nI b))), (3, .int y), (4, .int (nI S))], [.ref 49, .ref 49], (ah_w S (nI S) f1 f2 f3 g1 g2 u a b s1 s2 v t lo), true, nc, ns)) rfl ?_
  refine go_get rfl rfl rfl rfl ?_
  refine go_n 2 (fr' := (207, [(0, .ref 49), (1, .int w), (2, .int ((nI a) * (nI b))), (3, .int y), (4, .int (nI S))], [.int (v + 1), .ref 49], (ah_w S (nI S) f1 f2 f3 g1 g2 u a b s1 s2 v t lo), true, nc, ns)) rfl ?_
  refine go_put rfl rfl rfl (Nat.le_of_ble_eq_true rfl) rfl ?_
  refine go_n 2 (fr' := (44, [(0, .ref 49), (1, .int w), (2, .int ((nI a) * (nI b))), (3, .int (y + 1)), (4, .int (nI S))], [], (ah_w S (nI S) f1 f2 f3 g1 g2 u a b s1 s2 (v + 1) t lo), true, nc, ns)) rfl ?_
  exact k
set_option maxRecDepth 20000 in
theorem lp_hoursR {xs : Nat → Int32} {S : Nat} {f1 f2 f3 g1 g2 s1 s2 : Nat → Int32} {a b : Nat} {nc ns : Nat} {d : Nat} {ex : Bool} (hS1 : 1 ≤ S) (hS : S ≤ 64) (hab : nI a * nI b = nI S) (hg : ∀ j, j < S → g1 j = -1) (hs : ∀ j, j < 64 → s1 j = -1) {u t : Int32} {lo : Nat → Int64} {N : Nat} (hN : N ≤ 100) : ∀ m i : Nat, i + m = N → ∀ o, ag_Go (8, xs) 11 an_X10_hours (216, [(0, .ref 49), (1, .int (nI N)), (2, .int ((nI a) * (nI b))), (3, .int (nI N)), (4, .int (nI S))], [], (ah_w S (nI S) f1 f2 f3 g1 g2 u a b s1 s2 (nI N) t lo), true, nc, ns) o → ag_Go (8, xs) 11 an_X10_hours (44, [(0, .ref 49), (1, .int (nI N)), (2, .int ((nI a) * (nI b))), (3, .int (nI i)), (4, .int (nI S))], [], (ah_w S (nI S) f1 f2 f3 g1 g2 u a b s1 s2 (nI i) t lo), true, nc, ns) o := by
  intro m
  induction m with
  | zero =>
    intro i hi o k
    have e : i = N := by omega
    rw [e]
    have hn1 : ¬ nI N < nI N := Int32.lt_irrefl
    refine go_n 2 (fr' := (46, [(0, .ref 49), (1, .int (nI N)), (2, .int ((nI a) * (nI b))), (3, .int (nI N)), (4, .int (nI S))], [.int (nI N), .int (nI N)], (ah_w S (nI S) f1 f2 f3 g1 g2 u a b s1 s2 (nI N) t lo), true, nc, ns)) rfl ?_
    refine go_ic_ge (t := 216) rfl (fun q1 => ?_) (fun q1 => absurd (Int32.not_lt.mp hn1) q1)
    exact k
  | succ m ih =>
    intro i hi o k
    have hl1 : nI i < nI N := nI_lt (by omega) (by omega)
    refine go_n 2 (fr' := (46, [(0, .ref 49), (1, .int (nI N)), (2, .int ((nI a) * (nI b))), (3, .int (nI i)), (4, .int (nI S))], [.int (nI N), .int (nI i)], (ah_w S (nI S) f1 f2 f3 g1 g2 u a b s1 s2 (nI i) t lo), true, nc, ns)) rfl ?_
    refine go_ic_ge (t := 216) rfl (fun q1 => absurd q1 (Int32.not_le.mpr hl1)) (fun q1 => ?_)
    refine go_n 2 (fr' := (52, [(0, .ref 49), (1, .int (nI N)), (2, .int ((nI a) * (nI b))), (3, .int (nI i)), (4, .int 0)], [], (ah_w S (nI S) f1 f2 f3 g1 g2 u a b s1 s2 (nI i) t lo), true, nc, ns)) rfl ?_
    refine go_eq (fr' := (52, [(0, .ref 49), (1, .int (nI N)), (2, .int ((nI a) * (nI b))), (3, .int (nI i)), (4, .int 0)], [], (ah_w S (nI S) f1 f2 f3 g1 g2 u a b s1 s2 (nI i) t lo), true, nc, ns)) rfl ?_
    refine lp_body hS1 hS hab hg hs _ ?_
    rw [nI_1 i]
    refine go_eq (fr' := (44, [(0, .ref 49), (1, .int (nI N)), (2, .int ((nI a) * (nI b))), (3, .int (nI (i + 1))), (4, .int (nI S))], [], (ah_w S (nI S) f1 f2 f3 g1 g2 u a b s1 s2 (nI (i + 1)) t lo), true, nc, ns)) rfl ?_
    exact ih (i + 1) (by omega) o k
