/-! City -/
theorem has_or {x : Int32} {B : Nat} (hB : B < 2 ^ 31) : (∃ n, n < B ∧ x = nI n) ∨ ¬ (0 ≤ x ∧ x < nI B) := by
  by_cases h : 0 ≤ x ∧ x < nI B
  · obtain ⟨j, hj, e⟩ := nI_of (Int32.not_lt.mpr h.1)
    refine Or.inl ⟨j, ?_, e⟩
    have h2 := h.2
    rw [e] at h2
    exact (nI_ltI hj hB).mp h2
  · exact Or.inr h
theorem has_no {n B : Nat} (hn : n < 2 ^ 31) (hB : B < 2 ^ 31) (h : B ≤ n) : ¬ (0 ≤ nI n ∧ nI n < nI B) := fun w => by
  have := (nI_ltI hn hB).mp w.2
  omega
theorem has_neg {x B : Int32} (h : x < 0) : ¬ (0 ≤ x ∧ x < B) := fun w => Int32.not_lt.mpr w.1 h
theorem sf_has_1 {X : Nat × (Nat → Int32)} {S a b : Nat} {sc : Nat → Int32} {ar : Nat → Nat → Int32} {lo : Nat → Int64} {ex : Bool} {n : Nat} (hn : n < S ∧ S < 2 ^ 31) (d : Nat) : cp X S a b (d + 1) 2 [.ref 1, .int (nI n)] sc ar lo ex (fun x => x = 1) := by
  refine ⟨_, rfl, ?_⟩
  have h := pv_X0_has (X := X) (h := gh S a b sc ar lo) (a := 1) (S := nI S) rfl (nI n) ex d
  rw [if_pos ⟨nI_pos' (by omega), nI_lt hn.1 (by omega)⟩] at h
  exact h
theorem sf_has_0 {X : Nat × (Nat → Int32)} {S a b : Nat} {sc : Nat → Int32} {ar : Nat → Nat → Int32} {lo : Nat → Int64} {ex : Bool} {k : Int32} (hk : ¬ (0 ≤ k ∧ k < nI S)) (d : Nat) : cp X S a b (d + 1) 2 [.ref 1, .int k] sc ar lo ex (fun x => x = 0) := by
  refine ⟨_, rfl, ?_⟩
  have h := pv_X0_has (X := X) (h := gh S a b sc ar lo) (a := 1) (S := nI S) rfl k ex d
  rw [if_neg hk] at h
  exact h
theorem cr_has_1 {X : Nat × (Nat → Int32)} {S a b : Nat} {sc : Nat → Int32} {ar : Nat → Nat → Int32} {lo : Nat → Int64} {ex : Bool} {n m : Nat} (e : sc 1308 = nI m) (hn : n < m ∧ m < 2 ^ 31) (d : Nat) : cp X S a b (d + 1) 14 [.ref 13, .int (nI n)] sc ar lo ex (fun x => x = 1) := by
  refine cp_of (M := an_X1_has) rfl (Nat.le_of_ble_eq_true rfl) ?_
  refine to_n 1 (fr' := (1, [(0, .ref 13), (1, .int (nI n))], [.int (nI n)], gh S a b sc ar lo, ex, 0, 0)) rfl ?_
  refine to_nf_lt (x := n) rfl (by omega) ?_
  refine to_n 2 (fr' := (6, [(0, .ref 13), (1, .int (nI n))], [.ref 13, .int (nI n)], gh S a b sc ar lo, ex, 0, 0)) rfl ?_
  refine to_getR (v := nI m) rfl rfl rfl rfl e ?_
  refine to_nc_ge_F (t := 16) (x := n) (y := m) rfl (by omega) (by omega) (by omega) ?_
  refine to_n 2 (fr' := (17, [(0, .ref 13), (1, .int (nI n))], [.int 1], gh S a b sc ar lo, ex, 0, 0)) rfl ?_
  exact to_rt (i := .ireturn) (tg := []) rfl rfl ⟨_, rfl, rfl⟩
theorem cr_has_0 {X : Nat × (Nat → Int32)} {S a b : Nat} {sc : Nat → Int32} {ar : Nat → Nat → Int32} {lo : Nat → Int64} {ex : Bool} {k : Int32} {m : Nat} (e : sc 1308 = nI m) (hk : ¬ (0 ≤ k ∧ k < nI m)) (d : Nat) : cp X S a b (d + 1) 14 [.ref 13, .int k] sc ar lo ex (fun x => x = 0) := by
  refine cp_of (M := an_X1_has) rfl (Nat.le_of_ble_eq_true rfl) ?_
  refine to_n 1 (fr' := (1, [(0, .ref 13), (1, .int k)], [.int k], gh S a b sc ar lo, ex, 0, 0)) rfl ?_
  refine to_if_lt (t := 16) rfl (fun w => ?_) (fun w => ?_)
  · refine to_n 1 (fr' := (17, [(0, .ref 13), (1, .int k)], [.int 0], gh S a b sc ar lo, ex, 0, 0)) rfl ?_
    exact to_rt (i := .ireturn) (tg := []) rfl rfl ⟨_, rfl, rfl⟩
  · refine to_n 2 (fr' := (6, [(0, .ref 13), (1, .int k)], [.ref 13, .int k], gh S a b sc ar lo, ex, 0, 0)) rfl ?_
    refine to_getR (v := nI m) rfl rfl rfl rfl e ?_
    refine to_ic_ge_T (t := 16) rfl (Int32.not_lt.mp (fun v => hk ⟨Int32.not_lt.mp w, v⟩)) ?_
    refine to_n 1 (fr' := (17, [(0, .ref 13), (1, .int k)], [.int 0], gh S a b sc ar lo, ex, 0, 0)) rfl ?_
    exact to_rt (i := .ireturn) (tg := []) rfl rfl ⟨_, rfl, rfl⟩
set_option maxRecDepth 20000 in
theorem sf_X0_far {X : Nat × (Nat → Int32)} {S a b : Nat} {sc : Nat → Int32} {ar : Nat → Nat → Int32} {lo : Nat → Int64} {ex : Bool} (hW : Wd S a b) (hI : Iv S sc ar) (k1 : Nat) (hk1 : k1 < S) (k2 : Nat) (hk2 : k2 < S) (hg : Gd S a b ar) (d : Nat)  : cp X S a b (d + 1) 3 [.ref 1, .int (nI k1), .int (nI k2)] sc ar lo ex (fun x => x = nI (zds a k1 k2)) := by
  obtain ⟨ha1, ha8, hb1, hb8, hab, hS1, hS⟩ := id hW
  refine cp_of (M := an_X0_far) rfl (Nat.le_of_ble_eq_true rfl) ?_
  refine to_eq (fr' := (0, [(0, .ref 1), (1, .int (nI k1)), (2, .int (nI k2))], [], gh S a b sc ar lo, ex, 0, 0)) rfl ?_
  refine to_n 1 (fr' := (1, [(0, .ref 1), (1, .int (nI k1)), (2, .int (nI k2))], [.ref 1], gh S a b sc ar lo, ex, 0, 0)) rfl ?_
  refine to_get rfl rfl rfl rfl ?_
  refine to_n 1 (fr' := (5, [(0, .ref 1), (1, .int (nI k1)), (2, .int (nI k2))], [.int (nI k1), .ref 2], gh S a b sc ar lo, ex, 0, 0)) rfl ?_
  refine to_ialR (i := k1) (v := (ar 2 k1)) rfl (by decide) rfl (by omega) (by omega) rfl ?_
  refine to_n 1 (fr' := (7, [(0, .ref 1), (1, .int (nI k1)), (2, .int (nI k2))], [.ref 1, .int (ar 2 k1)], gh S a b sc ar lo, ex, 0, 0)) rfl ?_
  refine to_get rfl rfl rfl rfl ?_
  refine to_n 1 (fr' := (11, [(0, .ref 1), (1, .int (nI k1)), (2, .int (nI k2))], [.int (nI k2), .ref 2, .int (ar 2 k1)], gh S a b sc ar lo, ex, 0, 0)) rfl ?_
  refine to_ialR (i := k2) (v := (ar 2 k2)) rfl (by decide) rfl (by omega) (by omega) rfl ?_
  refine to_n 3 (fr' := (17, [(0, .ref 1), (1, .int (nI k1)), (2, .int (nI k2))], [.ref 1, .int (if 0 ≤ ((ar 2 k1) - (ar 2 k2)) then ((ar 2 k1) - (ar 2 k2)) else 0 - ((ar 2 k1) - (ar 2 k2)))], gh S a b sc ar lo, ex, 0, 0)) rfl ?_
  refine to_get rfl rfl rfl rfl ?_
  refine to_n 1 (fr' := (21, [(0, .ref 1), (1, .int (nI k1)), (2, .int (nI k2))], [.int (nI k1), .ref 3, .int (if 0 ≤ ((ar 2 k1) - (ar 2 k2)) then ((ar 2 k1) - (ar 2 k2)) else 0 - ((ar 2 k1) - (ar 2 k2)))], gh S a b sc ar lo, ex, 0, 0)) rfl ?_
  refine to_ialR (i := k1) (v := (ar 3 k1)) rfl (by decide) rfl (by omega) (by omega) rfl ?_
  refine to_n 1 (fr' := (23, [(0, .ref 1), (1, .int (nI k1)), (2, .int (nI k2))], [.ref 1, .int (ar 3 k1), .int (if 0 ≤ ((ar 2 k1) - (ar 2 k2)) then ((ar 2 k1) - (ar 2 k2)) else 0 - ((ar 2 k1) - (ar 2 k2)))], gh S a b sc ar lo, ex, 0, 0)) rfl ?_
  refine to_get rfl rfl rfl rfl ?_
  refine to_n 1 (fr' := (27, [(0, .ref 1), (1, .int (nI k1)), (2, .int (nI k2))], [.int (nI k2), .ref 3, .int (ar 3 k1), .int (if 0 ≤ ((ar 2 k1) - (ar 2 k2)) then ((ar 2 k1) - (ar 2 k2)) else 0 - ((ar 2 k1) - (ar 2 k2)))], gh S a b sc ar lo, ex, 0, 0)) rfl ?_
  refine to_ialR (i := k2) (v := (ar 3 k2)) rfl (by decide) rfl (by omega) (by omega) rfl ?_
  refine to_n 3 (fr' := (33, [(0, .ref 1), (1, .int (nI k1)), (2, .int (nI k2))], [.int ((if 0 ≤ ((ar 2 k1) - (ar 2 k2)) then ((ar 2 k1) - (ar 2 k2)) else 0 - ((ar 2 k1) - (ar 2 k2))) + (if 0 ≤ ((ar 3 k1) - (ar 3 k2)) then ((ar 3 k1) - (ar 3 k2)) else 0 - ((ar 3 k1) - (ar 3 k2))))], gh S a b sc ar lo, ex, 0, 0)) rfl ?_
  exact to_rt (i := .ireturn) (tg := []) rfl rfl ⟨_, (zfar_c hW hg hk1 hk2), rfl⟩
set_option maxRecDepth 20000 in
theorem sf_X0_areBeside {X : Nat × (Nat → Int32)} {S a b : Nat} {sc : Nat → Int32} {ar : Nat → Nat → Int32} {lo : Nat → Int64} {ex : Bool} (hW : Wd S a b) (hI : Iv S sc ar) (k1 : Nat) (hk1 : k1 < S) (k2 : Nat) (hk2 : k2 < S) (hg : Gd S a b ar) (d : Nat)  : cp X S a b (d + 2) 4 [.ref 1, .int (nI k1), .int (nI k2)] sc ar lo ex (fun x => ((x = 1 ∧ zds a k1 k2 = 1) ∨ (x = 0 ∧ ¬ (zds a k1 k2 = 1)))) := by
  obtain ⟨ha1, ha8, hb1, hb8, hab, hS1, hS⟩ := id hW
  refine cp_of (M := an_X0_areBeside) rfl (Nat.le_of_ble_eq_true rfl) ?_
  refine to_eq (fr' := (0, [(0, .ref 1), (1, .int (nI k1)), (2, .int (nI k2))], [], gh S a b sc ar lo, ex, 0, 0)) rfl ?_
  refine to_n 3 (fr' := (3, [(0, .ref 1), (1, .int (nI k1)), (2, .int (nI k2))], [.int (nI k2), .int (nI k1), .ref 1], gh S a b sc ar lo, ex, 0, 0)) rfl ?_
  refine to_cp (q := 3) (M1 := an_X0_far) (rest := []) rfl rfl (by decide) rfl ⟨_, rfl⟩ (sf_X0_far hW hI k1 (by omega) k2 (by omega) hg d) (fun x1 hx1 => ?_)
  obtain rfl := hx1
  have hb1 : zds a k1 k2 < 16 := zds_b hW (show k1 < S by omega) (show k2 < S by omega)
  refine to_eq (fr' := (6, [(0, .ref 1), (1, .int (nI k1)), (2, .int (nI k2))], [.int (nI (zds a k1 k2))], gh S a b sc ar lo, ex, 0, 0)) rfl ?_
  refine to_n 1 (fr' := (7, [(0, .ref 1), (1, .int (nI k1)), (2, .int (nI k2))], [.int 1, .int (nI (zds a k1 k2))], gh S a b sc ar lo, ex, 0, 0)) rfl ?_
  refine to_nc_ne (t := 14) (x := (zds a k1 k2)) (y := 1) rfl (by omega) (by omega) (fun q2 => ?_) (fun q2 => ?_)
  · refine to_n 1 (fr' := (15, [(0, .ref 1), (1, .int (nI k1)), (2, .int (nI k2))], [.int 0], gh S a b sc ar lo, ex, 0, 0)) rfl ?_
    exact to_rt (i := .ireturn) (tg := []) rfl rfl ⟨_, (Or.inr ⟨rfl, q2⟩), rfl⟩
  · refine to_n 2 (fr' := (15, [(0, .ref 1), (1, .int (nI k1)), (2, .int (nI k2))], [.int 1], gh S a b sc ar lo, ex, 0, 0)) rfl ?_
    exact to_rt (i := .ireturn) (tg := []) rfl rfl ⟨_, (Or.inl ⟨rfl, q2⟩), rfl⟩
set_option maxRecDepth 20000 in
theorem sf_X0_burns {X : Nat × (Nat → Int32)} {S a b : Nat} {sc : Nat → Int32} {ar : Nat → Nat → Int32} {lo : Nat → Int64} {ex : Bool} (hW : Wd S a b) (hI : Iv S sc ar) (k1 : Int32) (d : Nat)  : cp X S a b (d + 2) 7 [.ref 1, .int k1] sc ar lo ex (fun x => ((x = 1 ∧ zbu S (ar 5) k1) ∨ (x = 0 ∧ ¬ (zbu S (ar 5) k1)))) := by
  obtain ⟨ha1, ha8, hb1, hb8, hab, hS1, hS⟩ := id hW
  refine cp_of (M := an_X0_burns) rfl (Nat.le_of_ble_eq_true rfl) ?_
  refine to_eq (fr' := (0, [(0, .ref 1), (1, .int k1)], [], gh S a b sc ar lo, ex, 0, 0)) rfl ?_
  refine to_n 2 (fr' := (2, [(0, .ref 1), (1, .int k1)], [.int k1, .ref 1], gh S a b sc ar lo, ex, 0, 0)) rfl ?_
  rcases has_or (x := k1) (B := S) (by omega) with ⟨n1, hn1, e1⟩ | w1
  · rw [e1]
    refine to_cp (q := 2) (M1 := an_X0_has) (rest := []) rfl rfl (by decide) rfl ⟨_, rfl⟩ (sf_has_1 (n := n1)  (by omega) d) (fun x1 hx1 => ?_)
    obtain rfl := hx1
    refine to_eq (fr' := (5, [(0, .ref 1), (1, .int (nI n1))], [.int 1], gh S a b sc ar lo, ex, 0, 0)) rfl ?_
    refine to_n 2 (fr' := (9, [(0, .ref 1), (1, .int (nI n1))], [.ref 1], gh S a b sc ar lo, ex, 0, 0)) rfl ?_
    refine to_get rfl rfl rfl rfl ?_
    refine to_n 1 (fr' := (13, [(0, .ref 1), (1, .int (nI n1))], [.int (nI n1), .ref 5], gh S a b sc ar lo, ex, 0, 0)) rfl ?_
    refine to_ialR (i := n1) (v := (ar 5 n1)) rfl (by decide) rfl (by omega) (by omega) rfl ?_
    refine to_n 1 (fr' := (15, [(0, .ref 1), (1, .int (nI n1))], [.int 1, .int (ar 5 n1)], gh S a b sc ar lo, ex, 0, 0)) rfl ?_
    refine to_ic_ne (t := 22) rfl (fun q2 => ?_) (fun q2 => ?_)
    · refine to_n 1 (fr' := (23, [(0, .ref 1), (1, .int (nI n1))], [.int 0], gh S a b sc ar lo, ex, 0, 0)) rfl ?_
      exact to_rt (i := .ireturn) (tg := []) rfl rfl ⟨_, (Or.inr ⟨rfl, (zbu_n hn1 hS q2)⟩), rfl⟩
    · refine to_n 2 (fr' := (23, [(0, .ref 1), (1, .int (nI n1))], [.int 1], gh S a b sc ar lo, ex, 0, 0)) rfl ?_
      exact to_rt (i := .ireturn) (tg := []) rfl rfl ⟨_, (Or.inl ⟨rfl, (zbu_y hn1 q2)⟩), rfl⟩
  · refine to_cp (q := 2) (M1 := an_X0_has) (rest := []) rfl rfl (by decide) rfl ⟨_, rfl⟩ (sf_has_0  w1 d) (fun x1 hx1 => ?_)
    obtain rfl := hx1
    refine to_eq (fr' := (5, [(0, .ref 1), (1, .int k1)], [.int 0], gh S a b sc ar lo, ex, 0, 0)) rfl ?_
    refine to_n 2 (fr' := (23, [(0, .ref 1), (1, .int k1)], [.int 0], gh S a b sc ar lo, ex, 0, 0)) rfl ?_
    exact to_rt (i := .ireturn) (tg := []) rfl rfl ⟨_, (Or.inr ⟨rfl, (zbu_o hS w1)⟩), rfl⟩
set_option maxRecDepth 20000 in
theorem sf_X0_burningBeside {X : Nat × (Nat → Int32)} {S a b : Nat} {sc : Nat → Int32} {ar : Nat → Nat → Int32} {lo : Nat → Int64} {ex : Bool} (hW : Wd S a b) (hI : Iv S sc ar) (k1 : Nat) (hk1 : k1 < S) (d : Nat)  : cp X S a b (d + 3) 8 [.ref 1, .int (nI k1)] sc ar lo ex (fun x => rl x 2) := by
  obtain ⟨ha1, ha8, hb1, hb8, hab, hS1, hS⟩ := id hW
  refine cp_of (M := an_X0_burningBeside) rfl (Nat.le_of_ble_eq_true rfl) ?_
  refine to_eq (fr' := (0, [(0, .ref 1), (1, .int (nI k1))], [], gh S a b sc ar lo, ex, 0, 0)) rfl ?_
  have c2 : ∀ m : Nat, ∀ (i : Nat) , i + m = 4 → ag_To X (d + 2) an_X0_burningBeside (2, [(0, .ref 1), (1, .int (nI k1)), (2, .int (nI i))], [], gh S a b sc ar lo, ex, 0, 0) (qp S a b sc ar lo ex (fun x => rl x 2)) := by
    intro m
    induction m with
    | zero =>
      intro i hm
      refine to_n 2 (fr' := (4, [(0, .ref 1), (1, .int (nI k1)), (2, .int (nI i))], [.int 4, .int (nI i)], gh S a b sc ar lo, ex, 0, 0)) rfl ?_
      refine to_nc_ge_T (t := 32) (x := i) (y := 4) rfl (by omega) (by omega) (by omega) ?_
      refine to_n 1 (fr' := (33, [(0, .ref 1), (1, .int (nI k1)), (2, .int (nI i))], [.int 0], gh S a b sc ar lo, ex, 0, 0)) rfl ?_
      exact to_rt (i := .ireturn) (tg := []) rfl rfl ⟨_, rl_n (n := 0) (by omega), rfl⟩
    | succ m ih =>
      intro i hm
      refine to_n 2 (fr' := (4, [(0, .ref 1), (1, .int (nI k1)), (2, .int (nI i))], [.int 4, .int (nI i)], gh S a b sc ar lo, ex, 0, 0)) rfl ?_
      refine to_nc_ge_F (t := 32) (x := i) (y := 4) rfl (by omega) (by omega) (by omega) ?_
      refine to_n 2 (fr' := (9, [(0, .ref 1), (1, .int (nI k1)), (2, .int (nI i))], [.ref 1, .ref 1], gh S a b sc ar lo, ex, 0, 0)) rfl ?_
      refine to_get rfl rfl rfl rfl ?_
      refine to_n 2 (fr' := (14, [(0, .ref 1), (1, .int (nI k1)), (2, .int (nI i))], [.int (nI k1), .int 4, .ref 4, .ref 1], gh S a b sc ar lo, ex, 0, 0)) rfl ?_
      refine to_mulN (x := 4) (y := k1) rfl ?_
      refine to_n 1 (fr' := (16, [(0, .ref 1), (1, .int (nI k1)), (2, .int (nI i))], [.int (nI i), .int (nI (4 * k1)), .ref 4, .ref 1], gh S a b sc ar lo, ex, 0, 0)) rfl ?_
      refine to_addN (x := (4 * k1)) (y := i) rfl ?_
      refine to_ialR (i := ((4 * k1) + i)) (v := (ar 4 ((4 * k1) + i))) rfl (by decide) rfl (by omega) (by omega) rfl ?_
      refine to_cp (q := 7) (M1 := an_X0_burns) (rest := []) rfl rfl (by decide) rfl ⟨_, rfl⟩ (sf_X0_burns hW hI (ar 4 ((4 * k1) + i)) d) (fun x2 hx2 => ?_)
      rcases hx2 with ⟨rfl, w2⟩ | ⟨rfl, w2⟩
      · refine to_eq (fr' := (21, [(0, .ref 1), (1, .int (nI k1)), (2, .int (nI i))], [.int 1], gh S a b sc ar lo, ex, 0, 0)) rfl ?_
        refine to_n 2 (fr' := (25, [(0, .ref 1), (1, .int (nI k1)), (2, .int (nI i))], [.int 1], gh S a b sc ar lo, ex, 0, 0)) rfl ?_
        exact to_rt (i := .ireturn) (tg := []) rfl rfl ⟨_, rl_n (n := 1) (by omega), rfl⟩
      · refine to_eq (fr' := (21, [(0, .ref 1), (1, .int (nI k1)), (2, .int (nI i))], [.int 0], gh S a b sc ar lo, ex, 0, 0)) rfl ?_
        refine to_n 2 (fr' := (29, [(0, .ref 1), (1, .int (nI k1)), (2, .int ((nI i) + 1))], [], gh S a b sc ar lo, ex, 0, 0)) rfl ?_
        rw [nI_1 i]
        refine to_n 1 (fr' := (2, [(0, .ref 1), (1, .int (nI k1)), (2, .int (nI (i + 1)))], [], gh S a b sc ar lo, ex, 0, 0)) rfl ?_
        exact ih (i + 1) (by omega)
  refine to_n 2 (fr' := (2, [(0, .ref 1), (1, .int (nI k1)), (2, .int 0)], [], gh S a b sc ar lo, ex, 0, 0)) rfl ?_
  exact c2 (4 - 0) 0 (by omega)
set_option maxRecDepth 20000 in
theorem sf_X0_tally {X : Nat × (Nat → Int32)} {S a b : Nat} {sc : Nat → Int32} {ar : Nat → Nat → Int32} {lo : Nat → Int64} {ex : Bool} (hW : Wd S a b) (hI : Iv S sc ar) (w : Int32) (d : Nat)  : cp X S a b (d + 1) 6 [.ref 1, .int w] sc ar lo ex (fun x => x = zcn (ar 5) w S) := by
  obtain ⟨ha1, ha8, hb1, hb8, hab, hS1, hS⟩ := id hW
  refine cp_of (M := an_X0_tally) rfl (Nat.le_of_ble_eq_true rfl) ?_
  refine to_eq (fr' := (0, [(0, .ref 1), (1, .int w)], [], gh S a b sc ar lo, ex, 0, 0)) rfl ?_
  have c4 : ∀ m : Nat, ∀ (y : Int32) (i : Nat) , i + m = S → y = zcn (ar 5) w i → ag_To X d an_X0_tally (4, [(0, .ref 1), (1, .int w), (2, .int y), (3, .int (nI i))], [], gh S a b sc ar lo, ex, 0, 0) (qp S a b sc ar lo ex (fun x => x = zcn (ar 5) w S)) := by
    intro m
    induction m with
    | zero =>
      intro y i hm hc4_0
      refine to_n 2 (fr' := (6, [(0, .ref 1), (1, .int w), (2, .int y), (3, .int (nI i))], [.ref 1, .int (nI i)], gh S a b sc ar lo, ex, 0, 0)) rfl ?_
      refine to_get rfl rfl rfl rfl ?_
      refine to_nc_ge_T (t := 31) (x := i) (y := S) rfl (by omega) (by omega) (by omega) ?_
      refine to_n 1 (fr' := (32, [(0, .ref 1), (1, .int w), (2, .int y), (3, .int (nI i))], [.int y], gh S a b sc ar lo, ex, 0, 0)) rfl ?_
      exact to_rt (i := .ireturn) (tg := []) rfl rfl ⟨_, (by rw [hc4_0, show i = S by omega]), rfl⟩
    | succ m ih =>
      intro y i hm hc4_0
      refine to_n 2 (fr' := (6, [(0, .ref 1), (1, .int w), (2, .int y), (3, .int (nI i))], [.ref 1, .int (nI i)], gh S a b sc ar lo, ex, 0, 0)) rfl ?_
      refine to_get rfl rfl rfl rfl ?_
      refine to_nc_ge_F (t := 31) (x := i) (y := S) rfl (by omega) (by omega) (by omega) ?_
      refine to_n 1 (fr' := (13, [(0, .ref 1), (1, .int w), (2, .int y), (3, .int (nI i))], [.ref 1], gh S a b sc ar lo, ex, 0, 0)) rfl ?_
      refine to_get rfl rfl rfl rfl ?_
      refine to_n 1 (fr' := (17, [(0, .ref 1), (1, .int w), (2, .int y), (3, .int (nI i))], [.int (nI i), .ref 5], gh S a b sc ar lo, ex, 0, 0)) rfl ?_
      refine to_ialR (i := i) (v := (ar 5 i)) rfl (by decide) rfl (by omega) (by omega) rfl ?_
      refine to_n 1 (fr' := (19, [(0, .ref 1), (1, .int w), (2, .int y), (3, .int (nI i))], [.int w, .int (ar 5 i)], gh S a b sc ar lo, ex, 0, 0)) rfl ?_
      refine to_ic_ne (t := 25) rfl (fun q2 => ?_) (fun q2 => ?_)
      · refine to_n 1 (fr' := (28, [(0, .ref 1), (1, .int w), (2, .int y), (3, .int ((nI i) + 1))], [], gh S a b sc ar lo, ex, 0, 0)) rfl ?_
        rw [nI_1 i]
        refine to_n 1 (fr' := (4, [(0, .ref 1), (1, .int w), (2, .int y), (3, .int (nI (i + 1)))], [], gh S a b sc ar lo, ex, 0, 0)) rfl ?_
        exact ih y (i + 1) (by omega) (zcn_n hc4_0 q2)
      · refine to_n 2 (fr' := (28, [(0, .ref 1), (1, .int w), (2, .int (y + 1)), (3, .int ((nI i) + 1))], [], gh S a b sc ar lo, ex, 0, 0)) rfl ?_
        rw [nI_1 i]
        refine to_n 1 (fr' := (4, [(0, .ref 1), (1, .int w), (2, .int (y + 1)), (3, .int (nI (i + 1)))], [], gh S a b sc ar lo, ex, 0, 0)) rfl ?_
        exact ih (y + 1) (i + 1) (by omega) (zcn_y hc4_0 q2)
  refine to_n 4 (fr' := (4, [(0, .ref 1), (1, .int w), (2, .int 0), (3, .int 0)], [], gh S a b sc ar lo, ex, 0, 0)) rfl ?_
  exact c4 (S - 0) 0 0 (by omega) rfl
set_option maxRecDepth 20000 in
theorem sf_X0_wellNear {X : Nat × (Nat → Int32)} {S a b : Nat} {sc : Nat → Int32} {ar : Nat → Nat → Int32} {lo : Nat → Int64} {ex : Bool} (hW : Wd S a b) (hI : Iv S sc ar) (k1 : Nat) (hk1 : k1 < S) (hg : Gd S a b ar) (d : Nat)  : cp X S a b (d + 2) 9 [.ref 1, .int (nI k1)] sc ar lo ex (fun x => ((x = 1 ∧ zwl S a (ar 12) k1) ∨ (x = 0 ∧ ¬ (zwl S a (ar 12) k1)))) := by
  obtain ⟨ha1, ha8, hb1, hb8, hab, hS1, hS⟩ := id hW
  refine cp_of (M := an_X0_wellNear) rfl (Nat.le_of_ble_eq_true rfl) ?_
  refine to_eq (fr' := (0, [(0, .ref 1), (1, .int (nI k1))], [], gh S a b sc ar lo, ex, 0, 0)) rfl ?_
  have c2 : ∀ m : Nat, ∀ (i : Nat) , i + m = S → (∀ j : Nat, j < i → ¬ (¬ ar 12 j = 0 ∧ zds a j k1 ≤ 2)) → ag_To X (d + 1) an_X0_wellNear (2, [(0, .ref 1), (1, .int (nI k1)), (2, .int (nI i))], [], gh S a b sc ar lo, ex, 0, 0) (qp S a b sc ar lo ex (fun x => ((x = 1 ∧ zwl S a (ar 12) k1) ∨ (x = 0 ∧ ¬ (zwl S a (ar 12) k1))))) := by
    intro m
    induction m with
    | zero =>
      intro i hm hc2_0
      refine to_n 2 (fr' := (4, [(0, .ref 1), (1, .int (nI k1)), (2, .int (nI i))], [.ref 1, .int (nI i)], gh S a b sc ar lo, ex, 0, 0)) rfl ?_
      refine to_get rfl rfl rfl rfl ?_
      refine to_nc_ge_T (t := 37) (x := i) (y := S) rfl (by omega) (by omega) (by omega) ?_
      refine to_n 1 (fr' := (38, [(0, .ref 1), (1, .int (nI k1)), (2, .int (nI i))], [.int 0], gh S a b sc ar lo, ex, 0, 0)) rfl ?_
      exact to_rt (i := .ireturn) (tg := []) rfl rfl ⟨_, (Or.inr ⟨rfl, (fun ⟨j, h1, h2⟩ => hc2_0 j (by omega) h2)⟩), rfl⟩
    | succ m ih =>
      intro i hm hc2_0
      refine to_n 2 (fr' := (4, [(0, .ref 1), (1, .int (nI k1)), (2, .int (nI i))], [.ref 1, .int (nI i)], gh S a b sc ar lo, ex, 0, 0)) rfl ?_
      refine to_get rfl rfl rfl rfl ?_
      refine to_nc_ge_F (t := 37) (x := i) (y := S) rfl (by omega) (by omega) (by omega) ?_
      refine to_n 1 (fr' := (11, [(0, .ref 1), (1, .int (nI k1)), (2, .int (nI i))], [.ref 1], gh S a b sc ar lo, ex, 0, 0)) rfl ?_
      refine to_get rfl rfl rfl rfl ?_
      refine to_n 1 (fr' := (15, [(0, .ref 1), (1, .int (nI k1)), (2, .int (nI i))], [.int (nI i), .ref 12], gh S a b sc ar lo, ex, 0, 0)) rfl ?_
      refine to_zalR (i := i) (v := (ar 12 i)) rfl rfl (by omega) (by omega) rfl ?_
      refine to_if_eq (t := 31) rfl (fun q2 => ?_) (fun q2 => ?_)
      · refine to_n 1 (fr' := (34, [(0, .ref 1), (1, .int (nI k1)), (2, .int ((nI i) + 1))], [], gh S a b sc ar lo, ex, 0, 0)) rfl ?_
        rw [nI_1 i]
        refine to_n 1 (fr' := (2, [(0, .ref 1), (1, .int (nI k1)), (2, .int (nI (i + 1)))], [], gh S a b sc ar lo, ex, 0, 0)) rfl ?_
        exact ih (i + 1) (by omega) (fun j hj w => if e9 : j = i then (by subst e9; exact (fun w => w.1 q2) w) else hc2_0 j (by omega) w)
      · refine to_n 3 (fr' := (22, [(0, .ref 1), (1, .int (nI k1)), (2, .int (nI i))], [.int (nI k1), .int (nI i), .ref 1], gh S a b sc ar lo, ex, 0, 0)) rfl ?_
        refine to_cp (q := 3) (M1 := an_X0_far) (rest := []) rfl rfl (by decide) rfl ⟨_, rfl⟩ (sf_X0_far hW hI i (by omega) k1 (by omega) hg d) (fun x3 hx3 => ?_)
        obtain rfl := hx3
        have hb3 : zds a i k1 < 16 := zds_b hW (show i < S by omega) (show k1 < S by omega)
        refine to_eq (fr' := (25, [(0, .ref 1), (1, .int (nI k1)), (2, .int (nI i))], [.int (nI (zds a i k1))], gh S a b sc ar lo, ex, 0, 0)) rfl ?_
        refine to_n 1 (fr' := (26, [(0, .ref 1), (1, .int (nI k1)), (2, .int (nI i))], [.int 2, .int (nI (zds a i k1))], gh S a b sc ar lo, ex, 0, 0)) rfl ?_
        refine to_nc_gt (t := 31) (x := (zds a i k1)) (y := 2) rfl (by omega) (by omega) (fun q4 => ?_) (fun q4 => ?_)
        · refine to_n 1 (fr' := (34, [(0, .ref 1), (1, .int (nI k1)), (2, .int ((nI i) + 1))], [], gh S a b sc ar lo, ex, 0, 0)) rfl ?_
          rw [nI_1 i]
          refine to_n 1 (fr' := (2, [(0, .ref 1), (1, .int (nI k1)), (2, .int (nI (i + 1)))], [], gh S a b sc ar lo, ex, 0, 0)) rfl ?_
          exact ih (i + 1) (by omega) (fun j hj w => if e9 : j = i then (by subst e9; exact (fun w => absurd w.2 (by omega)) w) else hc2_0 j (by omega) w)
        · refine to_n 1 (fr' := (30, [(0, .ref 1), (1, .int (nI k1)), (2, .int (nI i))], [.int 1], gh S a b sc ar lo, ex, 0, 0)) rfl ?_
          exact to_rt (i := .ireturn) (tg := []) rfl rfl ⟨_, (Or.inl ⟨rfl, ⟨i, by omega, q2, by omega⟩⟩), rfl⟩
  refine to_n 2 (fr' := (2, [(0, .ref 1), (1, .int (nI k1)), (2, .int 0)], [], gh S a b sc ar lo, ex, 0, 0)) rfl ?_
  exact c2 (S - 0) 0 (by omega) (fun j hj => absurd hj (Nat.not_lt_zero _))
set_option maxRecDepth 20000 in
theorem sf_X0_windFrom {X : Nat × (Nat → Int32)} {S a b : Nat} {sc : Nat → Int32} {ar : Nat → Nat → Int32} {lo : Nat → Int64} {ex : Bool} (hW : Wd S a b) (hI : Iv S sc ar) (k1 : Nat) (hk1 : k1 < 4) (d : Nat)  : cp X S a b (d + 1) 12 [.int (nI k1)] sc ar lo ex (fun x => x = zwf k1) := by
  obtain ⟨ha1, ha8, hb1, hb8, hab, hS1, hS⟩ := id hW
  refine cp_of (M := an_X0_windFrom) rfl (Nat.le_of_ble_eq_true rfl) ?_
  refine to_eq (fr' := (0, [(0, .int (nI k1))], [], gh S a b sc ar lo, ex, 0, 0)) rfl ?_
  refine to_n 1 (fr' := (1, [(0, .int (nI k1))], [.int (nI k1)], gh S a b sc ar lo, ex, 0, 0)) rfl ?_
  rcases Decidable.em ((nI k1) = 0) with z1 | z1
  · refine to_eq (fr' := (1, [(0, .int (nI k1))], [.int 0], gh S a b sc ar lo, ex, 0, 0)) (by rw [z1]) ?_
    refine to_n 1 (fr' := (28, [(0, .int (nI k1))], [], gh S a b sc ar lo, ex, 0, 0)) rfl ?_
    refine to_n 1 (fr' := (29, [(0, .int (nI k1))], [.int 3], gh S a b sc ar lo, ex, 0, 0)) rfl ?_
    exact to_rt (i := .ireturn) (tg := []) rfl rfl ⟨_, (by have e : k1 = 0 := (nI_eq (by omega) (by omega)).mp z1; subst e; rfl), rfl⟩
  · rcases Decidable.em ((nI k1) = 1) with z2 | z2
    · refine to_eq (fr' := (1, [(0, .int (nI k1))], [.int 1], gh S a b sc ar lo, ex, 0, 0)) (by rw [z2]) ?_
      refine to_n 1 (fr' := (30, [(0, .int (nI k1))], [], gh S a b sc ar lo, ex, 0, 0)) rfl ?_
      refine to_n 1 (fr' := (31, [(0, .int (nI k1))], [.int 2], gh S a b sc ar lo, ex, 0, 0)) rfl ?_
      exact to_rt (i := .ireturn) (tg := []) rfl rfl ⟨_, (by have e : k1 = 1 := (nI_eq (by omega) (by omega)).mp z2; subst e; rfl), rfl⟩
    · rcases Decidable.em ((nI k1) = 2) with z3 | z3
      · refine to_eq (fr' := (1, [(0, .int (nI k1))], [.int 2], gh S a b sc ar lo, ex, 0, 0)) (by rw [z3]) ?_
        refine to_n 1 (fr' := (32, [(0, .int (nI k1))], [], gh S a b sc ar lo, ex, 0, 0)) rfl ?_
        refine to_n 1 (fr' := (33, [(0, .int (nI k1))], [.int 4], gh S a b sc ar lo, ex, 0, 0)) rfl ?_
        exact to_rt (i := .ireturn) (tg := []) rfl rfl ⟨_, (by have e : k1 = 2 := (nI_eq (by omega) (by omega)).mp z3; subst e; rfl), rfl⟩
      · refine to_tbf (t := 34) (ms := [1, 2, 3]) rfl rfl (by decide) rfl (by decide) (List.forall_mem_cons.mpr ⟨sw_ne z1 (by decide), (List.forall_mem_cons.mpr ⟨sw_ne z2 (by decide), (List.forall_mem_cons.mpr ⟨sw_ne z3 (by decide), (fun m h => absurd h List.not_mem_nil)⟩)⟩)⟩) ?_
        refine to_n 1 (fr' := (35, [(0, .int (nI k1))], [.int 1], gh S a b sc ar lo, ex, 0, 0)) rfl ?_
        exact to_rt (i := .ireturn) (tg := []) rfl rfl ⟨_, (by unfold zwf; rw [if_neg (fun e => z1 (by rw [e]; rfl)), if_neg (fun e => z2 (by rw [e]; rfl)), if_neg (fun e => z3 (by rw [e]; rfl))]), rfl⟩
set_option maxRecDepth 20000 in
theorem sf_X0_heatAt {X : Nat × (Nat → Int32)} {S a b : Nat} {sc : Nat → Int32} {ar : Nat → Nat → Int32} {lo : Nat → Int64} {ex : Bool} (hW : Wd S a b) (hI : Iv S sc ar) (k1 : Nat) (hk1 : k1 < S) (d : Nat)  : cp X S a b (d + 3) 11 [.ref 1, .int (nI k1)] sc ar lo ex (fun x => x = zht S (sc 112) (ar 5) (fun s => ar 4 (4 * k1 + s)) 4) := by
  obtain ⟨ha1, ha8, hb1, hb8, hab, hS1, hS⟩ := id hW
  refine cp_of (M := an_X0_heatAt) rfl (Nat.le_of_ble_eq_true rfl) ?_
  refine to_eq (fr' := (0, [(0, .ref 1), (1, .int (nI k1))], [], gh S a b sc ar lo, ex, 0, 0)) rfl ?_
  have c4 : ∀ m : Nat, ∀ (y : Int32) (i : Nat) , i + m = 4 → y = zht S (sc 112) (ar 5) (fun s => ar 4 (4 * k1 + s)) i → ag_To X (d + 2) an_X0_heatAt (4, [(0, .ref 1), (1, .int (nI k1)), (2, .int y), (3, .int (nI i))], [], gh S a b sc ar lo, ex, 0, 0) (qp S a b sc ar lo ex (fun x => x = zht S (sc 112) (ar 5) (fun s => ar 4 (4 * k1 + s)) 4)) := by
    intro m
    induction m with
    | zero =>
      intro y i hm hc4_0
      refine to_n 2 (fr' := (6, [(0, .ref 1), (1, .int (nI k1)), (2, .int y), (3, .int (nI i))], [.int 4, .int (nI i)], gh S a b sc ar lo, ex, 0, 0)) rfl ?_
      refine to_nc_ge_T (t := 51) (x := i) (y := 4) rfl (by omega) (by omega) (by omega) ?_
      refine to_n 1 (fr' := (52, [(0, .ref 1), (1, .int (nI k1)), (2, .int y), (3, .int (nI i))], [.int y], gh S a b sc ar lo, ex, 0, 0)) rfl ?_
      exact to_rt (i := .ireturn) (tg := []) rfl rfl ⟨_, (by rw [hc4_0, show i = 4 by omega]), rfl⟩
    | succ m ih =>
      intro y i hm hc4_0
      refine to_n 2 (fr' := (6, [(0, .ref 1), (1, .int (nI k1)), (2, .int y), (3, .int (nI i))], [.int 4, .int (nI i)], gh S a b sc ar lo, ex, 0, 0)) rfl ?_
      refine to_nc_ge_F (t := 51) (x := i) (y := 4) rfl (by omega) (by omega) (by omega) ?_
      refine to_n 2 (fr' := (11, [(0, .ref 1), (1, .int (nI k1)), (2, .int y), (3, .int (nI i))], [.ref 1, .ref 1], gh S a b sc ar lo, ex, 0, 0)) rfl ?_
      refine to_get rfl rfl rfl rfl ?_
      refine to_n 2 (fr' := (16, [(0, .ref 1), (1, .int (nI k1)), (2, .int y), (3, .int (nI i))], [.int (nI k1), .int 4, .ref 4, .ref 1], gh S a b sc ar lo, ex, 0, 0)) rfl ?_
      refine to_mulN (x := 4) (y := k1) rfl ?_
      refine to_n 1 (fr' := (18, [(0, .ref 1), (1, .int (nI k1)), (2, .int y), (3, .int (nI i))], [.int (nI i), .int (nI (4 * k1)), .ref 4, .ref 1], gh S a b sc ar lo, ex, 0, 0)) rfl ?_
      refine to_addN (x := (4 * k1)) (y := i) rfl ?_
      refine to_ialR (i := ((4 * k1) + i)) (v := (ar 4 ((4 * k1) + i))) rfl (by decide) rfl (by omega) (by omega) rfl ?_
      refine to_cp (q := 7) (M1 := an_X0_burns) (rest := []) rfl rfl (by decide) rfl ⟨_, rfl⟩ (sf_X0_burns hW hI (ar 4 ((4 * k1) + i)) d) (fun x2 hx2 => ?_)
      rcases hx2 with ⟨rfl, w2⟩ | ⟨rfl, w2⟩
      · refine to_eq (fr' := (23, [(0, .ref 1), (1, .int (nI k1)), (2, .int y), (3, .int (nI i))], [.int 1], gh S a b sc ar lo, ex, 0, 0)) rfl ?_
        refine to_n 3 (fr' := (28, [(0, .ref 1), (1, .int (nI k1)), (2, .int y), (3, .int (nI i))], [.ref 1, .int y], gh S a b sc ar lo, ex, 0, 0)) rfl ?_
        refine to_getR (v := (sc 112)) rfl rfl rfl rfl rfl ?_
        refine to_n 1 (fr' := (32, [(0, .ref 1), (1, .int (nI k1)), (2, .int y), (3, .int (nI i))], [.int (nI i), .int (sc 112), .int y], gh S a b sc ar lo, ex, 0, 0)) rfl ?_
        refine to_cp (q := 12) (M1 := an_X0_windFrom) (rest := [.int (sc 112), .int y]) rfl rfl (by decide) rfl trivial (sf_X0_windFrom hW hI i (by omega) (d + 1)) (fun x3 hx3 => ?_)
        have hp3 := hx3
        refine to_eq (fr' := (35, [(0, .ref 1), (1, .int (nI k1)), (2, .int y), (3, .int (nI i))], [.int x3, .int (sc 112), .int y], gh S a b sc ar lo, ex, 0, 0)) rfl ?_
        refine to_ic_ne (t := 42) rfl (fun q4 => ?_) (fun q4 => ?_)
        · refine to_n 4 (fr' := (48, [(0, .ref 1), (1, .int (nI k1)), (2, .int (y + 2)), (3, .int ((nI i) + 1))], [], gh S a b sc ar lo, ex, 0, 0)) rfl ?_
          rw [nI_1 i]
          refine to_n 1 (fr' := (4, [(0, .ref 1), (1, .int (nI k1)), (2, .int (y + 2)), (3, .int (nI (i + 1)))], [], gh S a b sc ar lo, ex, 0, 0)) rfl ?_
          exact ih (y + 2) (i + 1) (by omega) (zht_2 hc4_0 w2 (fun e => q4 (e.trans hp3.symm)))
        · refine to_n 5 (fr' := (48, [(0, .ref 1), (1, .int (nI k1)), (2, .int (y + 4)), (3, .int ((nI i) + 1))], [], gh S a b sc ar lo, ex, 0, 0)) rfl ?_
          rw [nI_1 i]
          refine to_n 1 (fr' := (4, [(0, .ref 1), (1, .int (nI k1)), (2, .int (y + 4)), (3, .int (nI (i + 1)))], [], gh S a b sc ar lo, ex, 0, 0)) rfl ?_
          exact ih (y + 4) (i + 1) (by omega) (zht_4 hc4_0 w2 (q4.trans hp3))
      · refine to_eq (fr' := (23, [(0, .ref 1), (1, .int (nI k1)), (2, .int y), (3, .int (nI i))], [.int 0], gh S a b sc ar lo, ex, 0, 0)) rfl ?_
        refine to_n 2 (fr' := (48, [(0, .ref 1), (1, .int (nI k1)), (2, .int y), (3, .int ((nI i) + 1))], [], gh S a b sc ar lo, ex, 0, 0)) rfl ?_
        rw [nI_1 i]
        refine to_n 1 (fr' := (4, [(0, .ref 1), (1, .int (nI k1)), (2, .int y), (3, .int (nI (i + 1)))], [], gh S a b sc ar lo, ex, 0, 0)) rfl ?_
        exact ih y (i + 1) (by omega) (zht_0 hc4_0 w2)
  refine to_n 4 (fr' := (4, [(0, .ref 1), (1, .int (nI k1)), (2, .int 0), (3, .int 0)], [], gh S a b sc ar lo, ex, 0, 0)) rfl ?_
  exact c4 (4 - 0) 0 0 (by omega) rfl
set_option maxRecDepth 20000 in
theorem sf_X0_build {X : Nat × (Nat → Int32)} {S a b : Nat} {sc : Nat → Int32} {ar : Nat → Nat → Int32} {lo : Nat → Int64} {ex : Bool} (hW : Wd S a b) (hI : Iv S sc ar) (k1 : Nat) (hk1 : k1 < S) (x1 : Int32) (x2 : Int32) (d : Nat)  : ci X S a b (d + 1) 5 [.ref 1, .int (nI k1), .int x1, .int x2] sc ar lo ex (fun x sc' ar' => Iv S sc' ar' ∧ Fr [] [5, 6, 7, 8, 9, 10] sc ar sc' ar' ∧ rl x 2 ∧ zbd k1 x1 x2 x (ar 5) (ar 6) (ar 7) (ar 8) (ar 9) (ar 10) (ar 12) (ar' 5) (ar' 6) (ar' 7) (ar' 8) (ar' 9) (ar' 10)) := by
  obtain ⟨ha1, ha8, hb1, hb8, hab, hS1, hS⟩ := id hW
  refine ci_of (M := an_X0_build) rfl (Nat.le_of_ble_eq_true rfl) ?_
  have hF : Fr [] [5, 6, 7, 8, 9, 10] sc ar sc ar := fr_0
  refine to_eq (fr' := (0, [(0, .ref 1), (1, .int (nI k1)), (2, .int x1), (3, .int x2)], [], gh S a b sc ar lo, ex, 0, 0)) rfl ?_
  refine to_n 1 (fr' := (1, [(0, .ref 1), (1, .int (nI k1)), (2, .int x1), (3, .int x2)], [.ref 1], gh S a b sc ar lo, ex, 0, 0)) rfl ?_
  refine to_get rfl rfl rfl rfl ?_
  refine to_n 1 (fr' := (5, [(0, .ref 1), (1, .int (nI k1)), (2, .int x1), (3, .int x2)], [.int (nI k1), .ref 12], gh S a b sc ar lo, ex, 0, 0)) rfl ?_
  refine to_zalR (i := k1) (v := (ar 12 k1)) rfl rfl (by omega) (by omega) (congrFun (hF.2 12 (by decide)) k1) ?_
  refine to_if_ne (t := 28) rfl (fun q1 => ?_) (fun q1 => ?_)
  · refine to_n 1 (fr' := (29, [(0, .ref 1), (1, .int (nI k1)), (2, .int x1), (3, .int x2)], [.int 0], gh S a b sc ar lo, ex, 0, 0)) rfl ?_
    exact to_rt (i := .ireturn) (tg := []) rfl rfl ⟨_, _, _, ⟨hI, hF, ⟨rl_n (n := 0) (by omega), (Or.inr ⟨rfl, (fun w => q1 w.1), rfl, rfl, rfl, rfl, rfl, rfl⟩)⟩⟩, rfl⟩
  · refine to_n 1 (fr' := (10, [(0, .ref 1), (1, .int (nI k1)), (2, .int x1), (3, .int x2)], [.ref 1], gh S a b sc ar lo, ex, 0, 0)) rfl ?_
    refine to_get rfl rfl rfl rfl ?_
    refine to_n 1 (fr' := (14, [(0, .ref 1), (1, .int (nI k1)), (2, .int x1), (3, .int x2)], [.int (nI k1), .ref 5], gh S a b sc ar lo, ex, 0, 0)) rfl ?_
    refine to_ialR (i := k1) (v := ((ar 5) k1)) rfl (by decide) rfl (by omega) (by omega) rfl ?_
    refine to_if_eq (t := 28) rfl (fun q2 => ?_) (fun q2 => ?_)
    · refine to_n 1 (fr' := (29, [(0, .ref 1), (1, .int (nI k1)), (2, .int x1), (3, .int x2)], [.int 0], gh S a b sc ar lo, ex, 0, 0)) rfl ?_
      exact to_rt (i := .ireturn) (tg := []) rfl rfl ⟨_, _, _, ⟨hI, hF, ⟨rl_n (n := 0) (by omega), (Or.inr ⟨rfl, (fun w => w.2.1 q2), rfl, rfl, rfl, rfl, rfl, rfl⟩)⟩⟩, rfl⟩
    · refine to_n 1 (fr' := (19, [(0, .ref 1), (1, .int (nI k1)), (2, .int x1), (3, .int x2)], [.ref 1], gh S a b sc ar lo, ex, 0, 0)) rfl ?_
      refine to_get rfl rfl rfl rfl ?_
      refine to_n 1 (fr' := (23, [(0, .ref 1), (1, .int (nI k1)), (2, .int x1), (3, .int x2)], [.int (nI k1), .ref 5], gh S a b sc ar lo, ex, 0, 0)) rfl ?_
      refine to_ialR (i := k1) (v := ((ar 5) k1)) rfl (by decide) rfl (by omega) (by omega) rfl ?_
      refine to_n 1 (fr' := (25, [(0, .ref 1), (1, .int (nI k1)), (2, .int x1), (3, .int x2)], [.int 1, .int ((ar 5) k1)], gh S a b sc ar lo, ex, 0, 0)) rfl ?_
      refine to_ic_ne (t := 30) rfl (fun q3 => ?_) (fun q3 => ?_)
      · refine to_n 1 (fr' := (31, [(0, .ref 1), (1, .int (nI k1)), (2, .int x1), (3, .int x2)], [.ref 1], gh S a b sc ar lo, ex, 0, 0)) rfl ?_
        refine to_get rfl rfl rfl rfl ?_
        refine to_n 2 (fr' := (36, [(0, .ref 1), (1, .int (nI k1)), (2, .int x1), (3, .int x2)], [.int 0, .int (nI k1), .ref 5], gh S a b sc ar lo, ex, 0, 0)) rfl ?_
        refine to_iasR (i := k1) (h' := gh S a b sc (uA ar 5 (upd (ar 5) k1 0)) lo) rfl rfl (by omega) (by omega) rfl ?_
        have hI4 := ia_5 (g := (upd (ar 5) k1 0)) hI
        have hF4 := fr_a (c := 5) (g := (upd (ar 5) k1 0)) hF (by decide)
        refine to_n 1 (fr' := (38, [(0, .ref 1), (1, .int (nI k1)), (2, .int x1), (3, .int x2)], [.ref 1], gh S a b sc (uA ar 5 (upd (ar 5) k1 0)) lo, ex, 0, 0)) rfl ?_
        refine to_get rfl rfl rfl rfl ?_
        refine to_n 2 (fr' := (43, [(0, .ref 1), (1, .int (nI k1)), (2, .int x1), (3, .int x2)], [.int x1, .int (nI k1), .ref 6], gh S a b sc (uA ar 5 (upd (ar 5) k1 0)) lo, ex, 0, 0)) rfl ?_
        refine to_iasR (i := k1) (h' := gh S a b sc (uA (uA ar 5 (upd (ar 5) k1 0)) 6 (upd ((uA ar 5 (upd (ar 5) k1 0)) 6) k1 x1)) lo) rfl rfl (by omega) (by omega) rfl ?_
        have hI5 := ia_6 (g := (upd ((uA ar 5 (upd (ar 5) k1 0)) 6) k1 x1)) hI4
        have hF5 := fr_a (c := 6) (g := (upd ((uA ar 5 (upd (ar 5) k1 0)) 6) k1 x1)) hF4 (by decide)
        refine to_n 1 (fr' := (45, [(0, .ref 1), (1, .int (nI k1)), (2, .int x1), (3, .int x2)], [.ref 1], gh S a b sc (uA (uA ar 5 (upd (ar 5) k1 0)) 6 (upd ((uA ar 5 (upd (ar 5) k1 0)) 6) k1 x1)) lo, ex, 0, 0)) rfl ?_
        refine to_get rfl rfl rfl rfl ?_
        refine to_n 2 (fr' := (50, [(0, .ref 1), (1, .int (nI k1)), (2, .int x1), (3, .int x2)], [.int x2, .int (nI k1), .ref 7], gh S a b sc (uA (uA ar 5 (upd (ar 5) k1 0)) 6 (upd ((uA ar 5 (upd (ar 5) k1 0)) 6) k1 x1)) lo, ex, 0, 0)) rfl ?_
        refine to_iasR (i := k1) (h' := gh S a b sc (uA (uA (uA ar 5 (upd (ar 5) k1 0)) 6 (upd ((uA ar 5 (upd (ar 5) k1 0)) 6) k1 x1)) 7 (upd ((uA (uA ar 5 (upd (ar 5) k1 0)) 6 (upd ((uA ar 5 (upd (ar 5) k1 0)) 6) k1 x1)) 7) k1 x2)) lo) rfl rfl (by omega) (by omega) rfl ?_
        have hI6 := ia_7 (g := (upd ((uA (uA ar 5 (upd (ar 5) k1 0)) 6 (upd ((uA ar 5 (upd (ar 5) k1 0)) 6) k1 x1)) 7) k1 x2)) hI5
        have hF6 := fr_a (c := 7) (g := (upd ((uA (uA ar 5 (upd (ar 5) k1 0)) 6 (upd ((uA ar 5 (upd (ar 5) k1 0)) 6) k1 x1)) 7) k1 x2)) hF5 (by decide)
        refine to_n 1 (fr' := (52, [(0, .ref 1), (1, .int (nI k1)), (2, .int x1), (3, .int x2)], [.ref 1], gh S a b sc (uA (uA (uA ar 5 (upd (ar 5) k1 0)) 6 (upd ((uA ar 5 (upd (ar 5) k1 0)) 6) k1 x1)) 7 (upd ((uA (uA ar 5 (upd (ar 5) k1 0)) 6 (upd ((uA ar 5 (upd (ar 5) k1 0)) 6) k1 x1)) 7) k1 x2)) lo, ex, 0, 0)) rfl ?_
        refine to_get rfl rfl rfl rfl ?_
        refine to_n 2 (fr' := (57, [(0, .ref 1), (1, .int (nI k1)), (2, .int x1), (3, .int x2)], [.int x1, .int (nI k1), .ref 8], gh S a b sc (uA (uA (uA ar 5 (upd (ar 5) k1 0)) 6 (upd ((uA ar 5 (upd (ar 5) k1 0)) 6) k1 x1)) 7 (upd ((uA (uA ar 5 (upd (ar 5) k1 0)) 6 (upd ((uA ar 5 (upd (ar 5) k1 0)) 6) k1 x1)) 7) k1 x2)) lo, ex, 0, 0)) rfl ?_
        refine to_iasR (i := k1) (h' := gh S a b sc (uA (uA (uA (uA ar 5 (upd (ar 5) k1 0)) 6 (upd ((uA ar 5 (upd (ar 5) k1 0)) 6) k1 x1)) 7 (upd ((uA (uA ar 5 (upd (ar 5) k1 0)) 6 (upd ((uA ar 5 (upd (ar 5) k1 0)) 6) k1 x1)) 7) k1 x2)) 8 (upd ((uA (uA (uA ar 5 (upd (ar 5) k1 0)) 6 (upd ((uA ar 5 (upd (ar 5) k1 0)) 6) k1 x1)) 7 (upd ((uA (uA ar 5 (upd (ar 5) k1 0)) 6 (upd ((uA ar 5 (upd (ar 5) k1 0)) 6) k1 x1)) 7) k1 x2)) 8) k1 x1)) lo) rfl rfl (by omega) (by omega) rfl ?_
        have hI7 := ia_8 (g := (upd ((uA (uA (uA ar 5 (upd (ar 5) k1 0)) 6 (upd ((uA ar 5 (upd (ar 5) k1 0)) 6) k1 x1)) 7 (upd ((uA (uA ar 5 (upd (ar 5) k1 0)) 6 (upd ((uA ar 5 (upd (ar 5) k1 0)) 6) k1 x1)) 7) k1 x2)) 8) k1 x1)) hI6
        have hF7 := fr_a (c := 8) (g := (upd ((uA (uA (uA ar 5 (upd (ar 5) k1 0)) 6 (upd ((uA ar 5 (upd (ar 5) k1 0)) 6) k1 x1)) 7 (upd ((uA (uA ar 5 (upd (ar 5) k1 0)) 6 (upd ((uA ar 5 (upd (ar 5) k1 0)) 6) k1 x1)) 7) k1 x2)) 8) k1 x1)) hF6 (by decide)
        refine to_n 1 (fr' := (59, [(0, .ref 1), (1, .int (nI k1)), (2, .int x1), (3, .int x2)], [.ref 1], gh S a b sc (uA (uA (uA (uA ar 5 (upd (ar 5) k1 0)) 6 (upd ((uA ar 5 (upd (ar 5) k1 0)) 6) k1 x1)) 7 (upd ((uA (uA ar 5 (upd (ar 5) k1 0)) 6 (upd ((uA ar 5 (upd (ar 5) k1 0)) 6) k1 x1)) 7) k1 x2)) 8 (upd ((uA (uA (uA ar 5 (upd (ar 5) k1 0)) 6 (upd ((uA ar 5 (upd (ar 5) k1 0)) 6) k1 x1)) 7 (upd ((uA (uA ar 5 (upd (ar 5) k1 0)) 6 (upd ((uA ar 5 (upd (ar 5) k1 0)) 6) k1 x1)) 7) k1 x2)) 8) k1 x1)) lo, ex, 0, 0)) rfl ?_
        refine to_get rfl rfl rfl rfl ?_
        refine to_n 2 (fr' := (64, [(0, .ref 1), (1, .int (nI k1)), (2, .int x1), (3, .int x2)], [.int 0, .int (nI k1), .ref 9], gh S a b sc (uA (uA (uA (uA ar 5 (upd (ar 5) k1 0)) 6 (upd ((uA ar 5 (upd (ar 5) k1 0)) 6) k1 x1)) 7 (upd ((uA (uA ar 5 (upd (ar 5) k1 0)) 6 (upd ((uA ar 5 (upd (ar 5) k1 0)) 6) k1 x1)) 7) k1 x2)) 8 (upd ((uA (uA (uA ar 5 (upd (ar 5) k1 0)) 6 (upd ((uA ar 5 (upd (ar 5) k1 0)) 6) k1 x1)) 7 (upd ((uA (uA ar 5 (upd (ar 5) k1 0)) 6 (upd ((uA ar 5 (upd (ar 5) k1 0)) 6) k1 x1)) 7) k1 x2)) 8) k1 x1)) lo, ex, 0, 0)) rfl ?_
        refine to_iasR (i := k1) (h' := gh S a b sc (uA (uA (uA (uA (uA ar 5 (upd (ar 5) k1 0)) 6 (upd ((uA ar 5 (upd (ar 5) k1 0)) 6) k1 x1)) 7 (upd ((uA (uA ar 5 (upd (ar 5) k1 0)) 6 (upd ((uA ar 5 (upd (ar 5) k1 0)) 6) k1 x1)) 7) k1 x2)) 8 (upd ((uA (uA (uA ar 5 (upd (ar 5) k1 0)) 6 (upd ((uA ar 5 (upd (ar 5) k1 0)) 6) k1 x1)) 7 (upd ((uA (uA ar 5 (upd (ar 5) k1 0)) 6 (upd ((uA ar 5 (upd (ar 5) k1 0)) 6) k1 x1)) 7) k1 x2)) 8) k1 x1)) 9 (upd ((uA (uA (uA (uA ar 5 (upd (ar 5) k1 0)) 6 (upd ((uA ar 5 (upd (ar 5) k1 0)) 6) k1 x1)) 7 (upd ((uA (uA ar 5 (upd (ar 5) k1 0)) 6 (upd ((uA ar 5 (upd (ar 5) k1 0)) 6) k1 x1)) 7) k1 x2)) 8 (upd ((uA (uA (uA ar 5 (upd (ar 5) k1 0)) 6 (upd ((uA ar 5 (upd (ar 5) k1 0)) 6) k1 x1)) 7 (upd ((uA (uA ar 5 (upd (ar 5) k1 0)) 6 (upd ((uA ar 5 (upd (ar 5) k1 0)) 6) k1 x1)) 7) k1 x2)) 8) k1 x1)) 9) k1 0)) lo) rfl rfl (by omega) (by omega) rfl ?_
        have hI8 := ia_9 (g := (upd ((uA (uA (uA (uA ar 5 (upd (ar 5) k1 0)) 6 (upd ((uA ar 5 (upd (ar 5) k1 0)) 6) k1 x1)) 7 (upd ((uA (uA ar 5 (upd (ar 5) k1 0)) 6 (upd ((uA ar 5 (upd (ar 5) k1 0)) 6) k1 x1)) 7) k1 x2)) 8 (upd ((uA (uA (uA ar 5 (upd (ar 5) k1 0)) 6 (upd ((uA ar 5 (upd (ar 5) k1 0)) 6) k1 x1)) 7 (upd ((uA (uA ar 5 (upd (ar 5) k1 0)) 6 (upd ((uA ar 5 (upd (ar 5) k1 0)) 6) k1 x1)) 7) k1 x2)) 8) k1 x1)) 9) k1 0)) hI7
        have hF8 := fr_a (c := 9) (g := (upd ((uA (uA (uA (uA ar 5 (upd (ar 5) k1 0)) 6 (upd ((uA ar 5 (upd (ar 5) k1 0)) 6) k1 x1)) 7 (upd ((uA (uA ar 5 (upd (ar 5) k1 0)) 6 (upd ((uA ar 5 (upd (ar 5) k1 0)) 6) k1 x1)) 7) k1 x2)) 8 (upd ((uA (uA (uA ar 5 (upd (ar 5) k1 0)) 6 (upd ((uA ar 5 (upd (ar 5) k1 0)) 6) k1 x1)) 7 (upd ((uA (uA ar 5 (upd (ar 5) k1 0)) 6 (upd ((uA ar 5 (upd (ar 5) k1 0)) 6) k1 x1)) 7) k1 x2)) 8) k1 x1)) 9) k1 0)) hF7 (by decide)
        refine to_n 1 (fr' := (66, [(0, .ref 1), (1, .int (nI k1)), (2, .int x1), (3, .int x2)], [.ref 1], gh S a b sc (uA (uA (uA (uA (uA ar 5 (upd (ar 5) k1 0)) 6 (upd ((uA ar 5 (upd (ar 5) k1 0)) 6) k1 x1)) 7 (upd ((uA (uA ar 5 (upd (ar 5) k1 0)) 6 (upd ((uA ar 5 (upd (ar 5) k1 0)) 6) k1 x1)) 7) k1 x2)) 8 (upd ((uA (uA (uA ar 5 (upd (ar 5) k1 0)) 6 (upd ((uA ar 5 (upd (ar 5) k1 0)) 6) k1 x1)) 7 (upd ((uA (uA ar 5 (upd (ar 5) k1 0)) 6 (upd ((uA ar 5 (upd (ar 5) k1 0)) 6) k1 x1)) 7) k1 x2)) 8) k1 x1)) 9 (upd ((uA (uA (uA (uA ar 5 (upd (ar 5) k1 0)) 6 (upd ((uA ar 5 (upd (ar 5) k1 0)) 6) k1 x1)) 7 (upd ((uA (uA ar 5 (upd (ar 5) k1 0)) 6 (upd ((uA ar 5 (upd (ar 5) k1 0)) 6) k1 x1)) 7) k1 x2)) 8 (upd ((uA (uA (uA ar 5 (upd (ar 5) k1 0)) 6 (upd ((uA ar 5 (upd (ar 5) k1 0)) 6) k1 x1)) 7 (upd ((uA (uA ar 5 (upd (ar 5) k1 0)) 6 (upd ((uA ar 5 (upd (ar 5) k1 0)) 6) k1 x1)) 7) k1 x2)) 8) k1 x1)) 9) k1 0)) lo, ex, 0, 0)) rfl ?_
        refine to_get rfl rfl rfl rfl ?_
        refine to_n 2 (fr' := (71, [(0, .ref 1), (1, .int (nI k1)), (2, .int x1), (3, .int x2)], [.int 0, .int (nI k1), .ref 10], gh S a b sc (uA (uA (uA (uA (uA ar 5 (upd (ar 5) k1 0)) 6 (upd ((uA ar 5 (upd (ar 5) k1 0)) 6) k1 x1)) 7 (upd ((uA (uA ar 5 (upd (ar 5) k1 0)) 6 (upd ((uA ar 5 (upd (ar 5) k1 0)) 6) k1 x1)) 7) k1 x2)) 8 (upd ((uA (uA (uA ar 5 (upd (ar 5) k1 0)) 6 (upd ((uA ar 5 (upd (ar 5) k1 0)) 6) k1 x1)) 7 (upd ((uA (uA ar 5 (upd (ar 5) k1 0)) 6 (upd ((uA ar 5 (upd (ar 5) k1 0)) 6) k1 x1)) 7) k1 x2)) 8) k1 x1)) 9 (upd ((uA (uA (uA (uA ar 5 (upd (ar 5) k1 0)) 6 (upd ((uA ar 5 (upd (ar 5) k1 0)) 6) k1 x1)) 7 (upd ((uA (uA ar 5 (upd (ar 5) k1 0)) 6 (upd ((uA ar 5 (upd (ar 5) k1 0)) 6) k1 x1)) 7) k1 x2)) 8 (upd ((uA (uA (uA ar 5 (upd (ar 5) k1 0)) 6 (upd ((uA ar 5 (upd (ar 5) k1 0)) 6) k1 x1)) 7 (upd ((uA (uA ar 5 (upd (ar 5) k1 0)) 6 (upd ((uA ar 5 (upd (ar 5) k1 0)) 6) k1 x1)) 7) k1 x2)) 8) k1 x1)) 9) k1 0)) lo, ex, 0, 0)) rfl ?_
        refine to_iasR (i := k1) (h' := gh S a b sc (uA (uA (uA (uA (uA (uA ar 5 (upd (ar 5) k1 0)) 6 (upd ((uA ar 5 (upd (ar 5) k1 0)) 6) k1 x1)) 7 (upd ((uA (uA ar 5 (upd (ar 5) k1 0)) 6 (upd ((uA ar 5 (upd (ar 5) k1 0)) 6) k1 x1)) 7) k1 x2)) 8 (upd ((uA (uA (uA ar 5 (upd (ar 5) k1 0)) 6 (upd ((uA ar 5 (upd (ar 5) k1 0)) 6) k1 x1)) 7 (upd ((uA (uA ar 5 (upd (ar 5) k1 0)) 6 (upd ((uA ar 5 (upd (ar 5) k1 0)) 6) k1 x1)) 7) k1 x2)) 8) k1 x1)) 9 (upd ((uA (uA (uA (uA ar 5 (upd (ar 5) k1 0)) 6 (upd ((uA ar 5 (upd (ar 5) k1 0)) 6) k1 x1)) 7 (upd ((uA (uA ar 5 (upd (ar 5) k1 0)) 6 (upd ((uA ar 5 (upd (ar 5) k1 0)) 6) k1 x1)) 7) k1 x2)) 8 (upd ((uA (uA (uA ar 5 (upd (ar 5) k1 0)) 6 (upd ((uA ar 5 (upd (ar 5) k1 0)) 6) k1 x1)) 7 (upd ((uA (uA ar 5 (upd (ar 5) k1 0)) 6 (upd ((uA ar 5 (upd (ar 5) k1 0)) 6) k1 x1)) 7) k1 x2)) 8) k1 x1)) 9) k1 0)) 10 (upd ((uA (uA (uA (uA (uA ar 5 (upd (ar 5) k1 0)) 6 (upd ((uA ar 5 (upd (ar 5) k1 0)) 6) k1 x1)) 7 (upd ((uA (uA ar 5 (upd (ar 5) k1 0)) 6 (upd ((uA ar 5 (upd (ar 5) k1 0)) 6) k1 x1)) 7) k1 x2)) 8 (upd ((uA (uA (uA ar 5 (upd (ar 5) k1 0)) 6 (upd ((uA ar 5 (upd (ar 5) k1 0)) 6) k1 x1)) 7 (upd ((uA (uA ar 5 (upd (ar 5) k1 0)) 6 (upd ((uA ar 5 (upd (ar 5) k1 0)) 6) k1 x1)) 7) k1 x2)) 8) k1 x1)) 9 (upd ((uA (uA (uA (uA ar 5 (upd (ar 5) k1 0)) 6 (upd ((uA ar 5 (upd (ar 5) k1 0)) 6) k1 x1)) 7 (upd ((uA (uA ar 5 (upd (ar 5) k1 0)) 6 (upd ((uA ar 5 (upd (ar 5) k1 0)) 6) k1 x1)) 7) k1 x2)) 8 (upd ((uA (uA (uA ar 5 (upd (ar 5) k1 0)) 6 (upd ((uA ar 5 (upd (ar 5) k1 0)) 6) k1 x1)) 7 (upd ((uA (uA ar 5 (upd (ar 5) k1 0)) 6 (upd ((uA ar 5 (upd (ar 5) k1 0)) 6) k1 x1)) 7) k1 x2)) 8) k1 x1)) 9) k1 0)) 10) k1 0)) lo) rfl rfl (by omega) (by omega) rfl ?_
        have hI9 := ia_10 (g := (upd ((uA (uA (uA (uA (uA ar 5 (upd (ar 5) k1 0)) 6 (upd ((uA ar 5 (upd (ar 5) k1 0)) 6) k1 x1)) 7 (upd ((uA (uA ar 5 (upd (ar 5) k1 0)) 6 (upd ((uA ar 5 (upd (ar 5) k1 0)) 6) k1 x1)) 7) k1 x2)) 8 (upd ((uA (uA (uA ar 5 (upd (ar 5) k1 0)) 6 (upd ((uA ar 5 (upd (ar 5) k1 0)) 6) k1 x1)) 7 (upd ((uA (uA ar 5 (upd (ar 5) k1 0)) 6 (upd ((uA ar 5 (upd (ar 5) k1 0)) 6) k1 x1)) 7) k1 x2)) 8) k1 x1)) 9 (upd ((uA (uA (uA (uA ar 5 (upd (ar 5) k1 0)) 6 (upd ((uA ar 5 (upd (ar 5) k1 0)) 6) k1 x1)) 7 (upd ((uA (uA ar 5 (upd (ar 5) k1 0)) 6 (upd ((uA ar 5 (upd (ar 5) k1 0)) 6) k1 x1)) 7) k1 x2)) 8 (upd ((uA (uA (uA ar 5 (upd (ar 5) k1 0)) 6 (upd ((uA ar 5 (upd (ar 5) k1 0)) 6) k1 x1)) 7 (upd ((uA (uA ar 5 (upd (ar 5) k1 0)) 6 (upd ((uA ar 5 (upd (ar 5) k1 0)) 6) k1 x1)) 7) k1 x2)) 8) k1 x1)) 9) k1 0)) 10) k1 0)) hI8
        have hF9 := fr_a (c := 10) (g := (upd ((uA (uA (uA (uA (uA ar 5 (upd (ar 5) k1 0)) 6 (upd ((uA ar 5 (upd (ar 5) k1 0)) 6) k1 x1)) 7 (upd ((uA (uA ar 5 (upd (ar 5) k1 0)) 6 (upd ((uA ar 5 (upd (ar 5) k1 0)) 6) k1 x1)) 7) k1 x2)) 8 (upd ((uA (uA (uA ar 5 (upd (ar 5) k1 0)) 6 (upd ((uA ar 5 (upd (ar 5) k1 0)) 6) k1 x1)) 7 (upd ((uA (uA ar 5 (upd (ar 5) k1 0)) 6 (upd ((uA ar 5 (upd (ar 5) k1 0)) 6) k1 x1)) 7) k1 x2)) 8) k1 x1)) 9 (upd ((uA (uA (uA (uA ar 5 (upd (ar 5) k1 0)) 6 (upd ((uA ar 5 (upd (ar 5) k1 0)) 6) k1 x1)) 7 (upd ((uA (uA ar 5 (upd (ar 5) k1 0)) 6 (upd ((uA ar 5 (upd (ar 5) k1 0)) 6) k1 x1)) 7) k1 x2)) 8 (upd ((uA (uA (uA ar 5 (upd (ar 5) k1 0)) 6 (upd ((uA ar 5 (upd (ar 5) k1 0)) 6) k1 x1)) 7 (upd ((uA (uA ar 5 (upd (ar 5) k1 0)) 6 (upd ((uA ar 5 (upd (ar 5) k1 0)) 6) k1 x1)) 7) k1 x2)) 8) k1 x1)) 9) k1 0)) 10) k1 0)) hF8 (by decide)
        refine to_n 1 (fr' := (73, [(0, .ref 1), (1, .int (nI k1)), (2, .int x1), (3, .int x2)], [.int 1], gh S a b sc (uA (uA (uA (uA (uA (uA ar 5 (upd (ar 5) k1 0)) 6 (upd ((uA ar 5 (upd (ar 5) k1 0)) 6) k1 x1)) 7 (upd ((uA (uA ar 5 (upd (ar 5) k1 0)) 6 (upd ((uA ar 5 (upd (ar 5) k1 0)) 6) k1 x1)) 7) k1 x2)) 8 (upd ((uA (uA (uA ar 5 (upd (ar 5) k1 0)) 6 (upd ((uA ar 5 (upd (ar 5) k1 0)) 6) k1 x1)) 7 (upd ((uA (uA ar 5 (upd (ar 5) k1 0)) 6 (upd ((uA ar 5 (upd (ar 5) k1 0)) 6) k1 x1)) 7) k1 x2)) 8) k1 x1)) 9 (upd ((uA (uA (uA (uA ar 5 (upd (ar 5) k1 0)) 6 (upd ((uA ar 5 (upd (ar 5) k1 0)) 6) k1 x1)) 7 (upd ((uA (uA ar 5 (upd (ar 5) k1 0)) 6 (upd ((uA ar 5 (upd (ar 5) k1 0)) 6) k1 x1)) 7) k1 x2)) 8 (upd ((uA (uA (uA ar 5 (upd (ar 5) k1 0)) 6 (upd ((uA ar 5 (upd (ar 5) k1 0)) 6) k1 x1)) 7 (upd ((uA (uA ar 5 (upd (ar 5) k1 0)) 6 (upd ((uA ar 5 (upd (ar 5) k1 0)) 6) k1 x1)) 7) k1 x2)) 8) k1 x1)) 9) k1 0)) 10 (upd ((uA (uA (uA (uA (uA ar 5 (upd (ar 5) k1 0)) 6 (upd ((uA ar 5 (upd (ar 5) k1 0)) 6) k1 x1)) 7 (upd ((uA (uA ar 5 (upd (ar 5) k1 0)) 6 (upd ((uA ar 5 (upd (ar 5) k1 0)) 6) k1 x1)) 7) k1 x2)) 8 (upd ((uA (uA (uA ar 5 (upd (ar 5) k1 0)) 6 (upd ((uA ar 5 (upd (ar 5) k1 0)) 6) k1 x1)) 7 (upd ((uA (uA ar 5 (upd (ar 5) k1 0)) 6 (upd ((uA ar 5 (upd (ar 5) k1 0)) 6) k1 x1)) 7) k1 x2)) 8) k1 x1)) 9 (upd ((uA (uA (uA (uA ar 5 (upd (ar 5) k1 0)) 6 (upd ((uA ar 5 (upd (ar 5) k1 0)) 6) k1 x1)) 7 (upd ((uA (uA ar 5 (upd (ar 5) k1 0)) 6 (upd ((uA ar 5 (upd (ar 5) k1 0)) 6) k1 x1)) 7) k1 x2)) 8 (upd ((uA (uA (uA ar 5 (upd (ar 5) k1 0)) 6 (upd ((uA ar 5 (upd (ar 5) k1 0)) 6) k1 x1)) 7 (upd ((uA (uA ar 5 (upd (ar 5) k1 0)) 6 (upd ((uA ar 5 (upd (ar 5) k1 0)) 6) k1 x1)) 7) k1 x2)) 8) k1 x1)) 9) k1 0)) 10) k1 0)) lo, ex, 0, 0)) rfl ?_
        exact to_rt (i := .ireturn) (tg := []) rfl rfl ⟨_, _, _, ⟨hI9, hF9, ⟨rl_n (n := 1) (by omega), (Or.inl ⟨rfl, ⟨q1, q2, q3⟩, rfl, rfl, rfl, rfl, rfl, rfl⟩)⟩⟩, rfl⟩
      · refine to_n 1 (fr' := (29, [(0, .ref 1), (1, .int (nI k1)), (2, .int x1), (3, .int x2)], [.int 0], gh S a b sc ar lo, ex, 0, 0)) rfl ?_
        exact to_rt (i := .ireturn) (tg := []) rfl rfl ⟨_, _, _, ⟨hI, hF, ⟨rl_n (n := 0) (by omega), (Or.inr ⟨rfl, (fun w => w.2.2 q3), rfl, rfl, rfl, rfl, rfl, rfl⟩)⟩⟩, rfl⟩
set_option maxRecDepth 20000 in
theorem sf_X0_warmUp {X : Nat × (Nat → Int32)} {S a b : Nat} {sc : Nat → Int32} {ar : Nat → Nat → Int32} {lo : Nat → Int64} {ex : Bool} (hW : Wd S a b) (hI : Iv S sc ar) (hg : Gd S a b ar) (d : Nat)  : ci X S a b (d + 4) 10 [.ref 1, .ref 48] sc ar lo ex (fun x sc' ar' => Iv S sc' ar' ∧ Fr [] [5, 9, 48] sc ar sc' ar' ∧ rl x (S + 1) ∧ zwu S a b (sc 112) (ar 5) (ar 9) (ar' 5) (ar' 9) (ar' 48) x) := by
  obtain ⟨ha1, ha8, hb1, hb8, hab, hS1, hS⟩ := id hW
  refine ci_of (M := an_X0_warmUp) rfl (Nat.le_of_ble_eq_true rfl) ?_
  have hF : Fr [] [5, 9, 48] sc ar sc ar := fr_0
  refine to_eq (fr' := (0, [(0, .ref 1), (1, .ref 48)], [], gh S a b sc ar lo, ex, 0, 0)) rfl ?_
  have c53 : ∀ m : Nat, ∀ (y : Nat) (i : Nat) (sc1 : Nat → Int32) (ar1 : Nat → Nat → Int32), i + m = S → y ≤ i → ar1 9 = (zwr S a b (sc 112) (ar 5) (ar 9)) → ar1 5 = zpw (zst (ar 5) (zwr S a b (sc 112) (ar 5) (ar 9))) (ar 5) i → zfs (zbr S a b (sc 112) (ar 5) (ar 9)) (ar1 48) i y → Iv S sc1 ar1 → Fr [] [5, 9, 48] sc ar sc1 ar1 → ag_To X (d + 3) an_X0_warmUp (53, [(0, .ref 1), (1, .ref 48), (2, .int (nI y)), (3, .int (nI i))], [], gh S a b sc1 ar1 lo, ex, 0, 0) (qi S a b lo ex (fun x sc' ar' => Iv S sc' ar' ∧ Fr [] [5, 9, 48] sc ar sc' ar' ∧ rl x (S + 1) ∧ zwu S a b (sc 112) (ar 5) (ar 9) (ar' 5) (ar' 9) (ar' 48) x)) := by
    intro m
    induction m with
    | zero =>
      intro y i sc1 ar1 hm hc53_0 hc53_1 hc53_2 hc53_3 hI1 hF1
      refine to_n 2 (fr' := (55, [(0, .ref 1), (1, .ref 48), (2, .int (nI y)), (3, .int (nI i))], [.ref 1, .int (nI i)], gh S a b sc1 ar1 lo, ex, 0, 0)) rfl ?_
      refine to_get rfl rfl rfl rfl ?_
      refine to_nc_ge_T (t := 106) (x := i) (y := S) rfl (by omega) (by omega) (by omega) ?_
      refine to_n 1 (fr' := (107, [(0, .ref 1), (1, .ref 48), (2, .int (nI y)), (3, .int (nI i))], [.int (nI y)], gh S a b sc1 ar1 lo, ex, 0, 0)) rfl ?_
      exact to_rt (i := .ireturn) (tg := []) rfl rfl ⟨_, _, _, ⟨hI1, hF1, ⟨rl_n (n := y) (by omega), (zwu_e (show i = S by omega) (by omega) hc53_1 hc53_2 hc53_3)⟩⟩, rfl⟩
    | succ m ih =>
      intro y i sc1 ar1 hm hc53_0 hc53_1 hc53_2 hc53_3 hI1 hF1
      refine to_n 2 (fr' := (55, [(0, .ref 1), (1, .ref 48), (2, .int (nI y)), (3, .int (nI i))], [.ref 1, .int (nI i)], gh S a b sc1 ar1 lo, ex, 0, 0)) rfl ?_
      refine to_get rfl rfl rfl rfl ?_
      refine to_nc_ge_F (t := 106) (x := i) (y := S) rfl (by omega) (by omega) (by omega) ?_
      refine to_n 2 (fr' := (63, [(0, .ref 1), (1, .ref 48), (2, .int (nI y)), (3, .int (nI i))], [.ref 48, .int (nI y)], gh S a b sc1 ar1 lo, ex, 0, 0)) rfl ?_
      refine to_len rfl (by decide) rfl (by decide) ?_
      refine to_eq (fr' := (64, [(0, .ref 1), (1, .ref 48), (2, .int (nI y)), (3, .int (nI i))], [.int (nI S), .int (nI y)], gh S a b sc1 ar1 lo, ex, 0, 0)) rfl ?_
      refine to_nc_ge_F (t := 106) (x := y) (y := S) rfl (by omega) (by omega) (by omega) ?_
      refine to_n 1 (fr' := (68, [(0, .ref 1), (1, .ref 48), (2, .int (nI y)), (3, .int (nI i))], [.ref 1], gh S a b sc1 ar1 lo, ex, 0, 0)) rfl ?_
      refine to_get rfl rfl rfl rfl ?_
      refine to_n 1 (fr' := (72, [(0, .ref 1), (1, .ref 48), (2, .int (nI y)), (3, .int (nI i))], [.int (nI i), .ref 5], gh S a b sc1 ar1 lo, ex, 0, 0)) rfl ?_
      refine to_ialR (i := i) (v := ((ar1 5) i)) rfl (by decide) rfl (by omega) (by omega) rfl ?_
      refine to_if_ne (t := 100) rfl (fun q2 => ?_) (fun q2 => ?_)
      · refine to_n 1 (fr' := (103, [(0, .ref 1), (1, .ref 48), (2, .int (nI y)), (3, .int ((nI i) + 1))], [], gh S a b sc1 ar1 lo, ex, 0, 0)) rfl ?_
        rw [nI_1 i]
        refine to_n 1 (fr' := (53, [(0, .ref 1), (1, .ref 48), (2, .int (nI y)), (3, .int (nI (i + 1)))], [], gh S a b sc1 ar1 lo, ex, 0, 0)) rfl ?_
        exact ih y (i + 1) sc1 ar1 (by omega) (by omega) hc53_1 (zpw_k hc53_2 (zst_n (fun w => q2 ((zpw_at hc53_2).trans w.1)))) (zfs_n hc53_3 (zbg_n (fun w => q2 ((zpw_at hc53_2).trans w.1)))) hI1 hF1
      · refine to_n 1 (fr' := (77, [(0, .ref 1), (1, .ref 48), (2, .int (nI y)), (3, .int (nI i))], [.ref 1], gh S a b sc1 ar1 lo, ex, 0, 0)) rfl ?_
        refine to_get rfl rfl rfl rfl ?_
        refine to_n 1 (fr' := (81, [(0, .ref 1), (1, .ref 48), (2, .int (nI y)), (3, .int (nI i))], [.int (nI i), .ref 9], gh S a b sc1 ar1 lo, ex, 0, 0)) rfl ?_
        refine to_ialR (i := i) (v := ((ar1 9) i)) rfl (by decide) rfl (by omega) (by omega) rfl ?_
        refine to_n 1 (fr' := (83, [(0, .ref 1), (1, .ref 48), (2, .int (nI y)), (3, .int (nI i))], [.int 5, .int ((ar1 9) i)], gh S a b sc1 ar1 lo, ex, 0, 0)) rfl ?_
        refine to_ic_lt (t := 100) rfl (fun q3 => ?_) (fun q3 => ?_)
        · refine to_n 1 (fr' := (103, [(0, .ref 1), (1, .ref 48), (2, .int (nI y)), (3, .int ((nI i) + 1))], [], gh S a b sc1 ar1 lo, ex, 0, 0)) rfl ?_
          rw [nI_1 i]
          refine to_n 1 (fr' := (53, [(0, .ref 1), (1, .ref 48), (2, .int (nI y)), (3, .int (nI (i + 1)))], [], gh S a b sc1 ar1 lo, ex, 0, 0)) rfl ?_
          exact ih y (i + 1) sc1 ar1 (by omega) (by omega) hc53_1 (zpw_k hc53_2 (zst_n (fun w => Int32.not_lt.mpr w.2 (show (zwr S a b (sc 112) (ar 5) (ar 9)) i < 5 from hc53_1 ▸ q3)))) (zfs_n hc53_3 (zbg_n (fun w => Int32.not_lt.mpr w.2 (show (zwr S a b (sc 112) (ar 5) (ar 9)) i < 5 from hc53_1 ▸ q3)))) hI1 hF1
        · refine to_n 1 (fr' := (87, [(0, .ref 1), (1, .ref 48), (2, .int (nI y)), (3, .int (nI i))], [.ref 1], gh S a b sc1 ar1 lo, ex, 0, 0)) rfl ?_
          refine to_get rfl rfl rfl rfl ?_
          refine to_n 2 (fr' := (92, [(0, .ref 1), (1, .ref 48), (2, .int (nI y)), (3, .int (nI i))], [.int 1, .int (nI i), .ref 5], gh S a b sc1 ar1 lo, ex, 0, 0)) rfl ?_
          refine to_iasR (i := i) (h' := gh S a b sc1 (uA ar1 5 (upd (ar1 5) i 1)) lo) rfl rfl (by omega) (by omega) rfl ?_
          have hI4 := ia_5 (g := (upd (ar1 5) i 1)) hI1
          have hF4 := fr_a (c := 5) (g := (upd (ar1 5) i 1)) hF1 (by decide)
          refine to_n 3 (fr' := (96, [(0, .ref 1), (1, .ref 48), (2, .int (nI y)), (3, .int (nI i))], [.int (nI i), .int (nI y), .ref 48], gh S a b sc1 (uA ar1 5 (upd (ar1 5) i 1)) lo, ex, 0, 0)) rfl ?_
          refine to_iasR (i := y) (h' := gh S a b sc1 (uA (uA ar1 5 (upd (ar1 5) i 1)) 48 (upd ((uA ar1 5 (upd (ar1 5) i 1)) 48) y (nI i))) lo) rfl rfl (by omega) (by omega) rfl ?_
          have hI5 := ia_48 (i := y) (v := (nI i)) hI4 (rl_n (n := i) (by omega))
          have hF5 := fr_a (c := 48) (g := (upd ((uA ar1 5 (upd (ar1 5) i 1)) 48) y (nI i))) hF4 (by decide)
          refine to_n 1 (fr' := (100, [(0, .ref 1), (1, .ref 48), (2, .int ((nI y) + 1)), (3, .int (nI i))], [], gh S a b sc1 (uA (uA ar1 5 (upd (ar1 5) i 1)) 48 (upd ((uA ar1 5 (upd (ar1 5) i 1)) 48) y (nI i))) lo, ex, 0, 0)) rfl ?_
          rw [nI_1 y]
          refine to_n 1 (fr' := (103, [(0, .ref 1), (1, .ref 48), (2, .int (nI (y + 1))), (3, .int ((nI i) + 1))], [], gh S a b sc1 (uA (uA ar1 5 (upd (ar1 5) i 1)) 48 (upd ((uA ar1 5 (upd (ar1 5) i 1)) 48) y (nI i))) lo, ex, 0, 0)) rfl ?_
          rw [nI_1 i]
          refine to_n 1 (fr' := (53, [(0, .ref 1), (1, .ref 48), (2, .int (nI (y + 1))), (3, .int (nI (i + 1)))], [], gh S a b sc1 (uA (uA ar1 5 (upd (ar1 5) i 1)) 48 (upd ((uA ar1 5 (upd (ar1 5) i 1)) 48) y (nI i))) lo, ex, 0, 0)) rfl ?_
          exact ih (y + 1) (i + 1) sc1 (uA (uA ar1 5 (upd (ar1 5) i 1)) 48 (upd ((uA ar1 5 (upd (ar1 5) i 1)) 48) y (nI i))) (by omega) (by omega) hc53_1 (zpw_u hc53_2 (zst_y ⟨((zpw_at hc53_2).symm.trans q2), Int32.not_lt.mp (show ¬ (zwr S a b (sc 112) (ar 5) (ar 9)) i < 5 from hc53_1 ▸ q3)⟩)) (zfs_y hc53_3 (zbg_y ⟨((zpw_at hc53_2).symm.trans q2), Int32.not_lt.mp (show ¬ (zwr S a b (sc 112) (ar 5) (ar 9)) i < 5 from hc53_1 ▸ q3)⟩)) hI5 hF5
  have c2 : ∀ m : Nat, ∀ (i : Nat) (sc6 : Nat → Int32) (ar6 : Nat → Nat → Int32), i + m = S → ar6 9 = zpw (zwm S a b (sc 112) (ar 5) (ar 9)) (ar 9) i → ar6 5 = ar 5 → Iv S sc6 ar6 → Fr [] [5, 9, 48] sc ar sc6 ar6 → ag_To X (d + 3) an_X0_warmUp (2, [(0, .ref 1), (1, .ref 48), (2, .int (nI i))], [], gh S a b sc6 ar6 lo, ex, 0, 0) (qi S a b lo ex (fun x sc' ar' => Iv S sc' ar' ∧ Fr [] [5, 9, 48] sc ar sc' ar' ∧ rl x (S + 1) ∧ zwu S a b (sc 112) (ar 5) (ar 9) (ar' 5) (ar' 9) (ar' 48) x)) := by
    intro m
    induction m with
    | zero =>
      intro i sc6 ar6 hm hc2_0 hc2_1 hI6 hF6
      refine to_n 2 (fr' := (4, [(0, .ref 1), (1, .ref 48), (2, .int (nI i))], [.ref 1, .int (nI i)], gh S a b sc6 ar6 lo, ex, 0, 0)) rfl ?_
      refine to_get rfl rfl rfl rfl ?_
      refine to_nc_ge_T (t := 49) (x := i) (y := S) rfl (by omega) (by omega) (by omega) ?_
      refine to_n 4 (fr' := (53, [(0, .ref 1), (1, .ref 48), (2, .int 0), (3, .int 0)], [], gh S a b sc6 ar6 lo, ex, 0, 0)) rfl ?_
      exact c53 (S - 0) 0 0 sc6 ar6 (by omega) (by omega) (by rw [hc2_0, show i = S by omega]; rfl) (by rw [hc2_1]; exact zpw_0) zfs_0 hI6 hF6
    | succ m ih =>
      intro i sc6 ar6 hm hc2_0 hc2_1 hI6 hF6
      refine to_n 2 (fr' := (4, [(0, .ref 1), (1, .ref 48), (2, .int (nI i))], [.ref 1, .int (nI i)], gh S a b sc6 ar6 lo, ex, 0, 0)) rfl ?_
      refine to_get rfl rfl rfl rfl ?_
      refine to_nc_ge_F (t := 49) (x := i) (y := S) rfl (by omega) (by omega) (by omega) ?_
      refine to_n 1 (fr' := (11, [(0, .ref 1), (1, .ref 48), (2, .int (nI i))], [.ref 1], gh S a b sc6 ar6 lo, ex, 0, 0)) rfl ?_
      refine to_get rfl rfl rfl rfl ?_
      refine to_n 1 (fr' := (15, [(0, .ref 1), (1, .ref 48), (2, .int (nI i))], [.int (nI i), .ref 5], gh S a b sc6 ar6 lo, ex, 0, 0)) rfl ?_
      refine to_ialR (i := i) (v := ((ar6 5) i)) rfl (by decide) rfl (by omega) (by omega) rfl ?_
      refine to_if_ne (t := 43) rfl (fun q7 => ?_) (fun q7 => ?_)
      · refine to_n 1 (fr' := (46, [(0, .ref 1), (1, .ref 48), (2, .int ((nI i) + 1))], [], gh S a b sc6 ar6 lo, ex, 0, 0)) rfl ?_
        rw [nI_1 i]
        refine to_n 1 (fr' := (2, [(0, .ref 1), (1, .ref 48), (2, .int (nI (i + 1)))], [], gh S a b sc6 ar6 lo, ex, 0, 0)) rfl ?_
        exact ih (i + 1) sc6 ar6 (by omega) (zpw_k hc2_0 (if_neg (show ¬ ar 5 i = 0 from hc2_1 ▸ q7)).symm) hc2_1 hI6 hF6
      · refine to_n 1 (fr' := (20, [(0, .ref 1), (1, .ref 48), (2, .int (nI i))], [.ref 1], gh S a b sc6 ar6 lo, ex, 0, 0)) rfl ?_
        refine to_get rfl rfl rfl rfl ?_
        refine to_n 3 (fr' := (26, [(0, .ref 1), (1, .ref 48), (2, .int (nI i))], [.ref 1, .int 0, .int (nI i), .ref 9], gh S a b sc6 ar6 lo, ex, 0, 0)) rfl ?_
        refine to_get rfl rfl rfl rfl ?_
        refine to_n 1 (fr' := (30, [(0, .ref 1), (1, .ref 48), (2, .int (nI i))], [.int (nI i), .ref 9, .int 0, .int (nI i), .ref 9], gh S a b sc6 ar6 lo, ex, 0, 0)) rfl ?_
        refine to_ialR (i := i) (v := ((ar6 9) i)) rfl (by decide) rfl (by omega) (by omega) rfl ?_
        refine to_n 2 (fr' := (33, [(0, .ref 1), (1, .ref 48), (2, .int (nI i))], [.int (nI i), .ref 1, .int ((ar6 9) i), .int 0, .int (nI i), .ref 9], gh S a b sc6 ar6 lo, ex, 0, 0)) rfl ?_
        refine to_cp (q := 11) (M1 := an_X0_heatAt) (rest := [.int ((ar6 9) i), .int 0, .int (nI i), .ref 9]) rfl rfl (by decide) rfl ⟨_, rfl⟩ (sf_X0_heatAt hW hI6 i (by omega) d) (fun x8 hx8 => ?_)
        have hp8 := hx8
        refine to_eq (fr' := (36, [(0, .ref 1), (1, .ref 48), (2, .int (nI i))], [.int x8, .int ((ar6 9) i), .int 0, .int (nI i), .ref 9], gh S a b sc6 ar6 lo, ex, 0, 0)) rfl ?_
        refine to_n 4 (fr' := (42, [(0, .ref 1), (1, .ref 48), (2, .int (nI i))], [.int (if 0 < ((((ar6 9) i) + x8) - 1) then ((((ar6 9) i) + x8) - 1) else 0), .int (nI i), .ref 9], gh S a b sc6 ar6 lo, ex, 0, 0)) rfl ?_
        refine to_iasR (i := i) (h' := gh S a b sc6 (uA ar6 9 (upd (ar6 9) i (if 0 < ((((ar6 9) i) + x8) - 1) then ((((ar6 9) i) + x8) - 1) else 0))) lo) rfl rfl (by omega) (by omega) rfl ?_
        have hI9 := ia_9 (g := (upd (ar6 9) i (if 0 < ((((ar6 9) i) + x8) - 1) then ((((ar6 9) i) + x8) - 1) else 0))) hI6
        have hF9 := fr_a (c := 9) (g := (upd (ar6 9) i (if 0 < ((((ar6 9) i) + x8) - 1) then ((((ar6 9) i) + x8) - 1) else 0))) hF6 (by decide)
        refine to_n 1 (fr' := (46, [(0, .ref 1), (1, .ref 48), (2, .int ((nI i) + 1))], [], gh S a b sc6 (uA ar6 9 (upd (ar6 9) i (if 0 < ((((ar6 9) i) + x8) - 1) then ((((ar6 9) i) + x8) - 1) else 0))) lo, ex, 0, 0)) rfl ?_
        rw [nI_1 i]
        refine to_n 1 (fr' := (2, [(0, .ref 1), (1, .ref 48), (2, .int (nI (i + 1)))], [], gh S a b sc6 (uA ar6 9 (upd (ar6 9) i (if 0 < ((((ar6 9) i) + x8) - 1) then ((((ar6 9) i) + x8) - 1) else 0))) lo, ex, 0, 0)) rfl ?_
        exact ih (i + 1) sc6 (uA ar6 9 (upd (ar6 9) i (if 0 < ((((ar6 9) i) + x8) - 1) then ((((ar6 9) i) + x8) - 1) else 0))) (by omega) (zpw_u hc2_0 (zwm_1 hg hF6 (by decide) (by decide) hc2_1 q7 (by omega) hc2_0 hp8)) hc2_1 hI9 hF9
  refine to_n 2 (fr' := (2, [(0, .ref 1), (1, .ref 48), (2, .int 0)], [], gh S a b sc ar lo, ex, 0, 0)) rfl ?_
  exact c2 (S - 0) 0 sc ar (by omega) zpw_0 rfl hI hF
