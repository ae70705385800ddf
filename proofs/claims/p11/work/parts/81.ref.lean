/-! the reference -/
theorem mc_isCell_1 {X : Nat × (Nat → Int32)} {S a b : Nat} {sc : Nat → Int32} {ar : Nat → Nat → Int32} {lo : Nat → Int64} {ex : Bool} {n : Nat} (hW : Wd S a b) (hn : n < S ∧ S < 2 ^ 31) (d : Nat) : cp X S a b (d + 1) 110 [.ref 49, .int (nI n)] sc ar lo ex (fun x => x = 1) := by
  obtain ⟨ha1, ha8, hb1, hb8, hab, hS1, hS⟩ := id hW
  refine cp_of (M := an_X10_isCell) rfl (Nat.le_of_ble_eq_true rfl) ?_
  refine to_n 1 (fr' := (1, [(0, .ref 49), (1, .int (nI n))], [.int (nI n)], gh S a b sc ar lo, ex, 0, 0)) rfl ?_
  refine to_nf_lt (x := n) rfl (by omega) ?_
  refine to_n 2 (fr' := (6, [(0, .ref 49), (1, .int (nI n))], [.ref 49, .int (nI n)], gh S a b sc ar lo, ex, 0, 0)) rfl ?_
  refine to_get rfl rfl rfl rfl ?_
  refine to_n 1 (fr' := (10, [(0, .ref 49), (1, .int (nI n))], [.ref 49, .int (nI a), .int (nI n)], gh S a b sc ar lo, ex, 0, 0)) rfl ?_
  refine to_get rfl rfl rfl rfl ?_
  refine to_mulN (x := a) (y := b) rfl ?_
  rw [hab]
  refine to_nc_ge_F (t := 21) (x := n) (y := S) rfl (by omega) (by omega) (by omega) ?_
  refine to_n 2 (fr' := (22, [(0, .ref 49), (1, .int (nI n))], [.int 1], gh S a b sc ar lo, ex, 0, 0)) rfl ?_
  exact to_rt (i := .ireturn) (tg := []) rfl rfl ⟨_, rfl, rfl⟩
theorem mc_isCell_0 {X : Nat × (Nat → Int32)} {S a b : Nat} {sc : Nat → Int32} {ar : Nat → Nat → Int32} {lo : Nat → Int64} {ex : Bool} {k : Int32} (hW : Wd S a b) (hk : ¬ (0 ≤ k ∧ k < nI S)) (d : Nat) : cp X S a b (d + 1) 110 [.ref 49, .int k] sc ar lo ex (fun x => x = 0) := by
  obtain ⟨ha1, ha8, hb1, hb8, hab, hS1, hS⟩ := id hW
  refine cp_of (M := an_X10_isCell) rfl (Nat.le_of_ble_eq_true rfl) ?_
  refine to_n 1 (fr' := (1, [(0, .ref 49), (1, .int k)], [.int k], gh S a b sc ar lo, ex, 0, 0)) rfl ?_
  refine to_if_lt (t := 21) rfl (fun w => ?_) (fun w => ?_)
  · refine to_n 1 (fr' := (22, [(0, .ref 49), (1, .int k)], [.int 0], gh S a b sc ar lo, ex, 0, 0)) rfl ?_
    exact to_rt (i := .ireturn) (tg := []) rfl rfl ⟨_, rfl, rfl⟩
  · refine to_n 2 (fr' := (6, [(0, .ref 49), (1, .int k)], [.ref 49, .int k], gh S a b sc ar lo, ex, 0, 0)) rfl ?_
    refine to_get rfl rfl rfl rfl ?_
    refine to_n 1 (fr' := (10, [(0, .ref 49), (1, .int k)], [.ref 49, .int (nI a), .int k], gh S a b sc ar lo, ex, 0, 0)) rfl ?_
    refine to_get rfl rfl rfl rfl ?_
    refine to_mulN (x := a) (y := b) rfl ?_
    rw [hab]
    refine to_ic_ge_T (t := 21) rfl (Int32.not_lt.mp (fun v => hk ⟨Int32.not_lt.mp w, v⟩)) ?_
    refine to_n 1 (fr' := (22, [(0, .ref 49), (1, .int k)], [.int 0], gh S a b sc ar lo, ex, 0, 0)) rfl ?_
    exact to_rt (i := .ireturn) (tg := []) rfl rfl ⟨_, rfl, rfl⟩
theorem mc_isCompany_1 {X : Nat × (Nat → Int32)} {S a b : Nat} {sc : Nat → Int32} {ar : Nat → Nat → Int32} {lo : Nat → Int64} {ex : Bool} {n m : Nat} (e : sc 4906 = nI m) (hn : n < m ∧ m < 2 ^ 31) (d : Nat) : cp X S a b (d + 1) 111 [.ref 49, .int (nI n)] sc ar lo ex (fun x => x = 1) := by
  refine cp_of (M := an_X10_isCompany) rfl (Nat.le_of_ble_eq_true rfl) ?_
  refine to_n 1 (fr' := (1, [(0, .ref 49), (1, .int (nI n))], [.int (nI n)], gh S a b sc ar lo, ex, 0, 0)) rfl ?_
  refine to_nf_lt (x := n) rfl (by omega) ?_
  refine to_n 2 (fr' := (6, [(0, .ref 49), (1, .int (nI n))], [.ref 49, .int (nI n)], gh S a b sc ar lo, ex, 0, 0)) rfl ?_
  refine to_getR (v := nI m) rfl rfl rfl rfl e ?_
  refine to_nc_ge_F (t := 16) (x := n) (y := m) rfl (by omega) (by omega) (by omega) ?_
  refine to_n 2 (fr' := (17, [(0, .ref 49), (1, .int (nI n))], [.int 1], gh S a b sc ar lo, ex, 0, 0)) rfl ?_
  exact to_rt (i := .ireturn) (tg := []) rfl rfl ⟨_, rfl, rfl⟩
theorem mc_isCompany_0 {X : Nat × (Nat → Int32)} {S a b : Nat} {sc : Nat → Int32} {ar : Nat → Nat → Int32} {lo : Nat → Int64} {ex : Bool} {k : Int32} {m : Nat} (e : sc 4906 = nI m) (hk : ¬ (0 ≤ k ∧ k < nI m)) (d : Nat) : cp X S a b (d + 1) 111 [.ref 49, .int k] sc ar lo ex (fun x => x = 0) := by
  refine cp_of (M := an_X10_isCompany) rfl (Nat.le_of_ble_eq_true rfl) ?_
  refine to_n 1 (fr' := (1, [(0, .ref 49), (1, .int k)], [.int k], gh S a b sc ar lo, ex, 0, 0)) rfl ?_
  refine to_if_lt (t := 16) rfl (fun w => ?_) (fun w => ?_)
  · refine to_n 1 (fr' := (17, [(0, .ref 49), (1, .int k)], [.int 0], gh S a b sc ar lo, ex, 0, 0)) rfl ?_
    exact to_rt (i := .ireturn) (tg := []) rfl rfl ⟨_, rfl, rfl⟩
  · refine to_n 2 (fr' := (6, [(0, .ref 49), (1, .int k)], [.ref 49, .int k], gh S a b sc ar lo, ex, 0, 0)) rfl ?_
    refine to_getR (v := nI m) rfl rfl rfl rfl e ?_
    refine to_ic_ge_T (t := 16) rfl (Int32.not_lt.mp (fun v => hk ⟨Int32.not_lt.mp w, v⟩)) ?_
    refine to_n 1 (fr' := (17, [(0, .ref 49), (1, .int k)], [.int 0], gh S a b sc ar lo, ex, 0, 0)) rfl ?_
    exact to_rt (i := .ireturn) (tg := []) rfl rfl ⟨_, rfl, rfl⟩
theorem bs_up {k a : Nat} (h : 0 < k / a) : a ≤ k := (Nat.div_pos_iff.mp h).2
theorem bs_down {k a b S : Nat} (hab : a * b = S) (ha : 1 ≤ a) (h : k / a + 1 < b) : k + a < S := by
  have h1 : k < a * (k / a + 1) := by
    have := Nat.mod_add_div k a
    have := Nat.mod_lt k (show a > 0 by omega)
    rw [Nat.mul_add, Nat.mul_one]
    omega
  have h2 : a * (k / a + 1 + 1) ≤ a * b := Nat.mul_le_mul_left a h
  rw [Nat.mul_add, Nat.mul_one] at h2
  omega
theorem bs_right {k a b S : Nat} (hab : a * b = S) (ha : 1 ≤ a) (hk : k < S) (h : k % a + 1 < a) : k + 1 < S := by
  have h1 : k / a < b := by
    rw [Nat.div_lt_iff_lt_mul (by omega), Nat.mul_comm]
    omega
  have h2 : a * (k / a + 1) ≤ a * b := Nat.mul_le_mul_left a h1
  rw [Nat.mul_add, Nat.mul_one] at h2
  have := Nat.mod_add_div k a
  omega
set_option maxRecDepth 20000 in
theorem sf_X10_fail {X : Nat × (Nat → Int32)} {S a b : Nat} {sc : Nat → Int32} {ar : Nat → Nat → Int32} {lo : Nat → Int64} {ex : Bool} (hW : Wd S a b) (hI : Iv S sc ar)  (d : Nat)  : ci X S a b (d + 1) 109 [.ref 49] sc ar lo ex (fun x sc' ar' => Iv S sc' ar' ∧ Fr [4901] [] sc ar sc' ar' ∧ sc' 4901 = 1) := by
  obtain ⟨ha1, ha8, hb1, hb8, hab, hS1, hS⟩ := id hW
  refine ci_of (M := an_X10_fail) rfl (Nat.le_of_ble_eq_true rfl) ?_
  have hF : Fr [4901] [] sc ar sc ar := fr_0
  refine to_eq (fr' := (0, [(0, .ref 49)], [], gh S a b sc ar lo, ex, 0, 0)) rfl ?_
  refine to_n 2 (fr' := (2, [(0, .ref 49)], [.int 1, .ref 49], gh S a b sc ar lo, ex, 0, 0)) rfl ?_
  refine to_putR (h' := gh S a b (upd sc 4901 1) ar lo) rfl rfl rfl (Nat.le_of_ble_eq_true rfl) rfl rfl ?_
  have hI1 := ip_4901 (v := 1) hI 
  have hF1 := fr_s (k := 4901) (v := 1) hF (by decide)
  refine to_n 1 (fr' := (6, [(0, .ref 49)], [.int 0], gh S a b (upd sc 4901 1) ar lo, ex, 0, 0)) rfl ?_
  exact to_rt (i := .ireturn) (tg := []) rfl rfl ⟨_, _, _, ⟨hI1, hF1, rfl⟩, rfl⟩
set_option maxRecDepth 20000 in
theorem sf_X10_beside {X : Nat × (Nat → Int32)} {S a b : Nat} {sc : Nat → Int32} {ar : Nat → Nat → Int32} {lo : Nat → Int64} {ex : Bool} (hW : Wd S a b) (hI : Iv S sc ar) (k1 : Nat) (hk1 : k1 < S) (w : Nat) (hw : w < 4) (d : Nat)  : cp X S a b (d + 1) 112 [.ref 49, .int (nI k1), .int (nI w)] sc ar lo ex (fun x => rq x S ∧ x = znb a b k1 (zwy w)) := by
  obtain ⟨ha1, ha8, hb1, hb8, hab, hS1, hS⟩ := id hW
  have b1 : 0 < k1 / a → a ≤ k1 := bs_up
  have b2 : k1 / a + 1 < b → k1 + a < S := bs_down hab ha1
  have b3 : k1 % a + 1 < a → k1 + 1 < S := bs_right hab ha1 hk1
  have b4 : k1 % a ≤ k1 := Nat.mod_le _ _
  have b5 : k1 / a ≤ k1 := Nat.div_le_self _ _
  have b6 : 0 ≤ k1 / a := Nat.zero_le _
  refine cp_of (M := an_X10_beside) rfl (Nat.le_of_ble_eq_true rfl) ?_
  refine to_eq (fr' := (0, [(0, .ref 49), (1, .int (nI k1)), (2, .int (nI w))], [], gh S a b sc ar lo, ex, 0, 0)) rfl ?_
  refine to_n 2 (fr' := (2, [(0, .ref 49), (1, .int (nI k1)), (2, .int (nI w))], [.ref 49, .int (nI k1)], gh S a b sc ar lo, ex, 0, 0)) rfl ?_
  refine to_get rfl rfl rfl rfl ?_
  refine to_remN (x := k1) (y := a) rfl (by omega) (by omega) (by omega) ?_
  refine to_n 3 (fr' := (9, [(0, .ref 49), (1, .int (nI k1)), (2, .int (nI w)), (3, .int (nI (k1 % a)))], [.ref 49, .int (nI k1)], gh S a b sc ar lo, ex, 0, 0)) rfl ?_
  refine to_get rfl rfl rfl rfl ?_
  refine to_divN (x := k1) (y := a) rfl (by omega) (by omega) (by omega) ?_
  refine to_n 2 (fr' := (16, [(0, .ref 49), (1, .int (nI k1)), (2, .int (nI w)), (3, .int (nI (k1 % a))), (4, .int (nI (k1 / a)))], [.int (nI w)], gh S a b sc ar lo, ex, 0, 0)) rfl ?_
  rcases Decidable.em ((nI w) = 0) with z1 | z1
  · refine to_eq (fr' := (16, [(0, .ref 49), (1, .int (nI k1)), (2, .int (nI w)), (3, .int (nI (k1 % a))), (4, .int (nI (k1 / a)))], [.int 0], gh S a b sc ar lo, ex, 0, 0)) (by rw [z1]) ?_
    refine to_n 1 (fr' := (44, [(0, .ref 49), (1, .int (nI k1)), (2, .int (nI w)), (3, .int (nI (k1 % a))), (4, .int (nI (k1 / a)))], [], gh S a b sc ar lo, ex, 0, 0)) rfl ?_
    refine to_n 1 (fr' := (46, [(0, .ref 49), (1, .int (nI k1)), (2, .int (nI w)), (3, .int (nI (k1 % a))), (4, .int (nI (k1 / a)))], [.int (nI (k1 / a))], gh S a b sc ar lo, ex, 0, 0)) rfl ?_
    refine to_nf_le (t := 58) (x := (k1 / a)) rfl (by omega) (fun q2 => ?_) (fun q2 => ?_)
    · refine to_n 1 (fr' := (59, [(0, .ref 49), (1, .int (nI k1)), (2, .int (nI w)), (3, .int (nI (k1 % a))), (4, .int (nI (k1 / a)))], [.int (-1)], gh S a b sc ar lo, ex, 0, 0)) rfl ?_
      exact to_rt (i := .ireturn) (tg := []) rfl rfl ⟨_, ⟨rq_m, (by rw [show w = 0 from ((nI_eq (b := 0) (by omega) (by omega)).mp z1), znb_w0]; exact (if_neg (by omega)).symm)⟩, rfl⟩
    · refine to_n 2 (fr' := (51, [(0, .ref 49), (1, .int (nI k1)), (2, .int (nI w)), (3, .int (nI (k1 % a))), (4, .int (nI (k1 / a)))], [.ref 49, .int (nI k1)], gh S a b sc ar lo, ex, 0, 0)) rfl ?_
      refine to_get rfl rfl rfl rfl ?_
      refine to_subN (x := k1) (y := a) rfl (by omega) ?_
      refine to_n 1 (fr' := (59, [(0, .ref 49), (1, .int (nI k1)), (2, .int (nI w)), (3, .int (nI (k1 % a))), (4, .int (nI (k1 / a)))], [.int (nI (k1 - a))], gh S a b sc ar lo, ex, 0, 0)) rfl ?_
      exact to_rt (i := .ireturn) (tg := []) rfl rfl ⟨_, ⟨rq_n (n := (k1 - a)) (by omega), (by rw [show w = 0 from ((nI_eq (b := 0) (by omega) (by omega)).mp z1), znb_w0]; exact (if_pos (by omega)).symm)⟩, rfl⟩
  · rcases Decidable.em ((nI w) = 1) with z3 | z3
    · refine to_eq (fr' := (16, [(0, .ref 49), (1, .int (nI k1)), (2, .int (nI w)), (3, .int (nI (k1 % a))), (4, .int (nI (k1 / a)))], [.int 1], gh S a b sc ar lo, ex, 0, 0)) (by rw [z3]) ?_
      refine to_n 1 (fr' := (60, [(0, .ref 49), (1, .int (nI k1)), (2, .int (nI w)), (3, .int (nI (k1 % a))), (4, .int (nI (k1 / a)))], [], gh S a b sc ar lo, ex, 0, 0)) rfl ?_
      refine to_n 2 (fr' := (62, [(0, .ref 49), (1, .int (nI k1)), (2, .int (nI w)), (3, .int (nI (k1 % a))), (4, .int (nI (k1 / a)))], [.int 1, .int (nI (k1 % a))], gh S a b sc ar lo, ex, 0, 0)) rfl ?_
      refine to_addN (x := (k1 % a)) (y := 1) rfl ?_
      refine to_n 1 (fr' := (64, [(0, .ref 49), (1, .int (nI k1)), (2, .int (nI w)), (3, .int (nI (k1 % a))), (4, .int (nI (k1 / a)))], [.ref 49, .int (nI ((k1 % a) + 1))], gh S a b sc ar lo, ex, 0, 0)) rfl ?_
      refine to_get rfl rfl rfl rfl ?_
      refine to_nc_ge (t := 76) (x := ((k1 % a) + 1)) (y := a) rfl (by omega) (by omega) (fun q4 => ?_) (fun q4 => ?_)
      · refine to_n 1 (fr' := (77, [(0, .ref 49), (1, .int (nI k1)), (2, .int (nI w)), (3, .int (nI (k1 % a))), (4, .int (nI (k1 / a)))], [.int (-1)], gh S a b sc ar lo, ex, 0, 0)) rfl ?_
        exact to_rt (i := .ireturn) (tg := []) rfl rfl ⟨_, ⟨rq_m, (by rw [show w = 1 from ((nI_eq (b := 1) (by omega) (by omega)).mp z3), znb_w1]; exact (if_neg (by omega)).symm)⟩, rfl⟩
      · refine to_n 2 (fr' := (72, [(0, .ref 49), (1, .int (nI k1)), (2, .int (nI w)), (3, .int (nI (k1 % a))), (4, .int (nI (k1 / a)))], [.int 1, .int (nI k1)], gh S a b sc ar lo, ex, 0, 0)) rfl ?_
        refine to_addN (x := k1) (y := 1) rfl ?_
        refine to_n 1 (fr' := (77, [(0, .ref 49), (1, .int (nI k1)), (2, .int (nI w)), (3, .int (nI (k1 % a))), (4, .int (nI (k1 / a)))], [.int (nI (k1 + 1))], gh S a b sc ar lo, ex, 0, 0)) rfl ?_
        exact to_rt (i := .ireturn) (tg := []) rfl rfl ⟨_, ⟨rq_n (n := (k1 + 1)) (by omega), (by rw [show w = 1 from ((nI_eq (b := 1) (by omega) (by omega)).mp z3), znb_w1]; exact (if_pos (by omega)).symm)⟩, rfl⟩
    · rcases Decidable.em ((nI w) = 2) with z5 | z5
      · refine to_eq (fr' := (16, [(0, .ref 49), (1, .int (nI k1)), (2, .int (nI w)), (3, .int (nI (k1 % a))), (4, .int (nI (k1 / a)))], [.int 2], gh S a b sc ar lo, ex, 0, 0)) (by rw [z5]) ?_
        refine to_n 1 (fr' := (78, [(0, .ref 49), (1, .int (nI k1)), (2, .int (nI w)), (3, .int (nI (k1 % a))), (4, .int (nI (k1 / a)))], [], gh S a b sc ar lo, ex, 0, 0)) rfl ?_
        refine to_n 2 (fr' := (81, [(0, .ref 49), (1, .int (nI k1)), (2, .int (nI w)), (3, .int (nI (k1 % a))), (4, .int (nI (k1 / a)))], [.int 1, .int (nI (k1 / a))], gh S a b sc ar lo, ex, 0, 0)) rfl ?_
        refine to_addN (x := (k1 / a)) (y := 1) rfl ?_
        refine to_n 1 (fr' := (83, [(0, .ref 49), (1, .int (nI k1)), (2, .int (nI w)), (3, .int (nI (k1 % a))), (4, .int (nI (k1 / a)))], [.ref 49, .int (nI ((k1 / a) + 1))], gh S a b sc ar lo, ex, 0, 0)) rfl ?_
        refine to_get rfl rfl rfl rfl ?_
        refine to_nc_ge (t := 98) (x := ((k1 / a) + 1)) (y := b) rfl (by omega) (by omega) (fun q6 => ?_) (fun q6 => ?_)
        · refine to_n 1 (fr' := (99, [(0, .ref 49), (1, .int (nI k1)), (2, .int (nI w)), (3, .int (nI (k1 % a))), (4, .int (nI (k1 / a)))], [.int (-1)], gh S a b sc ar lo, ex, 0, 0)) rfl ?_
          exact to_rt (i := .ireturn) (tg := []) rfl rfl ⟨_, ⟨rq_m, (by rw [show w = 2 from ((nI_eq (b := 2) (by omega) (by omega)).mp z5), znb_w2]; exact (if_neg (by omega)).symm)⟩, rfl⟩
        · refine to_n 2 (fr' := (91, [(0, .ref 49), (1, .int (nI k1)), (2, .int (nI w)), (3, .int (nI (k1 % a))), (4, .int (nI (k1 / a)))], [.ref 49, .int (nI k1)], gh S a b sc ar lo, ex, 0, 0)) rfl ?_
          refine to_get rfl rfl rfl rfl ?_
          refine to_addN (x := k1) (y := a) rfl ?_
          refine to_n 1 (fr' := (99, [(0, .ref 49), (1, .int (nI k1)), (2, .int (nI w)), (3, .int (nI (k1 % a))), (4, .int (nI (k1 / a)))], [.int (nI (k1 + a))], gh S a b sc ar lo, ex, 0, 0)) rfl ?_
          exact to_rt (i := .ireturn) (tg := []) rfl rfl ⟨_, ⟨rq_n (n := (k1 + a)) (by omega), (by rw [show w = 2 from ((nI_eq (b := 2) (by omega) (by omega)).mp z5), znb_w2]; exact (if_pos (by omega)).symm)⟩, rfl⟩
      · refine to_tbf (t := 100) (ms := [1, 2, 3]) rfl rfl (by decide) rfl (by decide) (List.forall_mem_cons.mpr ⟨sw_ne z1 (by decide), (List.forall_mem_cons.mpr ⟨sw_ne z3 (by decide), (List.forall_mem_cons.mpr ⟨sw_ne z5 (by decide), (fun m h => absurd h List.not_mem_nil)⟩)⟩)⟩) ?_
        refine to_n 1 (fr' := (101, [(0, .ref 49), (1, .int (nI k1)), (2, .int (nI w)), (3, .int (nI (k1 % a))), (4, .int (nI (k1 / a)))], [.int (nI (k1 % a))], gh S a b sc ar lo, ex, 0, 0)) rfl ?_
        refine to_nf_le (t := 110) (x := (k1 % a)) rfl (by omega) (fun q7 => ?_) (fun q7 => ?_)
        · refine to_n 1 (fr' := (111, [(0, .ref 49), (1, .int (nI k1)), (2, .int (nI w)), (3, .int (nI (k1 % a))), (4, .int (nI (k1 / a)))], [.int (-1)], gh S a b sc ar lo, ex, 0, 0)) rfl ?_
          exact to_rt (i := .ireturn) (tg := []) rfl rfl ⟨_, ⟨rq_m, (by rw [show w = 3 from (by have u0 : ¬ w = 0 := fun e => z1 (by rw [e]; rfl); have u1 : ¬ w = 1 := fun e => z3 (by rw [e]; rfl); have u2 : ¬ w = 2 := fun e => z5 (by rw [e]; rfl); omega), znb_w3]; exact (if_neg (by omega)).symm)⟩, rfl⟩
        · refine to_n 2 (fr' := (106, [(0, .ref 49), (1, .int (nI k1)), (2, .int (nI w)), (3, .int (nI (k1 % a))), (4, .int (nI (k1 / a)))], [.int 1, .int (nI k1)], gh S a b sc ar lo, ex, 0, 0)) rfl ?_
          refine to_subN (x := k1) (y := 1) rfl (by omega) ?_
          refine to_n 1 (fr' := (111, [(0, .ref 49), (1, .int (nI k1)), (2, .int (nI w)), (3, .int (nI (k1 % a))), (4, .int (nI (k1 / a)))], [.int (nI (k1 - 1))], gh S a b sc ar lo, ex, 0, 0)) rfl ?_
          exact to_rt (i := .ireturn) (tg := []) rfl rfl ⟨_, ⟨rq_n (n := (k1 - 1)) (by omega), (by rw [show w = 3 from (by have u0 : ¬ w = 0 := fun e => z1 (by rw [e]; rfl); have u1 : ¬ w = 1 := fun e => z3 (by rw [e]; rfl); have u2 : ¬ w = 2 := fun e => z5 (by rw [e]; rfl); omega), znb_w3]; exact (if_pos (by omega)).symm)⟩, rfl⟩
set_option maxRecDepth 20000 in
theorem sf_X10_far {X : Nat × (Nat → Int32)} {S a b : Nat} {sc : Nat → Int32} {ar : Nat → Nat → Int32} {lo : Nat → Int64} {ex : Bool} (hW : Wd S a b) (hI : Iv S sc ar) (k1 : Nat) (hk1 : k1 < S) (k2 : Nat) (hk2 : k2 < S) (d : Nat)  : cp X S a b (d + 1) 113 [.ref 49, .int (nI k1), .int (nI k2)] sc ar lo ex (fun x => x = nI (zds a k1 k2)) := by
  obtain ⟨ha1, ha8, hb1, hb8, hab, hS1, hS⟩ := id hW
  have b4 : k1 % a ≤ k1 := Nat.mod_le _ _
  have b5 : k1 / a ≤ k1 := Nat.div_le_self _ _
  refine cp_of (M := an_X10_far) rfl (Nat.le_of_ble_eq_true rfl) ?_
  refine to_eq (fr' := (0, [(0, .ref 49), (1, .int (nI k1)), (2, .int (nI k2))], [], gh S a b sc ar lo, ex, 0, 0)) rfl ?_
  refine to_n 2 (fr' := (2, [(0, .ref 49), (1, .int (nI k1)), (2, .int (nI k2))], [.ref 49, .int (nI k1)], gh S a b sc ar lo, ex, 0, 0)) rfl ?_
  refine to_get rfl rfl rfl rfl ?_
  refine to_remN (x := k1) (y := a) rfl (by omega) (by omega) (by omega) ?_
  refine to_n 2 (fr' := (8, [(0, .ref 49), (1, .int (nI k1)), (2, .int (nI k2))], [.ref 49, .int (nI k2), .int (nI (k1 % a))], gh S a b sc ar lo, ex, 0, 0)) rfl ?_
  refine to_get rfl rfl rfl rfl ?_
  refine to_remN (x := k2) (y := a) rfl (by omega) (by omega) (by omega) ?_
  refine to_n 4 (fr' := (18, [(0, .ref 49), (1, .int (nI k1)), (2, .int (nI k2))], [.ref 49, .int (nI k1), .int (if 0 ≤ ((nI (k1 % a)) - (nI (k2 % a))) then ((nI (k1 % a)) - (nI (k2 % a))) else 0 - ((nI (k1 % a)) - (nI (k2 % a))))], gh S a b sc ar lo, ex, 0, 0)) rfl ?_
  refine to_get rfl rfl rfl rfl ?_
  refine to_divN (x := k1) (y := a) rfl (by omega) (by omega) (by omega) ?_
  refine to_n 2 (fr' := (24, [(0, .ref 49), (1, .int (nI k1)), (2, .int (nI k2))], [.ref 49, .int (nI k2), .int (nI (k1 / a)), .int (if 0 ≤ ((nI (k1 % a)) - (nI (k2 % a))) then ((nI (k1 % a)) - (nI (k2 % a))) else 0 - ((nI (k1 % a)) - (nI (k2 % a))))], gh S a b sc ar lo, ex, 0, 0)) rfl ?_
  refine to_get rfl rfl rfl rfl ?_
  refine to_divN (x := k2) (y := a) rfl (by omega) (by omega) (by omega) ?_
  refine to_n 3 (fr' := (33, [(0, .ref 49), (1, .int (nI k1)), (2, .int (nI k2))], [.int ((if 0 ≤ ((nI (k1 % a)) - (nI (k2 % a))) then ((nI (k1 % a)) - (nI (k2 % a))) else 0 - ((nI (k1 % a)) - (nI (k2 % a)))) + (if 0 ≤ ((nI (k1 / a)) - (nI (k2 / a))) then ((nI (k1 / a)) - (nI (k2 / a))) else 0 - ((nI (k1 / a)) - (nI (k2 / a)))))], gh S a b sc ar lo, ex, 0, 0)) rfl ?_
  exact to_rt (i := .ireturn) (tg := []) rfl rfl ⟨_, (zfar_r hW hk1 hk2), rfl⟩
set_option maxRecDepth 20000 in
theorem sf_X10_isBeside {X : Nat × (Nat → Int32)} {S a b : Nat} {sc : Nat → Int32} {ar : Nat → Nat → Int32} {lo : Nat → Int64} {ex : Bool} (hW : Wd S a b) (hI : Iv S sc ar) (k1 : Nat) (hk1 : k1 < S) (k2 : Nat) (hk2 : k2 < S) (d : Nat)  : cp X S a b (d + 2) 148 [.ref 49, .int (nI k1), .int (nI k2)] sc ar lo ex (fun x => ((x = 1 ∧ zds a k1 k2 = 1) ∨ (x = 0 ∧ ¬ (zds a k1 k2 = 1)))) := by
  obtain ⟨ha1, ha8, hb1, hb8, hab, hS1, hS⟩ := id hW
  refine cp_of (M := an_X10_isBeside) rfl (Nat.le_of_ble_eq_true rfl) ?_
  refine to_eq (fr' := (0, [(0, .ref 49), (1, .int (nI k1)), (2, .int (nI k2))], [], gh S a b sc ar lo, ex, 0, 0)) rfl ?_
  refine to_n 3 (fr' := (3, [(0, .ref 49), (1, .int (nI k1)), (2, .int (nI k2))], [.int (nI k2), .int (nI k1), .ref 49], gh S a b sc ar lo, ex, 0, 0)) rfl ?_
  refine to_cp (q := 113) (M1 := an_X10_far) (rest := []) rfl rfl (by decide) rfl ⟨_, rfl⟩ (sf_X10_far hW hI k1 (by omega) k2 (by omega) d) (fun x1 hx1 => ?_)
  obtain rfl := hx1
  have hb1 : zds a k1 k2 < 16 := zds_b hW (show k1 < S by omega) (show k2 < S by omega)
  refine to_eq (fr' := (6, [(0, .ref 49), (1, .int (nI k1)), (2, .int (nI k2))], [.int (nI (zds a k1 k2))], gh S a b sc ar lo, ex, 0, 0)) rfl ?_
  refine to_n 1 (fr' := (7, [(0, .ref 49), (1, .int (nI k1)), (2, .int (nI k2))], [.int 1, .int (nI (zds a k1 k2))], gh S a b sc ar lo, ex, 0, 0)) rfl ?_
  refine to_nc_ne (t := 14) (x := (zds a k1 k2)) (y := 1) rfl (by omega) (by omega) (fun q2 => ?_) (fun q2 => ?_)
  · refine to_n 1 (fr' := (15, [(0, .ref 49), (1, .int (nI k1)), (2, .int (nI k2))], [.int 0], gh S a b sc ar lo, ex, 0, 0)) rfl ?_
    exact to_rt (i := .ireturn) (tg := []) rfl rfl ⟨_, (Or.inr ⟨rfl, q2⟩), rfl⟩
  · refine to_n 2 (fr' := (15, [(0, .ref 49), (1, .int (nI k1)), (2, .int (nI k2))], [.int 1], gh S a b sc ar lo, ex, 0, 0)) rfl ?_
    exact to_rt (i := .ireturn) (tg := []) rfl rfl ⟨_, (Or.inl ⟨rfl, q2⟩), rfl⟩
set_option maxRecDepth 20000 in
theorem sf_X10_isOpen {X : Nat × (Nat → Int32)} {S a b : Nat} {sc : Nat → Int32} {ar : Nat → Nat → Int32} {lo : Nat → Int64} {ex : Bool} (hW : Wd S a b) (hI : Iv S sc ar) (k1 : Nat) (hk1 : k1 < S) (g : Nat) (hg : g < S) (d : Nat)  : cp X S a b (d + 1) 149 [.ref 49, .int (nI k1), .int (nI g)] sc ar lo ex (fun x => ((x = 1 ∧ (¬ k1 = g ∧ ¬ ar 51 k1 = 1)) ∨ (x = 0 ∧ ¬ (¬ k1 = g ∧ ¬ ar 51 k1 = 1)))) := by
  obtain ⟨ha1, ha8, hb1, hb8, hab, hS1, hS⟩ := id hW
  refine cp_of (M := an_X10_isOpen) rfl (Nat.le_of_ble_eq_true rfl) ?_
  refine to_eq (fr' := (0, [(0, .ref 49), (1, .int (nI k1)), (2, .int (nI g))], [], gh S a b sc ar lo, ex, 0, 0)) rfl ?_
  refine to_n 2 (fr' := (2, [(0, .ref 49), (1, .int (nI k1)), (2, .int (nI g))], [.int (nI g), .int (nI k1)], gh S a b sc ar lo, ex, 0, 0)) rfl ?_
  refine to_nc_eq (t := 19) (x := k1) (y := g) rfl (by omega) (by omega) (fun q1 => ?_) (fun q1 => ?_)
  · refine to_n 1 (fr' := (20, [(0, .ref 49), (1, .int (nI k1)), (2, .int (nI g))], [.int 0], gh S a b sc ar lo, ex, 0, 0)) rfl ?_
    exact to_rt (i := .ireturn) (tg := []) rfl rfl ⟨_, (Or.inr ⟨rfl, (fun w => w.1 q1)⟩), rfl⟩
  · refine to_n 1 (fr' := (6, [(0, .ref 49), (1, .int (nI k1)), (2, .int (nI g))], [.ref 49], gh S a b sc ar lo, ex, 0, 0)) rfl ?_
    refine to_get rfl rfl rfl rfl ?_
    refine to_n 1 (fr' := (10, [(0, .ref 49), (1, .int (nI k1)), (2, .int (nI g))], [.int (nI k1), .ref 51], gh S a b sc ar lo, ex, 0, 0)) rfl ?_
    refine to_ialR (i := k1) (v := (ar 51 k1)) rfl (by decide) rfl (by omega) (by omega) rfl ?_
    refine to_n 1 (fr' := (12, [(0, .ref 49), (1, .int (nI k1)), (2, .int (nI g))], [.int 1, .int (ar 51 k1)], gh S a b sc ar lo, ex, 0, 0)) rfl ?_
    refine to_ic_eq (t := 19) rfl (fun q2 => ?_) (fun q2 => ?_)
    · refine to_n 1 (fr' := (20, [(0, .ref 49), (1, .int (nI k1)), (2, .int (nI g))], [.int 0], gh S a b sc ar lo, ex, 0, 0)) rfl ?_
      exact to_rt (i := .ireturn) (tg := []) rfl rfl ⟨_, (Or.inr ⟨rfl, (fun w => w.2 q2)⟩), rfl⟩
    · refine to_n 2 (fr' := (20, [(0, .ref 49), (1, .int (nI k1)), (2, .int (nI g))], [.int 1], gh S a b sc ar lo, ex, 0, 0)) rfl ?_
      exact to_rt (i := .ireturn) (tg := []) rfl rfl ⟨_, (Or.inl ⟨rfl, ⟨q1, q2⟩⟩), rfl⟩
set_option maxRecDepth 20000 in
theorem sf_X10_isLetter {X : Nat × (Nat → Int32)} {S a b : Nat} {sc : Nat → Int32} {ar : Nat → Nat → Int32} {lo : Nat → Int64} {ex : Bool} (hW : Wd S a b) (hI : Iv S sc ar) (x1 : Int32) (d : Nat)  : cp X S a b (d + 1) 120 [.int x1] sc ar lo ex (fun x => rl x 2) := by
  obtain ⟨ha1, ha8, hb1, hb8, hab, hS1, hS⟩ := id hW
  refine cp_of (M := an_X10_isLetter) rfl (Nat.le_of_ble_eq_true rfl) ?_
  refine to_eq (fr' := (0, [(0, .int x1)], [], gh S a b sc ar lo, ex, 0, 0)) rfl ?_
  refine to_n 2 (fr' := (3, [(0, .int x1)], [.int 97, .int x1], gh S a b sc ar lo, ex, 0, 0)) rfl ?_
  refine to_ic_lt (t := 16) rfl (fun q1 => ?_) (fun q1 => ?_)
  · refine to_n 1 (fr' := (17, [(0, .int x1)], [.int 0], gh S a b sc ar lo, ex, 0, 0)) rfl ?_
    exact to_rt (i := .ireturn) (tg := []) rfl rfl ⟨_, rl_n (n := 0) (by omega), rfl⟩
  · refine to_n 2 (fr' := (9, [(0, .int x1)], [.int 122, .int x1], gh S a b sc ar lo, ex, 0, 0)) rfl ?_
    refine to_ic_gt (t := 16) rfl (fun q2 => ?_) (fun q2 => ?_)
    · refine to_n 1 (fr' := (17, [(0, .int x1)], [.int 0], gh S a b sc ar lo, ex, 0, 0)) rfl ?_
      exact to_rt (i := .ireturn) (tg := []) rfl rfl ⟨_, rl_n (n := 0) (by omega), rfl⟩
    · refine to_n 2 (fr' := (17, [(0, .int x1)], [.int 1], gh S a b sc ar lo, ex, 0, 0)) rfl ?_
      exact to_rt (i := .ireturn) (tg := []) rfl rfl ⟨_, rl_n (n := 1) (by omega), rfl⟩
set_option maxRecDepth 20000 in
theorem sf_X10_isDigit {X : Nat × (Nat → Int32)} {S a b : Nat} {sc : Nat → Int32} {ar : Nat → Nat → Int32} {lo : Nat → Int64} {ex : Bool} (hW : Wd S a b) (hI : Iv S sc ar) (x1 : Int32) (d : Nat)  : cp X S a b (d + 1) 121 [.int x1] sc ar lo ex (fun x => rl x 2) := by
  obtain ⟨ha1, ha8, hb1, hb8, hab, hS1, hS⟩ := id hW
  refine cp_of (M := an_X10_isDigit) rfl (Nat.le_of_ble_eq_true rfl) ?_
  refine to_eq (fr' := (0, [(0, .int x1)], [], gh S a b sc ar lo, ex, 0, 0)) rfl ?_
  refine to_n 2 (fr' := (3, [(0, .int x1)], [.int 48, .int x1], gh S a b sc ar lo, ex, 0, 0)) rfl ?_
  refine to_ic_lt (t := 16) rfl (fun q1 => ?_) (fun q1 => ?_)
  · refine to_n 1 (fr' := (17, [(0, .int x1)], [.int 0], gh S a b sc ar lo, ex, 0, 0)) rfl ?_
    exact to_rt (i := .ireturn) (tg := []) rfl rfl ⟨_, rl_n (n := 0) (by omega), rfl⟩
  · refine to_n 2 (fr' := (9, [(0, .int x1)], [.int 57, .int x1], gh S a b sc ar lo, ex, 0, 0)) rfl ?_
    refine to_ic_gt (t := 16) rfl (fun q2 => ?_) (fun q2 => ?_)
    · refine to_n 1 (fr' := (17, [(0, .int x1)], [.int 0], gh S a b sc ar lo, ex, 0, 0)) rfl ?_
      exact to_rt (i := .ireturn) (tg := []) rfl rfl ⟨_, rl_n (n := 0) (by omega), rfl⟩
    · refine to_n 2 (fr' := (17, [(0, .int x1)], [.int 1], gh S a b sc ar lo, ex, 0, 0)) rfl ?_
      exact to_rt (i := .ireturn) (tg := []) rfl rfl ⟨_, rl_n (n := 1) (by omega), rfl⟩
set_option maxRecDepth 20000 in
theorem sf_X10_isByWell {X : Nat × (Nat → Int32)} {S a b : Nat} {sc : Nat → Int32} {ar : Nat → Nat → Int32} {lo : Nat → Int64} {ex : Bool} (hW : Wd S a b) (hI : Iv S sc ar) (k1 : Nat) (hk1 : k1 < S) (d : Nat)  : cp X S a b (d + 2) 153 [.ref 49, .int (nI k1)] sc ar lo ex (fun x => ((x = 1 ∧ zwl S a (ar 58) k1) ∨ (x = 0 ∧ ¬ (zwl S a (ar 58) k1)))) := by
  obtain ⟨ha1, ha8, hb1, hb8, hab, hS1, hS⟩ := id hW
  refine cp_of (M := an_X10_isByWell) rfl (Nat.le_of_ble_eq_true rfl) ?_
  refine to_eq (fr' := (0, [(0, .ref 49), (1, .int (nI k1))], [], gh S a b sc ar lo, ex, 0, 0)) rfl ?_
  have c2 : ∀ m : Nat, ∀ (i : Nat) , i + m = S → (∀ j : Nat, j < i → ¬ (¬ ar 58 j = 0 ∧ zds a j k1 ≤ 2)) → ag_To X (d + 1) an_X10_isByWell (2, [(0, .ref 49), (1, .int (nI k1)), (2, .int (nI i))], [], gh S a b sc ar lo, ex, 0, 0) (qp S a b sc ar lo ex (fun x => ((x = 1 ∧ zwl S a (ar 58) k1) ∨ (x = 0 ∧ ¬ (zwl S a (ar 58) k1))))) := by
    intro m
    induction m with
    | zero =>
      intro i hm hc2_0
      refine to_n 2 (fr' := (4, [(0, .ref 49), (1, .int (nI k1)), (2, .int (nI i))], [.ref 49, .int (nI i)], gh S a b sc ar lo, ex, 0, 0)) rfl ?_
      refine to_get rfl rfl rfl rfl ?_
      refine to_n 1 (fr' := (8, [(0, .ref 49), (1, .int (nI k1)), (2, .int (nI i))], [.ref 49, .int (nI a), .int (nI i)], gh S a b sc ar lo, ex, 0, 0)) rfl ?_
      refine to_get rfl rfl rfl rfl ?_
      refine to_mulN (x := a) (y := b) rfl ?_
      rw [hab]
      refine to_nc_ge_T (t := 42) (x := i) (y := S) rfl (by omega) (by omega) (by omega) ?_
      refine to_n 1 (fr' := (43, [(0, .ref 49), (1, .int (nI k1)), (2, .int (nI i))], [.int 0], gh S a b sc ar lo, ex, 0, 0)) rfl ?_
      exact to_rt (i := .ireturn) (tg := []) rfl rfl ⟨_, (Or.inr ⟨rfl, (fun ⟨j, h1, h2⟩ => hc2_0 j (by omega) h2)⟩), rfl⟩
    | succ m ih =>
      intro i hm hc2_0
      refine to_n 2 (fr' := (4, [(0, .ref 49), (1, .int (nI k1)), (2, .int (nI i))], [.ref 49, .int (nI i)], gh S a b sc ar lo, ex, 0, 0)) rfl ?_
      refine to_get rfl rfl rfl rfl ?_
      refine to_n 1 (fr' := (8, [(0, .ref 49), (1, .int (nI k1)), (2, .int (nI i))], [.ref 49, .int (nI a), .int (nI i)], gh S a b sc ar lo, ex, 0, 0)) rfl ?_
      refine to_get rfl rfl rfl rfl ?_
      refine to_mulN (x := a) (y := b) rfl ?_
      rw [hab]
      refine to_nc_ge_F (t := 42) (x := i) (y := S) rfl (by omega) (by omega) (by omega) ?_
      refine to_n 1 (fr' := (16, [(0, .ref 49), (1, .int (nI k1)), (2, .int (nI i))], [.ref 49], gh S a b sc ar lo, ex, 0, 0)) rfl ?_
      refine to_get rfl rfl rfl rfl ?_
      refine to_n 1 (fr' := (20, [(0, .ref 49), (1, .int (nI k1)), (2, .int (nI i))], [.int (nI i), .ref 58], gh S a b sc ar lo, ex, 0, 0)) rfl ?_
      refine to_zalR (i := i) (v := (ar 58 i)) rfl rfl (by omega) (by omega) rfl ?_
      refine to_if_eq (t := 36) rfl (fun q2 => ?_) (fun q2 => ?_)
      · refine to_n 1 (fr' := (39, [(0, .ref 49), (1, .int (nI k1)), (2, .int ((nI i) + 1))], [], gh S a b sc ar lo, ex, 0, 0)) rfl ?_
        rw [nI_1 i]
        refine to_n 1 (fr' := (2, [(0, .ref 49), (1, .int (nI k1)), (2, .int (nI (i + 1)))], [], gh S a b sc ar lo, ex, 0, 0)) rfl ?_
        exact ih (i + 1) (by omega) (fun j hj w => if e9 : j = i then (by subst e9; exact (fun w => w.1 q2) w) else hc2_0 j (by omega) w)
      · refine to_n 3 (fr' := (27, [(0, .ref 49), (1, .int (nI k1)), (2, .int (nI i))], [.int (nI k1), .int (nI i), .ref 49], gh S a b sc ar lo, ex, 0, 0)) rfl ?_
        refine to_cp (q := 113) (M1 := an_X10_far) (rest := []) rfl rfl (by decide) rfl ⟨_, rfl⟩ (sf_X10_far hW hI i (by omega) k1 (by omega) d) (fun x3 hx3 => ?_)
        obtain rfl := hx3
        have hb3 : zds a i k1 < 16 := zds_b hW (show i < S by omega) (show k1 < S by omega)
        refine to_eq (fr' := (30, [(0, .ref 49), (1, .int (nI k1)), (2, .int (nI i))], [.int (nI (zds a i k1))], gh S a b sc ar lo, ex, 0, 0)) rfl ?_
        refine to_n 1 (fr' := (31, [(0, .ref 49), (1, .int (nI k1)), (2, .int (nI i))], [.int 2, .int (nI (zds a i k1))], gh S a b sc ar lo, ex, 0, 0)) rfl ?_
        refine to_nc_gt (t := 36) (x := (zds a i k1)) (y := 2) rfl (by omega) (by omega) (fun q4 => ?_) (fun q4 => ?_)
        · refine to_n 1 (fr' := (39, [(0, .ref 49), (1, .int (nI k1)), (2, .int ((nI i) + 1))], [], gh S a b sc ar lo, ex, 0, 0)) rfl ?_
          rw [nI_1 i]
          refine to_n 1 (fr' := (2, [(0, .ref 49), (1, .int (nI k1)), (2, .int (nI (i + 1)))], [], gh S a b sc ar lo, ex, 0, 0)) rfl ?_
          exact ih (i + 1) (by omega) (fun j hj w => if e9 : j = i then (by subst e9; exact (fun w => absurd w.2 (by omega)) w) else hc2_0 j (by omega) w)
        · refine to_n 1 (fr' := (35, [(0, .ref 49), (1, .int (nI k1)), (2, .int (nI i))], [.int 1], gh S a b sc ar lo, ex, 0, 0)) rfl ?_
          exact to_rt (i := .ireturn) (tg := []) rfl rfl ⟨_, (Or.inl ⟨rfl, ⟨i, by omega, q2, by omega⟩⟩), rfl⟩
  refine to_n 2 (fr' := (2, [(0, .ref 49), (1, .int (nI k1)), (2, .int 0)], [], gh S a b sc ar lo, ex, 0, 0)) rfl ?_
  exact c2 (S - 0) 0 (by omega) (fun j hj => absurd hj (Nat.not_lt_zero _))
set_option maxRecDepth 20000 in
theorem sf_X10_many {X : Nat × (Nat → Int32)} {S a b : Nat} {sc : Nat → Int32} {ar : Nat → Nat → Int32} {lo : Nat → Int64} {ex : Bool} (hW : Wd S a b) (hI : Iv S sc ar) (w : Int32) (d : Nat)  : cp X S a b (d + 1) 135 [.ref 49, .int w] sc ar lo ex (fun x => x = zcn (ar 51) w S) := by
  obtain ⟨ha1, ha8, hb1, hb8, hab, hS1, hS⟩ := id hW
  refine cp_of (M := an_X10_many) rfl (Nat.le_of_ble_eq_true rfl) ?_
  refine to_eq (fr' := (0, [(0, .ref 49), (1, .int w)], [], gh S a b sc ar lo, ex, 0, 0)) rfl ?_
  have c4 : ∀ m : Nat, ∀ (y : Int32) (i : Nat) , i + m = S → y = zcn (ar 51) w i → ag_To X d an_X10_many (4, [(0, .ref 49), (1, .int w), (2, .int y), (3, .int (nI i))], [], gh S a b sc ar lo, ex, 0, 0) (qp S a b sc ar lo ex (fun x => x = zcn (ar 51) w S)) := by
    intro m
    induction m with
    | zero =>
      intro y i hm hc4_0
      refine to_n 2 (fr' := (6, [(0, .ref 49), (1, .int w), (2, .int y), (3, .int (nI i))], [.ref 49, .int (nI i)], gh S a b sc ar lo, ex, 0, 0)) rfl ?_
      refine to_get rfl rfl rfl rfl ?_
      refine to_n 1 (fr' := (10, [(0, .ref 49), (1, .int w), (2, .int y), (3, .int (nI i))], [.ref 49, .int (nI a), .int (nI i)], gh S a b sc ar lo, ex, 0, 0)) rfl ?_
      refine to_get rfl rfl rfl rfl ?_
      refine to_mulN (x := a) (y := b) rfl ?_
      rw [hab]
      refine to_nc_ge_T (t := 41) (x := i) (y := S) rfl (by omega) (by omega) (by omega) ?_
      refine to_n 1 (fr' := (42, [(0, .ref 49), (1, .int w), (2, .int y), (3, .int (nI i))], [.int y], gh S a b sc ar lo, ex, 0, 0)) rfl ?_
      exact to_rt (i := .ireturn) (tg := []) rfl rfl ⟨_, (by rw [hc4_0, show i = S by omega]), rfl⟩
    | succ m ih =>
      intro y i hm hc4_0
      refine to_n 2 (fr' := (6, [(0, .ref 49), (1, .int w), (2, .int y), (3, .int (nI i))], [.ref 49, .int (nI i)], gh S a b sc ar lo, ex, 0, 0)) rfl ?_
      refine to_get rfl rfl rfl rfl ?_
      refine to_n 1 (fr' := (10, [(0, .ref 49), (1, .int w), (2, .int y), (3, .int (nI i))], [.ref 49, .int (nI a), .int (nI i)], gh S a b sc ar lo, ex, 0, 0)) rfl ?_
      refine to_get rfl rfl rfl rfl ?_
      refine to_mulN (x := a) (y := b) rfl ?_
      rw [hab]
      refine to_nc_ge_F (t := 41) (x := i) (y := S) rfl (by omega) (by omega) (by omega) ?_
      refine to_n 2 (fr' := (19, [(0, .ref 49), (1, .int w), (2, .int y), (3, .int (nI i))], [.ref 49, .int y], gh S a b sc ar lo, ex, 0, 0)) rfl ?_
      refine to_get rfl rfl rfl rfl ?_
      refine to_n 1 (fr' := (23, [(0, .ref 49), (1, .int w), (2, .int y), (3, .int (nI i))], [.int (nI i), .ref 51, .int y], gh S a b sc ar lo, ex, 0, 0)) rfl ?_
      refine to_ialR (i := i) (v := (ar 51 i)) rfl (by decide) rfl (by omega) (by omega) rfl ?_
      refine to_n 1 (fr' := (25, [(0, .ref 49), (1, .int w), (2, .int y), (3, .int (nI i))], [.int w, .int (ar 51 i), .int y], gh S a b sc ar lo, ex, 0, 0)) rfl ?_
      refine to_ic_ne (t := 32) rfl (fun q2 => ?_) (fun q2 => ?_)
      · refine to_n 4 (fr' := (38, [(0, .ref 49), (1, .int w), (2, .int (y + 0)), (3, .int ((nI i) + 1))], [], gh S a b sc ar lo, ex, 0, 0)) rfl ?_
        rw [nI_1 i]
        refine to_n 1 (fr' := (4, [(0, .ref 49), (1, .int w), (2, .int (y + 0)), (3, .int (nI (i + 1)))], [], gh S a b sc ar lo, ex, 0, 0)) rfl ?_
        exact ih (y + 0) (i + 1) (by omega) (zcn_0 hc4_0 q2)
      · refine to_n 5 (fr' := (38, [(0, .ref 49), (1, .int w), (2, .int (y + 1)), (3, .int ((nI i) + 1))], [], gh S a b sc ar lo, ex, 0, 0)) rfl ?_
        rw [nI_1 i]
        refine to_n 1 (fr' := (4, [(0, .ref 49), (1, .int w), (2, .int (y + 1)), (3, .int (nI (i + 1)))], [], gh S a b sc ar lo, ex, 0, 0)) rfl ?_
        exact ih (y + 1) (i + 1) (by omega) (zcn_y hc4_0 q2)
  refine to_n 4 (fr' := (4, [(0, .ref 49), (1, .int w), (2, .int 0), (3, .int 0)], [], gh S a b sc ar lo, ex, 0, 0)) rfl ?_
  exact c4 (S - 0) 0 0 (by omega) rfl
set_option maxRecDepth 20000 in
theorem sf_X10_force {X : Nat × (Nat → Int32)} {S a b : Nat} {sc : Nat → Int32} {ar : Nat → Nat → Int32} {lo : Nat → Int64} {ex : Bool} (hW : Wd S a b) (hI : Iv S sc ar)  (d : Nat)  : cp X S a b (d + 1) 134 [.ref 49] sc ar lo ex (fun x => rq x 6) := by
  obtain ⟨ha1, ha8, hb1, hb8, hab, hS1, hS⟩ := id hW
  refine cp_of (M := an_X10_force) rfl (Nat.le_of_ble_eq_true rfl) ?_
  refine to_eq (fr' := (0, [(0, .ref 49)], [], gh S a b sc ar lo, ex, 0, 0)) rfl ?_
  have c4 : ∀ m : Nat, ∀ (y : Int32) (i : Nat) , 7 ≤ i + m → rq y 6 → i ≤ 7 → ag_To X d an_X10_force (4, [(0, .ref 49), (1, .int y), (2, .int (nI i))], [], gh S a b sc ar lo, ex, 0, 0) (qp S a b sc ar lo ex (fun x => rq x 6)) := by
    intro m
    induction m with
    | zero =>
      intro y i hm hq_y hc4_0
      rcases hq_y with rfl | ⟨n2, hn2, rfl⟩
      · refine to_eq (fr' := (4, [(0, .ref 49), (1, .int (-1)), (2, .int (nI i))], [], gh S a b sc ar lo, ex, 0, 0)) rfl ?_
        refine to_n 2 (fr' := (6, [(0, .ref 49), (1, .int (-1)), (2, .int (nI i))], [.ref 49, .int (nI i)], gh S a b sc ar lo, ex, 0, 0)) rfl ?_
        obtain ⟨n3, hn3, e3⟩ := iv_s4907 hI
        refine to_getR (v := (nI n3)) rfl rfl rfl rfl e3 ?_
        refine to_nc_ge_T (t := 56) (x := i) (y := n3) rfl (by omega) (by omega) (by omega) ?_
        refine to_n 1 (fr' := (57, [(0, .ref 49), (1, .int (-1)), (2, .int (nI i))], [.int (-1)], gh S a b sc ar lo, ex, 0, 0)) rfl ?_
        exact to_rt (i := .ireturn) (tg := []) rfl rfl ⟨_, rq_m, rfl⟩
      · refine to_eq (fr' := (4, [(0, .ref 49), (1, .int (nI n2)), (2, .int (nI i))], [], gh S a b sc ar lo, ex, 0, 0)) rfl ?_
        refine to_n 2 (fr' := (6, [(0, .ref 49), (1, .int (nI n2)), (2, .int (nI i))], [.ref 49, .int (nI i)], gh S a b sc ar lo, ex, 0, 0)) rfl ?_
        obtain ⟨n4, hn4, e4⟩ := iv_s4907 hI
        refine to_getR (v := (nI n4)) rfl rfl rfl rfl e4 ?_
        refine to_nc_ge_T (t := 56) (x := i) (y := n4) rfl (by omega) (by omega) (by omega) ?_
        refine to_n 1 (fr' := (57, [(0, .ref 49), (1, .int (nI n2)), (2, .int (nI i))], [.int (nI n2)], gh S a b sc ar lo, ex, 0, 0)) rfl ?_
        exact to_rt (i := .ireturn) (tg := []) rfl rfl ⟨_, rq_n (n := n2) (by omega), rfl⟩
    | succ m ih =>
      intro y i hm hq_y hc4_0
      rcases hq_y with rfl | ⟨n5, hn5, rfl⟩
      · refine to_eq (fr' := (4, [(0, .ref 49), (1, .int (-1)), (2, .int (nI i))], [], gh S a b sc ar lo, ex, 0, 0)) rfl ?_
        refine to_n 2 (fr' := (6, [(0, .ref 49), (1, .int (-1)), (2, .int (nI i))], [.ref 49, .int (nI i)], gh S a b sc ar lo, ex, 0, 0)) rfl ?_
        obtain ⟨n6, hn6, e6⟩ := iv_s4907 hI
        refine to_getR (v := (nI n6)) rfl rfl rfl rfl e6 ?_
        refine to_nc_ge (t := 56) (x := i) (y := n6) rfl (by omega) (by omega) (fun q7 => ?_) (fun q7 => ?_)
        · refine to_n 1 (fr' := (57, [(0, .ref 49), (1, .int (-1)), (2, .int (nI i))], [.int (-1)], gh S a b sc ar lo, ex, 0, 0)) rfl ?_
          exact to_rt (i := .ireturn) (tg := []) rfl rfl ⟨_, rq_m, rfl⟩
        · refine to_n 1 (fr' := (13, [(0, .ref 49), (1, .int (-1)), (2, .int (nI i))], [.ref 49], gh S a b sc ar lo, ex, 0, 0)) rfl ?_
          refine to_get rfl rfl rfl rfl ?_
          refine to_n 1 (fr' := (17, [(0, .ref 49), (1, .int (-1)), (2, .int (nI i))], [.int (nI i), .ref 68], gh S a b sc ar lo, ex, 0, 0)) rfl ?_
          refine to_ialR (i := i) (v := ((ar 68) i)) rfl (by decide) rfl (by omega) (by omega) rfl ?_
          refine to_n 1 (fr' := (19, [(0, .ref 49), (1, .int (-1)), (2, .int (nI i))], [.ref 49, .int ((ar 68) i)], gh S a b sc ar lo, ex, 0, 0)) rfl ?_
          obtain ⟨n8, hn8, e8⟩ := iv_s4904 hI
          refine to_getR (v := (nI n8)) rfl rfl rfl rfl e8 ?_
          refine to_n 2 (fr' := (25, [(0, .ref 49), (1, .int (-1)), (2, .int (nI i))], [.int ((nI n8) / 24), .int ((ar 68) i)], gh S a b sc ar lo, ex, 0, 0)) rfl ?_
          refine to_ic_gt (t := 50) rfl (fun q9 => ?_) (fun q9 => ?_)
          · refine to_n 1 (fr' := (53, [(0, .ref 49), (1, .int (-1)), (2, .int ((nI i) + 1))], [], gh S a b sc ar lo, ex, 0, 0)) rfl ?_
            rw [nI_1 i]
            refine to_n 1 (fr' := (4, [(0, .ref 49), (1, .int (-1)), (2, .int (nI (i + 1)))], [], gh S a b sc ar lo, ex, 0, 0)) rfl ?_
            exact ih (-1) (i + 1) (by omega) (rq_m) (by omega)
          · refine to_n 6 (fr' := (53, [(0, .ref 49), (1, .int (nI i)), (2, .int ((nI i) + 1))], [], gh S a b sc ar lo, ex, 0, 0)) rfl ?_
            rw [nI_1 i]
            refine to_n 1 (fr' := (4, [(0, .ref 49), (1, .int (nI i)), (2, .int (nI (i + 1)))], [], gh S a b sc ar lo, ex, 0, 0)) rfl ?_
            exact ih (nI i) (i + 1) (by omega) (rq_n (n := i) (by omega)) (by omega)
      · refine to_eq (fr' := (4, [(0, .ref 49), (1, .int (nI n5)), (2, .int (nI i))], [], gh S a b sc ar lo, ex, 0, 0)) rfl ?_
        refine to_n 2 (fr' := (6, [(0, .ref 49), (1, .int (nI n5)), (2, .int (nI i))], [.ref 49, .int (nI i)], gh S a b sc ar lo, ex, 0, 0)) rfl ?_
        obtain ⟨n10, hn10, e10⟩ := iv_s4907 hI
        refine to_getR (v := (nI n10)) rfl rfl rfl rfl e10 ?_
        refine to_nc_ge (t := 56) (x := i) (y := n10) rfl (by omega) (by omega) (fun q11 => ?_) (fun q11 => ?_)
        · refine to_n 1 (fr' := (57, [(0, .ref 49), (1, .int (nI n5)), (2, .int (nI i))], [.int (nI n5)], gh S a b sc ar lo, ex, 0, 0)) rfl ?_
          exact to_rt (i := .ireturn) (tg := []) rfl rfl ⟨_, rq_n (n := n5) (by omega), rfl⟩
        · refine to_n 1 (fr' := (13, [(0, .ref 49), (1, .int (nI n5)), (2, .int (nI i))], [.ref 49], gh S a b sc ar lo, ex, 0, 0)) rfl ?_
          refine to_get rfl rfl rfl rfl ?_
          refine to_n 1 (fr' := (17, [(0, .ref 49), (1, .int (nI n5)), (2, .int (nI i))], [.int (nI i), .ref 68], gh S a b sc ar lo, ex, 0, 0)) rfl ?_
          refine to_ialR (i := i) (v := ((ar 68) i)) rfl (by decide) rfl (by omega) (by omega) rfl ?_
          refine to_n 1 (fr' := (19, [(0, .ref 49), (1, .int (nI n5)), (2, .int (nI i))], [.ref 49, .int ((ar 68) i)], gh S a b sc ar lo, ex, 0, 0)) rfl ?_
          obtain ⟨n12, hn12, e12⟩ := iv_s4904 hI
          refine to_getR (v := (nI n12)) rfl rfl rfl rfl e12 ?_
          refine to_n 2 (fr' := (25, [(0, .ref 49), (1, .int (nI n5)), (2, .int (nI i))], [.int ((nI n12) / 24), .int ((ar 68) i)], gh S a b sc ar lo, ex, 0, 0)) rfl ?_
          refine to_ic_gt (t := 50) rfl (fun q13 => ?_) (fun q13 => ?_)
          · refine to_n 1 (fr' := (53, [(0, .ref 49), (1, .int (nI n5)), (2, .int ((nI i) + 1))], [], gh S a b sc ar lo, ex, 0, 0)) rfl ?_
            rw [nI_1 i]
            refine to_n 1 (fr' := (4, [(0, .ref 49), (1, .int (nI n5)), (2, .int (nI (i + 1)))], [], gh S a b sc ar lo, ex, 0, 0)) rfl ?_
            exact ih (nI n5) (i + 1) (by omega) (rq_n (n := n5) (by omega)) (by omega)
          · refine to_n 2 (fr' := (30, [(0, .ref 49), (1, .int (nI n5)), (2, .int (nI i))], [.int (-1), .int (nI n5)], gh S a b sc ar lo, ex, 0, 0)) rfl ?_
            refine to_ic_eq_F (t := 48) (x := (nI n5)) (y := (-1)) rfl (nI_neg (by omega) (by decide)) ?_
            refine to_n 1 (fr' := (34, [(0, .ref 49), (1, .int (nI n5)), (2, .int (nI i))], [.ref 49], gh S a b sc ar lo, ex, 0, 0)) rfl ?_
            refine to_get rfl rfl rfl rfl ?_
            refine to_n 1 (fr' := (38, [(0, .ref 49), (1, .int (nI n5)), (2, .int (nI i))], [.int (nI i), .ref 68], gh S a b sc ar lo, ex, 0, 0)) rfl ?_
            refine to_ialR (i := i) (v := ((ar 68) i)) rfl (by decide) rfl (by omega) (by omega) rfl ?_
            refine to_n 1 (fr' := (40, [(0, .ref 49), (1, .int (nI n5)), (2, .int (nI i))], [.ref 49, .int ((ar 68) i)], gh S a b sc ar lo, ex, 0, 0)) rfl ?_
            refine to_get rfl rfl rfl rfl ?_
            refine to_n 1 (fr' := (44, [(0, .ref 49), (1, .int (nI n5)), (2, .int (nI i))], [.int (nI n5), .ref 68, .int ((ar 68) i)], gh S a b sc ar lo, ex, 0, 0)) rfl ?_
            refine to_ialR (i := n5) (v := ((ar 68) n5)) rfl (by decide) rfl (by omega) (by omega) rfl ?_
            refine to_ic_lt (t := 50) rfl (fun q14 => ?_) (fun q14 => ?_)
            · refine to_n 1 (fr' := (53, [(0, .ref 49), (1, .int (nI n5)), (2, .int ((nI i) + 1))], [], gh S a b sc ar lo, ex, 0, 0)) rfl ?_
              rw [nI_1 i]
              refine to_n 1 (fr' := (4, [(0, .ref 49), (1, .int (nI n5)), (2, .int (nI (i + 1)))], [], gh S a b sc ar lo, ex, 0, 0)) rfl ?_
              exact ih (nI n5) (i + 1) (by omega) (rq_n (n := n5) (by omega)) (by omega)
            · refine to_n 3 (fr' := (53, [(0, .ref 49), (1, .int (nI i)), (2, .int ((nI i) + 1))], [], gh S a b sc ar lo, ex, 0, 0)) rfl ?_
              rw [nI_1 i]
              refine to_n 1 (fr' := (4, [(0, .ref 49), (1, .int (nI i)), (2, .int (nI (i + 1)))], [], gh S a b sc ar lo, ex, 0, 0)) rfl ?_
              exact ih (nI i) (i + 1) (by omega) (rq_n (n := i) (by omega)) (by omega)
  refine to_n 4 (fr' := (4, [(0, .ref 49), (1, .int (-1)), (2, .int 0)], [], gh S a b sc ar lo, ex, 0, 0)) rfl ?_
  exact c4 (7 - 0) (-1) 0 (by omega) (rq_m) (by omega)
set_option maxRecDepth 20000 in
theorem sf_X10_two {X : Nat × (Nat → Int32)} {S a b : Nat} {sc : Nat → Int32} {ar : Nat → Nat → Int32} {lo : Nat → Int64} {ex : Bool} (hW : Wd S a b) (hI : Iv S sc ar) (x1 : Int32) (x2 : Int32) (x3 : Int32) (d : Nat)  : cp X S a b (d + 1) 137 [.int x1, .int x2, .int x3] sc ar lo ex (fun x => x = ztw x1 x2 x3) := by
  obtain ⟨ha1, ha8, hb1, hb8, hab, hS1, hS⟩ := id hW
  refine cp_of (M := an_X10_two) rfl (Nat.le_of_ble_eq_true rfl) ?_
  refine to_eq (fr' := (0, [(0, .int x1), (1, .int x2), (2, .int x3)], [], gh S a b sc ar lo, ex, 0, 0)) rfl ?_
  refine to_n 1 (fr' := (1, [(0, .int x1), (1, .int x2), (2, .int x3)], [.int x1], gh S a b sc ar lo, ex, 0, 0)) rfl ?_
  rcases Decidable.em (x1 = 1) with z1 | z1
  · refine to_eq (fr' := (1, [(0, .int x1), (1, .int x2), (2, .int x3)], [.int 1], gh S a b sc ar lo, ex, 0, 0)) (by rw [z1]) ?_
    refine to_n 1 (fr' := (40, [(0, .int x1), (1, .int x2), (2, .int x3)], [], gh S a b sc ar lo, ex, 0, 0)) rfl ?_
    refine to_n 3 (fr' := (43, [(0, .int x1), (1, .int x2), (2, .int x3)], [.int (x2 + x3)], gh S a b sc ar lo, ex, 0, 0)) rfl ?_
    exact to_rt (i := .ireturn) (tg := []) rfl rfl ⟨_, (by rw [z1]; rfl), rfl⟩
  · rcases Decidable.em (x1 = 2) with z2 | z2
    · refine to_eq (fr' := (1, [(0, .int x1), (1, .int x2), (2, .int x3)], [.int 2], gh S a b sc ar lo, ex, 0, 0)) (by rw [z2]) ?_
      refine to_n 1 (fr' := (44, [(0, .int x1), (1, .int x2), (2, .int x3)], [], gh S a b sc ar lo, ex, 0, 0)) rfl ?_
      refine to_n 3 (fr' := (47, [(0, .int x1), (1, .int x2), (2, .int x3)], [.int (x2 - x3)], gh S a b sc ar lo, ex, 0, 0)) rfl ?_
      exact to_rt (i := .ireturn) (tg := []) rfl rfl ⟨_, (by rw [z2]; rfl), rfl⟩
    · rcases Decidable.em (x1 = 3) with z3 | z3
      · refine to_eq (fr' := (1, [(0, .int x1), (1, .int x2), (2, .int x3)], [.int 3], gh S a b sc ar lo, ex, 0, 0)) (by rw [z3]) ?_
        refine to_n 1 (fr' := (48, [(0, .int x1), (1, .int x2), (2, .int x3)], [], gh S a b sc ar lo, ex, 0, 0)) rfl ?_
        refine to_n 3 (fr' := (51, [(0, .int x1), (1, .int x2), (2, .int x3)], [.int (x2 * x3)], gh S a b sc ar lo, ex, 0, 0)) rfl ?_
        exact to_rt (i := .ireturn) (tg := []) rfl rfl ⟨_, (by rw [z3]; rfl), rfl⟩
      · rcases Decidable.em (x1 = 4) with z4 | z4
        · refine to_eq (fr' := (1, [(0, .int x1), (1, .int x2), (2, .int x3)], [.int 4], gh S a b sc ar lo, ex, 0, 0)) (by rw [z4]) ?_
          refine to_n 1 (fr' := (52, [(0, .int x1), (1, .int x2), (2, .int x3)], [], gh S a b sc ar lo, ex, 0, 0)) rfl ?_
          refine to_n 2 (fr' := (54, [(0, .int x1), (1, .int x2), (2, .int x3)], [.int x3, .int x2], gh S a b sc ar lo, ex, 0, 0)) rfl ?_
          refine to_ic_ge (t := 61) rfl (fun q5 => ?_) (fun q5 => ?_)
          · refine to_n 1 (fr' := (62, [(0, .int x1), (1, .int x2), (2, .int x3)], [.int 0], gh S a b sc ar lo, ex, 0, 0)) rfl ?_
            exact to_rt (i := .ireturn) (tg := []) rfl rfl ⟨_, (by rw [z4, ztw_4]; exact (if_neg (Int32.not_lt.mpr q5)).symm), rfl⟩
          · refine to_n 2 (fr' := (62, [(0, .int x1), (1, .int x2), (2, .int x3)], [.int 1], gh S a b sc ar lo, ex, 0, 0)) rfl ?_
            exact to_rt (i := .ireturn) (tg := []) rfl rfl ⟨_, (by rw [z4, ztw_4]; exact (if_pos (Int32.not_le.mp q5)).symm), rfl⟩
        · rcases Decidable.em (x1 = 5) with z6 | z6
          · refine to_eq (fr' := (1, [(0, .int x1), (1, .int x2), (2, .int x3)], [.int 5], gh S a b sc ar lo, ex, 0, 0)) (by rw [z6]) ?_
            refine to_n 1 (fr' := (63, [(0, .int x1), (1, .int x2), (2, .int x3)], [], gh S a b sc ar lo, ex, 0, 0)) rfl ?_
            refine to_n 2 (fr' := (65, [(0, .int x1), (1, .int x2), (2, .int x3)], [.int x3, .int x2], gh S a b sc ar lo, ex, 0, 0)) rfl ?_
            refine to_ic_ne (t := 72) rfl (fun q7 => ?_) (fun q7 => ?_)
            · refine to_n 1 (fr' := (73, [(0, .int x1), (1, .int x2), (2, .int x3)], [.int 0], gh S a b sc ar lo, ex, 0, 0)) rfl ?_
              exact to_rt (i := .ireturn) (tg := []) rfl rfl ⟨_, (by rw [z6, ztw_5]; exact (if_neg q7).symm), rfl⟩
            · refine to_n 2 (fr' := (73, [(0, .int x1), (1, .int x2), (2, .int x3)], [.int 1], gh S a b sc ar lo, ex, 0, 0)) rfl ?_
              exact to_rt (i := .ireturn) (tg := []) rfl rfl ⟨_, (by rw [z6, ztw_5]; exact (if_pos q7).symm), rfl⟩
          · rcases Decidable.em (x1 = 6) with z8 | z8
            · refine to_eq (fr' := (1, [(0, .int x1), (1, .int x2), (2, .int x3)], [.int 6], gh S a b sc ar lo, ex, 0, 0)) (by rw [z8]) ?_
              refine to_n 1 (fr' := (74, [(0, .int x1), (1, .int x2), (2, .int x3)], [], gh S a b sc ar lo, ex, 0, 0)) rfl ?_
              refine to_n 1 (fr' := (75, [(0, .int x1), (1, .int x2), (2, .int x3)], [.int x2], gh S a b sc ar lo, ex, 0, 0)) rfl ?_
              refine to_if_eq (t := 86) rfl (fun q9 => ?_) (fun q9 => ?_)
              · refine to_n 1 (fr' := (87, [(0, .int x1), (1, .int x2), (2, .int x3)], [.int 0], gh S a b sc ar lo, ex, 0, 0)) rfl ?_
                exact to_rt (i := .ireturn) (tg := []) rfl rfl ⟨_, (by rw [z8, ztw_6]; exact (if_neg (fun w => w.1 q9)).symm), rfl⟩
              · refine to_n 1 (fr' := (79, [(0, .int x1), (1, .int x2), (2, .int x3)], [.int x3], gh S a b sc ar lo, ex, 0, 0)) rfl ?_
                refine to_if_eq (t := 86) rfl (fun q10 => ?_) (fun q10 => ?_)
                · refine to_n 1 (fr' := (87, [(0, .int x1), (1, .int x2), (2, .int x3)], [.int 0], gh S a b sc ar lo, ex, 0, 0)) rfl ?_
                  exact to_rt (i := .ireturn) (tg := []) rfl rfl ⟨_, (by rw [z8, ztw_6]; exact (if_neg (fun w => w.2 q10)).symm), rfl⟩
                · refine to_n 2 (fr' := (87, [(0, .int x1), (1, .int x2), (2, .int x3)], [.int 1], gh S a b sc ar lo, ex, 0, 0)) rfl ?_
                  exact to_rt (i := .ireturn) (tg := []) rfl rfl ⟨_, (by rw [z8, ztw_6]; exact (if_pos ⟨q9, q10⟩).symm), rfl⟩
            · refine to_tbf (t := 88) (ms := [1, 2, 3, 4, 5, 6]) rfl rfl (by decide) rfl (by decide) (List.forall_mem_cons.mpr ⟨sw_ne z1 (by decide), (List.forall_mem_cons.mpr ⟨sw_ne z2 (by decide), (List.forall_mem_cons.mpr ⟨sw_ne z3 (by decide), (List.forall_mem_cons.mpr ⟨sw_ne z4 (by decide), (List.forall_mem_cons.mpr ⟨sw_ne z6 (by decide), (List.forall_mem_cons.mpr ⟨sw_ne z8 (by decide), (fun m h => absurd h List.not_mem_nil)⟩)⟩)⟩)⟩)⟩)⟩) ?_
              refine to_n 1 (fr' := (89, [(0, .int x1), (1, .int x2), (2, .int x3)], [.int x2], gh S a b sc ar lo, ex, 0, 0)) rfl ?_
              refine to_if_ne (t := 96) rfl (fun q11 => ?_) (fun q11 => ?_)
              · refine to_n 2 (fr' := (101, [(0, .int x1), (1, .int x2), (2, .int x3)], [.int 1], gh S a b sc ar lo, ex, 0, 0)) rfl ?_
                exact to_rt (i := .ireturn) (tg := []) rfl rfl ⟨_, (by rw [ztw_d z1 z2 z3 z4 z6 z8]; exact (if_pos (Or.inl q11)).symm), rfl⟩
              · refine to_n 1 (fr' := (93, [(0, .int x1), (1, .int x2), (2, .int x3)], [.int x3], gh S a b sc ar lo, ex, 0, 0)) rfl ?_
                refine to_if_eq (t := 100) rfl (fun q12 => ?_) (fun q12 => ?_)
                · refine to_n 1 (fr' := (101, [(0, .int x1), (1, .int x2), (2, .int x3)], [.int 0], gh S a b sc ar lo, ex, 0, 0)) rfl ?_
                  exact to_rt (i := .ireturn) (tg := []) rfl rfl ⟨_, (by rw [ztw_d z1 z2 z3 z4 z6 z8]; exact (if_neg (fun w => w.elim (fun u => u q11) (fun u => u q12))).symm), rfl⟩
                · refine to_n 2 (fr' := (101, [(0, .int x1), (1, .int x2), (2, .int x3)], [.int 1], gh S a b sc ar lo, ex, 0, 0)) rfl ?_
                  exact to_rt (i := .ireturn) (tg := []) rfl rfl ⟨_, (by rw [ztw_d z1 z2 z3 z4 z6 z8]; exact (if_pos (Or.inr q12)).symm), rfl⟩
set_option maxRecDepth 20000 in
theorem sf_X10_value {X : Nat × (Nat → Int32)} {S a b : Nat} {sc : Nat → Int32} {ar : Nat → Nat → Int32} {lo : Nat → Int64} {ex : Bool} (hW : Wd S a b) (hI : Iv S sc ar) (h : Nat) (ehb : h < 2401) (x1 : Int32) (k1 : Nat) (hk1 : k1 < 8) (k2 : Nat) (hk2 : k2 < S) (eh : sc 4904 = nI h) (d : Nat)  : cp X S a b (d + 2) 136 [.ref 49, .int x1, .int (nI k1), .int (nI k2)] sc ar lo ex (fun x => x = zvl x1 (ar 53 k2) (ar 52 k2) (ar 54 k2) (ar 59 k1) (ar 60 k1) (nI (zds a (ar 61 k1).toNatClampNeg k2)) (nI (h % 24)) (zcn (ar 51) 1 S)) := by
  obtain ⟨ha1, ha8, hb1, hb8, hab, hS1, hS⟩ := id hW
  refine cp_of (M := an_X10_value) rfl (Nat.le_of_ble_eq_true rfl) ?_
  refine to_eq (fr' := (0, [(0, .ref 49), (1, .int x1), (2, .int (nI k1)), (3, .int (nI k2))], [], gh S a b sc ar lo, ex, 0, 0)) rfl ?_
  refine to_n 1 (fr' := (1, [(0, .ref 49), (1, .int x1), (2, .int (nI k1)), (3, .int (nI k2))], [.int x1], gh S a b sc ar lo, ex, 0, 0)) rfl ?_
  rcases Decidable.em (x1 = 0) with z1 | z1
  · refine to_eq (fr' := (1, [(0, .ref 49), (1, .int x1), (2, .int (nI k1)), (3, .int (nI k2))], [.int 0], gh S a b sc ar lo, ex, 0, 0)) (by rw [z1]) ?_
    refine to_n 1 (fr' := (44, [(0, .ref 49), (1, .int x1), (2, .int (nI k1)), (3, .int (nI k2))], [], gh S a b sc ar lo, ex, 0, 0)) rfl ?_
    refine to_n 1 (fr' := (45, [(0, .ref 49), (1, .int x1), (2, .int (nI k1)), (3, .int (nI k2))], [.ref 49], gh S a b sc ar lo, ex, 0, 0)) rfl ?_
    refine to_get rfl rfl rfl rfl ?_
    refine to_n 1 (fr' := (49, [(0, .ref 49), (1, .int x1), (2, .int (nI k1)), (3, .int (nI k2))], [.int (nI k2), .ref 53], gh S a b sc ar lo, ex, 0, 0)) rfl ?_
    refine to_ialR (i := k2) (v := (ar 53 k2)) rfl (by decide) rfl (by omega) (by omega) rfl ?_
    exact to_rt (i := .ireturn) (tg := []) rfl rfl ⟨_, (by rw [z1]; rfl), rfl⟩
  · rcases Decidable.em (x1 = 1) with z2 | z2
    · refine to_eq (fr' := (1, [(0, .ref 49), (1, .int x1), (2, .int (nI k1)), (3, .int (nI k2))], [.int 1], gh S a b sc ar lo, ex, 0, 0)) (by rw [z2]) ?_
      refine to_n 1 (fr' := (51, [(0, .ref 49), (1, .int x1), (2, .int (nI k1)), (3, .int (nI k2))], [], gh S a b sc ar lo, ex, 0, 0)) rfl ?_
      refine to_n 1 (fr' := (52, [(0, .ref 49), (1, .int x1), (2, .int (nI k1)), (3, .int (nI k2))], [.ref 49], gh S a b sc ar lo, ex, 0, 0)) rfl ?_
      refine to_get rfl rfl rfl rfl ?_
      refine to_n 1 (fr' := (56, [(0, .ref 49), (1, .int x1), (2, .int (nI k1)), (3, .int (nI k2))], [.int (nI k2), .ref 52], gh S a b sc ar lo, ex, 0, 0)) rfl ?_
      refine to_ialR (i := k2) (v := (ar 52 k2)) rfl (by decide) rfl (by omega) (by omega) rfl ?_
      exact to_rt (i := .ireturn) (tg := []) rfl rfl ⟨_, (by rw [z2]; rfl), rfl⟩
    · rcases Decidable.em (x1 = 2) with z3 | z3
      · refine to_eq (fr' := (1, [(0, .ref 49), (1, .int x1), (2, .int (nI k1)), (3, .int (nI k2))], [.int 2], gh S a b sc ar lo, ex, 0, 0)) (by rw [z3]) ?_
        refine to_n 1 (fr' := (58, [(0, .ref 49), (1, .int x1), (2, .int (nI k1)), (3, .int (nI k2))], [], gh S a b sc ar lo, ex, 0, 0)) rfl ?_
        refine to_n 1 (fr' := (59, [(0, .ref 49), (1, .int x1), (2, .int (nI k1)), (3, .int (nI k2))], [.ref 49], gh S a b sc ar lo, ex, 0, 0)) rfl ?_
        refine to_get rfl rfl rfl rfl ?_
        refine to_n 1 (fr' := (63, [(0, .ref 49), (1, .int x1), (2, .int (nI k1)), (3, .int (nI k2))], [.int (nI k2), .ref 54], gh S a b sc ar lo, ex, 0, 0)) rfl ?_
        refine to_ialR (i := k2) (v := (ar 54 k2)) rfl (by decide) rfl (by omega) (by omega) rfl ?_
        exact to_rt (i := .ireturn) (tg := []) rfl rfl ⟨_, (by rw [z3]; rfl), rfl⟩
      · rcases Decidable.em (x1 = 3) with z4 | z4
        · refine to_eq (fr' := (1, [(0, .ref 49), (1, .int x1), (2, .int (nI k1)), (3, .int (nI k2))], [.int 3], gh S a b sc ar lo, ex, 0, 0)) (by rw [z4]) ?_
          refine to_n 1 (fr' := (65, [(0, .ref 49), (1, .int x1), (2, .int (nI k1)), (3, .int (nI k2))], [], gh S a b sc ar lo, ex, 0, 0)) rfl ?_
          refine to_n 1 (fr' := (66, [(0, .ref 49), (1, .int x1), (2, .int (nI k1)), (3, .int (nI k2))], [.ref 49], gh S a b sc ar lo, ex, 0, 0)) rfl ?_
          refine to_get rfl rfl rfl rfl ?_
          refine to_n 1 (fr' := (70, [(0, .ref 49), (1, .int x1), (2, .int (nI k1)), (3, .int (nI k2))], [.int (nI k1), .ref 59], gh S a b sc ar lo, ex, 0, 0)) rfl ?_
          refine to_ialR (i := k1) (v := (ar 59 k1)) rfl (by decide) rfl (by omega) (by omega) rfl ?_
          exact to_rt (i := .ireturn) (tg := []) rfl rfl ⟨_, (by rw [z4]; rfl), rfl⟩
        · rcases Decidable.em (x1 = 4) with z5 | z5
          · refine to_eq (fr' := (1, [(0, .ref 49), (1, .int x1), (2, .int (nI k1)), (3, .int (nI k2))], [.int 4], gh S a b sc ar lo, ex, 0, 0)) (by rw [z5]) ?_
            refine to_n 1 (fr' := (72, [(0, .ref 49), (1, .int x1), (2, .int (nI k1)), (3, .int (nI k2))], [], gh S a b sc ar lo, ex, 0, 0)) rfl ?_
            refine to_n 1 (fr' := (73, [(0, .ref 49), (1, .int x1), (2, .int (nI k1)), (3, .int (nI k2))], [.ref 49], gh S a b sc ar lo, ex, 0, 0)) rfl ?_
            refine to_get rfl rfl rfl rfl ?_
            refine to_n 1 (fr' := (77, [(0, .ref 49), (1, .int x1), (2, .int (nI k1)), (3, .int (nI k2))], [.int (nI k1), .ref 60], gh S a b sc ar lo, ex, 0, 0)) rfl ?_
            refine to_ialR (i := k1) (v := (ar 60 k1)) rfl (by decide) rfl (by omega) (by omega) rfl ?_
            exact to_rt (i := .ireturn) (tg := []) rfl rfl ⟨_, (by rw [z5]; rfl), rfl⟩
          · rcases Decidable.em (x1 = 5) with z6 | z6
            · refine to_eq (fr' := (1, [(0, .ref 49), (1, .int x1), (2, .int (nI k1)), (3, .int (nI k2))], [.int 5], gh S a b sc ar lo, ex, 0, 0)) (by rw [z6]) ?_
              refine to_n 1 (fr' := (79, [(0, .ref 49), (1, .int x1), (2, .int (nI k1)), (3, .int (nI k2))], [], gh S a b sc ar lo, ex, 0, 0)) rfl ?_
              refine to_n 2 (fr' := (81, [(0, .ref 49), (1, .int x1), (2, .int (nI k1)), (3, .int (nI k2))], [.ref 49, .ref 49], gh S a b sc ar lo, ex, 0, 0)) rfl ?_
              refine to_get rfl rfl rfl rfl ?_
              refine to_n 1 (fr' := (85, [(0, .ref 49), (1, .int x1), (2, .int (nI k1)), (3, .int (nI k2))], [.int (nI k1), .ref 61, .ref 49], gh S a b sc ar lo, ex, 0, 0)) rfl ?_
              obtain ⟨n7, hn7, e7⟩ := iv_a61 hI k1
              refine to_ialR (i := k1) (v := (nI n7)) rfl (by decide) rfl (by omega) (by omega) e7 ?_
              refine to_n 1 (fr' := (87, [(0, .ref 49), (1, .int x1), (2, .int (nI k1)), (3, .int (nI k2))], [.int (nI k2), .int (nI n7), .ref 49], gh S a b sc ar lo, ex, 0, 0)) rfl ?_
              refine to_cp (q := 113) (M1 := an_X10_far) (rest := []) rfl rfl (by decide) rfl ⟨_, rfl⟩ (sf_X10_far hW hI n7 (by omega) k2 (by omega) d) (fun x8 hx8 => ?_)
              obtain rfl := hx8
              have hb8 : zds a n7 k2 < 16 := zds_b hW (show n7 < S by omega) (show k2 < S by omega)
              refine to_eq (fr' := (90, [(0, .ref 49), (1, .int x1), (2, .int (nI k1)), (3, .int (nI k2))], [.int (nI (zds a n7 k2))], gh S a b sc ar lo, ex, 0, 0)) rfl ?_
              exact to_rt (i := .ireturn) (tg := []) rfl rfl ⟨_, (by rw [z6, e7, nI_clamp (by omega)]; rfl), rfl⟩
            · rcases Decidable.em (x1 = 6) with z9 | z9
              · refine to_eq (fr' := (1, [(0, .ref 49), (1, .int x1), (2, .int (nI k1)), (3, .int (nI k2))], [.int 6], gh S a b sc ar lo, ex, 0, 0)) (by rw [z9]) ?_
                refine to_n 1 (fr' := (91, [(0, .ref 49), (1, .int x1), (2, .int (nI k1)), (3, .int (nI k2))], [], gh S a b sc ar lo, ex, 0, 0)) rfl ?_
                refine to_n 1 (fr' := (92, [(0, .ref 49), (1, .int x1), (2, .int (nI k1)), (3, .int (nI k2))], [.ref 49], gh S a b sc ar lo, ex, 0, 0)) rfl ?_
                refine to_getR (v := (nI h)) rfl rfl rfl rfl eh ?_
                refine to_n 1 (fr' := (97, [(0, .ref 49), (1, .int x1), (2, .int (nI k1)), (3, .int (nI k2))], [.int 24, .int (nI h)], gh S a b sc ar lo, ex, 0, 0)) rfl ?_
                refine to_remN (x := h) (y := 24) rfl (by omega) (by omega) (by omega) ?_
                exact to_rt (i := .ireturn) (tg := []) rfl rfl ⟨_, (by rw [z9]; rfl), rfl⟩
              · refine to_tbf (t := 99) (ms := [1, 2, 3, 4, 5, 6, 7]) rfl rfl (by decide) rfl (by decide) (List.forall_mem_cons.mpr ⟨sw_ne z1 (by decide), (List.forall_mem_cons.mpr ⟨sw_ne z2 (by decide), (List.forall_mem_cons.mpr ⟨sw_ne z3 (by decide), (List.forall_mem_cons.mpr ⟨sw_ne z4 (by decide), (List.forall_mem_cons.mpr ⟨sw_ne z5 (by decide), (List.forall_mem_cons.mpr ⟨sw_ne z6 (by decide), (List.forall_mem_cons.mpr ⟨sw_ne z9 (by decide), (fun m h => absurd h List.not_mem_nil)⟩)⟩)⟩)⟩)⟩)⟩)⟩) ?_
                refine to_n 2 (fr' := (101, [(0, .ref 49), (1, .int x1), (2, .int (nI k1)), (3, .int (nI k2))], [.int 1, .ref 49], gh S a b sc ar lo, ex, 0, 0)) rfl ?_
                refine to_cp (q := 135) (M1 := an_X10_many) (rest := []) rfl rfl (by decide) rfl ⟨_, rfl⟩ (sf_X10_many hW hI 1 d) (fun x10 hx10 => ?_)
                have hp10 := hx10
                refine to_eq (fr' := (104, [(0, .ref 49), (1, .int x1), (2, .int (nI k1)), (3, .int (nI k2))], [.int x10], gh S a b sc ar lo, ex, 0, 0)) rfl ?_
                exact to_rt (i := .ireturn) (tg := []) rfl rfl ⟨_, (by rw [zvl_d z1 z2 z3 z4 z5 z6 z9]; exact hp10), rfl⟩
set_option maxRecDepth 20000 in
theorem sf_X10_stays {X : Nat × (Nat → Int32)} {S a b : Nat} {sc : Nat → Int32} {ar : Nat → Nat → Int32} {lo : Nat → Int64} {ex : Bool} (hW : Wd S a b) (hI : Iv S sc ar) (k1 : Nat) (hk1 : k1 < S) (d : Nat)  : cp X S a b (d + 1) 161 [.ref 49, .int (nI k1)] sc ar lo ex (fun x => rl x 2) := by
  obtain ⟨ha1, ha8, hb1, hb8, hab, hS1, hS⟩ := id hW
  refine cp_of (M := an_X10_stays) rfl (Nat.le_of_ble_eq_true rfl) ?_
  refine to_eq (fr' := (0, [(0, .ref 49), (1, .int (nI k1))], [], gh S a b sc ar lo, ex, 0, 0)) rfl ?_
  refine to_n 1 (fr' := (1, [(0, .ref 49), (1, .int (nI k1))], [.ref 49], gh S a b sc ar lo, ex, 0, 0)) rfl ?_
  refine to_get rfl rfl rfl rfl ?_
  refine to_n 1 (fr' := (5, [(0, .ref 49), (1, .int (nI k1))], [.int (nI k1), .ref 51], gh S a b sc ar lo, ex, 0, 0)) rfl ?_
  refine to_ialR (i := k1) (v := ((ar 51) k1)) rfl (by decide) rfl (by omega) (by omega) rfl ?_
  refine to_if_ne (t := 22) rfl (fun q1 => ?_) (fun q1 => ?_)
  · refine to_n 1 (fr' := (23, [(0, .ref 49), (1, .int (nI k1))], [.int 0], gh S a b sc ar lo, ex, 0, 0)) rfl ?_
    exact to_rt (i := .ireturn) (tg := []) rfl rfl ⟨_, rl_n (n := 0) (by omega), rfl⟩
  · refine to_n 1 (fr' := (10, [(0, .ref 49), (1, .int (nI k1))], [.ref 49], gh S a b sc ar lo, ex, 0, 0)) rfl ?_
    refine to_get rfl rfl rfl rfl ?_
    refine to_n 1 (fr' := (14, [(0, .ref 49), (1, .int (nI k1))], [.int (nI k1), .ref 77], gh S a b sc ar lo, ex, 0, 0)) rfl ?_
    refine to_zalR (i := k1) (v := ((ar 77) k1)) rfl rfl (by omega) (by omega) rfl ?_
    refine to_if_ne (t := 22) rfl (fun q2 => ?_) (fun q2 => ?_)
    · refine to_n 1 (fr' := (23, [(0, .ref 49), (1, .int (nI k1))], [.int 0], gh S a b sc ar lo, ex, 0, 0)) rfl ?_
      exact to_rt (i := .ireturn) (tg := []) rfl rfl ⟨_, rl_n (n := 0) (by omega), rfl⟩
    · refine to_n 2 (fr' := (23, [(0, .ref 49), (1, .int (nI k1))], [.int 1], gh S a b sc ar lo, ex, 0, 0)) rfl ?_
      exact to_rt (i := .ireturn) (tg := []) rfl rfl ⟨_, rl_n (n := 1) (by omega), rfl⟩
set_option maxRecDepth 20000 in
theorem sf_X10_isSource {X : Nat × (Nat → Int32)} {S a b : Nat} {sc : Nat → Int32} {ar : Nat → Nat → Int32} {lo : Nat → Int64} {ex : Bool} (hW : Wd S a b) (hI : Iv S sc ar) (k1 : Nat) (hk1 : k1 < S) (d : Nat)  : cp X S a b (d + 2) 160 [.ref 49, .int (nI k1)] sc ar lo ex (fun x => rl x 2) := by
  obtain ⟨ha1, ha8, hb1, hb8, hab, hS1, hS⟩ := id hW
  refine cp_of (M := an_X10_isSource) rfl (Nat.le_of_ble_eq_true rfl) ?_
  refine to_eq (fr' := (0, [(0, .ref 49), (1, .int (nI k1))], [], gh S a b sc ar lo, ex, 0, 0)) rfl ?_
  have c4 : ∀ m : Nat, ∀ (n : Nat) (i : Nat) , i + m = 4 → n < 2 → ag_To X (d + 1) an_X10_isSource (4, [(0, .ref 49), (1, .int (nI k1)), (2, .int (nI n)), (3, .int (nI i))], [], gh S a b sc ar lo, ex, 0, 0) (qp S a b sc ar lo ex (fun x => rl x 2)) := by
    intro m
    induction m with
    | zero =>
      intro n i hm hc4_0
      refine to_n 2 (fr' := (6, [(0, .ref 49), (1, .int (nI k1)), (2, .int (nI n)), (3, .int (nI i))], [.int 4, .int (nI i)], gh S a b sc ar lo, ex, 0, 0)) rfl ?_
      refine to_nc_ge_T (t := 42) (x := i) (y := 4) rfl (by omega) (by omega) (by omega) ?_
      refine to_n 1 (fr' := (43, [(0, .ref 49), (1, .int (nI k1)), (2, .int (nI n)), (3, .int (nI i))], [.int (nI n)], gh S a b sc ar lo, ex, 0, 0)) rfl ?_
      exact to_rt (i := .ireturn) (tg := []) rfl (ai_rtz (rl_n (n := n) (by omega))) ⟨_, rl_n (n := n) (by omega), rfl⟩
    | succ m ih =>
      intro n i hm hc4_0
      refine to_n 2 (fr' := (6, [(0, .ref 49), (1, .int (nI k1)), (2, .int (nI n)), (3, .int (nI i))], [.int 4, .int (nI i)], gh S a b sc ar lo, ex, 0, 0)) rfl ?_
      refine to_nc_ge_F (t := 42) (x := i) (y := 4) rfl (by omega) (by omega) (by omega) ?_
      refine to_n 3 (fr' := (12, [(0, .ref 49), (1, .int (nI k1)), (2, .int (nI n)), (3, .int (nI i))], [.int (nI i), .int (nI k1), .ref 49], gh S a b sc ar lo, ex, 0, 0)) rfl ?_
      refine to_cp (q := 112) (M1 := an_X10_beside) (rest := []) rfl rfl (by decide) rfl ⟨_, rfl⟩ (sf_X10_beside hW hI k1 (by omega) i (by omega) d) (fun x2 hx2 => ?_)
      obtain ⟨hx2, hp2⟩ := hx2
      rcases hx2 with rfl | ⟨n2, hn2, rfl⟩
      · refine to_eq (fr' := (15, [(0, .ref 49), (1, .int (nI k1)), (2, .int (nI n)), (3, .int (nI i))], [.int (-1)], gh S a b sc ar lo, ex, 0, 0)) rfl ?_
        refine to_n 5 (fr' := (39, [(0, .ref 49), (1, .int (nI k1)), (2, .int (nI n)), (3, .int ((nI i) + 1)), (4, .int (-1))], [], gh S a b sc ar lo, ex, 0, 0)) rfl ?_
        rw [nI_1 i]
        refine to_n 1 (fr' := (4, [(0, .ref 49), (1, .int (nI k1)), (2, .int (nI n)), (3, .int (nI (i + 1))), (4, .int (-1))], [], gh S a b sc ar lo, ex, 0, 0)) rfl ?_
        refine to_lv (lv := [(0, .ref 49), (1, .int (nI k1)), (2, .int (nI n)), (3, .int (nI (i + 1)))]) rfl ⟨rfl, rfl, rfl, rfl, trivial⟩ ?_
        exact ih n (i + 1) (by omega) (by omega)
      · refine to_eq (fr' := (15, [(0, .ref 49), (1, .int (nI k1)), (2, .int (nI n)), (3, .int (nI i))], [.int (nI n2)], gh S a b sc ar lo, ex, 0, 0)) rfl ?_
        refine to_n 3 (fr' := (20, [(0, .ref 49), (1, .int (nI k1)), (2, .int (nI n)), (3, .int (nI i)), (4, .int (nI n2))], [.int (-1), .int (nI n2)], gh S a b sc ar lo, ex, 0, 0)) rfl ?_
        refine to_ic_eq_F (t := 36) (x := (nI n2)) (y := (-1)) rfl (nI_neg (by omega) (by decide)) ?_
        refine to_n 1 (fr' := (24, [(0, .ref 49), (1, .int (nI k1)), (2, .int (nI n)), (3, .int (nI i)), (4, .int (nI n2))], [.ref 49], gh S a b sc ar lo, ex, 0, 0)) rfl ?_
        refine to_get rfl rfl rfl rfl ?_
        refine to_n 1 (fr' := (29, [(0, .ref 49), (1, .int (nI k1)), (2, .int (nI n)), (3, .int (nI i)), (4, .int (nI n2))], [.int (nI n2), .ref 51], gh S a b sc ar lo, ex, 0, 0)) rfl ?_
        refine to_ialR (i := n2) (v := ((ar 51) n2)) rfl (by decide) rfl (by omega) (by omega) rfl ?_
        refine to_n 1 (fr' := (31, [(0, .ref 49), (1, .int (nI k1)), (2, .int (nI n)), (3, .int (nI i)), (4, .int (nI n2))], [.int 1, .int ((ar 51) n2)], gh S a b sc ar lo, ex, 0, 0)) rfl ?_
        refine to_ic_ne (t := 36) rfl (fun q3 => ?_) (fun q3 => ?_)
        · refine to_n 1 (fr' := (39, [(0, .ref 49), (1, .int (nI k1)), (2, .int (nI n)), (3, .int ((nI i) + 1)), (4, .int (nI n2))], [], gh S a b sc ar lo, ex, 0, 0)) rfl ?_
          rw [nI_1 i]
          refine to_n 1 (fr' := (4, [(0, .ref 49), (1, .int (nI k1)), (2, .int (nI n)), (3, .int (nI (i + 1))), (4, .int (nI n2))], [], gh S a b sc ar lo, ex, 0, 0)) rfl ?_
          refine to_lv (lv := [(0, .ref 49), (1, .int (nI k1)), (2, .int (nI n)), (3, .int (nI (i + 1)))]) rfl ⟨rfl, rfl, rfl, rfl, trivial⟩ ?_
          exact ih n (i + 1) (by omega) (by omega)
        · refine to_n 3 (fr' := (39, [(0, .ref 49), (1, .int (nI k1)), (2, .int 1), (3, .int ((nI i) + 1)), (4, .int (nI n2))], [], gh S a b sc ar lo, ex, 0, 0)) rfl ?_
          rw [nI_1 i]
          refine to_n 1 (fr' := (4, [(0, .ref 49), (1, .int (nI k1)), (2, .int 1), (3, .int (nI (i + 1))), (4, .int (nI n2))], [], gh S a b sc ar lo, ex, 0, 0)) rfl ?_
          refine to_lv (lv := [(0, .ref 49), (1, .int (nI k1)), (2, .int 1), (3, .int (nI (i + 1)))]) rfl ⟨rfl, rfl, rfl, rfl, trivial⟩ ?_
          exact ih 1 (i + 1) (by omega) (by omega)
  refine to_n 4 (fr' := (4, [(0, .ref 49), (1, .int (nI k1)), (2, .int 0), (3, .int 0)], [], gh S a b sc ar lo, ex, 0, 0)) rfl ?_
  exact c4 (4 - 0) 0 0 (by omega) (by omega)
set_option maxRecDepth 20000 in
theorem sf_X10_noGoal {X : Nat × (Nat → Int32)} {S a b : Nat} {sc : Nat → Int32} {ar : Nat → Nat → Int32} {lo : Nat → Int64} {ex : Bool} (hW : Wd S a b) (hI : Iv S sc ar) (n : Nat) (enb : n < 9) (x1 : Int32) (x2 : Int32) (en : sc 4906 = nI n) (d : Nat)  : cv X S a b (d + 1) 142 [.ref 49, .int x1, .int x2] sc ar lo ex (fun sc' ar' => Iv S sc' ar' ∧ Fr [] [62] sc ar sc' ar' ∧ ar' 62 = zng n x1 x2 (ar 62) (ar 66)) := by
  obtain ⟨ha1, ha8, hb1, hb8, hab, hS1, hS⟩ := id hW
  refine cv_of (M := an_X10_noGoal) rfl (Nat.le_of_ble_eq_true rfl) ?_
  have hF : Fr [] [62] sc ar sc ar := fr_0
  refine to_eq (fr' := (0, [(0, .ref 49), (1, .int x1), (2, .int x2)], [], gh S a b sc ar lo, ex, 0, 0)) rfl ?_
  have c2 : ∀ m : Nat, ∀ (i : Nat) (sc1 : Nat → Int32) (ar1 : Nat → Nat → Int32), i + m = n → ar1 62 = zng i x1 x2 (ar 62) (ar 66) → Iv S sc1 ar1 → Fr [] [62] sc ar sc1 ar1 → ag_To X d an_X10_noGoal (2, [(0, .ref 49), (1, .int x1), (2, .int x2), (3, .int (nI i))], [], gh S a b sc1 ar1 lo, ex, 0, 0) (qv S a b lo ex (fun sc' ar' => Iv S sc' ar' ∧ Fr [] [62] sc ar sc' ar' ∧ ar' 62 = zng n x1 x2 (ar 62) (ar 66))) := by
    intro m
    induction m with
    | zero =>
      intro i sc1 ar1 hm hc2_0 hI1 hF1
      refine to_n 2 (fr' := (4, [(0, .ref 49), (1, .int x1), (2, .int x2), (3, .int (nI i))], [.ref 49, .int (nI i)], gh S a b sc1 ar1 lo, ex, 0, 0)) rfl ?_
      refine to_getR (v := (nI n)) rfl rfl rfl rfl ((hF1.1 4906 (by decide)).trans en) ?_
      refine to_nc_ge_T (t := 43) (x := i) (y := n) rfl (by omega) (by omega) (by omega) ?_
      exact to_rt (i := .return_) (tg := []) rfl rfl ⟨_, _, ⟨hI1, hF1, (by rw [show n = i by omega]; exact hc2_0)⟩, rfl⟩
    | succ m ih =>
      intro i sc1 ar1 hm hc2_0 hI1 hF1
      refine to_n 2 (fr' := (4, [(0, .ref 49), (1, .int x1), (2, .int x2), (3, .int (nI i))], [.ref 49, .int (nI i)], gh S a b sc1 ar1 lo, ex, 0, 0)) rfl ?_
      refine to_getR (v := (nI n)) rfl rfl rfl rfl ((hF1.1 4906 (by decide)).trans en) ?_
      refine to_nc_ge_F (t := 43) (x := i) (y := n) rfl (by omega) (by omega) (by omega) ?_
      refine to_n 1 (fr' := (11, [(0, .ref 49), (1, .int x1), (2, .int x2), (3, .int (nI i))], [.ref 49], gh S a b sc1 ar1 lo, ex, 0, 0)) rfl ?_
      refine to_get rfl rfl rfl rfl ?_
      refine to_n 1 (fr' := (15, [(0, .ref 49), (1, .int x1), (2, .int x2), (3, .int (nI i))], [.int (nI i), .ref 62], gh S a b sc1 ar1 lo, ex, 0, 0)) rfl ?_
      rcases iv_a62 hI1 i with e2 | ⟨n2, hn2, e2⟩
      · refine to_ialR (i := i) (v := (-1)) rfl (by decide) rfl (by omega) (by omega) e2 ?_
        refine to_n 1 (fr' := (17, [(0, .ref 49), (1, .int x1), (2, .int x2), (3, .int (nI i))], [.int x1, .int (-1)], gh S a b sc1 ar1 lo, ex, 0, 0)) rfl ?_
        refine to_ic_ne (t := 37) rfl (fun q3 => ?_) (fun q3 => ?_)
        · refine to_n 1 (fr' := (40, [(0, .ref 49), (1, .int x1), (2, .int x2), (3, .int ((nI i) + 1))], [], gh S a b sc1 ar1 lo, ex, 0, 0)) rfl ?_
          rw [nI_1 i]
          refine to_n 1 (fr' := (2, [(0, .ref 49), (1, .int x1), (2, .int x2), (3, .int (nI (i + 1)))], [], gh S a b sc1 ar1 lo, ex, 0, 0)) rfl ?_
          exact ih (i + 1) sc1 ar1 (by omega) (zng_n hc2_0 (fun w => q3 (e2.symm.trans w.1))) hI1 hF1
        · refine to_n 1 (fr' := (21, [(0, .ref 49), (1, .int x1), (2, .int x2), (3, .int (nI i))], [.ref 49], gh S a b sc1 ar1 lo, ex, 0, 0)) rfl ?_
          refine to_get rfl rfl rfl rfl ?_
          refine to_n 1 (fr' := (25, [(0, .ref 49), (1, .int x1), (2, .int x2), (3, .int (nI i))], [.int (nI i), .ref 66], gh S a b sc1 ar1 lo, ex, 0, 0)) rfl ?_
          refine to_zalR (i := i) (v := (ar 66 i)) rfl rfl (by omega) (by omega) (congrFun (hF1.2 66 (by decide)) i) ?_
          refine to_n 1 (fr' := (27, [(0, .ref 49), (1, .int x1), (2, .int x2), (3, .int (nI i))], [.int x2, .int (ar 66 i)], gh S a b sc1 ar1 lo, ex, 0, 0)) rfl ?_
          refine to_ic_ne (t := 37) rfl (fun q4 => ?_) (fun q4 => ?_)
          · refine to_n 1 (fr' := (40, [(0, .ref 49), (1, .int x1), (2, .int x2), (3, .int ((nI i) + 1))], [], gh S a b sc1 ar1 lo, ex, 0, 0)) rfl ?_
            rw [nI_1 i]
            refine to_n 1 (fr' := (2, [(0, .ref 49), (1, .int x1), (2, .int x2), (3, .int (nI (i + 1)))], [], gh S a b sc1 ar1 lo, ex, 0, 0)) rfl ?_
            exact ih (i + 1) sc1 ar1 (by omega) (zng_n hc2_0 (fun w => q4 w.2)) hI1 hF1
          · refine to_n 1 (fr' := (31, [(0, .ref 49), (1, .int x1), (2, .int x2), (3, .int (nI i))], [.ref 49], gh S a b sc1 ar1 lo, ex, 0, 0)) rfl ?_
            refine to_get rfl rfl rfl rfl ?_
            refine to_n 2 (fr' := (36, [(0, .ref 49), (1, .int x1), (2, .int x2), (3, .int (nI i))], [.int (-1), .int (nI i), .ref 62], gh S a b sc1 ar1 lo, ex, 0, 0)) rfl ?_
            refine to_iasR (i := i) (h' := gh S a b sc1 (uA ar1 62 (upd (ar1 62) i (-1))) lo) rfl rfl (by omega) (by omega) rfl ?_
            have hI5 := ia_62 (i := i) (v := (-1)) hI1 (rq_m)
            have hF5 := fr_a (c := 62) (g := (upd (ar1 62) i (-1))) hF1 (by decide)
            refine to_n 1 (fr' := (40, [(0, .ref 49), (1, .int x1), (2, .int x2), (3, .int ((nI i) + 1))], [], gh S a b sc1 (uA ar1 62 (upd (ar1 62) i (-1))) lo, ex, 0, 0)) rfl ?_
            rw [nI_1 i]
            refine to_n 1 (fr' := (2, [(0, .ref 49), (1, .int x1), (2, .int x2), (3, .int (nI (i + 1)))], [], gh S a b sc1 (uA ar1 62 (upd (ar1 62) i (-1))) lo, ex, 0, 0)) rfl ?_
            exact ih (i + 1) sc1 (uA ar1 62 (upd (ar1 62) i (-1))) (by omega) (zng_y hc2_0 (e2.trans q3) q4) hI5 hF5
      · refine to_ialR (i := i) (v := (nI n2)) rfl (by decide) rfl (by omega) (by omega) e2 ?_
        refine to_n 1 (fr' := (17, [(0, .ref 49), (1, .int x1), (2, .int x2), (3, .int (nI i))], [.int x1, .int (nI n2)], gh S a b sc1 ar1 lo, ex, 0, 0)) rfl ?_
        refine to_ic_ne (t := 37) rfl (fun q6 => ?_) (fun q6 => ?_)
        · refine to_n 1 (fr' := (40, [(0, .ref 49), (1, .int x1), (2, .int x2), (3, .int ((nI i) + 1))], [], gh S a b sc1 ar1 lo, ex, 0, 0)) rfl ?_
          rw [nI_1 i]
          refine to_n 1 (fr' := (2, [(0, .ref 49), (1, .int x1), (2, .int x2), (3, .int (nI (i + 1)))], [], gh S a b sc1 ar1 lo, ex, 0, 0)) rfl ?_
          exact ih (i + 1) sc1 ar1 (by omega) (zng_n hc2_0 (fun w => q6 (e2.symm.trans w.1))) hI1 hF1
        · refine to_n 1 (fr' := (21, [(0, .ref 49), (1, .int x1), (2, .int x2), (3, .int (nI i))], [.ref 49], gh S a b sc1 ar1 lo, ex, 0, 0)) rfl ?_
          refine to_get rfl rfl rfl rfl ?_
          refine to_n 1 (fr' := (25, [(0, .ref 49), (1, .int x1), (2, .int x2), (3, .int (nI i))], [.int (nI i), .ref 66], gh S a b sc1 ar1 lo, ex, 0, 0)) rfl ?_
          refine to_zalR (i := i) (v := (ar 66 i)) rfl rfl (by omega) (by omega) (congrFun (hF1.2 66 (by decide)) i) ?_
          refine to_n 1 (fr' := (27, [(0, .ref 49), (1, .int x1), (2, .int x2), (3, .int (nI i))], [.int x2, .int (ar 66 i)], gh S a b sc1 ar1 lo, ex, 0, 0)) rfl ?_
          refine to_ic_ne (t := 37) rfl (fun q7 => ?_) (fun q7 => ?_)
          · refine to_n 1 (fr' := (40, [(0, .ref 49), (1, .int x1), (2, .int x2), (3, .int ((nI i) + 1))], [], gh S a b sc1 ar1 lo, ex, 0, 0)) rfl ?_
            rw [nI_1 i]
            refine to_n 1 (fr' := (2, [(0, .ref 49), (1, .int x1), (2, .int x2), (3, .int (nI (i + 1)))], [], gh S a b sc1 ar1 lo, ex, 0, 0)) rfl ?_
            exact ih (i + 1) sc1 ar1 (by omega) (zng_n hc2_0 (fun w => q7 w.2)) hI1 hF1
          · refine to_n 1 (fr' := (31, [(0, .ref 49), (1, .int x1), (2, .int x2), (3, .int (nI i))], [.ref 49], gh S a b sc1 ar1 lo, ex, 0, 0)) rfl ?_
            refine to_get rfl rfl rfl rfl ?_
            refine to_n 2 (fr' := (36, [(0, .ref 49), (1, .int x1), (2, .int x2), (3, .int (nI i))], [.int (-1), .int (nI i), .ref 62], gh S a b sc1 ar1 lo, ex, 0, 0)) rfl ?_
            refine to_iasR (i := i) (h' := gh S a b sc1 (uA ar1 62 (upd (ar1 62) i (-1))) lo) rfl rfl (by omega) (by omega) rfl ?_
            have hI8 := ia_62 (i := i) (v := (-1)) hI1 (rq_m)
            have hF8 := fr_a (c := 62) (g := (upd (ar1 62) i (-1))) hF1 (by decide)
            refine to_n 1 (fr' := (40, [(0, .ref 49), (1, .int x1), (2, .int x2), (3, .int ((nI i) + 1))], [], gh S a b sc1 (uA ar1 62 (upd (ar1 62) i (-1))) lo, ex, 0, 0)) rfl ?_
            rw [nI_1 i]
            refine to_n 1 (fr' := (2, [(0, .ref 49), (1, .int x1), (2, .int x2), (3, .int (nI (i + 1)))], [], gh S a b sc1 (uA ar1 62 (upd (ar1 62) i (-1))) lo, ex, 0, 0)) rfl ?_
            exact ih (i + 1) sc1 (uA ar1 62 (upd (ar1 62) i (-1))) (by omega) (zng_y hc2_0 (e2.trans q6) q7) hI8 hF8
  refine to_n 2 (fr' := (2, [(0, .ref 49), (1, .int x1), (2, .int x2), (3, .int 0)], [], gh S a b sc ar lo, ex, 0, 0)) rfl ?_
  exact c2 (n - 0) 0 sc ar (by omega) zng_0 hI hF
set_option maxRecDepth 20000 in
theorem sf_X10_reckon {X : Nat × (Nat → Int32)} {S a b : Nat} {sc : Nat → Int32} {ar : Nat → Nat → Int32} {lo : Nat → Int64} {ex : Bool} (hW : Wd S a b) (hI : Iv S sc ar) (k1 : Nat) (hk1 : k1 < S) (d : Nat)  : cv X S a b (d + 3) 150 [.ref 49, .int (nI k1)] sc ar lo ex (fun sc' ar' => Iv S sc' ar' ∧ Fr [] [74] sc ar sc' ar' ∧ (ZW S a k1 (ar 51) (ar' 74) ∧ ∀ k : Nat, k < S → rl (ar' 74 k) 1001)) := by
  obtain ⟨ha1, ha8, hb1, hb8, hab, hS1, hS⟩ := id hW
  refine cv_of (M := an_X10_reckon) rfl (Nat.le_of_ble_eq_true rfl) ?_
  have hF : Fr [] [74] sc ar sc ar := fr_0
  refine to_eq (fr' := (0, [(0, .ref 49), (1, .int (nI k1))], [], gh S a b sc ar lo, ex, 0, 0)) rfl ?_
  have c56 : ∀ m : Nat, ∀ (p : Nat) (sc1 : Nat → Int32) (ar1 : Nat → Nat → Int32), p + m = S → ZRr S a b k1 (ar 51) p 0 0 (ar1 74) → Iv S sc1 ar1 → Fr [] [74] sc ar sc1 ar1 → ag_To X (d + 2) an_X10_reckon (56, [(0, .ref 49), (1, .int (nI k1)), (2, .int (nI S)), (3, .int (nI p))], [], gh S a b sc1 ar1 lo, ex, 0, 0) (qv S a b lo ex (fun sc' ar' => Iv S sc' ar' ∧ Fr [] [74] sc ar sc' ar' ∧ (ZW S a k1 (ar 51) (ar' 74) ∧ ∀ k : Nat, k < S → rl (ar' 74 k) 1001))) := by
    intro m
    induction m with
    | zero =>
      intro p sc1 ar1 hm hc56_0 hI1 hF1
      refine to_n 2 (fr' := (58, [(0, .ref 49), (1, .int (nI k1)), (2, .int (nI S)), (3, .int (nI p))], [.int (nI S), .int (nI p)], gh S a b sc1 ar1 lo, ex, 0, 0)) rfl ?_
      refine to_nc_ge_T (t := 160) (x := p) (y := S) rfl (by omega) (by omega) (by omega) ?_
      exact to_rt (i := .return_) (tg := []) rfl rfl ⟨_, _, ⟨hI1, hF1, (zrr_e hW hc56_0 (by omega))⟩, rfl⟩
    | succ m ih =>
      intro p sc1 ar1 hm hc56_0 hI1 hF1
      have c64 : ∀ m : Nat, ∀ (i : Nat) (sc2 : Nat → Int32) (ar2 : Nat → Nat → Int32), i + m = S → ZRr S a b k1 (ar 51) p i 0 (ar2 74) → Iv S sc2 ar2 → Fr [] [74] sc ar sc2 ar2 → ag_To X (d + 2) an_X10_reckon (64, [(0, .ref 49), (1, .int (nI k1)), (2, .int (nI S)), (3, .int (nI p)), (4, .int (nI i))], [], gh S a b sc2 ar2 lo, ex, 0, 0) (qv S a b lo ex (fun sc' ar' => Iv S sc' ar' ∧ Fr [] [74] sc ar sc' ar' ∧ (ZW S a k1 (ar 51) (ar' 74) ∧ ∀ k : Nat, k < S → rl (ar' 74 k) 1001))) := by
        intro m
        induction m with
        | zero =>
          intro i sc2 ar2 hm hc64_0 hI2 hF2
          refine to_n 2 (fr' := (67, [(0, .ref 49), (1, .int (nI k1)), (2, .int (nI S)), (3, .int (nI p)), (4, .int (nI i))], [.int (nI S), .int (nI i)], gh S a b sc2 ar2 lo, ex, 0, 0)) rfl ?_
          refine to_nc_ge_T (t := 154) (x := i) (y := S) rfl (by omega) (by omega) (by omega) ?_
          refine to_n 1 (fr' := (157, [(0, .ref 49), (1, .int (nI k1)), (2, .int (nI S)), (3, .int ((nI p) + 1)), (4, .int (nI i))], [], gh S a b sc2 ar2 lo, ex, 0, 0)) rfl ?_
          rw [nI_1 p]
          refine to_n 1 (fr' := (56, [(0, .ref 49), (1, .int (nI k1)), (2, .int (nI S)), (3, .int (nI (p + 1))), (4, .int (nI i))], [], gh S a b sc2 ar2 lo, ex, 0, 0)) rfl ?_
          refine to_lv (lv := [(0, .ref 49), (1, .int (nI k1)), (2, .int (nI S)), (3, .int (nI (p + 1)))]) rfl ⟨rfl, rfl, rfl, rfl, trivial⟩ ?_
          exact ih (p + 1) sc2 ar2 (by omega) (zrr_r (by have e9 : i = S := (by omega); rw [e9] at hc64_0; exact hc64_0)) hI2 hF2
        | succ m ih =>
          intro i sc2 ar2 hm hc64_0 hI2 hF2
          have c148 : ∀  (sc3 : Nat → Int32) (ar3 : Nat → Nat → Int32), ZRr S a b k1 (ar 51) p (i + 1) 0 (ar3 74) → Iv S sc3 ar3 → Fr [] [74] sc ar sc3 ar3 → ag_To X (d + 2) an_X10_reckon (148, [(0, .ref 49), (1, .int (nI k1)), (2, .int (nI S)), (3, .int (nI p)), (4, .int (nI i))], [], gh S a b sc3 ar3 lo, ex, 0, 0) (qv S a b lo ex (fun sc' ar' => Iv S sc' ar' ∧ Fr [] [74] sc ar sc' ar' ∧ (ZW S a k1 (ar 51) (ar' 74) ∧ ∀ k : Nat, k < S → rl (ar' 74 k) 1001))) := by
            intro sc3 ar3 hc148_0 hI3 hF3
            refine to_n 1 (fr' := (151, [(0, .ref 49), (1, .int (nI k1)), (2, .int (nI S)), (3, .int (nI p)), (4, .int ((nI i) + 1))], [], gh S a b sc3 ar3 lo, ex, 0, 0)) rfl ?_
            rw [nI_1 i]
            refine to_n 1 (fr' := (64, [(0, .ref 49), (1, .int (nI k1)), (2, .int (nI S)), (3, .int (nI p)), (4, .int (nI (i + 1)))], [], gh S a b sc3 ar3 lo, ex, 0, 0)) rfl ?_
            exact ih (i + 1) sc3 ar3 (by omega) hc148_0 hI3 hF3
          have c87 : ∀ m : Nat, ∀ (w : Nat) (sc4 : Nat → Int32) (ar4 : Nat → Nat → Int32), w + m = 4 → ZRr S a b k1 (ar 51) p i w (ar4 74) → ar4 74 i = nI p → Iv S sc4 ar4 → Fr [] [74] sc ar sc4 ar4 → ag_To X (d + 2) an_X10_reckon (87, [(0, .ref 49), (1, .int (nI k1)), (2, .int (nI S)), (3, .int (nI p)), (4, .int (nI i)), (5, .int (nI w))], [], gh S a b sc4 ar4 lo, ex, 0, 0) (qv S a b lo ex (fun sc' ar' => Iv S sc' ar' ∧ Fr [] [74] sc ar sc' ar' ∧ (ZW S a k1 (ar 51) (ar' 74) ∧ ∀ k : Nat, k < S → rl (ar' 74 k) 1001))) := by
            intro m
            induction m with
            | zero =>
              intro w sc4 ar4 hm hc87_0 hc87_1 hI4 hF4
              refine to_n 2 (fr' := (90, [(0, .ref 49), (1, .int (nI k1)), (2, .int (nI S)), (3, .int (nI p)), (4, .int (nI i)), (5, .int (nI w))], [.int 4, .int (nI w)], gh S a b sc4 ar4 lo, ex, 0, 0)) rfl ?_
              refine to_nc_ge_T (t := 148) (x := w) (y := 4) rfl (by omega) (by omega) (by omega) ?_
              refine to_lv (lv := [(0, .ref 49), (1, .int (nI k1)), (2, .int (nI S)), (3, .int (nI p)), (4, .int (nI i))]) rfl ⟨rfl, rfl, rfl, rfl, rfl, trivial⟩ ?_
              exact c148 sc4 ar4 (zrr_c (by have e9 : w = 4 := (by omega); rw [e9] at hc87_0; exact hc87_0)) hI4 hF4
            | succ m ih =>
              intro w sc4 ar4 hm hc87_0 hc87_1 hI4 hF4
              have c142 : ∀  (sc5 : Nat → Int32) (ar5 : Nat → Nat → Int32), ZRr S a b k1 (ar 51) p i (w + 1) (ar5 74) → ar5 74 i = nI p → Iv S sc5 ar5 → Fr [] [74] sc ar sc5 ar5 → ag_To X (d + 2) an_X10_reckon (142, [(0, .ref 49), (1, .int (nI k1)), (2, .int (nI S)), (3, .int (nI p)), (4, .int (nI i)), (5, .int (nI w))], [], gh S a b sc5 ar5 lo, ex, 0, 0) (qv S a b lo ex (fun sc' ar' => Iv S sc' ar' ∧ Fr [] [74] sc ar sc' ar' ∧ (ZW S a k1 (ar 51) (ar' 74) ∧ ∀ k : Nat, k < S → rl (ar' 74 k) 1001))) := by
                intro sc5 ar5 hc142_0 hc142_1 hI5 hF5
                refine to_n 1 (fr' := (145, [(0, .ref 49), (1, .int (nI k1)), (2, .int (nI S)), (3, .int (nI p)), (4, .int (nI i)), (5, .int ((nI w) + 1))], [], gh S a b sc5 ar5 lo, ex, 0, 0)) rfl ?_
                rw [nI_1 w]
                refine to_n 1 (fr' := (87, [(0, .ref 49), (1, .int (nI k1)), (2, .int (nI S)), (3, .int (nI p)), (4, .int (nI i)), (5, .int (nI (w + 1)))], [], gh S a b sc5 ar5 lo, ex, 0, 0)) rfl ?_
                exact ih (w + 1) sc5 ar5 (by omega) hc142_0 hc142_1 hI5 hF5
              refine to_n 2 (fr' := (90, [(0, .ref 49), (1, .int (nI k1)), (2, .int (nI S)), (3, .int (nI p)), (4, .int (nI i)), (5, .int (nI w))], [.int 4, .int (nI w)], gh S a b sc4 ar4 lo, ex, 0, 0)) rfl ?_
              refine to_nc_ge_F (t := 148) (x := w) (y := 4) rfl (by omega) (by omega) (by omega) ?_
              refine to_n 3 (fr' := (98, [(0, .ref 49), (1, .int (nI k1)), (2, .int (nI S)), (3, .int (nI p)), (4, .int (nI i)), (5, .int (nI w))], [.int (nI w), .int (nI i), .ref 49], gh S a b sc4 ar4 lo, ex, 0, 0)) rfl ?_
              refine to_cp (q := 112) (M1 := an_X10_beside) (rest := []) rfl rfl (by decide) rfl ⟨_, rfl⟩ (sf_X10_beside hW hI4 i (by omega) w (by omega) (d + 1)) (fun x6 hx6 => ?_)
              obtain ⟨hx6, hp6⟩ := hx6
              rcases hx6 with rfl | ⟨n6, hn6, rfl⟩
              · refine to_eq (fr' := (101, [(0, .ref 49), (1, .int (nI k1)), (2, .int (nI S)), (3, .int (nI p)), (4, .int (nI i)), (5, .int (nI w))], [.int (-1)], gh S a b sc4 ar4 lo, ex, 0, 0)) rfl ?_
                refine to_n 4 (fr' := (142, [(0, .ref 49), (1, .int (nI k1)), (2, .int (nI S)), (3, .int (nI p)), (4, .int (nI i)), (5, .int (nI w)), (6, .int (-1))], [], gh S a b sc4 ar4 lo, ex, 0, 0)) rfl ?_
                refine to_lv (lv := [(0, .ref 49), (1, .int (nI k1)), (2, .int (nI S)), (3, .int (nI p)), (4, .int (nI i)), (5, .int (nI w))]) rfl ⟨rfl, rfl, rfl, rfl, rfl, rfl, trivial⟩ ?_
                exact c142 sc4 ar4 (zrr_s hW hc87_0 (by omega) (by omega) hc87_1 (fun x h1 h2 h3 h4 h5 => nI_neg (n := x) (by omega) (by decide) (h2.symm.trans hp6.symm))) hc87_1 hI4 hF4
              · refine to_eq (fr' := (101, [(0, .ref 49), (1, .int (nI k1)), (2, .int (nI S)), (3, .int (nI p)), (4, .int (nI i)), (5, .int (nI w))], [.int (nI n6)], gh S a b sc4 ar4 lo, ex, 0, 0)) rfl ?_
                refine to_n 3 (fr' := (106, [(0, .ref 49), (1, .int (nI k1)), (2, .int (nI S)), (3, .int (nI p)), (4, .int (nI i)), (5, .int (nI w)), (6, .int (nI n6))], [.int (-1), .int (nI n6)], gh S a b sc4 ar4 lo, ex, 0, 0)) rfl ?_
                refine to_ic_eq_F (t := 142) (x := (nI n6)) (y := (-1)) rfl (nI_neg (by omega) (by decide)) ?_
                refine to_n 3 (fr' := (113, [(0, .ref 49), (1, .int (nI k1)), (2, .int (nI S)), (3, .int (nI p)), (4, .int (nI i)), (5, .int (nI w)), (6, .int (nI n6))], [.int (nI k1), .int (nI n6), .ref 49], gh S a b sc4 ar4 lo, ex, 0, 0)) rfl ?_
                refine to_cp (q := 149) (M1 := an_X10_isOpen) (rest := []) rfl rfl (by decide) rfl ⟨_, rfl⟩ (sf_X10_isOpen hW hI4 n6 (by omega) k1 (by omega) (d + 1)) (fun x7 hx7 => ?_)
                simp only [show ar4 51 = ar 51 from hF4.2 51 (by decide)] at hx7
                rcases hx7 with ⟨rfl, w7⟩ | ⟨rfl, w7⟩
                · refine to_eq (fr' := (116, [(0, .ref 49), (1, .int (nI k1)), (2, .int (nI S)), (3, .int (nI p)), (4, .int (nI i)), (5, .int (nI w)), (6, .int (nI n6))], [.int 1], gh S a b sc4 ar4 lo, ex, 0, 0)) rfl ?_
                  refine to_n 2 (fr' := (120, [(0, .ref 49), (1, .int (nI k1)), (2, .int (nI S)), (3, .int (nI p)), (4, .int (nI i)), (5, .int (nI w)), (6, .int (nI n6))], [.ref 49], gh S a b sc4 ar4 lo, ex, 0, 0)) rfl ?_
                  refine to_get rfl rfl rfl rfl ?_
                  refine to_n 1 (fr' := (125, [(0, .ref 49), (1, .int (nI k1)), (2, .int (nI S)), (3, .int (nI p)), (4, .int (nI i)), (5, .int (nI w)), (6, .int (nI n6))], [.int (nI n6), .ref 74], gh S a b sc4 ar4 lo, ex, 0, 0)) rfl ?_
                  obtain ⟨n8, hn8, e8⟩ := zrr_d (j := n6) hc87_0 (by omega)
                  refine to_ialR (i := n6) (v := nI n8) rfl (by decide) rfl (by omega) (by omega) e8 ?_
                  refine to_n 1 (fr' := (129, [(0, .ref 49), (1, .int (nI k1)), (2, .int (nI S)), (3, .int (nI p)), (4, .int (nI i)), (5, .int (nI w)), (6, .int (nI n6))], [.int 1000, .int (nI n8)], gh S a b sc4 ar4 lo, ex, 0, 0)) rfl ?_
                  refine to_nc_ne (t := 142) (x := n8) (y := 1000) rfl (by omega) (by omega) (fun q9 => ?_) (fun q9 => ?_)
                  · refine to_lv (lv := [(0, .ref 49), (1, .int (nI k1)), (2, .int (nI S)), (3, .int (nI p)), (4, .int (nI i)), (5, .int (nI w))]) rfl ⟨rfl, rfl, rfl, rfl, rfl, rfl, trivial⟩ ?_
                    exact c142 sc4 ar4 (zrr_s hW hc87_0 (by omega) (by omega) hc87_1 (fun x h1 h2 h3 h4 h5 => by obtain rfl : n6 = x := (nI_eq (by omega) (by omega)).mp (hp6.trans h2); exact q9 ((nI_eq (b := 1000) (by omega) (by omega)).mp (e8.symm.trans h5)))) hc87_1 hI4 hF4
                  · refine to_n 1 (fr' := (133, [(0, .ref 49), (1, .int (nI k1)), (2, .int (nI S)), (3, .int (nI p)), (4, .int (nI i)), (5, .int (nI w)), (6, .int (nI n6))], [.ref 49], gh S a b sc4 ar4 lo, ex, 0, 0)) rfl ?_
                    refine to_get rfl rfl rfl rfl ?_
                    refine to_n 3 (fr' := (140, [(0, .ref 49), (1, .int (nI k1)), (2, .int (nI S)), (3, .int (nI p)), (4, .int (nI i)), (5, .int (nI w)), (6, .int (nI n6))], [.int 1, .int (nI p), .int (nI n6), .ref 74], gh S a b sc4 ar4 lo, ex, 0, 0)) rfl ?_
                    refine to_addN (x := p) (y := 1) rfl ?_
                    refine to_iasR (i := n6) (h' := gh S a b sc4 (uA ar4 74 (upd (ar4 74) n6 (nI (p + 1)))) lo) rfl rfl (by omega) (by omega) rfl ?_
                    have hI10 := ia_74 (g := (upd (ar4 74) n6 (nI (p + 1)))) hI4
                    have hF10 := fr_a (c := 74) (g := (upd (ar4 74) n6 (nI (p + 1)))) hF4 (by decide)
                    refine to_lv (lv := [(0, .ref 49), (1, .int (nI k1)), (2, .int (nI S)), (3, .int (nI p)), (4, .int (nI i)), (5, .int (nI w))]) rfl ⟨rfl, rfl, rfl, rfl, rfl, rfl, trivial⟩ ?_
                    exact c142 sc4 (uA ar4 74 (upd (ar4 74) n6 (nI (p + 1)))) (zrr_p hW hc87_0 (by omega) (by omega) (by omega) hc87_1 hp6.symm (by omega) w7.1 w7.2 (e8.trans (congrArg nI q9))) ((show (upd (ar4 74) n6 (nI (p + 1))) i = _ from ug_ne (fun e9 => absurd (e8.symm.trans (e9 ▸ hc87_1)) (fun e8 => by have := (nI_eq (by omega) (by omega)).mp e8; omega))).trans hc87_1) hI10 hF10
                · refine to_eq (fr' := (116, [(0, .ref 49), (1, .int (nI k1)), (2, .int (nI S)), (3, .int (nI p)), (4, .int (nI i)), (5, .int (nI w)), (6, .int (nI n6))], [.int 0], gh S a b sc4 ar4 lo, ex, 0, 0)) rfl ?_
                  refine to_n 1 (fr' := (142, [(0, .ref 49), (1, .int (nI k1)), (2, .int (nI S)), (3, .int (nI p)), (4, .int (nI i)), (5, .int (nI w)), (6, .int (nI n6))], [], gh S a b sc4 ar4 lo, ex, 0, 0)) rfl ?_
                  refine to_lv (lv := [(0, .ref 49), (1, .int (nI k1)), (2, .int (nI S)), (3, .int (nI p)), (4, .int (nI i)), (5, .int (nI w))]) rfl ⟨rfl, rfl, rfl, rfl, rfl, rfl, trivial⟩ ?_
                  exact c142 sc4 ar4 (zrr_s hW hc87_0 (by omega) (by omega) hc87_1 (fun x h1 h2 h3 h4 h5 => by obtain rfl : n6 = x := (nI_eq (by omega) (by omega)).mp (hp6.trans h2); exact w7 ⟨h3, h4⟩)) hc87_1 hI4 hF4
          refine to_n 2 (fr' := (67, [(0, .ref 49), (1, .int (nI k1)), (2, .int (nI S)), (3, .int (nI p)), (4, .int (nI i))], [.int (nI S), .int (nI i)], gh S a b sc2 ar2 lo, ex, 0, 0)) rfl ?_
          refine to_nc_ge_F (t := 154) (x := i) (y := S) rfl (by omega) (by omega) (by omega) ?_
          refine to_n 1 (fr' := (71, [(0, .ref 49), (1, .int (nI k1)), (2, .int (nI S)), (3, .int (nI p)), (4, .int (nI i))], [.ref 49], gh S a b sc2 ar2 lo, ex, 0, 0)) rfl ?_
          refine to_get rfl rfl rfl rfl ?_
          refine to_n 1 (fr' := (76, [(0, .ref 49), (1, .int (nI k1)), (2, .int (nI S)), (3, .int (nI p)), (4, .int (nI i))], [.int (nI i), .ref 74], gh S a b sc2 ar2 lo, ex, 0, 0)) rfl ?_
          obtain ⟨n11, hn11, e11⟩ := zrr_d (j := i) hc64_0 (by omega)
          refine to_ialR (i := i) (v := nI n11) rfl (by decide) rfl (by omega) (by omega) e11 ?_
          refine to_n 1 (fr' := (78, [(0, .ref 49), (1, .int (nI k1)), (2, .int (nI S)), (3, .int (nI p)), (4, .int (nI i))], [.int (nI p), .int (nI n11)], gh S a b sc2 ar2 lo, ex, 0, 0)) rfl ?_
          refine to_nc_eq (t := 84) (x := n11) (y := p) rfl (by omega) (by omega) (fun q12 => ?_) (fun q12 => ?_)
          · refine to_n 2 (fr' := (87, [(0, .ref 49), (1, .int (nI k1)), (2, .int (nI S)), (3, .int (nI p)), (4, .int (nI i)), (5, .int 0)], [], gh S a b sc2 ar2 lo, ex, 0, 0)) rfl ?_
            exact c87 (4 - 0) 0 sc2 ar2 (by omega) hc64_0 (e11.trans (congrArg nI q12)) hI2 hF2
          · refine to_n 1 (fr' := (148, [(0, .ref 49), (1, .int (nI k1)), (2, .int (nI S)), (3, .int (nI p)), (4, .int (nI i))], [], gh S a b sc2 ar2 lo, ex, 0, 0)) rfl ?_
            exact c148 sc2 ar2 (zrr_n hS hc64_0 (by omega) (by omega) (fun e9 => q12 ((nI_eq (by omega) (by omega)).mp (e11.symm.trans e9)))) hI2 hF2
      refine to_n 2 (fr' := (58, [(0, .ref 49), (1, .int (nI k1)), (2, .int (nI S)), (3, .int (nI p))], [.int (nI S), .int (nI p)], gh S a b sc1 ar1 lo, ex, 0, 0)) rfl ?_
      refine to_nc_ge_F (t := 160) (x := p) (y := S) rfl (by omega) (by omega) (by omega) ?_
      refine to_n 2 (fr' := (64, [(0, .ref 49), (1, .int (nI k1)), (2, .int (nI S)), (3, .int (nI p)), (4, .int 0)], [], gh S a b sc1 ar1 lo, ex, 0, 0)) rfl ?_
      exact c64 (S - 0) 0 sc1 ar1 (by omega) hc56_0 hI1 hF1
  have c12 : ∀ m : Nat, ∀ (i : Nat) (sc13 : Nat → Int32) (ar13 : Nat → Nat → Int32), i + m = S → (∀ j : Nat, j < i → ar13 74 j = nI (zD0 a k1 (ar 51) j)) → Iv S sc13 ar13 → Fr [] [74] sc ar sc13 ar13 → ag_To X (d + 2) an_X10_reckon (12, [(0, .ref 49), (1, .int (nI k1)), (2, .int (nI S)), (3, .int (nI i))], [], gh S a b sc13 ar13 lo, ex, 0, 0) (qv S a b lo ex (fun sc' ar' => Iv S sc' ar' ∧ Fr [] [74] sc ar sc' ar' ∧ (ZW S a k1 (ar 51) (ar' 74) ∧ ∀ k : Nat, k < S → rl (ar' 74 k) 1001))) := by
    intro m
    induction m with
    | zero =>
      intro i sc13 ar13 hm hc12_0 hI13 hF13
      refine to_n 2 (fr' := (14, [(0, .ref 49), (1, .int (nI k1)), (2, .int (nI S)), (3, .int (nI i))], [.int (nI S), .int (nI i)], gh S a b sc13 ar13 lo, ex, 0, 0)) rfl ?_
      refine to_nc_ge_T (t := 54) (x := i) (y := S) rfl (by omega) (by omega) (by omega) ?_
      refine to_n 2 (fr' := (56, [(0, .ref 49), (1, .int (nI k1)), (2, .int (nI S)), (3, .int 0)], [], gh S a b sc13 ar13 lo, ex, 0, 0)) rfl ?_
      exact c56 (S - 0) 0 sc13 ar13 (by omega) (zrr_0 hc12_0 (by omega)) hI13 hF13
    | succ m ih =>
      intro i sc13 ar13 hm hc12_0 hI13 hF13
      refine to_n 2 (fr' := (14, [(0, .ref 49), (1, .int (nI k1)), (2, .int (nI S)), (3, .int (nI i))], [.int (nI S), .int (nI i)], gh S a b sc13 ar13 lo, ex, 0, 0)) rfl ?_
      refine to_nc_ge_F (t := 54) (x := i) (y := S) rfl (by omega) (by omega) (by omega) ?_
      refine to_n 1 (fr' := (18, [(0, .ref 49), (1, .int (nI k1)), (2, .int (nI S)), (3, .int (nI i))], [.ref 49], gh S a b sc13 ar13 lo, ex, 0, 0)) rfl ?_
      refine to_get rfl rfl rfl rfl ?_
      refine to_n 4 (fr' := (25, [(0, .ref 49), (1, .int (nI k1)), (2, .int (nI S)), (3, .int (nI i))], [.int (nI k1), .int (nI i), .ref 49, .int (nI i), .ref 74], gh S a b sc13 ar13 lo, ex, 0, 0)) rfl ?_
      refine to_cp (q := 149) (M1 := an_X10_isOpen) (rest := [.int (nI i), .ref 74]) rfl rfl (by decide) rfl ⟨_, rfl⟩ (sf_X10_isOpen hW hI13 i (by omega) k1 (by omega) (d + 1)) (fun x14 hx14 => ?_)
      simp only [show ar13 51 = ar 51 from hF13.2 51 (by decide)] at hx14
      rcases hx14 with ⟨rfl, w14⟩ | ⟨rfl, w14⟩
      · refine to_eq (fr' := (28, [(0, .ref 49), (1, .int (nI k1)), (2, .int (nI S)), (3, .int (nI i))], [.int 1, .int (nI i), .ref 74], gh S a b sc13 ar13 lo, ex, 0, 0)) rfl ?_
        refine to_n 4 (fr' := (34, [(0, .ref 49), (1, .int (nI k1)), (2, .int (nI S)), (3, .int (nI i))], [.int (nI k1), .int (nI i), .ref 49, .int (nI i), .ref 74], gh S a b sc13 ar13 lo, ex, 0, 0)) rfl ?_
        refine to_cp (q := 148) (M1 := an_X10_isBeside) (rest := [.int (nI i), .ref 74]) rfl rfl (by decide) rfl ⟨_, rfl⟩ (sf_X10_isBeside hW hI13 i (by omega) k1 (by omega) d) (fun x15 hx15 => ?_)
        rcases hx15 with ⟨rfl, w15⟩ | ⟨rfl, w15⟩
        · refine to_eq (fr' := (37, [(0, .ref 49), (1, .int (nI k1)), (2, .int (nI S)), (3, .int (nI i))], [.int 1, .int (nI i), .ref 74], gh S a b sc13 ar13 lo, ex, 0, 0)) rfl ?_
          refine to_n 3 (fr' := (47, [(0, .ref 49), (1, .int (nI k1)), (2, .int (nI S)), (3, .int (nI i))], [.int 0, .int (nI i), .ref 74], gh S a b sc13 ar13 lo, ex, 0, 0)) rfl ?_
          refine to_iasR (i := i) (h' := gh S a b sc13 (uA ar13 74 (upd (ar13 74) i 0)) lo) rfl rfl (by omega) (by omega) rfl ?_
          have hI16 := ia_74 (g := (upd (ar13 74) i 0)) hI13
          have hF16 := fr_a (c := 74) (g := (upd (ar13 74) i 0)) hF13 (by decide)
          refine to_n 1 (fr' := (51, [(0, .ref 49), (1, .int (nI k1)), (2, .int (nI S)), (3, .int ((nI i) + 1))], [], gh S a b sc13 (uA ar13 74 (upd (ar13 74) i 0)) lo, ex, 0, 0)) rfl ?_
          rw [nI_1 i]
          refine to_n 1 (fr' := (12, [(0, .ref 49), (1, .int (nI k1)), (2, .int (nI S)), (3, .int (nI (i + 1)))], [], gh S a b sc13 (uA ar13 74 (upd (ar13 74) i 0)) lo, ex, 0, 0)) rfl ?_
          exact ih (i + 1) sc13 (uA ar13 74 (upd (ar13 74) i 0)) (by omega) (zr0_s hc12_0 (zr0_y w14.1 w14.2 w15)) hI16 hF16
        · refine to_eq (fr' := (37, [(0, .ref 49), (1, .int (nI k1)), (2, .int (nI S)), (3, .int (nI i))], [.int 0, .int (nI i), .ref 74], gh S a b sc13 ar13 lo, ex, 0, 0)) rfl ?_
          refine to_n 2 (fr' := (47, [(0, .ref 49), (1, .int (nI k1)), (2, .int (nI S)), (3, .int (nI i))], [.int 1000, .int (nI i), .ref 74], gh S a b sc13 ar13 lo, ex, 0, 0)) rfl ?_
          refine to_iasR (i := i) (h' := gh S a b sc13 (uA ar13 74 (upd (ar13 74) i 1000)) lo) rfl rfl (by omega) (by omega) rfl ?_
          have hI17 := ia_74 (g := (upd (ar13 74) i 1000)) hI13
          have hF17 := fr_a (c := 74) (g := (upd (ar13 74) i 1000)) hF13 (by decide)
          refine to_n 1 (fr' := (51, [(0, .ref 49), (1, .int (nI k1)), (2, .int (nI S)), (3, .int ((nI i) + 1))], [], gh S a b sc13 (uA ar13 74 (upd (ar13 74) i 1000)) lo, ex, 0, 0)) rfl ?_
          rw [nI_1 i]
          refine to_n 1 (fr' := (12, [(0, .ref 49), (1, .int (nI k1)), (2, .int (nI S)), (3, .int (nI (i + 1)))], [], gh S a b sc13 (uA ar13 74 (upd (ar13 74) i 1000)) lo, ex, 0, 0)) rfl ?_
          exact ih (i + 1) sc13 (uA ar13 74 (upd (ar13 74) i 1000)) (by omega) (zr0_s hc12_0 (zr0_n (fun w => w15 w.2.2))) hI17 hF17
      · refine to_eq (fr' := (28, [(0, .ref 49), (1, .int (nI k1)), (2, .int (nI S)), (3, .int (nI i))], [.int 0, .int (nI i), .ref 74], gh S a b sc13 ar13 lo, ex, 0, 0)) rfl ?_
        refine to_n 2 (fr' := (47, [(0, .ref 49), (1, .int (nI k1)), (2, .int (nI S)), (3, .int (nI i))], [.int 1000, .int (nI i), .ref 74], gh S a b sc13 ar13 lo, ex, 0, 0)) rfl ?_
        refine to_iasR (i := i) (h' := gh S a b sc13 (uA ar13 74 (upd (ar13 74) i 1000)) lo) rfl rfl (by omega) (by omega) rfl ?_
        have hI18 := ia_74 (g := (upd (ar13 74) i 1000)) hI13
        have hF18 := fr_a (c := 74) (g := (upd (ar13 74) i 1000)) hF13 (by decide)
        refine to_n 1 (fr' := (51, [(0, .ref 49), (1, .int (nI k1)), (2, .int (nI S)), (3, .int ((nI i) + 1))], [], gh S a b sc13 (uA ar13 74 (upd (ar13 74) i 1000)) lo, ex, 0, 0)) rfl ?_
        rw [nI_1 i]
        refine to_n 1 (fr' := (12, [(0, .ref 49), (1, .int (nI k1)), (2, .int (nI S)), (3, .int (nI (i + 1)))], [], gh S a b sc13 (uA ar13 74 (upd (ar13 74) i 1000)) lo, ex, 0, 0)) rfl ?_
        exact ih (i + 1) sc13 (uA ar13 74 (upd (ar13 74) i 1000)) (by omega) (zr0_s hc12_0 (zr0_n (fun w => w14 ⟨w.1, w.2.1⟩))) hI18 hF18
  refine to_n 1 (fr' := (1, [(0, .ref 49), (1, .int (nI k1))], [.ref 49], gh S a b sc ar lo, ex, 0, 0)) rfl ?_
  refine to_get rfl rfl rfl rfl ?_
  refine to_n 1 (fr' := (5, [(0, .ref 49), (1, .int (nI k1))], [.ref 49, .int (nI a)], gh S a b sc ar lo, ex, 0, 0)) rfl ?_
  refine to_get rfl rfl rfl rfl ?_
  refine to_mulN (x := a) (y := b) rfl ?_
  rw [hab]
  refine to_n 3 (fr' := (12, [(0, .ref 49), (1, .int (nI k1)), (2, .int (nI S)), (3, .int 0)], [], gh S a b sc ar lo, ex, 0, 0)) rfl ?_
  exact c12 (S - 0) 0 sc ar (by omega) (fun j hj => absurd hj (Nat.not_lt_zero _)) hI hF
