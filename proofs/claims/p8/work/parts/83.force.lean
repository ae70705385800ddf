/-! the reference: laws in force, who is called, what is paid -/
/-- the law in force: m laws more, from the l-th on, b the best so far -/
def fo (D : Nat → Int32) (dy : Int32) : Nat → Nat → Int32 → Int32
  | 0, _, b => b
  | m + 1, l, b => fo D dy m (l + 1) (if D l ≤ dy ∧ (b = -1 ∨ D b.toNatClampNeg ≤ D l) then nI l else b)
abbrev foX (sc : Nat → Int32) (ar : Nat → Nat → Int32) : Int32 := fo (ar 68) (sc 4904 / 24) (sc 4907).toNatClampNeg 0 (-1)
theorem fo_step {D : Nat → Int32} {dy b : Int32} {n i : Nat} (h : i < n) : fo D dy (n - i) i b = fo D dy (n - (i + 1)) (i + 1) (if D i ≤ dy ∧ (b = -1 ∨ D b.toNatClampNeg ≤ D i) then nI i else b) := by
  obtain ⟨m, hm⟩ : ∃ m, n - i = m + 1 := ⟨n - i - 1, by omega⟩
  rw [hm, show n - (i + 1) = m by omega]
  rfl
theorem fo_yes {D : Nat → Int32} {dy b : Int32} {n i : Nat} (h : i < n) (h1 : D i ≤ dy) (h2 : b = -1 ∨ D b.toNatClampNeg ≤ D i) : fo D dy (n - (i + 1)) (i + 1) (nI i) = fo D dy (n - i) i b := by
  rw [fo_step h, if_pos ⟨h1, h2⟩]
theorem fo_no {D : Nat → Int32} {dy b : Int32} {n i : Nat} (h : i < n) (h1 : ¬ (D i ≤ dy ∧ (b = -1 ∨ D b.toNatClampNeg ≤ D i))) : fo D dy (n - (i + 1)) (i + 1) b = fo D dy (n - i) i b := by
  rw [fo_step h, if_neg h1]
set_option maxRecDepth 20000 in
theorem sf_force {X : Nat × (Nat → Int32)} {S a b : Nat} {sc : Nat → Int32} {ar : Nat → Nat → Int32} {lo : Nat → Int64} {ex : Bool} (hW : Wd S a b) (hI : Iv S sc ar) (n : Nat) (hn : n < 7) (en : sc 4907 = nI n) (d : Nat)  : cp X S a b (d + 1) 133 [.ref 49] sc ar lo ex (fun x => rq x n ∧ x = foX sc ar) := by
  obtain ⟨ha1, ha8, hb1, hb8, hab, hS1, hS⟩ := id hW
  refine cp_of (M := an_X10_force) rfl (Nat.le_of_ble_eq_true rfl) ?_
  refine to_eq (fr' := (0, [(0, .ref 49)], [], gh S a b sc ar lo, ex, 0, 0)) rfl ?_
  have c4 : ∀ m : Nat, ∀ (y : Int32) (i : Nat) , i + m = n → rq y n → fo (ar 68) (sc 4904 / 24) (n - i) i y = foX sc ar → ag_To X d an_X10_force (4, [(0, .ref 49), (1, .int y), (2, .int (nI i))], [], gh S a b sc ar lo, ex, 0, 0) (qp S a b sc ar lo ex (fun x => rq x n ∧ x = foX sc ar)) := by
    intro m
    induction m with
    | zero =>
      intro y i hm hq_y hc4_0
      rcases hq_y with rfl | ⟨n2, hn2, rfl⟩
      · refine to_eq (fr' := (4, [(0, .ref 49), (1, .int (-1)), (2, .int (nI i))], [], gh S a b sc ar lo, ex, 0, 0)) rfl ?_
        refine to_n 2 (fr' := (6, [(0, .ref 49), (1, .int (-1)), (2, .int (nI i))], [.ref 49, .int (nI i)], gh S a b sc ar lo, ex, 0, 0)) rfl ?_
        refine to_getR (v := (nI n)) rfl rfl rfl rfl en ?_
        refine to_nc_ge_T (t := 56) (x := i) (y := n) rfl (by omega) (by omega) (by omega) ?_
        refine to_n 1 (fr' := (57, [(0, .ref 49), (1, .int (-1)), (2, .int (nI i))], [.int (-1)], gh S a b sc ar lo, ex, 0, 0)) rfl ?_
        exact to_rt (i := .ireturn) (tg := []) rfl rfl ⟨_, ⟨rq_m, (by rw [← hc4_0, show n - i = 0 by omega]; rfl)⟩, rfl⟩
      · refine to_eq (fr' := (4, [(0, .ref 49), (1, .int (nI n2)), (2, .int (nI i))], [], gh S a b sc ar lo, ex, 0, 0)) rfl ?_
        refine to_n 2 (fr' := (6, [(0, .ref 49), (1, .int (nI n2)), (2, .int (nI i))], [.ref 49, .int (nI i)], gh S a b sc ar lo, ex, 0, 0)) rfl ?_
        refine to_getR (v := (nI n)) rfl rfl rfl rfl en ?_
        refine to_nc_ge_T (t := 56) (x := i) (y := n) rfl (by omega) (by omega) (by omega) ?_
        refine to_n 1 (fr' := (57, [(0, .ref 49), (1, .int (nI n2)), (2, .int (nI i))], [.int (nI n2)], gh S a b sc ar lo, ex, 0, 0)) rfl ?_
        exact to_rt (i := .ireturn) (tg := []) rfl rfl ⟨_, ⟨rq_n (n := n2) (by omega), (by rw [← hc4_0, show n - i = 0 by omega]; rfl)⟩, rfl⟩
    | succ m ih =>
      intro y i hm hq_y hc4_0
      rcases hq_y with rfl | ⟨n3, hn3, rfl⟩
      · refine to_eq (fr' := (4, [(0, .ref 49), (1, .int (-1)), (2, .int (nI i))], [], gh S a b sc ar lo, ex, 0, 0)) rfl ?_
        refine to_n 2 (fr' := (6, [(0, .ref 49), (1, .int (-1)), (2, .int (nI i))], [.ref 49, .int (nI i)], gh S a b sc ar lo, ex, 0, 0)) rfl ?_
        refine to_getR (v := (nI n)) rfl rfl rfl rfl en ?_
        refine to_nc_ge_F (t := 56) (x := i) (y := n) rfl (by omega) (by omega) (by omega) ?_
        refine to_n 1 (fr' := (13, [(0, .ref 49), (1, .int (-1)), (2, .int (nI i))], [.ref 49], gh S a b sc ar lo, ex, 0, 0)) rfl ?_
        refine to_get rfl rfl rfl rfl ?_
        refine to_n 1 (fr' := (17, [(0, .ref 49), (1, .int (-1)), (2, .int (nI i))], [.int (nI i), .ref 68], gh S a b sc ar lo, ex, 0, 0)) rfl ?_
        refine to_ialR (i := i) (v := ((ar 68) i)) rfl (by decide) rfl (by omega) (by omega) rfl ?_
        refine to_n 1 (fr' := (19, [(0, .ref 49), (1, .int (-1)), (2, .int (nI i))], [.ref 49, .int ((ar 68) i)], gh S a b sc ar lo, ex, 0, 0)) rfl ?_
        refine to_getR (v := (sc 4904)) rfl rfl rfl rfl rfl ?_
        refine to_n 2 (fr' := (25, [(0, .ref 49), (1, .int (-1)), (2, .int (nI i))], [.int ((sc 4904) / 24), .int ((ar 68) i)], gh S a b sc ar lo, ex, 0, 0)) rfl ?_
        refine to_ic_gt (t := 50) rfl (fun q4 => ?_) (fun q4 => ?_)
        · refine to_n 1 (fr' := (53, [(0, .ref 49), (1, .int (-1)), (2, .int ((nI i) + 1))], [], gh S a b sc ar lo, ex, 0, 0)) rfl ?_
          rw [nI_1 i]
          refine to_n 1 (fr' := (4, [(0, .ref 49), (1, .int (-1)), (2, .int (nI (i + 1)))], [], gh S a b sc ar lo, ex, 0, 0)) rfl ?_
          exact ih (-1) (i + 1) (by omega) (rq_m) ((fo_no (by omega) (fun w => Int32.not_lt.mpr w.1 q4)).trans hc4_0)
        · refine to_n 6 (fr' := (53, [(0, .ref 49), (1, .int (nI i)), (2, .int ((nI i) + 1))], [], gh S a b sc ar lo, ex, 0, 0)) rfl ?_
          rw [nI_1 i]
          refine to_n 1 (fr' := (4, [(0, .ref 49), (1, .int (nI i)), (2, .int (nI (i + 1)))], [], gh S a b sc ar lo, ex, 0, 0)) rfl ?_
          exact ih (nI i) (i + 1) (by omega) (rq_n (n := i) (by omega)) ((fo_yes (b := -1) (by omega) (Int32.not_lt.mp q4) (Or.inl rfl)).trans hc4_0)
      · refine to_eq (fr' := (4, [(0, .ref 49), (1, .int (nI n3)), (2, .int (nI i))], [], gh S a b sc ar lo, ex, 0, 0)) rfl ?_
        refine to_n 2 (fr' := (6, [(0, .ref 49), (1, .int (nI n3)), (2, .int (nI i))], [.ref 49, .int (nI i)], gh S a b sc ar lo, ex, 0, 0)) rfl ?_
        refine to_getR (v := (nI n)) rfl rfl rfl rfl en ?_
        refine to_nc_ge_F (t := 56) (x := i) (y := n) rfl (by omega) (by omega) (by omega) ?_
        refine to_n 1 (fr' := (13, [(0, .ref 49), (1, .int (nI n3)), (2, .int (nI i))], [.ref 49], gh S a b sc ar lo, ex, 0, 0)) rfl ?_
        refine to_get rfl rfl rfl rfl ?_
        refine to_n 1 (fr' := (17, [(0, .ref 49), (1, .int (nI n3)), (2, .int (nI i))], [.int (nI i), .ref 68], gh S a b sc ar lo, ex, 0, 0)) rfl ?_
        refine to_ialR (i := i) (v := ((ar 68) i)) rfl (by decide) rfl (by omega) (by omega) rfl ?_
        refine to_n 1 (fr' := (19, [(0, .ref 49), (1, .int (nI n3)), (2, .int (nI i))], [.ref 49, .int ((ar 68) i)], gh S a b sc ar lo, ex, 0, 0)) rfl ?_
        refine to_getR (v := (sc 4904)) rfl rfl rfl rfl rfl ?_
        refine to_n 2 (fr' := (25, [(0, .ref 49), (1, .int (nI n3)), (2, .int (nI i))], [.int ((sc 4904) / 24), .int ((ar 68) i)], gh S a b sc ar lo, ex, 0, 0)) rfl ?_
        refine to_ic_gt (t := 50) rfl (fun q5 => ?_) (fun q5 => ?_)
        · refine to_n 1 (fr' := (53, [(0, .ref 49), (1, .int (nI n3)), (2, .int ((nI i) + 1))], [], gh S a b sc ar lo, ex, 0, 0)) rfl ?_
          rw [nI_1 i]
          refine to_n 1 (fr' := (4, [(0, .ref 49), (1, .int (nI n3)), (2, .int (nI (i + 1)))], [], gh S a b sc ar lo, ex, 0, 0)) rfl ?_
          exact ih (nI n3) (i + 1) (by omega) (rq_n (n := n3) (by omega)) ((fo_no (by omega) (fun w => Int32.not_lt.mpr w.1 q5)).trans hc4_0)
        · refine to_n 2 (fr' := (30, [(0, .ref 49), (1, .int (nI n3)), (2, .int (nI i))], [.int (-1), .int (nI n3)], gh S a b sc ar lo, ex, 0, 0)) rfl ?_
          refine to_ic_eq_F (t := 48) (x := (nI n3)) (y := (-1)) rfl (nI_neg (by omega) (by decide)) ?_
          refine to_n 1 (fr' := (34, [(0, .ref 49), (1, .int (nI n3)), (2, .int (nI i))], [.ref 49], gh S a b sc ar lo, ex, 0, 0)) rfl ?_
          refine to_get rfl rfl rfl rfl ?_
          refine to_n 1 (fr' := (38, [(0, .ref 49), (1, .int (nI n3)), (2, .int (nI i))], [.int (nI i), .ref 68], gh S a b sc ar lo, ex, 0, 0)) rfl ?_
          refine to_ialR (i := i) (v := ((ar 68) i)) rfl (by decide) rfl (by omega) (by omega) rfl ?_
          refine to_n 1 (fr' := (40, [(0, .ref 49), (1, .int (nI n3)), (2, .int (nI i))], [.ref 49, .int ((ar 68) i)], gh S a b sc ar lo, ex, 0, 0)) rfl ?_
          refine to_get rfl rfl rfl rfl ?_
          refine to_n 1 (fr' := (44, [(0, .ref 49), (1, .int (nI n3)), (2, .int (nI i))], [.int (nI n3), .ref 68, .int ((ar 68) i)], gh S a b sc ar lo, ex, 0, 0)) rfl ?_
          refine to_ialR (i := n3) (v := ((ar 68) n3)) rfl (by decide) rfl (by omega) (by omega) rfl ?_
          refine to_ic_lt (t := 50) rfl (fun q6 => ?_) (fun q6 => ?_)
          · refine to_n 1 (fr' := (53, [(0, .ref 49), (1, .int (nI n3)), (2, .int ((nI i) + 1))], [], gh S a b sc ar lo, ex, 0, 0)) rfl ?_
            rw [nI_1 i]
            refine to_n 1 (fr' := (4, [(0, .ref 49), (1, .int (nI n3)), (2, .int (nI (i + 1)))], [], gh S a b sc ar lo, ex, 0, 0)) rfl ?_
            exact ih (nI n3) (i + 1) (by omega) (rq_n (n := n3) (by omega)) ((fo_no (b := nI n3) (by omega) (fun w => w.2.elim (nI_neg (by omega) (by decide)) (fun v => by rw [nI_clamp (by omega)] at v; exact Int32.not_lt.mpr v q6))).trans hc4_0)
          · refine to_n 3 (fr' := (53, [(0, .ref 49), (1, .int (nI i)), (2, .int ((nI i) + 1))], [], gh S a b sc ar lo, ex, 0, 0)) rfl ?_
            rw [nI_1 i]
            refine to_n 1 (fr' := (4, [(0, .ref 49), (1, .int (nI i)), (2, .int (nI (i + 1)))], [], gh S a b sc ar lo, ex, 0, 0)) rfl ?_
            exact ih (nI i) (i + 1) (by omega) (rq_n (n := i) (by omega)) ((fo_yes (b := nI n3) (by omega) (Int32.not_lt.mp q5) (Or.inr (show (ar 68) (nI n3).toNatClampNeg ≤ (ar 68) i by rw [nI_clamp (by omega)]; exact Int32.not_lt.mp q6))).trans hc4_0)
  refine to_n 4 (fr' := (4, [(0, .ref 49), (1, .int (-1)), (2, .int 0)], [], gh S a b sc ar lo, ex, 0, 0)) rfl ?_
  exact c4 (n - 0) (-1) 0 (by omega) (rq_m) (by unfold foX; rw [en, nI_clamp (by omega), Nat.sub_zero])
set_option maxRecDepth 20000 in
theorem sf_X10_told {X : Nat × (Nat → Int32)} {S a b : Nat} {sc : Nat → Int32} {ar : Nat → Nat → Int32} {lo : Nat → Int64} {ex : Bool} (hW : Wd S a b) (hI : Iv S sc ar) (f0 : Nat) (hf0 : f0 < 4201) (t0 : Nat) (ht0 : t0 < 4201) (k1 : Nat) (hk1 : k1 < 8) (k2 : Nat) (hk2 : k2 < S) (n0 : Nat) (hT : tk (ar 71) n0 f0 t0 0) (d : Nat)  : ci X S a b (d + 3) 137 [.ref 49, .int (nI f0), .int (nI t0), .int (nI k1), .int (nI k2)] sc ar lo ex (fun x sc' ar' => Iv S sc' ar' ∧ Fr [4943] [72] sc ar sc' ar' ∧ True) := by
  obtain ⟨ha1, ha8, hb1, hb8, hab, hS1, hS⟩ := id hW
  refine ci_of (M := an_X10_told) rfl (Nat.le_of_ble_eq_true rfl) ?_
  have hF : Fr [4943] [72] sc ar sc ar := fr_0
  refine to_eq (fr' := (0, [(0, .ref 49), (1, .int (nI f0)), (2, .int (nI t0)), (3, .int (nI k1)), (4, .int (nI k2))], [], gh S a b sc ar lo, ex, 0, 0)) rfl ?_
  have c8 : ∀ m : Nat, ∀ (i : Nat) (top : Nat) (sc1 : Nat → Int32) (ar1 : Nat → Nat → Int32), tk (ar1 71) m i t0 top → sc1 4943 = nI top → top < 151 → i ≤ 4200 → Iv S sc1 ar1 → Fr [4943] [72] sc ar sc1 ar1 → ag_To X (d + 2) an_X10_told (8, [(0, .ref 49), (1, .int (nI f0)), (2, .int (nI t0)), (3, .int (nI k1)), (4, .int (nI k2)), (5, .int (nI i))], [], gh S a b sc1 ar1 lo, ex, 0, 0) (qi S a b lo ex (fun x sc' ar' => Iv S sc' ar' ∧ Fr [4943] [72] sc ar sc' ar' ∧ True)) := by
    intro m
    induction m with
    | zero =>
      intro i top sc1 ar1 hm hc8_0 hc8_1 hc8_2 hI1 hF1
      have hm0 : t0 ≤ i := hm
      refine to_n 2 (fr' := (11, [(0, .ref 49), (1, .int (nI f0)), (2, .int (nI t0)), (3, .int (nI k1)), (4, .int (nI k2)), (5, .int (nI i))], [.int (nI t0), .int (nI i)], gh S a b sc1 ar1 lo, ex, 0, 0)) rfl ?_
      refine to_nc_ge_T (t := 193) (x := i) (y := t0) rfl (by omega) (by omega) (by omega) ?_
      refine to_n 1 (fr' := (194, [(0, .ref 49), (1, .int (nI f0)), (2, .int (nI t0)), (3, .int (nI k1)), (4, .int (nI k2)), (5, .int (nI i))], [.ref 49], gh S a b sc1 ar1 lo, ex, 0, 0)) rfl ?_
      refine to_get rfl rfl rfl rfl ?_
      refine to_n 1 (fr' := (198, [(0, .ref 49), (1, .int (nI f0)), (2, .int (nI t0)), (3, .int (nI k1)), (4, .int (nI k2)), (5, .int (nI i))], [.int 0, .ref 72], gh S a b sc1 ar1 lo, ex, 0, 0)) rfl ?_
      refine to_ialR (i := 0) (v := ((ar1 72) 0)) rfl (by decide) rfl (by omega) (by omega) rfl ?_
      exact to_rt (i := .ireturn) (tg := []) rfl rfl ⟨_, _, _, ⟨hI1, hF1, trivial⟩, rfl⟩
    | succ m ih =>
      intro i top sc1 ar1 hm hc8_0 hc8_1 hc8_2 hI1 hF1
      refine to_n 2 (fr' := (11, [(0, .ref 49), (1, .int (nI f0)), (2, .int (nI t0)), (3, .int (nI k1)), (4, .int (nI k2)), (5, .int (nI i))], [.int (nI t0), .int (nI i)], gh S a b sc1 ar1 lo, ex, 0, 0)) rfl ?_
      refine to_nc_ge (t := 193) (x := i) (y := t0) rfl (by omega) (by omega) (fun q2 => ?_) (fun q2 => ?_)
      · refine to_n 1 (fr' := (194, [(0, .ref 49), (1, .int (nI f0)), (2, .int (nI t0)), (3, .int (nI k1)), (4, .int (nI k2)), (5, .int (nI i))], [.ref 49], gh S a b sc1 ar1 lo, ex, 0, 0)) rfl ?_
        refine to_get rfl rfl rfl rfl ?_
        refine to_n 1 (fr' := (198, [(0, .ref 49), (1, .int (nI f0)), (2, .int (nI t0)), (3, .int (nI k1)), (4, .int (nI k2)), (5, .int (nI i))], [.int 0, .ref 72], gh S a b sc1 ar1 lo, ex, 0, 0)) rfl ?_
        refine to_ialR (i := 0) (v := ((ar1 72) 0)) rfl (by decide) rfl (by omega) (by omega) rfl ?_
        exact to_rt (i := .ireturn) (tg := []) rfl rfl ⟨_, _, _, ⟨hI1, hF1, trivial⟩, rfl⟩
      · have hk := hm (by omega)
        refine to_n 1 (fr' := (15, [(0, .ref 49), (1, .int (nI f0)), (2, .int (nI t0)), (3, .int (nI k1)), (4, .int (nI k2)), (5, .int (nI i))], [.ref 49], gh S a b sc1 ar1 lo, ex, 0, 0)) rfl ?_
        refine to_get rfl rfl rfl rfl ?_
        refine to_n 1 (fr' := (20, [(0, .ref 49), (1, .int (nI f0)), (2, .int (nI t0)), (3, .int (nI k1)), (4, .int (nI k2)), (5, .int (nI i))], [.int (nI i), .ref 71], gh S a b sc1 ar1 lo, ex, 0, 0)) rfl ?_
        refine to_ialR (i := i) (v := ((ar1 71) i)) rfl (by decide) rfl (by omega) (by omega) rfl ?_
        refine to_n 2 (fr' := (25, [(0, .ref 49), (1, .int (nI f0)), (2, .int (nI t0)), (3, .int (nI k1)), (4, .int (nI k2)), (5, .int (nI i)), (6, .int ((ar1 71) i))], [.int ((ar1 71) i)], gh S a b sc1 ar1 lo, ex, 0, 0)) rfl ?_
        refine to_if_ne (t := 60) rfl (fun q3 => ?_) (fun q3 => ?_)
        · refine to_n 2 (fr' := (64, [(0, .ref 49), (1, .int (nI f0)), (2, .int (nI t0)), (3, .int (nI k1)), (4, .int (nI k2)), (5, .int (nI i)), (6, .int ((ar1 71) i))], [.int 20, .int ((ar1 71) i)], gh S a b sc1 ar1 lo, ex, 0, 0)) rfl ?_
          refine to_ic_lt (t := 101) rfl (fun q4 => ?_) (fun q4 => ?_)
          · refine to_n 2 (fr' := (105, [(0, .ref 49), (1, .int (nI f0)), (2, .int (nI t0)), (3, .int (nI k1)), (4, .int (nI k2)), (5, .int (nI i)), (6, .int ((ar1 71) i))], [.int 8, .int ((ar1 71) i)], gh S a b sc1 ar1 lo, ex, 0, 0)) rfl ?_
            refine to_ic_ne (t := 141) rfl (fun q5 => ?_) (fun q5 => ?_)
            · obtain ⟨g1, g3⟩ := hk.2.2.2 q3 (Int32.not_le.mpr q4) q5
              refine to_n 2 (fr' := (143, [(0, .ref 49), (1, .int (nI f0)), (2, .int (nI t0)), (3, .int (nI k1)), (4, .int (nI k2)), (5, .int (nI i)), (6, .int ((ar1 71) i))], [.ref 49, .ref 49], gh S a b sc1 ar1 lo, ex, 0, 0)) rfl ?_
              refine to_getR (v := (nI top)) rfl rfl rfl rfl hc8_0 ?_
              refine to_n 1 (fr' := (147, [(0, .ref 49), (1, .int (nI f0)), (2, .int (nI t0)), (3, .int (nI k1)), (4, .int (nI k2)), (5, .int (nI i)), (6, .int ((ar1 71) i))], [.int 1, .int (nI top), .ref 49], gh S a b sc1 ar1 lo, ex, 0, 0)) rfl ?_
              refine to_subN (x := top) (y := 1) rfl (by omega) ?_
              refine to_putR (h' := gh S a b (upd sc1 4943 (nI (top - 1))) ar1 lo) rfl rfl rfl (Nat.le_of_ble_eq_true rfl) rfl rfl ?_
              have hI6 := ip_4943 (v := (nI (top - 1))) hI1 (rl_n (n := (top - 1)) (by omega))
              have hF6 := fr_s (k := 4943) (v := (nI (top - 1))) hF1 (by decide)
              refine to_n 1 (fr' := (152, [(0, .ref 49), (1, .int (nI f0)), (2, .int (nI t0)), (3, .int (nI k1)), (4, .int (nI k2)), (5, .int (nI i)), (6, .int ((ar1 71) i))], [.ref 49], gh S a b (upd sc1 4943 (nI (top - 1))) ar1 lo, ex, 0, 0)) rfl ?_
              refine to_get rfl rfl rfl rfl ?_
              refine to_n 1 (fr' := (156, [(0, .ref 49), (1, .int (nI f0)), (2, .int (nI t0)), (3, .int (nI k1)), (4, .int (nI k2)), (5, .int (nI i)), (6, .int ((ar1 71) i))], [.ref 49, .ref 72], gh S a b (upd sc1 4943 (nI (top - 1))) ar1 lo, ex, 0, 0)) rfl ?_
              refine to_getR (v := (nI (top - 1))) rfl rfl rfl rfl rfl ?_
              refine to_n 1 (fr' := (160, [(0, .ref 49), (1, .int (nI f0)), (2, .int (nI t0)), (3, .int (nI k1)), (4, .int (nI k2)), (5, .int (nI i)), (6, .int ((ar1 71) i))], [.int 1, .int (nI (top - 1)), .ref 72], gh S a b (upd sc1 4943 (nI (top - 1))) ar1 lo, ex, 0, 0)) rfl ?_
              refine to_subN (x := (top - 1)) (y := 1) rfl (by omega) ?_
              refine to_n 2 (fr' := (164, [(0, .ref 49), (1, .int (nI f0)), (2, .int (nI t0)), (3, .int (nI k1)), (4, .int (nI k2)), (5, .int (nI i)), (6, .int ((ar1 71) i))], [.ref 49, .int ((ar1 71) i), .int (nI ((top - 1) - 1)), .ref 72], gh S a b (upd sc1 4943 (nI (top - 1))) ar1 lo, ex, 0, 0)) rfl ?_
              refine to_get rfl rfl rfl rfl ?_
              refine to_n 1 (fr' := (168, [(0, .ref 49), (1, .int (nI f0)), (2, .int (nI t0)), (3, .int (nI k1)), (4, .int (nI k2)), (5, .int (nI i)), (6, .int ((ar1 71) i))], [.ref 49, .ref 72, .int ((ar1 71) i), .int (nI ((top - 1) - 1)), .ref 72], gh S a b (upd sc1 4943 (nI (top - 1))) ar1 lo, ex, 0, 0)) rfl ?_
              refine to_getR (v := (nI (top - 1))) rfl rfl rfl rfl rfl ?_
              refine to_n 1 (fr' := (172, [(0, .ref 49), (1, .int (nI f0)), (2, .int (nI t0)), (3, .int (nI k1)), (4, .int (nI k2)), (5, .int (nI i)), (6, .int ((ar1 71) i))], [.int 1, .int (nI (top - 1)), .ref 72, .int ((ar1 71) i), .int (nI ((top - 1) - 1)), .ref 72], gh S a b (upd sc1 4943 (nI (top - 1))) ar1 lo, ex, 0, 0)) rfl ?_
              refine to_subN (x := (top - 1)) (y := 1) rfl (by omega) ?_
              refine to_ialR (i := ((top - 1) - 1)) (v := ((ar1 72) ((top - 1) - 1))) rfl (by decide) rfl (by omega) (by omega) rfl ?_
              refine to_n 1 (fr' := (175, [(0, .ref 49), (1, .int (nI f0)), (2, .int (nI t0)), (3, .int (nI k1)), (4, .int (nI k2)), (5, .int (nI i)), (6, .int ((ar1 71) i))], [.ref 49, .int ((ar1 72) ((top - 1) - 1)), .int ((ar1 71) i), .int (nI ((top - 1) - 1)), .ref 72], gh S a b (upd sc1 4943 (nI (top - 1))) ar1 lo, ex, 0, 0)) rfl ?_
              refine to_get rfl rfl rfl rfl ?_
              refine to_n 1 (fr' := (179, [(0, .ref 49), (1, .int (nI f0)), (2, .int (nI t0)), (3, .int (nI k1)), (4, .int (nI k2)), (5, .int (nI i)), (6, .int ((ar1 71) i))], [.ref 49, .ref 72, .int ((ar1 72) ((top - 1) - 1)), .int ((ar1 71) i), .int (nI ((top - 1) - 1)), .ref 72], gh S a b (upd sc1 4943 (nI (top - 1))) ar1 lo, ex, 0, 0)) rfl ?_
              refine to_getR (v := (nI (top - 1))) rfl rfl rfl rfl rfl ?_
              refine to_ialR (i := (top - 1)) (v := ((ar1 72) (top - 1))) rfl (by decide) rfl (by omega) (by omega) rfl ?_
              refine to_cp (q := 136) (M1 := an_X10_two) (rest := [.int (nI ((top - 1) - 1)), .ref 72]) rfl rfl (by decide) rfl trivial (sf_X10_two hW hI6 ((ar1 71) i) ((ar1 72) ((top - 1) - 1)) ((ar1 72) (top - 1)) (d + 1)) (fun x7 hx7 => ?_)
              refine to_eq (fr' := (186, [(0, .ref 49), (1, .int (nI f0)), (2, .int (nI t0)), (3, .int (nI k1)), (4, .int (nI k2)), (5, .int (nI i)), (6, .int ((ar1 71) i))], [.int x7, .int (nI ((top - 1) - 1)), .ref 72], gh S a b (upd sc1 4943 (nI (top - 1))) ar1 lo, ex, 0, 0)) rfl ?_
              refine to_iasR (i := ((top - 1) - 1)) (h' := gh S a b (upd sc1 4943 (nI (top - 1))) (uA ar1 72 (upd (ar1 72) ((top - 1) - 1) x7)) lo) rfl rfl (by omega) (by omega) rfl ?_
              have hI8 := ia_72 (g := (upd (ar1 72) ((top - 1) - 1) x7)) hI6
              have hF8 := fr_a (c := 72) (g := (upd (ar1 72) ((top - 1) - 1) x7)) hF6 (by decide)
              refine to_n 1 (fr' := (190, [(0, .ref 49), (1, .int (nI f0)), (2, .int (nI t0)), (3, .int (nI k1)), (4, .int (nI k2)), (5, .int ((nI i) + 1)), (6, .int ((ar1 71) i))], [], gh S a b (upd sc1 4943 (nI (top - 1))) (uA ar1 72 (upd (ar1 72) ((top - 1) - 1) x7)) lo, ex, 0, 0)) rfl ?_
              rw [nI_1 i]
              refine to_n 1 (fr' := (8, [(0, .ref 49), (1, .int (nI f0)), (2, .int (nI t0)), (3, .int (nI k1)), (4, .int (nI k2)), (5, .int (nI (i + 1))), (6, .int ((ar1 71) i))], [], gh S a b (upd sc1 4943 (nI (top - 1))) (uA ar1 72 (upd (ar1 72) ((top - 1) - 1) x7)) lo, ex, 0, 0)) rfl ?_
              refine to_lv (lv := [(0, .ref 49), (1, .int (nI f0)), (2, .int (nI t0)), (3, .int (nI k1)), (4, .int (nI k2)), (5, .int (nI (i + 1)))]) rfl ⟨rfl, rfl, rfl, rfl, rfl, rfl, trivial⟩ ?_
              exact ih (i + 1) (top - 1) (upd sc1 4943 (nI (top - 1))) (uA ar1 72 (upd (ar1 72) ((top - 1) - 1) x7)) g3 (rfl) (by omega) (by omega) hI8 hF8
            · obtain ⟨g1, g3⟩ := hk.2.2.1 q3 (Int32.not_le.mpr q4) q5
              refine to_n 1 (fr' := (109, [(0, .ref 49), (1, .int (nI f0)), (2, .int (nI t0)), (3, .int (nI k1)), (4, .int (nI k2)), (5, .int (nI i)), (6, .int ((ar1 71) i))], [.ref 49], gh S a b sc1 ar1 lo, ex, 0, 0)) rfl ?_
              refine to_get rfl rfl rfl rfl ?_
              refine to_n 1 (fr' := (113, [(0, .ref 49), (1, .int (nI f0)), (2, .int (nI t0)), (3, .int (nI k1)), (4, .int (nI k2)), (5, .int (nI i)), (6, .int ((ar1 71) i))], [.ref 49, .ref 72], gh S a b sc1 ar1 lo, ex, 0, 0)) rfl ?_
              refine to_getR (v := (nI top)) rfl rfl rfl rfl hc8_0 ?_
              refine to_n 1 (fr' := (117, [(0, .ref 49), (1, .int (nI f0)), (2, .int (nI t0)), (3, .int (nI k1)), (4, .int (nI k2)), (5, .int (nI i)), (6, .int ((ar1 71) i))], [.int 1, .int (nI top), .ref 72], gh S a b sc1 ar1 lo, ex, 0, 0)) rfl ?_
              refine to_subN (x := top) (y := 1) rfl (by omega) ?_
              refine to_n 1 (fr' := (119, [(0, .ref 49), (1, .int (nI f0)), (2, .int (nI t0)), (3, .int (nI k1)), (4, .int (nI k2)), (5, .int (nI i)), (6, .int ((ar1 71) i))], [.ref 49, .int (nI (top - 1)), .ref 72], gh S a b sc1 ar1 lo, ex, 0, 0)) rfl ?_
              refine to_get rfl rfl rfl rfl ?_
              refine to_n 1 (fr' := (123, [(0, .ref 49), (1, .int (nI f0)), (2, .int (nI t0)), (3, .int (nI k1)), (4, .int (nI k2)), (5, .int (nI i)), (6, .int ((ar1 71) i))], [.ref 49, .ref 72, .int (nI (top - 1)), .ref 72], gh S a b sc1 ar1 lo, ex, 0, 0)) rfl ?_
              refine to_getR (v := (nI top)) rfl rfl rfl rfl hc8_0 ?_
              refine to_n 1 (fr' := (127, [(0, .ref 49), (1, .int (nI f0)), (2, .int (nI t0)), (3, .int (nI k1)), (4, .int (nI k2)), (5, .int (nI i)), (6, .int ((ar1 71) i))], [.int 1, .int (nI top), .ref 72, .int (nI (top - 1)), .ref 72], gh S a b sc1 ar1 lo, ex, 0, 0)) rfl ?_
              refine to_subN (x := top) (y := 1) rfl (by omega) ?_
              refine to_ialR (i := (top - 1)) (v := ((ar1 72) (top - 1))) rfl (by decide) rfl (by omega) (by omega) rfl ?_
              refine to_if_ne (t := 136) rfl (fun q9 => ?_) (fun q9 => ?_)
              · refine to_n 1 (fr' := (137, [(0, .ref 49), (1, .int (nI f0)), (2, .int (nI t0)), (3, .int (nI k1)), (4, .int (nI k2)), (5, .int (nI i)), (6, .int ((ar1 71) i))], [.int 0, .int (nI (top - 1)), .ref 72], gh S a b sc1 ar1 lo, ex, 0, 0)) rfl ?_
                refine to_iasR (i := (top - 1)) (h' := gh S a b sc1 (uA ar1 72 (upd (ar1 72) (top - 1) 0)) lo) rfl rfl (by omega) (by omega) rfl ?_
                have hI10 := ia_72 (g := (upd (ar1 72) (top - 1) 0)) hI1
                have hF10 := fr_a (c := 72) (g := (upd (ar1 72) (top - 1) 0)) hF1 (by decide)
                refine to_n 2 (fr' := (190, [(0, .ref 49), (1, .int (nI f0)), (2, .int (nI t0)), (3, .int (nI k1)), (4, .int (nI k2)), (5, .int ((nI i) + 1)), (6, .int ((ar1 71) i))], [], gh S a b sc1 (uA ar1 72 (upd (ar1 72) (top - 1) 0)) lo, ex, 0, 0)) rfl ?_
                rw [nI_1 i]
                refine to_n 1 (fr' := (8, [(0, .ref 49), (1, .int (nI f0)), (2, .int (nI t0)), (3, .int (nI k1)), (4, .int (nI k2)), (5, .int (nI (i + 1))), (6, .int ((ar1 71) i))], [], gh S a b sc1 (uA ar1 72 (upd (ar1 72) (top - 1) 0)) lo, ex, 0, 0)) rfl ?_
                refine to_lv (lv := [(0, .ref 49), (1, .int (nI f0)), (2, .int (nI t0)), (3, .int (nI k1)), (4, .int (nI k2)), (5, .int (nI (i + 1)))]) rfl ⟨rfl, rfl, rfl, rfl, rfl, rfl, trivial⟩ ?_
                exact ih (i + 1) top sc1 (uA ar1 72 (upd (ar1 72) (top - 1) 0)) g3 (hc8_0) (by omega) (by omega) hI10 hF10
              · refine to_n 2 (fr' := (137, [(0, .ref 49), (1, .int (nI f0)), (2, .int (nI t0)), (3, .int (nI k1)), (4, .int (nI k2)), (5, .int (nI i)), (6, .int ((ar1 71) i))], [.int 1, .int (nI (top - 1)), .ref 72], gh S a b sc1 ar1 lo, ex, 0, 0)) rfl ?_
                refine to_iasR (i := (top - 1)) (h' := gh S a b sc1 (uA ar1 72 (upd (ar1 72) (top - 1) 1)) lo) rfl rfl (by omega) (by omega) rfl ?_
                have hI11 := ia_72 (g := (upd (ar1 72) (top - 1) 1)) hI1
                have hF11 := fr_a (c := 72) (g := (upd (ar1 72) (top - 1) 1)) hF1 (by decide)
                refine to_n 2 (fr' := (190, [(0, .ref 49), (1, .int (nI f0)), (2, .int (nI t0)), (3, .int (nI k1)), (4, .int (nI k2)), (5, .int ((nI i) + 1)), (6, .int ((ar1 71) i))], [], gh S a b sc1 (uA ar1 72 (upd (ar1 72) (top - 1) 1)) lo, ex, 0, 0)) rfl ?_
                rw [nI_1 i]
                refine to_n 1 (fr' := (8, [(0, .ref 49), (1, .int (nI f0)), (2, .int (nI t0)), (3, .int (nI k1)), (4, .int (nI k2)), (5, .int (nI (i + 1))), (6, .int ((ar1 71) i))], [], gh S a b sc1 (uA ar1 72 (upd (ar1 72) (top - 1) 1)) lo, ex, 0, 0)) rfl ?_
                refine to_lv (lv := [(0, .ref 49), (1, .int (nI f0)), (2, .int (nI t0)), (3, .int (nI k1)), (4, .int (nI k2)), (5, .int (nI (i + 1)))]) rfl ⟨rfl, rfl, rfl, rfl, rfl, rfl, trivial⟩ ?_
                exact ih (i + 1) top sc1 (uA ar1 72 (upd (ar1 72) (top - 1) 1)) g3 (hc8_0) (by omega) (by omega) hI11 hF11
          · obtain ⟨g1, g3⟩ := hk.2.1 q3 (Int32.not_lt.mp q4)
            refine to_n 1 (fr' := (68, [(0, .ref 49), (1, .int (nI f0)), (2, .int (nI t0)), (3, .int (nI k1)), (4, .int (nI k2)), (5, .int (nI i)), (6, .int ((ar1 71) i))], [.ref 49], gh S a b sc1 ar1 lo, ex, 0, 0)) rfl ?_
            refine to_get rfl rfl rfl rfl ?_
            refine to_n 1 (fr' := (72, [(0, .ref 49), (1, .int (nI f0)), (2, .int (nI t0)), (3, .int (nI k1)), (4, .int (nI k2)), (5, .int (nI i)), (6, .int ((ar1 71) i))], [.ref 49, .ref 72], gh S a b sc1 ar1 lo, ex, 0, 0)) rfl ?_
            refine to_getR (v := (nI top)) rfl rfl rfl rfl hc8_0 ?_
            refine to_n 6 (fr' := (84, [(0, .ref 49), (1, .int (nI f0)), (2, .int (nI t0)), (3, .int (nI k1)), (4, .int (nI k2)), (5, .int (nI i)), (6, .int ((ar1 71) i))], [.int (nI k2), .int (nI k1), .int (((ar1 71) i) - 20), .ref 49, .int (nI top), .ref 72], gh S a b sc1 ar1 lo, ex, 0, 0)) rfl ?_
            refine to_cp (q := 135) (M1 := an_X10_value) (rest := [.int (nI top), .ref 72]) rfl rfl (by decide) rfl ⟨_, rfl⟩ (sf_X10_value hW hI1 (((ar1 71) i) - 20) k1 (by omega) k2 (by omega) d) (fun x12 hx12 => ?_)
            refine to_eq (fr' := (87, [(0, .ref 49), (1, .int (nI f0)), (2, .int (nI t0)), (3, .int (nI k1)), (4, .int (nI k2)), (5, .int (nI i)), (6, .int ((ar1 71) i))], [.int x12, .int (nI top), .ref 72], gh S a b sc1 ar1 lo, ex, 0, 0)) rfl ?_
            refine to_iasR (i := top) (h' := gh S a b sc1 (uA ar1 72 (upd (ar1 72) top x12)) lo) rfl rfl (by omega) (by omega) rfl ?_
            have hI13 := ia_72 (g := (upd (ar1 72) top x12)) hI1
            have hF13 := fr_a (c := 72) (g := (upd (ar1 72) top x12)) hF1 (by decide)
            refine to_n 2 (fr' := (90, [(0, .ref 49), (1, .int (nI f0)), (2, .int (nI t0)), (3, .int (nI k1)), (4, .int (nI k2)), (5, .int (nI i)), (6, .int ((ar1 71) i))], [.ref 49, .ref 49], gh S a b sc1 (uA ar1 72 (upd (ar1 72) top x12)) lo, ex, 0, 0)) rfl ?_
            refine to_getR (v := (nI top)) rfl rfl rfl rfl hc8_0 ?_
            refine to_n 1 (fr' := (94, [(0, .ref 49), (1, .int (nI f0)), (2, .int (nI t0)), (3, .int (nI k1)), (4, .int (nI k2)), (5, .int (nI i)), (6, .int ((ar1 71) i))], [.int 1, .int (nI top), .ref 49], gh S a b sc1 (uA ar1 72 (upd (ar1 72) top x12)) lo, ex, 0, 0)) rfl ?_
            refine to_addN (x := top) (y := 1) rfl ?_
            refine to_putR (h' := gh S a b (upd sc1 4943 (nI (top + 1))) (uA ar1 72 (upd (ar1 72) top x12)) lo) rfl rfl rfl (Nat.le_of_ble_eq_true rfl) rfl rfl ?_
            have hI14 := ip_4943 (v := (nI (top + 1))) hI13 (rl_n (n := (top + 1)) (by omega))
            have hF14 := fr_s (k := 4943) (v := (nI (top + 1))) hF13 (by decide)
            refine to_n 2 (fr' := (190, [(0, .ref 49), (1, .int (nI f0)), (2, .int (nI t0)), (3, .int (nI k1)), (4, .int (nI k2)), (5, .int ((nI i) + 1)), (6, .int ((ar1 71) i))], [], gh S a b (upd sc1 4943 (nI (top + 1))) (uA ar1 72 (upd (ar1 72) top x12)) lo, ex, 0, 0)) rfl ?_
            rw [nI_1 i]
            refine to_n 1 (fr' := (8, [(0, .ref 49), (1, .int (nI f0)), (2, .int (nI t0)), (3, .int (nI k1)), (4, .int (nI k2)), (5, .int (nI (i + 1))), (6, .int ((ar1 71) i))], [], gh S a b (upd sc1 4943 (nI (top + 1))) (uA ar1 72 (upd (ar1 72) top x12)) lo, ex, 0, 0)) rfl ?_
            refine to_lv (lv := [(0, .ref 49), (1, .int (nI f0)), (2, .int (nI t0)), (3, .int (nI k1)), (4, .int (nI k2)), (5, .int (nI (i + 1)))]) rfl ⟨rfl, rfl, rfl, rfl, rfl, rfl, trivial⟩ ?_
            exact ih (i + 1) (top + 1) (upd sc1 4943 (nI (top + 1))) (uA ar1 72 (upd (ar1 72) top x12)) g3 (rfl) (by omega) (by omega) hI14 hF14
        · obtain ⟨g1, g2, g3⟩ := hk.1 q3
          refine to_n 1 (fr' := (31, [(0, .ref 49), (1, .int (nI f0)), (2, .int (nI t0)), (3, .int (nI k1)), (4, .int (nI k2)), (5, .int ((nI i) + 1)), (6, .int ((ar1 71) i))], [], gh S a b sc1 ar1 lo, ex, 0, 0)) rfl ?_
          rw [nI_1 i]
          refine to_n 1 (fr' := (32, [(0, .ref 49), (1, .int (nI f0)), (2, .int (nI t0)), (3, .int (nI k1)), (4, .int (nI k2)), (5, .int (nI (i + 1))), (6, .int ((ar1 71) i))], [.ref 49], gh S a b sc1 ar1 lo, ex, 0, 0)) rfl ?_
          refine to_get rfl rfl rfl rfl ?_
          refine to_n 1 (fr' := (36, [(0, .ref 49), (1, .int (nI f0)), (2, .int (nI t0)), (3, .int (nI k1)), (4, .int (nI k2)), (5, .int (nI (i + 1))), (6, .int ((ar1 71) i))], [.ref 49, .ref 72], gh S a b sc1 ar1 lo, ex, 0, 0)) rfl ?_
          refine to_getR (v := (nI top)) rfl rfl rfl rfl hc8_0 ?_
          refine to_n 1 (fr' := (40, [(0, .ref 49), (1, .int (nI f0)), (2, .int (nI t0)), (3, .int (nI k1)), (4, .int (nI k2)), (5, .int (nI (i + 1))), (6, .int ((ar1 71) i))], [.ref 49, .int (nI top), .ref 72], gh S a b sc1 ar1 lo, ex, 0, 0)) rfl ?_
          refine to_get rfl rfl rfl rfl ?_
          refine to_n 1 (fr' := (45, [(0, .ref 49), (1, .int (nI f0)), (2, .int (nI t0)), (3, .int (nI k1)), (4, .int (nI k2)), (5, .int (nI (i + 1))), (6, .int ((ar1 71) i))], [.int (nI (i + 1)), .ref 71, .int (nI top), .ref 72], gh S a b sc1 ar1 lo, ex, 0, 0)) rfl ?_
          refine to_ialR (i := (i + 1)) (v := ((ar1 71) (i + 1))) rfl (by decide) rfl (by omega) (by omega) rfl ?_
          refine to_iasR (i := top) (h' := gh S a b sc1 (uA ar1 72 (upd (ar1 72) top ((ar1 71) (i + 1)))) lo) rfl rfl (by omega) (by omega) rfl ?_
          have hI15 := ia_72 (g := (upd (ar1 72) top ((ar1 71) (i + 1)))) hI1
          have hF15 := fr_a (c := 72) (g := (upd (ar1 72) top ((ar1 71) (i + 1)))) hF1 (by decide)
          refine to_n 2 (fr' := (49, [(0, .ref 49), (1, .int (nI f0)), (2, .int (nI t0)), (3, .int (nI k1)), (4, .int (nI k2)), (5, .int (nI (i + 1))), (6, .int ((ar1 71) i))], [.ref 49, .ref 49], gh S a b sc1 (uA ar1 72 (upd (ar1 72) top ((ar1 71) (i + 1)))) lo, ex, 0, 0)) rfl ?_
          refine to_getR (v := (nI top)) rfl rfl rfl rfl hc8_0 ?_
          refine to_n 1 (fr' := (53, [(0, .ref 49), (1, .int (nI f0)), (2, .int (nI t0)), (3, .int (nI k1)), (4, .int (nI k2)), (5, .int (nI (i + 1))), (6, .int ((ar1 71) i))], [.int 1, .int (nI top), .ref 49], gh S a b sc1 (uA ar1 72 (upd (ar1 72) top ((ar1 71) (i + 1)))) lo, ex, 0, 0)) rfl ?_
          refine to_addN (x := top) (y := 1) rfl ?_
          refine to_putR (h' := gh S a b (upd sc1 4943 (nI (top + 1))) (uA ar1 72 (upd (ar1 72) top ((ar1 71) (i + 1)))) lo) rfl rfl rfl (Nat.le_of_ble_eq_true rfl) rfl rfl ?_
          have hI16 := ip_4943 (v := (nI (top + 1))) hI15 (rl_n (n := (top + 1)) (by omega))
          have hF16 := fr_s (k := 4943) (v := (nI (top + 1))) hF15 (by decide)
          refine to_n 2 (fr' := (190, [(0, .ref 49), (1, .int (nI f0)), (2, .int (nI t0)), (3, .int (nI k1)), (4, .int (nI k2)), (5, .int ((nI (i + 1)) + 1)), (6, .int ((ar1 71) i))], [], gh S a b (upd sc1 4943 (nI (top + 1))) (uA ar1 72 (upd (ar1 72) top ((ar1 71) (i + 1)))) lo, ex, 0, 0)) rfl ?_
          rw [nI_1 (i + 1)]
          refine to_n 1 (fr' := (8, [(0, .ref 49), (1, .int (nI f0)), (2, .int (nI t0)), (3, .int (nI k1)), (4, .int (nI k2)), (5, .int (nI ((i + 1) + 1))), (6, .int ((ar1 71) i))], [], gh S a b (upd sc1 4943 (nI (top + 1))) (uA ar1 72 (upd (ar1 72) top ((ar1 71) (i + 1)))) lo, ex, 0, 0)) rfl ?_
          refine to_lv (lv := [(0, .ref 49), (1, .int (nI f0)), (2, .int (nI t0)), (3, .int (nI k1)), (4, .int (nI k2)), (5, .int (nI ((i + 1) + 1)))]) rfl ⟨rfl, rfl, rfl, rfl, rfl, rfl, trivial⟩ ?_
          exact ih ((i + 1) + 1) (top + 1) (upd sc1 4943 (nI (top + 1))) (uA ar1 72 (upd (ar1 72) top ((ar1 71) (i + 1)))) g3 (rfl) (by omega) (by omega) hI16 hF16
  refine to_n 2 (fr' := (2, [(0, .ref 49), (1, .int (nI f0)), (2, .int (nI t0)), (3, .int (nI k1)), (4, .int (nI k2))], [.int 0, .ref 49], gh S a b sc ar lo, ex, 0, 0)) rfl ?_
  refine to_putR (h' := gh S a b (upd sc 4943 0) ar lo) rfl rfl rfl (Nat.le_of_ble_eq_true rfl) rfl rfl ?_
  have hI17 := ip_4943 (v := 0) hI (rl_n (n := 0) (by omega))
  have hF17 := fr_s (k := 4943) (v := 0) hF (by decide)
  refine to_n 2 (fr' := (8, [(0, .ref 49), (1, .int (nI f0)), (2, .int (nI t0)), (3, .int (nI k1)), (4, .int (nI k2)), (5, .int (nI f0))], [], gh S a b (upd sc 4943 0) ar lo, ex, 0, 0)) rfl ?_
  exact c8 n0 f0 0 (upd sc 4943 0) ar hT (rfl) (by omega) (by omega) hI17 hF17
set_option maxRecDepth 20000 in
theorem sf_X10_ruled {X : Nat × (Nat → Int32)} {S a b : Nat} {sc : Nat → Int32} {ar : Nat → Nat → Int32} {lo : Nat → Int64} {ex : Bool} (hW : Wd S a b) (hI : Iv S sc ar) (x1 : Int32) (k1 : Nat) (hk1 : k1 < 8) (k2 : Nat) (hk2 : k2 < S) (hL : Lw sc ar) (hne : ¬ foX sc ar = -1) (d : Nat)  : ci X S a b (d + 4) 138 [.ref 49, .int x1, .int (nI k1), .int (nI k2)] sc ar lo ex (fun x sc' ar' => Iv S sc' ar' ∧ Fr [4943] [72] sc ar sc' ar' ∧ True) := by
  obtain ⟨ha1, ha8, hb1, hb8, hab, hS1, hS⟩ := id hW
  obtain ⟨n, hn, en⟩ := iv_s4907 hI
  refine ci_of (M := an_X10_ruled) rfl (Nat.le_of_ble_eq_true rfl) ?_
  have hF : Fr [4943] [72] sc ar sc ar := fr_0
  refine to_eq (fr' := (0, [(0, .ref 49), (1, .int x1), (2, .int (nI k1)), (3, .int (nI k2))], [], gh S a b sc ar lo, ex, 0, 0)) rfl ?_
  have c12 : ∀ m : Nat, ∀ (l : Nat) (y : Int32) (r : Nat) (sc1 : Nat → Int32) (ar1 : Nat → Nat → Int32), 13 ≤ r + m → sc1 4907 = nI n → l < n → r ≤ 13 → Iv S sc1 ar1 → Fr [4943] [72] sc ar sc1 ar1 → ag_To X (d + 3) an_X10_ruled (12, [(0, .ref 49), (1, .int x1), (2, .int (nI k1)), (3, .int (nI k2)), (4, .int (nI l)), (5, .int y), (6, .int (nI r))], [], gh S a b sc1 ar1 lo, ex, 0, 0) (qi S a b lo ex (fun x sc' ar' => Iv S sc' ar' ∧ Fr [4943] [72] sc ar sc' ar' ∧ True)) := by
    intro m
    induction m with
    | zero =>
      intro l y r sc1 ar1 hm hc12_0 hc12_1 hc12_2 hI1 hF1
      refine to_n 2 (fr' := (15, [(0, .ref 49), (1, .int x1), (2, .int (nI k1)), (3, .int (nI k2)), (4, .int (nI l)), (5, .int y), (6, .int (nI r))], [.ref 49, .int (nI r)], gh S a b sc1 ar1 lo, ex, 0, 0)) rfl ?_
      refine to_get rfl rfl rfl rfl ?_
      refine to_n 1 (fr' := (20, [(0, .ref 49), (1, .int x1), (2, .int (nI k1)), (3, .int (nI k2)), (4, .int (nI l)), (5, .int y), (6, .int (nI r))], [.int (nI l), .ref 69, .int (nI r)], gh S a b sc1 ar1 lo, ex, 0, 0)) rfl ?_
      obtain ⟨n2, hn2, e2⟩ := iv_a69 hI1 l
      refine to_ialR (i := l) (v := (nI n2)) rfl (by decide) rfl (by omega) (by omega) e2 ?_
      refine to_nc_ge_T (t := 123) (x := r) (y := n2) rfl (by omega) (by omega) (by omega) ?_
      refine to_n 1 (fr' := (125, [(0, .ref 49), (1, .int x1), (2, .int (nI k1)), (3, .int (nI k2)), (4, .int (nI l)), (5, .int y), (6, .int (nI r))], [.int y], gh S a b sc1 ar1 lo, ex, 0, 0)) rfl ?_
      exact to_rt (i := .ireturn) (tg := []) rfl rfl ⟨_, _, _, ⟨hI1, hF1, trivial⟩, rfl⟩
    | succ m ih =>
      intro l y r sc1 ar1 hm hc12_0 hc12_1 hc12_2 hI1 hF1
      refine to_n 2 (fr' := (15, [(0, .ref 49), (1, .int x1), (2, .int (nI k1)), (3, .int (nI k2)), (4, .int (nI l)), (5, .int y), (6, .int (nI r))], [.ref 49, .int (nI r)], gh S a b sc1 ar1 lo, ex, 0, 0)) rfl ?_
      refine to_get rfl rfl rfl rfl ?_
      refine to_n 1 (fr' := (20, [(0, .ref 49), (1, .int x1), (2, .int (nI k1)), (3, .int (nI k2)), (4, .int (nI l)), (5, .int y), (6, .int (nI r))], [.int (nI l), .ref 69, .int (nI r)], gh S a b sc1 ar1 lo, ex, 0, 0)) rfl ?_
      obtain ⟨n3, hn3, e3⟩ := iv_a69 hI1 l
      refine to_ialR (i := l) (v := (nI n3)) rfl (by decide) rfl (by omega) (by omega) e3 ?_
      refine to_nc_ge (t := 123) (x := r) (y := n3) rfl (by omega) (by omega) (fun q4 => ?_) (fun q4 => ?_)
      · refine to_n 1 (fr' := (125, [(0, .ref 49), (1, .int x1), (2, .int (nI k1)), (3, .int (nI k2)), (4, .int (nI l)), (5, .int y), (6, .int (nI r))], [.int y], gh S a b sc1 ar1 lo, ex, 0, 0)) rfl ?_
        exact to_rt (i := .ireturn) (tg := []) rfl rfl ⟨_, _, _, ⟨hI1, hF1, trivial⟩, rfl⟩
      · refine to_n 1 (fr' := (25, [(0, .ref 49), (1, .int x1), (2, .int (nI k1)), (3, .int (nI k2)), (4, .int (nI l)), (5, .int y), (6, .int (nI r))], [.ref 49], gh S a b sc1 ar1 lo, ex, 0, 0)) rfl ?_
        refine to_get rfl rfl rfl rfl ?_
        refine to_n 2 (fr' := (32, [(0, .ref 49), (1, .int x1), (2, .int (nI k1)), (3, .int (nI k2)), (4, .int (nI l)), (5, .int y), (6, .int (nI r))], [.int (nI l), .int 12, .ref 73], gh S a b sc1 ar1 lo, ex, 0, 0)) rfl ?_
        refine to_mulN (x := 12) (y := l) rfl ?_
        refine to_n 1 (fr' := (35, [(0, .ref 49), (1, .int x1), (2, .int (nI k1)), (3, .int (nI k2)), (4, .int (nI l)), (5, .int y), (6, .int (nI r))], [.int (nI r), .int (nI (12 * l)), .ref 73], gh S a b sc1 ar1 lo, ex, 0, 0)) rfl ?_
        refine to_addN (x := (12 * l)) (y := r) rfl ?_
        refine to_zalR (i := ((12 * l) + r)) (v := ((ar1 73) ((12 * l) + r))) rfl rfl (by omega) (by omega) rfl ?_
        refine to_n 1 (fr' := (38, [(0, .ref 49), (1, .int x1), (2, .int (nI k1)), (3, .int (nI k2)), (4, .int (nI l)), (5, .int y), (6, .int (nI r))], [.int x1, .int ((ar1 73) ((12 * l) + r))], gh S a b sc1 ar1 lo, ex, 0, 0)) rfl ?_
        refine to_ic_eq (t := 44) rfl (fun q5 => ?_) (fun q5 => ?_)
        · refine to_n 2 (fr' := (48, [(0, .ref 49), (1, .int x1), (2, .int (nI k1)), (3, .int (nI k2)), (4, .int (nI l)), (5, .int y), (6, .int (nI r))], [.int (nI l), .int 13], gh S a b sc1 ar1 lo, ex, 0, 0)) rfl ?_
          refine to_mulN (x := 13) (y := l) rfl ?_
          refine to_n 1 (fr' := (51, [(0, .ref 49), (1, .int x1), (2, .int (nI k1)), (3, .int (nI k2)), (4, .int (nI l)), (5, .int y), (6, .int (nI r))], [.int (nI r), .int (nI (13 * l))], gh S a b sc1 ar1 lo, ex, 0, 0)) rfl ?_
          refine to_addN (x := (13 * l)) (y := r) rfl ?_
          refine to_n 4 (fr' := (60, [(0, .ref 49), (1, .int x1), (2, .int (nI k1)), (3, .int (nI k2)), (4, .int (nI l)), (5, .int y), (6, .int (nI r)), (7, .int (nI ((13 * l) + r)))], [.int (nI l), .int 700, .ref 49], gh S a b sc1 ar1 lo, ex, 0, 0)) rfl ?_
          refine to_mulN (x := 700) (y := l) rfl ?_
          refine to_n 1 (fr' := (62, [(0, .ref 49), (1, .int x1), (2, .int (nI k1)), (3, .int (nI k2)), (4, .int (nI l)), (5, .int y), (6, .int (nI r)), (7, .int (nI ((13 * l) + r)))], [.ref 49, .int (nI (700 * l)), .ref 49], gh S a b sc1 ar1 lo, ex, 0, 0)) rfl ?_
          refine to_get rfl rfl rfl rfl ?_
          refine to_n 1 (fr' := (67, [(0, .ref 49), (1, .int x1), (2, .int (nI k1)), (3, .int (nI k2)), (4, .int (nI l)), (5, .int y), (6, .int (nI r)), (7, .int (nI ((13 * l) + r)))], [.int (nI ((13 * l) + r)), .ref 70, .int (nI (700 * l)), .ref 49], gh S a b sc1 ar1 lo, ex, 0, 0)) rfl ?_
          obtain ⟨n6, hn6, e6⟩ := iv_a70 hI1 ((13 * l) + r)
          refine to_ialR (i := ((13 * l) + r)) (v := (nI n6)) rfl (by decide) rfl (by omega) (by omega) e6 ?_
          refine to_addN (x := (700 * l)) (y := n6) rfl ?_
          refine to_n 2 (fr' := (74, [(0, .ref 49), (1, .int x1), (2, .int (nI k1)), (3, .int (nI k2)), (4, .int (nI l)), (5, .int y), (6, .int (nI r)), (7, .int (nI ((13 * l) + r)))], [.int (nI l), .int 700, .int (nI ((700 * l) + n6)), .ref 49], gh S a b sc1 ar1 lo, ex, 0, 0)) rfl ?_
          refine to_mulN (x := 700) (y := l) rfl ?_
          refine to_n 1 (fr' := (76, [(0, .ref 49), (1, .int x1), (2, .int (nI k1)), (3, .int (nI k2)), (4, .int (nI l)), (5, .int y), (6, .int (nI r)), (7, .int (nI ((13 * l) + r)))], [.ref 49, .int (nI (700 * l)), .int (nI ((700 * l) + n6)), .ref 49], gh S a b sc1 ar1 lo, ex, 0, 0)) rfl ?_
          refine to_get rfl rfl rfl rfl ?_
          refine to_n 2 (fr' := (82, [(0, .ref 49), (1, .int x1), (2, .int (nI k1)), (3, .int (nI k2)), (4, .int (nI l)), (5, .int y), (6, .int (nI r)), (7, .int (nI ((13 * l) + r)))], [.int 1, .int (nI ((13 * l) + r)), .ref 70, .int (nI (700 * l)), .int (nI ((700 * l) + n6)), .ref 49], gh S a b sc1 ar1 lo, ex, 0, 0)) rfl ?_
          refine to_addN (x := ((13 * l) + r)) (y := 1) rfl ?_
          obtain ⟨n7, hn7, e7⟩ := iv_a70 hI1 (((13 * l) + r) + 1)
          refine to_ialR (i := (((13 * l) + r) + 1)) (v := (nI n7)) rfl (by decide) rfl (by omega) (by omega) e7 ?_
          refine to_addN (x := (700 * l)) (y := n7) rfl ?_
          refine to_n 2 (fr' := (87, [(0, .ref 49), (1, .int x1), (2, .int (nI k1)), (3, .int (nI k2)), (4, .int (nI l)), (5, .int y), (6, .int (nI r)), (7, .int (nI ((13 * l) + r)))], [.int (nI k2), .int (nI k1), .int (nI ((700 * l) + n7)), .int (nI ((700 * l) + n6)), .ref 49], gh S a b sc1 ar1 lo, ex, 0, 0)) rfl ?_
          refine to_ci (q := 137) (M1 := an_X10_told) (rest := []) rfl rfl (by decide) rfl ⟨_, rfl⟩ (sf_X10_told hW hI1 ((700 * l) + n6) (by omega) ((700 * l) + n7) (by omega) k1 (by omega) k2 (by omega) 701 ((lw_fr hL hF1 (by decide) (by decide) (by decide) (by decide)) n l n3 r n6 n7 hc12_0 (by omega) (by omega) e3 (by omega) (by omega) e6 (by omega) e7 (by omega)) d) (fun x8 sc8 ar8 hx8 => ?_)
          obtain ⟨hI8, hG8, hx8⟩ := hx8
          have hF8 := fr_t hF1 hG8 (by decide) (by decide)
          have k8_4907 : sc8 4907 = (nI n) := (hG8.1 4907 (by decide)).trans hc12_0
          refine to_eq (fr' := (90, [(0, .ref 49), (1, .int x1), (2, .int (nI k1)), (3, .int (nI k2)), (4, .int (nI l)), (5, .int y), (6, .int (nI r)), (7, .int (nI ((13 * l) + r)))], [.int x8], gh S a b sc8 ar8 lo, ex, 0, 0)) rfl ?_
          refine to_n 2 (fr' := (93, [(0, .ref 49), (1, .int x1), (2, .int (nI k1)), (3, .int (nI k2)), (4, .int (nI l)), (5, .int y), (6, .int (nI r)), (7, .int (nI ((13 * l) + r))), (8, .int x8)], [.int x1], gh S a b sc8 ar8 lo, ex, 0, 0)) rfl ?_
          refine to_if_eq (t := 104) rfl (fun q9 => ?_) (fun q9 => ?_)
          · refine to_n 1 (fr' := (106, [(0, .ref 49), (1, .int x1), (2, .int (nI k1)), (3, .int (nI k2)), (4, .int (nI l)), (5, .int y), (6, .int (nI r)), (7, .int (nI ((13 * l) + r))), (8, .int x8)], [.int x8], gh S a b sc8 ar8 lo, ex, 0, 0)) rfl ?_
            refine to_if_eq (t := 113) rfl (fun q10 => ?_) (fun q10 => ?_)
            · refine to_n 3 (fr' := (120, [(0, .ref 49), (1, .int x1), (2, .int (nI k1)), (3, .int (nI k2)), (4, .int (nI l)), (5, .int y), (6, .int ((nI r) + 1)), (7, .int (nI ((13 * l) + r))), (8, .int x8)], [], gh S a b sc8 ar8 lo, ex, 0, 0)) rfl ?_
              rw [nI_1 r]
              refine to_n 1 (fr' := (12, [(0, .ref 49), (1, .int x1), (2, .int (nI k1)), (3, .int (nI k2)), (4, .int (nI l)), (5, .int y), (6, .int (nI (r + 1))), (7, .int (nI ((13 * l) + r))), (8, .int x8)], [], gh S a b sc8 ar8 lo, ex, 0, 0)) rfl ?_
              refine to_lv (lv := [(0, .ref 49), (1, .int x1), (2, .int (nI k1)), (3, .int (nI k2)), (4, .int (nI l)), (5, .int y), (6, .int (nI (r + 1)))]) rfl ⟨rfl, rfl, rfl, rfl, rfl, rfl, rfl, trivial⟩ ?_
              exact ih l y (r + 1) sc8 ar8 (by omega) k8_4907 (by omega) (by omega) hI8 hF8
            · refine to_n 4 (fr' := (120, [(0, .ref 49), (1, .int x1), (2, .int (nI k1)), (3, .int (nI k2)), (4, .int (nI l)), (5, .int 1), (6, .int ((nI r) + 1)), (7, .int (nI ((13 * l) + r))), (8, .int x8)], [], gh S a b sc8 ar8 lo, ex, 0, 0)) rfl ?_
              rw [nI_1 r]
              refine to_n 1 (fr' := (12, [(0, .ref 49), (1, .int x1), (2, .int (nI k1)), (3, .int (nI k2)), (4, .int (nI l)), (5, .int 1), (6, .int (nI (r + 1))), (7, .int (nI ((13 * l) + r))), (8, .int x8)], [], gh S a b sc8 ar8 lo, ex, 0, 0)) rfl ?_
              refine to_lv (lv := [(0, .ref 49), (1, .int x1), (2, .int (nI k1)), (3, .int (nI k2)), (4, .int (nI l)), (5, .int 1), (6, .int (nI (r + 1)))]) rfl ⟨rfl, rfl, rfl, rfl, rfl, rfl, rfl, trivial⟩ ?_
              exact ih l 1 (r + 1) sc8 ar8 (by omega) k8_4907 (by omega) (by omega) hI8 hF8
          · refine to_n 6 (fr' := (120, [(0, .ref 49), (1, .int x1), (2, .int (nI k1)), (3, .int (nI k2)), (4, .int (nI l)), (5, .int (y + x8)), (6, .int ((nI r) + 1)), (7, .int (nI ((13 * l) + r))), (8, .int x8)], [], gh S a b sc8 ar8 lo, ex, 0, 0)) rfl ?_
            rw [nI_1 r]
            refine to_n 1 (fr' := (12, [(0, .ref 49), (1, .int x1), (2, .int (nI k1)), (3, .int (nI k2)), (4, .int (nI l)), (5, .int (y + x8)), (6, .int (nI (r + 1))), (7, .int (nI ((13 * l) + r))), (8, .int x8)], [], gh S a b sc8 ar8 lo, ex, 0, 0)) rfl ?_
            refine to_lv (lv := [(0, .ref 49), (1, .int x1), (2, .int (nI k1)), (3, .int (nI k2)), (4, .int (nI l)), (5, .int (y + x8)), (6, .int (nI (r + 1)))]) rfl ⟨rfl, rfl, rfl, rfl, rfl, rfl, rfl, trivial⟩ ?_
            exact ih l (y + x8) (r + 1) sc8 ar8 (by omega) k8_4907 (by omega) (by omega) hI8 hF8
        · refine to_n 2 (fr' := (120, [(0, .ref 49), (1, .int x1), (2, .int (nI k1)), (3, .int (nI k2)), (4, .int (nI l)), (5, .int y), (6, .int ((nI r) + 1))], [], gh S a b sc1 ar1 lo, ex, 0, 0)) rfl ?_
          rw [nI_1 r]
          refine to_n 1 (fr' := (12, [(0, .ref 49), (1, .int x1), (2, .int (nI k1)), (3, .int (nI k2)), (4, .int (nI l)), (5, .int y), (6, .int (nI (r + 1)))], [], gh S a b sc1 ar1 lo, ex, 0, 0)) rfl ?_
          exact ih l y (r + 1) sc1 ar1 (by omega) hc12_0 (by omega) (by omega) hI1 hF1
  refine to_n 1 (fr' := (1, [(0, .ref 49), (1, .int x1), (2, .int (nI k1)), (3, .int (nI k2))], [.ref 49], gh S a b sc ar lo, ex, 0, 0)) rfl ?_
  refine to_cp (q := 133) (M1 := an_X10_force) (rest := []) rfl rfl (by decide) rfl ⟨_, rfl⟩ (sf_force hW hI n (by omega) en (d + 2)) (fun x11 hx11 => ?_)
  obtain ⟨hx11, hp11⟩ := hx11
  rcases hx11 with rfl | ⟨n11, hn11, rfl⟩
  · exact absurd hp11.symm hne
  · refine to_eq (fr' := (4, [(0, .ref 49), (1, .int x1), (2, .int (nI k1)), (3, .int (nI k2))], [.int (nI n11)], gh S a b sc ar lo, ex, 0, 0)) rfl ?_
    refine to_n 5 (fr' := (12, [(0, .ref 49), (1, .int x1), (2, .int (nI k1)), (3, .int (nI k2)), (4, .int (nI n11)), (5, .int 0), (6, .int 0)], [], gh S a b sc ar lo, ex, 0, 0)) rfl ?_
    exact c12 (13 - 0) n11 0 0 sc ar (by omega) en (by omega) (by omega) hI hF
set_option maxRecDepth 20000 in
theorem sf_X10_isCalled {X : Nat × (Nat → Int32)} {S a b : Nat} {sc : Nat → Int32} {ar : Nat → Nat → Int32} {lo : Nat → Int64} {ex : Bool} (hW : Wd S a b) (hI : Iv S sc ar) (k1 : Nat) (hk1 : k1 < 8) (k2 : Nat) (hk2 : k2 < S) (hL : Lw sc ar) (d : Nat)  : ci X S a b (d + 5) 139 [.ref 49, .int (nI k1), .int (nI k2)] sc ar lo ex (fun x sc' ar' => Iv S sc' ar' ∧ Fr [4943] [72] sc ar sc' ar' ∧ rl x 2) := by
  obtain ⟨ha1, ha8, hb1, hb8, hab, hS1, hS⟩ := id hW
  refine ci_of (M := an_X10_isCalled) rfl (Nat.le_of_ble_eq_true rfl) ?_
  have hF : Fr [4943] [72] sc ar sc ar := fr_0
  refine to_eq (fr' := (0, [(0, .ref 49), (1, .int (nI k1)), (2, .int (nI k2))], [], gh S a b sc ar lo, ex, 0, 0)) rfl ?_
  refine to_n 1 (fr' := (1, [(0, .ref 49), (1, .int (nI k1)), (2, .int (nI k2))], [.ref 49], gh S a b sc ar lo, ex, 0, 0)) rfl ?_
  obtain ⟨n2, hn2, e2⟩ := iv_s4907 hI
  refine to_cp (q := 133) (M1 := an_X10_force) (rest := []) rfl rfl (by decide) rfl ⟨_, rfl⟩ (sf_force hW hI n2 (by omega) e2 (d + 3)) (fun x1 hx1 => ?_)
  obtain ⟨hx1, hp1⟩ := hx1
  rcases hx1 with rfl | ⟨n1, hn1, rfl⟩
  · refine to_eq (fr' := (4, [(0, .ref 49), (1, .int (nI k1)), (2, .int (nI k2))], [.int (-1)], gh S a b sc ar lo, ex, 0, 0)) rfl ?_
    refine to_n 3 (fr' := (9, [(0, .ref 49), (1, .int (nI k1)), (2, .int (nI k2))], [.ref 49], gh S a b sc ar lo, ex, 0, 0)) rfl ?_
    refine to_get rfl rfl rfl rfl ?_
    refine to_n 1 (fr' := (13, [(0, .ref 49), (1, .int (nI k1)), (2, .int (nI k2))], [.int (nI k1), .ref 59], gh S a b sc ar lo, ex, 0, 0)) rfl ?_
    refine to_ialR (i := k1) (v := ((ar 59) k1)) rfl (by decide) rfl (by omega) (by omega) rfl ?_
    refine to_n 1 (fr' := (15, [(0, .ref 49), (1, .int (nI k1)), (2, .int (nI k2))], [.ref 49, .int ((ar 59) k1)], gh S a b sc ar lo, ex, 0, 0)) rfl ?_
    refine to_get rfl rfl rfl rfl ?_
    refine to_n 1 (fr' := (19, [(0, .ref 49), (1, .int (nI k1)), (2, .int (nI k2))], [.int (nI k2), .ref 53, .int ((ar 59) k1)], gh S a b sc ar lo, ex, 0, 0)) rfl ?_
    refine to_ialR (i := k2) (v := ((ar 53) k2)) rfl (by decide) rfl (by omega) (by omega) rfl ?_
    refine to_ic_ne (t := 27) rfl (fun q3 => ?_) (fun q3 => ?_)
    · refine to_n 2 (fr' := (46, [(0, .ref 49), (1, .int (nI k1)), (2, .int (nI k2))], [.int 0], gh S a b sc ar lo, ex, 0, 0)) rfl ?_
      exact to_rt (i := .ireturn) (tg := []) rfl rfl ⟨_, _, _, ⟨hI, hF, rl_n (n := 0) (by omega)⟩, rfl⟩
    · refine to_n 2 (fr' := (46, [(0, .ref 49), (1, .int (nI k1)), (2, .int (nI k2))], [.int 1], gh S a b sc ar lo, ex, 0, 0)) rfl ?_
      exact to_rt (i := .ireturn) (tg := []) rfl rfl ⟨_, _, _, ⟨hI, hF, rl_n (n := 1) (by omega)⟩, rfl⟩
  · refine to_eq (fr' := (4, [(0, .ref 49), (1, .int (nI k1)), (2, .int (nI k2))], [.int (nI n1)], gh S a b sc ar lo, ex, 0, 0)) rfl ?_
    refine to_n 1 (fr' := (5, [(0, .ref 49), (1, .int (nI k1)), (2, .int (nI k2))], [.int (-1), .int (nI n1)], gh S a b sc ar lo, ex, 0, 0)) rfl ?_
    refine to_ic_ne_T (t := 31) (x := (nI n1)) (y := (-1)) rfl (nI_neg (by omega) (by decide)) ?_
    refine to_n 4 (fr' := (35, [(0, .ref 49), (1, .int (nI k1)), (2, .int (nI k2))], [.int (nI k2), .int (nI k1), .int 0, .ref 49], gh S a b sc ar lo, ex, 0, 0)) rfl ?_
    refine to_ci (q := 138) (M1 := an_X10_ruled) (rest := []) rfl rfl (by decide) rfl ⟨_, rfl⟩ (sf_X10_ruled hW hI 0 k1 (by omega) k2 (by omega) (lw_fr hL hF (by decide) (by decide) (by decide) (by decide)) (fun e9 => nI_neg (n := n1) (by omega) (by decide) (hp1.trans e9)) d) (fun x4 sc4 ar4 hx4 => ?_)
    obtain ⟨hI4, hG4, hx4⟩ := hx4
    have hF4 := fr_t hF hG4 (by decide) (by decide)
    refine to_eq (fr' := (38, [(0, .ref 49), (1, .int (nI k1)), (2, .int (nI k2))], [.int x4], gh S a b sc4 ar4 lo, ex, 0, 0)) rfl ?_
    refine to_if_eq (t := 45) rfl (fun q5 => ?_) (fun q5 => ?_)
    · refine to_n 1 (fr' := (46, [(0, .ref 49), (1, .int (nI k1)), (2, .int (nI k2))], [.int 0], gh S a b sc4 ar4 lo, ex, 0, 0)) rfl ?_
      exact to_rt (i := .ireturn) (tg := []) rfl rfl ⟨_, _, _, ⟨hI4, hF4, rl_n (n := 0) (by omega)⟩, rfl⟩
    · refine to_n 2 (fr' := (46, [(0, .ref 49), (1, .int (nI k1)), (2, .int (nI k2))], [.int 1], gh S a b sc4 ar4 lo, ex, 0, 0)) rfl ?_
      exact to_rt (i := .ireturn) (tg := []) rfl rfl ⟨_, _, _, ⟨hI4, hF4, rl_n (n := 1) (by omega)⟩, rfl⟩
set_option maxRecDepth 20000 in
theorem sf_X10_payOf {X : Nat × (Nat → Int32)} {S a b : Nat} {sc : Nat → Int32} {ar : Nat → Nat → Int32} {lo : Nat → Int64} {ex : Bool} (hW : Wd S a b) (hI : Iv S sc ar) (k1 : Nat) (hk1 : k1 < 8) (k2 : Nat) (hk2 : k2 < S) (hL : Lw sc ar) (d : Nat)  : ci X S a b (d + 5) 140 [.ref 49, .int (nI k1), .int (nI k2)] sc ar lo ex (fun x sc' ar' => Iv S sc' ar' ∧ Fr [4943] [72] sc ar sc' ar' ∧ True) := by
  obtain ⟨ha1, ha8, hb1, hb8, hab, hS1, hS⟩ := id hW
  refine ci_of (M := an_X10_payOf) rfl (Nat.le_of_ble_eq_true rfl) ?_
  have hF : Fr [4943] [72] sc ar sc ar := fr_0
  refine to_eq (fr' := (0, [(0, .ref 49), (1, .int (nI k1)), (2, .int (nI k2))], [], gh S a b sc ar lo, ex, 0, 0)) rfl ?_
  refine to_n 1 (fr' := (1, [(0, .ref 49), (1, .int (nI k1)), (2, .int (nI k2))], [.ref 49], gh S a b sc ar lo, ex, 0, 0)) rfl ?_
  obtain ⟨n2, hn2, e2⟩ := iv_s4907 hI
  refine to_cp (q := 133) (M1 := an_X10_force) (rest := []) rfl rfl (by decide) rfl ⟨_, rfl⟩ (sf_force hW hI n2 (by omega) e2 (d + 3)) (fun x1 hx1 => ?_)
  obtain ⟨hx1, hp1⟩ := hx1
  rcases hx1 with rfl | ⟨n1, hn1, rfl⟩
  · refine to_eq (fr' := (4, [(0, .ref 49), (1, .int (nI k1)), (2, .int (nI k2))], [.int (-1)], gh S a b sc ar lo, ex, 0, 0)) rfl ?_
    refine to_n 4 (fr' := (19, [(0, .ref 49), (1, .int (nI k1)), (2, .int (nI k2))], [.int 1], gh S a b sc ar lo, ex, 0, 0)) rfl ?_
    exact to_rt (i := .ireturn) (tg := []) rfl rfl ⟨_, _, _, ⟨hI, hF, trivial⟩, rfl⟩
  · refine to_eq (fr' := (4, [(0, .ref 49), (1, .int (nI k1)), (2, .int (nI k2))], [.int (nI n1)], gh S a b sc ar lo, ex, 0, 0)) rfl ?_
    refine to_n 1 (fr' := (5, [(0, .ref 49), (1, .int (nI k1)), (2, .int (nI k2))], [.int (-1), .int (nI n1)], gh S a b sc ar lo, ex, 0, 0)) rfl ?_
    refine to_ic_ne_T (t := 12) (x := (nI n1)) (y := (-1)) rfl (nI_neg (by omega) (by decide)) ?_
    refine to_n 4 (fr' := (16, [(0, .ref 49), (1, .int (nI k1)), (2, .int (nI k2))], [.int (nI k2), .int (nI k1), .int 1, .ref 49], gh S a b sc ar lo, ex, 0, 0)) rfl ?_
    refine to_ci (q := 138) (M1 := an_X10_ruled) (rest := []) rfl rfl (by decide) rfl ⟨_, rfl⟩ (sf_X10_ruled hW hI 1 k1 (by omega) k2 (by omega) (lw_fr hL hF (by decide) (by decide) (by decide) (by decide)) (fun e9 => nI_neg (n := n1) (by omega) (by decide) (hp1.trans e9)) d) (fun x3 sc3 ar3 hx3 => ?_)
    obtain ⟨hI3, hG3, hx3⟩ := hx3
    have hF3 := fr_t hF hG3 (by decide) (by decide)
    refine to_eq (fr' := (19, [(0, .ref 49), (1, .int (nI k1)), (2, .int (nI k2))], [.int x3], gh S a b sc3 ar3 lo, ex, 0, 0)) rfl ?_
    exact to_rt (i := .ireturn) (tg := []) rfl rfl ⟨_, _, _, ⟨hI3, hF3, trivial⟩, rfl⟩
set_option maxRecDepth 20000 in
theorem sf_X10_ring {X : Nat × (Nat → Int32)} {S a b : Nat} {sc : Nat → Int32} {ar : Nat → Nat → Int32} {lo : Nat → Int64} {ex : Bool} (hW : Wd S a b) (hI : Iv S sc ar) (k1 : Nat) (hk1 : k1 < S) (hL : Lw sc ar) (d : Nat)  : cv X S a b (d + 6) 142 [.ref 49, .int (nI k1)] sc ar lo ex (fun sc' ar' => Iv S sc' ar' ∧ Fr [4943] [62, 66, 72] sc ar sc' ar') := by
  obtain ⟨ha1, ha8, hb1, hb8, hab, hS1, hS⟩ := id hW
  refine cv_of (M := an_X10_ring) rfl (Nat.le_of_ble_eq_true rfl) ?_
  have hF : Fr [4943] [62, 66, 72] sc ar sc ar := fr_0
  refine to_eq (fr' := (0, [(0, .ref 49), (1, .int (nI k1))], [], gh S a b sc ar lo, ex, 0, 0)) rfl ?_
  have c2 : ∀ m : Nat, ∀ (i : Nat) (sc1 : Nat → Int32) (ar1 : Nat → Nat → Int32), 9 ≤ i + m → i ≤ 9 → Iv S sc1 ar1 → Fr [4943] [62, 66, 72] sc ar sc1 ar1 → ag_To X (d + 5) an_X10_ring (2, [(0, .ref 49), (1, .int (nI k1)), (2, .int (nI i))], [], gh S a b sc1 ar1 lo, ex, 0, 0) (qv S a b lo ex (fun sc' ar' => Iv S sc' ar' ∧ Fr [4943] [62, 66, 72] sc ar sc' ar')) := by
    intro m
    induction m with
    | zero =>
      intro i sc1 ar1 hm hc2_0 hI1 hF1
      refine to_n 2 (fr' := (4, [(0, .ref 49), (1, .int (nI k1)), (2, .int (nI i))], [.ref 49, .int (nI i)], gh S a b sc1 ar1 lo, ex, 0, 0)) rfl ?_
      obtain ⟨n2, hn2, e2⟩ := iv_s4906 hI1
      refine to_getR (v := (nI n2)) rfl rfl rfl rfl e2 ?_
      refine to_nc_ge_T (t := 52) (x := i) (y := n2) rfl (by omega) (by omega) (by omega) ?_
      exact to_rt (i := .return_) (tg := []) rfl rfl ⟨_, _, ⟨hI1, hF1⟩, rfl⟩
    | succ m ih =>
      intro i sc1 ar1 hm hc2_0 hI1 hF1
      refine to_n 2 (fr' := (4, [(0, .ref 49), (1, .int (nI k1)), (2, .int (nI i))], [.ref 49, .int (nI i)], gh S a b sc1 ar1 lo, ex, 0, 0)) rfl ?_
      obtain ⟨n3, hn3, e3⟩ := iv_s4906 hI1
      refine to_getR (v := (nI n3)) rfl rfl rfl rfl e3 ?_
      refine to_nc_ge (t := 52) (x := i) (y := n3) rfl (by omega) (by omega) (fun q4 => ?_) (fun q4 => ?_)
      · exact to_rt (i := .return_) (tg := []) rfl rfl ⟨_, _, ⟨hI1, hF1⟩, rfl⟩
      · refine to_n 1 (fr' := (11, [(0, .ref 49), (1, .int (nI k1)), (2, .int (nI i))], [.ref 49], gh S a b sc1 ar1 lo, ex, 0, 0)) rfl ?_
        refine to_get rfl rfl rfl rfl ?_
        refine to_n 1 (fr' := (15, [(0, .ref 49), (1, .int (nI k1)), (2, .int (nI i))], [.int (nI i), .ref 62], gh S a b sc1 ar1 lo, ex, 0, 0)) rfl ?_
        rcases iv_a62 hI1 i with e5 | ⟨n5, hn5, e5⟩
        · refine to_ialR (i := i) (v := (-1)) rfl (by decide) rfl (by omega) (by omega) e5 ?_
          refine to_n 5 (fr' := (23, [(0, .ref 49), (1, .int (nI k1)), (2, .int (nI i))], [.int (nI k1), .int (nI i), .ref 49], gh S a b sc1 ar1 lo, ex, 0, 0)) rfl ?_
          refine to_ci (q := 139) (M1 := an_X10_isCalled) (rest := []) rfl rfl (by decide) rfl ⟨_, rfl⟩ (sf_X10_isCalled hW hI1 i (by omega) k1 (by omega) (lw_fr hL hF1 (by decide) (by decide) (by decide) (by decide)) d) (fun x6 sc6 ar6 hx6 => ?_)
          obtain ⟨hI6, hG6, hx6⟩ := hx6
          have hF6 := fr_t hF1 hG6 (by decide) (by decide)
          obtain ⟨n6, hn6, rfl⟩ := hx6
          refine to_eq (fr' := (26, [(0, .ref 49), (1, .int (nI k1)), (2, .int (nI i))], [.int (nI n6)], gh S a b sc6 ar6 lo, ex, 0, 0)) rfl ?_
          refine to_nf_ne (t := 32) (x := n6) rfl (by omega) (fun q7 => ?_) (fun q7 => ?_)
          · refine to_n 1 (fr' := (33, [(0, .ref 49), (1, .int (nI k1)), (2, .int (nI i))], [.ref 49], gh S a b sc6 ar6 lo, ex, 0, 0)) rfl ?_
            refine to_get rfl rfl rfl rfl ?_
            refine to_n 2 (fr' := (38, [(0, .ref 49), (1, .int (nI k1)), (2, .int (nI i))], [.int (nI k1), .int (nI i), .ref 62], gh S a b sc6 ar6 lo, ex, 0, 0)) rfl ?_
            refine to_iasR (i := i) (h' := gh S a b sc6 (uA ar6 62 (upd (ar6 62) i (nI k1))) lo) rfl rfl (by omega) (by omega) rfl ?_
            have hI8 := ia_62 (i := i) (v := (nI k1)) hI6 (rq_n (n := k1) (by omega))
            have hF8 := fr_a (c := 62) (g := (upd (ar6 62) i (nI k1))) hF6 (by decide)
            refine to_n 1 (fr' := (40, [(0, .ref 49), (1, .int (nI k1)), (2, .int (nI i))], [.ref 49], gh S a b sc6 (uA ar6 62 (upd (ar6 62) i (nI k1))) lo, ex, 0, 0)) rfl ?_
            refine to_get rfl rfl rfl rfl ?_
            refine to_n 2 (fr' := (45, [(0, .ref 49), (1, .int (nI k1)), (2, .int (nI i))], [.int 0, .int (nI i), .ref 66], gh S a b sc6 (uA ar6 62 (upd (ar6 62) i (nI k1))) lo, ex, 0, 0)) rfl ?_
            refine to_zasR (i := i) (h' := gh S a b sc6 (uA (uA ar6 62 (upd (ar6 62) i (nI k1))) 66 (upd ((uA ar6 62 (upd (ar6 62) i (nI k1))) 66) i (vp_nar .boolean 0))) lo) rfl rfl (by omega) (by omega) rfl ?_
            have hI9 := ia_66 (g := (upd ((uA ar6 62 (upd (ar6 62) i (nI k1))) 66) i (vp_nar .boolean 0))) hI8
            have hF9 := fr_a (c := 66) (g := (upd ((uA ar6 62 (upd (ar6 62) i (nI k1))) 66) i (vp_nar .boolean 0))) hF8 (by decide)
            refine to_n 1 (fr' := (49, [(0, .ref 49), (1, .int (nI k1)), (2, .int ((nI i) + 1))], [], gh S a b sc6 (uA (uA ar6 62 (upd (ar6 62) i (nI k1))) 66 (upd ((uA ar6 62 (upd (ar6 62) i (nI k1))) 66) i (vp_nar .boolean 0))) lo, ex, 0, 0)) rfl ?_
            rw [nI_1 i]
            refine to_n 1 (fr' := (2, [(0, .ref 49), (1, .int (nI k1)), (2, .int (nI (i + 1)))], [], gh S a b sc6 (uA (uA ar6 62 (upd (ar6 62) i (nI k1))) 66 (upd ((uA ar6 62 (upd (ar6 62) i (nI k1))) 66) i (vp_nar .boolean 0))) lo, ex, 0, 0)) rfl ?_
            exact ih (i + 1) sc6 (uA (uA ar6 62 (upd (ar6 62) i (nI k1))) 66 (upd ((uA ar6 62 (upd (ar6 62) i (nI k1))) 66) i (vp_nar .boolean 0))) (by omega) (by omega) hI9 hF9
          · refine to_n 2 (fr' := (49, [(0, .ref 49), (1, .int (nI k1)), (2, .int ((nI i) + 1))], [], gh S a b sc6 ar6 lo, ex, 0, 0)) rfl ?_
            rw [nI_1 i]
            refine to_n 1 (fr' := (2, [(0, .ref 49), (1, .int (nI k1)), (2, .int (nI (i + 1)))], [], gh S a b sc6 ar6 lo, ex, 0, 0)) rfl ?_
            exact ih (i + 1) sc6 ar6 (by omega) (by omega) hI6 hF6
        · refine to_ialR (i := i) (v := (nI n5)) rfl (by decide) rfl (by omega) (by omega) e5 ?_
          refine to_n 1 (fr' := (17, [(0, .ref 49), (1, .int (nI k1)), (2, .int (nI i))], [.int (-1), .int (nI n5)], gh S a b sc1 ar1 lo, ex, 0, 0)) rfl ?_
          refine to_ic_ne_T (t := 46) (x := (nI n5)) (y := (-1)) rfl (nI_neg (by omega) (by decide)) ?_
          refine to_n 1 (fr' := (49, [(0, .ref 49), (1, .int (nI k1)), (2, .int ((nI i) + 1))], [], gh S a b sc1 ar1 lo, ex, 0, 0)) rfl ?_
          rw [nI_1 i]
          refine to_n 1 (fr' := (2, [(0, .ref 49), (1, .int (nI k1)), (2, .int (nI (i + 1)))], [], gh S a b sc1 ar1 lo, ex, 0, 0)) rfl ?_
          exact ih (i + 1) sc1 ar1 (by omega) (by omega) hI1 hF1
  refine to_n 2 (fr' := (2, [(0, .ref 49), (1, .int (nI k1)), (2, .int 0)], [], gh S a b sc ar lo, ex, 0, 0)) rfl ?_
  exact c2 (9 - 0) 0 sc ar (by omega) (by omega) hI hF
set_option maxRecDepth 20000 in
theorem sf_X10_burn {X : Nat × (Nat → Int32)} {S a b : Nat} {sc : Nat → Int32} {ar : Nat → Nat → Int32} {lo : Nat → Int64} {ex : Bool} (hW : Wd S a b) (hI : Iv S sc ar) (k1 : Nat) (hk1 : k1 < S) (hL : Lw sc ar) (d : Nat)  : cv X S a b (d + 6) 154 [.ref 49, .int (nI k1)] sc ar lo ex (fun sc' ar' => Iv S sc' ar' ∧ Fr [4943] [51, 54, 55, 56, 57, 62, 63, 65, 72] sc ar sc' ar') := by
  obtain ⟨ha1, ha8, hb1, hb8, hab, hS1, hS⟩ := id hW
  refine cv_of (M := an_X10_burn) rfl (Nat.le_of_ble_eq_true rfl) ?_
  have hF : Fr [4943] [51, 54, 55, 56, 57, 62, 63, 65, 72] sc ar sc ar := fr_0
  refine to_eq (fr' := (0, [(0, .ref 49), (1, .int (nI k1))], [], gh S a b sc ar lo, ex, 0, 0)) rfl ?_
  have c128 : ∀  (sc1 : Nat → Int32) (ar1 : Nat → Nat → Int32), Iv S sc1 ar1 → Fr [4943] [51, 54, 55, 56, 57, 62, 63, 65, 72] sc ar sc1 ar1 → ag_To X (d + 5) an_X10_burn (128, [(0, .ref 49), (1, .int (nI k1))], [], gh S a b sc1 ar1 lo, ex, 0, 0) (qv S a b lo ex (fun sc' ar' => Iv S sc' ar' ∧ Fr [4943] [51, 54, 55, 56, 57, 62, 63, 65, 72] sc ar sc' ar')) := by
    intro sc1 ar1 hI1 hF1
    refine to_n 1 (fr' := (129, [(0, .ref 49), (1, .int (nI k1))], [.ref 49], gh S a b sc1 ar1 lo, ex, 0, 0)) rfl ?_
    refine to_get rfl rfl rfl rfl ?_
    refine to_n 2 (fr' := (134, [(0, .ref 49), (1, .int (nI k1))], [.int (-1), .int (nI k1), .ref 57], gh S a b sc1 ar1 lo, ex, 0, 0)) rfl ?_
    refine to_iasR (i := k1) (h' := gh S a b sc1 (uA ar1 57 (upd (ar1 57) k1 (-1))) lo) rfl rfl (by omega) (by omega) rfl ?_
    have hI2 := ia_57 (i := k1) (v := (-1)) hI1 (rq_m)
    have hF2 := fr_a (c := 57) (g := (upd (ar1 57) k1 (-1))) hF1 (by decide)
    refine to_n 3 (fr' := (138, [(0, .ref 49), (1, .int (nI k1))], [.int 0, .int (nI k1), .ref 49], gh S a b sc1 (uA ar1 57 (upd (ar1 57) k1 (-1))) lo, ex, 0, 0)) rfl ?_
    refine to_cv (q := 141) (M1 := an_X10_noGoal) (rest := []) rfl rfl (by decide) rfl ⟨_, rfl⟩ (sf_X10_noGoal hW hI2 (nI k1) 0 (d + 4)) (fun sc3 ar3 hx3 => ?_)
    obtain ⟨hI3, hG3⟩ := hx3
    have hF3 := fr_t hF2 hG3 (by decide) (by decide)
    refine to_eq (fr' := (141, [(0, .ref 49), (1, .int (nI k1))], [], gh S a b sc3 ar3 lo, ex, 0, 0)) rfl ?_
    exact to_rt (i := .return_) (tg := []) rfl rfl ⟨_, _, ⟨hI3, hF3⟩, rfl⟩
  refine to_n 1 (fr' := (1, [(0, .ref 49), (1, .int (nI k1))], [.ref 49], gh S a b sc ar lo, ex, 0, 0)) rfl ?_
  refine to_get rfl rfl rfl rfl ?_
  refine to_n 1 (fr' := (5, [(0, .ref 49), (1, .int (nI k1))], [.int (nI k1), .ref 56], gh S a b sc ar lo, ex, 0, 0)) rfl ?_
  refine to_ialR (i := k1) (v := ((ar 56) k1)) rfl (by decide) rfl (by omega) (by omega) rfl ?_
  refine to_n 2 (fr' := (8, [(0, .ref 49), (1, .int (nI k1))], [.ref 49, .int 4, .int ((ar 56) k1)], gh S a b sc ar lo, ex, 0, 0)) rfl ?_
  refine to_get rfl rfl rfl rfl ?_
  refine to_n 1 (fr' := (12, [(0, .ref 49), (1, .int (nI k1))], [.int (nI k1), .ref 54, .int 4, .int ((ar 56) k1)], gh S a b sc ar lo, ex, 0, 0)) rfl ?_
  refine to_ialR (i := k1) (v := ((ar 54) k1)) rfl (by decide) rfl (by omega) (by omega) rfl ?_
  refine to_n 1 (fr' := (14, [(0, .ref 49), (1, .int (nI k1))], [.int (4 * ((ar 54) k1)), .int ((ar 56) k1)], gh S a b sc ar lo, ex, 0, 0)) rfl ?_
  refine to_ic_lt (t := 21) rfl (fun q4 => ?_) (fun q4 => ?_)
  · refine to_n 5 (fr' := (28, [(0, .ref 49), (1, .int (nI k1)), (2, .int 0)], [.ref 49], gh S a b sc ar lo, ex, 0, 0)) rfl ?_
    refine to_get rfl rfl rfl rfl ?_
    refine to_n 2 (fr' := (33, [(0, .ref 49), (1, .int (nI k1)), (2, .int 0)], [.int (nI k1), .ref 54, .int (nI k1), .ref 54], gh S a b sc ar lo, ex, 0, 0)) rfl ?_
    refine to_ialR (i := k1) (v := ((ar 54) k1)) rfl (by decide) rfl (by omega) (by omega) rfl ?_
    refine to_n 2 (fr' := (36, [(0, .ref 49), (1, .int (nI k1)), (2, .int 0)], [.int (((ar 54) k1) - 1), .int (nI k1), .ref 54], gh S a b sc ar lo, ex, 0, 0)) rfl ?_
    refine to_iasR (i := k1) (h' := gh S a b sc (uA ar 54 (upd (ar 54) k1 (((ar 54) k1) - 1))) lo) rfl rfl (by omega) (by omega) rfl ?_
    have hI5 := ia_54 (g := (upd (ar 54) k1 (((ar 54) k1) - 1))) hI
    have hF5 := fr_a (c := 54) (g := (upd (ar 54) k1 (((ar 54) k1) - 1))) hF (by decide)
    refine to_n 1 (fr' := (38, [(0, .ref 49), (1, .int (nI k1)), (2, .int 0)], [.ref 49], gh S a b sc (uA ar 54 (upd (ar 54) k1 (((ar 54) k1) - 1))) lo, ex, 0, 0)) rfl ?_
    refine to_get rfl rfl rfl rfl ?_
    refine to_n 1 (fr' := (42, [(0, .ref 49), (1, .int (nI k1)), (2, .int 0)], [.int (nI k1), .ref 54], gh S a b sc (uA ar 54 (upd (ar 54) k1 (((ar 54) k1) - 1))) lo, ex, 0, 0)) rfl ?_
    refine to_ialR (i := k1) (v := ((upd (ar 54) k1 (((ar 54) k1) - 1)) k1)) rfl (by decide) rfl (by omega) (by omega) rfl ?_
    refine to_if_le (t := 47) rfl (fun q6 => ?_) (fun q6 => ?_)
    · refine to_n 1 (fr' := (48, [(0, .ref 49), (1, .int (nI k1)), (2, .int 0)], [.ref 49], gh S a b sc (uA ar 54 (upd (ar 54) k1 (((ar 54) k1) - 1))) lo, ex, 0, 0)) rfl ?_
      refine to_get rfl rfl rfl rfl ?_
      refine to_n 2 (fr' := (53, [(0, .ref 49), (1, .int (nI k1)), (2, .int 0)], [.int 2, .int (nI k1), .ref 51], gh S a b sc (uA ar 54 (upd (ar 54) k1 (((ar 54) k1) - 1))) lo, ex, 0, 0)) rfl ?_
      refine to_iasR (i := k1) (h' := gh S a b sc (uA (uA ar 54 (upd (ar 54) k1 (((ar 54) k1) - 1))) 51 (upd ((uA ar 54 (upd (ar 54) k1 (((ar 54) k1) - 1))) 51) k1 2)) lo) rfl rfl (by omega) (by omega) rfl ?_
      have hI7 := ia_51 (g := (upd ((uA ar 54 (upd (ar 54) k1 (((ar 54) k1) - 1))) 51) k1 2)) hI5
      have hF7 := fr_a (c := 51) (g := (upd ((uA ar 54 (upd (ar 54) k1 (((ar 54) k1) - 1))) 51) k1 2)) hF5 (by decide)
      refine to_n 1 (fr' := (128, [(0, .ref 49), (1, .int (nI k1)), (2, .int 0)], [], gh S a b sc (uA (uA ar 54 (upd (ar 54) k1 (((ar 54) k1) - 1))) 51 (upd ((uA ar 54 (upd (ar 54) k1 (((ar 54) k1) - 1))) 51) k1 2)) lo, ex, 0, 0)) rfl ?_
      refine to_lv (lv := [(0, .ref 49), (1, .int (nI k1))]) rfl ⟨rfl, rfl, trivial⟩ ?_
      exact c128 sc (uA (uA ar 54 (upd (ar 54) k1 (((ar 54) k1) - 1))) 51 (upd ((uA ar 54 (upd (ar 54) k1 (((ar 54) k1) - 1))) 51) k1 2)) hI7 hF7
    · exact to_rt (i := .return_) (tg := []) rfl rfl ⟨_, _, ⟨hI5, hF5⟩, rfl⟩
  · refine to_n 6 (fr' := (58, [(0, .ref 49), (1, .int (nI k1)), (2, .int 1)], [.ref 49], gh S a b sc ar lo, ex, 0, 0)) rfl ?_
    refine to_get rfl rfl rfl rfl ?_
    refine to_n 2 (fr' := (63, [(0, .ref 49), (1, .int (nI k1)), (2, .int 1)], [.int 0, .int (nI k1), .ref 51], gh S a b sc ar lo, ex, 0, 0)) rfl ?_
    refine to_iasR (i := k1) (h' := gh S a b sc (uA ar 51 (upd (ar 51) k1 0)) lo) rfl rfl (by omega) (by omega) rfl ?_
    have hI8 := ia_51 (g := (upd (ar 51) k1 0)) hI
    have hF8 := fr_a (c := 51) (g := (upd (ar 51) k1 0)) hF (by decide)
    refine to_n 1 (fr' := (65, [(0, .ref 49), (1, .int (nI k1)), (2, .int 1)], [.ref 49], gh S a b sc (uA ar 51 (upd (ar 51) k1 0)) lo, ex, 0, 0)) rfl ?_
    refine to_get rfl rfl rfl rfl ?_
    refine to_n 2 (fr' := (70, [(0, .ref 49), (1, .int (nI k1)), (2, .int 1)], [.int 0, .int (nI k1), .ref 55], gh S a b sc (uA ar 51 (upd (ar 51) k1 0)) lo, ex, 0, 0)) rfl ?_
    refine to_iasR (i := k1) (h' := gh S a b sc (uA (uA ar 51 (upd (ar 51) k1 0)) 55 (upd ((uA ar 51 (upd (ar 51) k1 0)) 55) k1 0)) lo) rfl rfl (by omega) (by omega) rfl ?_
    have hI9 := ia_55 (g := (upd ((uA ar 51 (upd (ar 51) k1 0)) 55) k1 0)) hI8
    have hF9 := fr_a (c := 55) (g := (upd ((uA ar 51 (upd (ar 51) k1 0)) 55) k1 0)) hF8 (by decide)
    refine to_n 1 (fr' := (72, [(0, .ref 49), (1, .int (nI k1)), (2, .int 1)], [.ref 49], gh S a b sc (uA (uA ar 51 (upd (ar 51) k1 0)) 55 (upd ((uA ar 51 (upd (ar 51) k1 0)) 55) k1 0)) lo, ex, 0, 0)) rfl ?_
    refine to_get rfl rfl rfl rfl ?_
    refine to_n 2 (fr' := (77, [(0, .ref 49), (1, .int (nI k1)), (2, .int 1)], [.int 0, .int (nI k1), .ref 56], gh S a b sc (uA (uA ar 51 (upd (ar 51) k1 0)) 55 (upd ((uA ar 51 (upd (ar 51) k1 0)) 55) k1 0)) lo, ex, 0, 0)) rfl ?_
    refine to_iasR (i := k1) (h' := gh S a b sc (uA (uA (uA ar 51 (upd (ar 51) k1 0)) 55 (upd ((uA ar 51 (upd (ar 51) k1 0)) 55) k1 0)) 56 (upd ((uA (uA ar 51 (upd (ar 51) k1 0)) 55 (upd ((uA ar 51 (upd (ar 51) k1 0)) 55) k1 0)) 56) k1 0)) lo) rfl rfl (by omega) (by omega) rfl ?_
    have hI10 := ia_56 (g := (upd ((uA (uA ar 51 (upd (ar 51) k1 0)) 55 (upd ((uA ar 51 (upd (ar 51) k1 0)) 55) k1 0)) 56) k1 0)) hI9
    have hF10 := fr_a (c := 56) (g := (upd ((uA (uA ar 51 (upd (ar 51) k1 0)) 55 (upd ((uA ar 51 (upd (ar 51) k1 0)) 55) k1 0)) 56) k1 0)) hF9 (by decide)
    refine to_n 1 (fr' := (79, [(0, .ref 49), (1, .int (nI k1)), (2, .int 1)], [.ref 49], gh S a b sc (uA (uA (uA ar 51 (upd (ar 51) k1 0)) 55 (upd ((uA ar 51 (upd (ar 51) k1 0)) 55) k1 0)) 56 (upd ((uA (uA ar 51 (upd (ar 51) k1 0)) 55 (upd ((uA ar 51 (upd (ar 51) k1 0)) 55) k1 0)) 56) k1 0)) lo, ex, 0, 0)) rfl ?_
    refine to_get rfl rfl rfl rfl ?_
    refine to_n 1 (fr' := (83, [(0, .ref 49), (1, .int (nI k1)), (2, .int 1)], [.int (nI k1), .ref 57], gh S a b sc (uA (uA (uA ar 51 (upd (ar 51) k1 0)) 55 (upd ((uA ar 51 (upd (ar 51) k1 0)) 55) k1 0)) 56 (upd ((uA (uA ar 51 (upd (ar 51) k1 0)) 55 (upd ((uA ar 51 (upd (ar 51) k1 0)) 55) k1 0)) 56) k1 0)) lo, ex, 0, 0)) rfl ?_
    rcases iv_a57 hI10 k1 with e11 | ⟨n11, hn11, e11⟩
    · refine to_ialR (i := k1) (v := (-1)) rfl (by decide) rfl (by omega) (by omega) e11 ?_
      refine to_n 2 (fr' := (128, [(0, .ref 49), (1, .int (nI k1)), (2, .int 1)], [], gh S a b sc (uA (uA (uA ar 51 (upd (ar 51) k1 0)) 55 (upd ((uA ar 51 (upd (ar 51) k1 0)) 55) k1 0)) 56 (upd ((uA (uA ar 51 (upd (ar 51) k1 0)) 55 (upd ((uA ar 51 (upd (ar 51) k1 0)) 55) k1 0)) 56) k1 0)) lo, ex, 0, 0)) rfl ?_
      refine to_lv (lv := [(0, .ref 49), (1, .int (nI k1))]) rfl ⟨rfl, rfl, trivial⟩ ?_
      exact c128 sc (uA (uA (uA ar 51 (upd (ar 51) k1 0)) 55 (upd ((uA ar 51 (upd (ar 51) k1 0)) 55) k1 0)) 56 (upd ((uA (uA ar 51 (upd (ar 51) k1 0)) 55 (upd ((uA ar 51 (upd (ar 51) k1 0)) 55) k1 0)) 56) k1 0)) hI10 hF10
    · refine to_ialR (i := k1) (v := (nI n11)) rfl (by decide) rfl (by omega) (by omega) e11 ?_
      refine to_n 1 (fr' := (85, [(0, .ref 49), (1, .int (nI k1)), (2, .int 1)], [.int (-1), .int (nI n11)], gh S a b sc (uA (uA (uA ar 51 (upd (ar 51) k1 0)) 55 (upd ((uA ar 51 (upd (ar 51) k1 0)) 55) k1 0)) 56 (upd ((uA (uA ar 51 (upd (ar 51) k1 0)) 55 (upd ((uA ar 51 (upd (ar 51) k1 0)) 55) k1 0)) 56) k1 0)) lo, ex, 0, 0)) rfl ?_
      refine to_ic_eq_F (t := 128) (x := (nI n11)) (y := (-1)) rfl (nI_neg (by omega) (by decide)) ?_
      refine to_n 1 (fr' := (89, [(0, .ref 49), (1, .int (nI k1)), (2, .int 1)], [.ref 49], gh S a b sc (uA (uA (uA ar 51 (upd (ar 51) k1 0)) 55 (upd ((uA ar 51 (upd (ar 51) k1 0)) 55) k1 0)) 56 (upd ((uA (uA ar 51 (upd (ar 51) k1 0)) 55 (upd ((uA ar 51 (upd (ar 51) k1 0)) 55) k1 0)) 56) k1 0)) lo, ex, 0, 0)) rfl ?_
      refine to_get rfl rfl rfl rfl ?_
      refine to_n 1 (fr' := (93, [(0, .ref 49), (1, .int (nI k1)), (2, .int 1)], [.ref 49, .ref 63], gh S a b sc (uA (uA (uA ar 51 (upd (ar 51) k1 0)) 55 (upd ((uA ar 51 (upd (ar 51) k1 0)) 55) k1 0)) 56 (upd ((uA (uA ar 51 (upd (ar 51) k1 0)) 55 (upd ((uA ar 51 (upd (ar 51) k1 0)) 55) k1 0)) 56) k1 0)) lo, ex, 0, 0)) rfl ?_
      refine to_get rfl rfl rfl rfl ?_
      refine to_n 1 (fr' := (97, [(0, .ref 49), (1, .int (nI k1)), (2, .int 1)], [.int (nI k1), .ref 57, .ref 63], gh S a b sc (uA (uA (uA ar 51 (upd (ar 51) k1 0)) 55 (upd ((uA ar 51 (upd (ar 51) k1 0)) 55) k1 0)) 56 (upd ((uA (uA ar 51 (upd (ar 51) k1 0)) 55 (upd ((uA ar 51 (upd (ar 51) k1 0)) 55) k1 0)) 56) k1 0)) lo, ex, 0, 0)) rfl ?_
      refine to_ialR (i := k1) (v := (nI n11)) rfl (by decide) rfl (by omega) (by omega) e11 ?_
      refine to_n 1 (fr' := (99, [(0, .ref 49), (1, .int (nI k1)), (2, .int 1)], [.int (nI n11), .ref 63, .int (nI n11), .ref 63], gh S a b sc (uA (uA (uA ar 51 (upd (ar 51) k1 0)) 55 (upd ((uA ar 51 (upd (ar 51) k1 0)) 55) k1 0)) 56 (upd ((uA (uA ar 51 (upd (ar 51) k1 0)) 55 (upd ((uA ar 51 (upd (ar 51) k1 0)) 55) k1 0)) 56) k1 0)) lo, ex, 0, 0)) rfl ?_
      refine to_ialR (i := n11) (v := (((uA (uA (uA ar 51 (upd (ar 51) k1 0)) 55 (upd ((uA ar 51 (upd (ar 51) k1 0)) 55) k1 0)) 56 (upd ((uA (uA ar 51 (upd (ar 51) k1 0)) 55 (upd ((uA ar 51 (upd (ar 51) k1 0)) 55) k1 0)) 56) k1 0)) 63) n11)) rfl (by decide) rfl (by omega) (by omega) rfl ?_
      refine to_n 2 (fr' := (102, [(0, .ref 49), (1, .int (nI k1)), (2, .int 1)], [.ref 49, .ref 49, .int (((uA (uA (uA ar 51 (upd (ar 51) k1 0)) 55 (upd ((uA ar 51 (upd (ar 51) k1 0)) 55) k1 0)) 56 (upd ((uA (uA ar 51 (upd (ar 51) k1 0)) 55 (upd ((uA ar 51 (upd (ar 51) k1 0)) 55) k1 0)) 56) k1 0)) 63) n11), .int (nI n11), .ref 63], gh S a b sc (uA (uA (uA ar 51 (upd (ar 51) k1 0)) 55 (upd ((uA ar 51 (upd (ar 51) k1 0)) 55) k1 0)) 56 (upd ((uA (uA ar 51 (upd (ar 51) k1 0)) 55 (upd ((uA ar 51 (upd (ar 51) k1 0)) 55) k1 0)) 56) k1 0)) lo, ex, 0, 0)) rfl ?_
      refine to_get rfl rfl rfl rfl ?_
      refine to_n 1 (fr' := (106, [(0, .ref 49), (1, .int (nI k1)), (2, .int 1)], [.int (nI k1), .ref 57, .ref 49, .int (((uA (uA (uA ar 51 (upd (ar 51) k1 0)) 55 (upd ((uA ar 51 (upd (ar 51) k1 0)) 55) k1 0)) 56 (upd ((uA (uA ar 51 (upd (ar 51) k1 0)) 55 (upd ((uA ar 51 (upd (ar 51) k1 0)) 55) k1 0)) 56) k1 0)) 63) n11), .int (nI n11), .ref 63], gh S a b sc (uA (uA (uA ar 51 (upd (ar 51) k1 0)) 55 (upd ((uA ar 51 (upd (ar 51) k1 0)) 55) k1 0)) 56 (upd ((uA (uA ar 51 (upd (ar 51) k1 0)) 55 (upd ((uA ar 51 (upd (ar 51) k1 0)) 55) k1 0)) 56) k1 0)) lo, ex, 0, 0)) rfl ?_
      refine to_ialR (i := k1) (v := (nI n11)) rfl (by decide) rfl (by omega) (by omega) e11 ?_
      refine to_n 1 (fr' := (108, [(0, .ref 49), (1, .int (nI k1)), (2, .int 1)], [.int (nI k1), .int (nI n11), .ref 49, .int (((uA (uA (uA ar 51 (upd (ar 51) k1 0)) 55 (upd ((uA ar 51 (upd (ar 51) k1 0)) 55) k1 0)) 56 (upd ((uA (uA ar 51 (upd (ar 51) k1 0)) 55 (upd ((uA ar 51 (upd (ar 51) k1 0)) 55) k1 0)) 56) k1 0)) 63) n11), .int (nI n11), .ref 63], gh S a b sc (uA (uA (uA ar 51 (upd (ar 51) k1 0)) 55 (upd ((uA ar 51 (upd (ar 51) k1 0)) 55) k1 0)) 56 (upd ((uA (uA ar 51 (upd (ar 51) k1 0)) 55 (upd ((uA ar 51 (upd (ar 51) k1 0)) 55) k1 0)) 56) k1 0)) lo, ex, 0, 0)) rfl ?_
      refine to_ci (q := 140) (M1 := an_X10_payOf) (rest := [.int (((uA (uA (uA ar 51 (upd (ar 51) k1 0)) 55 (upd ((uA ar 51 (upd (ar 51) k1 0)) 55) k1 0)) 56 (upd ((uA (uA ar 51 (upd (ar 51) k1 0)) 55 (upd ((uA ar 51 (upd (ar 51) k1 0)) 55) k1 0)) 56) k1 0)) 63) n11), .int (nI n11), .ref 63]) rfl rfl (by decide) rfl ⟨_, rfl⟩ (sf_X10_payOf hW hI10 n11 (by omega) k1 (by omega) (lw_fr hL hF10 (by decide) (by decide) (by decide) (by decide)) d) (fun x12 sc12 ar12 hx12 => ?_)
      obtain ⟨hI12, hG12, hx12⟩ := hx12
      have hF12 := fr_t hF10 hG12 (by decide) (by decide)
      have ka12_57_0 : ar12 57 k1 = (nI n11) := (congrFun (hG12.2 57 (by decide)) k1).trans e11
      refine to_eq (fr' := (111, [(0, .ref 49), (1, .int (nI k1)), (2, .int 1)], [.int x12, .int (((uA (uA (uA ar 51 (upd (ar 51) k1 0)) 55 (upd ((uA ar 51 (upd (ar 51) k1 0)) 55) k1 0)) 56 (upd ((uA (uA ar 51 (upd (ar 51) k1 0)) 55 (upd ((uA ar 51 (upd (ar 51) k1 0)) 55) k1 0)) 56) k1 0)) 63) n11), .int (nI n11), .ref 63], gh S a b sc12 ar12 lo, ex, 0, 0)) rfl ?_
      refine to_n 1 (fr' := (112, [(0, .ref 49), (1, .int (nI k1)), (2, .int 1)], [.int ((((uA (uA (uA ar 51 (upd (ar 51) k1 0)) 55 (upd ((uA ar 51 (upd (ar 51) k1 0)) 55) k1 0)) 56 (upd ((uA (uA ar 51 (upd (ar 51) k1 0)) 55 (upd ((uA ar 51 (upd (ar 51) k1 0)) 55) k1 0)) 56) k1 0)) 63) n11) + x12), .int (nI n11), .ref 63], gh S a b sc12 ar12 lo, ex, 0, 0)) rfl ?_
      refine to_iasR (i := n11) (h' := gh S a b sc12 (uA ar12 63 (upd (ar12 63) n11 ((((uA (uA (uA ar 51 (upd (ar 51) k1 0)) 55 (upd ((uA ar 51 (upd (ar 51) k1 0)) 55) k1 0)) 56 (upd ((uA (uA ar 51 (upd (ar 51) k1 0)) 55 (upd ((uA ar 51 (upd (ar 51) k1 0)) 55) k1 0)) 56) k1 0)) 63) n11) + x12))) lo) rfl rfl (by omega) (by omega) rfl ?_
      have hI13 := ia_63 (g := (upd (ar12 63) n11 ((((uA (uA (uA ar 51 (upd (ar 51) k1 0)) 55 (upd ((uA ar 51 (upd (ar 51) k1 0)) 55) k1 0)) 56 (upd ((uA (uA ar 51 (upd (ar 51) k1 0)) 55 (upd ((uA ar 51 (upd (ar 51) k1 0)) 55) k1 0)) 56) k1 0)) 63) n11) + x12))) hI12
      have hF13 := fr_a (c := 63) (g := (upd (ar12 63) n11 ((((uA (uA (uA ar 51 (upd (ar 51) k1 0)) 55 (upd ((uA ar 51 (upd (ar 51) k1 0)) 55) k1 0)) 56 (upd ((uA (uA ar 51 (upd (ar 51) k1 0)) 55 (upd ((uA ar 51 (upd (ar 51) k1 0)) 55) k1 0)) 56) k1 0)) 63) n11) + x12))) hF12 (by decide)
      refine to_n 1 (fr' := (114, [(0, .ref 49), (1, .int (nI k1)), (2, .int 1)], [.ref 49], gh S a b sc12 (uA ar12 63 (upd (ar12 63) n11 ((((uA (uA (uA ar 51 (upd (ar 51) k1 0)) 55 (upd ((uA ar 51 (upd (ar 51) k1 0)) 55) k1 0)) 56 (upd ((uA (uA ar 51 (upd (ar 51) k1 0)) 55 (upd ((uA ar 51 (upd (ar 51) k1 0)) 55) k1 0)) 56) k1 0)) 63) n11) + x12))) lo, ex, 0, 0)) rfl ?_
      refine to_get rfl rfl rfl rfl ?_
      refine to_n 1 (fr' := (118, [(0, .ref 49), (1, .int (nI k1)), (2, .int 1)], [.ref 49, .ref 65], gh S a b sc12 (uA ar12 63 (upd (ar12 63) n11 ((((uA (uA (uA ar 51 (upd (ar 51) k1 0)) 55 (upd ((uA ar 51 (upd (ar 51) k1 0)) 55) k1 0)) 56 (upd ((uA (uA ar 51 (upd (ar 51) k1 0)) 55 (upd ((uA ar 51 (upd (ar 51) k1 0)) 55) k1 0)) 56) k1 0)) 63) n11) + x12))) lo, ex, 0, 0)) rfl ?_
      refine to_get rfl rfl rfl rfl ?_
      refine to_n 1 (fr' := (122, [(0, .ref 49), (1, .int (nI k1)), (2, .int 1)], [.int (nI k1), .ref 57, .ref 65], gh S a b sc12 (uA ar12 63 (upd (ar12 63) n11 ((((uA (uA (uA ar 51 (upd (ar 51) k1 0)) 55 (upd ((uA ar 51 (upd (ar 51) k1 0)) 55) k1 0)) 56 (upd ((uA (uA ar 51 (upd (ar 51) k1 0)) 55 (upd ((uA ar 51 (upd (ar 51) k1 0)) 55) k1 0)) 56) k1 0)) 63) n11) + x12))) lo, ex, 0, 0)) rfl ?_
      refine to_ialR (i := k1) (v := (nI n11)) rfl (by decide) rfl (by omega) (by omega) ka12_57_0 ?_
      refine to_n 1 (fr' := (124, [(0, .ref 49), (1, .int (nI k1)), (2, .int 1)], [.int (nI n11), .ref 65, .int (nI n11), .ref 65], gh S a b sc12 (uA ar12 63 (upd (ar12 63) n11 ((((uA (uA (uA ar 51 (upd (ar 51) k1 0)) 55 (upd ((uA ar 51 (upd (ar 51) k1 0)) 55) k1 0)) 56 (upd ((uA (uA ar 51 (upd (ar 51) k1 0)) 55 (upd ((uA ar 51 (upd (ar 51) k1 0)) 55) k1 0)) 56) k1 0)) 63) n11) + x12))) lo, ex, 0, 0)) rfl ?_
      refine to_ialR (i := n11) (v := (((uA ar12 63 (upd (ar12 63) n11 ((((uA (uA (uA ar 51 (upd (ar 51) k1 0)) 55 (upd ((uA ar 51 (upd (ar 51) k1 0)) 55) k1 0)) 56 (upd ((uA (uA ar 51 (upd (ar 51) k1 0)) 55 (upd ((uA ar 51 (upd (ar 51) k1 0)) 55) k1 0)) 56) k1 0)) 63) n11) + x12))) 65) n11)) rfl (by decide) rfl (by omega) (by omega) rfl ?_
      refine to_n 2 (fr' := (127, [(0, .ref 49), (1, .int (nI k1)), (2, .int 1)], [.int ((((uA ar12 63 (upd (ar12 63) n11 ((((uA (uA (uA ar 51 (upd (ar 51) k1 0)) 55 (upd ((uA ar 51 (upd (ar 51) k1 0)) 55) k1 0)) 56 (upd ((uA (uA ar 51 (upd (ar 51) k1 0)) 55 (upd ((uA ar 51 (upd (ar 51) k1 0)) 55) k1 0)) 56) k1 0)) 63) n11) + x12))) 65) n11) + 1), .int (nI n11), .ref 65], gh S a b sc12 (uA ar12 63 (upd (ar12 63) n11 ((((uA (uA (uA ar 51 (upd (ar 51) k1 0)) 55 (upd ((uA ar 51 (upd (ar 51) k1 0)) 55) k1 0)) 56 (upd ((uA (uA ar 51 (upd (ar 51) k1 0)) 55 (upd ((uA ar 51 (upd (ar 51) k1 0)) 55) k1 0)) 56) k1 0)) 63) n11) + x12))) lo, ex, 0, 0)) rfl ?_
      refine to_iasR (i := n11) (h' := gh S a b sc12 (uA (uA ar12 63 (upd (ar12 63) n11 ((((uA (uA (uA ar 51 (upd (ar 51) k1 0)) 55 (upd ((uA ar 51 (upd (ar 51) k1 0)) 55) k1 0)) 56 (upd ((uA (uA ar 51 (upd (ar 51) k1 0)) 55 (upd ((uA ar 51 (upd (ar 51) k1 0)) 55) k1 0)) 56) k1 0)) 63) n11) + x12))) 65 (upd ((uA ar12 63 (upd (ar12 63) n11 ((((uA (uA (uA ar 51 (upd (ar 51) k1 0)) 55 (upd ((uA ar 51 (upd (ar 51) k1 0)) 55) k1 0)) 56 (upd ((uA (uA ar 51 (upd (ar 51) k1 0)) 55 (upd ((uA ar 51 (upd (ar 51) k1 0)) 55) k1 0)) 56) k1 0)) 63) n11) + x12))) 65) n11 ((((uA ar12 63 (upd (ar12 63) n11 ((((uA (uA (uA ar 51 (upd (ar 51) k1 0)) 55 (upd ((uA ar 51 (upd (ar 51) k1 0)) 55) k1 0)) 56 (upd ((uA (uA ar 51 (upd (ar 51) k1 0)) 55 (upd ((uA ar 51 (upd (ar 51) k1 0)) 55) k1 0)) 56) k1 0)) 63) n11) + x12))) 65) n11) + 1))) lo) rfl rfl (by omega) (by omega) rfl ?_
      have hI14 := ia_65 (g := (upd ((uA ar12 63 (upd (ar12 63) n11 ((((uA (uA (uA ar 51 (upd (ar 51) k1 0)) 55 (upd ((uA ar 51 (upd (ar 51) k1 0)) 55) k1 0)) 56 (upd ((uA (uA ar 51 (upd (ar 51) k1 0)) 55 (upd ((uA ar 51 (upd (ar 51) k1 0)) 55) k1 0)) 56) k1 0)) 63) n11) + x12))) 65) n11 ((((uA ar12 63 (upd (ar12 63) n11 ((((uA (uA (uA ar 51 (upd (ar 51) k1 0)) 55 (upd ((uA ar 51 (upd (ar 51) k1 0)) 55) k1 0)) 56 (upd ((uA (uA ar 51 (upd (ar 51) k1 0)) 55 (upd ((uA ar 51 (upd (ar 51) k1 0)) 55) k1 0)) 56) k1 0)) 63) n11) + x12))) 65) n11) + 1))) hI13
      have hF14 := fr_a (c := 65) (g := (upd ((uA ar12 63 (upd (ar12 63) n11 ((((uA (uA (uA ar 51 (upd (ar 51) k1 0)) 55 (upd ((uA ar 51 (upd (ar 51) k1 0)) 55) k1 0)) 56 (upd ((uA (uA ar 51 (upd (ar 51) k1 0)) 55 (upd ((uA ar 51 (upd (ar 51) k1 0)) 55) k1 0)) 56) k1 0)) 63) n11) + x12))) 65) n11 ((((uA ar12 63 (upd (ar12 63) n11 ((((uA (uA (uA ar 51 (upd (ar 51) k1 0)) 55 (upd ((uA ar 51 (upd (ar 51) k1 0)) 55) k1 0)) 56 (upd ((uA (uA ar 51 (upd (ar 51) k1 0)) 55 (upd ((uA ar 51 (upd (ar 51) k1 0)) 55) k1 0)) 56) k1 0)) 63) n11) + x12))) 65) n11) + 1))) hF13 (by decide)
      refine to_lv (lv := [(0, .ref 49), (1, .int (nI k1))]) rfl ⟨rfl, rfl, trivial⟩ ?_
      exact c128 sc12 (uA (uA ar12 63 (upd (ar12 63) n11 ((((uA (uA (uA ar 51 (upd (ar 51) k1 0)) 55 (upd ((uA ar 51 (upd (ar 51) k1 0)) 55) k1 0)) 56 (upd ((uA (uA ar 51 (upd (ar 51) k1 0)) 55 (upd ((uA ar 51 (upd (ar 51) k1 0)) 55) k1 0)) 56) k1 0)) 63) n11) + x12))) 65 (upd ((uA ar12 63 (upd (ar12 63) n11 ((((uA (uA (uA ar 51 (upd (ar 51) k1 0)) 55 (upd ((uA ar 51 (upd (ar 51) k1 0)) 55) k1 0)) 56 (upd ((uA (uA ar 51 (upd (ar 51) k1 0)) 55 (upd ((uA ar 51 (upd (ar 51) k1 0)) 55) k1 0)) 56) k1 0)) 63) n11) + x12))) 65) n11 ((((uA ar12 63 (upd (ar12 63) n11 ((((uA (uA (uA ar 51 (upd (ar 51) k1 0)) 55 (upd ((uA ar 51 (upd (ar 51) k1 0)) 55) k1 0)) 56 (upd ((uA (uA ar 51 (upd (ar 51) k1 0)) 55 (upd ((uA ar 51 (upd (ar 51) k1 0)) 55) k1 0)) 56) k1 0)) 63) n11) + x12))) 65) n11) + 1))) hI14 hF14
