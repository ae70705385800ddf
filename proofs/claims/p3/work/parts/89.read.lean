/-! the reference's reader: what each of its methods comes to -/
def Rd (sc : Nat → Int32) (ar : Nat → Nat → Int32) (l c B e h : Nat) : Prop := ¬ sc 4941 = 0 ∨ (sc 4941 = 0 ∧ Pz sc ∧ ∃ c' B' : Nat, sc 4934 = nI c' ∧ sc 4939 = nI B' ∧ c ≤ c' ∧ B ≤ B' ∧ B' ≤ 400 ∧ 2 * c' + e ≤ 3 * B' + 1 ∧ seg (ar 71) (700 * l + c) (700 * l + c') h)
def RdOk (X : Nat × (Nat → Int32)) (S a b : Nat) (lo : Nat → Int64) (ex : Bool) (D q w h : Nat) : Prop := ∀ (sc : Nat → Int32) (ar : Nat → Nat → Int32) (l c e B : Nat), Iv S sc ar → l < 6 → sc 4907 = nI l → sc 4934 = nI c → sc 4939 = nI B → B ≤ 400 → sc 4941 = 0 → Pz sc → 2 * c + e ≤ 3 * B → cv X S a b D q [.ref 49, .int (nI w)] sc ar lo ex (fun sc' ar' => Iv S sc' ar' ∧ Fr [4934, 4935, 4937, 4938, 4939, 4940, 4941, 4942] [71] sc ar sc' ar' ∧ (∀ x, x < 700 * l + c → ar' 71 x = ar 71 x) ∧ Rd sc' ar' l c B e h)
theorem nm_ok {n : Nat} (h : n < 8) : ¬ nI (20 + n) = 0 ∧ (20 : Int32) ≤ nI (20 + n) := by
  rcases (show n = 0 ∨ n = 1 ∨ n = 2 ∨ n = 3 ∨ n = 4 ∨ n = 5 ∨ n = 6 ∨ n = 7 by omega) with rfl | rfl | rfl | rfl | rfl | rfl | rfl | rfl <;> decide
theorem kp_st {L A : List Nat} {sc sc' : Nat → Int32} {ar ar' : Nat → Nat → Int32} {k : Nat} {C : Nat → Int32} (h : ∀ x, x < k → ar 71 x = C x) (f : Fr L A sc ar sc' ar') (hA : 71 ∉ A) : ∀ x, x < k → ar' 71 x = C x := fun x w => (congrFun (f.2 71 hA) x).trans (h x w)
theorem sg_st {L A : List Nat} {sc sc' : Nat → Int32} {ar ar' : Nat → Nat → Int32} {i j h : Nat} (s : seg (ar 71) i j h) (f : Fr L A sc ar sc' ar') (hA : 71 ∉ A) : seg (ar' 71) i j h := f.2 71 hA ▸ s
set_option maxRecDepth 20000 in
theorem rd_readPart {X : Nat × (Nat → Int32)} {S a b : Nat} {lo : Nat → Int64} {ex : Bool} (hW : Wd S a b) (w h : Nat) (h1 : 1 ≤ h) (d : Nat) (hE : RdOk X S a b lo ex (d + 5) 128 (w + 1) h) : RdOk X S a b lo ex (d + 6) 131 w h := by
  obtain ⟨ha1, ha8, hb1, hb8, hab, hS1, hS⟩ := id hW
  intro sc ar l c e B hI hl el ec eB hB4 eb hz hp
  refine cv_of (M := an_X10_readPart) rfl (Nat.le_of_ble_eq_true rfl) ?_
  have hF : Fr [4934, 4935, 4937, 4938, 4939, 4940, 4941, 4942] [71] sc ar sc ar := fr_0
  refine to_eq (fr' := (0, [(0, .ref 49), (1, .int (nI w))], [], gh S a b sc ar lo, ex, 0, 0)) rfl ?_
  obtain ⟨B0, q0, r0, z1, z2, z3, z4, z5, z6, z7, z8⟩ := id hz
  have hB0 : B0 = B := (nI_eq (by omega) (by omega)).mp (z1.symm.trans eB)
  have c41 : ∀ m : Nat, ∀ (y : Int32) (i : Nat) (sc1 : Nat → Int32) (ar1 : Nat → Nat → Int32), 400 ≤ i + m → sc1 4934 = nI c → sc1 4939 = nI B → sc1 4907 = nI l → sc1 4941 = 0 → Pz sc1 → (∀ x, x < 700 * l + c → ar1 71 x = ar 71 x) → ¬ sc1 4937 = 0 → i ≤ 400 → Iv S sc1 ar1 → Fr [4934, 4935, 4937, 4938, 4939, 4940, 4941, 4942] [71] sc ar sc1 ar1 → ag_To X (d + 5) an_X10_readPart (41, [(0, .ref 49), (1, .int (nI w)), (2, .int y), (3, .int (nI i))], [], gh S a b sc1 ar1 lo, ex, 0, 0) (qv S a b lo ex (fun sc' ar' => Iv S sc' ar' ∧ Fr [4934, 4935, 4937, 4938, 4939, 4940, 4941, 4942] [71] sc ar sc' ar' ∧ ((∀ x, x < 700 * l + c → ar' 71 x = ar 71 x) ∧ Rd sc' ar' l c B e h))) := by
    intro m
    induction m with
    | zero =>
      intro y i sc1 ar1 hm hc41_0 hc41_1 hc41_2 hc41_3 hc41_4 hc41_5 hc41_6 hc41_7 hI1 hF1
      refine to_n 2 (fr' := (43, [(0, .ref 49), (1, .int (nI w)), (2, .int y), (3, .int (nI i))], [.ref 49, .int (nI i)], gh S a b sc1 ar1 lo, ex, 0, 0)) rfl ?_
      obtain ⟨n2, hn2, e2⟩ := iv_s4940 hI1
      refine to_getR (v := (nI n2)) rfl rfl rfl rfl e2 ?_
      refine to_nc_ge_T (t := 77) (x := i) (y := n2) rfl (by omega) (by omega) (by omega) ?_
      refine to_n 2 (fr' := (79, [(0, .ref 49), (1, .int (nI w)), (2, .int y), (3, .int (nI i))], [.int 0, .ref 49], gh S a b sc1 ar1 lo, ex, 0, 0)) rfl ?_
      refine to_cv (q := 126) (M1 := an_X10_emit) (rest := []) rfl rfl (by decide) rfl ⟨_, rfl⟩ (em_ok hW hI1 0 l c (by omega) (by omega) hc41_3 hc41_2 hc41_0 (d + 4)) (fun sc3 ar3 hx3 => ?_)
      obtain ⟨hI3, hG3, hs3, ha3⟩ := hx3
      have k3_4907 : sc3 4907 = (nI l) := (hG3.1 4907 (by decide)).trans hc41_2
      have k3_4939 : sc3 4939 = (nI B) := (hG3.1 4939 (by decide)).trans hc41_1
      have k3_4941 : sc3 4941 = 0 := (hG3.1 4941 (by decide)).trans hc41_3
      have k3_4934 : sc3 4934 = nI (c + 1) := by rw [hs3]; exact up_eq
      have hc3 : ar3 71 = upd (ar1 71) (700 * l + c) 0 := by rw [ha3]; rfl
      have hv3 : ar3 71 (700 * l + c) = 0 := by rw [hc3]; exact up_eq
      have hu3 : ∀ x, x < 700 * l + c → ar3 71 x = ar1 71 x := fun x w => by rw [hc3]; exact up_ne (by omega)
      have hk3 : ∀ x, x < 700 * l + c → ar3 71 x = ar 71 x := fun x w => (hu3 x (by omega)).trans (hc41_5 x w)
      have hz3 := pz_fr hc41_4 hG3 (by decide) (by decide) (by decide) (by decide) (by decide)
      have hF3 := fr_t hF1 hG3 (by decide) (by decide)
      have ht3 : ¬ sc3 4937 = 0 := fun w => hc41_6 ((hG3.1 4937 (by decide)).symm.trans w)
      refine to_eq (fr' := (82, [(0, .ref 49), (1, .int (nI w)), (2, .int y), (3, .int (nI i))], [], gh S a b sc3 ar3 lo, ex, 0, 0)) rfl ?_
      refine to_n 2 (fr' := (84, [(0, .ref 49), (1, .int (nI w)), (2, .int y), (3, .int (nI i))], [.int y, .ref 49], gh S a b sc3 ar3 lo, ex, 0, 0)) rfl ?_
      refine to_cv (q := 126) (M1 := an_X10_emit) (rest := []) rfl rfl (by decide) rfl ⟨_, rfl⟩ (em_ok hW hI3 y l (c + 1) (by omega) (by omega) k3_4941 k3_4907 k3_4934 (d + 4)) (fun sc4 ar4 hx4 => ?_)
      obtain ⟨hI4, hG4, hs4, ha4⟩ := hx4
      have k4_4907 : sc4 4907 = (nI l) := (hG4.1 4907 (by decide)).trans k3_4907
      have k4_4939 : sc4 4939 = (nI B) := (hG4.1 4939 (by decide)).trans k3_4939
      have k4_4941 : sc4 4941 = 0 := (hG4.1 4941 (by decide)).trans k3_4941
      have k4_4934 : sc4 4934 = nI ((c + 1) + 1) := by rw [hs4]; exact up_eq
      have hc4 : ar4 71 = upd (ar3 71) (700 * l + (c + 1)) y := by rw [ha4]; rfl
      have hv4 : ar4 71 (700 * l + (c + 1)) = y := by rw [hc4]; exact up_eq
      have hu4 : ∀ x, x < 700 * l + (c + 1) → ar4 71 x = ar3 71 x := fun x w => by rw [hc4]; exact up_ne (by omega)
      have hk4 : ∀ x, x < 700 * l + c → ar4 71 x = ar 71 x := fun x w => (hu4 x (by omega)).trans (hk3 x w)
      have hz4 := pz_fr hz3 hG4 (by decide) (by decide) (by decide) (by decide) (by decide)
      have hF4 := fr_t hF3 hG4 (by decide) (by decide)
      have ht4 : ¬ sc4 4937 = 0 := fun w => ht3 ((hG4.1 4937 (by decide)).symm.trans w)
      have hw4 : ar4 71 (700 * l + c) = 0 := (hu4 _ (by omega)).trans hv3
      have sg4 : seg (ar4 71) (700 * l + c) (700 * l + ((c + 1) + 1)) h := seg_push (i := 700 * l + c) (by omega) hw4
      refine to_eq (fr' := (87, [(0, .ref 49), (1, .int (nI w)), (2, .int y), (3, .int (nI i))], [], gh S a b sc4 ar4 lo, ex, 0, 0)) rfl ?_
      refine to_n 2 (fr' := (200, [(0, .ref 49), (1, .int (nI w)), (2, .int y), (3, .int (nI i))], [.ref 49], gh S a b sc4 ar4 lo, ex, 0, 0)) rfl ?_
      refine to_getR (v := 0) rfl rfl rfl rfl k4_4941 ?_
      refine to_n 2 (fr' := (207, [(0, .ref 49), (1, .int (nI w)), (2, .int y), (3, .int (nI i))], [.ref 49], gh S a b sc4 ar4 lo, ex, 0, 0)) rfl ?_
      refine to_cv (q := 122) (M1 := an_X10_step) (rest := []) rfl rfl (by decide) rfl ⟨_, rfl⟩ (st_next hW hI4 k4_4939 (by omega) hz4 ht4 (d + 3)) (fun sc5 ar5 hx5 => ?_)
      obtain ⟨hI5, hG5, hz5, B5, eB5, hB5, hC5⟩ := hx5
      have k5_4907 : sc5 4907 = (nI l) := (hG5.1 4907 (by decide)).trans k4_4907
      have k5_4934 : sc5 4934 = (nI ((c + 1) + 1)) := (hG5.1 4934 (by decide)).trans k4_4934
      have k5_4941 : sc5 4941 = 0 := (hG5.1 4941 (by decide)).trans k4_4941
      have hk5 : ∀ x, x < 700 * l + c → ar5 71 x = ar 71 x := kp_st hk4 hG5 (by decide)
      have sg5_0 := sg_st sg4 hG5 (by decide)
      have hF5 := fr_t hF4 hG5 (by decide) (by decide)
      refine to_eq (fr' := (210, [(0, .ref 49), (1, .int (nI w)), (2, .int y), (3, .int (nI i))], [], gh S a b sc5 ar5 lo, ex, 0, 0)) rfl ?_
      exact to_rt (i := .return_) (tg := []) rfl rfl ⟨_, _, ⟨hI5, hF5, ⟨hk5, Or.inr ⟨k5_4941, hz5, ((c + 1) + 1), B5, k5_4934, eB5, by omega, by omega, by omega, by omega, seg_le sg5_0 (by omega)⟩⟩⟩, rfl⟩
    | succ m ih =>
      intro y i sc1 ar1 hm hc41_0 hc41_1 hc41_2 hc41_3 hc41_4 hc41_5 hc41_6 hc41_7 hI1 hF1
      refine to_n 2 (fr' := (43, [(0, .ref 49), (1, .int (nI w)), (2, .int y), (3, .int (nI i))], [.ref 49, .int (nI i)], gh S a b sc1 ar1 lo, ex, 0, 0)) rfl ?_
      obtain ⟨n6, hn6, e6⟩ := iv_s4940 hI1
      refine to_getR (v := (nI n6)) rfl rfl rfl rfl e6 ?_
      refine to_nc_ge (t := 77) (x := i) (y := n6) rfl (by omega) (by omega) (fun q7 => ?_) (fun q7 => ?_)
      · refine to_n 2 (fr' := (79, [(0, .ref 49), (1, .int (nI w)), (2, .int y), (3, .int (nI i))], [.int 0, .ref 49], gh S a b sc1 ar1 lo, ex, 0, 0)) rfl ?_
        refine to_cv (q := 126) (M1 := an_X10_emit) (rest := []) rfl rfl (by decide) rfl ⟨_, rfl⟩ (em_ok hW hI1 0 l c (by omega) (by omega) hc41_3 hc41_2 hc41_0 (d + 4)) (fun sc8 ar8 hx8 => ?_)
        obtain ⟨hI8, hG8, hs8, ha8⟩ := hx8
        have k8_4907 : sc8 4907 = (nI l) := (hG8.1 4907 (by decide)).trans hc41_2
        have k8_4939 : sc8 4939 = (nI B) := (hG8.1 4939 (by decide)).trans hc41_1
        have k8_4941 : sc8 4941 = 0 := (hG8.1 4941 (by decide)).trans hc41_3
        have k8_4934 : sc8 4934 = nI (c + 1) := by rw [hs8]; exact up_eq
        have hc8 : ar8 71 = upd (ar1 71) (700 * l + c) 0 := by rw [ha8]; rfl
        have hv8 : ar8 71 (700 * l + c) = 0 := by rw [hc8]; exact up_eq
        have hu8 : ∀ x, x < 700 * l + c → ar8 71 x = ar1 71 x := fun x w => by rw [hc8]; exact up_ne (by omega)
        have hk8 : ∀ x, x < 700 * l + c → ar8 71 x = ar 71 x := fun x w => (hu8 x (by omega)).trans (hc41_5 x w)
        have hz8 := pz_fr hc41_4 hG8 (by decide) (by decide) (by decide) (by decide) (by decide)
        have hF8 := fr_t hF1 hG8 (by decide) (by decide)
        have ht8 : ¬ sc8 4937 = 0 := fun w => hc41_6 ((hG8.1 4937 (by decide)).symm.trans w)
        refine to_eq (fr' := (82, [(0, .ref 49), (1, .int (nI w)), (2, .int y), (3, .int (nI i))], [], gh S a b sc8 ar8 lo, ex, 0, 0)) rfl ?_
        refine to_n 2 (fr' := (84, [(0, .ref 49), (1, .int (nI w)), (2, .int y), (3, .int (nI i))], [.int y, .ref 49], gh S a b sc8 ar8 lo, ex, 0, 0)) rfl ?_
        refine to_cv (q := 126) (M1 := an_X10_emit) (rest := []) rfl rfl (by decide) rfl ⟨_, rfl⟩ (em_ok hW hI8 y l (c + 1) (by omega) (by omega) k8_4941 k8_4907 k8_4934 (d + 4)) (fun sc9 ar9 hx9 => ?_)
        obtain ⟨hI9, hG9, hs9, ha9⟩ := hx9
        have k9_4907 : sc9 4907 = (nI l) := (hG9.1 4907 (by decide)).trans k8_4907
        have k9_4939 : sc9 4939 = (nI B) := (hG9.1 4939 (by decide)).trans k8_4939
        have k9_4941 : sc9 4941 = 0 := (hG9.1 4941 (by decide)).trans k8_4941
        have k9_4934 : sc9 4934 = nI ((c + 1) + 1) := by rw [hs9]; exact up_eq
        have hc9 : ar9 71 = upd (ar8 71) (700 * l + (c + 1)) y := by rw [ha9]; rfl
        have hv9 : ar9 71 (700 * l + (c + 1)) = y := by rw [hc9]; exact up_eq
        have hu9 : ∀ x, x < 700 * l + (c + 1) → ar9 71 x = ar8 71 x := fun x w => by rw [hc9]; exact up_ne (by omega)
        have hk9 : ∀ x, x < 700 * l + c → ar9 71 x = ar 71 x := fun x w => (hu9 x (by omega)).trans (hk8 x w)
        have hz9 := pz_fr hz8 hG9 (by decide) (by decide) (by decide) (by decide) (by decide)
        have hF9 := fr_t hF8 hG9 (by decide) (by decide)
        have ht9 : ¬ sc9 4937 = 0 := fun w => ht8 ((hG9.1 4937 (by decide)).symm.trans w)
        have hw9 : ar9 71 (700 * l + c) = 0 := (hu9 _ (by omega)).trans hv8
        have sg9 : seg (ar9 71) (700 * l + c) (700 * l + ((c + 1) + 1)) h := seg_push (i := 700 * l + c) (by omega) hw9
        refine to_eq (fr' := (87, [(0, .ref 49), (1, .int (nI w)), (2, .int y), (3, .int (nI i))], [], gh S a b sc9 ar9 lo, ex, 0, 0)) rfl ?_
        refine to_n 2 (fr' := (200, [(0, .ref 49), (1, .int (nI w)), (2, .int y), (3, .int (nI i))], [.ref 49], gh S a b sc9 ar9 lo, ex, 0, 0)) rfl ?_
        refine to_getR (v := 0) rfl rfl rfl rfl k9_4941 ?_
        refine to_n 2 (fr' := (207, [(0, .ref 49), (1, .int (nI w)), (2, .int y), (3, .int (nI i))], [.ref 49], gh S a b sc9 ar9 lo, ex, 0, 0)) rfl ?_
        refine to_cv (q := 122) (M1 := an_X10_step) (rest := []) rfl rfl (by decide) rfl ⟨_, rfl⟩ (st_next hW hI9 k9_4939 (by omega) hz9 ht9 (d + 3)) (fun sc10 ar10 hx10 => ?_)
        obtain ⟨hI10, hG10, hz10, B10, eB10, hB10, hC10⟩ := hx10
        have k10_4907 : sc10 4907 = (nI l) := (hG10.1 4907 (by decide)).trans k9_4907
        have k10_4934 : sc10 4934 = (nI ((c + 1) + 1)) := (hG10.1 4934 (by decide)).trans k9_4934
        have k10_4941 : sc10 4941 = 0 := (hG10.1 4941 (by decide)).trans k9_4941
        have hk10 : ∀ x, x < 700 * l + c → ar10 71 x = ar 71 x := kp_st hk9 hG10 (by decide)
        have sg10_0 := sg_st sg9 hG10 (by decide)
        have hF10 := fr_t hF9 hG10 (by decide) (by decide)
        refine to_eq (fr' := (210, [(0, .ref 49), (1, .int (nI w)), (2, .int y), (3, .int (nI i))], [], gh S a b sc10 ar10 lo, ex, 0, 0)) rfl ?_
        exact to_rt (i := .return_) (tg := []) rfl rfl ⟨_, _, ⟨hI10, hF10, ⟨hk10, Or.inr ⟨k10_4941, hz10, ((c + 1) + 1), B10, k10_4934, eB10, by omega, by omega, by omega, by omega, seg_le sg10_0 (by omega)⟩⟩⟩, rfl⟩
      · refine to_n 1 (fr' := (50, [(0, .ref 49), (1, .int (nI w)), (2, .int y), (3, .int (nI i))], [.ref 49], gh S a b sc1 ar1 lo, ex, 0, 0)) rfl ?_
        refine to_getR (v := 0) rfl rfl rfl rfl hc41_3 ?_
        refine to_n 5 (fr' := (61, [(0, .ref 49), (1, .int (nI w)), (2, .int y), (3, .int (nI i))], [.ref 49, .int (10 * y)], gh S a b sc1 ar1 lo, ex, 0, 0)) rfl ?_
        refine to_get rfl rfl rfl rfl ?_
        refine to_n 1 (fr' := (65, [(0, .ref 49), (1, .int (nI w)), (2, .int y), (3, .int (nI i))], [.int (nI i), .ref 67, .int (10 * y)], gh S a b sc1 ar1 lo, ex, 0, 0)) rfl ?_
        refine to_ialR (i := i) (v := ((ar1 67) i)) rfl (by decide) rfl (by omega) (by omega) rfl ?_
        refine to_n 5 (fr' := (74, [(0, .ref 49), (1, .int (nI w)), (2, .int (((10 * y) + ((ar1 67) i)) - 48)), (3, .int ((nI i) + 1))], [], gh S a b sc1 ar1 lo, ex, 0, 0)) rfl ?_
        rw [nI_1 i]
        refine to_n 1 (fr' := (41, [(0, .ref 49), (1, .int (nI w)), (2, .int (((10 * y) + ((ar1 67) i)) - 48)), (3, .int (nI (i + 1)))], [], gh S a b sc1 ar1 lo, ex, 0, 0)) rfl ?_
        exact ih (((10 * y) + ((ar1 67) i)) - 48) (i + 1) sc1 ar1 (by omega) hc41_0 hc41_1 hc41_2 hc41_3 hc41_4 hc41_5 hc41_6 (by omega) hI1 hF1
  have c102_8 : ∀ (y : Int32) (sc11 : Nat → Int32) (ar11 : Nat → Nat → Int32), rq y 8 → sc11 4934 = nI c → sc11 4939 = nI B → sc11 4907 = nI l → sc11 4941 = 0 → Pz sc11 → (∀ x, x < 700 * l + c → ar11 71 x = ar 71 x) → ¬ sc11 4937 = 0 → Iv S sc11 ar11 → Fr [4934, 4935, 4937, 4938, 4939, 4940, 4941, 4942] [71] sc ar sc11 ar11 → ag_To X (d + 5) an_X10_readPart (102, [(0, .ref 49), (1, .int (nI w)), (2, .int y), (3, .int 8)], [], gh S a b sc11 ar11 lo, ex, 0, 0) (qv S a b lo ex (fun sc' ar' => Iv S sc' ar' ∧ Fr [4934, 4935, 4937, 4938, 4939, 4940, 4941, 4942] [71] sc ar sc' ar' ∧ ((∀ x, x < 700 * l + c → ar' 71 x = ar 71 x) ∧ Rd sc' ar' l c B e h))) := by
    intro y sc11 ar11 hq_y hc102_0 hc102_1 hc102_2 hc102_3 hc102_4 hc102_5 hc102_6 hI11 hF11
    rcases hq_y with rfl | ⟨n12, hn12, rfl⟩
    · refine to_eq (fr' := (102, [(0, .ref 49), (1, .int (nI w)), (2, .int (-1)), (3, .int 8)], [], gh S a b sc11 ar11 lo, ex, 0, 0)) rfl ?_
      refine to_n 8 (fr' := (136, [(0, .ref 49), (1, .int (nI w)), (2, .int (-1)), (3, .int 8)], [.int 3, .ref 49], gh S a b sc11 ar11 lo, ex, 0, 0)) rfl ?_
      refine to_cv (q := 125) (M1 := an_X10_wrong) (rest := []) rfl rfl (by decide) rfl ⟨_, rfl⟩ (sf_X10_wrong hW hI11 3 (d + 4)) (fun sc13 ar13 hx13 => ?_)
      obtain ⟨hI13, hG13, hx13⟩ := hx13
      have hb13 := hx13 (by decide)
      have k13_4907 : sc13 4907 = (nI l) := (hG13.1 4907 (by decide)).trans hc102_2
      have k13_4934 : sc13 4934 = (nI c) := (hG13.1 4934 (by decide)).trans hc102_0
      have k13_4939 : sc13 4939 = (nI B) := (hG13.1 4939 (by decide)).trans hc102_1
      have hk13 : ∀ x, x < 700 * l + c → ar13 71 x = ar 71 x := kp_st hc102_5 hG13 (by decide)
      have hF13 := fr_t hF11 hG13 (by decide) (by decide)
      refine to_eq (fr' := (139, [(0, .ref 49), (1, .int (nI w)), (2, .int (-1)), (3, .int 8)], [], gh S a b sc13 ar13 lo, ex, 0, 0)) rfl ?_
      refine to_n 4 (fr' := (144, [(0, .ref 49), (1, .int (nI w)), (2, .int (-1)), (3, .int 8)], [.int 19, .ref 49], gh S a b sc13 ar13 lo, ex, 0, 0)) rfl ?_
      refine to_cu (q := 126) (M1 := an_X10_emit) (rest := []) rfl rfl (by decide) rfl ⟨_, rfl⟩ (em_bad 19 hb13 (d + 4)) ?_ 
      refine to_eq (fr' := (147, [(0, .ref 49), (1, .int (nI w)), (2, .int (-1)), (3, .int 8)], [], gh S a b sc13 ar13 lo, ex, 0, 0)) rfl ?_
      refine to_n 2 (fr' := (200, [(0, .ref 49), (1, .int (nI w)), (2, .int (-1)), (3, .int 8)], [.ref 49], gh S a b sc13 ar13 lo, ex, 0, 0)) rfl ?_
      refine to_getR (v := (sc13 4941)) rfl rfl rfl rfl rfl ?_
      refine to_if_ne_T (t := 210) rfl hb13 ?_
      exact to_rt (i := .return_) (tg := []) rfl rfl ⟨_, _, ⟨hI13, hF13, ⟨hk13, Or.inl hb13⟩⟩, rfl⟩
    · refine to_eq (fr' := (102, [(0, .ref 49), (1, .int (nI w)), (2, .int (nI n12)), (3, .int 8)], [], gh S a b sc11 ar11 lo, ex, 0, 0)) rfl ?_
      refine to_n 5 (fr' := (131, [(0, .ref 49), (1, .int (nI w)), (2, .int (nI n12)), (3, .int 8)], [.int (-1), .int (nI n12)], gh S a b sc11 ar11 lo, ex, 0, 0)) rfl ?_
      refine to_ic_ne_T (t := 139) (x := (nI n12)) (y := (-1)) rfl (nI_neg (by omega) (by decide)) ?_
      refine to_n 3 (fr' := (143, [(0, .ref 49), (1, .int (nI w)), (2, .int (nI n12)), (3, .int 8)], [.int (nI n12), .int 20, .ref 49], gh S a b sc11 ar11 lo, ex, 0, 0)) rfl ?_
      refine to_addN (x := 20) (y := n12) rfl ?_
      refine to_cv (q := 126) (M1 := an_X10_emit) (rest := []) rfl rfl (by decide) rfl ⟨_, rfl⟩ (em_ok hW hI11 (nI (20 + n12)) l c (by omega) (by omega) hc102_3 hc102_2 hc102_0 (d + 4)) (fun sc15 ar15 hx15 => ?_)
      obtain ⟨hI15, hG15, hs15, ha15⟩ := hx15
      have k15_4907 : sc15 4907 = (nI l) := (hG15.1 4907 (by decide)).trans hc102_2
      have k15_4939 : sc15 4939 = (nI B) := (hG15.1 4939 (by decide)).trans hc102_1
      have k15_4941 : sc15 4941 = 0 := (hG15.1 4941 (by decide)).trans hc102_3
      have k15_4934 : sc15 4934 = nI (c + 1) := by rw [hs15]; exact up_eq
      have hc15 : ar15 71 = upd (ar11 71) (700 * l + c) (nI (20 + n12)) := by rw [ha15]; rfl
      have hv15 : ar15 71 (700 * l + c) = (nI (20 + n12)) := by rw [hc15]; exact up_eq
      have hu15 : ∀ x, x < 700 * l + c → ar15 71 x = ar11 71 x := fun x w => by rw [hc15]; exact up_ne (by omega)
      have hk15 : ∀ x, x < 700 * l + c → ar15 71 x = ar 71 x := fun x w => (hu15 x (by omega)).trans (hc102_5 x w)
      have hz15 := pz_fr hc102_4 hG15 (by decide) (by decide) (by decide) (by decide) (by decide)
      have hF15 := fr_t hF11 hG15 (by decide) (by decide)
      have ht15 : ¬ sc15 4937 = 0 := fun w => hc102_6 ((hG15.1 4937 (by decide)).symm.trans w)
      have sg15 : seg (ar15 71) (700 * l + c) (700 * l + (c + 1)) h := seg_name (i := 700 * l + c) (by omega) hv15 (nm_ok (n := n12) (by omega)).1 (nm_ok (n := n12) (by omega)).2
      refine to_eq (fr' := (147, [(0, .ref 49), (1, .int (nI w)), (2, .int (nI n12)), (3, .int 8)], [], gh S a b sc15 ar15 lo, ex, 0, 0)) rfl ?_
      refine to_n 2 (fr' := (200, [(0, .ref 49), (1, .int (nI w)), (2, .int (nI n12)), (3, .int 8)], [.ref 49], gh S a b sc15 ar15 lo, ex, 0, 0)) rfl ?_
      refine to_getR (v := 0) rfl rfl rfl rfl k15_4941 ?_
      refine to_n 2 (fr' := (207, [(0, .ref 49), (1, .int (nI w)), (2, .int (nI n12)), (3, .int 8)], [.ref 49], gh S a b sc15 ar15 lo, ex, 0, 0)) rfl ?_
      refine to_cv (q := 122) (M1 := an_X10_step) (rest := []) rfl rfl (by decide) rfl ⟨_, rfl⟩ (st_next hW hI15 k15_4939 (by omega) hz15 ht15 (d + 3)) (fun sc16 ar16 hx16 => ?_)
      obtain ⟨hI16, hG16, hz16, B16, eB16, hB16, hC16⟩ := hx16
      have k16_4907 : sc16 4907 = (nI l) := (hG16.1 4907 (by decide)).trans k15_4907
      have k16_4934 : sc16 4934 = (nI (c + 1)) := (hG16.1 4934 (by decide)).trans k15_4934
      have k16_4941 : sc16 4941 = 0 := (hG16.1 4941 (by decide)).trans k15_4941
      have hk16 : ∀ x, x < 700 * l + c → ar16 71 x = ar 71 x := kp_st hk15 hG16 (by decide)
      have sg16_0 := sg_st sg15 hG16 (by decide)
      have hF16 := fr_t hF15 hG16 (by decide) (by decide)
      refine to_eq (fr' := (210, [(0, .ref 49), (1, .int (nI w)), (2, .int (nI n12)), (3, .int 8)], [], gh S a b sc16 ar16 lo, ex, 0, 0)) rfl ?_
      exact to_rt (i := .return_) (tg := []) rfl rfl ⟨_, _, ⟨hI16, hF16, ⟨hk16, Or.inr ⟨k16_4941, hz16, (c + 1), B16, k16_4934, eB16, by omega, by omega, by omega, by omega, seg_le sg16_0 (by omega)⟩⟩⟩, rfl⟩
  have c102_7 : ∀ (y : Int32) (sc17 : Nat → Int32) (ar17 : Nat → Nat → Int32), rq y 8 → sc17 4934 = nI c → sc17 4939 = nI B → sc17 4907 = nI l → sc17 4941 = 0 → Pz sc17 → (∀ x, x < 700 * l + c → ar17 71 x = ar 71 x) → ¬ sc17 4937 = 0 → Iv S sc17 ar17 → Fr [4934, 4935, 4937, 4938, 4939, 4940, 4941, 4942] [71] sc ar sc17 ar17 → ag_To X (d + 5) an_X10_readPart (102, [(0, .ref 49), (1, .int (nI w)), (2, .int y), (3, .int 7)], [], gh S a b sc17 ar17 lo, ex, 0, 0) (qv S a b lo ex (fun sc' ar' => Iv S sc' ar' ∧ Fr [4934, 4935, 4937, 4938, 4939, 4940, 4941, 4942] [71] sc ar sc' ar' ∧ ((∀ x, x < 700 * l + c → ar' 71 x = ar 71 x) ∧ Rd sc' ar' l c B e h))) := by
    intro y sc17 ar17 hq_y hc102_0 hc102_1 hc102_2 hc102_3 hc102_4 hc102_5 hc102_6 hI17 hF17
    rcases hq_y with rfl | ⟨n18, hn18, rfl⟩
    · refine to_eq (fr' := (102, [(0, .ref 49), (1, .int (nI w)), (2, .int (-1)), (3, .int 7)], [], gh S a b sc17 ar17 lo, ex, 0, 0)) rfl ?_
      refine to_n 5 (fr' := (110, [(0, .ref 49), (1, .int (nI w)), (2, .int (-1)), (3, .int 7)], [.ref 49, .ref 49], gh S a b sc17 ar17 lo, ex, 0, 0)) rfl ?_
      refine to_get rfl rfl rfl rfl ?_
      refine to_n 2 (fr' := (115, [(0, .ref 49), (1, .int (nI w)), (2, .int (-1)), (3, .int 7)], [.ref 1000030, .ref 49], gh S a b sc17 ar17 lo, ex, 0, 0)) rfl ?_
      refine to_cp (q := 123) (M1 := an_X10_isWord) (rest := []) rfl rfl (by decide) rfl ⟨_, rfl⟩ (sf_X10_isWord hW hI17 29 (by omega) (d + 4)) (fun x19 hx19 => ?_)
      obtain ⟨⟨n19, hn19, rfl⟩, hp19⟩ := hx19
      refine to_eq (fr' := (118, [(0, .ref 49), (1, .int (nI w)), (2, .int (-1)), (3, .int 7)], [.int (nI n19)], gh S a b sc17 ar17 lo, ex, 0, 0)) rfl ?_
      refine to_nf_eq (t := 123) (x := n19) rfl (by omega) (fun q20 => ?_) (fun q20 => ?_)
      · refine to_n 2 (fr' := (102, [(0, .ref 49), (1, .int (nI w)), (2, .int (-1)), (3, .int 8)], [], gh S a b sc17 ar17 lo, ex, 0, 0)) rfl ?_
        exact c102_8 (-1) sc17 ar17 (rq_m) hc102_0 hc102_1 hc102_2 hc102_3 hc102_4 hc102_5 hc102_6 hI17 hF17
      · refine to_n 4 (fr' := (102, [(0, .ref 49), (1, .int (nI w)), (2, .int 7), (3, .int 8)], [], gh S a b sc17 ar17 lo, ex, 0, 0)) rfl ?_
        exact c102_8 7 sc17 ar17 (rq_n (n := 7) (by omega)) hc102_0 hc102_1 hc102_2 hc102_3 hc102_4 hc102_5 (tok_nz (iw_tok hn19 hp19 q20) (by decide)) hI17 hF17
    · refine to_eq (fr' := (102, [(0, .ref 49), (1, .int (nI w)), (2, .int (nI n18)), (3, .int 7)], [], gh S a b sc17 ar17 lo, ex, 0, 0)) rfl ?_
      refine to_n 5 (fr' := (110, [(0, .ref 49), (1, .int (nI w)), (2, .int (nI n18)), (3, .int 7)], [.ref 49, .ref 49], gh S a b sc17 ar17 lo, ex, 0, 0)) rfl ?_
      refine to_get rfl rfl rfl rfl ?_
      refine to_n 2 (fr' := (115, [(0, .ref 49), (1, .int (nI w)), (2, .int (nI n18)), (3, .int 7)], [.ref 1000030, .ref 49], gh S a b sc17 ar17 lo, ex, 0, 0)) rfl ?_
      refine to_cp (q := 123) (M1 := an_X10_isWord) (rest := []) rfl rfl (by decide) rfl ⟨_, rfl⟩ (sf_X10_isWord hW hI17 29 (by omega) (d + 4)) (fun x21 hx21 => ?_)
      obtain ⟨⟨n21, hn21, rfl⟩, hp21⟩ := hx21
      refine to_eq (fr' := (118, [(0, .ref 49), (1, .int (nI w)), (2, .int (nI n18)), (3, .int 7)], [.int (nI n21)], gh S a b sc17 ar17 lo, ex, 0, 0)) rfl ?_
      refine to_nf_eq (t := 123) (x := n21) rfl (by omega) (fun q22 => ?_) (fun q22 => ?_)
      · refine to_n 2 (fr' := (102, [(0, .ref 49), (1, .int (nI w)), (2, .int (nI n18)), (3, .int 8)], [], gh S a b sc17 ar17 lo, ex, 0, 0)) rfl ?_
        exact c102_8 (nI n18) sc17 ar17 (rq_n (n := n18) (by omega)) hc102_0 hc102_1 hc102_2 hc102_3 hc102_4 hc102_5 hc102_6 hI17 hF17
      · refine to_n 4 (fr' := (102, [(0, .ref 49), (1, .int (nI w)), (2, .int 7), (3, .int 8)], [], gh S a b sc17 ar17 lo, ex, 0, 0)) rfl ?_
        exact c102_8 7 sc17 ar17 (rq_n (n := 7) (by omega)) hc102_0 hc102_1 hc102_2 hc102_3 hc102_4 hc102_5 (tok_nz (iw_tok hn21 hp21 q22) (by decide)) hI17 hF17
  have c102_6 : ∀ (y : Int32) (sc23 : Nat → Int32) (ar23 : Nat → Nat → Int32), rq y 8 → sc23 4934 = nI c → sc23 4939 = nI B → sc23 4907 = nI l → sc23 4941 = 0 → Pz sc23 → (∀ x, x < 700 * l + c → ar23 71 x = ar 71 x) → ¬ sc23 4937 = 0 → Iv S sc23 ar23 → Fr [4934, 4935, 4937, 4938, 4939, 4940, 4941, 4942] [71] sc ar sc23 ar23 → ag_To X (d + 5) an_X10_readPart (102, [(0, .ref 49), (1, .int (nI w)), (2, .int y), (3, .int 6)], [], gh S a b sc23 ar23 lo, ex, 0, 0) (qv S a b lo ex (fun sc' ar' => Iv S sc' ar' ∧ Fr [4934, 4935, 4937, 4938, 4939, 4940, 4941, 4942] [71] sc ar sc' ar' ∧ ((∀ x, x < 700 * l + c → ar' 71 x = ar 71 x) ∧ Rd sc' ar' l c B e h))) := by
    intro y sc23 ar23 hq_y hc102_0 hc102_1 hc102_2 hc102_3 hc102_4 hc102_5 hc102_6 hI23 hF23
    rcases hq_y with rfl | ⟨n24, hn24, rfl⟩
    · refine to_eq (fr' := (102, [(0, .ref 49), (1, .int (nI w)), (2, .int (-1)), (3, .int 6)], [], gh S a b sc23 ar23 lo, ex, 0, 0)) rfl ?_
      refine to_n 5 (fr' := (110, [(0, .ref 49), (1, .int (nI w)), (2, .int (-1)), (3, .int 6)], [.ref 49, .ref 49], gh S a b sc23 ar23 lo, ex, 0, 0)) rfl ?_
      refine to_get rfl rfl rfl rfl ?_
      refine to_n 2 (fr' := (115, [(0, .ref 49), (1, .int (nI w)), (2, .int (-1)), (3, .int 6)], [.ref 1000029, .ref 49], gh S a b sc23 ar23 lo, ex, 0, 0)) rfl ?_
      refine to_cp (q := 123) (M1 := an_X10_isWord) (rest := []) rfl rfl (by decide) rfl ⟨_, rfl⟩ (sf_X10_isWord hW hI23 28 (by omega) (d + 4)) (fun x25 hx25 => ?_)
      obtain ⟨⟨n25, hn25, rfl⟩, hp25⟩ := hx25
      refine to_eq (fr' := (118, [(0, .ref 49), (1, .int (nI w)), (2, .int (-1)), (3, .int 6)], [.int (nI n25)], gh S a b sc23 ar23 lo, ex, 0, 0)) rfl ?_
      refine to_nf_eq (t := 123) (x := n25) rfl (by omega) (fun q26 => ?_) (fun q26 => ?_)
      · refine to_n 2 (fr' := (102, [(0, .ref 49), (1, .int (nI w)), (2, .int (-1)), (3, .int 7)], [], gh S a b sc23 ar23 lo, ex, 0, 0)) rfl ?_
        exact c102_7 (-1) sc23 ar23 (rq_m) hc102_0 hc102_1 hc102_2 hc102_3 hc102_4 hc102_5 hc102_6 hI23 hF23
      · refine to_n 4 (fr' := (102, [(0, .ref 49), (1, .int (nI w)), (2, .int 6), (3, .int 7)], [], gh S a b sc23 ar23 lo, ex, 0, 0)) rfl ?_
        exact c102_7 6 sc23 ar23 (rq_n (n := 6) (by omega)) hc102_0 hc102_1 hc102_2 hc102_3 hc102_4 hc102_5 (tok_nz (iw_tok hn25 hp25 q26) (by decide)) hI23 hF23
    · refine to_eq (fr' := (102, [(0, .ref 49), (1, .int (nI w)), (2, .int (nI n24)), (3, .int 6)], [], gh S a b sc23 ar23 lo, ex, 0, 0)) rfl ?_
      refine to_n 5 (fr' := (110, [(0, .ref 49), (1, .int (nI w)), (2, .int (nI n24)), (3, .int 6)], [.ref 49, .ref 49], gh S a b sc23 ar23 lo, ex, 0, 0)) rfl ?_
      refine to_get rfl rfl rfl rfl ?_
      refine to_n 2 (fr' := (115, [(0, .ref 49), (1, .int (nI w)), (2, .int (nI n24)), (3, .int 6)], [.ref 1000029, .ref 49], gh S a b sc23 ar23 lo, ex, 0, 0)) rfl ?_
      refine to_cp (q := 123) (M1 := an_X10_isWord) (rest := []) rfl rfl (by decide) rfl ⟨_, rfl⟩ (sf_X10_isWord hW hI23 28 (by omega) (d + 4)) (fun x27 hx27 => ?_)
      obtain ⟨⟨n27, hn27, rfl⟩, hp27⟩ := hx27
      refine to_eq (fr' := (118, [(0, .ref 49), (1, .int (nI w)), (2, .int (nI n24)), (3, .int 6)], [.int (nI n27)], gh S a b sc23 ar23 lo, ex, 0, 0)) rfl ?_
      refine to_nf_eq (t := 123) (x := n27) rfl (by omega) (fun q28 => ?_) (fun q28 => ?_)
      · refine to_n 2 (fr' := (102, [(0, .ref 49), (1, .int (nI w)), (2, .int (nI n24)), (3, .int 7)], [], gh S a b sc23 ar23 lo, ex, 0, 0)) rfl ?_
        exact c102_7 (nI n24) sc23 ar23 (rq_n (n := n24) (by omega)) hc102_0 hc102_1 hc102_2 hc102_3 hc102_4 hc102_5 hc102_6 hI23 hF23
      · refine to_n 4 (fr' := (102, [(0, .ref 49), (1, .int (nI w)), (2, .int 6), (3, .int 7)], [], gh S a b sc23 ar23 lo, ex, 0, 0)) rfl ?_
        exact c102_7 6 sc23 ar23 (rq_n (n := 6) (by omega)) hc102_0 hc102_1 hc102_2 hc102_3 hc102_4 hc102_5 (tok_nz (iw_tok hn27 hp27 q28) (by decide)) hI23 hF23
  have c102_5 : ∀ (y : Int32) (sc29 : Nat → Int32) (ar29 : Nat → Nat → Int32), rq y 8 → sc29 4934 = nI c → sc29 4939 = nI B → sc29 4907 = nI l → sc29 4941 = 0 → Pz sc29 → (∀ x, x < 700 * l + c → ar29 71 x = ar 71 x) → ¬ sc29 4937 = 0 → Iv S sc29 ar29 → Fr [4934, 4935, 4937, 4938, 4939, 4940, 4941, 4942] [71] sc ar sc29 ar29 → ag_To X (d + 5) an_X10_readPart (102, [(0, .ref 49), (1, .int (nI w)), (2, .int y), (3, .int 5)], [], gh S a b sc29 ar29 lo, ex, 0, 0) (qv S a b lo ex (fun sc' ar' => Iv S sc' ar' ∧ Fr [4934, 4935, 4937, 4938, 4939, 4940, 4941, 4942] [71] sc ar sc' ar' ∧ ((∀ x, x < 700 * l + c → ar' 71 x = ar 71 x) ∧ Rd sc' ar' l c B e h))) := by
    intro y sc29 ar29 hq_y hc102_0 hc102_1 hc102_2 hc102_3 hc102_4 hc102_5 hc102_6 hI29 hF29
    rcases hq_y with rfl | ⟨n30, hn30, rfl⟩
    · refine to_eq (fr' := (102, [(0, .ref 49), (1, .int (nI w)), (2, .int (-1)), (3, .int 5)], [], gh S a b sc29 ar29 lo, ex, 0, 0)) rfl ?_
      refine to_n 5 (fr' := (110, [(0, .ref 49), (1, .int (nI w)), (2, .int (-1)), (3, .int 5)], [.ref 49, .ref 49], gh S a b sc29 ar29 lo, ex, 0, 0)) rfl ?_
      refine to_get rfl rfl rfl rfl ?_
      refine to_n 2 (fr' := (115, [(0, .ref 49), (1, .int (nI w)), (2, .int (-1)), (3, .int 5)], [.ref 1000028, .ref 49], gh S a b sc29 ar29 lo, ex, 0, 0)) rfl ?_
      refine to_cp (q := 123) (M1 := an_X10_isWord) (rest := []) rfl rfl (by decide) rfl ⟨_, rfl⟩ (sf_X10_isWord hW hI29 27 (by omega) (d + 4)) (fun x31 hx31 => ?_)
      obtain ⟨⟨n31, hn31, rfl⟩, hp31⟩ := hx31
      refine to_eq (fr' := (118, [(0, .ref 49), (1, .int (nI w)), (2, .int (-1)), (3, .int 5)], [.int (nI n31)], gh S a b sc29 ar29 lo, ex, 0, 0)) rfl ?_
      refine to_nf_eq (t := 123) (x := n31) rfl (by omega) (fun q32 => ?_) (fun q32 => ?_)
      · refine to_n 2 (fr' := (102, [(0, .ref 49), (1, .int (nI w)), (2, .int (-1)), (3, .int 6)], [], gh S a b sc29 ar29 lo, ex, 0, 0)) rfl ?_
        exact c102_6 (-1) sc29 ar29 (rq_m) hc102_0 hc102_1 hc102_2 hc102_3 hc102_4 hc102_5 hc102_6 hI29 hF29
      · refine to_n 4 (fr' := (102, [(0, .ref 49), (1, .int (nI w)), (2, .int 5), (3, .int 6)], [], gh S a b sc29 ar29 lo, ex, 0, 0)) rfl ?_
        exact c102_6 5 sc29 ar29 (rq_n (n := 5) (by omega)) hc102_0 hc102_1 hc102_2 hc102_3 hc102_4 hc102_5 (tok_nz (iw_tok hn31 hp31 q32) (by decide)) hI29 hF29
    · refine to_eq (fr' := (102, [(0, .ref 49), (1, .int (nI w)), (2, .int (nI n30)), (3, .int 5)], [], gh S a b sc29 ar29 lo, ex, 0, 0)) rfl ?_
      refine to_n 5 (fr' := (110, [(0, .ref 49), (1, .int (nI w)), (2, .int (nI n30)), (3, .int 5)], [.ref 49, .ref 49], gh S a b sc29 ar29 lo, ex, 0, 0)) rfl ?_
      refine to_get rfl rfl rfl rfl ?_
      refine to_n 2 (fr' := (115, [(0, .ref 49), (1, .int (nI w)), (2, .int (nI n30)), (3, .int 5)], [.ref 1000028, .ref 49], gh S a b sc29 ar29 lo, ex, 0, 0)) rfl ?_
      refine to_cp (q := 123) (M1 := an_X10_isWord) (rest := []) rfl rfl (by decide) rfl ⟨_, rfl⟩ (sf_X10_isWord hW hI29 27 (by omega) (d + 4)) (fun x33 hx33 => ?_)
      obtain ⟨⟨n33, hn33, rfl⟩, hp33⟩ := hx33
      refine to_eq (fr' := (118, [(0, .ref 49), (1, .int (nI w)), (2, .int (nI n30)), (3, .int 5)], [.int (nI n33)], gh S a b sc29 ar29 lo, ex, 0, 0)) rfl ?_
      refine to_nf_eq (t := 123) (x := n33) rfl (by omega) (fun q34 => ?_) (fun q34 => ?_)
      · refine to_n 2 (fr' := (102, [(0, .ref 49), (1, .int (nI w)), (2, .int (nI n30)), (3, .int 6)], [], gh S a b sc29 ar29 lo, ex, 0, 0)) rfl ?_
        exact c102_6 (nI n30) sc29 ar29 (rq_n (n := n30) (by omega)) hc102_0 hc102_1 hc102_2 hc102_3 hc102_4 hc102_5 hc102_6 hI29 hF29
      · refine to_n 4 (fr' := (102, [(0, .ref 49), (1, .int (nI w)), (2, .int 5), (3, .int 6)], [], gh S a b sc29 ar29 lo, ex, 0, 0)) rfl ?_
        exact c102_6 5 sc29 ar29 (rq_n (n := 5) (by omega)) hc102_0 hc102_1 hc102_2 hc102_3 hc102_4 hc102_5 (tok_nz (iw_tok hn33 hp33 q34) (by decide)) hI29 hF29
  have c102_4 : ∀ (y : Int32) (sc35 : Nat → Int32) (ar35 : Nat → Nat → Int32), rq y 8 → sc35 4934 = nI c → sc35 4939 = nI B → sc35 4907 = nI l → sc35 4941 = 0 → Pz sc35 → (∀ x, x < 700 * l + c → ar35 71 x = ar 71 x) → ¬ sc35 4937 = 0 → Iv S sc35 ar35 → Fr [4934, 4935, 4937, 4938, 4939, 4940, 4941, 4942] [71] sc ar sc35 ar35 → ag_To X (d + 5) an_X10_readPart (102, [(0, .ref 49), (1, .int (nI w)), (2, .int y), (3, .int 4)], [], gh S a b sc35 ar35 lo, ex, 0, 0) (qv S a b lo ex (fun sc' ar' => Iv S sc' ar' ∧ Fr [4934, 4935, 4937, 4938, 4939, 4940, 4941, 4942] [71] sc ar sc' ar' ∧ ((∀ x, x < 700 * l + c → ar' 71 x = ar 71 x) ∧ Rd sc' ar' l c B e h))) := by
    intro y sc35 ar35 hq_y hc102_0 hc102_1 hc102_2 hc102_3 hc102_4 hc102_5 hc102_6 hI35 hF35
    rcases hq_y with rfl | ⟨n36, hn36, rfl⟩
    · refine to_eq (fr' := (102, [(0, .ref 49), (1, .int (nI w)), (2, .int (-1)), (3, .int 4)], [], gh S a b sc35 ar35 lo, ex, 0, 0)) rfl ?_
      refine to_n 5 (fr' := (110, [(0, .ref 49), (1, .int (nI w)), (2, .int (-1)), (3, .int 4)], [.ref 49, .ref 49], gh S a b sc35 ar35 lo, ex, 0, 0)) rfl ?_
      refine to_get rfl rfl rfl rfl ?_
      refine to_n 2 (fr' := (115, [(0, .ref 49), (1, .int (nI w)), (2, .int (-1)), (3, .int 4)], [.ref 1000027, .ref 49], gh S a b sc35 ar35 lo, ex, 0, 0)) rfl ?_
      refine to_cp (q := 123) (M1 := an_X10_isWord) (rest := []) rfl rfl (by decide) rfl ⟨_, rfl⟩ (sf_X10_isWord hW hI35 26 (by omega) (d + 4)) (fun x37 hx37 => ?_)
      obtain ⟨⟨n37, hn37, rfl⟩, hp37⟩ := hx37
      refine to_eq (fr' := (118, [(0, .ref 49), (1, .int (nI w)), (2, .int (-1)), (3, .int 4)], [.int (nI n37)], gh S a b sc35 ar35 lo, ex, 0, 0)) rfl ?_
      refine to_nf_eq (t := 123) (x := n37) rfl (by omega) (fun q38 => ?_) (fun q38 => ?_)
      · refine to_n 2 (fr' := (102, [(0, .ref 49), (1, .int (nI w)), (2, .int (-1)), (3, .int 5)], [], gh S a b sc35 ar35 lo, ex, 0, 0)) rfl ?_
        exact c102_5 (-1) sc35 ar35 (rq_m) hc102_0 hc102_1 hc102_2 hc102_3 hc102_4 hc102_5 hc102_6 hI35 hF35
      · refine to_n 4 (fr' := (102, [(0, .ref 49), (1, .int (nI w)), (2, .int 4), (3, .int 5)], [], gh S a b sc35 ar35 lo, ex, 0, 0)) rfl ?_
        exact c102_5 4 sc35 ar35 (rq_n (n := 4) (by omega)) hc102_0 hc102_1 hc102_2 hc102_3 hc102_4 hc102_5 (tok_nz (iw_tok hn37 hp37 q38) (by decide)) hI35 hF35
    · refine to_eq (fr' := (102, [(0, .ref 49), (1, .int (nI w)), (2, .int (nI n36)), (3, .int 4)], [], gh S a b sc35 ar35 lo, ex, 0, 0)) rfl ?_
      refine to_n 5 (fr' := (110, [(0, .ref 49), (1, .int (nI w)), (2, .int (nI n36)), (3, .int 4)], [.ref 49, .ref 49], gh S a b sc35 ar35 lo, ex, 0, 0)) rfl ?_
      refine to_get rfl rfl rfl rfl ?_
      refine to_n 2 (fr' := (115, [(0, .ref 49), (1, .int (nI w)), (2, .int (nI n36)), (3, .int 4)], [.ref 1000027, .ref 49], gh S a b sc35 ar35 lo, ex, 0, 0)) rfl ?_
      refine to_cp (q := 123) (M1 := an_X10_isWord) (rest := []) rfl rfl (by decide) rfl ⟨_, rfl⟩ (sf_X10_isWord hW hI35 26 (by omega) (d + 4)) (fun x39 hx39 => ?_)
      obtain ⟨⟨n39, hn39, rfl⟩, hp39⟩ := hx39
      refine to_eq (fr' := (118, [(0, .ref 49), (1, .int (nI w)), (2, .int (nI n36)), (3, .int 4)], [.int (nI n39)], gh S a b sc35 ar35 lo, ex, 0, 0)) rfl ?_
      refine to_nf_eq (t := 123) (x := n39) rfl (by omega) (fun q40 => ?_) (fun q40 => ?_)
      · refine to_n 2 (fr' := (102, [(0, .ref 49), (1, .int (nI w)), (2, .int (nI n36)), (3, .int 5)], [], gh S a b sc35 ar35 lo, ex, 0, 0)) rfl ?_
        exact c102_5 (nI n36) sc35 ar35 (rq_n (n := n36) (by omega)) hc102_0 hc102_1 hc102_2 hc102_3 hc102_4 hc102_5 hc102_6 hI35 hF35
      · refine to_n 4 (fr' := (102, [(0, .ref 49), (1, .int (nI w)), (2, .int 4), (3, .int 5)], [], gh S a b sc35 ar35 lo, ex, 0, 0)) rfl ?_
        exact c102_5 4 sc35 ar35 (rq_n (n := 4) (by omega)) hc102_0 hc102_1 hc102_2 hc102_3 hc102_4 hc102_5 (tok_nz (iw_tok hn39 hp39 q40) (by decide)) hI35 hF35
  have c102_3 : ∀ (y : Int32) (sc41 : Nat → Int32) (ar41 : Nat → Nat → Int32), rq y 8 → sc41 4934 = nI c → sc41 4939 = nI B → sc41 4907 = nI l → sc41 4941 = 0 → Pz sc41 → (∀ x, x < 700 * l + c → ar41 71 x = ar 71 x) → ¬ sc41 4937 = 0 → Iv S sc41 ar41 → Fr [4934, 4935, 4937, 4938, 4939, 4940, 4941, 4942] [71] sc ar sc41 ar41 → ag_To X (d + 5) an_X10_readPart (102, [(0, .ref 49), (1, .int (nI w)), (2, .int y), (3, .int 3)], [], gh S a b sc41 ar41 lo, ex, 0, 0) (qv S a b lo ex (fun sc' ar' => Iv S sc' ar' ∧ Fr [4934, 4935, 4937, 4938, 4939, 4940, 4941, 4942] [71] sc ar sc' ar' ∧ ((∀ x, x < 700 * l + c → ar' 71 x = ar 71 x) ∧ Rd sc' ar' l c B e h))) := by
    intro y sc41 ar41 hq_y hc102_0 hc102_1 hc102_2 hc102_3 hc102_4 hc102_5 hc102_6 hI41 hF41
    rcases hq_y with rfl | ⟨n42, hn42, rfl⟩
    · refine to_eq (fr' := (102, [(0, .ref 49), (1, .int (nI w)), (2, .int (-1)), (3, .int 3)], [], gh S a b sc41 ar41 lo, ex, 0, 0)) rfl ?_
      refine to_n 5 (fr' := (110, [(0, .ref 49), (1, .int (nI w)), (2, .int (-1)), (3, .int 3)], [.ref 49, .ref 49], gh S a b sc41 ar41 lo, ex, 0, 0)) rfl ?_
      refine to_get rfl rfl rfl rfl ?_
      refine to_n 2 (fr' := (115, [(0, .ref 49), (1, .int (nI w)), (2, .int (-1)), (3, .int 3)], [.ref 1000026, .ref 49], gh S a b sc41 ar41 lo, ex, 0, 0)) rfl ?_
      refine to_cp (q := 123) (M1 := an_X10_isWord) (rest := []) rfl rfl (by decide) rfl ⟨_, rfl⟩ (sf_X10_isWord hW hI41 25 (by omega) (d + 4)) (fun x43 hx43 => ?_)
      obtain ⟨⟨n43, hn43, rfl⟩, hp43⟩ := hx43
      refine to_eq (fr' := (118, [(0, .ref 49), (1, .int (nI w)), (2, .int (-1)), (3, .int 3)], [.int (nI n43)], gh S a b sc41 ar41 lo, ex, 0, 0)) rfl ?_
      refine to_nf_eq (t := 123) (x := n43) rfl (by omega) (fun q44 => ?_) (fun q44 => ?_)
      · refine to_n 2 (fr' := (102, [(0, .ref 49), (1, .int (nI w)), (2, .int (-1)), (3, .int 4)], [], gh S a b sc41 ar41 lo, ex, 0, 0)) rfl ?_
        exact c102_4 (-1) sc41 ar41 (rq_m) hc102_0 hc102_1 hc102_2 hc102_3 hc102_4 hc102_5 hc102_6 hI41 hF41
      · refine to_n 4 (fr' := (102, [(0, .ref 49), (1, .int (nI w)), (2, .int 3), (3, .int 4)], [], gh S a b sc41 ar41 lo, ex, 0, 0)) rfl ?_
        exact c102_4 3 sc41 ar41 (rq_n (n := 3) (by omega)) hc102_0 hc102_1 hc102_2 hc102_3 hc102_4 hc102_5 (tok_nz (iw_tok hn43 hp43 q44) (by decide)) hI41 hF41
    · refine to_eq (fr' := (102, [(0, .ref 49), (1, .int (nI w)), (2, .int (nI n42)), (3, .int 3)], [], gh S a b sc41 ar41 lo, ex, 0, 0)) rfl ?_
      refine to_n 5 (fr' := (110, [(0, .ref 49), (1, .int (nI w)), (2, .int (nI n42)), (3, .int 3)], [.ref 49, .ref 49], gh S a b sc41 ar41 lo, ex, 0, 0)) rfl ?_
      refine to_get rfl rfl rfl rfl ?_
      refine to_n 2 (fr' := (115, [(0, .ref 49), (1, .int (nI w)), (2, .int (nI n42)), (3, .int 3)], [.ref 1000026, .ref 49], gh S a b sc41 ar41 lo, ex, 0, 0)) rfl ?_
      refine to_cp (q := 123) (M1 := an_X10_isWord) (rest := []) rfl rfl (by decide) rfl ⟨_, rfl⟩ (sf_X10_isWord hW hI41 25 (by omega) (d + 4)) (fun x45 hx45 => ?_)
      obtain ⟨⟨n45, hn45, rfl⟩, hp45⟩ := hx45
      refine to_eq (fr' := (118, [(0, .ref 49), (1, .int (nI w)), (2, .int (nI n42)), (3, .int 3)], [.int (nI n45)], gh S a b sc41 ar41 lo, ex, 0, 0)) rfl ?_
      refine to_nf_eq (t := 123) (x := n45) rfl (by omega) (fun q46 => ?_) (fun q46 => ?_)
      · refine to_n 2 (fr' := (102, [(0, .ref 49), (1, .int (nI w)), (2, .int (nI n42)), (3, .int 4)], [], gh S a b sc41 ar41 lo, ex, 0, 0)) rfl ?_
        exact c102_4 (nI n42) sc41 ar41 (rq_n (n := n42) (by omega)) hc102_0 hc102_1 hc102_2 hc102_3 hc102_4 hc102_5 hc102_6 hI41 hF41
      · refine to_n 4 (fr' := (102, [(0, .ref 49), (1, .int (nI w)), (2, .int 3), (3, .int 4)], [], gh S a b sc41 ar41 lo, ex, 0, 0)) rfl ?_
        exact c102_4 3 sc41 ar41 (rq_n (n := 3) (by omega)) hc102_0 hc102_1 hc102_2 hc102_3 hc102_4 hc102_5 (tok_nz (iw_tok hn45 hp45 q46) (by decide)) hI41 hF41
  have c102_2 : ∀ (y : Int32) (sc47 : Nat → Int32) (ar47 : Nat → Nat → Int32), rq y 8 → sc47 4934 = nI c → sc47 4939 = nI B → sc47 4907 = nI l → sc47 4941 = 0 → Pz sc47 → (∀ x, x < 700 * l + c → ar47 71 x = ar 71 x) → ¬ sc47 4937 = 0 → Iv S sc47 ar47 → Fr [4934, 4935, 4937, 4938, 4939, 4940, 4941, 4942] [71] sc ar sc47 ar47 → ag_To X (d + 5) an_X10_readPart (102, [(0, .ref 49), (1, .int (nI w)), (2, .int y), (3, .int 2)], [], gh S a b sc47 ar47 lo, ex, 0, 0) (qv S a b lo ex (fun sc' ar' => Iv S sc' ar' ∧ Fr [4934, 4935, 4937, 4938, 4939, 4940, 4941, 4942] [71] sc ar sc' ar' ∧ ((∀ x, x < 700 * l + c → ar' 71 x = ar 71 x) ∧ Rd sc' ar' l c B e h))) := by
    intro y sc47 ar47 hq_y hc102_0 hc102_1 hc102_2 hc102_3 hc102_4 hc102_5 hc102_6 hI47 hF47
    rcases hq_y with rfl | ⟨n48, hn48, rfl⟩
    · refine to_eq (fr' := (102, [(0, .ref 49), (1, .int (nI w)), (2, .int (-1)), (3, .int 2)], [], gh S a b sc47 ar47 lo, ex, 0, 0)) rfl ?_
      refine to_n 5 (fr' := (110, [(0, .ref 49), (1, .int (nI w)), (2, .int (-1)), (3, .int 2)], [.ref 49, .ref 49], gh S a b sc47 ar47 lo, ex, 0, 0)) rfl ?_
      refine to_get rfl rfl rfl rfl ?_
      refine to_n 2 (fr' := (115, [(0, .ref 49), (1, .int (nI w)), (2, .int (-1)), (3, .int 2)], [.ref 1000025, .ref 49], gh S a b sc47 ar47 lo, ex, 0, 0)) rfl ?_
      refine to_cp (q := 123) (M1 := an_X10_isWord) (rest := []) rfl rfl (by decide) rfl ⟨_, rfl⟩ (sf_X10_isWord hW hI47 24 (by omega) (d + 4)) (fun x49 hx49 => ?_)
      obtain ⟨⟨n49, hn49, rfl⟩, hp49⟩ := hx49
      refine to_eq (fr' := (118, [(0, .ref 49), (1, .int (nI w)), (2, .int (-1)), (3, .int 2)], [.int (nI n49)], gh S a b sc47 ar47 lo, ex, 0, 0)) rfl ?_
      refine to_nf_eq (t := 123) (x := n49) rfl (by omega) (fun q50 => ?_) (fun q50 => ?_)
      · refine to_n 2 (fr' := (102, [(0, .ref 49), (1, .int (nI w)), (2, .int (-1)), (3, .int 3)], [], gh S a b sc47 ar47 lo, ex, 0, 0)) rfl ?_
        exact c102_3 (-1) sc47 ar47 (rq_m) hc102_0 hc102_1 hc102_2 hc102_3 hc102_4 hc102_5 hc102_6 hI47 hF47
      · refine to_n 4 (fr' := (102, [(0, .ref 49), (1, .int (nI w)), (2, .int 2), (3, .int 3)], [], gh S a b sc47 ar47 lo, ex, 0, 0)) rfl ?_
        exact c102_3 2 sc47 ar47 (rq_n (n := 2) (by omega)) hc102_0 hc102_1 hc102_2 hc102_3 hc102_4 hc102_5 (tok_nz (iw_tok hn49 hp49 q50) (by decide)) hI47 hF47
    · refine to_eq (fr' := (102, [(0, .ref 49), (1, .int (nI w)), (2, .int (nI n48)), (3, .int 2)], [], gh S a b sc47 ar47 lo, ex, 0, 0)) rfl ?_
      refine to_n 5 (fr' := (110, [(0, .ref 49), (1, .int (nI w)), (2, .int (nI n48)), (3, .int 2)], [.ref 49, .ref 49], gh S a b sc47 ar47 lo, ex, 0, 0)) rfl ?_
      refine to_get rfl rfl rfl rfl ?_
      refine to_n 2 (fr' := (115, [(0, .ref 49), (1, .int (nI w)), (2, .int (nI n48)), (3, .int 2)], [.ref 1000025, .ref 49], gh S a b sc47 ar47 lo, ex, 0, 0)) rfl ?_
      refine to_cp (q := 123) (M1 := an_X10_isWord) (rest := []) rfl rfl (by decide) rfl ⟨_, rfl⟩ (sf_X10_isWord hW hI47 24 (by omega) (d + 4)) (fun x51 hx51 => ?_)
      obtain ⟨⟨n51, hn51, rfl⟩, hp51⟩ := hx51
      refine to_eq (fr' := (118, [(0, .ref 49), (1, .int (nI w)), (2, .int (nI n48)), (3, .int 2)], [.int (nI n51)], gh S a b sc47 ar47 lo, ex, 0, 0)) rfl ?_
      refine to_nf_eq (t := 123) (x := n51) rfl (by omega) (fun q52 => ?_) (fun q52 => ?_)
      · refine to_n 2 (fr' := (102, [(0, .ref 49), (1, .int (nI w)), (2, .int (nI n48)), (3, .int 3)], [], gh S a b sc47 ar47 lo, ex, 0, 0)) rfl ?_
        exact c102_3 (nI n48) sc47 ar47 (rq_n (n := n48) (by omega)) hc102_0 hc102_1 hc102_2 hc102_3 hc102_4 hc102_5 hc102_6 hI47 hF47
      · refine to_n 4 (fr' := (102, [(0, .ref 49), (1, .int (nI w)), (2, .int 2), (3, .int 3)], [], gh S a b sc47 ar47 lo, ex, 0, 0)) rfl ?_
        exact c102_3 2 sc47 ar47 (rq_n (n := 2) (by omega)) hc102_0 hc102_1 hc102_2 hc102_3 hc102_4 hc102_5 (tok_nz (iw_tok hn51 hp51 q52) (by decide)) hI47 hF47
  have c102_1 : ∀ (y : Int32) (sc53 : Nat → Int32) (ar53 : Nat → Nat → Int32), rq y 8 → sc53 4934 = nI c → sc53 4939 = nI B → sc53 4907 = nI l → sc53 4941 = 0 → Pz sc53 → (∀ x, x < 700 * l + c → ar53 71 x = ar 71 x) → ¬ sc53 4937 = 0 → Iv S sc53 ar53 → Fr [4934, 4935, 4937, 4938, 4939, 4940, 4941, 4942] [71] sc ar sc53 ar53 → ag_To X (d + 5) an_X10_readPart (102, [(0, .ref 49), (1, .int (nI w)), (2, .int y), (3, .int 1)], [], gh S a b sc53 ar53 lo, ex, 0, 0) (qv S a b lo ex (fun sc' ar' => Iv S sc' ar' ∧ Fr [4934, 4935, 4937, 4938, 4939, 4940, 4941, 4942] [71] sc ar sc' ar' ∧ ((∀ x, x < 700 * l + c → ar' 71 x = ar 71 x) ∧ Rd sc' ar' l c B e h))) := by
    intro y sc53 ar53 hq_y hc102_0 hc102_1 hc102_2 hc102_3 hc102_4 hc102_5 hc102_6 hI53 hF53
    rcases hq_y with rfl | ⟨n54, hn54, rfl⟩
    · refine to_eq (fr' := (102, [(0, .ref 49), (1, .int (nI w)), (2, .int (-1)), (3, .int 1)], [], gh S a b sc53 ar53 lo, ex, 0, 0)) rfl ?_
      refine to_n 5 (fr' := (110, [(0, .ref 49), (1, .int (nI w)), (2, .int (-1)), (3, .int 1)], [.ref 49, .ref 49], gh S a b sc53 ar53 lo, ex, 0, 0)) rfl ?_
      refine to_get rfl rfl rfl rfl ?_
      refine to_n 2 (fr' := (115, [(0, .ref 49), (1, .int (nI w)), (2, .int (-1)), (3, .int 1)], [.ref 1000024, .ref 49], gh S a b sc53 ar53 lo, ex, 0, 0)) rfl ?_
      refine to_cp (q := 123) (M1 := an_X10_isWord) (rest := []) rfl rfl (by decide) rfl ⟨_, rfl⟩ (sf_X10_isWord hW hI53 23 (by omega) (d + 4)) (fun x55 hx55 => ?_)
      obtain ⟨⟨n55, hn55, rfl⟩, hp55⟩ := hx55
      refine to_eq (fr' := (118, [(0, .ref 49), (1, .int (nI w)), (2, .int (-1)), (3, .int 1)], [.int (nI n55)], gh S a b sc53 ar53 lo, ex, 0, 0)) rfl ?_
      refine to_nf_eq (t := 123) (x := n55) rfl (by omega) (fun q56 => ?_) (fun q56 => ?_)
      · refine to_n 2 (fr' := (102, [(0, .ref 49), (1, .int (nI w)), (2, .int (-1)), (3, .int 2)], [], gh S a b sc53 ar53 lo, ex, 0, 0)) rfl ?_
        exact c102_2 (-1) sc53 ar53 (rq_m) hc102_0 hc102_1 hc102_2 hc102_3 hc102_4 hc102_5 hc102_6 hI53 hF53
      · refine to_n 4 (fr' := (102, [(0, .ref 49), (1, .int (nI w)), (2, .int 1), (3, .int 2)], [], gh S a b sc53 ar53 lo, ex, 0, 0)) rfl ?_
        exact c102_2 1 sc53 ar53 (rq_n (n := 1) (by omega)) hc102_0 hc102_1 hc102_2 hc102_3 hc102_4 hc102_5 (tok_nz (iw_tok hn55 hp55 q56) (by decide)) hI53 hF53
    · refine to_eq (fr' := (102, [(0, .ref 49), (1, .int (nI w)), (2, .int (nI n54)), (3, .int 1)], [], gh S a b sc53 ar53 lo, ex, 0, 0)) rfl ?_
      refine to_n 5 (fr' := (110, [(0, .ref 49), (1, .int (nI w)), (2, .int (nI n54)), (3, .int 1)], [.ref 49, .ref 49], gh S a b sc53 ar53 lo, ex, 0, 0)) rfl ?_
      refine to_get rfl rfl rfl rfl ?_
      refine to_n 2 (fr' := (115, [(0, .ref 49), (1, .int (nI w)), (2, .int (nI n54)), (3, .int 1)], [.ref 1000024, .ref 49], gh S a b sc53 ar53 lo, ex, 0, 0)) rfl ?_
      refine to_cp (q := 123) (M1 := an_X10_isWord) (rest := []) rfl rfl (by decide) rfl ⟨_, rfl⟩ (sf_X10_isWord hW hI53 23 (by omega) (d + 4)) (fun x57 hx57 => ?_)
      obtain ⟨⟨n57, hn57, rfl⟩, hp57⟩ := hx57
      refine to_eq (fr' := (118, [(0, .ref 49), (1, .int (nI w)), (2, .int (nI n54)), (3, .int 1)], [.int (nI n57)], gh S a b sc53 ar53 lo, ex, 0, 0)) rfl ?_
      refine to_nf_eq (t := 123) (x := n57) rfl (by omega) (fun q58 => ?_) (fun q58 => ?_)
      · refine to_n 2 (fr' := (102, [(0, .ref 49), (1, .int (nI w)), (2, .int (nI n54)), (3, .int 2)], [], gh S a b sc53 ar53 lo, ex, 0, 0)) rfl ?_
        exact c102_2 (nI n54) sc53 ar53 (rq_n (n := n54) (by omega)) hc102_0 hc102_1 hc102_2 hc102_3 hc102_4 hc102_5 hc102_6 hI53 hF53
      · refine to_n 4 (fr' := (102, [(0, .ref 49), (1, .int (nI w)), (2, .int 1), (3, .int 2)], [], gh S a b sc53 ar53 lo, ex, 0, 0)) rfl ?_
        exact c102_2 1 sc53 ar53 (rq_n (n := 1) (by omega)) hc102_0 hc102_1 hc102_2 hc102_3 hc102_4 hc102_5 (tok_nz (iw_tok hn57 hp57 q58) (by decide)) hI53 hF53
  refine to_n 1 (fr' := (1, [(0, .ref 49), (1, .int (nI w))], [.ref 49], gh S a b sc ar lo, ex, 0, 0)) rfl ?_
  refine to_getR (v := 0) rfl rfl rfl rfl eb ?_
  refine to_n 2 (fr' := (9, [(0, .ref 49), (1, .int (nI w))], [.ref 49], gh S a b sc ar lo, ex, 0, 0)) rfl ?_
  refine to_getR (v := (sc 4937)) rfl rfl rfl rfl rfl ?_
  refine to_n 1 (fr' := (13, [(0, .ref 49), (1, .int (nI w))], [.int 2, .int (sc 4937)], gh S a b sc ar lo, ex, 0, 0)) rfl ?_
  refine to_ic_ne (t := 90) rfl (fun q59 => ?_) (fun q59 => ?_)
  · refine to_n 1 (fr' := (91, [(0, .ref 49), (1, .int (nI w))], [.ref 49], gh S a b sc ar lo, ex, 0, 0)) rfl ?_
    refine to_getR (v := (sc 4937)) rfl rfl rfl rfl rfl ?_
    refine to_n 1 (fr' := (95, [(0, .ref 49), (1, .int (nI w))], [.int 1, .int (sc 4937)], gh S a b sc ar lo, ex, 0, 0)) rfl ?_
    refine to_ic_ne (t := 150) rfl (fun q60 => ?_) (fun q60 => ?_)
    · refine to_n 2 (fr' := (153, [(0, .ref 49), (1, .int (nI w))], [.int 40, .ref 49], gh S a b sc ar lo, ex, 0, 0)) rfl ?_
      refine to_cp (q := 124) (M1 := an_X10_isSign) (rest := []) rfl rfl (by decide) rfl ⟨_, rfl⟩ (sf_X10_isSign hW hI 40 (d + 4)) (fun x61 hx61 => ?_)
      obtain ⟨⟨n61, hn61, rfl⟩, hp61⟩ := hx61
      refine to_eq (fr' := (156, [(0, .ref 49), (1, .int (nI w))], [.int (nI n61)], gh S a b sc ar lo, ex, 0, 0)) rfl ?_
      refine to_nf_eq (t := 194) (x := n61) rfl (by omega) (fun q62 => ?_) (fun q62 => ?_)
      · refine to_n 2 (fr' := (196, [(0, .ref 49), (1, .int (nI w))], [.int 1, .ref 49], gh S a b sc ar lo, ex, 0, 0)) rfl ?_
        refine to_cv (q := 125) (M1 := an_X10_wrong) (rest := []) rfl rfl (by decide) rfl ⟨_, rfl⟩ (sf_X10_wrong hW hI 1 (d + 4)) (fun sc63 ar63 hx63 => ?_)
        obtain ⟨hI63, hG63, hx63⟩ := hx63
        have hb63 := hx63 (by decide)
        have k63_4907 : sc63 4907 = (nI l) := (hG63.1 4907 (by decide)).trans el
        have k63_4934 : sc63 4934 = (nI c) := (hG63.1 4934 (by decide)).trans ec
        have k63_4939 : sc63 4939 = (nI B) := (hG63.1 4939 (by decide)).trans eB
        have hk63 : ∀ x, x < 700 * l + c → ar63 71 x = ar 71 x := kp_st (fun _ _ => rfl) hG63 (by decide)
        have hF63 := fr_t hF hG63 (by decide) (by decide)
        refine to_eq (fr' := (199, [(0, .ref 49), (1, .int (nI w))], [], gh S a b sc63 ar63 lo, ex, 0, 0)) rfl ?_
        refine to_n 1 (fr' := (200, [(0, .ref 49), (1, .int (nI w))], [.ref 49], gh S a b sc63 ar63 lo, ex, 0, 0)) rfl ?_
        refine to_getR (v := (sc63 4941)) rfl rfl rfl rfl rfl ?_
        refine to_if_ne_T (t := 210) rfl hb63 ?_
        exact to_rt (i := .return_) (tg := []) rfl rfl ⟨_, _, ⟨hI63, hF63, ⟨hk63, Or.inl hb63⟩⟩, rfl⟩
      · refine to_n 1 (fr' := (160, [(0, .ref 49), (1, .int (nI w))], [.ref 49], gh S a b sc ar lo, ex, 0, 0)) rfl ?_
        refine to_cv (q := 122) (M1 := an_X10_step) (rest := []) rfl rfl (by decide) rfl ⟨_, rfl⟩ (st_next hW hI eB (by omega) hz (tok_nz (iw_tok hn61 hp61 q62) (by decide)) (d + 3)) (fun sc64 ar64 hx64 => ?_)
        obtain ⟨hI64, hG64, hz64, B64, eB64, hB64, hC64⟩ := hx64
        have k64_4907 : sc64 4907 = (nI l) := (hG64.1 4907 (by decide)).trans el
        have k64_4934 : sc64 4934 = (nI c) := (hG64.1 4934 (by decide)).trans ec
        have k64_4941 : sc64 4941 = 0 := (hG64.1 4941 (by decide)).trans eb
        have hk64 : ∀ x, x < 700 * l + c → ar64 71 x = ar 71 x := kp_st (fun _ _ => rfl) hG64 (by decide)
        have hF64 := fr_t hF hG64 (by decide) (by decide)
        refine to_eq (fr' := (163, [(0, .ref 49), (1, .int (nI w))], [], gh S a b sc64 ar64 lo, ex, 0, 0)) rfl ?_
        refine to_n 3 (fr' := (166, [(0, .ref 49), (1, .int (nI w))], [.int 1, .int (nI w), .ref 49], gh S a b sc64 ar64 lo, ex, 0, 0)) rfl ?_
        refine to_addN (x := w) (y := 1) rfl ?_
        refine to_cv (q := 128) (M1 := an_X10_readExpression) (rest := []) rfl rfl (by decide) rfl ⟨_, rfl⟩ (hE sc64 ar64 l c (e + 2) B64 hI64 (by omega) k64_4907 k64_4934 eB64 (by omega) k64_4941 hz64 (by omega)) (fun sc65 ar65 hx65 => ?_)
        obtain ⟨hI65, hG65, hu65, hr65⟩ := hx65
        have k65_4907 : sc65 4907 = nI l := (hG65.1 4907 (by decide)).trans k64_4907
        have hk65 : ∀ x, x < 700 * l + c → ar65 71 x = ar 71 x := fun x w => (hu65 x (by omega)).trans (hk64 x w)
        have hF65 := fr_t hF64 hG65 (by decide) (by decide)
        rcases hr65 with hb65 | ⟨hb65, hz65, c65, B65, ec65, eB65, hcc65, hBB65, hB65, hpo65, sg65⟩
        · refine to_eq (fr' := (170, [(0, .ref 49), (1, .int (nI w))], [], gh S a b sc65 ar65 lo, ex, 0, 0)) rfl ?_
          refine to_n 1 (fr' := (171, [(0, .ref 49), (1, .int (nI w))], [.ref 49], gh S a b sc65 ar65 lo, ex, 0, 0)) rfl ?_
          refine to_getR (v := (sc65 4941)) rfl rfl rfl rfl rfl ?_
          refine to_if_ne_T (t := 199) rfl hb65 ?_
          refine to_n 1 (fr' := (200, [(0, .ref 49), (1, .int (nI w))], [.ref 49], gh S a b sc65 ar65 lo, ex, 0, 0)) rfl ?_
          refine to_getR (v := (sc65 4941)) rfl rfl rfl rfl rfl ?_
          refine to_if_ne_T (t := 210) rfl hb65 ?_
          exact to_rt (i := .return_) (tg := []) rfl rfl ⟨_, _, ⟨hI65, hF65, ⟨hk65, Or.inl hb65⟩⟩, rfl⟩
        · refine to_eq (fr' := (170, [(0, .ref 49), (1, .int (nI w))], [], gh S a b sc65 ar65 lo, ex, 0, 0)) rfl ?_
          refine to_n 1 (fr' := (171, [(0, .ref 49), (1, .int (nI w))], [.ref 49], gh S a b sc65 ar65 lo, ex, 0, 0)) rfl ?_
          refine to_getR (v := 0) rfl rfl rfl rfl hb65 ?_
          refine to_n 3 (fr' := (180, [(0, .ref 49), (1, .int (nI w))], [.int 41, .ref 49], gh S a b sc65 ar65 lo, ex, 0, 0)) rfl ?_
          refine to_cp (q := 124) (M1 := an_X10_isSign) (rest := []) rfl rfl (by decide) rfl ⟨_, rfl⟩ (sf_X10_isSign hW hI65 41 (d + 4)) (fun x66 hx66 => ?_)
          obtain ⟨⟨n66, hn66, rfl⟩, hp66⟩ := hx66
          refine to_eq (fr' := (183, [(0, .ref 49), (1, .int (nI w))], [.int (nI n66)], gh S a b sc65 ar65 lo, ex, 0, 0)) rfl ?_
          refine to_nf_ne (t := 199) (x := n66) rfl (by omega) (fun q67 => ?_) (fun q67 => ?_)
          · refine to_n 1 (fr' := (200, [(0, .ref 49), (1, .int (nI w))], [.ref 49], gh S a b sc65 ar65 lo, ex, 0, 0)) rfl ?_
            refine to_getR (v := 0) rfl rfl rfl rfl hb65 ?_
            refine to_n 2 (fr' := (207, [(0, .ref 49), (1, .int (nI w))], [.ref 49], gh S a b sc65 ar65 lo, ex, 0, 0)) rfl ?_
            refine to_cv (q := 122) (M1 := an_X10_step) (rest := []) rfl rfl (by decide) rfl ⟨_, rfl⟩ (st_next hW hI65 eB65 (by omega) hz65 (tok_nz (iw_tok hn66 hp66 q67) (by decide)) (d + 3)) (fun sc68 ar68 hx68 => ?_)
            obtain ⟨hI68, hG68, hz68, B68, eB68, hB68, hC68⟩ := hx68
            have k68_4907 : sc68 4907 = (nI l) := (hG68.1 4907 (by decide)).trans k65_4907
            have k68_4934 : sc68 4934 = (nI c65) := (hG68.1 4934 (by decide)).trans ec65
            have k68_4941 : sc68 4941 = 0 := (hG68.1 4941 (by decide)).trans hb65
            have hk68 : ∀ x, x < 700 * l + c → ar68 71 x = ar 71 x := kp_st hk65 hG68 (by decide)
            have sg68_0 := sg_st sg65 hG68 (by decide)
            have hF68 := fr_t hF65 hG68 (by decide) (by decide)
            refine to_eq (fr' := (210, [(0, .ref 49), (1, .int (nI w))], [], gh S a b sc68 ar68 lo, ex, 0, 0)) rfl ?_
            exact to_rt (i := .return_) (tg := []) rfl rfl ⟨_, _, ⟨hI68, hF68, ⟨hk68, Or.inr ⟨k68_4941, hz68, c65, B68, k68_4934, eB68, by omega, by omega, by omega, by omega, seg_le sg68_0 (by omega)⟩⟩⟩, rfl⟩
          · refine to_n 2 (fr' := (188, [(0, .ref 49), (1, .int (nI w))], [.int 1, .ref 49], gh S a b sc65 ar65 lo, ex, 0, 0)) rfl ?_
            refine to_cv (q := 125) (M1 := an_X10_wrong) (rest := []) rfl rfl (by decide) rfl ⟨_, rfl⟩ (sf_X10_wrong hW hI65 1 (d + 4)) (fun sc69 ar69 hx69 => ?_)
            obtain ⟨hI69, hG69, hx69⟩ := hx69
            have hb69 := hx69 (by decide)
            have k69_4907 : sc69 4907 = (nI l) := (hG69.1 4907 (by decide)).trans k65_4907
            have k69_4934 : sc69 4934 = (nI c65) := (hG69.1 4934 (by decide)).trans ec65
            have k69_4939 : sc69 4939 = (nI B65) := (hG69.1 4939 (by decide)).trans eB65
            have hk69 : ∀ x, x < 700 * l + c → ar69 71 x = ar 71 x := kp_st hk65 hG69 (by decide)
            have sg69_0 := sg_st sg65 hG69 (by decide)
            have hF69 := fr_t hF65 hG69 (by decide) (by decide)
            refine to_eq (fr' := (191, [(0, .ref 49), (1, .int (nI w))], [], gh S a b sc69 ar69 lo, ex, 0, 0)) rfl ?_
            refine to_n 2 (fr' := (200, [(0, .ref 49), (1, .int (nI w))], [.ref 49], gh S a b sc69 ar69 lo, ex, 0, 0)) rfl ?_
            refine to_getR (v := (sc69 4941)) rfl rfl rfl rfl rfl ?_
            refine to_if_ne_T (t := 210) rfl hb69 ?_
            exact to_rt (i := .return_) (tg := []) rfl rfl ⟨_, _, ⟨hI69, hF69, ⟨hk69, Or.inl hb69⟩⟩, rfl⟩
    · refine to_n 9 (fr' := (110, [(0, .ref 49), (1, .int (nI w)), (2, .int (-1)), (3, .int 0)], [.ref 49, .ref 49], gh S a b sc ar lo, ex, 0, 0)) rfl ?_
      refine to_get rfl rfl rfl rfl ?_
      refine to_n 2 (fr' := (115, [(0, .ref 49), (1, .int (nI w)), (2, .int (-1)), (3, .int 0)], [.ref 1000023, .ref 49], gh S a b sc ar lo, ex, 0, 0)) rfl ?_
      refine to_cp (q := 123) (M1 := an_X10_isWord) (rest := []) rfl rfl (by decide) rfl ⟨_, rfl⟩ (sf_X10_isWord hW hI 22 (by omega) (d + 4)) (fun x70 hx70 => ?_)
      obtain ⟨⟨n70, hn70, rfl⟩, hp70⟩ := hx70
      refine to_eq (fr' := (118, [(0, .ref 49), (1, .int (nI w)), (2, .int (-1)), (3, .int 0)], [.int (nI n70)], gh S a b sc ar lo, ex, 0, 0)) rfl ?_
      refine to_nf_eq (t := 123) (x := n70) rfl (by omega) (fun q71 => ?_) (fun q71 => ?_)
      · refine to_n 2 (fr' := (102, [(0, .ref 49), (1, .int (nI w)), (2, .int (-1)), (3, .int 1)], [], gh S a b sc ar lo, ex, 0, 0)) rfl ?_
        exact c102_1 (-1) sc ar (rq_m) ec eB el eb hz (fun _ _ => rfl) (tok_nz q60 (by decide)) hI hF
      · refine to_n 4 (fr' := (102, [(0, .ref 49), (1, .int (nI w)), (2, .int 0), (3, .int 1)], [], gh S a b sc ar lo, ex, 0, 0)) rfl ?_
        exact c102_1 0 sc ar (rq_n (n := 0) (by omega)) ec eB el eb hz (fun _ _ => rfl) (tok_nz (iw_tok hn70 hp70 q71) (by decide)) hI hF
  · refine to_n 1 (fr' := (17, [(0, .ref 49), (1, .int (nI w))], [.ref 49], gh S a b sc ar lo, ex, 0, 0)) rfl ?_
    refine to_getR (v := (nI q0)) rfl rfl rfl rfl z3 ?_
    refine to_n 1 (fr' := (21, [(0, .ref 49), (1, .int (nI w))], [.ref 49, .int (nI q0)], gh S a b sc ar lo, ex, 0, 0)) rfl ?_
    refine to_getR (v := (nI B)) rfl rfl rfl rfl eB ?_
    refine to_subN (x := q0) (y := B) rfl (by omega) ?_
    refine to_n 1 (fr' := (26, [(0, .ref 49), (1, .int (nI w))], [.int 5, .int (nI (q0 - B))], gh S a b sc ar lo, ex, 0, 0)) rfl ?_
    refine to_nc_le (t := 34) (x := (q0 - B)) (y := 5) rfl (by omega) (by omega) (fun q72 => ?_) (fun q72 => ?_)
    · refine to_n 3 (fr' := (37, [(0, .ref 49), (1, .int (nI w)), (2, .int 0)], [.ref 49], gh S a b sc ar lo, ex, 0, 0)) rfl ?_
      refine to_getR (v := (nI B)) rfl rfl rfl rfl eB ?_
      refine to_n 1 (fr' := (41, [(0, .ref 49), (1, .int (nI w)), (2, .int 0), (3, .int (nI B))], [], gh S a b sc ar lo, ex, 0, 0)) rfl ?_
      exact c41 (400 - B) 0 B sc ar (by omega) ec eB el eb hz (fun _ _ => rfl) (tok_nz q59 (by decide)) (by omega) hI hF
    · refine to_n 2 (fr' := (31, [(0, .ref 49), (1, .int (nI w))], [.int 2, .ref 49], gh S a b sc ar lo, ex, 0, 0)) rfl ?_
      refine to_cv (q := 125) (M1 := an_X10_wrong) (rest := []) rfl rfl (by decide) rfl ⟨_, rfl⟩ (sf_X10_wrong hW hI 2 (d + 4)) (fun sc73 ar73 hx73 => ?_)
      obtain ⟨hI73, hG73, hx73⟩ := hx73
      have hb73 := hx73 (by decide)
      have k73_4907 : sc73 4907 = (nI l) := (hG73.1 4907 (by decide)).trans el
      have k73_4934 : sc73 4934 = (nI c) := (hG73.1 4934 (by decide)).trans ec
      have k73_4939 : sc73 4939 = (nI B) := (hG73.1 4939 (by decide)).trans eB
      have hk73 : ∀ x, x < 700 * l + c → ar73 71 x = ar 71 x := kp_st (fun _ _ => rfl) hG73 (by decide)
      have hF73 := fr_t hF hG73 (by decide) (by decide)
      refine to_eq (fr' := (34, [(0, .ref 49), (1, .int (nI w))], [], gh S a b sc73 ar73 lo, ex, 0, 0)) rfl ?_
      refine to_n 3 (fr' := (37, [(0, .ref 49), (1, .int (nI w)), (2, .int 0)], [.ref 49], gh S a b sc73 ar73 lo, ex, 0, 0)) rfl ?_
      refine to_getR (v := (nI B)) rfl rfl rfl rfl k73_4939 ?_
      refine to_n 3 (fr' := (43, [(0, .ref 49), (1, .int (nI w)), (2, .int 0), (3, .int (nI B))], [.ref 49, .int (nI B)], gh S a b sc73 ar73 lo, ex, 0, 0)) rfl ?_
      obtain ⟨n74, hn74, e74⟩ := iv_s4940 hI73
      refine to_getR (v := (nI n74)) rfl rfl rfl rfl e74 ?_
      refine to_nc_ge (t := 77) (x := B) (y := n74) rfl (by omega) (by omega) (fun q75 => ?_) (fun q75 => ?_)
      · refine to_n 2 (fr' := (79, [(0, .ref 49), (1, .int (nI w)), (2, .int 0), (3, .int (nI B))], [.int 0, .ref 49], gh S a b sc73 ar73 lo, ex, 0, 0)) rfl ?_
        refine to_cu (q := 126) (M1 := an_X10_emit) (rest := []) rfl rfl (by decide) rfl ⟨_, rfl⟩ (em_bad 0 hb73 (d + 4)) ?_ 
        refine to_eq (fr' := (82, [(0, .ref 49), (1, .int (nI w)), (2, .int 0), (3, .int (nI B))], [], gh S a b sc73 ar73 lo, ex, 0, 0)) rfl ?_
        refine to_n 2 (fr' := (84, [(0, .ref 49), (1, .int (nI w)), (2, .int 0), (3, .int (nI B))], [.int 0, .ref 49], gh S a b sc73 ar73 lo, ex, 0, 0)) rfl ?_
        refine to_cu (q := 126) (M1 := an_X10_emit) (rest := []) rfl rfl (by decide) rfl ⟨_, rfl⟩ (em_bad 0 hb73 (d + 4)) ?_ 
        refine to_eq (fr' := (87, [(0, .ref 49), (1, .int (nI w)), (2, .int 0), (3, .int (nI B))], [], gh S a b sc73 ar73 lo, ex, 0, 0)) rfl ?_
        refine to_n 2 (fr' := (200, [(0, .ref 49), (1, .int (nI w)), (2, .int 0), (3, .int (nI B))], [.ref 49], gh S a b sc73 ar73 lo, ex, 0, 0)) rfl ?_
        refine to_getR (v := (sc73 4941)) rfl rfl rfl rfl rfl ?_
        refine to_if_ne_T (t := 210) rfl hb73 ?_
        exact to_rt (i := .return_) (tg := []) rfl rfl ⟨_, _, ⟨hI73, hF73, ⟨hk73, Or.inl hb73⟩⟩, rfl⟩
      · refine to_n 1 (fr' := (50, [(0, .ref 49), (1, .int (nI w)), (2, .int 0), (3, .int (nI B))], [.ref 49], gh S a b sc73 ar73 lo, ex, 0, 0)) rfl ?_
        refine to_getR (v := (sc73 4941)) rfl rfl rfl rfl rfl ?_
        refine to_if_ne_T (t := 77) rfl hb73 ?_
        refine to_n 2 (fr' := (79, [(0, .ref 49), (1, .int (nI w)), (2, .int 0), (3, .int (nI B))], [.int 0, .ref 49], gh S a b sc73 ar73 lo, ex, 0, 0)) rfl ?_
        refine to_cu (q := 126) (M1 := an_X10_emit) (rest := []) rfl rfl (by decide) rfl ⟨_, rfl⟩ (em_bad 0 hb73 (d + 4)) ?_ 
        refine to_eq (fr' := (82, [(0, .ref 49), (1, .int (nI w)), (2, .int 0), (3, .int (nI B))], [], gh S a b sc73 ar73 lo, ex, 0, 0)) rfl ?_
        refine to_n 2 (fr' := (84, [(0, .ref 49), (1, .int (nI w)), (2, .int 0), (3, .int (nI B))], [.int 0, .ref 49], gh S a b sc73 ar73 lo, ex, 0, 0)) rfl ?_
        refine to_cu (q := 126) (M1 := an_X10_emit) (rest := []) rfl rfl (by decide) rfl ⟨_, rfl⟩ (em_bad 0 hb73 (d + 4)) ?_ 
        refine to_eq (fr' := (87, [(0, .ref 49), (1, .int (nI w)), (2, .int 0), (3, .int (nI B))], [], gh S a b sc73 ar73 lo, ex, 0, 0)) rfl ?_
        refine to_n 2 (fr' := (200, [(0, .ref 49), (1, .int (nI w)), (2, .int 0), (3, .int (nI B))], [.ref 49], gh S a b sc73 ar73 lo, ex, 0, 0)) rfl ?_
        refine to_getR (v := (sc73 4941)) rfl rfl rfl rfl rfl ?_
        refine to_if_ne_T (t := 210) rfl hb73 ?_
        exact to_rt (i := .return_) (tg := []) rfl rfl ⟨_, _, ⟨hI73, hF73, ⟨hk73, Or.inl hb73⟩⟩, rfl⟩
set_option maxRecDepth 20000 in
theorem rd_readSum {X : Nat × (Nat → Int32)} {S a b : Nat} {lo : Nat → Int64} {ex : Bool} (hW : Wd S a b) (w h : Nat)  (d : Nat) (hE : RdOk X S a b lo ex (d + 5) 131 w h) : RdOk X S a b lo ex (d + 6) 130 w (h + 1) := by
  obtain ⟨ha1, ha8, hb1, hb8, hab, hS1, hS⟩ := id hW
  intro sc ar l c e B hI hl el ec eB hB4 eb hz hp
  refine cv_of (M := an_X10_readSum) rfl (Nat.le_of_ble_eq_true rfl) ?_
  have hF : Fr [4934, 4935, 4937, 4938, 4939, 4940, 4941, 4942] [71] sc ar sc ar := fr_0
  refine to_eq (fr' := (0, [(0, .ref 49), (1, .int (nI w))], [], gh S a b sc ar lo, ex, 0, 0)) rfl ?_
  have c5 : ∀ m : Nat, ∀ (c1 : Nat) (B1 : Nat) (sc1 : Nat → Int32) (ar1 : Nat → Nat → Int32), 401 ≤ B1 + m → sc1 4934 = nI c1 → sc1 4939 = nI B1 → sc1 4907 = nI l → sc1 4941 = 0 → Pz sc1 → (∀ x, x < 700 * l + c → ar1 71 x = ar 71 x) → c ≤ c1 → B1 ≤ 400 → 2 * c1 + e ≤ 3 * B1 + 1 → seg (ar1 71) (700 * l + c) (700 * l + c1) (h + 1) → B ≤ B1 → Iv S sc1 ar1 → Fr [4934, 4935, 4937, 4938, 4939, 4940, 4941, 4942] [71] sc ar sc1 ar1 → ag_To X (d + 5) an_X10_readSum (5, [(0, .ref 49), (1, .int (nI w))], [], gh S a b sc1 ar1 lo, ex, 0, 0) (qv S a b lo ex (fun sc' ar' => Iv S sc' ar' ∧ Fr [4934, 4935, 4937, 4938, 4939, 4940, 4941, 4942] [71] sc ar sc' ar' ∧ ((∀ x, x < 700 * l + c → ar' 71 x = ar 71 x) ∧ Rd sc' ar' l c B e (h + 1)))) := by
    intro m
    induction m with
    | zero =>
      intro c1 B1 sc1 ar1 hm hc5_0 hc5_1 hc5_2 hc5_3 hc5_4 hc5_5 hc5_6 hc5_7 hc5_8 hc5_9 hc5_10 hI1 hF1
      exfalso
      omega
    | succ m ih =>
      intro c1 B1 sc1 ar1 hm hc5_0 hc5_1 hc5_2 hc5_3 hc5_4 hc5_5 hc5_6 hc5_7 hc5_8 hc5_9 hc5_10 hI1 hF1
      refine to_n 1 (fr' := (6, [(0, .ref 49), (1, .int (nI w))], [.ref 49], gh S a b sc1 ar1 lo, ex, 0, 0)) rfl ?_
      refine to_getR (v := 0) rfl rfl rfl rfl hc5_3 ?_
      refine to_n 3 (fr' := (15, [(0, .ref 49), (1, .int (nI w))], [.int 43, .ref 49], gh S a b sc1 ar1 lo, ex, 0, 0)) rfl ?_
      refine to_cp (q := 124) (M1 := an_X10_isSign) (rest := []) rfl rfl (by decide) rfl ⟨_, rfl⟩ (sf_X10_isSign hW hI1 43 (d + 4)) (fun x2 hx2 => ?_)
      obtain ⟨⟨n2, hn2, rfl⟩, hp2⟩ := hx2
      refine to_eq (fr' := (18, [(0, .ref 49), (1, .int (nI w))], [.int (nI n2)], gh S a b sc1 ar1 lo, ex, 0, 0)) rfl ?_
      refine to_nf_ne (t := 39) (x := n2) rfl (by omega) (fun q3 => ?_) (fun q3 => ?_)
      · refine to_n 2 (fr' := (42, [(0, .ref 49), (1, .int (nI w))], [.int 43, .ref 49], gh S a b sc1 ar1 lo, ex, 0, 0)) rfl ?_
        refine to_cp (q := 124) (M1 := an_X10_isSign) (rest := []) rfl rfl (by decide) rfl ⟨_, rfl⟩ (sf_X10_isSign hW hI1 43 (d + 4)) (fun x4 hx4 => ?_)
        obtain ⟨⟨n4, hn4, rfl⟩, hp4⟩ := hx4
        refine to_eq (fr' := (45, [(0, .ref 49), (1, .int (nI w))], [.int (nI n4)], gh S a b sc1 ar1 lo, ex, 0, 0)) rfl ?_
        refine to_nf_eq (t := 52) (x := n4) rfl (by omega) (fun q5 => ?_) (fun q5 => ?_)
        · refine to_n 2 (fr' := (55, [(0, .ref 49), (1, .int (nI w))], [.int 45, .ref 49], gh S a b sc1 ar1 lo, ex, 0, 0)) rfl ?_
          refine to_cp (q := 124) (M1 := an_X10_isSign) (rest := []) rfl rfl (by decide) rfl ⟨_, rfl⟩ (sf_X10_isSign hW hI1 45 (d + 4)) (fun x6 hx6 => ?_)
          obtain ⟨⟨n6, hn6, rfl⟩, hp6⟩ := hx6
          refine to_eq (fr' := (58, [(0, .ref 49), (1, .int (nI w))], [.int (nI n6)], gh S a b sc1 ar1 lo, ex, 0, 0)) rfl ?_
          refine to_nf_eq (t := 65) (x := n6) rfl (by omega) (fun q7 => ?_) (fun q7 => ?_)
          · refine to_n 3 (fr' := (68, [(0, .ref 49), (1, .int (nI w)), (2, .int 3)], [.ref 49], gh S a b sc1 ar1 lo, ex, 0, 0)) rfl ?_
            refine to_cv (q := 122) (M1 := an_X10_step) (rest := []) rfl rfl (by decide) rfl ⟨_, rfl⟩ (st_next hW hI1 hc5_1 (by omega) hc5_4 (tok_nz (iw_tok hn2 hp2 q3) (by decide)) (d + 3)) (fun sc8 ar8 hx8 => ?_)
            obtain ⟨hI8, hG8, hz8, B8, eB8, hB8, hC8⟩ := hx8
            have k8_4907 : sc8 4907 = (nI l) := (hG8.1 4907 (by decide)).trans hc5_2
            have k8_4934 : sc8 4934 = (nI c1) := (hG8.1 4934 (by decide)).trans hc5_0
            have k8_4941 : sc8 4941 = 0 := (hG8.1 4941 (by decide)).trans hc5_3
            have hk8 : ∀ x, x < 700 * l + c → ar8 71 x = ar 71 x := kp_st hc5_5 hG8 (by decide)
            have sg8_0 := sg_st hc5_9 hG8 (by decide)
            have hF8 := fr_t hF1 hG8 (by decide) (by decide)
            refine to_eq (fr' := (71, [(0, .ref 49), (1, .int (nI w)), (2, .int 3)], [], gh S a b sc8 ar8 lo, ex, 0, 0)) rfl ?_
            refine to_n 2 (fr' := (73, [(0, .ref 49), (1, .int (nI w)), (2, .int 3)], [.int (nI w), .ref 49], gh S a b sc8 ar8 lo, ex, 0, 0)) rfl ?_
            refine to_cv (q := 131) (M1 := an_X10_readPart) (rest := []) rfl rfl (by decide) rfl ⟨_, rfl⟩ (hE sc8 ar8 l c1 (e + 2) B8 hI8 (by omega) k8_4907 k8_4934 eB8 (by omega) k8_4941 hz8 (by omega)) (fun sc9 ar9 hx9 => ?_)
            obtain ⟨hI9, hG9, hu9, hr9⟩ := hx9
            have k9_4907 : sc9 4907 = nI l := (hG9.1 4907 (by decide)).trans k8_4907
            have hk9 : ∀ x, x < 700 * l + c → ar9 71 x = ar 71 x := fun x w => (hu9 x (by omega)).trans (hk8 x w)
            have hF9 := fr_t hF8 hG9 (by decide) (by decide)
            have sg9_0 := seg_ag sg8_0 hu9 (by omega)
            rcases hr9 with hb9 | ⟨hb9, hz9, c9, B9, ec9, eB9, hcc9, hBB9, hB9, hpo9, sg9⟩
            · refine to_eq (fr' := (76, [(0, .ref 49), (1, .int (nI w)), (2, .int 3)], [], gh S a b sc9 ar9 lo, ex, 0, 0)) rfl ?_
              refine to_n 2 (fr' := (78, [(0, .ref 49), (1, .int (nI w)), (2, .int 3)], [.int 3, .ref 49], gh S a b sc9 ar9 lo, ex, 0, 0)) rfl ?_
              refine to_cu (q := 126) (M1 := an_X10_emit) (rest := []) rfl rfl (by decide) rfl ⟨_, rfl⟩ (em_bad 3 hb9 (d + 4)) ?_ 
              refine to_eq (fr' := (81, [(0, .ref 49), (1, .int (nI w)), (2, .int 3)], [], gh S a b sc9 ar9 lo, ex, 0, 0)) rfl ?_
              refine to_n 2 (fr' := (6, [(0, .ref 49), (1, .int (nI w)), (2, .int 3)], [.ref 49], gh S a b sc9 ar9 lo, ex, 0, 0)) rfl ?_
              refine to_getR (v := (sc9 4941)) rfl rfl rfl rfl rfl ?_
              refine to_if_ne_T (t := 84) rfl hb9 ?_
              exact to_rt (i := .return_) (tg := []) rfl rfl ⟨_, _, ⟨hI9, hF9, ⟨hk9, Or.inl hb9⟩⟩, rfl⟩
            · refine to_eq (fr' := (76, [(0, .ref 49), (1, .int (nI w)), (2, .int 3)], [], gh S a b sc9 ar9 lo, ex, 0, 0)) rfl ?_
              refine to_n 2 (fr' := (78, [(0, .ref 49), (1, .int (nI w)), (2, .int 3)], [.int 3, .ref 49], gh S a b sc9 ar9 lo, ex, 0, 0)) rfl ?_
              refine to_cv (q := 126) (M1 := an_X10_emit) (rest := []) rfl rfl (by decide) rfl ⟨_, rfl⟩ (em_ok hW hI9 3 l c9 (by omega) (by omega) hb9 k9_4907 ec9 (d + 4)) (fun sc11 ar11 hx11 => ?_)
              obtain ⟨hI11, hG11, hs11, ha11⟩ := hx11
              have k11_4907 : sc11 4907 = (nI l) := (hG11.1 4907 (by decide)).trans k9_4907
              have k11_4939 : sc11 4939 = (nI B9) := (hG11.1 4939 (by decide)).trans eB9
              have k11_4941 : sc11 4941 = 0 := (hG11.1 4941 (by decide)).trans hb9
              have k11_4934 : sc11 4934 = nI (c9 + 1) := by rw [hs11]; exact up_eq
              have hc11 : ar11 71 = upd (ar9 71) (700 * l + c9) 3 := by rw [ha11]; rfl
              have hv11 : ar11 71 (700 * l + c9) = 3 := by rw [hc11]; exact up_eq
              have hu11 : ∀ x, x < 700 * l + c9 → ar11 71 x = ar9 71 x := fun x w => by rw [hc11]; exact up_ne (by omega)
              have hk11 : ∀ x, x < 700 * l + c → ar11 71 x = ar 71 x := fun x w => (hu11 x (by omega)).trans (hk9 x w)
              have hz11 := pz_fr hz9 hG11 (by decide) (by decide) (by decide) (by decide) (by decide)
              have hF11 := fr_t hF9 hG11 (by decide) (by decide)
              have sg11_0 := seg_ag sg9_0 hu11 (by omega)
              have sg11_1 := seg_ag sg9 hu11 (by omega)
              have sb11 : seg (ar11 71) (700 * l + c) (700 * l + (c9 + 1)) (h + 1) := seg_bin (k := 700 * l + c9) sg11_0 sg11_1 hv11 (by decide) (by decide) (by decide) (by omega) (by omega) (by omega) (by omega)
              refine to_eq (fr' := (81, [(0, .ref 49), (1, .int (nI w)), (2, .int 3)], [], gh S a b sc11 ar11 lo, ex, 0, 0)) rfl ?_
              refine to_n 1 (fr' := (5, [(0, .ref 49), (1, .int (nI w)), (2, .int 3)], [], gh S a b sc11 ar11 lo, ex, 0, 0)) rfl ?_
              refine to_lv (lv := [(0, .ref 49), (1, .int (nI w))]) rfl ⟨rfl, rfl, trivial⟩ ?_
              exact ih (c9 + 1) B9 sc11 ar11 (by omega) k11_4934 k11_4939 k11_4907 k11_4941 hz11 hk11 (by omega) (by omega) (by omega) (seg_le sb11 (by omega)) (by omega) hI11 hF11
          · refine to_n 4 (fr' := (68, [(0, .ref 49), (1, .int (nI w)), (2, .int 2)], [.ref 49], gh S a b sc1 ar1 lo, ex, 0, 0)) rfl ?_
            refine to_cv (q := 122) (M1 := an_X10_step) (rest := []) rfl rfl (by decide) rfl ⟨_, rfl⟩ (st_next hW hI1 hc5_1 (by omega) hc5_4 (tok_nz (iw_tok hn6 hp6 q7) (by decide)) (d + 3)) (fun sc12 ar12 hx12 => ?_)
            obtain ⟨hI12, hG12, hz12, B12, eB12, hB12, hC12⟩ := hx12
            have k12_4907 : sc12 4907 = (nI l) := (hG12.1 4907 (by decide)).trans hc5_2
            have k12_4934 : sc12 4934 = (nI c1) := (hG12.1 4934 (by decide)).trans hc5_0
            have k12_4941 : sc12 4941 = 0 := (hG12.1 4941 (by decide)).trans hc5_3
            have hk12 : ∀ x, x < 700 * l + c → ar12 71 x = ar 71 x := kp_st hc5_5 hG12 (by decide)
            have sg12_0 := sg_st hc5_9 hG12 (by decide)
            have hF12 := fr_t hF1 hG12 (by decide) (by decide)
            refine to_eq (fr' := (71, [(0, .ref 49), (1, .int (nI w)), (2, .int 2)], [], gh S a b sc12 ar12 lo, ex, 0, 0)) rfl ?_
            refine to_n 2 (fr' := (73, [(0, .ref 49), (1, .int (nI w)), (2, .int 2)], [.int (nI w), .ref 49], gh S a b sc12 ar12 lo, ex, 0, 0)) rfl ?_
            refine to_cv (q := 131) (M1 := an_X10_readPart) (rest := []) rfl rfl (by decide) rfl ⟨_, rfl⟩ (hE sc12 ar12 l c1 (e + 2) B12 hI12 (by omega) k12_4907 k12_4934 eB12 (by omega) k12_4941 hz12 (by omega)) (fun sc13 ar13 hx13 => ?_)
            obtain ⟨hI13, hG13, hu13, hr13⟩ := hx13
            have k13_4907 : sc13 4907 = nI l := (hG13.1 4907 (by decide)).trans k12_4907
            have hk13 : ∀ x, x < 700 * l + c → ar13 71 x = ar 71 x := fun x w => (hu13 x (by omega)).trans (hk12 x w)
            have hF13 := fr_t hF12 hG13 (by decide) (by decide)
            have sg13_0 := seg_ag sg12_0 hu13 (by omega)
            rcases hr13 with hb13 | ⟨hb13, hz13, c13, B13, ec13, eB13, hcc13, hBB13, hB13, hpo13, sg13⟩
            · refine to_eq (fr' := (76, [(0, .ref 49), (1, .int (nI w)), (2, .int 2)], [], gh S a b sc13 ar13 lo, ex, 0, 0)) rfl ?_
              refine to_n 2 (fr' := (78, [(0, .ref 49), (1, .int (nI w)), (2, .int 2)], [.int 2, .ref 49], gh S a b sc13 ar13 lo, ex, 0, 0)) rfl ?_
              refine to_cu (q := 126) (M1 := an_X10_emit) (rest := []) rfl rfl (by decide) rfl ⟨_, rfl⟩ (em_bad 2 hb13 (d + 4)) ?_ 
              refine to_eq (fr' := (81, [(0, .ref 49), (1, .int (nI w)), (2, .int 2)], [], gh S a b sc13 ar13 lo, ex, 0, 0)) rfl ?_
              refine to_n 2 (fr' := (6, [(0, .ref 49), (1, .int (nI w)), (2, .int 2)], [.ref 49], gh S a b sc13 ar13 lo, ex, 0, 0)) rfl ?_
              refine to_getR (v := (sc13 4941)) rfl rfl rfl rfl rfl ?_
              refine to_if_ne_T (t := 84) rfl hb13 ?_
              exact to_rt (i := .return_) (tg := []) rfl rfl ⟨_, _, ⟨hI13, hF13, ⟨hk13, Or.inl hb13⟩⟩, rfl⟩
            · refine to_eq (fr' := (76, [(0, .ref 49), (1, .int (nI w)), (2, .int 2)], [], gh S a b sc13 ar13 lo, ex, 0, 0)) rfl ?_
              refine to_n 2 (fr' := (78, [(0, .ref 49), (1, .int (nI w)), (2, .int 2)], [.int 2, .ref 49], gh S a b sc13 ar13 lo, ex, 0, 0)) rfl ?_
              refine to_cv (q := 126) (M1 := an_X10_emit) (rest := []) rfl rfl (by decide) rfl ⟨_, rfl⟩ (em_ok hW hI13 2 l c13 (by omega) (by omega) hb13 k13_4907 ec13 (d + 4)) (fun sc15 ar15 hx15 => ?_)
              obtain ⟨hI15, hG15, hs15, ha15⟩ := hx15
              have k15_4907 : sc15 4907 = (nI l) := (hG15.1 4907 (by decide)).trans k13_4907
              have k15_4939 : sc15 4939 = (nI B13) := (hG15.1 4939 (by decide)).trans eB13
              have k15_4941 : sc15 4941 = 0 := (hG15.1 4941 (by decide)).trans hb13
              have k15_4934 : sc15 4934 = nI (c13 + 1) := by rw [hs15]; exact up_eq
              have hc15 : ar15 71 = upd (ar13 71) (700 * l + c13) 2 := by rw [ha15]; rfl
              have hv15 : ar15 71 (700 * l + c13) = 2 := by rw [hc15]; exact up_eq
              have hu15 : ∀ x, x < 700 * l + c13 → ar15 71 x = ar13 71 x := fun x w => by rw [hc15]; exact up_ne (by omega)
              have hk15 : ∀ x, x < 700 * l + c → ar15 71 x = ar 71 x := fun x w => (hu15 x (by omega)).trans (hk13 x w)
              have hz15 := pz_fr hz13 hG15 (by decide) (by decide) (by decide) (by decide) (by decide)
              have hF15 := fr_t hF13 hG15 (by decide) (by decide)
              have sg15_0 := seg_ag sg13_0 hu15 (by omega)
              have sg15_1 := seg_ag sg13 hu15 (by omega)
              have sb15 : seg (ar15 71) (700 * l + c) (700 * l + (c13 + 1)) (h + 1) := seg_bin (k := 700 * l + c13) sg15_0 sg15_1 hv15 (by decide) (by decide) (by decide) (by omega) (by omega) (by omega) (by omega)
              refine to_eq (fr' := (81, [(0, .ref 49), (1, .int (nI w)), (2, .int 2)], [], gh S a b sc15 ar15 lo, ex, 0, 0)) rfl ?_
              refine to_n 1 (fr' := (5, [(0, .ref 49), (1, .int (nI w)), (2, .int 2)], [], gh S a b sc15 ar15 lo, ex, 0, 0)) rfl ?_
              refine to_lv (lv := [(0, .ref 49), (1, .int (nI w))]) rfl ⟨rfl, rfl, trivial⟩ ?_
              exact ih (c13 + 1) B13 sc15 ar15 (by omega) k15_4934 k15_4939 k15_4907 k15_4941 hz15 hk15 (by omega) (by omega) (by omega) (seg_le sb15 (by omega)) (by omega) hI15 hF15
        · refine to_n 4 (fr' := (68, [(0, .ref 49), (1, .int (nI w)), (2, .int 1)], [.ref 49], gh S a b sc1 ar1 lo, ex, 0, 0)) rfl ?_
          refine to_cv (q := 122) (M1 := an_X10_step) (rest := []) rfl rfl (by decide) rfl ⟨_, rfl⟩ (st_next hW hI1 hc5_1 (by omega) hc5_4 (tok_nz (iw_tok hn4 hp4 q5) (by decide)) (d + 3)) (fun sc16 ar16 hx16 => ?_)
          obtain ⟨hI16, hG16, hz16, B16, eB16, hB16, hC16⟩ := hx16
          have k16_4907 : sc16 4907 = (nI l) := (hG16.1 4907 (by decide)).trans hc5_2
          have k16_4934 : sc16 4934 = (nI c1) := (hG16.1 4934 (by decide)).trans hc5_0
          have k16_4941 : sc16 4941 = 0 := (hG16.1 4941 (by decide)).trans hc5_3
          have hk16 : ∀ x, x < 700 * l + c → ar16 71 x = ar 71 x := kp_st hc5_5 hG16 (by decide)
          have sg16_0 := sg_st hc5_9 hG16 (by decide)
          have hF16 := fr_t hF1 hG16 (by decide) (by decide)
          refine to_eq (fr' := (71, [(0, .ref 49), (1, .int (nI w)), (2, .int 1)], [], gh S a b sc16 ar16 lo, ex, 0, 0)) rfl ?_
          refine to_n 2 (fr' := (73, [(0, .ref 49), (1, .int (nI w)), (2, .int 1)], [.int (nI w), .ref 49], gh S a b sc16 ar16 lo, ex, 0, 0)) rfl ?_
          refine to_cv (q := 131) (M1 := an_X10_readPart) (rest := []) rfl rfl (by decide) rfl ⟨_, rfl⟩ (hE sc16 ar16 l c1 (e + 2) B16 hI16 (by omega) k16_4907 k16_4934 eB16 (by omega) k16_4941 hz16 (by omega)) (fun sc17 ar17 hx17 => ?_)
          obtain ⟨hI17, hG17, hu17, hr17⟩ := hx17
          have k17_4907 : sc17 4907 = nI l := (hG17.1 4907 (by decide)).trans k16_4907
          have hk17 : ∀ x, x < 700 * l + c → ar17 71 x = ar 71 x := fun x w => (hu17 x (by omega)).trans (hk16 x w)
          have hF17 := fr_t hF16 hG17 (by decide) (by decide)
          have sg17_0 := seg_ag sg16_0 hu17 (by omega)
          rcases hr17 with hb17 | ⟨hb17, hz17, c17, B17, ec17, eB17, hcc17, hBB17, hB17, hpo17, sg17⟩
          · refine to_eq (fr' := (76, [(0, .ref 49), (1, .int (nI w)), (2, .int 1)], [], gh S a b sc17 ar17 lo, ex, 0, 0)) rfl ?_
            refine to_n 2 (fr' := (78, [(0, .ref 49), (1, .int (nI w)), (2, .int 1)], [.int 1, .ref 49], gh S a b sc17 ar17 lo, ex, 0, 0)) rfl ?_
            refine to_cu (q := 126) (M1 := an_X10_emit) (rest := []) rfl rfl (by decide) rfl ⟨_, rfl⟩ (em_bad 1 hb17 (d + 4)) ?_ 
            refine to_eq (fr' := (81, [(0, .ref 49), (1, .int (nI w)), (2, .int 1)], [], gh S a b sc17 ar17 lo, ex, 0, 0)) rfl ?_
            refine to_n 2 (fr' := (6, [(0, .ref 49), (1, .int (nI w)), (2, .int 1)], [.ref 49], gh S a b sc17 ar17 lo, ex, 0, 0)) rfl ?_
            refine to_getR (v := (sc17 4941)) rfl rfl rfl rfl rfl ?_
            refine to_if_ne_T (t := 84) rfl hb17 ?_
            exact to_rt (i := .return_) (tg := []) rfl rfl ⟨_, _, ⟨hI17, hF17, ⟨hk17, Or.inl hb17⟩⟩, rfl⟩
          · refine to_eq (fr' := (76, [(0, .ref 49), (1, .int (nI w)), (2, .int 1)], [], gh S a b sc17 ar17 lo, ex, 0, 0)) rfl ?_
            refine to_n 2 (fr' := (78, [(0, .ref 49), (1, .int (nI w)), (2, .int 1)], [.int 1, .ref 49], gh S a b sc17 ar17 lo, ex, 0, 0)) rfl ?_
            refine to_cv (q := 126) (M1 := an_X10_emit) (rest := []) rfl rfl (by decide) rfl ⟨_, rfl⟩ (em_ok hW hI17 1 l c17 (by omega) (by omega) hb17 k17_4907 ec17 (d + 4)) (fun sc19 ar19 hx19 => ?_)
            obtain ⟨hI19, hG19, hs19, ha19⟩ := hx19
            have k19_4907 : sc19 4907 = (nI l) := (hG19.1 4907 (by decide)).trans k17_4907
            have k19_4939 : sc19 4939 = (nI B17) := (hG19.1 4939 (by decide)).trans eB17
            have k19_4941 : sc19 4941 = 0 := (hG19.1 4941 (by decide)).trans hb17
            have k19_4934 : sc19 4934 = nI (c17 + 1) := by rw [hs19]; exact up_eq
            have hc19 : ar19 71 = upd (ar17 71) (700 * l + c17) 1 := by rw [ha19]; rfl
            have hv19 : ar19 71 (700 * l + c17) = 1 := by rw [hc19]; exact up_eq
            have hu19 : ∀ x, x < 700 * l + c17 → ar19 71 x = ar17 71 x := fun x w => by rw [hc19]; exact up_ne (by omega)
            have hk19 : ∀ x, x < 700 * l + c → ar19 71 x = ar 71 x := fun x w => (hu19 x (by omega)).trans (hk17 x w)
            have hz19 := pz_fr hz17 hG19 (by decide) (by decide) (by decide) (by decide) (by decide)
            have hF19 := fr_t hF17 hG19 (by decide) (by decide)
            have sg19_0 := seg_ag sg17_0 hu19 (by omega)
            have sg19_1 := seg_ag sg17 hu19 (by omega)
            have sb19 : seg (ar19 71) (700 * l + c) (700 * l + (c17 + 1)) (h + 1) := seg_bin (k := 700 * l + c17) sg19_0 sg19_1 hv19 (by decide) (by decide) (by decide) (by omega) (by omega) (by omega) (by omega)
            refine to_eq (fr' := (81, [(0, .ref 49), (1, .int (nI w)), (2, .int 1)], [], gh S a b sc19 ar19 lo, ex, 0, 0)) rfl ?_
            refine to_n 1 (fr' := (5, [(0, .ref 49), (1, .int (nI w)), (2, .int 1)], [], gh S a b sc19 ar19 lo, ex, 0, 0)) rfl ?_
            refine to_lv (lv := [(0, .ref 49), (1, .int (nI w))]) rfl ⟨rfl, rfl, trivial⟩ ?_
            exact ih (c17 + 1) B17 sc19 ar19 (by omega) k19_4934 k19_4939 k19_4907 k19_4941 hz19 hk19 (by omega) (by omega) (by omega) (seg_le sb19 (by omega)) (by omega) hI19 hF19
      · refine to_n 2 (fr' := (24, [(0, .ref 49), (1, .int (nI w))], [.int 45, .ref 49], gh S a b sc1 ar1 lo, ex, 0, 0)) rfl ?_
        refine to_cp (q := 124) (M1 := an_X10_isSign) (rest := []) rfl rfl (by decide) rfl ⟨_, rfl⟩ (sf_X10_isSign hW hI1 45 (d + 4)) (fun x20 hx20 => ?_)
        obtain ⟨⟨n20, hn20, rfl⟩, hp20⟩ := hx20
        refine to_eq (fr' := (27, [(0, .ref 49), (1, .int (nI w))], [.int (nI n20)], gh S a b sc1 ar1 lo, ex, 0, 0)) rfl ?_
        refine to_nf_ne (t := 39) (x := n20) rfl (by omega) (fun q21 => ?_) (fun q21 => ?_)
        · refine to_n 2 (fr' := (42, [(0, .ref 49), (1, .int (nI w))], [.int 43, .ref 49], gh S a b sc1 ar1 lo, ex, 0, 0)) rfl ?_
          refine to_cp (q := 124) (M1 := an_X10_isSign) (rest := []) rfl rfl (by decide) rfl ⟨_, rfl⟩ (sf_X10_isSign hW hI1 43 (d + 4)) (fun x22 hx22 => ?_)
          obtain ⟨⟨n22, hn22, rfl⟩, hp22⟩ := hx22
          refine to_eq (fr' := (45, [(0, .ref 49), (1, .int (nI w))], [.int (nI n22)], gh S a b sc1 ar1 lo, ex, 0, 0)) rfl ?_
          refine to_nf_eq (t := 52) (x := n22) rfl (by omega) (fun q23 => ?_) (fun q23 => ?_)
          · refine to_n 2 (fr' := (55, [(0, .ref 49), (1, .int (nI w))], [.int 45, .ref 49], gh S a b sc1 ar1 lo, ex, 0, 0)) rfl ?_
            refine to_cp (q := 124) (M1 := an_X10_isSign) (rest := []) rfl rfl (by decide) rfl ⟨_, rfl⟩ (sf_X10_isSign hW hI1 45 (d + 4)) (fun x24 hx24 => ?_)
            obtain ⟨⟨n24, hn24, rfl⟩, hp24⟩ := hx24
            refine to_eq (fr' := (58, [(0, .ref 49), (1, .int (nI w))], [.int (nI n24)], gh S a b sc1 ar1 lo, ex, 0, 0)) rfl ?_
            refine to_nf_eq (t := 65) (x := n24) rfl (by omega) (fun q25 => ?_) (fun q25 => ?_)
            · refine to_n 3 (fr' := (68, [(0, .ref 49), (1, .int (nI w)), (2, .int 3)], [.ref 49], gh S a b sc1 ar1 lo, ex, 0, 0)) rfl ?_
              refine to_cv (q := 122) (M1 := an_X10_step) (rest := []) rfl rfl (by decide) rfl ⟨_, rfl⟩ (st_next hW hI1 hc5_1 (by omega) hc5_4 (tok_nz (iw_tok hn20 hp20 q21) (by decide)) (d + 3)) (fun sc26 ar26 hx26 => ?_)
              obtain ⟨hI26, hG26, hz26, B26, eB26, hB26, hC26⟩ := hx26
              have k26_4907 : sc26 4907 = (nI l) := (hG26.1 4907 (by decide)).trans hc5_2
              have k26_4934 : sc26 4934 = (nI c1) := (hG26.1 4934 (by decide)).trans hc5_0
              have k26_4941 : sc26 4941 = 0 := (hG26.1 4941 (by decide)).trans hc5_3
              have hk26 : ∀ x, x < 700 * l + c → ar26 71 x = ar 71 x := kp_st hc5_5 hG26 (by decide)
              have sg26_0 := sg_st hc5_9 hG26 (by decide)
              have hF26 := fr_t hF1 hG26 (by decide) (by decide)
              refine to_eq (fr' := (71, [(0, .ref 49), (1, .int (nI w)), (2, .int 3)], [], gh S a b sc26 ar26 lo, ex, 0, 0)) rfl ?_
              refine to_n 2 (fr' := (73, [(0, .ref 49), (1, .int (nI w)), (2, .int 3)], [.int (nI w), .ref 49], gh S a b sc26 ar26 lo, ex, 0, 0)) rfl ?_
              refine to_cv (q := 131) (M1 := an_X10_readPart) (rest := []) rfl rfl (by decide) rfl ⟨_, rfl⟩ (hE sc26 ar26 l c1 (e + 2) B26 hI26 (by omega) k26_4907 k26_4934 eB26 (by omega) k26_4941 hz26 (by omega)) (fun sc27 ar27 hx27 => ?_)
              obtain ⟨hI27, hG27, hu27, hr27⟩ := hx27
              have k27_4907 : sc27 4907 = nI l := (hG27.1 4907 (by decide)).trans k26_4907
              have hk27 : ∀ x, x < 700 * l + c → ar27 71 x = ar 71 x := fun x w => (hu27 x (by omega)).trans (hk26 x w)
              have hF27 := fr_t hF26 hG27 (by decide) (by decide)
              have sg27_0 := seg_ag sg26_0 hu27 (by omega)
              rcases hr27 with hb27 | ⟨hb27, hz27, c27, B27, ec27, eB27, hcc27, hBB27, hB27, hpo27, sg27⟩
              · refine to_eq (fr' := (76, [(0, .ref 49), (1, .int (nI w)), (2, .int 3)], [], gh S a b sc27 ar27 lo, ex, 0, 0)) rfl ?_
                refine to_n 2 (fr' := (78, [(0, .ref 49), (1, .int (nI w)), (2, .int 3)], [.int 3, .ref 49], gh S a b sc27 ar27 lo, ex, 0, 0)) rfl ?_
                refine to_cu (q := 126) (M1 := an_X10_emit) (rest := []) rfl rfl (by decide) rfl ⟨_, rfl⟩ (em_bad 3 hb27 (d + 4)) ?_ 
                refine to_eq (fr' := (81, [(0, .ref 49), (1, .int (nI w)), (2, .int 3)], [], gh S a b sc27 ar27 lo, ex, 0, 0)) rfl ?_
                refine to_n 2 (fr' := (6, [(0, .ref 49), (1, .int (nI w)), (2, .int 3)], [.ref 49], gh S a b sc27 ar27 lo, ex, 0, 0)) rfl ?_
                refine to_getR (v := (sc27 4941)) rfl rfl rfl rfl rfl ?_
                refine to_if_ne_T (t := 84) rfl hb27 ?_
                exact to_rt (i := .return_) (tg := []) rfl rfl ⟨_, _, ⟨hI27, hF27, ⟨hk27, Or.inl hb27⟩⟩, rfl⟩
              · refine to_eq (fr' := (76, [(0, .ref 49), (1, .int (nI w)), (2, .int 3)], [], gh S a b sc27 ar27 lo, ex, 0, 0)) rfl ?_
                refine to_n 2 (fr' := (78, [(0, .ref 49), (1, .int (nI w)), (2, .int 3)], [.int 3, .ref 49], gh S a b sc27 ar27 lo, ex, 0, 0)) rfl ?_
                refine to_cv (q := 126) (M1 := an_X10_emit) (rest := []) rfl rfl (by decide) rfl ⟨_, rfl⟩ (em_ok hW hI27 3 l c27 (by omega) (by omega) hb27 k27_4907 ec27 (d + 4)) (fun sc29 ar29 hx29 => ?_)
                obtain ⟨hI29, hG29, hs29, ha29⟩ := hx29
                have k29_4907 : sc29 4907 = (nI l) := (hG29.1 4907 (by decide)).trans k27_4907
                have k29_4939 : sc29 4939 = (nI B27) := (hG29.1 4939 (by decide)).trans eB27
                have k29_4941 : sc29 4941 = 0 := (hG29.1 4941 (by decide)).trans hb27
                have k29_4934 : sc29 4934 = nI (c27 + 1) := by rw [hs29]; exact up_eq
                have hc29 : ar29 71 = upd (ar27 71) (700 * l + c27) 3 := by rw [ha29]; rfl
                have hv29 : ar29 71 (700 * l + c27) = 3 := by rw [hc29]; exact up_eq
                have hu29 : ∀ x, x < 700 * l + c27 → ar29 71 x = ar27 71 x := fun x w => by rw [hc29]; exact up_ne (by omega)
                have hk29 : ∀ x, x < 700 * l + c → ar29 71 x = ar 71 x := fun x w => (hu29 x (by omega)).trans (hk27 x w)
                have hz29 := pz_fr hz27 hG29 (by decide) (by decide) (by decide) (by decide) (by decide)
                have hF29 := fr_t hF27 hG29 (by decide) (by decide)
                have sg29_0 := seg_ag sg27_0 hu29 (by omega)
                have sg29_1 := seg_ag sg27 hu29 (by omega)
                have sb29 : seg (ar29 71) (700 * l + c) (700 * l + (c27 + 1)) (h + 1) := seg_bin (k := 700 * l + c27) sg29_0 sg29_1 hv29 (by decide) (by decide) (by decide) (by omega) (by omega) (by omega) (by omega)
                refine to_eq (fr' := (81, [(0, .ref 49), (1, .int (nI w)), (2, .int 3)], [], gh S a b sc29 ar29 lo, ex, 0, 0)) rfl ?_
                refine to_n 1 (fr' := (5, [(0, .ref 49), (1, .int (nI w)), (2, .int 3)], [], gh S a b sc29 ar29 lo, ex, 0, 0)) rfl ?_
                refine to_lv (lv := [(0, .ref 49), (1, .int (nI w))]) rfl ⟨rfl, rfl, trivial⟩ ?_
                exact ih (c27 + 1) B27 sc29 ar29 (by omega) k29_4934 k29_4939 k29_4907 k29_4941 hz29 hk29 (by omega) (by omega) (by omega) (seg_le sb29 (by omega)) (by omega) hI29 hF29
            · refine to_n 4 (fr' := (68, [(0, .ref 49), (1, .int (nI w)), (2, .int 2)], [.ref 49], gh S a b sc1 ar1 lo, ex, 0, 0)) rfl ?_
              refine to_cv (q := 122) (M1 := an_X10_step) (rest := []) rfl rfl (by decide) rfl ⟨_, rfl⟩ (st_next hW hI1 hc5_1 (by omega) hc5_4 (tok_nz (iw_tok hn24 hp24 q25) (by decide)) (d + 3)) (fun sc30 ar30 hx30 => ?_)
              obtain ⟨hI30, hG30, hz30, B30, eB30, hB30, hC30⟩ := hx30
              have k30_4907 : sc30 4907 = (nI l) := (hG30.1 4907 (by decide)).trans hc5_2
              have k30_4934 : sc30 4934 = (nI c1) := (hG30.1 4934 (by decide)).trans hc5_0
              have k30_4941 : sc30 4941 = 0 := (hG30.1 4941 (by decide)).trans hc5_3
              have hk30 : ∀ x, x < 700 * l + c → ar30 71 x = ar 71 x := kp_st hc5_5 hG30 (by decide)
              have sg30_0 := sg_st hc5_9 hG30 (by decide)
              have hF30 := fr_t hF1 hG30 (by decide) (by decide)
              refine to_eq (fr' := (71, [(0, .ref 49), (1, .int (nI w)), (2, .int 2)], [], gh S a b sc30 ar30 lo, ex, 0, 0)) rfl ?_
              refine to_n 2 (fr' := (73, [(0, .ref 49), (1, .int (nI w)), (2, .int 2)], [.int (nI w), .ref 49], gh S a b sc30 ar30 lo, ex, 0, 0)) rfl ?_
              refine to_cv (q := 131) (M1 := an_X10_readPart) (rest := []) rfl rfl (by decide) rfl ⟨_, rfl⟩ (hE sc30 ar30 l c1 (e + 2) B30 hI30 (by omega) k30_4907 k30_4934 eB30 (by omega) k30_4941 hz30 (by omega)) (fun sc31 ar31 hx31 => ?_)
              obtain ⟨hI31, hG31, hu31, hr31⟩ := hx31
              have k31_4907 : sc31 4907 = nI l := (hG31.1 4907 (by decide)).trans k30_4907
              have hk31 : ∀ x, x < 700 * l + c → ar31 71 x = ar 71 x := fun x w => (hu31 x (by omega)).trans (hk30 x w)
              have hF31 := fr_t hF30 hG31 (by decide) (by decide)
              have sg31_0 := seg_ag sg30_0 hu31 (by omega)
              rcases hr31 with hb31 | ⟨hb31, hz31, c31, B31, ec31, eB31, hcc31, hBB31, hB31, hpo31, sg31⟩
              · refine to_eq (fr' := (76, [(0, .ref 49), (1, .int (nI w)), (2, .int 2)], [], gh S a b sc31 ar31 lo, ex, 0, 0)) rfl ?_
                refine to_n 2 (fr' := (78, [(0, .ref 49), (1, .int (nI w)), (2, .int 2)], [.int 2, .ref 49], gh S a b sc31 ar31 lo, ex, 0, 0)) rfl ?_
                refine to_cu (q := 126) (M1 := an_X10_emit) (rest := []) rfl rfl (by decide) rfl ⟨_, rfl⟩ (em_bad 2 hb31 (d + 4)) ?_ 
                refine to_eq (fr' := (81, [(0, .ref 49), (1, .int (nI w)), (2, .int 2)], [], gh S a b sc31 ar31 lo, ex, 0, 0)) rfl ?_
                refine to_n 2 (fr' := (6, [(0, .ref 49), (1, .int (nI w)), (2, .int 2)], [.ref 49], gh S a b sc31 ar31 lo, ex, 0, 0)) rfl ?_
                refine to_getR (v := (sc31 4941)) rfl rfl rfl rfl rfl ?_
                refine to_if_ne_T (t := 84) rfl hb31 ?_
                exact to_rt (i := .return_) (tg := []) rfl rfl ⟨_, _, ⟨hI31, hF31, ⟨hk31, Or.inl hb31⟩⟩, rfl⟩
              · refine to_eq (fr' := (76, [(0, .ref 49), (1, .int (nI w)), (2, .int 2)], [], gh S a b sc31 ar31 lo, ex, 0, 0)) rfl ?_
                refine to_n 2 (fr' := (78, [(0, .ref 49), (1, .int (nI w)), (2, .int 2)], [.int 2, .ref 49], gh S a b sc31 ar31 lo, ex, 0, 0)) rfl ?_
                refine to_cv (q := 126) (M1 := an_X10_emit) (rest := []) rfl rfl (by decide) rfl ⟨_, rfl⟩ (em_ok hW hI31 2 l c31 (by omega) (by omega) hb31 k31_4907 ec31 (d + 4)) (fun sc33 ar33 hx33 => ?_)
                obtain ⟨hI33, hG33, hs33, ha33⟩ := hx33
                have k33_4907 : sc33 4907 = (nI l) := (hG33.1 4907 (by decide)).trans k31_4907
                have k33_4939 : sc33 4939 = (nI B31) := (hG33.1 4939 (by decide)).trans eB31
                have k33_4941 : sc33 4941 = 0 := (hG33.1 4941 (by decide)).trans hb31
                have k33_4934 : sc33 4934 = nI (c31 + 1) := by rw [hs33]; exact up_eq
                have hc33 : ar33 71 = upd (ar31 71) (700 * l + c31) 2 := by rw [ha33]; rfl
                have hv33 : ar33 71 (700 * l + c31) = 2 := by rw [hc33]; exact up_eq
                have hu33 : ∀ x, x < 700 * l + c31 → ar33 71 x = ar31 71 x := fun x w => by rw [hc33]; exact up_ne (by omega)
                have hk33 : ∀ x, x < 700 * l + c → ar33 71 x = ar 71 x := fun x w => (hu33 x (by omega)).trans (hk31 x w)
                have hz33 := pz_fr hz31 hG33 (by decide) (by decide) (by decide) (by decide) (by decide)
                have hF33 := fr_t hF31 hG33 (by decide) (by decide)
                have sg33_0 := seg_ag sg31_0 hu33 (by omega)
                have sg33_1 := seg_ag sg31 hu33 (by omega)
                have sb33 : seg (ar33 71) (700 * l + c) (700 * l + (c31 + 1)) (h + 1) := seg_bin (k := 700 * l + c31) sg33_0 sg33_1 hv33 (by decide) (by decide) (by decide) (by omega) (by omega) (by omega) (by omega)
                refine to_eq (fr' := (81, [(0, .ref 49), (1, .int (nI w)), (2, .int 2)], [], gh S a b sc33 ar33 lo, ex, 0, 0)) rfl ?_
                refine to_n 1 (fr' := (5, [(0, .ref 49), (1, .int (nI w)), (2, .int 2)], [], gh S a b sc33 ar33 lo, ex, 0, 0)) rfl ?_
                refine to_lv (lv := [(0, .ref 49), (1, .int (nI w))]) rfl ⟨rfl, rfl, trivial⟩ ?_
                exact ih (c31 + 1) B31 sc33 ar33 (by omega) k33_4934 k33_4939 k33_4907 k33_4941 hz33 hk33 (by omega) (by omega) (by omega) (seg_le sb33 (by omega)) (by omega) hI33 hF33
          · refine to_n 4 (fr' := (68, [(0, .ref 49), (1, .int (nI w)), (2, .int 1)], [.ref 49], gh S a b sc1 ar1 lo, ex, 0, 0)) rfl ?_
            refine to_cv (q := 122) (M1 := an_X10_step) (rest := []) rfl rfl (by decide) rfl ⟨_, rfl⟩ (st_next hW hI1 hc5_1 (by omega) hc5_4 (tok_nz (iw_tok hn22 hp22 q23) (by decide)) (d + 3)) (fun sc34 ar34 hx34 => ?_)
            obtain ⟨hI34, hG34, hz34, B34, eB34, hB34, hC34⟩ := hx34
            have k34_4907 : sc34 4907 = (nI l) := (hG34.1 4907 (by decide)).trans hc5_2
            have k34_4934 : sc34 4934 = (nI c1) := (hG34.1 4934 (by decide)).trans hc5_0
            have k34_4941 : sc34 4941 = 0 := (hG34.1 4941 (by decide)).trans hc5_3
            have hk34 : ∀ x, x < 700 * l + c → ar34 71 x = ar 71 x := kp_st hc5_5 hG34 (by decide)
            have sg34_0 := sg_st hc5_9 hG34 (by decide)
            have hF34 := fr_t hF1 hG34 (by decide) (by decide)
            refine to_eq (fr' := (71, [(0, .ref 49), (1, .int (nI w)), (2, .int 1)], [], gh S a b sc34 ar34 lo, ex, 0, 0)) rfl ?_
            refine to_n 2 (fr' := (73, [(0, .ref 49), (1, .int (nI w)), (2, .int 1)], [.int (nI w), .ref 49], gh S a b sc34 ar34 lo, ex, 0, 0)) rfl ?_
            refine to_cv (q := 131) (M1 := an_X10_readPart) (rest := []) rfl rfl (by decide) rfl ⟨_, rfl⟩ (hE sc34 ar34 l c1 (e + 2) B34 hI34 (by omega) k34_4907 k34_4934 eB34 (by omega) k34_4941 hz34 (by omega)) (fun sc35 ar35 hx35 => ?_)
            obtain ⟨hI35, hG35, hu35, hr35⟩ := hx35
            have k35_4907 : sc35 4907 = nI l := (hG35.1 4907 (by decide)).trans k34_4907
            have hk35 : ∀ x, x < 700 * l + c → ar35 71 x = ar 71 x := fun x w => (hu35 x (by omega)).trans (hk34 x w)
            have hF35 := fr_t hF34 hG35 (by decide) (by decide)
            have sg35_0 := seg_ag sg34_0 hu35 (by omega)
            rcases hr35 with hb35 | ⟨hb35, hz35, c35, B35, ec35, eB35, hcc35, hBB35, hB35, hpo35, sg35⟩
            · refine to_eq (fr' := (76, [(0, .ref 49), (1, .int (nI w)), (2, .int 1)], [], gh S a b sc35 ar35 lo, ex, 0, 0)) rfl ?_
              refine to_n 2 (fr' := (78, [(0, .ref 49), (1, .int (nI w)), (2, .int 1)], [.int 1, .ref 49], gh S a b sc35 ar35 lo, ex, 0, 0)) rfl ?_
              refine to_cu (q := 126) (M1 := an_X10_emit) (rest := []) rfl rfl (by decide) rfl ⟨_, rfl⟩ (em_bad 1 hb35 (d + 4)) ?_ 
              refine to_eq (fr' := (81, [(0, .ref 49), (1, .int (nI w)), (2, .int 1)], [], gh S a b sc35 ar35 lo, ex, 0, 0)) rfl ?_
              refine to_n 2 (fr' := (6, [(0, .ref 49), (1, .int (nI w)), (2, .int 1)], [.ref 49], gh S a b sc35 ar35 lo, ex, 0, 0)) rfl ?_
              refine to_getR (v := (sc35 4941)) rfl rfl rfl rfl rfl ?_
              refine to_if_ne_T (t := 84) rfl hb35 ?_
              exact to_rt (i := .return_) (tg := []) rfl rfl ⟨_, _, ⟨hI35, hF35, ⟨hk35, Or.inl hb35⟩⟩, rfl⟩
            · refine to_eq (fr' := (76, [(0, .ref 49), (1, .int (nI w)), (2, .int 1)], [], gh S a b sc35 ar35 lo, ex, 0, 0)) rfl ?_
              refine to_n 2 (fr' := (78, [(0, .ref 49), (1, .int (nI w)), (2, .int 1)], [.int 1, .ref 49], gh S a b sc35 ar35 lo, ex, 0, 0)) rfl ?_
              refine to_cv (q := 126) (M1 := an_X10_emit) (rest := []) rfl rfl (by decide) rfl ⟨_, rfl⟩ (em_ok hW hI35 1 l c35 (by omega) (by omega) hb35 k35_4907 ec35 (d + 4)) (fun sc37 ar37 hx37 => ?_)
              obtain ⟨hI37, hG37, hs37, ha37⟩ := hx37
              have k37_4907 : sc37 4907 = (nI l) := (hG37.1 4907 (by decide)).trans k35_4907
              have k37_4939 : sc37 4939 = (nI B35) := (hG37.1 4939 (by decide)).trans eB35
              have k37_4941 : sc37 4941 = 0 := (hG37.1 4941 (by decide)).trans hb35
              have k37_4934 : sc37 4934 = nI (c35 + 1) := by rw [hs37]; exact up_eq
              have hc37 : ar37 71 = upd (ar35 71) (700 * l + c35) 1 := by rw [ha37]; rfl
              have hv37 : ar37 71 (700 * l + c35) = 1 := by rw [hc37]; exact up_eq
              have hu37 : ∀ x, x < 700 * l + c35 → ar37 71 x = ar35 71 x := fun x w => by rw [hc37]; exact up_ne (by omega)
              have hk37 : ∀ x, x < 700 * l + c → ar37 71 x = ar 71 x := fun x w => (hu37 x (by omega)).trans (hk35 x w)
              have hz37 := pz_fr hz35 hG37 (by decide) (by decide) (by decide) (by decide) (by decide)
              have hF37 := fr_t hF35 hG37 (by decide) (by decide)
              have sg37_0 := seg_ag sg35_0 hu37 (by omega)
              have sg37_1 := seg_ag sg35 hu37 (by omega)
              have sb37 : seg (ar37 71) (700 * l + c) (700 * l + (c35 + 1)) (h + 1) := seg_bin (k := 700 * l + c35) sg37_0 sg37_1 hv37 (by decide) (by decide) (by decide) (by omega) (by omega) (by omega) (by omega)
              refine to_eq (fr' := (81, [(0, .ref 49), (1, .int (nI w)), (2, .int 1)], [], gh S a b sc37 ar37 lo, ex, 0, 0)) rfl ?_
              refine to_n 1 (fr' := (5, [(0, .ref 49), (1, .int (nI w)), (2, .int 1)], [], gh S a b sc37 ar37 lo, ex, 0, 0)) rfl ?_
              refine to_lv (lv := [(0, .ref 49), (1, .int (nI w))]) rfl ⟨rfl, rfl, trivial⟩ ?_
              exact ih (c35 + 1) B35 sc37 ar37 (by omega) k37_4934 k37_4939 k37_4907 k37_4941 hz37 hk37 (by omega) (by omega) (by omega) (seg_le sb37 (by omega)) (by omega) hI37 hF37
        · refine to_n 2 (fr' := (33, [(0, .ref 49), (1, .int (nI w))], [.int 42, .ref 49], gh S a b sc1 ar1 lo, ex, 0, 0)) rfl ?_
          refine to_cp (q := 124) (M1 := an_X10_isSign) (rest := []) rfl rfl (by decide) rfl ⟨_, rfl⟩ (sf_X10_isSign hW hI1 42 (d + 4)) (fun x38 hx38 => ?_)
          obtain ⟨⟨n38, hn38, rfl⟩, hp38⟩ := hx38
          refine to_eq (fr' := (36, [(0, .ref 49), (1, .int (nI w))], [.int (nI n38)], gh S a b sc1 ar1 lo, ex, 0, 0)) rfl ?_
          refine to_nf_eq (t := 84) (x := n38) rfl (by omega) (fun q39 => ?_) (fun q39 => ?_)
          · exact to_rt (i := .return_) (tg := []) rfl rfl ⟨_, _, ⟨hI1, hF1, ⟨hc5_5, Or.inr ⟨hc5_3, hc5_4, c1, B1, hc5_0, hc5_1, by omega, by omega, by omega, by omega, seg_le hc5_9 (by omega)⟩⟩⟩, rfl⟩
          · refine to_n 2 (fr' := (42, [(0, .ref 49), (1, .int (nI w))], [.int 43, .ref 49], gh S a b sc1 ar1 lo, ex, 0, 0)) rfl ?_
            refine to_cp (q := 124) (M1 := an_X10_isSign) (rest := []) rfl rfl (by decide) rfl ⟨_, rfl⟩ (sf_X10_isSign hW hI1 43 (d + 4)) (fun x40 hx40 => ?_)
            obtain ⟨⟨n40, hn40, rfl⟩, hp40⟩ := hx40
            refine to_eq (fr' := (45, [(0, .ref 49), (1, .int (nI w))], [.int (nI n40)], gh S a b sc1 ar1 lo, ex, 0, 0)) rfl ?_
            refine to_nf_eq (t := 52) (x := n40) rfl (by omega) (fun q41 => ?_) (fun q41 => ?_)
            · refine to_n 2 (fr' := (55, [(0, .ref 49), (1, .int (nI w))], [.int 45, .ref 49], gh S a b sc1 ar1 lo, ex, 0, 0)) rfl ?_
              refine to_cp (q := 124) (M1 := an_X10_isSign) (rest := []) rfl rfl (by decide) rfl ⟨_, rfl⟩ (sf_X10_isSign hW hI1 45 (d + 4)) (fun x42 hx42 => ?_)
              obtain ⟨⟨n42, hn42, rfl⟩, hp42⟩ := hx42
              refine to_eq (fr' := (58, [(0, .ref 49), (1, .int (nI w))], [.int (nI n42)], gh S a b sc1 ar1 lo, ex, 0, 0)) rfl ?_
              refine to_nf_eq (t := 65) (x := n42) rfl (by omega) (fun q43 => ?_) (fun q43 => ?_)
              · refine to_n 3 (fr' := (68, [(0, .ref 49), (1, .int (nI w)), (2, .int 3)], [.ref 49], gh S a b sc1 ar1 lo, ex, 0, 0)) rfl ?_
                refine to_cv (q := 122) (M1 := an_X10_step) (rest := []) rfl rfl (by decide) rfl ⟨_, rfl⟩ (st_next hW hI1 hc5_1 (by omega) hc5_4 (tok_nz (iw_tok hn38 hp38 q39) (by decide)) (d + 3)) (fun sc44 ar44 hx44 => ?_)
                obtain ⟨hI44, hG44, hz44, B44, eB44, hB44, hC44⟩ := hx44
                have k44_4907 : sc44 4907 = (nI l) := (hG44.1 4907 (by decide)).trans hc5_2
                have k44_4934 : sc44 4934 = (nI c1) := (hG44.1 4934 (by decide)).trans hc5_0
                have k44_4941 : sc44 4941 = 0 := (hG44.1 4941 (by decide)).trans hc5_3
                have hk44 : ∀ x, x < 700 * l + c → ar44 71 x = ar 71 x := kp_st hc5_5 hG44 (by decide)
                have sg44_0 := sg_st hc5_9 hG44 (by decide)
                have hF44 := fr_t hF1 hG44 (by decide) (by decide)
                refine to_eq (fr' := (71, [(0, .ref 49), (1, .int (nI w)), (2, .int 3)], [], gh S a b sc44 ar44 lo, ex, 0, 0)) rfl ?_
                refine to_n 2 (fr' := (73, [(0, .ref 49), (1, .int (nI w)), (2, .int 3)], [.int (nI w), .ref 49], gh S a b sc44 ar44 lo, ex, 0, 0)) rfl ?_
                refine to_cv (q := 131) (M1 := an_X10_readPart) (rest := []) rfl rfl (by decide) rfl ⟨_, rfl⟩ (hE sc44 ar44 l c1 (e + 2) B44 hI44 (by omega) k44_4907 k44_4934 eB44 (by omega) k44_4941 hz44 (by omega)) (fun sc45 ar45 hx45 => ?_)
                obtain ⟨hI45, hG45, hu45, hr45⟩ := hx45
                have k45_4907 : sc45 4907 = nI l := (hG45.1 4907 (by decide)).trans k44_4907
                have hk45 : ∀ x, x < 700 * l + c → ar45 71 x = ar 71 x := fun x w => (hu45 x (by omega)).trans (hk44 x w)
                have hF45 := fr_t hF44 hG45 (by decide) (by decide)
                have sg45_0 := seg_ag sg44_0 hu45 (by omega)
                rcases hr45 with hb45 | ⟨hb45, hz45, c45, B45, ec45, eB45, hcc45, hBB45, hB45, hpo45, sg45⟩
                · refine to_eq (fr' := (76, [(0, .ref 49), (1, .int (nI w)), (2, .int 3)], [], gh S a b sc45 ar45 lo, ex, 0, 0)) rfl ?_
                  refine to_n 2 (fr' := (78, [(0, .ref 49), (1, .int (nI w)), (2, .int 3)], [.int 3, .ref 49], gh S a b sc45 ar45 lo, ex, 0, 0)) rfl ?_
                  refine to_cu (q := 126) (M1 := an_X10_emit) (rest := []) rfl rfl (by decide) rfl ⟨_, rfl⟩ (em_bad 3 hb45 (d + 4)) ?_ 
                  refine to_eq (fr' := (81, [(0, .ref 49), (1, .int (nI w)), (2, .int 3)], [], gh S a b sc45 ar45 lo, ex, 0, 0)) rfl ?_
                  refine to_n 2 (fr' := (6, [(0, .ref 49), (1, .int (nI w)), (2, .int 3)], [.ref 49], gh S a b sc45 ar45 lo, ex, 0, 0)) rfl ?_
                  refine to_getR (v := (sc45 4941)) rfl rfl rfl rfl rfl ?_
                  refine to_if_ne_T (t := 84) rfl hb45 ?_
                  exact to_rt (i := .return_) (tg := []) rfl rfl ⟨_, _, ⟨hI45, hF45, ⟨hk45, Or.inl hb45⟩⟩, rfl⟩
                · refine to_eq (fr' := (76, [(0, .ref 49), (1, .int (nI w)), (2, .int 3)], [], gh S a b sc45 ar45 lo, ex, 0, 0)) rfl ?_
                  refine to_n 2 (fr' := (78, [(0, .ref 49), (1, .int (nI w)), (2, .int 3)], [.int 3, .ref 49], gh S a b sc45 ar45 lo, ex, 0, 0)) rfl ?_
                  refine to_cv (q := 126) (M1 := an_X10_emit) (rest := []) rfl rfl (by decide) rfl ⟨_, rfl⟩ (em_ok hW hI45 3 l c45 (by omega) (by omega) hb45 k45_4907 ec45 (d + 4)) (fun sc47 ar47 hx47 => ?_)
                  obtain ⟨hI47, hG47, hs47, ha47⟩ := hx47
                  have k47_4907 : sc47 4907 = (nI l) := (hG47.1 4907 (by decide)).trans k45_4907
                  have k47_4939 : sc47 4939 = (nI B45) := (hG47.1 4939 (by decide)).trans eB45
                  have k47_4941 : sc47 4941 = 0 := (hG47.1 4941 (by decide)).trans hb45
                  have k47_4934 : sc47 4934 = nI (c45 + 1) := by rw [hs47]; exact up_eq
                  have hc47 : ar47 71 = upd (ar45 71) (700 * l + c45) 3 := by rw [ha47]; rfl
                  have hv47 : ar47 71 (700 * l + c45) = 3 := by rw [hc47]; exact up_eq
                  have hu47 : ∀ x, x < 700 * l + c45 → ar47 71 x = ar45 71 x := fun x w => by rw [hc47]; exact up_ne (by omega)
                  have hk47 : ∀ x, x < 700 * l + c → ar47 71 x = ar 71 x := fun x w => (hu47 x (by omega)).trans (hk45 x w)
                  have hz47 := pz_fr hz45 hG47 (by decide) (by decide) (by decide) (by decide) (by decide)
                  have hF47 := fr_t hF45 hG47 (by decide) (by decide)
                  have sg47_0 := seg_ag sg45_0 hu47 (by omega)
                  have sg47_1 := seg_ag sg45 hu47 (by omega)
                  have sb47 : seg (ar47 71) (700 * l + c) (700 * l + (c45 + 1)) (h + 1) := seg_bin (k := 700 * l + c45) sg47_0 sg47_1 hv47 (by decide) (by decide) (by decide) (by omega) (by omega) (by omega) (by omega)
                  refine to_eq (fr' := (81, [(0, .ref 49), (1, .int (nI w)), (2, .int 3)], [], gh S a b sc47 ar47 lo, ex, 0, 0)) rfl ?_
                  refine to_n 1 (fr' := (5, [(0, .ref 49), (1, .int (nI w)), (2, .int 3)], [], gh S a b sc47 ar47 lo, ex, 0, 0)) rfl ?_
                  refine to_lv (lv := [(0, .ref 49), (1, .int (nI w))]) rfl ⟨rfl, rfl, trivial⟩ ?_
                  exact ih (c45 + 1) B45 sc47 ar47 (by omega) k47_4934 k47_4939 k47_4907 k47_4941 hz47 hk47 (by omega) (by omega) (by omega) (seg_le sb47 (by omega)) (by omega) hI47 hF47
              · refine to_n 4 (fr' := (68, [(0, .ref 49), (1, .int (nI w)), (2, .int 2)], [.ref 49], gh S a b sc1 ar1 lo, ex, 0, 0)) rfl ?_
                refine to_cv (q := 122) (M1 := an_X10_step) (rest := []) rfl rfl (by decide) rfl ⟨_, rfl⟩ (st_next hW hI1 hc5_1 (by omega) hc5_4 (tok_nz (iw_tok hn42 hp42 q43) (by decide)) (d + 3)) (fun sc48 ar48 hx48 => ?_)
                obtain ⟨hI48, hG48, hz48, B48, eB48, hB48, hC48⟩ := hx48
                have k48_4907 : sc48 4907 = (nI l) := (hG48.1 4907 (by decide)).trans hc5_2
                have k48_4934 : sc48 4934 = (nI c1) := (hG48.1 4934 (by decide)).trans hc5_0
                have k48_4941 : sc48 4941 = 0 := (hG48.1 4941 (by decide)).trans hc5_3
                have hk48 : ∀ x, x < 700 * l + c → ar48 71 x = ar 71 x := kp_st hc5_5 hG48 (by decide)
                have sg48_0 := sg_st hc5_9 hG48 (by decide)
                have hF48 := fr_t hF1 hG48 (by decide) (by decide)
                refine to_eq (fr' := (71, [(0, .ref 49), (1, .int (nI w)), (2, .int 2)], [], gh S a b sc48 ar48 lo, ex, 0, 0)) rfl ?_
                refine to_n 2 (fr' := (73, [(0, .ref 49), (1, .int (nI w)), (2, .int 2)], [.int (nI w), .ref 49], gh S a b sc48 ar48 lo, ex, 0, 0)) rfl ?_
                refine to_cv (q := 131) (M1 := an_X10_readPart) (rest := []) rfl rfl (by decide) rfl ⟨_, rfl⟩ (hE sc48 ar48 l c1 (e + 2) B48 hI48 (by omega) k48_4907 k48_4934 eB48 (by omega) k48_4941 hz48 (by omega)) (fun sc49 ar49 hx49 => ?_)
                obtain ⟨hI49, hG49, hu49, hr49⟩ := hx49
                have k49_4907 : sc49 4907 = nI l := (hG49.1 4907 (by decide)).trans k48_4907
                have hk49 : ∀ x, x < 700 * l + c → ar49 71 x = ar 71 x := fun x w => (hu49 x (by omega)).trans (hk48 x w)
                have hF49 := fr_t hF48 hG49 (by decide) (by decide)
                have sg49_0 := seg_ag sg48_0 hu49 (by omega)
                rcases hr49 with hb49 | ⟨hb49, hz49, c49, B49, ec49, eB49, hcc49, hBB49, hB49, hpo49, sg49⟩
                · refine to_eq (fr' := (76, [(0, .ref 49), (1, .int (nI w)), (2, .int 2)], [], gh S a b sc49 ar49 lo, ex, 0, 0)) rfl ?_
                  refine to_n 2 (fr' := (78, [(0, .ref 49), (1, .int (nI w)), (2, .int 2)], [.int 2, .ref 49], gh S a b sc49 ar49 lo, ex, 0, 0)) rfl ?_
                  refine to_cu (q := 126) (M1 := an_X10_emit) (rest := []) rfl rfl (by decide) rfl ⟨_, rfl⟩ (em_bad 2 hb49 (d + 4)) ?_ 
                  refine to_eq (fr' := (81, [(0, .ref 49), (1, .int (nI w)), (2, .int 2)], [], gh S a b sc49 ar49 lo, ex, 0, 0)) rfl ?_
                  refine to_n 2 (fr' := (6, [(0, .ref 49), (1, .int (nI w)), (2, .int 2)], [.ref 49], gh S a b sc49 ar49 lo, ex, 0, 0)) rfl ?_
                  refine to_getR (v := (sc49 4941)) rfl rfl rfl rfl rfl ?_
                  refine to_if_ne_T (t := 84) rfl hb49 ?_
                  exact to_rt (i := .return_) (tg := []) rfl rfl ⟨_, _, ⟨hI49, hF49, ⟨hk49, Or.inl hb49⟩⟩, rfl⟩
                · refine to_eq (fr' := (76, [(0, .ref 49), (1, .int (nI w)), (2, .int 2)], [], gh S a b sc49 ar49 lo, ex, 0, 0)) rfl ?_
                  refine to_n 2 (fr' := (78, [(0, .ref 49), (1, .int (nI w)), (2, .int 2)], [.int 2, .ref 49], gh S a b sc49 ar49 lo, ex, 0, 0)) rfl ?_
                  refine to_cv (q := 126) (M1 := an_X10_emit) (rest := []) rfl rfl (by decide) rfl ⟨_, rfl⟩ (em_ok hW hI49 2 l c49 (by omega) (by omega) hb49 k49_4907 ec49 (d + 4)) (fun sc51 ar51 hx51 => ?_)
                  obtain ⟨hI51, hG51, hs51, ha51⟩ := hx51
                  have k51_4907 : sc51 4907 = (nI l) := (hG51.1 4907 (by decide)).trans k49_4907
                  have k51_4939 : sc51 4939 = (nI B49) := (hG51.1 4939 (by decide)).trans eB49
                  have k51_4941 : sc51 4941 = 0 := (hG51.1 4941 (by decide)).trans hb49
                  have k51_4934 : sc51 4934 = nI (c49 + 1) := by rw [hs51]; exact up_eq
                  have hc51 : ar51 71 = upd (ar49 71) (700 * l + c49) 2 := by rw [ha51]; rfl
                  have hv51 : ar51 71 (700 * l + c49) = 2 := by rw [hc51]; exact up_eq
                  have hu51 : ∀ x, x < 700 * l + c49 → ar51 71 x = ar49 71 x := fun x w => by rw [hc51]; exact up_ne (by omega)
                  have hk51 : ∀ x, x < 700 * l + c → ar51 71 x = ar 71 x := fun x w => (hu51 x (by omega)).trans (hk49 x w)
                  have hz51 := pz_fr hz49 hG51 (by decide) (by decide) (by decide) (by decide) (by decide)
                  have hF51 := fr_t hF49 hG51 (by decide) (by decide)
                  have sg51_0 := seg_ag sg49_0 hu51 (by omega)
                  have sg51_1 := seg_ag sg49 hu51 (by omega)
                  have sb51 : seg (ar51 71) (700 * l + c) (700 * l + (c49 + 1)) (h + 1) := seg_bin (k := 700 * l + c49) sg51_0 sg51_1 hv51 (by decide) (by decide) (by decide) (by omega) (by omega) (by omega) (by omega)
                  refine to_eq (fr' := (81, [(0, .ref 49), (1, .int (nI w)), (2, .int 2)], [], gh S a b sc51 ar51 lo, ex, 0, 0)) rfl ?_
                  refine to_n 1 (fr' := (5, [(0, .ref 49), (1, .int (nI w)), (2, .int 2)], [], gh S a b sc51 ar51 lo, ex, 0, 0)) rfl ?_
                  refine to_lv (lv := [(0, .ref 49), (1, .int (nI w))]) rfl ⟨rfl, rfl, trivial⟩ ?_
                  exact ih (c49 + 1) B49 sc51 ar51 (by omega) k51_4934 k51_4939 k51_4907 k51_4941 hz51 hk51 (by omega) (by omega) (by omega) (seg_le sb51 (by omega)) (by omega) hI51 hF51
            · refine to_n 4 (fr' := (68, [(0, .ref 49), (1, .int (nI w)), (2, .int 1)], [.ref 49], gh S a b sc1 ar1 lo, ex, 0, 0)) rfl ?_
              refine to_cv (q := 122) (M1 := an_X10_step) (rest := []) rfl rfl (by decide) rfl ⟨_, rfl⟩ (st_next hW hI1 hc5_1 (by omega) hc5_4 (tok_nz (iw_tok hn40 hp40 q41) (by decide)) (d + 3)) (fun sc52 ar52 hx52 => ?_)
              obtain ⟨hI52, hG52, hz52, B52, eB52, hB52, hC52⟩ := hx52
              have k52_4907 : sc52 4907 = (nI l) := (hG52.1 4907 (by decide)).trans hc5_2
              have k52_4934 : sc52 4934 = (nI c1) := (hG52.1 4934 (by decide)).trans hc5_0
              have k52_4941 : sc52 4941 = 0 := (hG52.1 4941 (by decide)).trans hc5_3
              have hk52 : ∀ x, x < 700 * l + c → ar52 71 x = ar 71 x := kp_st hc5_5 hG52 (by decide)
              have sg52_0 := sg_st hc5_9 hG52 (by decide)
              have hF52 := fr_t hF1 hG52 (by decide) (by decide)
              refine to_eq (fr' := (71, [(0, .ref 49), (1, .int (nI w)), (2, .int 1)], [], gh S a b sc52 ar52 lo, ex, 0, 0)) rfl ?_
              refine to_n 2 (fr' := (73, [(0, .ref 49), (1, .int (nI w)), (2, .int 1)], [.int (nI w), .ref 49], gh S a b sc52 ar52 lo, ex, 0, 0)) rfl ?_
              refine to_cv (q := 131) (M1 := an_X10_readPart) (rest := []) rfl rfl (by decide) rfl ⟨_, rfl⟩ (hE sc52 ar52 l c1 (e + 2) B52 hI52 (by omega) k52_4907 k52_4934 eB52 (by omega) k52_4941 hz52 (by omega)) (fun sc53 ar53 hx53 => ?_)
              obtain ⟨hI53, hG53, hu53, hr53⟩ := hx53
              have k53_4907 : sc53 4907 = nI l := (hG53.1 4907 (by decide)).trans k52_4907
              have hk53 : ∀ x, x < 700 * l + c → ar53 71 x = ar 71 x := fun x w => (hu53 x (by omega)).trans (hk52 x w)
              have hF53 := fr_t hF52 hG53 (by decide) (by decide)
              have sg53_0 := seg_ag sg52_0 hu53 (by omega)
              rcases hr53 with hb53 | ⟨hb53, hz53, c53, B53, ec53, eB53, hcc53, hBB53, hB53, hpo53, sg53⟩
              · refine to_eq (fr' := (76, [(0, .ref 49), (1, .int (nI w)), (2, .int 1)], [], gh S a b sc53 ar53 lo, ex, 0, 0)) rfl ?_
                refine to_n 2 (fr' := (78, [(0, .ref 49), (1, .int (nI w)), (2, .int 1)], [.int 1, .ref 49], gh S a b sc53 ar53 lo, ex, 0, 0)) rfl ?_
                refine to_cu (q := 126) (M1 := an_X10_emit) (rest := []) rfl rfl (by decide) rfl ⟨_, rfl⟩ (em_bad 1 hb53 (d + 4)) ?_ 
                refine to_eq (fr' := (81, [(0, .ref 49), (1, .int (nI w)), (2, .int 1)], [], gh S a b sc53 ar53 lo, ex, 0, 0)) rfl ?_
                refine to_n 2 (fr' := (6, [(0, .ref 49), (1, .int (nI w)), (2, .int 1)], [.ref 49], gh S a b sc53 ar53 lo, ex, 0, 0)) rfl ?_
                refine to_getR (v := (sc53 4941)) rfl rfl rfl rfl rfl ?_
                refine to_if_ne_T (t := 84) rfl hb53 ?_
                exact to_rt (i := .return_) (tg := []) rfl rfl ⟨_, _, ⟨hI53, hF53, ⟨hk53, Or.inl hb53⟩⟩, rfl⟩
              · refine to_eq (fr' := (76, [(0, .ref 49), (1, .int (nI w)), (2, .int 1)], [], gh S a b sc53 ar53 lo, ex, 0, 0)) rfl ?_
                refine to_n 2 (fr' := (78, [(0, .ref 49), (1, .int (nI w)), (2, .int 1)], [.int 1, .ref 49], gh S a b sc53 ar53 lo, ex, 0, 0)) rfl ?_
                refine to_cv (q := 126) (M1 := an_X10_emit) (rest := []) rfl rfl (by decide) rfl ⟨_, rfl⟩ (em_ok hW hI53 1 l c53 (by omega) (by omega) hb53 k53_4907 ec53 (d + 4)) (fun sc55 ar55 hx55 => ?_)
                obtain ⟨hI55, hG55, hs55, ha55⟩ := hx55
                have k55_4907 : sc55 4907 = (nI l) := (hG55.1 4907 (by decide)).trans k53_4907
                have k55_4939 : sc55 4939 = (nI B53) := (hG55.1 4939 (by decide)).trans eB53
                have k55_4941 : sc55 4941 = 0 := (hG55.1 4941 (by decide)).trans hb53
                have k55_4934 : sc55 4934 = nI (c53 + 1) := by rw [hs55]; exact up_eq
                have hc55 : ar55 71 = upd (ar53 71) (700 * l + c53) 1 := by rw [ha55]; rfl
                have hv55 : ar55 71 (700 * l + c53) = 1 := by rw [hc55]; exact up_eq
                have hu55 : ∀ x, x < 700 * l + c53 → ar55 71 x = ar53 71 x := fun x w => by rw [hc55]; exact up_ne (by omega)
                have hk55 : ∀ x, x < 700 * l + c → ar55 71 x = ar 71 x := fun x w => (hu55 x (by omega)).trans (hk53 x w)
                have hz55 := pz_fr hz53 hG55 (by decide) (by decide) (by decide) (by decide) (by decide)
                have hF55 := fr_t hF53 hG55 (by decide) (by decide)
                have sg55_0 := seg_ag sg53_0 hu55 (by omega)
                have sg55_1 := seg_ag sg53 hu55 (by omega)
                have sb55 : seg (ar55 71) (700 * l + c) (700 * l + (c53 + 1)) (h + 1) := seg_bin (k := 700 * l + c53) sg55_0 sg55_1 hv55 (by decide) (by decide) (by decide) (by omega) (by omega) (by omega) (by omega)
                refine to_eq (fr' := (81, [(0, .ref 49), (1, .int (nI w)), (2, .int 1)], [], gh S a b sc55 ar55 lo, ex, 0, 0)) rfl ?_
                refine to_n 1 (fr' := (5, [(0, .ref 49), (1, .int (nI w)), (2, .int 1)], [], gh S a b sc55 ar55 lo, ex, 0, 0)) rfl ?_
                refine to_lv (lv := [(0, .ref 49), (1, .int (nI w))]) rfl ⟨rfl, rfl, trivial⟩ ?_
                exact ih (c53 + 1) B53 sc55 ar55 (by omega) k55_4934 k55_4939 k55_4907 k55_4941 hz55 hk55 (by omega) (by omega) (by omega) (seg_le sb55 (by omega)) (by omega) hI55 hF55
  refine to_n 2 (fr' := (2, [(0, .ref 49), (1, .int (nI w))], [.int (nI w), .ref 49], gh S a b sc ar lo, ex, 0, 0)) rfl ?_
  refine to_cv (q := 131) (M1 := an_X10_readPart) (rest := []) rfl rfl (by decide) rfl ⟨_, rfl⟩ (hE sc ar l c e B hI (by omega) el ec eB (by omega) eb hz (by omega)) (fun sc56 ar56 hx56 => ?_)
  obtain ⟨hI56, hG56, hu56, hr56⟩ := hx56
  have k56_4907 : sc56 4907 = nI l := (hG56.1 4907 (by decide)).trans el
  have hk56 : ∀ x, x < 700 * l + c → ar56 71 x = ar 71 x := fun x w => (hu56 x (by omega)).trans ((fun _ _ => rfl) x w)
  have hF56 := fr_t hF hG56 (by decide) (by decide)
  rcases hr56 with hb56 | ⟨hb56, hz56, c56, B56, ec56, eB56, hcc56, hBB56, hB56, hpo56, sg56⟩
  · refine to_eq (fr' := (5, [(0, .ref 49), (1, .int (nI w))], [], gh S a b sc56 ar56 lo, ex, 0, 0)) rfl ?_
    refine to_n 1 (fr' := (6, [(0, .ref 49), (1, .int (nI w))], [.ref 49], gh S a b sc56 ar56 lo, ex, 0, 0)) rfl ?_
    refine to_getR (v := (sc56 4941)) rfl rfl rfl rfl rfl ?_
    refine to_if_ne_T (t := 84) rfl hb56 ?_
    exact to_rt (i := .return_) (tg := []) rfl rfl ⟨_, _, ⟨hI56, hF56, ⟨hk56, Or.inl hb56⟩⟩, rfl⟩
  · refine to_eq (fr' := (5, [(0, .ref 49), (1, .int (nI w))], [], gh S a b sc56 ar56 lo, ex, 0, 0)) rfl ?_
    exact c5 401 c56 B56 sc56 ar56 (by omega) ec56 eB56 k56_4907 hb56 hz56 hk56 (by omega) (by omega) (by omega) (seg_le sg56 (by omega)) (by omega) hI56 hF56
set_option maxRecDepth 20000 in
theorem rd_readTest {X : Nat × (Nat → Int32)} {S a b : Nat} {lo : Nat → Int64} {ex : Bool} (hW : Wd S a b) (w h : Nat)  (d : Nat) (hE : RdOk X S a b lo ex (d + 5) 130 w h) : RdOk X S a b lo ex (d + 6) 129 w (h + 1) := by
  obtain ⟨ha1, ha8, hb1, hb8, hab, hS1, hS⟩ := id hW
  intro sc ar l c e B hI hl el ec eB hB4 eb hz hp
  refine cv_of (M := an_X10_readTest) rfl (Nat.le_of_ble_eq_true rfl) ?_
  have hF : Fr [4934, 4935, 4937, 4938, 4939, 4940, 4941, 4942] [71] sc ar sc ar := fr_0
  refine to_eq (fr' := (0, [(0, .ref 49), (1, .int (nI w))], [], gh S a b sc ar lo, ex, 0, 0)) rfl ?_
  refine to_n 2 (fr' := (3, [(0, .ref 49), (1, .int (nI w))], [.ref 1000033, .ref 49], gh S a b sc ar lo, ex, 0, 0)) rfl ?_
  refine to_cp (q := 123) (M1 := an_X10_isWord) (rest := []) rfl rfl (by decide) rfl ⟨_, rfl⟩ (sf_X10_isWord hW hI 32 (by omega) (d + 4)) (fun x1 hx1 => ?_)
  obtain ⟨⟨n1, hn1, rfl⟩, hp1⟩ := hx1
  refine to_eq (fr' := (6, [(0, .ref 49), (1, .int (nI w))], [.int (nI n1)], gh S a b sc ar lo, ex, 0, 0)) rfl ?_
  refine to_n 2 (fr' := (8, [(0, .ref 49), (1, .int (nI w)), (2, .int (nI n1))], [.int (nI n1)], gh S a b sc ar lo, ex, 0, 0)) rfl ?_
  refine to_nf_eq (t := 15) (x := n1) rfl (by omega) (fun q2 => ?_) (fun q2 => ?_)
  · refine to_n 2 (fr' := (17, [(0, .ref 49), (1, .int (nI w)), (2, .int (nI n1))], [.int (nI w), .ref 49], gh S a b sc ar lo, ex, 0, 0)) rfl ?_
    refine to_cv (q := 130) (M1 := an_X10_readSum) (rest := []) rfl rfl (by decide) rfl ⟨_, rfl⟩ (hE sc ar l c e B hI (by omega) el ec eB (by omega) eb hz (by omega)) (fun sc3 ar3 hx3 => ?_)
    obtain ⟨hI3, hG3, hu3, hr3⟩ := hx3
    have k3_4907 : sc3 4907 = nI l := (hG3.1 4907 (by decide)).trans el
    have hk3 : ∀ x, x < 700 * l + c → ar3 71 x = ar 71 x := fun x w => (hu3 x (by omega)).trans ((fun _ _ => rfl) x w)
    have hF3 := fr_t hF hG3 (by decide) (by decide)
    rcases hr3 with hb3 | ⟨hb3, hz3, c3, B3, ec3, eB3, hcc3, hBB3, hB3, hpo3, sg3⟩
    · refine to_eq (fr' := (20, [(0, .ref 49), (1, .int (nI w)), (2, .int (nI n1))], [], gh S a b sc3 ar3 lo, ex, 0, 0)) rfl ?_
      refine to_n 1 (fr' := (21, [(0, .ref 49), (1, .int (nI w)), (2, .int (nI n1))], [.ref 49], gh S a b sc3 ar3 lo, ex, 0, 0)) rfl ?_
      refine to_getR (v := (sc3 4941)) rfl rfl rfl rfl rfl ?_
      refine to_if_ne_T (t := 74) rfl hb3 ?_
      refine to_n 1 (fr' := (75, [(0, .ref 49), (1, .int (nI w)), (2, .int (nI n1))], [.int (nI n1)], gh S a b sc3 ar3 lo, ex, 0, 0)) rfl ?_
      refine to_nf_eq (t := 84) (x := n1) rfl (by omega) (fun q4 => ?_) (fun q4 => ?_)
      · exact to_rt (i := .return_) (tg := []) rfl rfl ⟨_, _, ⟨hI3, hF3, ⟨hk3, Or.inl hb3⟩⟩, rfl⟩
      · refine to_n 2 (fr' := (81, [(0, .ref 49), (1, .int (nI w)), (2, .int (nI n1))], [.int 8, .ref 49], gh S a b sc3 ar3 lo, ex, 0, 0)) rfl ?_
        refine to_cu (q := 126) (M1 := an_X10_emit) (rest := []) rfl rfl (by decide) rfl ⟨_, rfl⟩ (em_bad 8 hb3 (d + 4)) ?_ 
        refine to_eq (fr' := (84, [(0, .ref 49), (1, .int (nI w)), (2, .int (nI n1))], [], gh S a b sc3 ar3 lo, ex, 0, 0)) rfl ?_
        exact to_rt (i := .return_) (tg := []) rfl rfl ⟨_, _, ⟨hI3, hF3, ⟨hk3, Or.inl hb3⟩⟩, rfl⟩
    · refine to_eq (fr' := (20, [(0, .ref 49), (1, .int (nI w)), (2, .int (nI n1))], [], gh S a b sc3 ar3 lo, ex, 0, 0)) rfl ?_
      refine to_n 1 (fr' := (21, [(0, .ref 49), (1, .int (nI w)), (2, .int (nI n1))], [.ref 49], gh S a b sc3 ar3 lo, ex, 0, 0)) rfl ?_
      refine to_getR (v := 0) rfl rfl rfl rfl hb3 ?_
      refine to_n 3 (fr' := (30, [(0, .ref 49), (1, .int (nI w)), (2, .int (nI n1))], [.int 60, .ref 49], gh S a b sc3 ar3 lo, ex, 0, 0)) rfl ?_
      refine to_cp (q := 124) (M1 := an_X10_isSign) (rest := []) rfl rfl (by decide) rfl ⟨_, rfl⟩ (sf_X10_isSign hW hI3 60 (d + 4)) (fun x6 hx6 => ?_)
      obtain ⟨⟨n6, hn6, rfl⟩, hp6⟩ := hx6
      refine to_eq (fr' := (33, [(0, .ref 49), (1, .int (nI w)), (2, .int (nI n1))], [.int (nI n6)], gh S a b sc3 ar3 lo, ex, 0, 0)) rfl ?_
      refine to_nf_ne (t := 45) (x := n6) rfl (by omega) (fun q7 => ?_) (fun q7 => ?_)
      · refine to_n 2 (fr' := (48, [(0, .ref 49), (1, .int (nI w)), (2, .int (nI n1))], [.int 60, .ref 49], gh S a b sc3 ar3 lo, ex, 0, 0)) rfl ?_
        refine to_cp (q := 124) (M1 := an_X10_isSign) (rest := []) rfl rfl (by decide) rfl ⟨_, rfl⟩ (sf_X10_isSign hW hI3 60 (d + 4)) (fun x8 hx8 => ?_)
        obtain ⟨⟨n8, hn8, rfl⟩, hp8⟩ := hx8
        refine to_eq (fr' := (51, [(0, .ref 49), (1, .int (nI w)), (2, .int (nI n1))], [.int (nI n8)], gh S a b sc3 ar3 lo, ex, 0, 0)) rfl ?_
        refine to_nf_eq (t := 58) (x := n8) rfl (by omega) (fun q9 => ?_) (fun q9 => ?_)
        · refine to_n 3 (fr' := (61, [(0, .ref 49), (1, .int (nI w)), (2, .int (nI n1)), (3, .int 5)], [.ref 49], gh S a b sc3 ar3 lo, ex, 0, 0)) rfl ?_
          refine to_cv (q := 122) (M1 := an_X10_step) (rest := []) rfl rfl (by decide) rfl ⟨_, rfl⟩ (st_next hW hI3 eB3 (by omega) hz3 (tok_nz (iw_tok hn6 hp6 q7) (by decide)) (d + 3)) (fun sc10 ar10 hx10 => ?_)
          obtain ⟨hI10, hG10, hz10, B10, eB10, hB10, hC10⟩ := hx10
          have k10_4907 : sc10 4907 = (nI l) := (hG10.1 4907 (by decide)).trans k3_4907
          have k10_4934 : sc10 4934 = (nI c3) := (hG10.1 4934 (by decide)).trans ec3
          have k10_4941 : sc10 4941 = 0 := (hG10.1 4941 (by decide)).trans hb3
          have hk10 : ∀ x, x < 700 * l + c → ar10 71 x = ar 71 x := kp_st hk3 hG10 (by decide)
          have sg10_0 := sg_st sg3 hG10 (by decide)
          have hF10 := fr_t hF3 hG10 (by decide) (by decide)
          refine to_eq (fr' := (64, [(0, .ref 49), (1, .int (nI w)), (2, .int (nI n1)), (3, .int 5)], [], gh S a b sc10 ar10 lo, ex, 0, 0)) rfl ?_
          refine to_n 2 (fr' := (66, [(0, .ref 49), (1, .int (nI w)), (2, .int (nI n1)), (3, .int 5)], [.int (nI w), .ref 49], gh S a b sc10 ar10 lo, ex, 0, 0)) rfl ?_
          refine to_cv (q := 130) (M1 := an_X10_readSum) (rest := []) rfl rfl (by decide) rfl ⟨_, rfl⟩ (hE sc10 ar10 l c3 (e + 2) B10 hI10 (by omega) k10_4907 k10_4934 eB10 (by omega) k10_4941 hz10 (by omega)) (fun sc11 ar11 hx11 => ?_)
          obtain ⟨hI11, hG11, hu11, hr11⟩ := hx11
          have k11_4907 : sc11 4907 = nI l := (hG11.1 4907 (by decide)).trans k10_4907
          have hk11 : ∀ x, x < 700 * l + c → ar11 71 x = ar 71 x := fun x w => (hu11 x (by omega)).trans (hk10 x w)
          have hF11 := fr_t hF10 hG11 (by decide) (by decide)
          have sg11_0 := seg_ag sg10_0 hu11 (by omega)
          rcases hr11 with hb11 | ⟨hb11, hz11, c11, B11, ec11, eB11, hcc11, hBB11, hB11, hpo11, sg11⟩
          · refine to_eq (fr' := (69, [(0, .ref 49), (1, .int (nI w)), (2, .int (nI n1)), (3, .int 5)], [], gh S a b sc11 ar11 lo, ex, 0, 0)) rfl ?_
            refine to_n 2 (fr' := (71, [(0, .ref 49), (1, .int (nI w)), (2, .int (nI n1)), (3, .int 5)], [.int 5, .ref 49], gh S a b sc11 ar11 lo, ex, 0, 0)) rfl ?_
            refine to_cu (q := 126) (M1 := an_X10_emit) (rest := []) rfl rfl (by decide) rfl ⟨_, rfl⟩ (em_bad 5 hb11 (d + 4)) ?_ 
            refine to_eq (fr' := (74, [(0, .ref 49), (1, .int (nI w)), (2, .int (nI n1)), (3, .int 5)], [], gh S a b sc11 ar11 lo, ex, 0, 0)) rfl ?_
            refine to_n 1 (fr' := (75, [(0, .ref 49), (1, .int (nI w)), (2, .int (nI n1)), (3, .int 5)], [.int (nI n1)], gh S a b sc11 ar11 lo, ex, 0, 0)) rfl ?_
            refine to_nf_eq (t := 84) (x := n1) rfl (by omega) (fun q13 => ?_) (fun q13 => ?_)
            · exact to_rt (i := .return_) (tg := []) rfl rfl ⟨_, _, ⟨hI11, hF11, ⟨hk11, Or.inl hb11⟩⟩, rfl⟩
            · refine to_n 2 (fr' := (81, [(0, .ref 49), (1, .int (nI w)), (2, .int (nI n1)), (3, .int 5)], [.int 8, .ref 49], gh S a b sc11 ar11 lo, ex, 0, 0)) rfl ?_
              refine to_cu (q := 126) (M1 := an_X10_emit) (rest := []) rfl rfl (by decide) rfl ⟨_, rfl⟩ (em_bad 8 hb11 (d + 4)) ?_ 
              refine to_eq (fr' := (84, [(0, .ref 49), (1, .int (nI w)), (2, .int (nI n1)), (3, .int 5)], [], gh S a b sc11 ar11 lo, ex, 0, 0)) rfl ?_
              exact to_rt (i := .return_) (tg := []) rfl rfl ⟨_, _, ⟨hI11, hF11, ⟨hk11, Or.inl hb11⟩⟩, rfl⟩
          · refine to_eq (fr' := (69, [(0, .ref 49), (1, .int (nI w)), (2, .int (nI n1)), (3, .int 5)], [], gh S a b sc11 ar11 lo, ex, 0, 0)) rfl ?_
            refine to_n 2 (fr' := (71, [(0, .ref 49), (1, .int (nI w)), (2, .int (nI n1)), (3, .int 5)], [.int 5, .ref 49], gh S a b sc11 ar11 lo, ex, 0, 0)) rfl ?_
            refine to_cv (q := 126) (M1 := an_X10_emit) (rest := []) rfl rfl (by decide) rfl ⟨_, rfl⟩ (em_ok hW hI11 5 l c11 (by omega) (by omega) hb11 k11_4907 ec11 (d + 4)) (fun sc15 ar15 hx15 => ?_)
            obtain ⟨hI15, hG15, hs15, ha15⟩ := hx15
            have k15_4907 : sc15 4907 = (nI l) := (hG15.1 4907 (by decide)).trans k11_4907
            have k15_4939 : sc15 4939 = (nI B11) := (hG15.1 4939 (by decide)).trans eB11
            have k15_4941 : sc15 4941 = 0 := (hG15.1 4941 (by decide)).trans hb11
            have k15_4934 : sc15 4934 = nI (c11 + 1) := by rw [hs15]; exact up_eq
            have hc15 : ar15 71 = upd (ar11 71) (700 * l + c11) 5 := by rw [ha15]; rfl
            have hv15 : ar15 71 (700 * l + c11) = 5 := by rw [hc15]; exact up_eq
            have hu15 : ∀ x, x < 700 * l + c11 → ar15 71 x = ar11 71 x := fun x w => by rw [hc15]; exact up_ne (by omega)
            have hk15 : ∀ x, x < 700 * l + c → ar15 71 x = ar 71 x := fun x w => (hu15 x (by omega)).trans (hk11 x w)
            have hz15 := pz_fr hz11 hG15 (by decide) (by decide) (by decide) (by decide) (by decide)
            have hF15 := fr_t hF11 hG15 (by decide) (by decide)
            have sg15_0 := seg_ag sg11_0 hu15 (by omega)
            have sg15_1 := seg_ag sg11 hu15 (by omega)
            have sb15 : seg (ar15 71) (700 * l + c) (700 * l + (c11 + 1)) (h + 1) := seg_bin (k := 700 * l + c11) sg15_0 sg15_1 hv15 (by decide) (by decide) (by decide) (by omega) (by omega) (by omega) (by omega)
            refine to_eq (fr' := (74, [(0, .ref 49), (1, .int (nI w)), (2, .int (nI n1)), (3, .int 5)], [], gh S a b sc15 ar15 lo, ex, 0, 0)) rfl ?_
            refine to_n 1 (fr' := (75, [(0, .ref 49), (1, .int (nI w)), (2, .int (nI n1)), (3, .int 5)], [.int (nI n1)], gh S a b sc15 ar15 lo, ex, 0, 0)) rfl ?_
            refine to_nf_eq (t := 84) (x := n1) rfl (by omega) (fun q16 => ?_) (fun q16 => ?_)
            · exact to_rt (i := .return_) (tg := []) rfl rfl ⟨_, _, ⟨hI15, hF15, ⟨hk15, Or.inr ⟨k15_4941, hz15, (c11 + 1), B11, k15_4934, k15_4939, by omega, by omega, by omega, by omega, seg_le sb15 (by omega)⟩⟩⟩, rfl⟩
            · refine to_n 2 (fr' := (81, [(0, .ref 49), (1, .int (nI w)), (2, .int (nI n1)), (3, .int 5)], [.int 8, .ref 49], gh S a b sc15 ar15 lo, ex, 0, 0)) rfl ?_
              refine to_cv (q := 126) (M1 := an_X10_emit) (rest := []) rfl rfl (by decide) rfl ⟨_, rfl⟩ (em_ok hW hI15 8 l (c11 + 1) (by omega) (by omega) k15_4941 k15_4907 k15_4934 (d + 4)) (fun sc17 ar17 hx17 => ?_)
              obtain ⟨hI17, hG17, hs17, ha17⟩ := hx17
              have k17_4907 : sc17 4907 = (nI l) := (hG17.1 4907 (by decide)).trans k15_4907
              have k17_4939 : sc17 4939 = (nI B11) := (hG17.1 4939 (by decide)).trans k15_4939
              have k17_4941 : sc17 4941 = 0 := (hG17.1 4941 (by decide)).trans k15_4941
              have k17_4934 : sc17 4934 = nI ((c11 + 1) + 1) := by rw [hs17]; exact up_eq
              have hc17 : ar17 71 = upd (ar15 71) (700 * l + (c11 + 1)) 8 := by rw [ha17]; rfl
              have hv17 : ar17 71 (700 * l + (c11 + 1)) = 8 := by rw [hc17]; exact up_eq
              have hu17 : ∀ x, x < 700 * l + (c11 + 1) → ar17 71 x = ar15 71 x := fun x w => by rw [hc17]; exact up_ne (by omega)
              have hk17 : ∀ x, x < 700 * l + c → ar17 71 x = ar 71 x := fun x w => (hu17 x (by omega)).trans (hk15 x w)
              have hz17 := pz_fr hz15 hG17 (by decide) (by decide) (by decide) (by decide) (by decide)
              have hF17 := fr_t hF15 hG17 (by decide) (by decide)
              have sg17_0 := seg_ag sb15 hu17 (by omega)
              have sn17 : seg (ar17 71) (700 * l + c) (700 * l + ((c11 + 1) + 1)) (h + 1) := seg_not (j := 700 * l + (c11 + 1)) sg17_0 hv17 (by omega)
              refine to_eq (fr' := (84, [(0, .ref 49), (1, .int (nI w)), (2, .int (nI n1)), (3, .int 5)], [], gh S a b sc17 ar17 lo, ex, 0, 0)) rfl ?_
              exact to_rt (i := .return_) (tg := []) rfl rfl ⟨_, _, ⟨hI17, hF17, ⟨hk17, Or.inr ⟨k17_4941, hz17, ((c11 + 1) + 1), B11, k17_4934, k17_4939, by omega, by omega, by omega, by omega, seg_le sn17 (by omega)⟩⟩⟩, rfl⟩
        · refine to_n 4 (fr' := (61, [(0, .ref 49), (1, .int (nI w)), (2, .int (nI n1)), (3, .int 4)], [.ref 49], gh S a b sc3 ar3 lo, ex, 0, 0)) rfl ?_
          refine to_cv (q := 122) (M1 := an_X10_step) (rest := []) rfl rfl (by decide) rfl ⟨_, rfl⟩ (st_next hW hI3 eB3 (by omega) hz3 (tok_nz (iw_tok hn8 hp8 q9) (by decide)) (d + 3)) (fun sc18 ar18 hx18 => ?_)
          obtain ⟨hI18, hG18, hz18, B18, eB18, hB18, hC18⟩ := hx18
          have k18_4907 : sc18 4907 = (nI l) := (hG18.1 4907 (by decide)).trans k3_4907
          have k18_4934 : sc18 4934 = (nI c3) := (hG18.1 4934 (by decide)).trans ec3
          have k18_4941 : sc18 4941 = 0 := (hG18.1 4941 (by decide)).trans hb3
          have hk18 : ∀ x, x < 700 * l + c → ar18 71 x = ar 71 x := kp_st hk3 hG18 (by decide)
          have sg18_0 := sg_st sg3 hG18 (by decide)
          have hF18 := fr_t hF3 hG18 (by decide) (by decide)
          refine to_eq (fr' := (64, [(0, .ref 49), (1, .int (nI w)), (2, .int (nI n1)), (3, .int 4)], [], gh S a b sc18 ar18 lo, ex, 0, 0)) rfl ?_
          refine to_n 2 (fr' := (66, [(0, .ref 49), (1, .int (nI w)), (2, .int (nI n1)), (3, .int 4)], [.int (nI w), .ref 49], gh S a b sc18 ar18 lo, ex, 0, 0)) rfl ?_
          refine to_cv (q := 130) (M1 := an_X10_readSum) (rest := []) rfl rfl (by decide) rfl ⟨_, rfl⟩ (hE sc18 ar18 l c3 (e + 2) B18 hI18 (by omega) k18_4907 k18_4934 eB18 (by omega) k18_4941 hz18 (by omega)) (fun sc19 ar19 hx19 => ?_)
          obtain ⟨hI19, hG19, hu19, hr19⟩ := hx19
          have k19_4907 : sc19 4907 = nI l := (hG19.1 4907 (by decide)).trans k18_4907
          have hk19 : ∀ x, x < 700 * l + c → ar19 71 x = ar 71 x := fun x w => (hu19 x (by omega)).trans (hk18 x w)
          have hF19 := fr_t hF18 hG19 (by decide) (by decide)
          have sg19_0 := seg_ag sg18_0 hu19 (by omega)
          rcases hr19 with hb19 | ⟨hb19, hz19, c19, B19, ec19, eB19, hcc19, hBB19, hB19, hpo19, sg19⟩
          · refine to_eq (fr' := (69, [(0, .ref 49), (1, .int (nI w)), (2, .int (nI n1)), (3, .int 4)], [], gh S a b sc19 ar19 lo, ex, 0, 0)) rfl ?_
            refine to_n 2 (fr' := (71, [(0, .ref 49), (1, .int (nI w)), (2, .int (nI n1)), (3, .int 4)], [.int 4, .ref 49], gh S a b sc19 ar19 lo, ex, 0, 0)) rfl ?_
            refine to_cu (q := 126) (M1 := an_X10_emit) (rest := []) rfl rfl (by decide) rfl ⟨_, rfl⟩ (em_bad 4 hb19 (d + 4)) ?_ 
            refine to_eq (fr' := (74, [(0, .ref 49), (1, .int (nI w)), (2, .int (nI n1)), (3, .int 4)], [], gh S a b sc19 ar19 lo, ex, 0, 0)) rfl ?_
            refine to_n 1 (fr' := (75, [(0, .ref 49), (1, .int (nI w)), (2, .int (nI n1)), (3, .int 4)], [.int (nI n1)], gh S a b sc19 ar19 lo, ex, 0, 0)) rfl ?_
            refine to_nf_eq (t := 84) (x := n1) rfl (by omega) (fun q21 => ?_) (fun q21 => ?_)
            · exact to_rt (i := .return_) (tg := []) rfl rfl ⟨_, _, ⟨hI19, hF19, ⟨hk19, Or.inl hb19⟩⟩, rfl⟩
            · refine to_n 2 (fr' := (81, [(0, .ref 49), (1, .int (nI w)), (2, .int (nI n1)), (3, .int 4)], [.int 8, .ref 49], gh S a b sc19 ar19 lo, ex, 0, 0)) rfl ?_
              refine to_cu (q := 126) (M1 := an_X10_emit) (rest := []) rfl rfl (by decide) rfl ⟨_, rfl⟩ (em_bad 8 hb19 (d + 4)) ?_ 
              refine to_eq (fr' := (84, [(0, .ref 49), (1, .int (nI w)), (2, .int (nI n1)), (3, .int 4)], [], gh S a b sc19 ar19 lo, ex, 0, 0)) rfl ?_
              exact to_rt (i := .return_) (tg := []) rfl rfl ⟨_, _, ⟨hI19, hF19, ⟨hk19, Or.inl hb19⟩⟩, rfl⟩
          · refine to_eq (fr' := (69, [(0, .ref 49), (1, .int (nI w)), (2, .int (nI n1)), (3, .int 4)], [], gh S a b sc19 ar19 lo, ex, 0, 0)) rfl ?_
            refine to_n 2 (fr' := (71, [(0, .ref 49), (1, .int (nI w)), (2, .int (nI n1)), (3, .int 4)], [.int 4, .ref 49], gh S a b sc19 ar19 lo, ex, 0, 0)) rfl ?_
            refine to_cv (q := 126) (M1 := an_X10_emit) (rest := []) rfl rfl (by decide) rfl ⟨_, rfl⟩ (em_ok hW hI19 4 l c19 (by omega) (by omega) hb19 k19_4907 ec19 (d + 4)) (fun sc23 ar23 hx23 => ?_)
            obtain ⟨hI23, hG23, hs23, ha23⟩ := hx23
            have k23_4907 : sc23 4907 = (nI l) := (hG23.1 4907 (by decide)).trans k19_4907
            have k23_4939 : sc23 4939 = (nI B19) := (hG23.1 4939 (by decide)).trans eB19
            have k23_4941 : sc23 4941 = 0 := (hG23.1 4941 (by decide)).trans hb19
            have k23_4934 : sc23 4934 = nI (c19 + 1) := by rw [hs23]; exact up_eq
            have hc23 : ar23 71 = upd (ar19 71) (700 * l + c19) 4 := by rw [ha23]; rfl
            have hv23 : ar23 71 (700 * l + c19) = 4 := by rw [hc23]; exact up_eq
            have hu23 : ∀ x, x < 700 * l + c19 → ar23 71 x = ar19 71 x := fun x w => by rw [hc23]; exact up_ne (by omega)
            have hk23 : ∀ x, x < 700 * l + c → ar23 71 x = ar 71 x := fun x w => (hu23 x (by omega)).trans (hk19 x w)
            have hz23 := pz_fr hz19 hG23 (by decide) (by decide) (by decide) (by decide) (by decide)
            have hF23 := fr_t hF19 hG23 (by decide) (by decide)
            have sg23_0 := seg_ag sg19_0 hu23 (by omega)
            have sg23_1 := seg_ag sg19 hu23 (by omega)
            have sb23 : seg (ar23 71) (700 * l + c) (700 * l + (c19 + 1)) (h + 1) := seg_bin (k := 700 * l + c19) sg23_0 sg23_1 hv23 (by decide) (by decide) (by decide) (by omega) (by omega) (by omega) (by omega)
            refine to_eq (fr' := (74, [(0, .ref 49), (1, .int (nI w)), (2, .int (nI n1)), (3, .int 4)], [], gh S a b sc23 ar23 lo, ex, 0, 0)) rfl ?_
            refine to_n 1 (fr' := (75, [(0, .ref 49), (1, .int (nI w)), (2, .int (nI n1)), (3, .int 4)], [.int (nI n1)], gh S a b sc23 ar23 lo, ex, 0, 0)) rfl ?_
            refine to_nf_eq (t := 84) (x := n1) rfl (by omega) (fun q24 => ?_) (fun q24 => ?_)
            · exact to_rt (i := .return_) (tg := []) rfl rfl ⟨_, _, ⟨hI23, hF23, ⟨hk23, Or.inr ⟨k23_4941, hz23, (c19 + 1), B19, k23_4934, k23_4939, by omega, by omega, by omega, by omega, seg_le sb23 (by omega)⟩⟩⟩, rfl⟩
            · refine to_n 2 (fr' := (81, [(0, .ref 49), (1, .int (nI w)), (2, .int (nI n1)), (3, .int 4)], [.int 8, .ref 49], gh S a b sc23 ar23 lo, ex, 0, 0)) rfl ?_
              refine to_cv (q := 126) (M1 := an_X10_emit) (rest := []) rfl rfl (by decide) rfl ⟨_, rfl⟩ (em_ok hW hI23 8 l (c19 + 1) (by omega) (by omega) k23_4941 k23_4907 k23_4934 (d + 4)) (fun sc25 ar25 hx25 => ?_)
              obtain ⟨hI25, hG25, hs25, ha25⟩ := hx25
              have k25_4907 : sc25 4907 = (nI l) := (hG25.1 4907 (by decide)).trans k23_4907
              have k25_4939 : sc25 4939 = (nI B19) := (hG25.1 4939 (by decide)).trans k23_4939
              have k25_4941 : sc25 4941 = 0 := (hG25.1 4941 (by decide)).trans k23_4941
              have k25_4934 : sc25 4934 = nI ((c19 + 1) + 1) := by rw [hs25]; exact up_eq
              have hc25 : ar25 71 = upd (ar23 71) (700 * l + (c19 + 1)) 8 := by rw [ha25]; rfl
              have hv25 : ar25 71 (700 * l + (c19 + 1)) = 8 := by rw [hc25]; exact up_eq
              have hu25 : ∀ x, x < 700 * l + (c19 + 1) → ar25 71 x = ar23 71 x := fun x w => by rw [hc25]; exact up_ne (by omega)
              have hk25 : ∀ x, x < 700 * l + c → ar25 71 x = ar 71 x := fun x w => (hu25 x (by omega)).trans (hk23 x w)
              have hz25 := pz_fr hz23 hG25 (by decide) (by decide) (by decide) (by decide) (by decide)
              have hF25 := fr_t hF23 hG25 (by decide) (by decide)
              have sg25_0 := seg_ag sb23 hu25 (by omega)
              have sn25 : seg (ar25 71) (700 * l + c) (700 * l + ((c19 + 1) + 1)) (h + 1) := seg_not (j := 700 * l + (c19 + 1)) sg25_0 hv25 (by omega)
              refine to_eq (fr' := (84, [(0, .ref 49), (1, .int (nI w)), (2, .int (nI n1)), (3, .int 4)], [], gh S a b sc25 ar25 lo, ex, 0, 0)) rfl ?_
              exact to_rt (i := .return_) (tg := []) rfl rfl ⟨_, _, ⟨hI25, hF25, ⟨hk25, Or.inr ⟨k25_4941, hz25, ((c19 + 1) + 1), B19, k25_4934, k25_4939, by omega, by omega, by omega, by omega, seg_le sn25 (by omega)⟩⟩⟩, rfl⟩
      · refine to_n 2 (fr' := (39, [(0, .ref 49), (1, .int (nI w)), (2, .int (nI n1))], [.int 61, .ref 49], gh S a b sc3 ar3 lo, ex, 0, 0)) rfl ?_
        refine to_cp (q := 124) (M1 := an_X10_isSign) (rest := []) rfl rfl (by decide) rfl ⟨_, rfl⟩ (sf_X10_isSign hW hI3 61 (d + 4)) (fun x26 hx26 => ?_)
        obtain ⟨⟨n26, hn26, rfl⟩, hp26⟩ := hx26
        refine to_eq (fr' := (42, [(0, .ref 49), (1, .int (nI w)), (2, .int (nI n1))], [.int (nI n26)], gh S a b sc3 ar3 lo, ex, 0, 0)) rfl ?_
        refine to_nf_eq (t := 74) (x := n26) rfl (by omega) (fun q27 => ?_) (fun q27 => ?_)
        · refine to_n 1 (fr' := (75, [(0, .ref 49), (1, .int (nI w)), (2, .int (nI n1))], [.int (nI n1)], gh S a b sc3 ar3 lo, ex, 0, 0)) rfl ?_
          refine to_nf_eq (t := 84) (x := n1) rfl (by omega) (fun q28 => ?_) (fun q28 => ?_)
          · exact to_rt (i := .return_) (tg := []) rfl rfl ⟨_, _, ⟨hI3, hF3, ⟨hk3, Or.inr ⟨hb3, hz3, c3, B3, ec3, eB3, by omega, by omega, by omega, by omega, seg_le sg3 (by omega)⟩⟩⟩, rfl⟩
          · refine to_n 2 (fr' := (81, [(0, .ref 49), (1, .int (nI w)), (2, .int (nI n1))], [.int 8, .ref 49], gh S a b sc3 ar3 lo, ex, 0, 0)) rfl ?_
            refine to_cv (q := 126) (M1 := an_X10_emit) (rest := []) rfl rfl (by decide) rfl ⟨_, rfl⟩ (em_ok hW hI3 8 l c3 (by omega) (by omega) hb3 k3_4907 ec3 (d + 4)) (fun sc29 ar29 hx29 => ?_)
            obtain ⟨hI29, hG29, hs29, ha29⟩ := hx29
            have k29_4907 : sc29 4907 = (nI l) := (hG29.1 4907 (by decide)).trans k3_4907
            have k29_4939 : sc29 4939 = (nI B3) := (hG29.1 4939 (by decide)).trans eB3
            have k29_4941 : sc29 4941 = 0 := (hG29.1 4941 (by decide)).trans hb3
            have k29_4934 : sc29 4934 = nI (c3 + 1) := by rw [hs29]; exact up_eq
            have hc29 : ar29 71 = upd (ar3 71) (700 * l + c3) 8 := by rw [ha29]; rfl
            have hv29 : ar29 71 (700 * l + c3) = 8 := by rw [hc29]; exact up_eq
            have hu29 : ∀ x, x < 700 * l + c3 → ar29 71 x = ar3 71 x := fun x w => by rw [hc29]; exact up_ne (by omega)
            have hk29 : ∀ x, x < 700 * l + c → ar29 71 x = ar 71 x := fun x w => (hu29 x (by omega)).trans (hk3 x w)
            have hz29 := pz_fr hz3 hG29 (by decide) (by decide) (by decide) (by decide) (by decide)
            have hF29 := fr_t hF3 hG29 (by decide) (by decide)
            have sg29_0 := seg_ag sg3 hu29 (by omega)
            have sn29 : seg (ar29 71) (700 * l + c) (700 * l + (c3 + 1)) h := seg_not (j := 700 * l + c3) sg29_0 hv29 (by omega)
            refine to_eq (fr' := (84, [(0, .ref 49), (1, .int (nI w)), (2, .int (nI n1))], [], gh S a b sc29 ar29 lo, ex, 0, 0)) rfl ?_
            exact to_rt (i := .return_) (tg := []) rfl rfl ⟨_, _, ⟨hI29, hF29, ⟨hk29, Or.inr ⟨k29_4941, hz29, (c3 + 1), B3, k29_4934, k29_4939, by omega, by omega, by omega, by omega, seg_le sn29 (by omega)⟩⟩⟩, rfl⟩
        · refine to_n 2 (fr' := (48, [(0, .ref 49), (1, .int (nI w)), (2, .int (nI n1))], [.int 60, .ref 49], gh S a b sc3 ar3 lo, ex, 0, 0)) rfl ?_
          refine to_cp (q := 124) (M1 := an_X10_isSign) (rest := []) rfl rfl (by decide) rfl ⟨_, rfl⟩ (sf_X10_isSign hW hI3 60 (d + 4)) (fun x30 hx30 => ?_)
          obtain ⟨⟨n30, hn30, rfl⟩, hp30⟩ := hx30
          refine to_eq (fr' := (51, [(0, .ref 49), (1, .int (nI w)), (2, .int (nI n1))], [.int (nI n30)], gh S a b sc3 ar3 lo, ex, 0, 0)) rfl ?_
          refine to_nf_eq (t := 58) (x := n30) rfl (by omega) (fun q31 => ?_) (fun q31 => ?_)
          · refine to_n 3 (fr' := (61, [(0, .ref 49), (1, .int (nI w)), (2, .int (nI n1)), (3, .int 5)], [.ref 49], gh S a b sc3 ar3 lo, ex, 0, 0)) rfl ?_
            refine to_cv (q := 122) (M1 := an_X10_step) (rest := []) rfl rfl (by decide) rfl ⟨_, rfl⟩ (st_next hW hI3 eB3 (by omega) hz3 (tok_nz (iw_tok hn26 hp26 q27) (by decide)) (d + 3)) (fun sc32 ar32 hx32 => ?_)
            obtain ⟨hI32, hG32, hz32, B32, eB32, hB32, hC32⟩ := hx32
            have k32_4907 : sc32 4907 = (nI l) := (hG32.1 4907 (by decide)).trans k3_4907
            have k32_4934 : sc32 4934 = (nI c3) := (hG32.1 4934 (by decide)).trans ec3
            have k32_4941 : sc32 4941 = 0 := (hG32.1 4941 (by decide)).trans hb3
            have hk32 : ∀ x, x < 700 * l + c → ar32 71 x = ar 71 x := kp_st hk3 hG32 (by decide)
            have sg32_0 := sg_st sg3 hG32 (by decide)
            have hF32 := fr_t hF3 hG32 (by decide) (by decide)
            refine to_eq (fr' := (64, [(0, .ref 49), (1, .int (nI w)), (2, .int (nI n1)), (3, .int 5)], [], gh S a b sc32 ar32 lo, ex, 0, 0)) rfl ?_
            refine to_n 2 (fr' := (66, [(0, .ref 49), (1, .int (nI w)), (2, .int (nI n1)), (3, .int 5)], [.int (nI w), .ref 49], gh S a b sc32 ar32 lo, ex, 0, 0)) rfl ?_
            refine to_cv (q := 130) (M1 := an_X10_readSum) (rest := []) rfl rfl (by decide) rfl ⟨_, rfl⟩ (hE sc32 ar32 l c3 (e + 2) B32 hI32 (by omega) k32_4907 k32_4934 eB32 (by omega) k32_4941 hz32 (by omega)) (fun sc33 ar33 hx33 => ?_)
            obtain ⟨hI33, hG33, hu33, hr33⟩ := hx33
            have k33_4907 : sc33 4907 = nI l := (hG33.1 4907 (by decide)).trans k32_4907
            have hk33 : ∀ x, x < 700 * l + c → ar33 71 x = ar 71 x := fun x w => (hu33 x (by omega)).trans (hk32 x w)
            have hF33 := fr_t hF32 hG33 (by decide) (by decide)
            have sg33_0 := seg_ag sg32_0 hu33 (by omega)
            rcases hr33 with hb33 | ⟨hb33, hz33, c33, B33, ec33, eB33, hcc33, hBB33, hB33, hpo33, sg33⟩
            · refine to_eq (fr' := (69, [(0, .ref 49), (1, .int (nI w)), (2, .int (nI n1)), (3, .int 5)], [], gh S a b sc33 ar33 lo, ex, 0, 0)) rfl ?_
              refine to_n 2 (fr' := (71, [(0, .ref 49), (1, .int (nI w)), (2, .int (nI n1)), (3, .int 5)], [.int 5, .ref 49], gh S a b sc33 ar33 lo, ex, 0, 0)) rfl ?_
              refine to_cu (q := 126) (M1 := an_X10_emit) (rest := []) rfl rfl (by decide) rfl ⟨_, rfl⟩ (em_bad 5 hb33 (d + 4)) ?_ 
              refine to_eq (fr' := (74, [(0, .ref 49), (1, .int (nI w)), (2, .int (nI n1)), (3, .int 5)], [], gh S a b sc33 ar33 lo, ex, 0, 0)) rfl ?_
              refine to_n 1 (fr' := (75, [(0, .ref 49), (1, .int (nI w)), (2, .int (nI n1)), (3, .int 5)], [.int (nI n1)], gh S a b sc33 ar33 lo, ex, 0, 0)) rfl ?_
              refine to_nf_eq (t := 84) (x := n1) rfl (by omega) (fun q35 => ?_) (fun q35 => ?_)
              · exact to_rt (i := .return_) (tg := []) rfl rfl ⟨_, _, ⟨hI33, hF33, ⟨hk33, Or.inl hb33⟩⟩, rfl⟩
              · refine to_n 2 (fr' := (81, [(0, .ref 49), (1, .int (nI w)), (2, .int (nI n1)), (3, .int 5)], [.int 8, .ref 49], gh S a b sc33 ar33 lo, ex, 0, 0)) rfl ?_
                refine to_cu (q := 126) (M1 := an_X10_emit) (rest := []) rfl rfl (by decide) rfl ⟨_, rfl⟩ (em_bad 8 hb33 (d + 4)) ?_ 
                refine to_eq (fr' := (84, [(0, .ref 49), (1, .int (nI w)), (2, .int (nI n1)), (3, .int 5)], [], gh S a b sc33 ar33 lo, ex, 0, 0)) rfl ?_
                exact to_rt (i := .return_) (tg := []) rfl rfl ⟨_, _, ⟨hI33, hF33, ⟨hk33, Or.inl hb33⟩⟩, rfl⟩
            · refine to_eq (fr' := (69, [(0, .ref 49), (1, .int (nI w)), (2, .int (nI n1)), (3, .int 5)], [], gh S a b sc33 ar33 lo, ex, 0, 0)) rfl ?_
              refine to_n 2 (fr' := (71, [(0, .ref 49), (1, .int (nI w)), (2, .int (nI n1)), (3, .int 5)], [.int 5, .ref 49], gh S a b sc33 ar33 lo, ex, 0, 0)) rfl ?_
              refine to_cv (q := 126) (M1 := an_X10_emit) (rest := []) rfl rfl (by decide) rfl ⟨_, rfl⟩ (em_ok hW hI33 5 l c33 (by omega) (by omega) hb33 k33_4907 ec33 (d + 4)) (fun sc37 ar37 hx37 => ?_)
              obtain ⟨hI37, hG37, hs37, ha37⟩ := hx37
              have k37_4907 : sc37 4907 = (nI l) := (hG37.1 4907 (by decide)).trans k33_4907
              have k37_4939 : sc37 4939 = (nI B33) := (hG37.1 4939 (by decide)).trans eB33
              have k37_4941 : sc37 4941 = 0 := (hG37.1 4941 (by decide)).trans hb33
              have k37_4934 : sc37 4934 = nI (c33 + 1) := by rw [hs37]; exact up_eq
              have hc37 : ar37 71 = upd (ar33 71) (700 * l + c33) 5 := by rw [ha37]; rfl
              have hv37 : ar37 71 (700 * l + c33) = 5 := by rw [hc37]; exact up_eq
              have hu37 : ∀ x, x < 700 * l + c33 → ar37 71 x = ar33 71 x := fun x w => by rw [hc37]; exact up_ne (by omega)
              have hk37 : ∀ x, x < 700 * l + c → ar37 71 x = ar 71 x := fun x w => (hu37 x (by omega)).trans (hk33 x w)
              have hz37 := pz_fr hz33 hG37 (by decide) (by decide) (by decide) (by decide) (by decide)
              have hF37 := fr_t hF33 hG37 (by decide) (by decide)
              have sg37_0 := seg_ag sg33_0 hu37 (by omega)
              have sg37_1 := seg_ag sg33 hu37 (by omega)
              have sb37 : seg (ar37 71) (700 * l + c) (700 * l + (c33 + 1)) (h + 1) := seg_bin (k := 700 * l + c33) sg37_0 sg37_1 hv37 (by decide) (by decide) (by decide) (by omega) (by omega) (by omega) (by omega)
              refine to_eq (fr' := (74, [(0, .ref 49), (1, .int (nI w)), (2, .int (nI n1)), (3, .int 5)], [], gh S a b sc37 ar37 lo, ex, 0, 0)) rfl ?_
              refine to_n 1 (fr' := (75, [(0, .ref 49), (1, .int (nI w)), (2, .int (nI n1)), (3, .int 5)], [.int (nI n1)], gh S a b sc37 ar37 lo, ex, 0, 0)) rfl ?_
              refine to_nf_eq (t := 84) (x := n1) rfl (by omega) (fun q38 => ?_) (fun q38 => ?_)
              · exact to_rt (i := .return_) (tg := []) rfl rfl ⟨_, _, ⟨hI37, hF37, ⟨hk37, Or.inr ⟨k37_4941, hz37, (c33 + 1), B33, k37_4934, k37_4939, by omega, by omega, by omega, by omega, seg_le sb37 (by omega)⟩⟩⟩, rfl⟩
              · refine to_n 2 (fr' := (81, [(0, .ref 49), (1, .int (nI w)), (2, .int (nI n1)), (3, .int 5)], [.int 8, .ref 49], gh S a b sc37 ar37 lo, ex, 0, 0)) rfl ?_
                refine to_cv (q := 126) (M1 := an_X10_emit) (rest := []) rfl rfl (by decide) rfl ⟨_, rfl⟩ (em_ok hW hI37 8 l (c33 + 1) (by omega) (by omega) k37_4941 k37_4907 k37_4934 (d + 4)) (fun sc39 ar39 hx39 => ?_)
                obtain ⟨hI39, hG39, hs39, ha39⟩ := hx39
                have k39_4907 : sc39 4907 = (nI l) := (hG39.1 4907 (by decide)).trans k37_4907
                have k39_4939 : sc39 4939 = (nI B33) := (hG39.1 4939 (by decide)).trans k37_4939
                have k39_4941 : sc39 4941 = 0 := (hG39.1 4941 (by decide)).trans k37_4941
                have k39_4934 : sc39 4934 = nI ((c33 + 1) + 1) := by rw [hs39]; exact up_eq
                have hc39 : ar39 71 = upd (ar37 71) (700 * l + (c33 + 1)) 8 := by rw [ha39]; rfl
                have hv39 : ar39 71 (700 * l + (c33 + 1)) = 8 := by rw [hc39]; exact up_eq
                have hu39 : ∀ x, x < 700 * l + (c33 + 1) → ar39 71 x = ar37 71 x := fun x w => by rw [hc39]; exact up_ne (by omega)
                have hk39 : ∀ x, x < 700 * l + c → ar39 71 x = ar 71 x := fun x w => (hu39 x (by omega)).trans (hk37 x w)
                have hz39 := pz_fr hz37 hG39 (by decide) (by decide) (by decide) (by decide) (by decide)
                have hF39 := fr_t hF37 hG39 (by decide) (by decide)
                have sg39_0 := seg_ag sb37 hu39 (by omega)
                have sn39 : seg (ar39 71) (700 * l + c) (700 * l + ((c33 + 1) + 1)) (h + 1) := seg_not (j := 700 * l + (c33 + 1)) sg39_0 hv39 (by omega)
                refine to_eq (fr' := (84, [(0, .ref 49), (1, .int (nI w)), (2, .int (nI n1)), (3, .int 5)], [], gh S a b sc39 ar39 lo, ex, 0, 0)) rfl ?_
                exact to_rt (i := .return_) (tg := []) rfl rfl ⟨_, _, ⟨hI39, hF39, ⟨hk39, Or.inr ⟨k39_4941, hz39, ((c33 + 1) + 1), B33, k39_4934, k39_4939, by omega, by omega, by omega, by omega, seg_le sn39 (by omega)⟩⟩⟩, rfl⟩
          · refine to_n 4 (fr' := (61, [(0, .ref 49), (1, .int (nI w)), (2, .int (nI n1)), (3, .int 4)], [.ref 49], gh S a b sc3 ar3 lo, ex, 0, 0)) rfl ?_
            refine to_cv (q := 122) (M1 := an_X10_step) (rest := []) rfl rfl (by decide) rfl ⟨_, rfl⟩ (st_next hW hI3 eB3 (by omega) hz3 (tok_nz (iw_tok hn30 hp30 q31) (by decide)) (d + 3)) (fun sc40 ar40 hx40 => ?_)
            obtain ⟨hI40, hG40, hz40, B40, eB40, hB40, hC40⟩ := hx40
            have k40_4907 : sc40 4907 = (nI l) := (hG40.1 4907 (by decide)).trans k3_4907
            have k40_4934 : sc40 4934 = (nI c3) := (hG40.1 4934 (by decide)).trans ec3
            have k40_4941 : sc40 4941 = 0 := (hG40.1 4941 (by decide)).trans hb3
            have hk40 : ∀ x, x < 700 * l + c → ar40 71 x = ar 71 x := kp_st hk3 hG40 (by decide)
            have sg40_0 := sg_st sg3 hG40 (by decide)
            have hF40 := fr_t hF3 hG40 (by decide) (by decide)
            refine to_eq (fr' := (64, [(0, .ref 49), (1, .int (nI w)), (2, .int (nI n1)), (3, .int 4)], [], gh S a b sc40 ar40 lo, ex, 0, 0)) rfl ?_
            refine to_n 2 (fr' := (66, [(0, .ref 49), (1, .int (nI w)), (2, .int (nI n1)), (3, .int 4)], [.int (nI w), .ref 49], gh S a b sc40 ar40 lo, ex, 0, 0)) rfl ?_
            refine to_cv (q := 130) (M1 := an_X10_readSum) (rest := []) rfl rfl (by decide) rfl ⟨_, rfl⟩ (hE sc40 ar40 l c3 (e + 2) B40 hI40 (by omega) k40_4907 k40_4934 eB40 (by omega) k40_4941 hz40 (by omega)) (fun sc41 ar41 hx41 => ?_)
            obtain ⟨hI41, hG41, hu41, hr41⟩ := hx41
            have k41_4907 : sc41 4907 = nI l := (hG41.1 4907 (by decide)).trans k40_4907
            have hk41 : ∀ x, x < 700 * l + c → ar41 71 x = ar 71 x := fun x w => (hu41 x (by omega)).trans (hk40 x w)
            have hF41 := fr_t hF40 hG41 (by decide) (by decide)
            have sg41_0 := seg_ag sg40_0 hu41 (by omega)
            rcases hr41 with hb41 | ⟨hb41, hz41, c41, B41, ec41, eB41, hcc41, hBB41, hB41, hpo41, sg41⟩
            · refine to_eq (fr' := (69, [(0, .ref 49), (1, .int (nI w)), (2, .int (nI n1)), (3, .int 4)], [], gh S a b sc41 ar41 lo, ex, 0, 0)) rfl ?_
              refine to_n 2 (fr' := (71, [(0, .ref 49), (1, .int (nI w)), (2, .int (nI n1)), (3, .int 4)], [.int 4, .ref 49], gh S a b sc41 ar41 lo, ex, 0, 0)) rfl ?_
              refine to_cu (q := 126) (M1 := an_X10_emit) (rest := []) rfl rfl (by decide) rfl ⟨_, rfl⟩ (em_bad 4 hb41 (d + 4)) ?_ 
              refine to_eq (fr' := (74, [(0, .ref 49), (1, .int (nI w)), (2, .int (nI n1)), (3, .int 4)], [], gh S a b sc41 ar41 lo, ex, 0, 0)) rfl ?_
              refine to_n 1 (fr' := (75, [(0, .ref 49), (1, .int (nI w)), (2, .int (nI n1)), (3, .int 4)], [.int (nI n1)], gh S a b sc41 ar41 lo, ex, 0, 0)) rfl ?_
              refine to_nf_eq (t := 84) (x := n1) rfl (by omega) (fun q43 => ?_) (fun q43 => ?_)
              · exact to_rt (i := .return_) (tg := []) rfl rfl ⟨_, _, ⟨hI41, hF41, ⟨hk41, Or.inl hb41⟩⟩, rfl⟩
              · refine to_n 2 (fr' := (81, [(0, .ref 49), (1, .int (nI w)), (2, .int (nI n1)), (3, .int 4)], [.int 8, .ref 49], gh S a b sc41 ar41 lo, ex, 0, 0)) rfl ?_
                refine to_cu (q := 126) (M1 := an_X10_emit) (rest := []) rfl rfl (by decide) rfl ⟨_, rfl⟩ (em_bad 8 hb41 (d + 4)) ?_ 
                refine to_eq (fr' := (84, [(0, .ref 49), (1, .int (nI w)), (2, .int (nI n1)), (3, .int 4)], [], gh S a b sc41 ar41 lo, ex, 0, 0)) rfl ?_
                exact to_rt (i := .return_) (tg := []) rfl rfl ⟨_, _, ⟨hI41, hF41, ⟨hk41, Or.inl hb41⟩⟩, rfl⟩
            · refine to_eq (fr' := (69, [(0, .ref 49), (1, .int (nI w)), (2, .int (nI n1)), (3, .int 4)], [], gh S a b sc41 ar41 lo, ex, 0, 0)) rfl ?_
              refine to_n 2 (fr' := (71, [(0, .ref 49), (1, .int (nI w)), (2, .int (nI n1)), (3, .int 4)], [.int 4, .ref 49], gh S a b sc41 ar41 lo, ex, 0, 0)) rfl ?_
              refine to_cv (q := 126) (M1 := an_X10_emit) (rest := []) rfl rfl (by decide) rfl ⟨_, rfl⟩ (em_ok hW hI41 4 l c41 (by omega) (by omega) hb41 k41_4907 ec41 (d + 4)) (fun sc45 ar45 hx45 => ?_)
              obtain ⟨hI45, hG45, hs45, ha45⟩ := hx45
              have k45_4907 : sc45 4907 = (nI l) := (hG45.1 4907 (by decide)).trans k41_4907
              have k45_4939 : sc45 4939 = (nI B41) := (hG45.1 4939 (by decide)).trans eB41
              have k45_4941 : sc45 4941 = 0 := (hG45.1 4941 (by decide)).trans hb41
              have k45_4934 : sc45 4934 = nI (c41 + 1) := by rw [hs45]; exact up_eq
              have hc45 : ar45 71 = upd (ar41 71) (700 * l + c41) 4 := by rw [ha45]; rfl
              have hv45 : ar45 71 (700 * l + c41) = 4 := by rw [hc45]; exact up_eq
              have hu45 : ∀ x, x < 700 * l + c41 → ar45 71 x = ar41 71 x := fun x w => by rw [hc45]; exact up_ne (by omega)
              have hk45 : ∀ x, x < 700 * l + c → ar45 71 x = ar 71 x := fun x w => (hu45 x (by omega)).trans (hk41 x w)
              have hz45 := pz_fr hz41 hG45 (by decide) (by decide) (by decide) (by decide) (by decide)
              have hF45 := fr_t hF41 hG45 (by decide) (by decide)
              have sg45_0 := seg_ag sg41_0 hu45 (by omega)
              have sg45_1 := seg_ag sg41 hu45 (by omega)
              have sb45 : seg (ar45 71) (700 * l + c) (700 * l + (c41 + 1)) (h + 1) := seg_bin (k := 700 * l + c41) sg45_0 sg45_1 hv45 (by decide) (by decide) (by decide) (by omega) (by omega) (by omega) (by omega)
              refine to_eq (fr' := (74, [(0, .ref 49), (1, .int (nI w)), (2, .int (nI n1)), (3, .int 4)], [], gh S a b sc45 ar45 lo, ex, 0, 0)) rfl ?_
              refine to_n 1 (fr' := (75, [(0, .ref 49), (1, .int (nI w)), (2, .int (nI n1)), (3, .int 4)], [.int (nI n1)], gh S a b sc45 ar45 lo, ex, 0, 0)) rfl ?_
              refine to_nf_eq (t := 84) (x := n1) rfl (by omega) (fun q46 => ?_) (fun q46 => ?_)
              · exact to_rt (i := .return_) (tg := []) rfl rfl ⟨_, _, ⟨hI45, hF45, ⟨hk45, Or.inr ⟨k45_4941, hz45, (c41 + 1), B41, k45_4934, k45_4939, by omega, by omega, by omega, by omega, seg_le sb45 (by omega)⟩⟩⟩, rfl⟩
              · refine to_n 2 (fr' := (81, [(0, .ref 49), (1, .int (nI w)), (2, .int (nI n1)), (3, .int 4)], [.int 8, .ref 49], gh S a b sc45 ar45 lo, ex, 0, 0)) rfl ?_
                refine to_cv (q := 126) (M1 := an_X10_emit) (rest := []) rfl rfl (by decide) rfl ⟨_, rfl⟩ (em_ok hW hI45 8 l (c41 + 1) (by omega) (by omega) k45_4941 k45_4907 k45_4934 (d + 4)) (fun sc47 ar47 hx47 => ?_)
                obtain ⟨hI47, hG47, hs47, ha47⟩ := hx47
                have k47_4907 : sc47 4907 = (nI l) := (hG47.1 4907 (by decide)).trans k45_4907
                have k47_4939 : sc47 4939 = (nI B41) := (hG47.1 4939 (by decide)).trans k45_4939
                have k47_4941 : sc47 4941 = 0 := (hG47.1 4941 (by decide)).trans k45_4941
                have k47_4934 : sc47 4934 = nI ((c41 + 1) + 1) := by rw [hs47]; exact up_eq
                have hc47 : ar47 71 = upd (ar45 71) (700 * l + (c41 + 1)) 8 := by rw [ha47]; rfl
                have hv47 : ar47 71 (700 * l + (c41 + 1)) = 8 := by rw [hc47]; exact up_eq
                have hu47 : ∀ x, x < 700 * l + (c41 + 1) → ar47 71 x = ar45 71 x := fun x w => by rw [hc47]; exact up_ne (by omega)
                have hk47 : ∀ x, x < 700 * l + c → ar47 71 x = ar 71 x := fun x w => (hu47 x (by omega)).trans (hk45 x w)
                have hz47 := pz_fr hz45 hG47 (by decide) (by decide) (by decide) (by decide) (by decide)
                have hF47 := fr_t hF45 hG47 (by decide) (by decide)
                have sg47_0 := seg_ag sb45 hu47 (by omega)
                have sn47 : seg (ar47 71) (700 * l + c) (700 * l + ((c41 + 1) + 1)) (h + 1) := seg_not (j := 700 * l + (c41 + 1)) sg47_0 hv47 (by omega)
                refine to_eq (fr' := (84, [(0, .ref 49), (1, .int (nI w)), (2, .int (nI n1)), (3, .int 4)], [], gh S a b sc47 ar47 lo, ex, 0, 0)) rfl ?_
                exact to_rt (i := .return_) (tg := []) rfl rfl ⟨_, _, ⟨hI47, hF47, ⟨hk47, Or.inr ⟨k47_4941, hz47, ((c41 + 1) + 1), B41, k47_4934, k47_4939, by omega, by omega, by omega, by omega, seg_le sn47 (by omega)⟩⟩⟩, rfl⟩
  · refine to_n 1 (fr' := (12, [(0, .ref 49), (1, .int (nI w)), (2, .int (nI n1))], [.ref 49], gh S a b sc ar lo, ex, 0, 0)) rfl ?_
    refine to_cv (q := 122) (M1 := an_X10_step) (rest := []) rfl rfl (by decide) rfl ⟨_, rfl⟩ (st_next hW hI eB (by omega) hz (tok_nz (iw_tok hn1 hp1 q2) (by decide)) (d + 3)) (fun sc48 ar48 hx48 => ?_)
    obtain ⟨hI48, hG48, hz48, B48, eB48, hB48, hC48⟩ := hx48
    have k48_4907 : sc48 4907 = (nI l) := (hG48.1 4907 (by decide)).trans el
    have k48_4934 : sc48 4934 = (nI c) := (hG48.1 4934 (by decide)).trans ec
    have k48_4941 : sc48 4941 = 0 := (hG48.1 4941 (by decide)).trans eb
    have hk48 : ∀ x, x < 700 * l + c → ar48 71 x = ar 71 x := kp_st (fun _ _ => rfl) hG48 (by decide)
    have hF48 := fr_t hF hG48 (by decide) (by decide)
    refine to_eq (fr' := (15, [(0, .ref 49), (1, .int (nI w)), (2, .int (nI n1))], [], gh S a b sc48 ar48 lo, ex, 0, 0)) rfl ?_
    refine to_n 2 (fr' := (17, [(0, .ref 49), (1, .int (nI w)), (2, .int (nI n1))], [.int (nI w), .ref 49], gh S a b sc48 ar48 lo, ex, 0, 0)) rfl ?_
    refine to_cv (q := 130) (M1 := an_X10_readSum) (rest := []) rfl rfl (by decide) rfl ⟨_, rfl⟩ (hE sc48 ar48 l c (e + 2) B48 hI48 (by omega) k48_4907 k48_4934 eB48 (by omega) k48_4941 hz48 (by omega)) (fun sc49 ar49 hx49 => ?_)
    obtain ⟨hI49, hG49, hu49, hr49⟩ := hx49
    have k49_4907 : sc49 4907 = nI l := (hG49.1 4907 (by decide)).trans k48_4907
    have hk49 : ∀ x, x < 700 * l + c → ar49 71 x = ar 71 x := fun x w => (hu49 x (by omega)).trans (hk48 x w)
    have hF49 := fr_t hF48 hG49 (by decide) (by decide)
    rcases hr49 with hb49 | ⟨hb49, hz49, c49, B49, ec49, eB49, hcc49, hBB49, hB49, hpo49, sg49⟩
    · refine to_eq (fr' := (20, [(0, .ref 49), (1, .int (nI w)), (2, .int (nI n1))], [], gh S a b sc49 ar49 lo, ex, 0, 0)) rfl ?_
      refine to_n 1 (fr' := (21, [(0, .ref 49), (1, .int (nI w)), (2, .int (nI n1))], [.ref 49], gh S a b sc49 ar49 lo, ex, 0, 0)) rfl ?_
      refine to_getR (v := (sc49 4941)) rfl rfl rfl rfl rfl ?_
      refine to_if_ne_T (t := 74) rfl hb49 ?_
      refine to_n 1 (fr' := (75, [(0, .ref 49), (1, .int (nI w)), (2, .int (nI n1))], [.int (nI n1)], gh S a b sc49 ar49 lo, ex, 0, 0)) rfl ?_
      refine to_nf_eq (t := 84) (x := n1) rfl (by omega) (fun q50 => ?_) (fun q50 => ?_)
      · exact to_rt (i := .return_) (tg := []) rfl rfl ⟨_, _, ⟨hI49, hF49, ⟨hk49, Or.inl hb49⟩⟩, rfl⟩
      · refine to_n 2 (fr' := (81, [(0, .ref 49), (1, .int (nI w)), (2, .int (nI n1))], [.int 8, .ref 49], gh S a b sc49 ar49 lo, ex, 0, 0)) rfl ?_
        refine to_cu (q := 126) (M1 := an_X10_emit) (rest := []) rfl rfl (by decide) rfl ⟨_, rfl⟩ (em_bad 8 hb49 (d + 4)) ?_ 
        refine to_eq (fr' := (84, [(0, .ref 49), (1, .int (nI w)), (2, .int (nI n1))], [], gh S a b sc49 ar49 lo, ex, 0, 0)) rfl ?_
        exact to_rt (i := .return_) (tg := []) rfl rfl ⟨_, _, ⟨hI49, hF49, ⟨hk49, Or.inl hb49⟩⟩, rfl⟩
    · refine to_eq (fr' := (20, [(0, .ref 49), (1, .int (nI w)), (2, .int (nI n1))], [], gh S a b sc49 ar49 lo, ex, 0, 0)) rfl ?_
      refine to_n 1 (fr' := (21, [(0, .ref 49), (1, .int (nI w)), (2, .int (nI n1))], [.ref 49], gh S a b sc49 ar49 lo, ex, 0, 0)) rfl ?_
      refine to_getR (v := 0) rfl rfl rfl rfl hb49 ?_
      refine to_n 3 (fr' := (30, [(0, .ref 49), (1, .int (nI w)), (2, .int (nI n1))], [.int 60, .ref 49], gh S a b sc49 ar49 lo, ex, 0, 0)) rfl ?_
      refine to_cp (q := 124) (M1 := an_X10_isSign) (rest := []) rfl rfl (by decide) rfl ⟨_, rfl⟩ (sf_X10_isSign hW hI49 60 (d + 4)) (fun x52 hx52 => ?_)
      obtain ⟨⟨n52, hn52, rfl⟩, hp52⟩ := hx52
      refine to_eq (fr' := (33, [(0, .ref 49), (1, .int (nI w)), (2, .int (nI n1))], [.int (nI n52)], gh S a b sc49 ar49 lo, ex, 0, 0)) rfl ?_
      refine to_nf_ne (t := 45) (x := n52) rfl (by omega) (fun q53 => ?_) (fun q53 => ?_)
      · refine to_n 2 (fr' := (48, [(0, .ref 49), (1, .int (nI w)), (2, .int (nI n1))], [.int 60, .ref 49], gh S a b sc49 ar49 lo, ex, 0, 0)) rfl ?_
        refine to_cp (q := 124) (M1 := an_X10_isSign) (rest := []) rfl rfl (by decide) rfl ⟨_, rfl⟩ (sf_X10_isSign hW hI49 60 (d + 4)) (fun x54 hx54 => ?_)
        obtain ⟨⟨n54, hn54, rfl⟩, hp54⟩ := hx54
        refine to_eq (fr' := (51, [(0, .ref 49), (1, .int (nI w)), (2, .int (nI n1))], [.int (nI n54)], gh S a b sc49 ar49 lo, ex, 0, 0)) rfl ?_
        refine to_nf_eq (t := 58) (x := n54) rfl (by omega) (fun q55 => ?_) (fun q55 => ?_)
        · refine to_n 3 (fr' := (61, [(0, .ref 49), (1, .int (nI w)), (2, .int (nI n1)), (3, .int 5)], [.ref 49], gh S a b sc49 ar49 lo, ex, 0, 0)) rfl ?_
          refine to_cv (q := 122) (M1 := an_X10_step) (rest := []) rfl rfl (by decide) rfl ⟨_, rfl⟩ (st_next hW hI49 eB49 (by omega) hz49 (tok_nz (iw_tok hn52 hp52 q53) (by decide)) (d + 3)) (fun sc56 ar56 hx56 => ?_)
          obtain ⟨hI56, hG56, hz56, B56, eB56, hB56, hC56⟩ := hx56
          have k56_4907 : sc56 4907 = (nI l) := (hG56.1 4907 (by decide)).trans k49_4907
          have k56_4934 : sc56 4934 = (nI c49) := (hG56.1 4934 (by decide)).trans ec49
          have k56_4941 : sc56 4941 = 0 := (hG56.1 4941 (by decide)).trans hb49
          have hk56 : ∀ x, x < 700 * l + c → ar56 71 x = ar 71 x := kp_st hk49 hG56 (by decide)
          have sg56_0 := sg_st sg49 hG56 (by decide)
          have hF56 := fr_t hF49 hG56 (by decide) (by decide)
          refine to_eq (fr' := (64, [(0, .ref 49), (1, .int (nI w)), (2, .int (nI n1)), (3, .int 5)], [], gh S a b sc56 ar56 lo, ex, 0, 0)) rfl ?_
          refine to_n 2 (fr' := (66, [(0, .ref 49), (1, .int (nI w)), (2, .int (nI n1)), (3, .int 5)], [.int (nI w), .ref 49], gh S a b sc56 ar56 lo, ex, 0, 0)) rfl ?_
          refine to_cv (q := 130) (M1 := an_X10_readSum) (rest := []) rfl rfl (by decide) rfl ⟨_, rfl⟩ (hE sc56 ar56 l c49 ((e + 2) + 2) B56 hI56 (by omega) k56_4907 k56_4934 eB56 (by omega) k56_4941 hz56 (by omega)) (fun sc57 ar57 hx57 => ?_)
          obtain ⟨hI57, hG57, hu57, hr57⟩ := hx57
          have k57_4907 : sc57 4907 = nI l := (hG57.1 4907 (by decide)).trans k56_4907
          have hk57 : ∀ x, x < 700 * l + c → ar57 71 x = ar 71 x := fun x w => (hu57 x (by omega)).trans (hk56 x w)
          have hF57 := fr_t hF56 hG57 (by decide) (by decide)
          have sg57_0 := seg_ag sg56_0 hu57 (by omega)
          rcases hr57 with hb57 | ⟨hb57, hz57, c57, B57, ec57, eB57, hcc57, hBB57, hB57, hpo57, sg57⟩
          · refine to_eq (fr' := (69, [(0, .ref 49), (1, .int (nI w)), (2, .int (nI n1)), (3, .int 5)], [], gh S a b sc57 ar57 lo, ex, 0, 0)) rfl ?_
            refine to_n 2 (fr' := (71, [(0, .ref 49), (1, .int (nI w)), (2, .int (nI n1)), (3, .int 5)], [.int 5, .ref 49], gh S a b sc57 ar57 lo, ex, 0, 0)) rfl ?_
            refine to_cu (q := 126) (M1 := an_X10_emit) (rest := []) rfl rfl (by decide) rfl ⟨_, rfl⟩ (em_bad 5 hb57 (d + 4)) ?_ 
            refine to_eq (fr' := (74, [(0, .ref 49), (1, .int (nI w)), (2, .int (nI n1)), (3, .int 5)], [], gh S a b sc57 ar57 lo, ex, 0, 0)) rfl ?_
            refine to_n 1 (fr' := (75, [(0, .ref 49), (1, .int (nI w)), (2, .int (nI n1)), (3, .int 5)], [.int (nI n1)], gh S a b sc57 ar57 lo, ex, 0, 0)) rfl ?_
            refine to_nf_eq (t := 84) (x := n1) rfl (by omega) (fun q59 => ?_) (fun q59 => ?_)
            · exact to_rt (i := .return_) (tg := []) rfl rfl ⟨_, _, ⟨hI57, hF57, ⟨hk57, Or.inl hb57⟩⟩, rfl⟩
            · refine to_n 2 (fr' := (81, [(0, .ref 49), (1, .int (nI w)), (2, .int (nI n1)), (3, .int 5)], [.int 8, .ref 49], gh S a b sc57 ar57 lo, ex, 0, 0)) rfl ?_
              refine to_cu (q := 126) (M1 := an_X10_emit) (rest := []) rfl rfl (by decide) rfl ⟨_, rfl⟩ (em_bad 8 hb57 (d + 4)) ?_ 
              refine to_eq (fr' := (84, [(0, .ref 49), (1, .int (nI w)), (2, .int (nI n1)), (3, .int 5)], [], gh S a b sc57 ar57 lo, ex, 0, 0)) rfl ?_
              exact to_rt (i := .return_) (tg := []) rfl rfl ⟨_, _, ⟨hI57, hF57, ⟨hk57, Or.inl hb57⟩⟩, rfl⟩
          · refine to_eq (fr' := (69, [(0, .ref 49), (1, .int (nI w)), (2, .int (nI n1)), (3, .int 5)], [], gh S a b sc57 ar57 lo, ex, 0, 0)) rfl ?_
            refine to_n 2 (fr' := (71, [(0, .ref 49), (1, .int (nI w)), (2, .int (nI n1)), (3, .int 5)], [.int 5, .ref 49], gh S a b sc57 ar57 lo, ex, 0, 0)) rfl ?_
            refine to_cv (q := 126) (M1 := an_X10_emit) (rest := []) rfl rfl (by decide) rfl ⟨_, rfl⟩ (em_ok hW hI57 5 l c57 (by omega) (by omega) hb57 k57_4907 ec57 (d + 4)) (fun sc61 ar61 hx61 => ?_)
            obtain ⟨hI61, hG61, hs61, ha61⟩ := hx61
            have k61_4907 : sc61 4907 = (nI l) := (hG61.1 4907 (by decide)).trans k57_4907
            have k61_4939 : sc61 4939 = (nI B57) := (hG61.1 4939 (by decide)).trans eB57
            have k61_4941 : sc61 4941 = 0 := (hG61.1 4941 (by decide)).trans hb57
            have k61_4934 : sc61 4934 = nI (c57 + 1) := by rw [hs61]; exact up_eq
            have hc61 : ar61 71 = upd (ar57 71) (700 * l + c57) 5 := by rw [ha61]; rfl
            have hv61 : ar61 71 (700 * l + c57) = 5 := by rw [hc61]; exact up_eq
            have hu61 : ∀ x, x < 700 * l + c57 → ar61 71 x = ar57 71 x := fun x w => by rw [hc61]; exact up_ne (by omega)
            have hk61 : ∀ x, x < 700 * l + c → ar61 71 x = ar 71 x := fun x w => (hu61 x (by omega)).trans (hk57 x w)
            have hz61 := pz_fr hz57 hG61 (by decide) (by decide) (by decide) (by decide) (by decide)
            have hF61 := fr_t hF57 hG61 (by decide) (by decide)
            have sg61_0 := seg_ag sg57_0 hu61 (by omega)
            have sg61_1 := seg_ag sg57 hu61 (by omega)
            have sb61 : seg (ar61 71) (700 * l + c) (700 * l + (c57 + 1)) (h + 1) := seg_bin (k := 700 * l + c57) sg61_0 sg61_1 hv61 (by decide) (by decide) (by decide) (by omega) (by omega) (by omega) (by omega)
            refine to_eq (fr' := (74, [(0, .ref 49), (1, .int (nI w)), (2, .int (nI n1)), (3, .int 5)], [], gh S a b sc61 ar61 lo, ex, 0, 0)) rfl ?_
            refine to_n 1 (fr' := (75, [(0, .ref 49), (1, .int (nI w)), (2, .int (nI n1)), (3, .int 5)], [.int (nI n1)], gh S a b sc61 ar61 lo, ex, 0, 0)) rfl ?_
            refine to_nf_eq (t := 84) (x := n1) rfl (by omega) (fun q62 => ?_) (fun q62 => ?_)
            · exact to_rt (i := .return_) (tg := []) rfl rfl ⟨_, _, ⟨hI61, hF61, ⟨hk61, Or.inr ⟨k61_4941, hz61, (c57 + 1), B57, k61_4934, k61_4939, by omega, by omega, by omega, by omega, seg_le sb61 (by omega)⟩⟩⟩, rfl⟩
            · refine to_n 2 (fr' := (81, [(0, .ref 49), (1, .int (nI w)), (2, .int (nI n1)), (3, .int 5)], [.int 8, .ref 49], gh S a b sc61 ar61 lo, ex, 0, 0)) rfl ?_
              refine to_cv (q := 126) (M1 := an_X10_emit) (rest := []) rfl rfl (by decide) rfl ⟨_, rfl⟩ (em_ok hW hI61 8 l (c57 + 1) (by omega) (by omega) k61_4941 k61_4907 k61_4934 (d + 4)) (fun sc63 ar63 hx63 => ?_)
              obtain ⟨hI63, hG63, hs63, ha63⟩ := hx63
              have k63_4907 : sc63 4907 = (nI l) := (hG63.1 4907 (by decide)).trans k61_4907
              have k63_4939 : sc63 4939 = (nI B57) := (hG63.1 4939 (by decide)).trans k61_4939
              have k63_4941 : sc63 4941 = 0 := (hG63.1 4941 (by decide)).trans k61_4941
              have k63_4934 : sc63 4934 = nI ((c57 + 1) + 1) := by rw [hs63]; exact up_eq
              have hc63 : ar63 71 = upd (ar61 71) (700 * l + (c57 + 1)) 8 := by rw [ha63]; rfl
              have hv63 : ar63 71 (700 * l + (c57 + 1)) = 8 := by rw [hc63]; exact up_eq
              have hu63 : ∀ x, x < 700 * l + (c57 + 1) → ar63 71 x = ar61 71 x := fun x w => by rw [hc63]; exact up_ne (by omega)
              have hk63 : ∀ x, x < 700 * l + c → ar63 71 x = ar 71 x := fun x w => (hu63 x (by omega)).trans (hk61 x w)
              have hz63 := pz_fr hz61 hG63 (by decide) (by decide) (by decide) (by decide) (by decide)
              have hF63 := fr_t hF61 hG63 (by decide) (by decide)
              have sg63_0 := seg_ag sb61 hu63 (by omega)
              have sn63 : seg (ar63 71) (700 * l + c) (700 * l + ((c57 + 1) + 1)) (h + 1) := seg_not (j := 700 * l + (c57 + 1)) sg63_0 hv63 (by omega)
              refine to_eq (fr' := (84, [(0, .ref 49), (1, .int (nI w)), (2, .int (nI n1)), (3, .int 5)], [], gh S a b sc63 ar63 lo, ex, 0, 0)) rfl ?_
              exact to_rt (i := .return_) (tg := []) rfl rfl ⟨_, _, ⟨hI63, hF63, ⟨hk63, Or.inr ⟨k63_4941, hz63, ((c57 + 1) + 1), B57, k63_4934, k63_4939, by omega, by omega, by omega, by omega, seg_le sn63 (by omega)⟩⟩⟩, rfl⟩
        · refine to_n 4 (fr' := (61, [(0, .ref 49), (1, .int (nI w)), (2, .int (nI n1)), (3, .int 4)], [.ref 49], gh S a b sc49 ar49 lo, ex, 0, 0)) rfl ?_
          refine to_cv (q := 122) (M1 := an_X10_step) (rest := []) rfl rfl (by decide) rfl ⟨_, rfl⟩ (st_next hW hI49 eB49 (by omega) hz49 (tok_nz (iw_tok hn54 hp54 q55) (by decide)) (d + 3)) (fun sc64 ar64 hx64 => ?_)
          obtain ⟨hI64, hG64, hz64, B64, eB64, hB64, hC64⟩ := hx64
          have k64_4907 : sc64 4907 = (nI l) := (hG64.1 4907 (by decide)).trans k49_4907
          have k64_4934 : sc64 4934 = (nI c49) := (hG64.1 4934 (by decide)).trans ec49
          have k64_4941 : sc64 4941 = 0 := (hG64.1 4941 (by decide)).trans hb49
          have hk64 : ∀ x, x < 700 * l + c → ar64 71 x = ar 71 x := kp_st hk49 hG64 (by decide)
          have sg64_0 := sg_st sg49 hG64 (by decide)
          have hF64 := fr_t hF49 hG64 (by decide) (by decide)
          refine to_eq (fr' := (64, [(0, .ref 49), (1, .int (nI w)), (2, .int (nI n1)), (3, .int 4)], [], gh S a b sc64 ar64 lo, ex, 0, 0)) rfl ?_
          refine to_n 2 (fr' := (66, [(0, .ref 49), (1, .int (nI w)), (2, .int (nI n1)), (3, .int 4)], [.int (nI w), .ref 49], gh S a b sc64 ar64 lo, ex, 0, 0)) rfl ?_
          refine to_cv (q := 130) (M1 := an_X10_readSum) (rest := []) rfl rfl (by decide) rfl ⟨_, rfl⟩ (hE sc64 ar64 l c49 ((e + 2) + 2) B64 hI64 (by omega) k64_4907 k64_4934 eB64 (by omega) k64_4941 hz64 (by omega)) (fun sc65 ar65 hx65 => ?_)
          obtain ⟨hI65, hG65, hu65, hr65⟩ := hx65
          have k65_4907 : sc65 4907 = nI l := (hG65.1 4907 (by decide)).trans k64_4907
          have hk65 : ∀ x, x < 700 * l + c → ar65 71 x = ar 71 x := fun x w => (hu65 x (by omega)).trans (hk64 x w)
          have hF65 := fr_t hF64 hG65 (by decide) (by decide)
          have sg65_0 := seg_ag sg64_0 hu65 (by omega)
          rcases hr65 with hb65 | ⟨hb65, hz65, c65, B65, ec65, eB65, hcc65, hBB65, hB65, hpo65, sg65⟩
          · refine to_eq (fr' := (69, [(0, .ref 49), (1, .int (nI w)), (2, .int (nI n1)), (3, .int 4)], [], gh S a b sc65 ar65 lo, ex, 0, 0)) rfl ?_
            refine to_n 2 (fr' := (71, [(0, .ref 49), (1, .int (nI w)), (2, .int (nI n1)), (3, .int 4)], [.int 4, .ref 49], gh S a b sc65 ar65 lo, ex, 0, 0)) rfl ?_
            refine to_cu (q := 126) (M1 := an_X10_emit) (rest := []) rfl rfl (by decide) rfl ⟨_, rfl⟩ (em_bad 4 hb65 (d + 4)) ?_ 
            refine to_eq (fr' := (74, [(0, .ref 49), (1, .int (nI w)), (2, .int (nI n1)), (3, .int 4)], [], gh S a b sc65 ar65 lo, ex, 0, 0)) rfl ?_
            refine to_n 1 (fr' := (75, [(0, .ref 49), (1, .int (nI w)), (2, .int (nI n1)), (3, .int 4)], [.int (nI n1)], gh S a b sc65 ar65 lo, ex, 0, 0)) rfl ?_
            refine to_nf_eq (t := 84) (x := n1) rfl (by omega) (fun q67 => ?_) (fun q67 => ?_)
            · exact to_rt (i := .return_) (tg := []) rfl rfl ⟨_, _, ⟨hI65, hF65, ⟨hk65, Or.inl hb65⟩⟩, rfl⟩
            · refine to_n 2 (fr' := (81, [(0, .ref 49), (1, .int (nI w)), (2, .int (nI n1)), (3, .int 4)], [.int 8, .ref 49], gh S a b sc65 ar65 lo, ex, 0, 0)) rfl ?_
              refine to_cu (q := 126) (M1 := an_X10_emit) (rest := []) rfl rfl (by decide) rfl ⟨_, rfl⟩ (em_bad 8 hb65 (d + 4)) ?_ 
              refine to_eq (fr' := (84, [(0, .ref 49), (1, .int (nI w)), (2, .int (nI n1)), (3, .int 4)], [], gh S a b sc65 ar65 lo, ex, 0, 0)) rfl ?_
              exact to_rt (i := .return_) (tg := []) rfl rfl ⟨_, _, ⟨hI65, hF65, ⟨hk65, Or.inl hb65⟩⟩, rfl⟩
          · refine to_eq (fr' := (69, [(0, .ref 49), (1, .int (nI w)), (2, .int (nI n1)), (3, .int 4)], [], gh S a b sc65 ar65 lo, ex, 0, 0)) rfl ?_
            refine to_n 2 (fr' := (71, [(0, .ref 49), (1, .int (nI w)), (2, .int (nI n1)), (3, .int 4)], [.int 4, .ref 49], gh S a b sc65 ar65 lo, ex, 0, 0)) rfl ?_
            refine to_cv (q := 126) (M1 := an_X10_emit) (rest := []) rfl rfl (by decide) rfl ⟨_, rfl⟩ (em_ok hW hI65 4 l c65 (by omega) (by omega) hb65 k65_4907 ec65 (d + 4)) (fun sc69 ar69 hx69 => ?_)
            obtain ⟨hI69, hG69, hs69, ha69⟩ := hx69
            have k69_4907 : sc69 4907 = (nI l) := (hG69.1 4907 (by decide)).trans k65_4907
            have k69_4939 : sc69 4939 = (nI B65) := (hG69.1 4939 (by decide)).trans eB65
            have k69_4941 : sc69 4941 = 0 := (hG69.1 4941 (by decide)).trans hb65
            have k69_4934 : sc69 4934 = nI (c65 + 1) := by rw [hs69]; exact up_eq
            have hc69 : ar69 71 = upd (ar65 71) (700 * l + c65) 4 := by rw [ha69]; rfl
            have hv69 : ar69 71 (700 * l + c65) = 4 := by rw [hc69]; exact up_eq
            have hu69 : ∀ x, x < 700 * l + c65 → ar69 71 x = ar65 71 x := fun x w => by rw [hc69]; exact up_ne (by omega)
            have hk69 : ∀ x, x < 700 * l + c → ar69 71 x = ar 71 x := fun x w => (hu69 x (by omega)).trans (hk65 x w)
            have hz69 := pz_fr hz65 hG69 (by decide) (by decide) (by decide) (by decide) (by decide)
            have hF69 := fr_t hF65 hG69 (by decide) (by decide)
            have sg69_0 := seg_ag sg65_0 hu69 (by omega)
            have sg69_1 := seg_ag sg65 hu69 (by omega)
            have sb69 : seg (ar69 71) (700 * l + c) (700 * l + (c65 + 1)) (h + 1) := seg_bin (k := 700 * l + c65) sg69_0 sg69_1 hv69 (by decide) (by decide) (by decide) (by omega) (by omega) (by omega) (by omega)
            refine to_eq (fr' := (74, [(0, .ref 49), (1, .int (nI w)), (2, .int (nI n1)), (3, .int 4)], [], gh S a b sc69 ar69 lo, ex, 0, 0)) rfl ?_
            refine to_n 1 (fr' := (75, [(0, .ref 49), (1, .int (nI w)), (2, .int (nI n1)), (3, .int 4)], [.int (nI n1)], gh S a b sc69 ar69 lo, ex, 0, 0)) rfl ?_
            refine to_nf_eq (t := 84) (x := n1) rfl (by omega) (fun q70 => ?_) (fun q70 => ?_)
            · exact to_rt (i := .return_) (tg := []) rfl rfl ⟨_, _, ⟨hI69, hF69, ⟨hk69, Or.inr ⟨k69_4941, hz69, (c65 + 1), B65, k69_4934, k69_4939, by omega, by omega, by omega, by omega, seg_le sb69 (by omega)⟩⟩⟩, rfl⟩
            · refine to_n 2 (fr' := (81, [(0, .ref 49), (1, .int (nI w)), (2, .int (nI n1)), (3, .int 4)], [.int 8, .ref 49], gh S a b sc69 ar69 lo, ex, 0, 0)) rfl ?_
              refine to_cv (q := 126) (M1 := an_X10_emit) (rest := []) rfl rfl (by decide) rfl ⟨_, rfl⟩ (em_ok hW hI69 8 l (c65 + 1) (by omega) (by omega) k69_4941 k69_4907 k69_4934 (d + 4)) (fun sc71 ar71 hx71 => ?_)
              obtain ⟨hI71, hG71, hs71, ha71⟩ := hx71
              have k71_4907 : sc71 4907 = (nI l) := (hG71.1 4907 (by decide)).trans k69_4907
              have k71_4939 : sc71 4939 = (nI B65) := (hG71.1 4939 (by decide)).trans k69_4939
              have k71_4941 : sc71 4941 = 0 := (hG71.1 4941 (by decide)).trans k69_4941
              have k71_4934 : sc71 4934 = nI ((c65 + 1) + 1) := by rw [hs71]; exact up_eq
              have hc71 : ar71 71 = upd (ar69 71) (700 * l + (c65 + 1)) 8 := by rw [ha71]; rfl
              have hv71 : ar71 71 (700 * l + (c65 + 1)) = 8 := by rw [hc71]; exact up_eq
              have hu71 : ∀ x, x < 700 * l + (c65 + 1) → ar71 71 x = ar69 71 x := fun x w => by rw [hc71]; exact up_ne (by omega)
              have hk71 : ∀ x, x < 700 * l + c → ar71 71 x = ar 71 x := fun x w => (hu71 x (by omega)).trans (hk69 x w)
              have hz71 := pz_fr hz69 hG71 (by decide) (by decide) (by decide) (by decide) (by decide)
              have hF71 := fr_t hF69 hG71 (by decide) (by decide)
              have sg71_0 := seg_ag sb69 hu71 (by omega)
              have sn71 : seg (ar71 71) (700 * l + c) (700 * l + ((c65 + 1) + 1)) (h + 1) := seg_not (j := 700 * l + (c65 + 1)) sg71_0 hv71 (by omega)
              refine to_eq (fr' := (84, [(0, .ref 49), (1, .int (nI w)), (2, .int (nI n1)), (3, .int 4)], [], gh S a b sc71 ar71 lo, ex, 0, 0)) rfl ?_
              exact to_rt (i := .return_) (tg := []) rfl rfl ⟨_, _, ⟨hI71, hF71, ⟨hk71, Or.inr ⟨k71_4941, hz71, ((c65 + 1) + 1), B65, k71_4934, k71_4939, by omega, by omega, by omega, by omega, seg_le sn71 (by omega)⟩⟩⟩, rfl⟩
      · refine to_n 2 (fr' := (39, [(0, .ref 49), (1, .int (nI w)), (2, .int (nI n1))], [.int 61, .ref 49], gh S a b sc49 ar49 lo, ex, 0, 0)) rfl ?_
        refine to_cp (q := 124) (M1 := an_X10_isSign) (rest := []) rfl rfl (by decide) rfl ⟨_, rfl⟩ (sf_X10_isSign hW hI49 61 (d + 4)) (fun x72 hx72 => ?_)
        obtain ⟨⟨n72, hn72, rfl⟩, hp72⟩ := hx72
        refine to_eq (fr' := (42, [(0, .ref 49), (1, .int (nI w)), (2, .int (nI n1))], [.int (nI n72)], gh S a b sc49 ar49 lo, ex, 0, 0)) rfl ?_
        refine to_nf_eq (t := 74) (x := n72) rfl (by omega) (fun q73 => ?_) (fun q73 => ?_)
        · refine to_n 1 (fr' := (75, [(0, .ref 49), (1, .int (nI w)), (2, .int (nI n1))], [.int (nI n1)], gh S a b sc49 ar49 lo, ex, 0, 0)) rfl ?_
          refine to_nf_eq (t := 84) (x := n1) rfl (by omega) (fun q74 => ?_) (fun q74 => ?_)
          · exact to_rt (i := .return_) (tg := []) rfl rfl ⟨_, _, ⟨hI49, hF49, ⟨hk49, Or.inr ⟨hb49, hz49, c49, B49, ec49, eB49, by omega, by omega, by omega, by omega, seg_le sg49 (by omega)⟩⟩⟩, rfl⟩
          · refine to_n 2 (fr' := (81, [(0, .ref 49), (1, .int (nI w)), (2, .int (nI n1))], [.int 8, .ref 49], gh S a b sc49 ar49 lo, ex, 0, 0)) rfl ?_
            refine to_cv (q := 126) (M1 := an_X10_emit) (rest := []) rfl rfl (by decide) rfl ⟨_, rfl⟩ (em_ok hW hI49 8 l c49 (by omega) (by omega) hb49 k49_4907 ec49 (d + 4)) (fun sc75 ar75 hx75 => ?_)
            obtain ⟨hI75, hG75, hs75, ha75⟩ := hx75
            have k75_4907 : sc75 4907 = (nI l) := (hG75.1 4907 (by decide)).trans k49_4907
            have k75_4939 : sc75 4939 = (nI B49) := (hG75.1 4939 (by decide)).trans eB49
            have k75_4941 : sc75 4941 = 0 := (hG75.1 4941 (by decide)).trans hb49
            have k75_4934 : sc75 4934 = nI (c49 + 1) := by rw [hs75]; exact up_eq
            have hc75 : ar75 71 = upd (ar49 71) (700 * l + c49) 8 := by rw [ha75]; rfl
            have hv75 : ar75 71 (700 * l + c49) = 8 := by rw [hc75]; exact up_eq
            have hu75 : ∀ x, x < 700 * l + c49 → ar75 71 x = ar49 71 x := fun x w => by rw [hc75]; exact up_ne (by omega)
            have hk75 : ∀ x, x < 700 * l + c → ar75 71 x = ar 71 x := fun x w => (hu75 x (by omega)).trans (hk49 x w)
            have hz75 := pz_fr hz49 hG75 (by decide) (by decide) (by decide) (by decide) (by decide)
            have hF75 := fr_t hF49 hG75 (by decide) (by decide)
            have sg75_0 := seg_ag sg49 hu75 (by omega)
            have sn75 : seg (ar75 71) (700 * l + c) (700 * l + (c49 + 1)) h := seg_not (j := 700 * l + c49) sg75_0 hv75 (by omega)
            refine to_eq (fr' := (84, [(0, .ref 49), (1, .int (nI w)), (2, .int (nI n1))], [], gh S a b sc75 ar75 lo, ex, 0, 0)) rfl ?_
            exact to_rt (i := .return_) (tg := []) rfl rfl ⟨_, _, ⟨hI75, hF75, ⟨hk75, Or.inr ⟨k75_4941, hz75, (c49 + 1), B49, k75_4934, k75_4939, by omega, by omega, by omega, by omega, seg_le sn75 (by omega)⟩⟩⟩, rfl⟩
        · refine to_n 2 (fr' := (48, [(0, .ref 49), (1, .int (nI w)), (2, .int (nI n1))], [.int 60, .ref 49], gh S a b sc49 ar49 lo, ex, 0, 0)) rfl ?_
          refine to_cp (q := 124) (M1 := an_X10_isSign) (rest := []) rfl rfl (by decide) rfl ⟨_, rfl⟩ (sf_X10_isSign hW hI49 60 (d + 4)) (fun x76 hx76 => ?_)
          obtain ⟨⟨n76, hn76, rfl⟩, hp76⟩ := hx76
          refine to_eq (fr' := (51, [(0, .ref 49), (1, .int (nI w)), (2, .int (nI n1))], [.int (nI n76)], gh S a b sc49 ar49 lo, ex, 0, 0)) rfl ?_
          refine to_nf_eq (t := 58) (x := n76) rfl (by omega) (fun q77 => ?_) (fun q77 => ?_)
          · refine to_n 3 (fr' := (61, [(0, .ref 49), (1, .int (nI w)), (2, .int (nI n1)), (3, .int 5)], [.ref 49], gh S a b sc49 ar49 lo, ex, 0, 0)) rfl ?_
            refine to_cv (q := 122) (M1 := an_X10_step) (rest := []) rfl rfl (by decide) rfl ⟨_, rfl⟩ (st_next hW hI49 eB49 (by omega) hz49 (tok_nz (iw_tok hn72 hp72 q73) (by decide)) (d + 3)) (fun sc78 ar78 hx78 => ?_)
            obtain ⟨hI78, hG78, hz78, B78, eB78, hB78, hC78⟩ := hx78
            have k78_4907 : sc78 4907 = (nI l) := (hG78.1 4907 (by decide)).trans k49_4907
            have k78_4934 : sc78 4934 = (nI c49) := (hG78.1 4934 (by decide)).trans ec49
            have k78_4941 : sc78 4941 = 0 := (hG78.1 4941 (by decide)).trans hb49
            have hk78 : ∀ x, x < 700 * l + c → ar78 71 x = ar 71 x := kp_st hk49 hG78 (by decide)
            have sg78_0 := sg_st sg49 hG78 (by decide)
            have hF78 := fr_t hF49 hG78 (by decide) (by decide)
            refine to_eq (fr' := (64, [(0, .ref 49), (1, .int (nI w)), (2, .int (nI n1)), (3, .int 5)], [], gh S a b sc78 ar78 lo, ex, 0, 0)) rfl ?_
            refine to_n 2 (fr' := (66, [(0, .ref 49), (1, .int (nI w)), (2, .int (nI n1)), (3, .int 5)], [.int (nI w), .ref 49], gh S a b sc78 ar78 lo, ex, 0, 0)) rfl ?_
            refine to_cv (q := 130) (M1 := an_X10_readSum) (rest := []) rfl rfl (by decide) rfl ⟨_, rfl⟩ (hE sc78 ar78 l c49 ((e + 2) + 2) B78 hI78 (by omega) k78_4907 k78_4934 eB78 (by omega) k78_4941 hz78 (by omega)) (fun sc79 ar79 hx79 => ?_)
            obtain ⟨hI79, hG79, hu79, hr79⟩ := hx79
            have k79_4907 : sc79 4907 = nI l := (hG79.1 4907 (by decide)).trans k78_4907
            have hk79 : ∀ x, x < 700 * l + c → ar79 71 x = ar 71 x := fun x w => (hu79 x (by omega)).trans (hk78 x w)
            have hF79 := fr_t hF78 hG79 (by decide) (by decide)
            have sg79_0 := seg_ag sg78_0 hu79 (by omega)
            rcases hr79 with hb79 | ⟨hb79, hz79, c79, B79, ec79, eB79, hcc79, hBB79, hB79, hpo79, sg79⟩
            · refine to_eq (fr' := (69, [(0, .ref 49), (1, .int (nI w)), (2, .int (nI n1)), (3, .int 5)], [], gh S a b sc79 ar79 lo, ex, 0, 0)) rfl ?_
              refine to_n 2 (fr' := (71, [(0, .ref 49), (1, .int (nI w)), (2, .int (nI n1)), (3, .int 5)], [.int 5, .ref 49], gh S a b sc79 ar79 lo, ex, 0, 0)) rfl ?_
              refine to_cu (q := 126) (M1 := an_X10_emit) (rest := []) rfl rfl (by decide) rfl ⟨_, rfl⟩ (em_bad 5 hb79 (d + 4)) ?_ 
              refine to_eq (fr' := (74, [(0, .ref 49), (1, .int (nI w)), (2, .int (nI n1)), (3, .int 5)], [], gh S a b sc79 ar79 lo, ex, 0, 0)) rfl ?_
              refine to_n 1 (fr' := (75, [(0, .ref 49), (1, .int (nI w)), (2, .int (nI n1)), (3, .int 5)], [.int (nI n1)], gh S a b sc79 ar79 lo, ex, 0, 0)) rfl ?_
              refine to_nf_eq (t := 84) (x := n1) rfl (by omega) (fun q81 => ?_) (fun q81 => ?_)
              · exact to_rt (i := .return_) (tg := []) rfl rfl ⟨_, _, ⟨hI79, hF79, ⟨hk79, Or.inl hb79⟩⟩, rfl⟩
              · refine to_n 2 (fr' := (81, [(0, .ref 49), (1, .int (nI w)), (2, .int (nI n1)), (3, .int 5)], [.int 8, .ref 49], gh S a b sc79 ar79 lo, ex, 0, 0)) rfl ?_
                refine to_cu (q := 126) (M1 := an_X10_emit) (rest := []) rfl rfl (by decide) rfl ⟨_, rfl⟩ (em_bad 8 hb79 (d + 4)) ?_ 
                refine to_eq (fr' := (84, [(0, .ref 49), (1, .int (nI w)), (2, .int (nI n1)), (3, .int 5)], [], gh S a b sc79 ar79 lo, ex, 0, 0)) rfl ?_
                exact to_rt (i := .return_) (tg := []) rfl rfl ⟨_, _, ⟨hI79, hF79, ⟨hk79, Or.inl hb79⟩⟩, rfl⟩
            · refine to_eq (fr' := (69, [(0, .ref 49), (1, .int (nI w)), (2, .int (nI n1)), (3, .int 5)], [], gh S a b sc79 ar79 lo, ex, 0, 0)) rfl ?_
              refine to_n 2 (fr' := (71, [(0, .ref 49), (1, .int (nI w)), (2, .int (nI n1)), (3, .int 5)], [.int 5, .ref 49], gh S a b sc79 ar79 lo, ex, 0, 0)) rfl ?_
              refine to_cv (q := 126) (M1 := an_X10_emit) (rest := []) rfl rfl (by decide) rfl ⟨_, rfl⟩ (em_ok hW hI79 5 l c79 (by omega) (by omega) hb79 k79_4907 ec79 (d + 4)) (fun sc83 ar83 hx83 => ?_)
              obtain ⟨hI83, hG83, hs83, ha83⟩ := hx83
              have k83_4907 : sc83 4907 = (nI l) := (hG83.1 4907 (by decide)).trans k79_4907
              have k83_4939 : sc83 4939 = (nI B79) := (hG83.1 4939 (by decide)).trans eB79
              have k83_4941 : sc83 4941 = 0 := (hG83.1 4941 (by decide)).trans hb79
              have k83_4934 : sc83 4934 = nI (c79 + 1) := by rw [hs83]; exact up_eq
              have hc83 : ar83 71 = upd (ar79 71) (700 * l + c79) 5 := by rw [ha83]; rfl
              have hv83 : ar83 71 (700 * l + c79) = 5 := by rw [hc83]; exact up_eq
              have hu83 : ∀ x, x < 700 * l + c79 → ar83 71 x = ar79 71 x := fun x w => by rw [hc83]; exact up_ne (by omega)
              have hk83 : ∀ x, x < 700 * l + c → ar83 71 x = ar 71 x := fun x w => (hu83 x (by omega)).trans (hk79 x w)
              have hz83 := pz_fr hz79 hG83 (by decide) (by decide) (by decide) (by decide) (by decide)
              have hF83 := fr_t hF79 hG83 (by decide) (by decide)
              have sg83_0 := seg_ag sg79_0 hu83 (by omega)
              have sg83_1 := seg_ag sg79 hu83 (by omega)
              have sb83 : seg (ar83 71) (700 * l + c) (700 * l + (c79 + 1)) (h + 1) := seg_bin (k := 700 * l + c79) sg83_0 sg83_1 hv83 (by decide) (by decide) (by decide) (by omega) (by omega) (by omega) (by omega)
              refine to_eq (fr' := (74, [(0, .ref 49), (1, .int (nI w)), (2, .int (nI n1)), (3, .int 5)], [], gh S a b sc83 ar83 lo, ex, 0, 0)) rfl ?_
              refine to_n 1 (fr' := (75, [(0, .ref 49), (1, .int (nI w)), (2, .int (nI n1)), (3, .int 5)], [.int (nI n1)], gh S a b sc83 ar83 lo, ex, 0, 0)) rfl ?_
              refine to_nf_eq (t := 84) (x := n1) rfl (by omega) (fun q84 => ?_) (fun q84 => ?_)
              · exact to_rt (i := .return_) (tg := []) rfl rfl ⟨_, _, ⟨hI83, hF83, ⟨hk83, Or.inr ⟨k83_4941, hz83, (c79 + 1), B79, k83_4934, k83_4939, by omega, by omega, by omega, by omega, seg_le sb83 (by omega)⟩⟩⟩, rfl⟩
              · refine to_n 2 (fr' := (81, [(0, .ref 49), (1, .int (nI w)), (2, .int (nI n1)), (3, .int 5)], [.int 8, .ref 49], gh S a b sc83 ar83 lo, ex, 0, 0)) rfl ?_
                refine to_cv (q := 126) (M1 := an_X10_emit) (rest := []) rfl rfl (by decide) rfl ⟨_, rfl⟩ (em_ok hW hI83 8 l (c79 + 1) (by omega) (by omega) k83_4941 k83_4907 k83_4934 (d + 4)) (fun sc85 ar85 hx85 => ?_)
                obtain ⟨hI85, hG85, hs85, ha85⟩ := hx85
                have k85_4907 : sc85 4907 = (nI l) := (hG85.1 4907 (by decide)).trans k83_4907
                have k85_4939 : sc85 4939 = (nI B79) := (hG85.1 4939 (by decide)).trans k83_4939
                have k85_4941 : sc85 4941 = 0 := (hG85.1 4941 (by decide)).trans k83_4941
                have k85_4934 : sc85 4934 = nI ((c79 + 1) + 1) := by rw [hs85]; exact up_eq
                have hc85 : ar85 71 = upd (ar83 71) (700 * l + (c79 + 1)) 8 := by rw [ha85]; rfl
                have hv85 : ar85 71 (700 * l + (c79 + 1)) = 8 := by rw [hc85]; exact up_eq
                have hu85 : ∀ x, x < 700 * l + (c79 + 1) → ar85 71 x = ar83 71 x := fun x w => by rw [hc85]; exact up_ne (by omega)
                have hk85 : ∀ x, x < 700 * l + c → ar85 71 x = ar 71 x := fun x w => (hu85 x (by omega)).trans (hk83 x w)
                have hz85 := pz_fr hz83 hG85 (by decide) (by decide) (by decide) (by decide) (by decide)
                have hF85 := fr_t hF83 hG85 (by decide) (by decide)
                have sg85_0 := seg_ag sb83 hu85 (by omega)
                have sn85 : seg (ar85 71) (700 * l + c) (700 * l + ((c79 + 1) + 1)) (h + 1) := seg_not (j := 700 * l + (c79 + 1)) sg85_0 hv85 (by omega)
                refine to_eq (fr' := (84, [(0, .ref 49), (1, .int (nI w)), (2, .int (nI n1)), (3, .int 5)], [], gh S a b sc85 ar85 lo, ex, 0, 0)) rfl ?_
                exact to_rt (i := .return_) (tg := []) rfl rfl ⟨_, _, ⟨hI85, hF85, ⟨hk85, Or.inr ⟨k85_4941, hz85, ((c79 + 1) + 1), B79, k85_4934, k85_4939, by omega, by omega, by omega, by omega, seg_le sn85 (by omega)⟩⟩⟩, rfl⟩
          · refine to_n 4 (fr' := (61, [(0, .ref 49), (1, .int (nI w)), (2, .int (nI n1)), (3, .int 4)], [.ref 49], gh S a b sc49 ar49 lo, ex, 0, 0)) rfl ?_
            refine to_cv (q := 122) (M1 := an_X10_step) (rest := []) rfl rfl (by decide) rfl ⟨_, rfl⟩ (st_next hW hI49 eB49 (by omega) hz49 (tok_nz (iw_tok hn76 hp76 q77) (by decide)) (d + 3)) (fun sc86 ar86 hx86 => ?_)
            obtain ⟨hI86, hG86, hz86, B86, eB86, hB86, hC86⟩ := hx86
            have k86_4907 : sc86 4907 = (nI l) := (hG86.1 4907 (by decide)).trans k49_4907
            have k86_4934 : sc86 4934 = (nI c49) := (hG86.1 4934 (by decide)).trans ec49
            have k86_4941 : sc86 4941 = 0 := (hG86.1 4941 (by decide)).trans hb49
            have hk86 : ∀ x, x < 700 * l + c → ar86 71 x = ar 71 x := kp_st hk49 hG86 (by decide)
            have sg86_0 := sg_st sg49 hG86 (by decide)
            have hF86 := fr_t hF49 hG86 (by decide) (by decide)
            refine to_eq (fr' := (64, [(0, .ref 49), (1, .int (nI w)), (2, .int (nI n1)), (3, .int 4)], [], gh S a b sc86 ar86 lo, ex, 0, 0)) rfl ?_
            refine to_n 2 (fr' := (66, [(0, .ref 49), (1, .int (nI w)), (2, .int (nI n1)), (3, .int 4)], [.int (nI w), .ref 49], gh S a b sc86 ar86 lo, ex, 0, 0)) rfl ?_
            refine to_cv (q := 130) (M1 := an_X10_readSum) (rest := []) rfl rfl (by decide) rfl ⟨_, rfl⟩ (hE sc86 ar86 l c49 ((e + 2) + 2) B86 hI86 (by omega) k86_4907 k86_4934 eB86 (by omega) k86_4941 hz86 (by omega)) (fun sc87 ar87 hx87 => ?_)
            obtain ⟨hI87, hG87, hu87, hr87⟩ := hx87
            have k87_4907 : sc87 4907 = nI l := (hG87.1 4907 (by decide)).trans k86_4907
            have hk87 : ∀ x, x < 700 * l + c → ar87 71 x = ar 71 x := fun x w => (hu87 x (by omega)).trans (hk86 x w)
            have hF87 := fr_t hF86 hG87 (by decide) (by decide)
            have sg87_0 := seg_ag sg86_0 hu87 (by omega)
            rcases hr87 with hb87 | ⟨hb87, hz87, c87, B87, ec87, eB87, hcc87, hBB87, hB87, hpo87, sg87⟩
            · refine to_eq (fr' := (69, [(0, .ref 49), (1, .int (nI w)), (2, .int (nI n1)), (3, .int 4)], [], gh S a b sc87 ar87 lo, ex, 0, 0)) rfl ?_
              refine to_n 2 (fr' := (71, [(0, .ref 49), (1, .int (nI w)), (2, .int (nI n1)), (3, .int 4)], [.int 4, .ref 49], gh S a b sc87 ar87 lo, ex, 0, 0)) rfl ?_
              refine to_cu (q := 126) (M1 := an_X10_emit) (rest := []) rfl rfl (by decide) rfl ⟨_, rfl⟩ (em_bad 4 hb87 (d + 4)) ?_ 
              refine to_eq (fr' := (74, [(0, .ref 49), (1, .int (nI w)), (2, .int (nI n1)), (3, .int 4)], [], gh S a b sc87 ar87 lo, ex, 0, 0)) rfl ?_
              refine to_n 1 (fr' := (75, [(0, .ref 49), (1, .int (nI w)), (2, .int (nI n1)), (3, .int 4)], [.int (nI n1)], gh S a b sc87 ar87 lo, ex, 0, 0)) rfl ?_
              refine to_nf_eq (t := 84) (x := n1) rfl (by omega) (fun q89 => ?_) (fun q89 => ?_)
              · exact to_rt (i := .return_) (tg := []) rfl rfl ⟨_, _, ⟨hI87, hF87, ⟨hk87, Or.inl hb87⟩⟩, rfl⟩
              · refine to_n 2 (fr' := (81, [(0, .ref 49), (1, .int (nI w)), (2, .int (nI n1)), (3, .int 4)], [.int 8, .ref 49], gh S a b sc87 ar87 lo, ex, 0, 0)) rfl ?_
                refine to_cu (q := 126) (M1 := an_X10_emit) (rest := []) rfl rfl (by decide) rfl ⟨_, rfl⟩ (em_bad 8 hb87 (d + 4)) ?_ 
                refine to_eq (fr' := (84, [(0, .ref 49), (1, .int (nI w)), (2, .int (nI n1)), (3, .int 4)], [], gh S a b sc87 ar87 lo, ex, 0, 0)) rfl ?_
                exact to_rt (i := .return_) (tg := []) rfl rfl ⟨_, _, ⟨hI87, hF87, ⟨hk87, Or.inl hb87⟩⟩, rfl⟩
            · refine to_eq (fr' := (69, [(0, .ref 49), (1, .int (nI w)), (2, .int (nI n1)), (3, .int 4)], [], gh S a b sc87 ar87 lo, ex, 0, 0)) rfl ?_
              refine to_n 2 (fr' := (71, [(0, .ref 49), (1, .int (nI w)), (2, .int (nI n1)), (3, .int 4)], [.int 4, .ref 49], gh S a b sc87 ar87 lo, ex, 0, 0)) rfl ?_
              refine to_cv (q := 126) (M1 := an_X10_emit) (rest := []) rfl rfl (by decide) rfl ⟨_, rfl⟩ (em_ok hW hI87 4 l c87 (by omega) (by omega) hb87 k87_4907 ec87 (d + 4)) (fun sc91 ar91 hx91 => ?_)
              obtain ⟨hI91, hG91, hs91, ha91⟩ := hx91
              have k91_4907 : sc91 4907 = (nI l) := (hG91.1 4907 (by decide)).trans k87_4907
              have k91_4939 : sc91 4939 = (nI B87) := (hG91.1 4939 (by decide)).trans eB87
              have k91_4941 : sc91 4941 = 0 := (hG91.1 4941 (by decide)).trans hb87
              have k91_4934 : sc91 4934 = nI (c87 + 1) := by rw [hs91]; exact up_eq
              have hc91 : ar91 71 = upd (ar87 71) (700 * l + c87) 4 := by rw [ha91]; rfl
              have hv91 : ar91 71 (700 * l + c87) = 4 := by rw [hc91]; exact up_eq
              have hu91 : ∀ x, x < 700 * l + c87 → ar91 71 x = ar87 71 x := fun x w => by rw [hc91]; exact up_ne (by omega)
              have hk91 : ∀ x, x < 700 * l + c → ar91 71 x = ar 71 x := fun x w => (hu91 x (by omega)).trans (hk87 x w)
              have hz91 := pz_fr hz87 hG91 (by decide) (by decide) (by decide) (by decide) (by decide)
              have hF91 := fr_t hF87 hG91 (by decide) (by decide)
              have sg91_0 := seg_ag sg87_0 hu91 (by omega)
              have sg91_1 := seg_ag sg87 hu91 (by omega)
              have sb91 : seg (ar91 71) (700 * l + c) (700 * l + (c87 + 1)) (h + 1) := seg_bin (k := 700 * l + c87) sg91_0 sg91_1 hv91 (by decide) (by decide) (by decide) (by omega) (by omega) (by omega) (by omega)
              refine to_eq (fr' := (74, [(0, .ref 49), (1, .int (nI w)), (2, .int (nI n1)), (3, .int 4)], [], gh S a b sc91 ar91 lo, ex, 0, 0)) rfl ?_
              refine to_n 1 (fr' := (75, [(0, .ref 49), (1, .int (nI w)), (2, .int (nI n1)), (3, .int 4)], [.int (nI n1)], gh S a b sc91 ar91 lo, ex, 0, 0)) rfl ?_
              refine to_nf_eq (t := 84) (x := n1) rfl (by omega) (fun q92 => ?_) (fun q92 => ?_)
              · exact to_rt (i := .return_) (tg := []) rfl rfl ⟨_, _, ⟨hI91, hF91, ⟨hk91, Or.inr ⟨k91_4941, hz91, (c87 + 1), B87, k91_4934, k91_4939, by omega, by omega, by omega, by omega, seg_le sb91 (by omega)⟩⟩⟩, rfl⟩
              · refine to_n 2 (fr' := (81, [(0, .ref 49), (1, .int (nI w)), (2, .int (nI n1)), (3, .int 4)], [.int 8, .ref 49], gh S a b sc91 ar91 lo, ex, 0, 0)) rfl ?_
                refine to_cv (q := 126) (M1 := an_X10_emit) (rest := []) rfl rfl (by decide) rfl ⟨_, rfl⟩ (em_ok hW hI91 8 l (c87 + 1) (by omega) (by omega) k91_4941 k91_4907 k91_4934 (d + 4)) (fun sc93 ar93 hx93 => ?_)
                obtain ⟨hI93, hG93, hs93, ha93⟩ := hx93
                have k93_4907 : sc93 4907 = (nI l) := (hG93.1 4907 (by decide)).trans k91_4907
                have k93_4939 : sc93 4939 = (nI B87) := (hG93.1 4939 (by decide)).trans k91_4939
                have k93_4941 : sc93 4941 = 0 := (hG93.1 4941 (by decide)).trans k91_4941
                have k93_4934 : sc93 4934 = nI ((c87 + 1) + 1) := by rw [hs93]; exact up_eq
                have hc93 : ar93 71 = upd (ar91 71) (700 * l + (c87 + 1)) 8 := by rw [ha93]; rfl
                have hv93 : ar93 71 (700 * l + (c87 + 1)) = 8 := by rw [hc93]; exact up_eq
                have hu93 : ∀ x, x < 700 * l + (c87 + 1) → ar93 71 x = ar91 71 x := fun x w => by rw [hc93]; exact up_ne (by omega)
                have hk93 : ∀ x, x < 700 * l + c → ar93 71 x = ar 71 x := fun x w => (hu93 x (by omega)).trans (hk91 x w)
                have hz93 := pz_fr hz91 hG93 (by decide) (by decide) (by decide) (by decide) (by decide)
                have hF93 := fr_t hF91 hG93 (by decide) (by decide)
                have sg93_0 := seg_ag sb91 hu93 (by omega)
                have sn93 : seg (ar93 71) (700 * l + c) (700 * l + ((c87 + 1) + 1)) (h + 1) := seg_not (j := 700 * l + (c87 + 1)) sg93_0 hv93 (by omega)
                refine to_eq (fr' := (84, [(0, .ref 49), (1, .int (nI w)), (2, .int (nI n1)), (3, .int 4)], [], gh S a b sc93 ar93 lo, ex, 0, 0)) rfl ?_
                exact to_rt (i := .return_) (tg := []) rfl rfl ⟨_, _, ⟨hI93, hF93, ⟨hk93, Or.inr ⟨k93_4941, hz93, ((c87 + 1) + 1), B87, k93_4934, k93_4939, by omega, by omega, by omega, by omega, seg_le sn93 (by omega)⟩⟩⟩, rfl⟩
set_option maxRecDepth 20000 in
theorem rd_readExpression {X : Nat × (Nat → Int32)} {S a b : Nat} {lo : Nat → Int64} {ex : Bool} (hW : Wd S a b) (w h : Nat) (hw6 : w < 6) (d : Nat) (hE : RdOk X S a b lo ex (d + 5) 129 w h) : RdOk X S a b lo ex (d + 6) 128 w (h + 1) := by
  obtain ⟨ha1, ha8, hb1, hb8, hab, hS1, hS⟩ := id hW
  intro sc ar l c e B hI hl el ec eB hB4 eb hz hp
  refine cv_of (M := an_X10_readExpression) rfl (Nat.le_of_ble_eq_true rfl) ?_
  have hF : Fr [4934, 4935, 4937, 4938, 4939, 4940, 4941, 4942] [71] sc ar sc ar := fr_0
  refine to_eq (fr' := (0, [(0, .ref 49), (1, .int (nI w))], [], gh S a b sc ar lo, ex, 0, 0)) rfl ?_
  have c67 : ∀ m : Nat, ∀ (c1 : Nat) (B1 : Nat) (sc1 : Nat → Int32) (ar1 : Nat → Nat → Int32), 401 ≤ B1 + m → sc1 4934 = nI c1 → sc1 4939 = nI B1 → sc1 4907 = nI l → sc1 4941 = 0 → Pz sc1 → (∀ x, x < 700 * l + c → ar1 71 x = ar 71 x) → c ≤ c1 → B1 ≤ 400 → 2 * c1 + e ≤ 3 * B1 + 1 → seg (ar1 71) (700 * l + c) (700 * l + c1) (h + 1) → B ≤ B1 → Iv S sc1 ar1 → Fr [4934, 4935, 4937, 4938, 4939, 4940, 4941, 4942] [71] sc ar sc1 ar1 → ag_To X (d + 5) an_X10_readExpression (67, [(0, .ref 49), (1, .int (nI w))], [], gh S a b sc1 ar1 lo, ex, 0, 0) (qv S a b lo ex (fun sc' ar' => Iv S sc' ar' ∧ Fr [4934, 4935, 4937, 4938, 4939, 4940, 4941, 4942] [71] sc ar sc' ar' ∧ ((∀ x, x < 700 * l + c → ar' 71 x = ar 71 x) ∧ Rd sc' ar' l c B e (h + 1)))) := by
    intro m
    induction m with
    | zero =>
      intro c1 B1 sc1 ar1 hm hc67_0 hc67_1 hc67_2 hc67_3 hc67_4 hc67_5 hc67_6 hc67_7 hc67_8 hc67_9 hc67_10 hI1 hF1
      exfalso
      omega
    | succ m ih =>
      intro c1 B1 sc1 ar1 hm hc67_0 hc67_1 hc67_2 hc67_3 hc67_4 hc67_5 hc67_6 hc67_7 hc67_8 hc67_9 hc67_10 hI1 hF1
      refine to_n 1 (fr' := (68, [(0, .ref 49), (1, .int (nI w))], [.ref 49], gh S a b sc1 ar1 lo, ex, 0, 0)) rfl ?_
      refine to_getR (v := 0) rfl rfl rfl rfl hc67_3 ?_
      refine to_n 3 (fr' := (77, [(0, .ref 49), (1, .int (nI w))], [.ref 1000034, .ref 49], gh S a b sc1 ar1 lo, ex, 0, 0)) rfl ?_
      refine to_cp (q := 123) (M1 := an_X10_isWord) (rest := []) rfl rfl (by decide) rfl ⟨_, rfl⟩ (sf_X10_isWord hW hI1 33 (by omega) (d + 4)) (fun x2 hx2 => ?_)
      obtain ⟨⟨n2, hn2, rfl⟩, hp2⟩ := hx2
      refine to_eq (fr' := (80, [(0, .ref 49), (1, .int (nI w))], [.int (nI n2)], gh S a b sc1 ar1 lo, ex, 0, 0)) rfl ?_
      refine to_nf_ne (t := 92) (x := n2) rfl (by omega) (fun q3 => ?_) (fun q3 => ?_)
      · refine to_n 2 (fr' := (95, [(0, .ref 49), (1, .int (nI w))], [.ref 1000034, .ref 49], gh S a b sc1 ar1 lo, ex, 0, 0)) rfl ?_
        refine to_cp (q := 123) (M1 := an_X10_isWord) (rest := []) rfl rfl (by decide) rfl ⟨_, rfl⟩ (sf_X10_isWord hW hI1 33 (by omega) (d + 4)) (fun x4 hx4 => ?_)
        obtain ⟨⟨n4, hn4, rfl⟩, hp4⟩ := hx4
        refine to_eq (fr' := (98, [(0, .ref 49), (1, .int (nI w))], [.int (nI n4)], gh S a b sc1 ar1 lo, ex, 0, 0)) rfl ?_
        refine to_nf_eq (t := 106) (x := n4) rfl (by omega) (fun q5 => ?_) (fun q5 => ?_)
        · refine to_n 3 (fr' := (110, [(0, .ref 49), (1, .int (nI w)), (3, .int 7)], [.ref 49], gh S a b sc1 ar1 lo, ex, 0, 0)) rfl ?_
          refine to_cv (q := 122) (M1 := an_X10_step) (rest := []) rfl rfl (by decide) rfl ⟨_, rfl⟩ (st_next hW hI1 hc67_1 (by omega) hc67_4 (tok_nz (iw_tok hn2 hp2 q3) (by decide)) (d + 3)) (fun sc6 ar6 hx6 => ?_)
          obtain ⟨hI6, hG6, hz6, B6, eB6, hB6, hC6⟩ := hx6
          have k6_4907 : sc6 4907 = (nI l) := (hG6.1 4907 (by decide)).trans hc67_2
          have k6_4934 : sc6 4934 = (nI c1) := (hG6.1 4934 (by decide)).trans hc67_0
          have k6_4941 : sc6 4941 = 0 := (hG6.1 4941 (by decide)).trans hc67_3
          have hk6 : ∀ x, x < 700 * l + c → ar6 71 x = ar 71 x := kp_st hc67_5 hG6 (by decide)
          have sg6_0 := sg_st hc67_9 hG6 (by decide)
          have hF6 := fr_t hF1 hG6 (by decide) (by decide)
          refine to_eq (fr' := (113, [(0, .ref 49), (1, .int (nI w)), (3, .int 7)], [], gh S a b sc6 ar6 lo, ex, 0, 0)) rfl ?_
          refine to_n 2 (fr' := (115, [(0, .ref 49), (1, .int (nI w)), (3, .int 7)], [.int (nI w), .ref 49], gh S a b sc6 ar6 lo, ex, 0, 0)) rfl ?_
          refine to_cv (q := 129) (M1 := an_X10_readTest) (rest := []) rfl rfl (by decide) rfl ⟨_, rfl⟩ (hE sc6 ar6 l c1 (e + 2) B6 hI6 (by omega) k6_4907 k6_4934 eB6 (by omega) k6_4941 hz6 (by omega)) (fun sc7 ar7 hx7 => ?_)
          obtain ⟨hI7, hG7, hu7, hr7⟩ := hx7
          have k7_4907 : sc7 4907 = nI l := (hG7.1 4907 (by decide)).trans k6_4907
          have hk7 : ∀ x, x < 700 * l + c → ar7 71 x = ar 71 x := fun x w => (hu7 x (by omega)).trans (hk6 x w)
          have hF7 := fr_t hF6 hG7 (by decide) (by decide)
          have sg7_0 := seg_ag sg6_0 hu7 (by omega)
          rcases hr7 with hb7 | ⟨hb7, hz7, c7, B7, ec7, eB7, hcc7, hBB7, hB7, hpo7, sg7⟩
          · refine to_eq (fr' := (118, [(0, .ref 49), (1, .int (nI w)), (3, .int 7)], [], gh S a b sc7 ar7 lo, ex, 0, 0)) rfl ?_
            refine to_n 2 (fr' := (120, [(0, .ref 49), (1, .int (nI w)), (3, .int 7)], [.int 7, .ref 49], gh S a b sc7 ar7 lo, ex, 0, 0)) rfl ?_
            refine to_cu (q := 126) (M1 := an_X10_emit) (rest := []) rfl rfl (by decide) rfl ⟨_, rfl⟩ (em_bad 7 hb7 (d + 4)) ?_ 
            refine to_eq (fr' := (123, [(0, .ref 49), (1, .int (nI w)), (3, .int 7)], [], gh S a b sc7 ar7 lo, ex, 0, 0)) rfl ?_
            refine to_n 2 (fr' := (68, [(0, .ref 49), (1, .int (nI w)), (3, .int 7)], [.ref 49], gh S a b sc7 ar7 lo, ex, 0, 0)) rfl ?_
            refine to_getR (v := (sc7 4941)) rfl rfl rfl rfl rfl ?_
            refine to_if_ne_T (t := 126) rfl hb7 ?_
            exact to_rt (i := .return_) (tg := []) rfl rfl ⟨_, _, ⟨hI7, hF7, ⟨hk7, Or.inl hb7⟩⟩, rfl⟩
          · refine to_eq (fr' := (118, [(0, .ref 49), (1, .int (nI w)), (3, .int 7)], [], gh S a b sc7 ar7 lo, ex, 0, 0)) rfl ?_
            refine to_n 2 (fr' := (120, [(0, .ref 49), (1, .int (nI w)), (3, .int 7)], [.int 7, .ref 49], gh S a b sc7 ar7 lo, ex, 0, 0)) rfl ?_
            refine to_cv (q := 126) (M1 := an_X10_emit) (rest := []) rfl rfl (by decide) rfl ⟨_, rfl⟩ (em_ok hW hI7 7 l c7 (by omega) (by omega) hb7 k7_4907 ec7 (d + 4)) (fun sc9 ar9 hx9 => ?_)
            obtain ⟨hI9, hG9, hs9, ha9⟩ := hx9
            have k9_4907 : sc9 4907 = (nI l) := (hG9.1 4907 (by decide)).trans k7_4907
            have k9_4939 : sc9 4939 = (nI B7) := (hG9.1 4939 (by decide)).trans eB7
            have k9_4941 : sc9 4941 = 0 := (hG9.1 4941 (by decide)).trans hb7
            have k9_4934 : sc9 4934 = nI (c7 + 1) := by rw [hs9]; exact up_eq
            have hc9 : ar9 71 = upd (ar7 71) (700 * l + c7) 7 := by rw [ha9]; rfl
            have hv9 : ar9 71 (700 * l + c7) = 7 := by rw [hc9]; exact up_eq
            have hu9 : ∀ x, x < 700 * l + c7 → ar9 71 x = ar7 71 x := fun x w => by rw [hc9]; exact up_ne (by omega)
            have hk9 : ∀ x, x < 700 * l + c → ar9 71 x = ar 71 x := fun x w => (hu9 x (by omega)).trans (hk7 x w)
            have hz9 := pz_fr hz7 hG9 (by decide) (by decide) (by decide) (by decide) (by decide)
            have hF9 := fr_t hF7 hG9 (by decide) (by decide)
            have sg9_0 := seg_ag sg7_0 hu9 (by omega)
            have sg9_1 := seg_ag sg7 hu9 (by omega)
            have sb9 : seg (ar9 71) (700 * l + c) (700 * l + (c7 + 1)) (h + 1) := seg_bin (k := 700 * l + c7) sg9_0 sg9_1 hv9 (by decide) (by decide) (by decide) (by omega) (by omega) (by omega) (by omega)
            refine to_eq (fr' := (123, [(0, .ref 49), (1, .int (nI w)), (3, .int 7)], [], gh S a b sc9 ar9 lo, ex, 0, 0)) rfl ?_
            refine to_n 1 (fr' := (67, [(0, .ref 49), (1, .int (nI w)), (3, .int 7)], [], gh S a b sc9 ar9 lo, ex, 0, 0)) rfl ?_
            refine to_lv (lv := [(0, .ref 49), (1, .int (nI w))]) rfl ⟨rfl, rfl, trivial⟩ ?_
            exact ih (c7 + 1) B7 sc9 ar9 (by omega) k9_4934 k9_4939 k9_4907 k9_4941 hz9 hk9 (by omega) (by omega) (by omega) (seg_le sb9 (by omega)) (by omega) hI9 hF9
        · refine to_n 4 (fr' := (110, [(0, .ref 49), (1, .int (nI w)), (3, .int 6)], [.ref 49], gh S a b sc1 ar1 lo, ex, 0, 0)) rfl ?_
          refine to_cv (q := 122) (M1 := an_X10_step) (rest := []) rfl rfl (by decide) rfl ⟨_, rfl⟩ (st_next hW hI1 hc67_1 (by omega) hc67_4 (tok_nz (iw_tok hn4 hp4 q5) (by decide)) (d + 3)) (fun sc10 ar10 hx10 => ?_)
          obtain ⟨hI10, hG10, hz10, B10, eB10, hB10, hC10⟩ := hx10
          have k10_4907 : sc10 4907 = (nI l) := (hG10.1 4907 (by decide)).trans hc67_2
          have k10_4934 : sc10 4934 = (nI c1) := (hG10.1 4934 (by decide)).trans hc67_0
          have k10_4941 : sc10 4941 = 0 := (hG10.1 4941 (by decide)).trans hc67_3
          have hk10 : ∀ x, x < 700 * l + c → ar10 71 x = ar 71 x := kp_st hc67_5 hG10 (by decide)
          have sg10_0 := sg_st hc67_9 hG10 (by decide)
          have hF10 := fr_t hF1 hG10 (by decide) (by decide)
          refine to_eq (fr' := (113, [(0, .ref 49), (1, .int (nI w)), (3, .int 6)], [], gh S a b sc10 ar10 lo, ex, 0, 0)) rfl ?_
          refine to_n 2 (fr' := (115, [(0, .ref 49), (1, .int (nI w)), (3, .int 6)], [.int (nI w), .ref 49], gh S a b sc10 ar10 lo, ex, 0, 0)) rfl ?_
          refine to_cv (q := 129) (M1 := an_X10_readTest) (rest := []) rfl rfl (by decide) rfl ⟨_, rfl⟩ (hE sc10 ar10 l c1 (e + 2) B10 hI10 (by omega) k10_4907 k10_4934 eB10 (by omega) k10_4941 hz10 (by omega)) (fun sc11 ar11 hx11 => ?_)
          obtain ⟨hI11, hG11, hu11, hr11⟩ := hx11
          have k11_4907 : sc11 4907 = nI l := (hG11.1 4907 (by decide)).trans k10_4907
          have hk11 : ∀ x, x < 700 * l + c → ar11 71 x = ar 71 x := fun x w => (hu11 x (by omega)).trans (hk10 x w)
          have hF11 := fr_t hF10 hG11 (by decide) (by decide)
          have sg11_0 := seg_ag sg10_0 hu11 (by omega)
          rcases hr11 with hb11 | ⟨hb11, hz11, c11, B11, ec11, eB11, hcc11, hBB11, hB11, hpo11, sg11⟩
          · refine to_eq (fr' := (118, [(0, .ref 49), (1, .int (nI w)), (3, .int 6)], [], gh S a b sc11 ar11 lo, ex, 0, 0)) rfl ?_
            refine to_n 2 (fr' := (120, [(0, .ref 49), (1, .int (nI w)), (3, .int 6)], [.int 6, .ref 49], gh S a b sc11 ar11 lo, ex, 0, 0)) rfl ?_
            refine to_cu (q := 126) (M1 := an_X10_emit) (rest := []) rfl rfl (by decide) rfl ⟨_, rfl⟩ (em_bad 6 hb11 (d + 4)) ?_ 
            refine to_eq (fr' := (123, [(0, .ref 49), (1, .int (nI w)), (3, .int 6)], [], gh S a b sc11 ar11 lo, ex, 0, 0)) rfl ?_
            refine to_n 2 (fr' := (68, [(0, .ref 49), (1, .int (nI w)), (3, .int 6)], [.ref 49], gh S a b sc11 ar11 lo, ex, 0, 0)) rfl ?_
            refine to_getR (v := (sc11 4941)) rfl rfl rfl rfl rfl ?_
            refine to_if_ne_T (t := 126) rfl hb11 ?_
            exact to_rt (i := .return_) (tg := []) rfl rfl ⟨_, _, ⟨hI11, hF11, ⟨hk11, Or.inl hb11⟩⟩, rfl⟩
          · refine to_eq (fr' := (118, [(0, .ref 49), (1, .int (nI w)), (3, .int 6)], [], gh S a b sc11 ar11 lo, ex, 0, 0)) rfl ?_
            refine to_n 2 (fr' := (120, [(0, .ref 49), (1, .int (nI w)), (3, .int 6)], [.int 6, .ref 49], gh S a b sc11 ar11 lo, ex, 0, 0)) rfl ?_
            refine to_cv (q := 126) (M1 := an_X10_emit) (rest := []) rfl rfl (by decide) rfl ⟨_, rfl⟩ (em_ok hW hI11 6 l c11 (by omega) (by omega) hb11 k11_4907 ec11 (d + 4)) (fun sc13 ar13 hx13 => ?_)
            obtain ⟨hI13, hG13, hs13, ha13⟩ := hx13
            have k13_4907 : sc13 4907 = (nI l) := (hG13.1 4907 (by decide)).trans k11_4907
            have k13_4939 : sc13 4939 = (nI B11) := (hG13.1 4939 (by decide)).trans eB11
            have k13_4941 : sc13 4941 = 0 := (hG13.1 4941 (by decide)).trans hb11
            have k13_4934 : sc13 4934 = nI (c11 + 1) := by rw [hs13]; exact up_eq
            have hc13 : ar13 71 = upd (ar11 71) (700 * l + c11) 6 := by rw [ha13]; rfl
            have hv13 : ar13 71 (700 * l + c11) = 6 := by rw [hc13]; exact up_eq
            have hu13 : ∀ x, x < 700 * l + c11 → ar13 71 x = ar11 71 x := fun x w => by rw [hc13]; exact up_ne (by omega)
            have hk13 : ∀ x, x < 700 * l + c → ar13 71 x = ar 71 x := fun x w => (hu13 x (by omega)).trans (hk11 x w)
            have hz13 := pz_fr hz11 hG13 (by decide) (by decide) (by decide) (by decide) (by decide)
            have hF13 := fr_t hF11 hG13 (by decide) (by decide)
            have sg13_0 := seg_ag sg11_0 hu13 (by omega)
            have sg13_1 := seg_ag sg11 hu13 (by omega)
            have sb13 : seg (ar13 71) (700 * l + c) (700 * l + (c11 + 1)) (h + 1) := seg_bin (k := 700 * l + c11) sg13_0 sg13_1 hv13 (by decide) (by decide) (by decide) (by omega) (by omega) (by omega) (by omega)
            refine to_eq (fr' := (123, [(0, .ref 49), (1, .int (nI w)), (3, .int 6)], [], gh S a b sc13 ar13 lo, ex, 0, 0)) rfl ?_
            refine to_n 1 (fr' := (67, [(0, .ref 49), (1, .int (nI w)), (3, .int 6)], [], gh S a b sc13 ar13 lo, ex, 0, 0)) rfl ?_
            refine to_lv (lv := [(0, .ref 49), (1, .int (nI w))]) rfl ⟨rfl, rfl, trivial⟩ ?_
            exact ih (c11 + 1) B11 sc13 ar13 (by omega) k13_4934 k13_4939 k13_4907 k13_4941 hz13 hk13 (by omega) (by omega) (by omega) (seg_le sb13 (by omega)) (by omega) hI13 hF13
      · refine to_n 2 (fr' := (86, [(0, .ref 49), (1, .int (nI w))], [.ref 1000035, .ref 49], gh S a b sc1 ar1 lo, ex, 0, 0)) rfl ?_
        refine to_cp (q := 123) (M1 := an_X10_isWord) (rest := []) rfl rfl (by decide) rfl ⟨_, rfl⟩ (sf_X10_isWord hW hI1 34 (by omega) (d + 4)) (fun x14 hx14 => ?_)
        obtain ⟨⟨n14, hn14, rfl⟩, hp14⟩ := hx14
        refine to_eq (fr' := (89, [(0, .ref 49), (1, .int (nI w))], [.int (nI n14)], gh S a b sc1 ar1 lo, ex, 0, 0)) rfl ?_
        refine to_nf_eq (t := 126) (x := n14) rfl (by omega) (fun q15 => ?_) (fun q15 => ?_)
        · exact to_rt (i := .return_) (tg := []) rfl rfl ⟨_, _, ⟨hI1, hF1, ⟨hc67_5, Or.inr ⟨hc67_3, hc67_4, c1, B1, hc67_0, hc67_1, by omega, by omega, by omega, by omega, seg_le hc67_9 (by omega)⟩⟩⟩, rfl⟩
        · refine to_n 2 (fr' := (95, [(0, .ref 49), (1, .int (nI w))], [.ref 1000034, .ref 49], gh S a b sc1 ar1 lo, ex, 0, 0)) rfl ?_
          refine to_cp (q := 123) (M1 := an_X10_isWord) (rest := []) rfl rfl (by decide) rfl ⟨_, rfl⟩ (sf_X10_isWord hW hI1 33 (by omega) (d + 4)) (fun x16 hx16 => ?_)
          obtain ⟨⟨n16, hn16, rfl⟩, hp16⟩ := hx16
          refine to_eq (fr' := (98, [(0, .ref 49), (1, .int (nI w))], [.int (nI n16)], gh S a b sc1 ar1 lo, ex, 0, 0)) rfl ?_
          refine to_nf_eq (t := 106) (x := n16) rfl (by omega) (fun q17 => ?_) (fun q17 => ?_)
          · refine to_n 3 (fr' := (110, [(0, .ref 49), (1, .int (nI w)), (3, .int 7)], [.ref 49], gh S a b sc1 ar1 lo, ex, 0, 0)) rfl ?_
            refine to_cv (q := 122) (M1 := an_X10_step) (rest := []) rfl rfl (by decide) rfl ⟨_, rfl⟩ (st_next hW hI1 hc67_1 (by omega) hc67_4 (tok_nz (iw_tok hn14 hp14 q15) (by decide)) (d + 3)) (fun sc18 ar18 hx18 => ?_)
            obtain ⟨hI18, hG18, hz18, B18, eB18, hB18, hC18⟩ := hx18
            have k18_4907 : sc18 4907 = (nI l) := (hG18.1 4907 (by decide)).trans hc67_2
            have k18_4934 : sc18 4934 = (nI c1) := (hG18.1 4934 (by decide)).trans hc67_0
            have k18_4941 : sc18 4941 = 0 := (hG18.1 4941 (by decide)).trans hc67_3
            have hk18 : ∀ x, x < 700 * l + c → ar18 71 x = ar 71 x := kp_st hc67_5 hG18 (by decide)
            have sg18_0 := sg_st hc67_9 hG18 (by decide)
            have hF18 := fr_t hF1 hG18 (by decide) (by decide)
            refine to_eq (fr' := (113, [(0, .ref 49), (1, .int (nI w)), (3, .int 7)], [], gh S a b sc18 ar18 lo, ex, 0, 0)) rfl ?_
            refine to_n 2 (fr' := (115, [(0, .ref 49), (1, .int (nI w)), (3, .int 7)], [.int (nI w), .ref 49], gh S a b sc18 ar18 lo, ex, 0, 0)) rfl ?_
            refine to_cv (q := 129) (M1 := an_X10_readTest) (rest := []) rfl rfl (by decide) rfl ⟨_, rfl⟩ (hE sc18 ar18 l c1 (e + 2) B18 hI18 (by omega) k18_4907 k18_4934 eB18 (by omega) k18_4941 hz18 (by omega)) (fun sc19 ar19 hx19 => ?_)
            obtain ⟨hI19, hG19, hu19, hr19⟩ := hx19
            have k19_4907 : sc19 4907 = nI l := (hG19.1 4907 (by decide)).trans k18_4907
            have hk19 : ∀ x, x < 700 * l + c → ar19 71 x = ar 71 x := fun x w => (hu19 x (by omega)).trans (hk18 x w)
            have hF19 := fr_t hF18 hG19 (by decide) (by decide)
            have sg19_0 := seg_ag sg18_0 hu19 (by omega)
            rcases hr19 with hb19 | ⟨hb19, hz19, c19, B19, ec19, eB19, hcc19, hBB19, hB19, hpo19, sg19⟩
            · refine to_eq (fr' := (118, [(0, .ref 49), (1, .int (nI w)), (3, .int 7)], [], gh S a b sc19 ar19 lo, ex, 0, 0)) rfl ?_
              refine to_n 2 (fr' := (120, [(0, .ref 49), (1, .int (nI w)), (3, .int 7)], [.int 7, .ref 49], gh S a b sc19 ar19 lo, ex, 0, 0)) rfl ?_
              refine to_cu (q := 126) (M1 := an_X10_emit) (rest := []) rfl rfl (by decide) rfl ⟨_, rfl⟩ (em_bad 7 hb19 (d + 4)) ?_ 
              refine to_eq (fr' := (123, [(0, .ref 49), (1, .int (nI w)), (3, .int 7)], [], gh S a b sc19 ar19 lo, ex, 0, 0)) rfl ?_
              refine to_n 2 (fr' := (68, [(0, .ref 49), (1, .int (nI w)), (3, .int 7)], [.ref 49], gh S a b sc19 ar19 lo, ex, 0, 0)) rfl ?_
              refine to_getR (v := (sc19 4941)) rfl rfl rfl rfl rfl ?_
              refine to_if_ne_T (t := 126) rfl hb19 ?_
              exact to_rt (i := .return_) (tg := []) rfl rfl ⟨_, _, ⟨hI19, hF19, ⟨hk19, Or.inl hb19⟩⟩, rfl⟩
            · refine to_eq (fr' := (118, [(0, .ref 49), (1, .int (nI w)), (3, .int 7)], [], gh S a b sc19 ar19 lo, ex, 0, 0)) rfl ?_
              refine to_n 2 (fr' := (120, [(0, .ref 49), (1, .int (nI w)), (3, .int 7)], [.int 7, .ref 49], gh S a b sc19 ar19 lo, ex, 0, 0)) rfl ?_
              refine to_cv (q := 126) (M1 := an_X10_emit) (rest := []) rfl rfl (by decide) rfl ⟨_, rfl⟩ (em_ok hW hI19 7 l c19 (by omega) (by omega) hb19 k19_4907 ec19 (d + 4)) (fun sc21 ar21 hx21 => ?_)
              obtain ⟨hI21, hG21, hs21, ha21⟩ := hx21
              have k21_4907 : sc21 4907 = (nI l) := (hG21.1 4907 (by decide)).trans k19_4907
              have k21_4939 : sc21 4939 = (nI B19) := (hG21.1 4939 (by decide)).trans eB19
              have k21_4941 : sc21 4941 = 0 := (hG21.1 4941 (by decide)).trans hb19
              have k21_4934 : sc21 4934 = nI (c19 + 1) := by rw [hs21]; exact up_eq
              have hc21 : ar21 71 = upd (ar19 71) (700 * l + c19) 7 := by rw [ha21]; rfl
              have hv21 : ar21 71 (700 * l + c19) = 7 := by rw [hc21]; exact up_eq
              have hu21 : ∀ x, x < 700 * l + c19 → ar21 71 x = ar19 71 x := fun x w => by rw [hc21]; exact up_ne (by omega)
              have hk21 : ∀ x, x < 700 * l + c → ar21 71 x = ar 71 x := fun x w => (hu21 x (by omega)).trans (hk19 x w)
              have hz21 := pz_fr hz19 hG21 (by decide) (by decide) (by decide) (by decide) (by decide)
              have hF21 := fr_t hF19 hG21 (by decide) (by decide)
              have sg21_0 := seg_ag sg19_0 hu21 (by omega)
              have sg21_1 := seg_ag sg19 hu21 (by omega)
              have sb21 : seg (ar21 71) (700 * l + c) (700 * l + (c19 + 1)) (h + 1) := seg_bin (k := 700 * l + c19) sg21_0 sg21_1 hv21 (by decide) (by decide) (by decide) (by omega) (by omega) (by omega) (by omega)
              refine to_eq (fr' := (123, [(0, .ref 49), (1, .int (nI w)), (3, .int 7)], [], gh S a b sc21 ar21 lo, ex, 0, 0)) rfl ?_
              refine to_n 1 (fr' := (67, [(0, .ref 49), (1, .int (nI w)), (3, .int 7)], [], gh S a b sc21 ar21 lo, ex, 0, 0)) rfl ?_
              refine to_lv (lv := [(0, .ref 49), (1, .int (nI w))]) rfl ⟨rfl, rfl, trivial⟩ ?_
              exact ih (c19 + 1) B19 sc21 ar21 (by omega) k21_4934 k21_4939 k21_4907 k21_4941 hz21 hk21 (by omega) (by omega) (by omega) (seg_le sb21 (by omega)) (by omega) hI21 hF21
          · refine to_n 4 (fr' := (110, [(0, .ref 49), (1, .int (nI w)), (3, .int 6)], [.ref 49], gh S a b sc1 ar1 lo, ex, 0, 0)) rfl ?_
            refine to_cv (q := 122) (M1 := an_X10_step) (rest := []) rfl rfl (by decide) rfl ⟨_, rfl⟩ (st_next hW hI1 hc67_1 (by omega) hc67_4 (tok_nz (iw_tok hn16 hp16 q17) (by decide)) (d + 3)) (fun sc22 ar22 hx22 => ?_)
            obtain ⟨hI22, hG22, hz22, B22, eB22, hB22, hC22⟩ := hx22
            have k22_4907 : sc22 4907 = (nI l) := (hG22.1 4907 (by decide)).trans hc67_2
            have k22_4934 : sc22 4934 = (nI c1) := (hG22.1 4934 (by decide)).trans hc67_0
            have k22_4941 : sc22 4941 = 0 := (hG22.1 4941 (by decide)).trans hc67_3
            have hk22 : ∀ x, x < 700 * l + c → ar22 71 x = ar 71 x := kp_st hc67_5 hG22 (by decide)
            have sg22_0 := sg_st hc67_9 hG22 (by decide)
            have hF22 := fr_t hF1 hG22 (by decide) (by decide)
            refine to_eq (fr' := (113, [(0, .ref 49), (1, .int (nI w)), (3, .int 6)], [], gh S a b sc22 ar22 lo, ex, 0, 0)) rfl ?_
            refine to_n 2 (fr' := (115, [(0, .ref 49), (1, .int (nI w)), (3, .int 6)], [.int (nI w), .ref 49], gh S a b sc22 ar22 lo, ex, 0, 0)) rfl ?_
            refine to_cv (q := 129) (M1 := an_X10_readTest) (rest := []) rfl rfl (by decide) rfl ⟨_, rfl⟩ (hE sc22 ar22 l c1 (e + 2) B22 hI22 (by omega) k22_4907 k22_4934 eB22 (by omega) k22_4941 hz22 (by omega)) (fun sc23 ar23 hx23 => ?_)
            obtain ⟨hI23, hG23, hu23, hr23⟩ := hx23
            have k23_4907 : sc23 4907 = nI l := (hG23.1 4907 (by decide)).trans k22_4907
            have hk23 : ∀ x, x < 700 * l + c → ar23 71 x = ar 71 x := fun x w => (hu23 x (by omega)).trans (hk22 x w)
            have hF23 := fr_t hF22 hG23 (by decide) (by decide)
            have sg23_0 := seg_ag sg22_0 hu23 (by omega)
            rcases hr23 with hb23 | ⟨hb23, hz23, c23, B23, ec23, eB23, hcc23, hBB23, hB23, hpo23, sg23⟩
            · refine to_eq (fr' := (118, [(0, .ref 49), (1, .int (nI w)), (3, .int 6)], [], gh S a b sc23 ar23 lo, ex, 0, 0)) rfl ?_
              refine to_n 2 (fr' := (120, [(0, .ref 49), (1, .int (nI w)), (3, .int 6)], [.int 6, .ref 49], gh S a b sc23 ar23 lo, ex, 0, 0)) rfl ?_
              refine to_cu (q := 126) (M1 := an_X10_emit) (rest := []) rfl rfl (by decide) rfl ⟨_, rfl⟩ (em_bad 6 hb23 (d + 4)) ?_ 
              refine to_eq (fr' := (123, [(0, .ref 49), (1, .int (nI w)), (3, .int 6)], [], gh S a b sc23 ar23 lo, ex, 0, 0)) rfl ?_
              refine to_n 2 (fr' := (68, [(0, .ref 49), (1, .int (nI w)), (3, .int 6)], [.ref 49], gh S a b sc23 ar23 lo, ex, 0, 0)) rfl ?_
              refine to_getR (v := (sc23 4941)) rfl rfl rfl rfl rfl ?_
              refine to_if_ne_T (t := 126) rfl hb23 ?_
              exact to_rt (i := .return_) (tg := []) rfl rfl ⟨_, _, ⟨hI23, hF23, ⟨hk23, Or.inl hb23⟩⟩, rfl⟩
            · refine to_eq (fr' := (118, [(0, .ref 49), (1, .int (nI w)), (3, .int 6)], [], gh S a b sc23 ar23 lo, ex, 0, 0)) rfl ?_
              refine to_n 2 (fr' := (120, [(0, .ref 49), (1, .int (nI w)), (3, .int 6)], [.int 6, .ref 49], gh S a b sc23 ar23 lo, ex, 0, 0)) rfl ?_
              refine to_cv (q := 126) (M1 := an_X10_emit) (rest := []) rfl rfl (by decide) rfl ⟨_, rfl⟩ (em_ok hW hI23 6 l c23 (by omega) (by omega) hb23 k23_4907 ec23 (d + 4)) (fun sc25 ar25 hx25 => ?_)
              obtain ⟨hI25, hG25, hs25, ha25⟩ := hx25
              have k25_4907 : sc25 4907 = (nI l) := (hG25.1 4907 (by decide)).trans k23_4907
              have k25_4939 : sc25 4939 = (nI B23) := (hG25.1 4939 (by decide)).trans eB23
              have k25_4941 : sc25 4941 = 0 := (hG25.1 4941 (by decide)).trans hb23
              have k25_4934 : sc25 4934 = nI (c23 + 1) := by rw [hs25]; exact up_eq
              have hc25 : ar25 71 = upd (ar23 71) (700 * l + c23) 6 := by rw [ha25]; rfl
              have hv25 : ar25 71 (700 * l + c23) = 6 := by rw [hc25]; exact up_eq
              have hu25 : ∀ x, x < 700 * l + c23 → ar25 71 x = ar23 71 x := fun x w => by rw [hc25]; exact up_ne (by omega)
              have hk25 : ∀ x, x < 700 * l + c → ar25 71 x = ar 71 x := fun x w => (hu25 x (by omega)).trans (hk23 x w)
              have hz25 := pz_fr hz23 hG25 (by decide) (by decide) (by decide) (by decide) (by decide)
              have hF25 := fr_t hF23 hG25 (by decide) (by decide)
              have sg25_0 := seg_ag sg23_0 hu25 (by omega)
              have sg25_1 := seg_ag sg23 hu25 (by omega)
              have sb25 : seg (ar25 71) (700 * l + c) (700 * l + (c23 + 1)) (h + 1) := seg_bin (k := 700 * l + c23) sg25_0 sg25_1 hv25 (by decide) (by decide) (by decide) (by omega) (by omega) (by omega) (by omega)
              refine to_eq (fr' := (123, [(0, .ref 49), (1, .int (nI w)), (3, .int 6)], [], gh S a b sc25 ar25 lo, ex, 0, 0)) rfl ?_
              refine to_n 1 (fr' := (67, [(0, .ref 49), (1, .int (nI w)), (3, .int 6)], [], gh S a b sc25 ar25 lo, ex, 0, 0)) rfl ?_
              refine to_lv (lv := [(0, .ref 49), (1, .int (nI w))]) rfl ⟨rfl, rfl, trivial⟩ ?_
              exact ih (c23 + 1) B23 sc25 ar25 (by omega) k25_4934 k25_4939 k25_4907 k25_4941 hz25 hk25 (by omega) (by omega) (by omega) (seg_le sb25 (by omega)) (by omega) hI25 hF25
  refine to_n 1 (fr' := (1, [(0, .ref 49), (1, .int (nI w))], [.ref 49], gh S a b sc ar lo, ex, 0, 0)) rfl ?_
  refine to_getR (v := (sc 4937)) rfl rfl rfl rfl rfl ?_
  refine to_n 1 (fr' := (5, [(0, .ref 49), (1, .int (nI w))], [.int 1, .int (sc 4937)], gh S a b sc ar lo, ex, 0, 0)) rfl ?_
  refine to_ic_eq (t := 25) rfl (fun q26 => ?_) (fun q26 => ?_)
  · refine to_n 7 (fr' := (46, [(0, .ref 49), (1, .int (nI w)), (2, .int 1)], [.int 6, .int (nI w)], gh S a b sc ar lo, ex, 0, 0)) rfl ?_
    refine to_nc_ne (t := 54) (x := w) (y := 6) rfl (by omega) (by omega) (fun q27 => ?_) (fun q27 => ?_)
    · refine to_n 1 (fr' := (55, [(0, .ref 49), (1, .int (nI w)), (2, .int 1)], [.ref 49], gh S a b sc ar lo, ex, 0, 0)) rfl ?_
      refine to_getR (v := 0) rfl rfl rfl rfl eb ?_
      refine to_n 3 (fr' := (64, [(0, .ref 49), (1, .int (nI w)), (2, .int 1)], [.int (nI w), .ref 49], gh S a b sc ar lo, ex, 0, 0)) rfl ?_
      refine to_cv (q := 129) (M1 := an_X10_readTest) (rest := []) rfl rfl (by decide) rfl ⟨_, rfl⟩ (hE sc ar l c e B hI (by omega) el ec eB (by omega) eb hz (by omega)) (fun sc28 ar28 hx28 => ?_)
      obtain ⟨hI28, hG28, hu28, hr28⟩ := hx28
      have k28_4907 : sc28 4907 = nI l := (hG28.1 4907 (by decide)).trans el
      have hk28 : ∀ x, x < 700 * l + c → ar28 71 x = ar 71 x := fun x w => (hu28 x (by omega)).trans ((fun _ _ => rfl) x w)
      have hF28 := fr_t hF hG28 (by decide) (by decide)
      rcases hr28 with hb28 | ⟨hb28, hz28, c28, B28, ec28, eB28, hcc28, hBB28, hB28, hpo28, sg28⟩
      · refine to_eq (fr' := (67, [(0, .ref 49), (1, .int (nI w)), (2, .int 1)], [], gh S a b sc28 ar28 lo, ex, 0, 0)) rfl ?_
        refine to_n 1 (fr' := (68, [(0, .ref 49), (1, .int (nI w)), (2, .int 1)], [.ref 49], gh S a b sc28 ar28 lo, ex, 0, 0)) rfl ?_
        refine to_getR (v := (sc28 4941)) rfl rfl rfl rfl rfl ?_
        refine to_if_ne_T (t := 126) rfl hb28 ?_
        exact to_rt (i := .return_) (tg := []) rfl rfl ⟨_, _, ⟨hI28, hF28, ⟨hk28, Or.inl hb28⟩⟩, rfl⟩
      · refine to_eq (fr' := (67, [(0, .ref 49), (1, .int (nI w)), (2, .int 1)], [], gh S a b sc28 ar28 lo, ex, 0, 0)) rfl ?_
        refine to_lv (lv := [(0, .ref 49), (1, .int (nI w))]) rfl ⟨rfl, rfl, trivial⟩ ?_
        exact c67 401 c28 B28 sc28 ar28 (by omega) ec28 eB28 k28_4907 hb28 hz28 hk28 (by omega) (by omega) (by omega) (seg_le sg28 (by omega)) (by omega) hI28 hF28
    · refine to_n 2 (fr' := (51, [(0, .ref 49), (1, .int (nI w)), (2, .int 1)], [.int 2, .ref 49], gh S a b sc ar lo, ex, 0, 0)) rfl ?_
      refine to_cv (q := 125) (M1 := an_X10_wrong) (rest := []) rfl rfl (by decide) rfl ⟨_, rfl⟩ (sf_X10_wrong hW hI 2 (d + 4)) (fun sc29 ar29 hx29 => ?_)
      obtain ⟨hI29, hG29, hx29⟩ := hx29
      have hb29 := hx29 (by decide)
      have k29_4907 : sc29 4907 = (nI l) := (hG29.1 4907 (by decide)).trans el
      have k29_4934 : sc29 4934 = (nI c) := (hG29.1 4934 (by decide)).trans ec
      have k29_4939 : sc29 4939 = (nI B) := (hG29.1 4939 (by decide)).trans eB
      have hk29 : ∀ x, x < 700 * l + c → ar29 71 x = ar 71 x := kp_st (fun _ _ => rfl) hG29 (by decide)
      have hF29 := fr_t hF hG29 (by decide) (by decide)
      refine to_eq (fr' := (54, [(0, .ref 49), (1, .int (nI w)), (2, .int 1)], [], gh S a b sc29 ar29 lo, ex, 0, 0)) rfl ?_
      refine to_n 1 (fr' := (55, [(0, .ref 49), (1, .int (nI w)), (2, .int 1)], [.ref 49], gh S a b sc29 ar29 lo, ex, 0, 0)) rfl ?_
      refine to_getR (v := (sc29 4941)) rfl rfl rfl rfl rfl ?_
      refine to_if_eq_F (t := 62) rfl hb29 ?_
      exact to_rt (i := .return_) (tg := []) rfl rfl ⟨_, _, ⟨hI29, hF29, ⟨hk29, Or.inl hb29⟩⟩, rfl⟩
  · refine to_n 1 (fr' := (9, [(0, .ref 49), (1, .int (nI w))], [.ref 49], gh S a b sc ar lo, ex, 0, 0)) rfl ?_
    refine to_getR (v := (sc 4937)) rfl rfl rfl rfl rfl ?_
    refine to_n 1 (fr' := (13, [(0, .ref 49), (1, .int (nI w))], [.int 2, .int (sc 4937)], gh S a b sc ar lo, ex, 0, 0)) rfl ?_
    refine to_ic_eq (t := 25) rfl (fun q30 => ?_) (fun q30 => ?_)
    · refine to_n 7 (fr' := (46, [(0, .ref 49), (1, .int (nI w)), (2, .int 1)], [.int 6, .int (nI w)], gh S a b sc ar lo, ex, 0, 0)) rfl ?_
      refine to_nc_ne (t := 54) (x := w) (y := 6) rfl (by omega) (by omega) (fun q31 => ?_) (fun q31 => ?_)
      · refine to_n 1 (fr' := (55, [(0, .ref 49), (1, .int (nI w)), (2, .int 1)], [.ref 49], gh S a b sc ar lo, ex, 0, 0)) rfl ?_
        refine to_getR (v := 0) rfl rfl rfl rfl eb ?_
        refine to_n 3 (fr' := (64, [(0, .ref 49), (1, .int (nI w)), (2, .int 1)], [.int (nI w), .ref 49], gh S a b sc ar lo, ex, 0, 0)) rfl ?_
        refine to_cv (q := 129) (M1 := an_X10_readTest) (rest := []) rfl rfl (by decide) rfl ⟨_, rfl⟩ (hE sc ar l c e B hI (by omega) el ec eB (by omega) eb hz (by omega)) (fun sc32 ar32 hx32 => ?_)
        obtain ⟨hI32, hG32, hu32, hr32⟩ := hx32
        have k32_4907 : sc32 4907 = nI l := (hG32.1 4907 (by decide)).trans el
        have hk32 : ∀ x, x < 700 * l + c → ar32 71 x = ar 71 x := fun x w => (hu32 x (by omega)).trans ((fun _ _ => rfl) x w)
        have hF32 := fr_t hF hG32 (by decide) (by decide)
        rcases hr32 with hb32 | ⟨hb32, hz32, c32, B32, ec32, eB32, hcc32, hBB32, hB32, hpo32, sg32⟩
        · refine to_eq (fr' := (67, [(0, .ref 49), (1, .int (nI w)), (2, .int 1)], [], gh S a b sc32 ar32 lo, ex, 0, 0)) rfl ?_
          refine to_n 1 (fr' := (68, [(0, .ref 49), (1, .int (nI w)), (2, .int 1)], [.ref 49], gh S a b sc32 ar32 lo, ex, 0, 0)) rfl ?_
          refine to_getR (v := (sc32 4941)) rfl rfl rfl rfl rfl ?_
          refine to_if_ne_T (t := 126) rfl hb32 ?_
          exact to_rt (i := .return_) (tg := []) rfl rfl ⟨_, _, ⟨hI32, hF32, ⟨hk32, Or.inl hb32⟩⟩, rfl⟩
        · refine to_eq (fr' := (67, [(0, .ref 49), (1, .int (nI w)), (2, .int 1)], [], gh S a b sc32 ar32 lo, ex, 0, 0)) rfl ?_
          refine to_lv (lv := [(0, .ref 49), (1, .int (nI w))]) rfl ⟨rfl, rfl, trivial⟩ ?_
          exact c67 401 c32 B32 sc32 ar32 (by omega) ec32 eB32 k32_4907 hb32 hz32 hk32 (by omega) (by omega) (by omega) (seg_le sg32 (by omega)) (by omega) hI32 hF32
      · refine to_n 2 (fr' := (51, [(0, .ref 49), (1, .int (nI w)), (2, .int 1)], [.int 2, .ref 49], gh S a b sc ar lo, ex, 0, 0)) rfl ?_
        refine to_cv (q := 125) (M1 := an_X10_wrong) (rest := []) rfl rfl (by decide) rfl ⟨_, rfl⟩ (sf_X10_wrong hW hI 2 (d + 4)) (fun sc33 ar33 hx33 => ?_)
        obtain ⟨hI33, hG33, hx33⟩ := hx33
        have hb33 := hx33 (by decide)
        have k33_4907 : sc33 4907 = (nI l) := (hG33.1 4907 (by decide)).trans el
        have k33_4934 : sc33 4934 = (nI c) := (hG33.1 4934 (by decide)).trans ec
        have k33_4939 : sc33 4939 = (nI B) := (hG33.1 4939 (by decide)).trans eB
        have hk33 : ∀ x, x < 700 * l + c → ar33 71 x = ar 71 x := kp_st (fun _ _ => rfl) hG33 (by decide)
        have hF33 := fr_t hF hG33 (by decide) (by decide)
        refine to_eq (fr' := (54, [(0, .ref 49), (1, .int (nI w)), (2, .int 1)], [], gh S a b sc33 ar33 lo, ex, 0, 0)) rfl ?_
        refine to_n 1 (fr' := (55, [(0, .ref 49), (1, .int (nI w)), (2, .int 1)], [.ref 49], gh S a b sc33 ar33 lo, ex, 0, 0)) rfl ?_
        refine to_getR (v := (sc33 4941)) rfl rfl rfl rfl rfl ?_
        refine to_if_eq_F (t := 62) rfl hb33 ?_
        exact to_rt (i := .return_) (tg := []) rfl rfl ⟨_, _, ⟨hI33, hF33, ⟨hk33, Or.inl hb33⟩⟩, rfl⟩
    · refine to_n 2 (fr' := (19, [(0, .ref 49), (1, .int (nI w))], [.int 40, .ref 49], gh S a b sc ar lo, ex, 0, 0)) rfl ?_
      refine to_cp (q := 124) (M1 := an_X10_isSign) (rest := []) rfl rfl (by decide) rfl ⟨_, rfl⟩ (sf_X10_isSign hW hI 40 (d + 4)) (fun x34 hx34 => ?_)
      obtain ⟨⟨n34, hn34, rfl⟩, hp34⟩ := hx34
      refine to_eq (fr' := (22, [(0, .ref 49), (1, .int (nI w))], [.int (nI n34)], gh S a b sc ar lo, ex, 0, 0)) rfl ?_
      refine to_nf_eq (t := 29) (x := n34) rfl (by omega) (fun q35 => ?_) (fun q35 => ?_)
      · refine to_n 6 (fr' := (37, [(0, .ref 49), (1, .int (nI w)), (2, .int 0)], [.int 1, .ref 49], gh S a b sc ar lo, ex, 0, 0)) rfl ?_
        refine to_cv (q := 125) (M1 := an_X10_wrong) (rest := []) rfl rfl (by decide) rfl ⟨_, rfl⟩ (sf_X10_wrong hW hI 1 (d + 4)) (fun sc36 ar36 hx36 => ?_)
        obtain ⟨hI36, hG36, hx36⟩ := hx36
        have hb36 := hx36 (by decide)
        have k36_4907 : sc36 4907 = (nI l) := (hG36.1 4907 (by decide)).trans el
        have k36_4934 : sc36 4934 = (nI c) := (hG36.1 4934 (by decide)).trans ec
        have k36_4939 : sc36 4939 = (nI B) := (hG36.1 4939 (by decide)).trans eB
        have hk36 : ∀ x, x < 700 * l + c → ar36 71 x = ar 71 x := kp_st (fun _ _ => rfl) hG36 (by decide)
        have hF36 := fr_t hF hG36 (by decide) (by decide)
        refine to_eq (fr' := (40, [(0, .ref 49), (1, .int (nI w)), (2, .int 0)], [], gh S a b sc36 ar36 lo, ex, 0, 0)) rfl ?_
        refine to_n 2 (fr' := (55, [(0, .ref 49), (1, .int (nI w)), (2, .int 0)], [.ref 49], gh S a b sc36 ar36 lo, ex, 0, 0)) rfl ?_
        refine to_getR (v := (sc36 4941)) rfl rfl rfl rfl rfl ?_
        refine to_if_eq_F (t := 62) rfl hb36 ?_
        exact to_rt (i := .return_) (tg := []) rfl rfl ⟨_, _, ⟨hI36, hF36, ⟨hk36, Or.inl hb36⟩⟩, rfl⟩
      · refine to_n 7 (fr' := (46, [(0, .ref 49), (1, .int (nI w)), (2, .int 1)], [.int 6, .int (nI w)], gh S a b sc ar lo, ex, 0, 0)) rfl ?_
        refine to_nc_ne (t := 54) (x := w) (y := 6) rfl (by omega) (by omega) (fun q37 => ?_) (fun q37 => ?_)
        · refine to_n 1 (fr' := (55, [(0, .ref 49), (1, .int (nI w)), (2, .int 1)], [.ref 49], gh S a b sc ar lo, ex, 0, 0)) rfl ?_
          refine to_getR (v := 0) rfl rfl rfl rfl eb ?_
          refine to_n 3 (fr' := (64, [(0, .ref 49), (1, .int (nI w)), (2, .int 1)], [.int (nI w), .ref 49], gh S a b sc ar lo, ex, 0, 0)) rfl ?_
          refine to_cv (q := 129) (M1 := an_X10_readTest) (rest := []) rfl rfl (by decide) rfl ⟨_, rfl⟩ (hE sc ar l c e B hI (by omega) el ec eB (by omega) eb hz (by omega)) (fun sc38 ar38 hx38 => ?_)
          obtain ⟨hI38, hG38, hu38, hr38⟩ := hx38
          have k38_4907 : sc38 4907 = nI l := (hG38.1 4907 (by decide)).trans el
          have hk38 : ∀ x, x < 700 * l + c → ar38 71 x = ar 71 x := fun x w => (hu38 x (by omega)).trans ((fun _ _ => rfl) x w)
          have hF38 := fr_t hF hG38 (by decide) (by decide)
          rcases hr38 with hb38 | ⟨hb38, hz38, c38, B38, ec38, eB38, hcc38, hBB38, hB38, hpo38, sg38⟩
          · refine to_eq (fr' := (67, [(0, .ref 49), (1, .int (nI w)), (2, .int 1)], [], gh S a b sc38 ar38 lo, ex, 0, 0)) rfl ?_
            refine to_n 1 (fr' := (68, [(0, .ref 49), (1, .int (nI w)), (2, .int 1)], [.ref 49], gh S a b sc38 ar38 lo, ex, 0, 0)) rfl ?_
            refine to_getR (v := (sc38 4941)) rfl rfl rfl rfl rfl ?_
            refine to_if_ne_T (t := 126) rfl hb38 ?_
            exact to_rt (i := .return_) (tg := []) rfl rfl ⟨_, _, ⟨hI38, hF38, ⟨hk38, Or.inl hb38⟩⟩, rfl⟩
          · refine to_eq (fr' := (67, [(0, .ref 49), (1, .int (nI w)), (2, .int 1)], [], gh S a b sc38 ar38 lo, ex, 0, 0)) rfl ?_
            refine to_lv (lv := [(0, .ref 49), (1, .int (nI w))]) rfl ⟨rfl, rfl, trivial⟩ ?_
            exact c67 401 c38 B38 sc38 ar38 (by omega) ec38 eB38 k38_4907 hb38 hz38 hk38 (by omega) (by omega) (by omega) (seg_le sg38 (by omega)) (by omega) hI38 hF38
        · refine to_n 2 (fr' := (51, [(0, .ref 49), (1, .int (nI w)), (2, .int 1)], [.int 2, .ref 49], gh S a b sc ar lo, ex, 0, 0)) rfl ?_
          refine to_cv (q := 125) (M1 := an_X10_wrong) (rest := []) rfl rfl (by decide) rfl ⟨_, rfl⟩ (sf_X10_wrong hW hI 2 (d + 4)) (fun sc39 ar39 hx39 => ?_)
          obtain ⟨hI39, hG39, hx39⟩ := hx39
          have hb39 := hx39 (by decide)
          have k39_4907 : sc39 4907 = (nI l) := (hG39.1 4907 (by decide)).trans el
          have k39_4934 : sc39 4934 = (nI c) := (hG39.1 4934 (by decide)).trans ec
          have k39_4939 : sc39 4939 = (nI B) := (hG39.1 4939 (by decide)).trans eB
          have hk39 : ∀ x, x < 700 * l + c → ar39 71 x = ar 71 x := kp_st (fun _ _ => rfl) hG39 (by decide)
          have hF39 := fr_t hF hG39 (by decide) (by decide)
          refine to_eq (fr' := (54, [(0, .ref 49), (1, .int (nI w)), (2, .int 1)], [], gh S a b sc39 ar39 lo, ex, 0, 0)) rfl ?_
          refine to_n 1 (fr' := (55, [(0, .ref 49), (1, .int (nI w)), (2, .int 1)], [.ref 49], gh S a b sc39 ar39 lo, ex, 0, 0)) rfl ?_
          refine to_getR (v := (sc39 4941)) rfl rfl rfl rfl rfl ?_
          refine to_if_eq_F (t := 62) rfl hb39 ?_
          exact to_rt (i := .return_) (tg := []) rfl rfl ⟨_, _, ⟨hI39, hF39, ⟨hk39, Or.inl hb39⟩⟩, rfl⟩
