/-! the reference: rows of houses between the fire and the told one -/
theorem up_ne {f : Nat → Int32} {i j : Nat} {v : Int32} (h : ¬ j = i) : upd f i v j = f j := by
  unfold upd
  rw [if_neg h]
theorem up_eq {f : Nat → Int32} {i : Nat} {v : Int32} : upd f i v i = v := by
  unfold upd
  rw [if_pos rfl]
/-- how many of the first n are -2 -/
def cn2 (f : Nat → Int32) : Nat → Nat
  | 0 => 0
  | n + 1 => cn2 f n + if f n = -2 then 1 else 0
theorem cn2_le (f : Nat → Int32) : ∀ n, cn2 f n ≤ n
  | 0 => Nat.le_refl _
  | n + 1 => by
    have := cn2_le f n
    unfold cn2
    split <;> omega
theorem cn2_off {f : Nat → Int32} {i : Nat} {v : Int32} : ∀ n, n ≤ i → cn2 (upd f i v) n = cn2 f n
  | 0, _ => rfl
  | n + 1, h => by
    unfold cn2
    rw [cn2_off n (by omega), up_ne (by omega)]
theorem cn2_up {f : Nat → Int32} {i : Nat} {v : Int32} (h1 : f i = -2) (h2 : ¬ v = -2) : ∀ n, i < n → cn2 (upd f i v) n + 1 = cn2 f n
  | 0, h => absurd h (Nat.not_lt_zero _)
  | n + 1, h => by
    unfold cn2
    by_cases e : i = n
    · subst e
      rw [cn2_off i (Nat.le_refl _), up_eq, if_neg h2, if_pos h1]
    · have := cn2_up h1 h2 n (by omega)
      rw [up_ne (fun w => e w.symm)]
      omega
/-- what the queue says of where each node was come from -/
def Od (fr qu : Nat → Int32) (T : Nat) : Prop := ∀ i, i < T → ¬ fr (qu i).toNatClampNeg = -2 ∧ (fr (qu i).toNatClampNeg = -1 ∨ ∃ j, j < i ∧ fr (qu i).toNatClampNeg = qu j)
theorem Od.none {fr qu : Nat → Int32} : Od fr qu 0 := fun i h => absurd h (Nat.not_lt_zero _)
theorem Od.put {fr qu : Nat → Int32} {T x : Nat} {v : Int32} (h : Od fr qu T) (hx : x < 128) (hf : fr x = -2) (hv : ¬ v = -2) (hw : v = -1 ∨ ∃ j, j < T ∧ v = qu j) : Od (upd fr x v) (upd qu T (nI x)) (T + 1) := by
  intro i hi
  by_cases e : i = T
  · subst e
    rw [up_eq, nI_clamp (by omega), up_eq]
    refine ⟨hv, hw.imp id (fun ⟨j, h1, h2⟩ => ⟨j, h1, ?_⟩)⟩
    rw [up_ne (by omega)]
    exact h2
  · obtain ⟨g1, g2⟩ := h i (by omega)
    rw [up_ne e]
    have hne : ¬ (qu i).toNatClampNeg = x := fun w => g1 (w ▸ hf)
    rw [up_ne hne]
    refine ⟨g1, g2.imp id (fun ⟨j, h1, h2⟩ => ⟨j, h1, ?_⟩)⟩
    rw [up_ne (by omega)]
    exact h2
theorem Qc.put {fr : Nat → Int32} {T x : Nat} {v : Int32} (h : T + cn2 fr 128 ≤ 128) (hx : x < 128) (hf : fr x = -2) (hv : ¬ v = -2) : T + 1 + cn2 (upd fr x v) 128 ≤ 128 := by
  have := cn2_up hf hv 128 hx
  omega
theorem Qc.room {fr : Nat → Int32} {T x : Nat} (h : T + cn2 fr 128 ≤ 128) (hx : x < 128) (hf : fr x = -2) : T < 128 := by
  have := cn2_up (v := 0) hf (by decide) 128 hx
  omega
set_option maxRecDepth 20000 in
theorem sf_X10_trace {X : Nat × (Nat → Int32)} {S a b : Nat} {sc : Nat → Int32} {ar : Nat → Nat → Int32} {lo : Nat → Int64} {ex : Bool} (hW : Wd S a b) (hI : Iv S sc ar) (k1 : Nat) (hk1 : k1 < 128) (x1 : Int32) (rk : Nat → Nat) (hk64 : 64 ≤ k1) (hkd : k1 % 64 < S) (hR : TR S (ar 80) rk) (hs : ¬ ar 80 k1 = -2) (d : Nat)  : cv X S a b (d + 1) 163 [.ref 49, .int (nI k1), .int x1] sc ar lo ex (fun sc' ar' => Iv S sc' ar' ∧ Fr [] [79, 82, 83, 84] sc ar sc' ar' ∧ TP S (ar 80) rk k1 x1 (ar 79) (ar 82) (ar 83) (ar' 79) (ar' 82) (ar' 83)) := by
  obtain ⟨ha1, ha8, hb1, hb8, hab, hS1, hS⟩ := id hW
  refine cv_of (M := an_X10_trace) rfl (Nat.le_of_ble_eq_true rfl) ?_
  have hF : Fr [] [79, 82, 83, 84] sc ar sc ar := fr_0
  refine to_eq (fr' := (0, [(0, .ref 49), (1, .int (nI k1)), (2, .int x1)], [], gh S a b sc ar lo, ex, 0, 0)) rfl ?_
  have c183 : ∀ m : Nat, ∀ (n : Nat) (i : Nat) (sc1 : Nat → Int32) (ar1 : Nat → Nat → Int32), i ≤ m → i < n → ZWw S (ar 80) rk k1 n → (∀ j, j < n → ar1 84 j = nI (zwa (ar 80) k1 j)) → (∃ f1 o1 a1 : Nat → Int32, T1 n 0 (zwa (ar 80) k1) (ar 79) (ar 82) (ar 83) f1 o1 a1 ∧ T2 n i (zwa (ar 80) k1) f1 o1 a1 (ar1 79) (ar1 82) (ar1 83)) → Iv S sc1 ar1 → Fr [] [79, 82, 83, 84] sc ar sc1 ar1 → ag_To X d an_X10_trace (183, [(0, .ref 49), (1, .int (nI k1)), (2, .int x1), (3, .int (nI n)), (4, .int (nI i))], [], gh S a b sc1 ar1 lo, ex, 0, 0) (qv S a b lo ex (fun sc' ar' => Iv S sc' ar' ∧ Fr [] [79, 82, 83, 84] sc ar sc' ar' ∧ TP S (ar 80) rk k1 x1 (ar 79) (ar 82) (ar 83) (ar' 79) (ar' 82) (ar' 83))) := by
    intro m
    induction m with
    | zero =>
      intro n i sc1 ar1 hm hc183_0 hc183_1 hc183_2 hc183_3 hI1 hF1
      obtain ⟨hw1, hw2, hw3, hw4⟩ := id hc183_1
      have g1 := hw3.1 i (by omega)
      have g2 := hw3.1 (i - 1) (by omega)
      refine to_n 1 (fr' := (185, [(0, .ref 49), (1, .int (nI k1)), (2, .int x1), (3, .int (nI n)), (4, .int (nI i))], [.int (nI i)], gh S a b sc1 ar1 lo, ex, 0, 0)) rfl ?_
      refine to_nf_le_T (t := 300) (x := i) rfl (by omega) (by omega) ?_
      refine to_n 1 (fr' := (301, [(0, .ref 49), (1, .int (nI k1)), (2, .int x1), (3, .int (nI n)), (4, .int (nI i))], [.ref 49], gh S a b sc1 ar1 lo, ex, 0, 0)) rfl ?_
      refine to_get rfl rfl rfl rfl ?_
      refine to_n 2 (fr' := (307, [(0, .ref 49), (1, .int (nI k1)), (2, .int x1), (3, .int (nI n)), (4, .int (nI i))], [.int 64, .int (nI k1), .ref 82], gh S a b sc1 ar1 lo, ex, 0, 0)) rfl ?_
      refine to_subN (x := k1) (y := 64) rfl (by omega) ?_
      refine to_n 1 (fr' := (309, [(0, .ref 49), (1, .int (nI k1)), (2, .int x1), (3, .int (nI n)), (4, .int (nI i))], [.int x1, .int (nI (k1 - 64)), .ref 82], gh S a b sc1 ar1 lo, ex, 0, 0)) rfl ?_
      refine to_iasR (i := (k1 - 64)) (h' := gh S a b sc1 (uA ar1 82 (upd (ar1 82) (k1 - 64) x1)) lo) rfl rfl (by omega) (by omega) rfl ?_
      have hI2 := ia_82 (g := (upd (ar1 82) (k1 - 64) x1)) hI1
      have hF2 := fr_a (c := 82) (g := (upd (ar1 82) (k1 - 64) x1)) hF1 (by decide)
      exact to_rt (i := .return_) (tg := []) rfl rfl ⟨_, _, ⟨hI2, hF2, (by obtain ⟨f9, o9, a9, u9, v9⟩ := hc183_3; have e9 : i = 0 := (by omega); subst e9; exact ⟨n, f9, o9, a9, _, hc183_1, u9, v9, rfl⟩)⟩, rfl⟩
    | succ m ih =>
      intro n i sc1 ar1 hm hc183_0 hc183_1 hc183_2 hc183_3 hI1 hF1
      obtain ⟨hw1, hw2, hw3, hw4⟩ := id hc183_1
      have g1 := hw3.1 i (by omega)
      have g2 := hw3.1 (i - 1) (by omega)
      refine to_n 1 (fr' := (185, [(0, .ref 49), (1, .int (nI k1)), (2, .int x1), (3, .int (nI n)), (4, .int (nI i))], [.int (nI i)], gh S a b sc1 ar1 lo, ex, 0, 0)) rfl ?_
      refine to_nf_le (t := 300) (x := i) rfl (by omega) (fun q3 => ?_) (fun q3 => ?_)
      · refine to_n 1 (fr' := (301, [(0, .ref 49), (1, .int (nI k1)), (2, .int x1), (3, .int (nI n)), (4, .int (nI i))], [.ref 49], gh S a b sc1 ar1 lo, ex, 0, 0)) rfl ?_
        refine to_get rfl rfl rfl rfl ?_
        refine to_n 2 (fr' := (307, [(0, .ref 49), (1, .int (nI k1)), (2, .int x1), (3, .int (nI n)), (4, .int (nI i))], [.int 64, .int (nI k1), .ref 82], gh S a b sc1 ar1 lo, ex, 0, 0)) rfl ?_
        refine to_subN (x := k1) (y := 64) rfl (by omega) ?_
        refine to_n 1 (fr' := (309, [(0, .ref 49), (1, .int (nI k1)), (2, .int x1), (3, .int (nI n)), (4, .int (nI i))], [.int x1, .int (nI (k1 - 64)), .ref 82], gh S a b sc1 ar1 lo, ex, 0, 0)) rfl ?_
        refine to_iasR (i := (k1 - 64)) (h' := gh S a b sc1 (uA ar1 82 (upd (ar1 82) (k1 - 64) x1)) lo) rfl rfl (by omega) (by omega) rfl ?_
        have hI4 := ia_82 (g := (upd (ar1 82) (k1 - 64) x1)) hI1
        have hF4 := fr_a (c := 82) (g := (upd (ar1 82) (k1 - 64) x1)) hF1 (by decide)
        exact to_rt (i := .return_) (tg := []) rfl rfl ⟨_, _, ⟨hI4, hF4, (by obtain ⟨f9, o9, a9, u9, v9⟩ := hc183_3; have e9 : i = 0 := (by omega); subst e9; exact ⟨n, f9, o9, a9, _, hc183_1, u9, v9, rfl⟩)⟩, rfl⟩
      · refine to_n 1 (fr' := (189, [(0, .ref 49), (1, .int (nI k1)), (2, .int x1), (3, .int (nI n)), (4, .int (nI i))], [.ref 49], gh S a b sc1 ar1 lo, ex, 0, 0)) rfl ?_
        refine to_get rfl rfl rfl rfl ?_
        refine to_n 1 (fr' := (194, [(0, .ref 49), (1, .int (nI k1)), (2, .int x1), (3, .int (nI n)), (4, .int (nI i))], [.int (nI i), .ref 84], gh S a b sc1 ar1 lo, ex, 0, 0)) rfl ?_
        refine to_ialR (i := i) (v := (nI (zwa (ar 80) k1 i))) rfl (by decide) rfl (by omega) (by omega) (hc183_2 i (by omega)) ?_
        refine to_n 2 (fr' := (198, [(0, .ref 49), (1, .int (nI k1)), (2, .int x1), (3, .int (nI n)), (4, .int (nI i)), (5, .int (nI (zwa (ar 80) k1 i)))], [.ref 49], gh S a b sc1 ar1 lo, ex, 0, 0)) rfl ?_
        refine to_get rfl rfl rfl rfl ?_
        refine to_n 2 (fr' := (204, [(0, .ref 49), (1, .int (nI k1)), (2, .int x1), (3, .int (nI n)), (4, .int (nI i)), (5, .int (nI (zwa (ar 80) k1 i)))], [.int 1, .int (nI i), .ref 84], gh S a b sc1 ar1 lo, ex, 0, 0)) rfl ?_
        refine to_subN (x := i) (y := 1) rfl (by omega) ?_
        refine to_ialR (i := (i - 1)) (v := (nI (zwa (ar 80) k1 (i - 1)))) rfl (by decide) rfl (by omega) (by omega) (hc183_2 (i - 1) (by omega)) ?_
        refine to_n 3 (fr' := (212, [(0, .ref 49), (1, .int (nI k1)), (2, .int x1), (3, .int (nI n)), (4, .int (nI i)), (5, .int (nI (zwa (ar 80) k1 i))), (6, .int (nI (zwa (ar 80) k1 (i - 1))))], [.int 64, .int (nI (zwa (ar 80) k1 i))], gh S a b sc1 ar1 lo, ex, 0, 0)) rfl ?_
        refine to_nc_ge (t := 243) (x := (zwa (ar 80) k1 i)) (y := 64) rfl (by omega) (by omega) (fun q5 => ?_) (fun q5 => ?_)
        · refine to_n 2 (fr' := (247, [(0, .ref 49), (1, .int (nI k1)), (2, .int x1), (3, .int (nI n)), (4, .int (nI i)), (5, .int (nI (zwa (ar 80) k1 i))), (6, .int (nI (zwa (ar 80) k1 (i - 1))))], [.int 64, .int (nI (zwa (ar 80) k1 i))], gh S a b sc1 ar1 lo, ex, 0, 0)) rfl ?_
          refine to_nc_lt_F (t := 294) (x := (zwa (ar 80) k1 i)) (y := 64) rfl (by omega) (by omega) (by omega) ?_
          refine to_n 2 (fr' := (254, [(0, .ref 49), (1, .int (nI k1)), (2, .int x1), (3, .int (nI n)), (4, .int (nI i)), (5, .int (nI (zwa (ar 80) k1 i))), (6, .int (nI (zwa (ar 80) k1 (i - 1))))], [.int 64, .int (nI (zwa (ar 80) k1 (i - 1)))], gh S a b sc1 ar1 lo, ex, 0, 0)) rfl ?_
          refine to_nc_ge (t := 294) (x := (zwa (ar 80) k1 (i - 1))) (y := 64) rfl (by omega) (by omega) (fun q6 => ?_) (fun q6 => ?_)
          · refine to_n 1 (fr' := (297, [(0, .ref 49), (1, .int (nI k1)), (2, .int x1), (3, .int (nI n)), (4, .int ((nI i) + (-1))), (5, .int (nI (zwa (ar 80) k1 i))), (6, .int (nI (zwa (ar 80) k1 (i - 1))))], [], gh S a b sc1 ar1 lo, ex, 0, 0)) rfl ?_
            rw [nI_dec (show 1 ≤ i by omega)]
            refine to_n 1 (fr' := (183, [(0, .ref 49), (1, .int (nI k1)), (2, .int x1), (3, .int (nI n)), (4, .int (nI (i - 1))), (5, .int (nI (zwa (ar 80) k1 i))), (6, .int (nI (zwa (ar 80) k1 (i - 1))))], [], gh S a b sc1 ar1 lo, ex, 0, 0)) rfl ?_
            refine to_lv (lv := [(0, .ref 49), (1, .int (nI k1)), (2, .int x1), (3, .int (nI n)), (4, .int (nI (i - 1)))]) rfl ⟨rfl, rfl, rfl, rfl, rfl, trivial⟩ ?_
            exact ih n (i - 1) sc1 ar1 (by omega) (by omega) hc183_1 hc183_2 (by obtain ⟨f9, o9, a9, u9, v9⟩ := hc183_3; exact ⟨f9, o9, a9, u9, t2_n v9 (by omega) g1.1 g2.1 (by omega) (by omega)⟩) hI1 hF1
          · refine to_n 2 (fr' := (261, [(0, .ref 49), (1, .int (nI k1)), (2, .int x1), (3, .int (nI n)), (4, .int (nI i)), (5, .int (nI (zwa (ar 80) k1 i))), (6, .int (nI (zwa (ar 80) k1 (i - 1))))], [.int 64, .int (nI (zwa (ar 80) k1 i))], gh S a b sc1 ar1 lo, ex, 0, 0)) rfl ?_
            refine to_remN (x := (zwa (ar 80) k1 i)) (y := 64) rfl (by omega) (by omega) (by omega) ?_
            refine to_n 2 (fr' := (266, [(0, .ref 49), (1, .int (nI k1)), (2, .int x1), (3, .int (nI n)), (4, .int (nI i)), (5, .int (nI (zwa (ar 80) k1 i))), (6, .int (nI (zwa (ar 80) k1 (i - 1))))], [.int 64, .int (nI (zwa (ar 80) k1 (i - 1))), .int (nI ((zwa (ar 80) k1 i) % 64))], gh S a b sc1 ar1 lo, ex, 0, 0)) rfl ?_
            refine to_remN (x := (zwa (ar 80) k1 (i - 1))) (y := 64) rfl (by omega) (by omega) (by omega) ?_
            refine to_nc_eq (t := 294) (x := ((zwa (ar 80) k1 i) % 64)) (y := ((zwa (ar 80) k1 (i - 1)) % 64)) rfl (by omega) (by omega) (fun q7 => ?_) (fun q7 => ?_)
            · refine to_n 1 (fr' := (297, [(0, .ref 49), (1, .int (nI k1)), (2, .int x1), (3, .int (nI n)), (4, .int ((nI i) + (-1))), (5, .int (nI (zwa (ar 80) k1 i))), (6, .int (nI (zwa (ar 80) k1 (i - 1))))], [], gh S a b sc1 ar1 lo, ex, 0, 0)) rfl ?_
              rw [nI_dec (show 1 ≤ i by omega)]
              refine to_n 1 (fr' := (183, [(0, .ref 49), (1, .int (nI k1)), (2, .int x1), (3, .int (nI n)), (4, .int (nI (i - 1))), (5, .int (nI (zwa (ar 80) k1 i))), (6, .int (nI (zwa (ar 80) k1 (i - 1))))], [], gh S a b sc1 ar1 lo, ex, 0, 0)) rfl ?_
              refine to_lv (lv := [(0, .ref 49), (1, .int (nI k1)), (2, .int x1), (3, .int (nI n)), (4, .int (nI (i - 1)))]) rfl ⟨rfl, rfl, rfl, rfl, rfl, trivial⟩ ?_
              exact ih n (i - 1) sc1 ar1 (by omega) (by omega) hc183_1 hc183_2 (by obtain ⟨f9, o9, a9, u9, v9⟩ := hc183_3; exact ⟨f9, o9, a9, u9, t2_n v9 (by omega) g1.1 g2.1 (by omega) (by omega)⟩) hI1 hF1
            · refine to_n 1 (fr' := (271, [(0, .ref 49), (1, .int (nI k1)), (2, .int x1), (3, .int (nI n)), (4, .int (nI i)), (5, .int (nI (zwa (ar 80) k1 i))), (6, .int (nI (zwa (ar 80) k1 (i - 1))))], [.ref 49], gh S a b sc1 ar1 lo, ex, 0, 0)) rfl ?_
              refine to_get rfl rfl rfl rfl ?_
              refine to_n 2 (fr' := (278, [(0, .ref 49), (1, .int (nI k1)), (2, .int x1), (3, .int (nI n)), (4, .int (nI i)), (5, .int (nI (zwa (ar 80) k1 i))), (6, .int (nI (zwa (ar 80) k1 (i - 1))))], [.int 64, .int (nI (zwa (ar 80) k1 i)), .ref 82], gh S a b sc1 ar1 lo, ex, 0, 0)) rfl ?_
              refine to_subN (x := (zwa (ar 80) k1 i)) (y := 64) rfl (by omega) ?_
              refine to_n 1 (fr' := (281, [(0, .ref 49), (1, .int (nI k1)), (2, .int x1), (3, .int (nI n)), (4, .int (nI i)), (5, .int (nI (zwa (ar 80) k1 i))), (6, .int (nI (zwa (ar 80) k1 (i - 1))))], [.int (nI (zwa (ar 80) k1 (i - 1))), .int (nI ((zwa (ar 80) k1 i) - 64)), .ref 82], gh S a b sc1 ar1 lo, ex, 0, 0)) rfl ?_
              refine to_iasR (i := ((zwa (ar 80) k1 i) - 64)) (h' := gh S a b sc1 (uA ar1 82 (upd (ar1 82) ((zwa (ar 80) k1 i) - 64) (nI (zwa (ar 80) k1 (i - 1))))) lo) rfl rfl (by omega) (by omega) rfl ?_
              have hI8 := ia_82 (g := (upd (ar1 82) ((zwa (ar 80) k1 i) - 64) (nI (zwa (ar 80) k1 (i - 1))))) hI1
              have hF8 := fr_a (c := 82) (g := (upd (ar1 82) ((zwa (ar 80) k1 i) - 64) (nI (zwa (ar 80) k1 (i - 1))))) hF1 (by decide)
              refine to_n 1 (fr' := (283, [(0, .ref 49), (1, .int (nI k1)), (2, .int x1), (3, .int (nI n)), (4, .int (nI i)), (5, .int (nI (zwa (ar 80) k1 i))), (6, .int (nI (zwa (ar 80) k1 (i - 1))))], [.ref 49], gh S a b sc1 (uA ar1 82 (upd (ar1 82) ((zwa (ar 80) k1 i) - 64) (nI (zwa (ar 80) k1 (i - 1))))) lo, ex, 0, 0)) rfl ?_
              refine to_get rfl rfl rfl rfl ?_
              refine to_n 3 (fr' := (292, [(0, .ref 49), (1, .int (nI k1)), (2, .int x1), (3, .int (nI n)), (4, .int (nI i)), (5, .int (nI (zwa (ar 80) k1 i))), (6, .int (nI (zwa (ar 80) k1 (i - 1))))], [.int 64, .int (nI (zwa (ar 80) k1 i)), .int (nI (zwa (ar 80) k1 (i - 1))), .ref 83], gh S a b sc1 (uA ar1 82 (upd (ar1 82) ((zwa (ar 80) k1 i) - 64) (nI (zwa (ar 80) k1 (i - 1))))) lo, ex, 0, 0)) rfl ?_
              refine to_subN (x := (zwa (ar 80) k1 i)) (y := 64) rfl (by omega) ?_
              refine to_iasR (i := (zwa (ar 80) k1 (i - 1))) (h' := gh S a b sc1 (uA (uA ar1 82 (upd (ar1 82) ((zwa (ar 80) k1 i) - 64) (nI (zwa (ar 80) k1 (i - 1))))) 83 (upd ((uA ar1 82 (upd (ar1 82) ((zwa (ar 80) k1 i) - 64) (nI (zwa (ar 80) k1 (i - 1))))) 83) (zwa (ar 80) k1 (i - 1)) (nI ((zwa (ar 80) k1 i) - 64)))) lo) rfl rfl (by omega) (by omega) rfl ?_
              have hI9 := ia_83 (i := (zwa (ar 80) k1 (i - 1))) (v := (nI ((zwa (ar 80) k1 i) - 64))) hI8 (rq_n (n := ((zwa (ar 80) k1 i) - 64)) (by omega))
              have hF9 := fr_a (c := 83) (g := (upd ((uA ar1 82 (upd (ar1 82) ((zwa (ar 80) k1 i) - 64) (nI (zwa (ar 80) k1 (i - 1))))) 83) (zwa (ar 80) k1 (i - 1)) (nI ((zwa (ar 80) k1 i) - 64)))) hF8 (by decide)
              refine to_n 1 (fr' := (297, [(0, .ref 49), (1, .int (nI k1)), (2, .int x1), (3, .int (nI n)), (4, .int ((nI i) + (-1))), (5, .int (nI (zwa (ar 80) k1 i))), (6, .int (nI (zwa (ar 80) k1 (i - 1))))], [], gh S a b sc1 (uA (uA ar1 82 (upd (ar1 82) ((zwa (ar 80) k1 i) - 64) (nI (zwa (ar 80) k1 (i - 1))))) 83 (upd ((uA ar1 82 (upd (ar1 82) ((zwa (ar 80) k1 i) - 64) (nI (zwa (ar 80) k1 (i - 1))))) 83) (zwa (ar 80) k1 (i - 1)) (nI ((zwa (ar 80) k1 i) - 64)))) lo, ex, 0, 0)) rfl ?_
              rw [nI_dec (show 1 ≤ i by omega)]
              refine to_n 1 (fr' := (183, [(0, .ref 49), (1, .int (nI k1)), (2, .int x1), (3, .int (nI n)), (4, .int (nI (i - 1))), (5, .int (nI (zwa (ar 80) k1 i))), (6, .int (nI (zwa (ar 80) k1 (i - 1))))], [], gh S a b sc1 (uA (uA ar1 82 (upd (ar1 82) ((zwa (ar 80) k1 i) - 64) (nI (zwa (ar 80) k1 (i - 1))))) 83 (upd ((uA ar1 82 (upd (ar1 82) ((zwa (ar 80) k1 i) - 64) (nI (zwa (ar 80) k1 (i - 1))))) 83) (zwa (ar 80) k1 (i - 1)) (nI ((zwa (ar 80) k1 i) - 64)))) lo, ex, 0, 0)) rfl ?_
              refine to_lv (lv := [(0, .ref 49), (1, .int (nI k1)), (2, .int x1), (3, .int (nI n)), (4, .int (nI (i - 1)))]) rfl ⟨rfl, rfl, rfl, rfl, rfl, trivial⟩ ?_
              exact ih n (i - 1) sc1 (uA (uA ar1 82 (upd (ar1 82) ((zwa (ar 80) k1 i) - 64) (nI (zwa (ar 80) k1 (i - 1))))) 83 (upd ((uA ar1 82 (upd (ar1 82) ((zwa (ar 80) k1 i) - 64) (nI (zwa (ar 80) k1 (i - 1))))) 83) (zwa (ar 80) k1 (i - 1)) (nI ((zwa (ar 80) k1 i) - 64)))) (by omega) (by omega) hc183_1 hc183_2 (by obtain ⟨f9, o9, a9, u9, v9⟩ := hc183_3; exact ⟨f9, o9, a9, u9, t2_l (fun i9 j9 a9 b9 e9 => zw_inj hc183_1 a9 b9 e9) v9 (by omega) (by omega) g1.1 (by omega) (by omega) (by omega)⟩) hI9 hF9
        · refine to_n 2 (fr' := (219, [(0, .ref 49), (1, .int (nI k1)), (2, .int x1), (3, .int (nI n)), (4, .int (nI i)), (5, .int (nI (zwa (ar 80) k1 i))), (6, .int (nI (zwa (ar 80) k1 (i - 1))))], [.int 64, .int (nI (zwa (ar 80) k1 (i - 1)))], gh S a b sc1 ar1 lo, ex, 0, 0)) rfl ?_
          refine to_nc_lt (t := 243) (x := (zwa (ar 80) k1 (i - 1))) (y := 64) rfl (by omega) (by omega) (fun q10 => ?_) (fun q10 => ?_)
          · refine to_n 2 (fr' := (247, [(0, .ref 49), (1, .int (nI k1)), (2, .int x1), (3, .int (nI n)), (4, .int (nI i)), (5, .int (nI (zwa (ar 80) k1 i))), (6, .int (nI (zwa (ar 80) k1 (i - 1))))], [.int 64, .int (nI (zwa (ar 80) k1 i))], gh S a b sc1 ar1 lo, ex, 0, 0)) rfl ?_
            refine to_nc_lt_T (t := 294) (x := (zwa (ar 80) k1 i)) (y := 64) rfl (by omega) (by omega) (by omega) ?_
            refine to_n 1 (fr' := (297, [(0, .ref 49), (1, .int (nI k1)), (2, .int x1), (3, .int (nI n)), (4, .int ((nI i) + (-1))), (5, .int (nI (zwa (ar 80) k1 i))), (6, .int (nI (zwa (ar 80) k1 (i - 1))))], [], gh S a b sc1 ar1 lo, ex, 0, 0)) rfl ?_
            rw [nI_dec (show 1 ≤ i by omega)]
            refine to_n 1 (fr' := (183, [(0, .ref 49), (1, .int (nI k1)), (2, .int x1), (3, .int (nI n)), (4, .int (nI (i - 1))), (5, .int (nI (zwa (ar 80) k1 i))), (6, .int (nI (zwa (ar 80) k1 (i - 1))))], [], gh S a b sc1 ar1 lo, ex, 0, 0)) rfl ?_
            refine to_lv (lv := [(0, .ref 49), (1, .int (nI k1)), (2, .int x1), (3, .int (nI n)), (4, .int (nI (i - 1)))]) rfl ⟨rfl, rfl, rfl, rfl, rfl, trivial⟩ ?_
            exact ih n (i - 1) sc1 ar1 (by omega) (by omega) hc183_1 hc183_2 (by obtain ⟨f9, o9, a9, u9, v9⟩ := hc183_3; exact ⟨f9, o9, a9, u9, t2_n v9 (by omega) g1.1 g2.1 (by omega) (by omega)⟩) hI1 hF1
          · refine to_n 2 (fr' := (226, [(0, .ref 49), (1, .int (nI k1)), (2, .int x1), (3, .int (nI n)), (4, .int (nI i)), (5, .int (nI (zwa (ar 80) k1 i))), (6, .int (nI (zwa (ar 80) k1 (i - 1))))], [.int 64, .int (nI (zwa (ar 80) k1 i))], gh S a b sc1 ar1 lo, ex, 0, 0)) rfl ?_
            refine to_remN (x := (zwa (ar 80) k1 i)) (y := 64) rfl (by omega) (by omega) (by omega) ?_
            refine to_n 2 (fr' := (231, [(0, .ref 49), (1, .int (nI k1)), (2, .int x1), (3, .int (nI n)), (4, .int (nI i)), (5, .int (nI (zwa (ar 80) k1 i))), (6, .int (nI (zwa (ar 80) k1 (i - 1))))], [.int 64, .int (nI (zwa (ar 80) k1 (i - 1))), .int (nI ((zwa (ar 80) k1 i) % 64))], gh S a b sc1 ar1 lo, ex, 0, 0)) rfl ?_
            refine to_remN (x := (zwa (ar 80) k1 (i - 1))) (y := 64) rfl (by omega) (by omega) (by omega) ?_
            refine to_nc_ne (t := 243) (x := ((zwa (ar 80) k1 i) % 64)) (y := ((zwa (ar 80) k1 (i - 1)) % 64)) rfl (by omega) (by omega) (fun q11 => ?_) (fun q11 => ?_)
            · refine to_n 2 (fr' := (247, [(0, .ref 49), (1, .int (nI k1)), (2, .int x1), (3, .int (nI n)), (4, .int (nI i)), (5, .int (nI (zwa (ar 80) k1 i))), (6, .int (nI (zwa (ar 80) k1 (i - 1))))], [.int 64, .int (nI (zwa (ar 80) k1 i))], gh S a b sc1 ar1 lo, ex, 0, 0)) rfl ?_
              refine to_nc_lt_T (t := 294) (x := (zwa (ar 80) k1 i)) (y := 64) rfl (by omega) (by omega) (by omega) ?_
              refine to_n 1 (fr' := (297, [(0, .ref 49), (1, .int (nI k1)), (2, .int x1), (3, .int (nI n)), (4, .int ((nI i) + (-1))), (5, .int (nI (zwa (ar 80) k1 i))), (6, .int (nI (zwa (ar 80) k1 (i - 1))))], [], gh S a b sc1 ar1 lo, ex, 0, 0)) rfl ?_
              rw [nI_dec (show 1 ≤ i by omega)]
              refine to_n 1 (fr' := (183, [(0, .ref 49), (1, .int (nI k1)), (2, .int x1), (3, .int (nI n)), (4, .int (nI (i - 1))), (5, .int (nI (zwa (ar 80) k1 i))), (6, .int (nI (zwa (ar 80) k1 (i - 1))))], [], gh S a b sc1 ar1 lo, ex, 0, 0)) rfl ?_
              refine to_lv (lv := [(0, .ref 49), (1, .int (nI k1)), (2, .int x1), (3, .int (nI n)), (4, .int (nI (i - 1)))]) rfl ⟨rfl, rfl, rfl, rfl, rfl, trivial⟩ ?_
              exact ih n (i - 1) sc1 ar1 (by omega) (by omega) hc183_1 hc183_2 (by obtain ⟨f9, o9, a9, u9, v9⟩ := hc183_3; exact ⟨f9, o9, a9, u9, t2_n v9 (by omega) g1.1 g2.1 (by omega) (by omega)⟩) hI1 hF1
            · refine to_n 1 (fr' := (236, [(0, .ref 49), (1, .int (nI k1)), (2, .int x1), (3, .int (nI n)), (4, .int (nI i)), (5, .int (nI (zwa (ar 80) k1 i))), (6, .int (nI (zwa (ar 80) k1 (i - 1))))], [.ref 49], gh S a b sc1 ar1 lo, ex, 0, 0)) rfl ?_
              refine to_get rfl rfl rfl rfl ?_
              refine to_n 2 (fr' := (242, [(0, .ref 49), (1, .int (nI k1)), (2, .int x1), (3, .int (nI n)), (4, .int (nI i)), (5, .int (nI (zwa (ar 80) k1 i))), (6, .int (nI (zwa (ar 80) k1 (i - 1))))], [.int 1, .int (nI (zwa (ar 80) k1 i)), .ref 79], gh S a b sc1 ar1 lo, ex, 0, 0)) rfl ?_
              refine to_iasR (i := (zwa (ar 80) k1 i)) (h' := gh S a b sc1 (uA ar1 79 (upd (ar1 79) (zwa (ar 80) k1 i) 1)) lo) rfl rfl (by omega) (by omega) rfl ?_
              have hI12 := ia_79 (g := (upd (ar1 79) (zwa (ar 80) k1 i) 1)) hI1
              have hF12 := fr_a (c := 79) (g := (upd (ar1 79) (zwa (ar 80) k1 i) 1)) hF1 (by decide)
              refine to_n 2 (fr' := (247, [(0, .ref 49), (1, .int (nI k1)), (2, .int x1), (3, .int (nI n)), (4, .int (nI i)), (5, .int (nI (zwa (ar 80) k1 i))), (6, .int (nI (zwa (ar 80) k1 (i - 1))))], [.int 64, .int (nI (zwa (ar 80) k1 i))], gh S a b sc1 (uA ar1 79 (upd (ar1 79) (zwa (ar 80) k1 i) 1)) lo, ex, 0, 0)) rfl ?_
              refine to_nc_lt_T (t := 294) (x := (zwa (ar 80) k1 i)) (y := 64) rfl (by omega) (by omega) (by omega) ?_
              refine to_n 1 (fr' := (297, [(0, .ref 49), (1, .int (nI k1)), (2, .int x1), (3, .int (nI n)), (4, .int ((nI i) + (-1))), (5, .int (nI (zwa (ar 80) k1 i))), (6, .int (nI (zwa (ar 80) k1 (i - 1))))], [], gh S a b sc1 (uA ar1 79 (upd (ar1 79) (zwa (ar 80) k1 i) 1)) lo, ex, 0, 0)) rfl ?_
              rw [nI_dec (show 1 ≤ i by omega)]
              refine to_n 1 (fr' := (183, [(0, .ref 49), (1, .int (nI k1)), (2, .int x1), (3, .int (nI n)), (4, .int (nI (i - 1))), (5, .int (nI (zwa (ar 80) k1 i))), (6, .int (nI (zwa (ar 80) k1 (i - 1))))], [], gh S a b sc1 (uA ar1 79 (upd (ar1 79) (zwa (ar 80) k1 i) 1)) lo, ex, 0, 0)) rfl ?_
              refine to_lv (lv := [(0, .ref 49), (1, .int (nI k1)), (2, .int x1), (3, .int (nI n)), (4, .int (nI (i - 1)))]) rfl ⟨rfl, rfl, rfl, rfl, rfl, trivial⟩ ?_
              exact ih n (i - 1) sc1 (uA ar1 79 (upd (ar1 79) (zwa (ar 80) k1 i) 1)) (by omega) (by omega) hc183_1 hc183_2 (by obtain ⟨f9, o9, a9, u9, v9⟩ := hc183_3; exact ⟨f9, o9, a9, u9, t2_h (fun i9 j9 a9 b9 e9 => zw_inj hc183_1 a9 b9 e9) v9 (by omega) (by omega) g2.1 (by omega) (by omega) (by omega)⟩) hI12 hF12
  have c39 : ∀ m : Nat, ∀ (n : Nat) (i : Nat) (sc13 : Nat → Int32) (ar13 : Nat → Nat → Int32), i ≤ m → i < n → ZWw S (ar 80) rk k1 n → (∀ j, j < n → ar13 84 j = nI (zwa (ar 80) k1 j)) → T1 n i (zwa (ar 80) k1) (ar 79) (ar 82) (ar 83) (ar13 79) (ar13 82) (ar13 83) → Iv S sc13 ar13 → Fr [] [79, 82, 83, 84] sc ar sc13 ar13 → ag_To X d an_X10_trace (39, [(0, .ref 49), (1, .int (nI k1)), (2, .int x1), (3, .int (nI n)), (4, .int (nI i))], [], gh S a b sc13 ar13 lo, ex, 0, 0) (qv S a b lo ex (fun sc' ar' => Iv S sc' ar' ∧ Fr [] [79, 82, 83, 84] sc ar sc' ar' ∧ TP S (ar 80) rk k1 x1 (ar 79) (ar 82) (ar 83) (ar' 79) (ar' 82) (ar' 83))) := by
    intro m
    induction m with
    | zero =>
      intro n i sc13 ar13 hm hc39_0 hc39_1 hc39_2 hc39_3 hI13 hF13
      obtain ⟨hw1, hw2, hw3, hw4⟩ := id hc39_1
      have g1 := hw3.1 i (by omega)
      have g2 := hw3.1 (i - 1) (by omega)
      refine to_n 1 (fr' := (41, [(0, .ref 49), (1, .int (nI k1)), (2, .int x1), (3, .int (nI n)), (4, .int (nI i))], [.int (nI i)], gh S a b sc13 ar13 lo, ex, 0, 0)) rfl ?_
      refine to_nf_le_T (t := 178) (x := i) rfl (by omega) (by omega) ?_
      refine to_n 2 (fr' := (180, [(0, .ref 49), (1, .int (nI k1)), (2, .int x1), (3, .int (nI n)), (4, .int (nI i))], [.int 1, .int (nI n)], gh S a b sc13 ar13 lo, ex, 0, 0)) rfl ?_
      refine to_subN (x := n) (y := 1) rfl (by omega) ?_
      refine to_n 1 (fr' := (183, [(0, .ref 49), (1, .int (nI k1)), (2, .int x1), (3, .int (nI n)), (4, .int (nI (n - 1)))], [], gh S a b sc13 ar13 lo, ex, 0, 0)) rfl ?_
      exact c183 128 n (n - 1) sc13 ar13 (by omega) (by omega) hc39_1 hc39_2 ⟨_, _, _, (by have e9 : i = 0 := (by omega); subst e9; exact hc39_3), t2_0 (by omega)⟩ hI13 hF13
    | succ m ih =>
      intro n i sc13 ar13 hm hc39_0 hc39_1 hc39_2 hc39_3 hI13 hF13
      obtain ⟨hw1, hw2, hw3, hw4⟩ := id hc39_1
      have g1 := hw3.1 i (by omega)
      have g2 := hw3.1 (i - 1) (by omega)
      refine to_n 1 (fr' := (41, [(0, .ref 49), (1, .int (nI k1)), (2, .int x1), (3, .int (nI n)), (4, .int (nI i))], [.int (nI i)], gh S a b sc13 ar13 lo, ex, 0, 0)) rfl ?_
      refine to_nf_le (t := 178) (x := i) rfl (by omega) (fun q14 => ?_) (fun q14 => ?_)
      · refine to_n 2 (fr' := (180, [(0, .ref 49), (1, .int (nI k1)), (2, .int x1), (3, .int (nI n)), (4, .int (nI i))], [.int 1, .int (nI n)], gh S a b sc13 ar13 lo, ex, 0, 0)) rfl ?_
        refine to_subN (x := n) (y := 1) rfl (by omega) ?_
        refine to_n 1 (fr' := (183, [(0, .ref 49), (1, .int (nI k1)), (2, .int x1), (3, .int (nI n)), (4, .int (nI (n - 1)))], [], gh S a b sc13 ar13 lo, ex, 0, 0)) rfl ?_
        exact c183 128 n (n - 1) sc13 ar13 (by omega) (by omega) hc39_1 hc39_2 ⟨_, _, _, (by have e9 : i = 0 := (by omega); subst e9; exact hc39_3), t2_0 (by omega)⟩ hI13 hF13
      · refine to_n 1 (fr' := (45, [(0, .ref 49), (1, .int (nI k1)), (2, .int x1), (3, .int (nI n)), (4, .int (nI i))], [.ref 49], gh S a b sc13 ar13 lo, ex, 0, 0)) rfl ?_
        refine to_get rfl rfl rfl rfl ?_
        refine to_n 1 (fr' := (50, [(0, .ref 49), (1, .int (nI k1)), (2, .int x1), (3, .int (nI n)), (4, .int (nI i))], [.int (nI i), .ref 84], gh S a b sc13 ar13 lo, ex, 0, 0)) rfl ?_
        refine to_ialR (i := i) (v := (nI (zwa (ar 80) k1 i))) rfl (by decide) rfl (by omega) (by omega) (hc39_2 i (by omega)) ?_
        refine to_n 2 (fr' := (54, [(0, .ref 49), (1, .int (nI k1)), (2, .int x1), (3, .int (nI n)), (4, .int (nI i)), (5, .int (nI (zwa (ar 80) k1 i)))], [.ref 49], gh S a b sc13 ar13 lo, ex, 0, 0)) rfl ?_
        refine to_get rfl rfl rfl rfl ?_
        refine to_n 2 (fr' := (60, [(0, .ref 49), (1, .int (nI k1)), (2, .int x1), (3, .int (nI n)), (4, .int (nI i)), (5, .int (nI (zwa (ar 80) k1 i)))], [.int 1, .int (nI i), .ref 84], gh S a b sc13 ar13 lo, ex, 0, 0)) rfl ?_
        refine to_subN (x := i) (y := 1) rfl (by omega) ?_
        refine to_ialR (i := (i - 1)) (v := (nI (zwa (ar 80) k1 (i - 1)))) rfl (by decide) rfl (by omega) (by omega) (hc39_2 (i - 1) (by omega)) ?_
        refine to_n 3 (fr' := (68, [(0, .ref 49), (1, .int (nI k1)), (2, .int x1), (3, .int (nI n)), (4, .int (nI i)), (5, .int (nI (zwa (ar 80) k1 i))), (6, .int (nI (zwa (ar 80) k1 (i - 1))))], [.int 64, .int (nI (zwa (ar 80) k1 i))], gh S a b sc13 ar13 lo, ex, 0, 0)) rfl ?_
        refine to_nc_ge (t := 102) (x := (zwa (ar 80) k1 i)) (y := 64) rfl (by omega) (by omega) (fun q15 => ?_) (fun q15 => ?_)
        · refine to_n 2 (fr' := (106, [(0, .ref 49), (1, .int (nI k1)), (2, .int x1), (3, .int (nI n)), (4, .int (nI i)), (5, .int (nI (zwa (ar 80) k1 i))), (6, .int (nI (zwa (ar 80) k1 (i - 1))))], [.int 64, .int (nI (zwa (ar 80) k1 i))], gh S a b sc13 ar13 lo, ex, 0, 0)) rfl ?_
          refine to_nc_ge_T (t := 137) (x := (zwa (ar 80) k1 i)) (y := 64) rfl (by omega) (by omega) (by omega) ?_
          refine to_n 2 (fr' := (141, [(0, .ref 49), (1, .int (nI k1)), (2, .int x1), (3, .int (nI n)), (4, .int (nI i)), (5, .int (nI (zwa (ar 80) k1 i))), (6, .int (nI (zwa (ar 80) k1 (i - 1))))], [.int 64, .int (nI (zwa (ar 80) k1 i))], gh S a b sc13 ar13 lo, ex, 0, 0)) rfl ?_
          refine to_nc_lt_F (t := 172) (x := (zwa (ar 80) k1 i)) (y := 64) rfl (by omega) (by omega) (by omega) ?_
          refine to_n 2 (fr' := (148, [(0, .ref 49), (1, .int (nI k1)), (2, .int x1), (3, .int (nI n)), (4, .int (nI i)), (5, .int (nI (zwa (ar 80) k1 i))), (6, .int (nI (zwa (ar 80) k1 (i - 1))))], [.int 64, .int (nI (zwa (ar 80) k1 (i - 1)))], gh S a b sc13 ar13 lo, ex, 0, 0)) rfl ?_
          refine to_nc_ge (t := 172) (x := (zwa (ar 80) k1 (i - 1))) (y := 64) rfl (by omega) (by omega) (fun q16 => ?_) (fun q16 => ?_)
          · refine to_n 1 (fr' := (175, [(0, .ref 49), (1, .int (nI k1)), (2, .int x1), (3, .int (nI n)), (4, .int ((nI i) + (-1))), (5, .int (nI (zwa (ar 80) k1 i))), (6, .int (nI (zwa (ar 80) k1 (i - 1))))], [], gh S a b sc13 ar13 lo, ex, 0, 0)) rfl ?_
            rw [nI_dec (show 1 ≤ i by omega)]
            refine to_n 1 (fr' := (39, [(0, .ref 49), (1, .int (nI k1)), (2, .int x1), (3, .int (nI n)), (4, .int (nI (i - 1))), (5, .int (nI (zwa (ar 80) k1 i))), (6, .int (nI (zwa (ar 80) k1 (i - 1))))], [], gh S a b sc13 ar13 lo, ex, 0, 0)) rfl ?_
            refine to_lv (lv := [(0, .ref 49), (1, .int (nI k1)), (2, .int x1), (3, .int (nI n)), (4, .int (nI (i - 1)))]) rfl ⟨rfl, rfl, rfl, rfl, rfl, trivial⟩ ?_
            exact ih n (i - 1) sc13 ar13 (by omega) (by omega) hc39_1 hc39_2 (t1_n hc39_3 (by omega) g1.1 g2.1 (by omega) (by omega)) hI13 hF13
          · refine to_n 2 (fr' := (155, [(0, .ref 49), (1, .int (nI k1)), (2, .int x1), (3, .int (nI n)), (4, .int (nI i)), (5, .int (nI (zwa (ar 80) k1 i))), (6, .int (nI (zwa (ar 80) k1 (i - 1))))], [.int 64, .int (nI (zwa (ar 80) k1 i))], gh S a b sc13 ar13 lo, ex, 0, 0)) rfl ?_
            refine to_remN (x := (zwa (ar 80) k1 i)) (y := 64) rfl (by omega) (by omega) (by omega) ?_
            refine to_n 2 (fr' := (160, [(0, .ref 49), (1, .int (nI k1)), (2, .int x1), (3, .int (nI n)), (4, .int (nI i)), (5, .int (nI (zwa (ar 80) k1 i))), (6, .int (nI (zwa (ar 80) k1 (i - 1))))], [.int 64, .int (nI (zwa (ar 80) k1 (i - 1))), .int (nI ((zwa (ar 80) k1 i) % 64))], gh S a b sc13 ar13 lo, ex, 0, 0)) rfl ?_
            refine to_remN (x := (zwa (ar 80) k1 (i - 1))) (y := 64) rfl (by omega) (by omega) (by omega) ?_
            refine to_nc_ne (t := 172) (x := ((zwa (ar 80) k1 i) % 64)) (y := ((zwa (ar 80) k1 (i - 1)) % 64)) rfl (by omega) (by omega) (fun q17 => ?_) (fun q17 => ?_)
            · refine to_n 1 (fr' := (175, [(0, .ref 49), (1, .int (nI k1)), (2, .int x1), (3, .int (nI n)), (4, .int ((nI i) + (-1))), (5, .int (nI (zwa (ar 80) k1 i))), (6, .int (nI (zwa (ar 80) k1 (i - 1))))], [], gh S a b sc13 ar13 lo, ex, 0, 0)) rfl ?_
              rw [nI_dec (show 1 ≤ i by omega)]
              refine to_n 1 (fr' := (39, [(0, .ref 49), (1, .int (nI k1)), (2, .int x1), (3, .int (nI n)), (4, .int (nI (i - 1))), (5, .int (nI (zwa (ar 80) k1 i))), (6, .int (nI (zwa (ar 80) k1 (i - 1))))], [], gh S a b sc13 ar13 lo, ex, 0, 0)) rfl ?_
              refine to_lv (lv := [(0, .ref 49), (1, .int (nI k1)), (2, .int x1), (3, .int (nI n)), (4, .int (nI (i - 1)))]) rfl ⟨rfl, rfl, rfl, rfl, rfl, trivial⟩ ?_
              exact ih n (i - 1) sc13 ar13 (by omega) (by omega) hc39_1 hc39_2 (t1_n hc39_3 (by omega) g1.1 g2.1 (by omega) (by omega)) hI13 hF13
            · refine to_n 1 (fr' := (165, [(0, .ref 49), (1, .int (nI k1)), (2, .int x1), (3, .int (nI n)), (4, .int (nI i)), (5, .int (nI (zwa (ar 80) k1 i))), (6, .int (nI (zwa (ar 80) k1 (i - 1))))], [.ref 49], gh S a b sc13 ar13 lo, ex, 0, 0)) rfl ?_
              refine to_get rfl rfl rfl rfl ?_
              refine to_n 2 (fr' := (171, [(0, .ref 49), (1, .int (nI k1)), (2, .int x1), (3, .int (nI n)), (4, .int (nI i)), (5, .int (nI (zwa (ar 80) k1 i))), (6, .int (nI (zwa (ar 80) k1 (i - 1))))], [.int 0, .int (nI (zwa (ar 80) k1 (i - 1))), .ref 79], gh S a b sc13 ar13 lo, ex, 0, 0)) rfl ?_
              refine to_iasR (i := (zwa (ar 80) k1 (i - 1))) (h' := gh S a b sc13 (uA ar13 79 (upd (ar13 79) (zwa (ar 80) k1 (i - 1)) 0)) lo) rfl rfl (by omega) (by omega) rfl ?_
              have hI18 := ia_79 (g := (upd (ar13 79) (zwa (ar 80) k1 (i - 1)) 0)) hI13
              have hF18 := fr_a (c := 79) (g := (upd (ar13 79) (zwa (ar 80) k1 (i - 1)) 0)) hF13 (by decide)
              refine to_n 1 (fr' := (175, [(0, .ref 49), (1, .int (nI k1)), (2, .int x1), (3, .int (nI n)), (4, .int ((nI i) + (-1))), (5, .int (nI (zwa (ar 80) k1 i))), (6, .int (nI (zwa (ar 80) k1 (i - 1))))], [], gh S a b sc13 (uA ar13 79 (upd (ar13 79) (zwa (ar 80) k1 (i - 1)) 0)) lo, ex, 0, 0)) rfl ?_
              rw [nI_dec (show 1 ≤ i by omega)]
              refine to_n 1 (fr' := (39, [(0, .ref 49), (1, .int (nI k1)), (2, .int x1), (3, .int (nI n)), (4, .int (nI (i - 1))), (5, .int (nI (zwa (ar 80) k1 i))), (6, .int (nI (zwa (ar 80) k1 (i - 1))))], [], gh S a b sc13 (uA ar13 79 (upd (ar13 79) (zwa (ar 80) k1 (i - 1)) 0)) lo, ex, 0, 0)) rfl ?_
              refine to_lv (lv := [(0, .ref 49), (1, .int (nI k1)), (2, .int x1), (3, .int (nI n)), (4, .int (nI (i - 1)))]) rfl ⟨rfl, rfl, rfl, rfl, rfl, trivial⟩ ?_
              exact ih n (i - 1) sc13 (uA ar13 79 (upd (ar13 79) (zwa (ar 80) k1 (i - 1)) 0)) (by omega) (by omega) hc39_1 hc39_2 (t1_h (fun i9 j9 a9 b9 e9 => zw_inj hc39_1 a9 b9 e9) hc39_3 (by omega) (by omega) g1.1 (by omega) (by omega) (by omega)) hI18 hF18
        · refine to_n 2 (fr' := (75, [(0, .ref 49), (1, .int (nI k1)), (2, .int x1), (3, .int (nI n)), (4, .int (nI i)), (5, .int (nI (zwa (ar 80) k1 i))), (6, .int (nI (zwa (ar 80) k1 (i - 1))))], [.int 64, .int (nI (zwa (ar 80) k1 (i - 1)))], gh S a b sc13 ar13 lo, ex, 0, 0)) rfl ?_
          refine to_nc_lt (t := 102) (x := (zwa (ar 80) k1 (i - 1))) (y := 64) rfl (by omega) (by omega) (fun q19 => ?_) (fun q19 => ?_)
          · refine to_n 2 (fr' := (106, [(0, .ref 49), (1, .int (nI k1)), (2, .int x1), (3, .int (nI n)), (4, .int (nI i)), (5, .int (nI (zwa (ar 80) k1 i))), (6, .int (nI (zwa (ar 80) k1 (i - 1))))], [.int 64, .int (nI (zwa (ar 80) k1 i))], gh S a b sc13 ar13 lo, ex, 0, 0)) rfl ?_
            refine to_nc_ge_F (t := 137) (x := (zwa (ar 80) k1 i)) (y := 64) rfl (by omega) (by omega) (by omega) ?_
            refine to_n 2 (fr' := (113, [(0, .ref 49), (1, .int (nI k1)), (2, .int x1), (3, .int (nI n)), (4, .int (nI i)), (5, .int (nI (zwa (ar 80) k1 i))), (6, .int (nI (zwa (ar 80) k1 (i - 1))))], [.int 64, .int (nI (zwa (ar 80) k1 (i - 1)))], gh S a b sc13 ar13 lo, ex, 0, 0)) rfl ?_
            refine to_nc_lt_T (t := 137) (x := (zwa (ar 80) k1 (i - 1))) (y := 64) rfl (by omega) (by omega) (by omega) ?_
            refine to_n 2 (fr' := (141, [(0, .ref 49), (1, .int (nI k1)), (2, .int x1), (3, .int (nI n)), (4, .int (nI i)), (5, .int (nI (zwa (ar 80) k1 i))), (6, .int (nI (zwa (ar 80) k1 (i - 1))))], [.int 64, .int (nI (zwa (ar 80) k1 i))], gh S a b sc13 ar13 lo, ex, 0, 0)) rfl ?_
            refine to_nc_lt_T (t := 172) (x := (zwa (ar 80) k1 i)) (y := 64) rfl (by omega) (by omega) (by omega) ?_
            refine to_n 1 (fr' := (175, [(0, .ref 49), (1, .int (nI k1)), (2, .int x1), (3, .int (nI n)), (4, .int ((nI i) + (-1))), (5, .int (nI (zwa (ar 80) k1 i))), (6, .int (nI (zwa (ar 80) k1 (i - 1))))], [], gh S a b sc13 ar13 lo, ex, 0, 0)) rfl ?_
            rw [nI_dec (show 1 ≤ i by omega)]
            refine to_n 1 (fr' := (39, [(0, .ref 49), (1, .int (nI k1)), (2, .int x1), (3, .int (nI n)), (4, .int (nI (i - 1))), (5, .int (nI (zwa (ar 80) k1 i))), (6, .int (nI (zwa (ar 80) k1 (i - 1))))], [], gh S a b sc13 ar13 lo, ex, 0, 0)) rfl ?_
            refine to_lv (lv := [(0, .ref 49), (1, .int (nI k1)), (2, .int x1), (3, .int (nI n)), (4, .int (nI (i - 1)))]) rfl ⟨rfl, rfl, rfl, rfl, rfl, trivial⟩ ?_
            exact ih n (i - 1) sc13 ar13 (by omega) (by omega) hc39_1 hc39_2 (t1_n hc39_3 (by omega) g1.1 g2.1 (by omega) (by omega)) hI13 hF13
          · refine to_n 2 (fr' := (82, [(0, .ref 49), (1, .int (nI k1)), (2, .int x1), (3, .int (nI n)), (4, .int (nI i)), (5, .int (nI (zwa (ar 80) k1 i))), (6, .int (nI (zwa (ar 80) k1 (i - 1))))], [.int 64, .int (nI (zwa (ar 80) k1 i))], gh S a b sc13 ar13 lo, ex, 0, 0)) rfl ?_
            refine to_remN (x := (zwa (ar 80) k1 i)) (y := 64) rfl (by omega) (by omega) (by omega) ?_
            refine to_n 2 (fr' := (87, [(0, .ref 49), (1, .int (nI k1)), (2, .int x1), (3, .int (nI n)), (4, .int (nI i)), (5, .int (nI (zwa (ar 80) k1 i))), (6, .int (nI (zwa (ar 80) k1 (i - 1))))], [.int 64, .int (nI (zwa (ar 80) k1 (i - 1))), .int (nI ((zwa (ar 80) k1 i) % 64))], gh S a b sc13 ar13 lo, ex, 0, 0)) rfl ?_
            refine to_remN (x := (zwa (ar 80) k1 (i - 1))) (y := 64) rfl (by omega) (by omega) (by omega) ?_
            refine to_nc_eq (t := 102) (x := ((zwa (ar 80) k1 i) % 64)) (y := ((zwa (ar 80) k1 (i - 1)) % 64)) rfl (by omega) (by omega) (fun q20 => ?_) (fun q20 => ?_)
            · refine to_n 2 (fr' := (106, [(0, .ref 49), (1, .int (nI k1)), (2, .int x1), (3, .int (nI n)), (4, .int (nI i)), (5, .int (nI (zwa (ar 80) k1 i))), (6, .int (nI (zwa (ar 80) k1 (i - 1))))], [.int 64, .int (nI (zwa (ar 80) k1 i))], gh S a b sc13 ar13 lo, ex, 0, 0)) rfl ?_
              refine to_nc_ge_F (t := 137) (x := (zwa (ar 80) k1 i)) (y := 64) rfl (by omega) (by omega) (by omega) ?_
              refine to_n 2 (fr' := (113, [(0, .ref 49), (1, .int (nI k1)), (2, .int x1), (3, .int (nI n)), (4, .int (nI i)), (5, .int (nI (zwa (ar 80) k1 i))), (6, .int (nI (zwa (ar 80) k1 (i - 1))))], [.int 64, .int (nI (zwa (ar 80) k1 (i - 1)))], gh S a b sc13 ar13 lo, ex, 0, 0)) rfl ?_
              refine to_nc_lt_F (t := 137) (x := (zwa (ar 80) k1 (i - 1))) (y := 64) rfl (by omega) (by omega) (by omega) ?_
              refine to_n 2 (fr' := (120, [(0, .ref 49), (1, .int (nI k1)), (2, .int x1), (3, .int (nI n)), (4, .int (nI i)), (5, .int (nI (zwa (ar 80) k1 i))), (6, .int (nI (zwa (ar 80) k1 (i - 1))))], [.int 64, .int (nI (zwa (ar 80) k1 i))], gh S a b sc13 ar13 lo, ex, 0, 0)) rfl ?_
              refine to_remN (x := (zwa (ar 80) k1 i)) (y := 64) rfl (by omega) (by omega) (by omega) ?_
              refine to_n 2 (fr' := (125, [(0, .ref 49), (1, .int (nI k1)), (2, .int x1), (3, .int (nI n)), (4, .int (nI i)), (5, .int (nI (zwa (ar 80) k1 i))), (6, .int (nI (zwa (ar 80) k1 (i - 1))))], [.int 64, .int (nI (zwa (ar 80) k1 (i - 1))), .int (nI ((zwa (ar 80) k1 i) % 64))], gh S a b sc13 ar13 lo, ex, 0, 0)) rfl ?_
              refine to_remN (x := (zwa (ar 80) k1 (i - 1))) (y := 64) rfl (by omega) (by omega) (by omega) ?_
              refine to_nc_eq_T (t := 137) (x := ((zwa (ar 80) k1 i) % 64)) (y := ((zwa (ar 80) k1 (i - 1)) % 64)) rfl (by omega) (by omega) (by omega) ?_
              refine to_n 2 (fr' := (141, [(0, .ref 49), (1, .int (nI k1)), (2, .int x1), (3, .int (nI n)), (4, .int (nI i)), (5, .int (nI (zwa (ar 80) k1 i))), (6, .int (nI (zwa (ar 80) k1 (i - 1))))], [.int 64, .int (nI (zwa (ar 80) k1 i))], gh S a b sc13 ar13 lo, ex, 0, 0)) rfl ?_
              refine to_nc_lt_T (t := 172) (x := (zwa (ar 80) k1 i)) (y := 64) rfl (by omega) (by omega) (by omega) ?_
              refine to_n 1 (fr' := (175, [(0, .ref 49), (1, .int (nI k1)), (2, .int x1), (3, .int (nI n)), (4, .int ((nI i) + (-1))), (5, .int (nI (zwa (ar 80) k1 i))), (6, .int (nI (zwa (ar 80) k1 (i - 1))))], [], gh S a b sc13 ar13 lo, ex, 0, 0)) rfl ?_
              rw [nI_dec (show 1 ≤ i by omega)]
              refine to_n 1 (fr' := (39, [(0, .ref 49), (1, .int (nI k1)), (2, .int x1), (3, .int (nI n)), (4, .int (nI (i - 1))), (5, .int (nI (zwa (ar 80) k1 i))), (6, .int (nI (zwa (ar 80) k1 (i - 1))))], [], gh S a b sc13 ar13 lo, ex, 0, 0)) rfl ?_
              refine to_lv (lv := [(0, .ref 49), (1, .int (nI k1)), (2, .int x1), (3, .int (nI n)), (4, .int (nI (i - 1)))]) rfl ⟨rfl, rfl, rfl, rfl, rfl, trivial⟩ ?_
              exact ih n (i - 1) sc13 ar13 (by omega) (by omega) hc39_1 hc39_2 (t1_n hc39_3 (by omega) g1.1 g2.1 (by omega) (by omega)) hI13 hF13
            · refine to_n 1 (fr' := (92, [(0, .ref 49), (1, .int (nI k1)), (2, .int x1), (3, .int (nI n)), (4, .int (nI i)), (5, .int (nI (zwa (ar 80) k1 i))), (6, .int (nI (zwa (ar 80) k1 (i - 1))))], [.ref 49], gh S a b sc13 ar13 lo, ex, 0, 0)) rfl ?_
              refine to_get rfl rfl rfl rfl ?_
              refine to_n 2 (fr' := (99, [(0, .ref 49), (1, .int (nI k1)), (2, .int x1), (3, .int (nI n)), (4, .int (nI i)), (5, .int (nI (zwa (ar 80) k1 i))), (6, .int (nI (zwa (ar 80) k1 (i - 1))))], [.int 64, .int (nI (zwa (ar 80) k1 (i - 1))), .ref 82], gh S a b sc13 ar13 lo, ex, 0, 0)) rfl ?_
              refine to_subN (x := (zwa (ar 80) k1 (i - 1))) (y := 64) rfl (by omega) ?_
              refine to_n 1 (fr' := (101, [(0, .ref 49), (1, .int (nI k1)), (2, .int x1), (3, .int (nI n)), (4, .int (nI i)), (5, .int (nI (zwa (ar 80) k1 i))), (6, .int (nI (zwa (ar 80) k1 (i - 1))))], [.int (-1), .int (nI ((zwa (ar 80) k1 (i - 1)) - 64)), .ref 82], gh S a b sc13 ar13 lo, ex, 0, 0)) rfl ?_
              refine to_iasR (i := ((zwa (ar 80) k1 (i - 1)) - 64)) (h' := gh S a b sc13 (uA ar13 82 (upd (ar13 82) ((zwa (ar 80) k1 (i - 1)) - 64) (-1))) lo) rfl rfl (by omega) (by omega) rfl ?_
              have hI21 := ia_82 (g := (upd (ar13 82) ((zwa (ar 80) k1 (i - 1)) - 64) (-1))) hI13
              have hF21 := fr_a (c := 82) (g := (upd (ar13 82) ((zwa (ar 80) k1 (i - 1)) - 64) (-1))) hF13 (by decide)
              refine to_n 2 (fr' := (106, [(0, .ref 49), (1, .int (nI k1)), (2, .int x1), (3, .int (nI n)), (4, .int (nI i)), (5, .int (nI (zwa (ar 80) k1 i))), (6, .int (nI (zwa (ar 80) k1 (i - 1))))], [.int 64, .int (nI (zwa (ar 80) k1 i))], gh S a b sc13 (uA ar13 82 (upd (ar13 82) ((zwa (ar 80) k1 (i - 1)) - 64) (-1))) lo, ex, 0, 0)) rfl ?_
              refine to_nc_ge_F (t := 137) (x := (zwa (ar 80) k1 i)) (y := 64) rfl (by omega) (by omega) (by omega) ?_
              refine to_n 2 (fr' := (113, [(0, .ref 49), (1, .int (nI k1)), (2, .int x1), (3, .int (nI n)), (4, .int (nI i)), (5, .int (nI (zwa (ar 80) k1 i))), (6, .int (nI (zwa (ar 80) k1 (i - 1))))], [.int 64, .int (nI (zwa (ar 80) k1 (i - 1)))], gh S a b sc13 (uA ar13 82 (upd (ar13 82) ((zwa (ar 80) k1 (i - 1)) - 64) (-1))) lo, ex, 0, 0)) rfl ?_
              refine to_nc_lt_F (t := 137) (x := (zwa (ar 80) k1 (i - 1))) (y := 64) rfl (by omega) (by omega) (by omega) ?_
              refine to_n 2 (fr' := (120, [(0, .ref 49), (1, .int (nI k1)), (2, .int x1), (3, .int (nI n)), (4, .int (nI i)), (5, .int (nI (zwa (ar 80) k1 i))), (6, .int (nI (zwa (ar 80) k1 (i - 1))))], [.int 64, .int (nI (zwa (ar 80) k1 i))], gh S a b sc13 (uA ar13 82 (upd (ar13 82) ((zwa (ar 80) k1 (i - 1)) - 64) (-1))) lo, ex, 0, 0)) rfl ?_
              refine to_remN (x := (zwa (ar 80) k1 i)) (y := 64) rfl (by omega) (by omega) (by omega) ?_
              refine to_n 2 (fr' := (125, [(0, .ref 49), (1, .int (nI k1)), (2, .int x1), (3, .int (nI n)), (4, .int (nI i)), (5, .int (nI (zwa (ar 80) k1 i))), (6, .int (nI (zwa (ar 80) k1 (i - 1))))], [.int 64, .int (nI (zwa (ar 80) k1 (i - 1))), .int (nI ((zwa (ar 80) k1 i) % 64))], gh S a b sc13 (uA ar13 82 (upd (ar13 82) ((zwa (ar 80) k1 (i - 1)) - 64) (-1))) lo, ex, 0, 0)) rfl ?_
              refine to_remN (x := (zwa (ar 80) k1 (i - 1))) (y := 64) rfl (by omega) (by omega) (by omega) ?_
              refine to_nc_eq_F (t := 137) (x := ((zwa (ar 80) k1 i) % 64)) (y := ((zwa (ar 80) k1 (i - 1)) % 64)) rfl (by omega) (by omega) (by omega) ?_
              refine to_n 1 (fr' := (130, [(0, .ref 49), (1, .int (nI k1)), (2, .int x1), (3, .int (nI n)), (4, .int (nI i)), (5, .int (nI (zwa (ar 80) k1 i))), (6, .int (nI (zwa (ar 80) k1 (i - 1))))], [.ref 49], gh S a b sc13 (uA ar13 82 (upd (ar13 82) ((zwa (ar 80) k1 (i - 1)) - 64) (-1))) lo, ex, 0, 0)) rfl ?_
              refine to_get rfl rfl rfl rfl ?_
              refine to_n 2 (fr' := (136, [(0, .ref 49), (1, .int (nI k1)), (2, .int x1), (3, .int (nI n)), (4, .int (nI i)), (5, .int (nI (zwa (ar 80) k1 i))), (6, .int (nI (zwa (ar 80) k1 (i - 1))))], [.int (-1), .int (nI (zwa (ar 80) k1 i)), .ref 83], gh S a b sc13 (uA ar13 82 (upd (ar13 82) ((zwa (ar 80) k1 (i - 1)) - 64) (-1))) lo, ex, 0, 0)) rfl ?_
              refine to_iasR (i := (zwa (ar 80) k1 i)) (h' := gh S a b sc13 (uA (uA ar13 82 (upd (ar13 82) ((zwa (ar 80) k1 (i - 1)) - 64) (-1))) 83 (upd ((uA ar13 82 (upd (ar13 82) ((zwa (ar 80) k1 (i - 1)) - 64) (-1))) 83) (zwa (ar 80) k1 i) (-1))) lo) rfl rfl (by omega) (by omega) rfl ?_
              have hI22 := ia_83 (i := (zwa (ar 80) k1 i)) (v := (-1)) hI21 (rq_m)
              have hF22 := fr_a (c := 83) (g := (upd ((uA ar13 82 (upd (ar13 82) ((zwa (ar 80) k1 (i - 1)) - 64) (-1))) 83) (zwa (ar 80) k1 i) (-1))) hF21 (by decide)
              refine to_n 2 (fr' := (141, [(0, .ref 49), (1, .int (nI k1)), (2, .int x1), (3, .int (nI n)), (4, .int (nI i)), (5, .int (nI (zwa (ar 80) k1 i))), (6, .int (nI (zwa (ar 80) k1 (i - 1))))], [.int 64, .int (nI (zwa (ar 80) k1 i))], gh S a b sc13 (uA (uA ar13 82 (upd (ar13 82) ((zwa (ar 80) k1 (i - 1)) - 64) (-1))) 83 (upd ((uA ar13 82 (upd (ar13 82) ((zwa (ar 80) k1 (i - 1)) - 64) (-1))) 83) (zwa (ar 80) k1 i) (-1))) lo, ex, 0, 0)) rfl ?_
              refine to_nc_lt_T (t := 172) (x := (zwa (ar 80) k1 i)) (y := 64) rfl (by omega) (by omega) (by omega) ?_
              refine to_n 1 (fr' := (175, [(0, .ref 49), (1, .int (nI k1)), (2, .int x1), (3, .int (nI n)), (4, .int ((nI i) + (-1))), (5, .int (nI (zwa (ar 80) k1 i))), (6, .int (nI (zwa (ar 80) k1 (i - 1))))], [], gh S a b sc13 (uA (uA ar13 82 (upd (ar13 82) ((zwa (ar 80) k1 (i - 1)) - 64) (-1))) 83 (upd ((uA ar13 82 (upd (ar13 82) ((zwa (ar 80) k1 (i - 1)) - 64) (-1))) 83) (zwa (ar 80) k1 i) (-1))) lo, ex, 0, 0)) rfl ?_
              rw [nI_dec (show 1 ≤ i by omega)]
              refine to_n 1 (fr' := (39, [(0, .ref 49), (1, .int (nI k1)), (2, .int x1), (3, .int (nI n)), (4, .int (nI (i - 1))), (5, .int (nI (zwa (ar 80) k1 i))), (6, .int (nI (zwa (ar 80) k1 (i - 1))))], [], gh S a b sc13 (uA (uA ar13 82 (upd (ar13 82) ((zwa (ar 80) k1 (i - 1)) - 64) (-1))) 83 (upd ((uA ar13 82 (upd (ar13 82) ((zwa (ar 80) k1 (i - 1)) - 64) (-1))) 83) (zwa (ar 80) k1 i) (-1))) lo, ex, 0, 0)) rfl ?_
              refine to_lv (lv := [(0, .ref 49), (1, .int (nI k1)), (2, .int x1), (3, .int (nI n)), (4, .int (nI (i - 1)))]) rfl ⟨rfl, rfl, rfl, rfl, rfl, trivial⟩ ?_
              exact ih n (i - 1) sc13 (uA (uA ar13 82 (upd (ar13 82) ((zwa (ar 80) k1 (i - 1)) - 64) (-1))) 83 (upd ((uA ar13 82 (upd (ar13 82) ((zwa (ar 80) k1 (i - 1)) - 64) (-1))) 83) (zwa (ar 80) k1 i) (-1))) (by omega) (by omega) hc39_1 hc39_2 (t1_l (fun i9 j9 a9 b9 e9 => zw_inj hc39_1 a9 b9 e9) hc39_3 (by omega) (by omega) g2.1 (by omega) (by omega) (by omega)) hI22 hF22
  have c5 : ∀ m : Nat, ∀ (n : Nat) (x : Int32) (sc23 : Nat → Int32) (ar23 : Nat → Nat → Int32), n + m = 128 → ZWx S (ar 80) rk k1 n x → (∀ j, j < n → ar23 84 j = nI (zwa (ar 80) k1 j)) → ar23 79 = ar 79 → ar23 82 = ar 82 → ar23 83 = ar 83 → Iv S sc23 ar23 → Fr [] [79, 82, 83, 84] sc ar sc23 ar23 → ag_To X d an_X10_trace (5, [(0, .ref 49), (1, .int (nI k1)), (2, .int x1), (3, .int (nI n)), (4, .int x)], [], gh S a b sc23 ar23 lo, ex, 0, 0) (qv S a b lo ex (fun sc' ar' => Iv S sc' ar' ∧ Fr [] [79, 82, 83, 84] sc ar sc' ar' ∧ TP S (ar 80) rk k1 x1 (ar 79) (ar 82) (ar 83) (ar' 79) (ar' 82) (ar' 83))) := by
    intro m
    induction m with
    | zero =>
      intro n x sc23 ar23 hm hc5_0 hc5_1 hc5_2 hc5_3 hc5_4 hI23 hF23
      obtain ⟨hb5, ⟨h51, h52, rfl, h53⟩ | ⟨rfl, h52, h53⟩⟩ := id hc5_0
      · refine to_eq (fr' := (5, [(0, .ref 49), (1, .int (nI k1)), (2, .int x1), (3, .int (nI n)), (4, .int (-1))], [], gh S a b sc23 ar23 lo, ex, 0, 0)) rfl ?_
        refine to_n 5 (fr' := (36, [(0, .ref 49), (1, .int (nI k1)), (2, .int x1), (3, .int (nI n)), (4, .int (-1))], [.int 1, .int (nI n)], gh S a b sc23 ar23 lo, ex, 0, 0)) rfl ?_
        refine to_subN (x := n) (y := 1) rfl (by omega) ?_
        refine to_n 1 (fr' := (39, [(0, .ref 49), (1, .int (nI k1)), (2, .int x1), (3, .int (nI n)), (4, .int (nI (n - 1)))], [], gh S a b sc23 ar23 lo, ex, 0, 0)) rfl ?_
        exact c39 128 n (n - 1) sc23 ar23 (by omega) (by omega) (zx_e hc5_0) hc5_1 (by rw [hc5_2, hc5_3, hc5_4]; exact t1_0 (by omega)) hI23 hF23
      · exfalso
        omega
    | succ m ih =>
      intro n x sc23 ar23 hm hc5_0 hc5_1 hc5_2 hc5_3 hc5_4 hI23 hF23
      obtain ⟨hb5, ⟨h51, h52, rfl, h53⟩ | ⟨rfl, h52, h53⟩⟩ := id hc5_0
      · refine to_eq (fr' := (5, [(0, .ref 49), (1, .int (nI k1)), (2, .int x1), (3, .int (nI n)), (4, .int (-1))], [], gh S a b sc23 ar23 lo, ex, 0, 0)) rfl ?_
        refine to_n 5 (fr' := (36, [(0, .ref 49), (1, .int (nI k1)), (2, .int x1), (3, .int (nI n)), (4, .int (-1))], [.int 1, .int (nI n)], gh S a b sc23 ar23 lo, ex, 0, 0)) rfl ?_
        refine to_subN (x := n) (y := 1) rfl (by omega) ?_
        refine to_n 1 (fr' := (39, [(0, .ref 49), (1, .int (nI k1)), (2, .int x1), (3, .int (nI n)), (4, .int (nI (n - 1)))], [], gh S a b sc23 ar23 lo, ex, 0, 0)) rfl ?_
        exact c39 128 n (n - 1) sc23 ar23 (by omega) (by omega) (zx_e hc5_0) hc5_1 (by rw [hc5_2, hc5_3, hc5_4]; exact t1_0 (by omega)) hI23 hF23
      · obtain ⟨g51, g52, g53⟩ := h53.1 n (by omega)
        refine to_eq (fr' := (5, [(0, .ref 49), (1, .int (nI k1)), (2, .int x1), (3, .int (nI n)), (4, .int (nI (zwa (ar 80) k1 n)))], [], gh S a b sc23 ar23 lo, ex, 0, 0)) rfl ?_
        refine to_n 2 (fr' := (8, [(0, .ref 49), (1, .int (nI k1)), (2, .int x1), (3, .int (nI n)), (4, .int (nI (zwa (ar 80) k1 n)))], [.int (-1), .int (nI (zwa (ar 80) k1 n))], gh S a b sc23 ar23 lo, ex, 0, 0)) rfl ?_
        refine to_ic_eq_F (t := 34) (x := (nI (zwa (ar 80) k1 n))) (y := (-1)) rfl (nI_neg (by omega) (by decide)) ?_
        refine to_n 1 (fr' := (12, [(0, .ref 49), (1, .int (nI k1)), (2, .int x1), (3, .int (nI n)), (4, .int (nI (zwa (ar 80) k1 n)))], [.ref 49], gh S a b sc23 ar23 lo, ex, 0, 0)) rfl ?_
        refine to_get rfl rfl rfl rfl ?_
        refine to_n 2 (fr' := (18, [(0, .ref 49), (1, .int (nI k1)), (2, .int x1), (3, .int (nI n)), (4, .int (nI (zwa (ar 80) k1 n)))], [.int (nI (zwa (ar 80) k1 n)), .int (nI n), .ref 84], gh S a b sc23 ar23 lo, ex, 0, 0)) rfl ?_
        refine to_iasR (i := n) (h' := gh S a b sc23 (uA ar23 84 (upd (ar23 84) n (nI (zwa (ar 80) k1 n)))) lo) rfl rfl (by omega) (by omega) rfl ?_
        have hI24 := ia_84 (i := n) (v := (nI (zwa (ar 80) k1 n))) hI23 (rn_n (n := (zwa (ar 80) k1 n)) (by omega) (by omega))
        have hF24 := fr_a (c := 84) (g := (upd (ar23 84) n (nI (zwa (ar 80) k1 n)))) hF23 (by decide)
        refine to_n 1 (fr' := (22, [(0, .ref 49), (1, .int (nI k1)), (2, .int x1), (3, .int ((nI n) + 1)), (4, .int (nI (zwa (ar 80) k1 n)))], [], gh S a b sc23 (uA ar23 84 (upd (ar23 84) n (nI (zwa (ar 80) k1 n)))) lo, ex, 0, 0)) rfl ?_
        rw [nI_1 n]
        refine to_n 1 (fr' := (23, [(0, .ref 49), (1, .int (nI k1)), (2, .int x1), (3, .int (nI (n + 1))), (4, .int (nI (zwa (ar 80) k1 n)))], [.ref 49], gh S a b sc23 (uA ar23 84 (upd (ar23 84) n (nI (zwa (ar 80) k1 n)))) lo, ex, 0, 0)) rfl ?_
        refine to_get rfl rfl rfl rfl ?_
        refine to_n 1 (fr' := (28, [(0, .ref 49), (1, .int (nI k1)), (2, .int x1), (3, .int (nI (n + 1))), (4, .int (nI (zwa (ar 80) k1 n)))], [.int (nI (zwa (ar 80) k1 n)), .ref 80], gh S a b sc23 (uA ar23 84 (upd (ar23 84) n (nI (zwa (ar 80) k1 n)))) lo, ex, 0, 0)) rfl ?_
        refine to_ialR (i := (zwa (ar 80) k1 n)) (v := (ar 80 (zwa (ar 80) k1 n))) rfl (by decide) rfl (by omega) (by omega) (congrFun (hF24.2 80 (by decide)) (zwa (ar 80) k1 n)) ?_
        refine to_n 2 (fr' := (5, [(0, .ref 49), (1, .int (nI k1)), (2, .int x1), (3, .int (nI (n + 1))), (4, .int (ar 80 (zwa (ar 80) k1 n)))], [], gh S a b sc23 (uA ar23 84 (upd (ar23 84) n (nI (zwa (ar 80) k1 n)))) lo, ex, 0, 0)) rfl ?_
        exact ih (n + 1) (ar 80 (zwa (ar 80) k1 n)) sc23 (uA ar23 84 (upd (ar23 84) n (nI (zwa (ar 80) k1 n)))) (by omega) (zx_s hR h52 h53) (wy_s hc5_1) hc5_2 hc5_3 hc5_4 hI24 hF24
  refine to_n 4 (fr' := (5, [(0, .ref 49), (1, .int (nI k1)), (2, .int x1), (3, .int 0), (4, .int (nI k1))], [], gh S a b sc ar lo, ex, 0, 0)) rfl ?_
  exact c5 (128 - 0) 0 (nI k1) sc ar (by omega) (zx_0 hR (by omega) hkd hs) (fun j hj => absurd hj (Nat.not_lt_zero _)) rfl rfl rfl hI hF
set_option maxRecDepth 20000 in
theorem sf_X10_stays2 {X : Nat × (Nat → Int32)} {S a b : Nat} {sc : Nat → Int32} {ar : Nat → Nat → Int32} {lo : Nat → Int64} {ex : Bool} (hW : Wd S a b) (hI : Iv S sc ar) (k1 : Nat) (hk1 : k1 < S) (d : Nat)  : cp X S a b (d + 1) 161 [.ref 49, .int (nI k1)] sc ar lo ex (fun x => ((x = 1 ∧ (ar 51 k1 = 0 ∧ ar 77 k1 = 0)) ∨ (x = 0 ∧ ¬ (ar 51 k1 = 0 ∧ ar 77 k1 = 0)))) := by
  obtain ⟨ha1, ha8, hb1, hb8, hab, hS1, hS⟩ := id hW
  refine cp_of (M := an_X10_stays) rfl (Nat.le_of_ble_eq_true rfl) ?_
  refine to_eq (fr' := (0, [(0, .ref 49), (1, .int (nI k1))], [], gh S a b sc ar lo, ex, 0, 0)) rfl ?_
  refine to_n 1 (fr' := (1, [(0, .ref 49), (1, .int (nI k1))], [.ref 49], gh S a b sc ar lo, ex, 0, 0)) rfl ?_
  refine to_get rfl rfl rfl rfl ?_
  refine to_n 1 (fr' := (5, [(0, .ref 49), (1, .int (nI k1))], [.int (nI k1), .ref 51], gh S a b sc ar lo, ex, 0, 0)) rfl ?_
  refine to_ialR (i := k1) (v := (ar 51 k1)) rfl (by decide) rfl (by omega) (by omega) rfl ?_
  refine to_if_ne (t := 22) rfl (fun q1 => ?_) (fun q1 => ?_)
  · refine to_n 1 (fr' := (23, [(0, .ref 49), (1, .int (nI k1))], [.int 0], gh S a b sc ar lo, ex, 0, 0)) rfl ?_
    exact to_rt (i := .ireturn) (tg := []) rfl rfl ⟨_, (Or.inr ⟨rfl, (fun w => q1 w.1)⟩), rfl⟩
  · refine to_n 1 (fr' := (10, [(0, .ref 49), (1, .int (nI k1))], [.ref 49], gh S a b sc ar lo, ex, 0, 0)) rfl ?_
    refine to_get rfl rfl rfl rfl ?_
    refine to_n 1 (fr' := (14, [(0, .ref 49), (1, .int (nI k1))], [.int (nI k1), .ref 77], gh S a b sc ar lo, ex, 0, 0)) rfl ?_
    refine to_zalR (i := k1) (v := (ar 77 k1)) rfl rfl (by omega) (by omega) rfl ?_
    refine to_if_ne (t := 22) rfl (fun q2 => ?_) (fun q2 => ?_)
    · refine to_n 1 (fr' := (23, [(0, .ref 49), (1, .int (nI k1))], [.int 0], gh S a b sc ar lo, ex, 0, 0)) rfl ?_
      exact to_rt (i := .ireturn) (tg := []) rfl rfl ⟨_, (Or.inr ⟨rfl, (fun w => q2 w.2)⟩), rfl⟩
    · refine to_n 2 (fr' := (23, [(0, .ref 49), (1, .int (nI k1))], [.int 1], gh S a b sc ar lo, ex, 0, 0)) rfl ?_
      exact to_rt (i := .ireturn) (tg := []) rfl rfl ⟨_, (Or.inl ⟨rfl, ⟨q1, q2⟩⟩), rfl⟩
set_option maxRecDepth 20000 in
theorem sf_X10_isSource2 {X : Nat × (Nat → Int32)} {S a b : Nat} {sc : Nat → Int32} {ar : Nat → Nat → Int32} {lo : Nat → Int64} {ex : Bool} (hW : Wd S a b) (hI : Iv S sc ar) (k1 : Nat) (hk1 : k1 < S) (d : Nat)  : cp X S a b (d + 2) 160 [.ref 49, .int (nI k1)] sc ar lo ex (fun x => ((x = 1 ∧ zbb S a b (ar 51) k1) ∨ (x = 0 ∧ ¬ (zbb S a b (ar 51) k1)))) := by
  obtain ⟨ha1, ha8, hb1, hb8, hab, hS1, hS⟩ := id hW
  refine cp_of (M := an_X10_isSource) rfl (Nat.le_of_ble_eq_true rfl) ?_
  refine to_eq (fr' := (0, [(0, .ref 49), (1, .int (nI k1))], [], gh S a b sc ar lo, ex, 0, 0)) rfl ?_
  have c4 : ∀ m : Nat, ∀ (n : Nat) (i : Nat) , i + m = 4 → n < 2 → SB S a b (ar 51) k1 n i → ag_To X (d + 1) an_X10_isSource (4, [(0, .ref 49), (1, .int (nI k1)), (2, .int (nI n)), (3, .int (nI i))], [], gh S a b sc ar lo, ex, 0, 0) (qp S a b sc ar lo ex (fun x => ((x = 1 ∧ zbb S a b (ar 51) k1) ∨ (x = 0 ∧ ¬ (zbb S a b (ar 51) k1))))) := by
    intro m
    induction m with
    | zero =>
      intro n i hm hc4_0 hc4_1
      refine to_n 2 (fr' := (6, [(0, .ref 49), (1, .int (nI k1)), (2, .int (nI n)), (3, .int (nI i))], [.int 4, .int (nI i)], gh S a b sc ar lo, ex, 0, 0)) rfl ?_
      refine to_nc_ge_T (t := 42) (x := i) (y := 4) rfl (by omega) (by omega) (by omega) ?_
      refine to_n 1 (fr' := (43, [(0, .ref 49), (1, .int (nI k1)), (2, .int (nI n)), (3, .int (nI i))], [.int (nI n)], gh S a b sc ar lo, ex, 0, 0)) rfl ?_
      exact to_rt (i := .ireturn) (tg := []) rfl (ai_rtz (rl_n (n := n) (by omega))) ⟨_, (sb_4 (by have e9 : i = 4 := (by omega); subst e9; exact hc4_1)), rfl⟩
    | succ m ih =>
      intro n i hm hc4_0 hc4_1
      refine to_n 2 (fr' := (6, [(0, .ref 49), (1, .int (nI k1)), (2, .int (nI n)), (3, .int (nI i))], [.int 4, .int (nI i)], gh S a b sc ar lo, ex, 0, 0)) rfl ?_
      refine to_nc_ge_F (t := 42) (x := i) (y := 4) rfl (by omega) (by omega) (by omega) ?_
      refine to_n 3 (fr' := (12, [(0, .ref 49), (1, .int (nI k1)), (2, .int (nI n)), (3, .int (nI i))], [.int (nI i), .int (nI k1), .ref 49], gh S a b sc ar lo, ex, 0, 0)) rfl ?_
      refine to_cp (q := 112) (M1 := an_X10_beside) (rest := []) rfl rfl (by decide) rfl ⟨_, rfl⟩ (sf_X10_beside hW hI k1 (by omega) i (by omega) d) (fun x2 hx2 => ?_)
      obtain ⟨hx2, hp2⟩ := hx2
      rcases hx2 with rfl | ⟨n2, hn2, rfl⟩
      · refine to_eq (fr' := (15, [(0, .ref 49), (1, .int (nI k1)), (2, .int (nI n)), (3, .int (nI i))], [.int (-1)], gh S a b sc ar lo, ex, 0, 0)) rfl ?_
        refine to_n 5 (fr' := (39, [(0, .ref 49), (1, .int (nI k1)), (2, .int (nI n)), (3, .int ((nI i) + 1)), (4, .int (-1))], [], gh S a b sc ar lo, ex, 0, 0)) rfl ?_
        rw [nI_1 i]
        refine to_n 1 (fr' := (4, [(0, .ref 49), (1, .int (nI k1)), (2, .int (nI n)), (3, .int (nI (i + 1))), (4, .int (-1))], [], gh S a b sc ar lo, ex, 0, 0)) rfl ?_
        refine to_lv (lv := [(0, .ref 49), (1, .int (nI k1)), (2, .int (nI n)), (3, .int (nI (i + 1)))]) rfl ⟨rfl, rfl, rfl, rfl, trivial⟩ ?_
        exact ih n (i + 1) (by omega) (by omega) (sb_n hc4_1 (zbu_m hS hp2))
      · refine to_eq (fr' := (15, [(0, .ref 49), (1, .int (nI k1)), (2, .int (nI n)), (3, .int (nI i))], [.int (nI n2)], gh S a b sc ar lo, ex, 0, 0)) rfl ?_
        refine to_n 3 (fr' := (20, [(0, .ref 49), (1, .int (nI k1)), (2, .int (nI n)), (3, .int (nI i)), (4, .int (nI n2))], [.int (-1), .int (nI n2)], gh S a b sc ar lo, ex, 0, 0)) rfl ?_
        refine to_ic_eq_F (t := 36) (x := (nI n2)) (y := (-1)) rfl (nI_neg (by omega) (by decide)) ?_
        refine to_n 1 (fr' := (24, [(0, .ref 49), (1, .int (nI k1)), (2, .int (nI n)), (3, .int (nI i)), (4, .int (nI n2))], [.ref 49], gh S a b sc ar lo, ex, 0, 0)) rfl ?_
        refine to_get rfl rfl rfl rfl ?_
        refine to_n 1 (fr' := (29, [(0, .ref 49), (1, .int (nI k1)), (2, .int (nI n)), (3, .int (nI i)), (4, .int (nI n2))], [.int (nI n2), .ref 51], gh S a b sc ar lo, ex, 0, 0)) rfl ?_
        refine to_ialR (i := n2) (v := (ar 51 n2)) rfl (by decide) rfl (by omega) (by omega) rfl ?_
        refine to_n 1 (fr' := (31, [(0, .ref 49), (1, .int (nI k1)), (2, .int (nI n)), (3, .int (nI i)), (4, .int (nI n2))], [.int 1, .int (ar 51 n2)], gh S a b sc ar lo, ex, 0, 0)) rfl ?_
        refine to_ic_ne (t := 36) rfl (fun q3 => ?_) (fun q3 => ?_)
        · refine to_n 1 (fr' := (39, [(0, .ref 49), (1, .int (nI k1)), (2, .int (nI n)), (3, .int ((nI i) + 1)), (4, .int (nI n2))], [], gh S a b sc ar lo, ex, 0, 0)) rfl ?_
          rw [nI_1 i]
          refine to_n 1 (fr' := (4, [(0, .ref 49), (1, .int (nI k1)), (2, .int (nI n)), (3, .int (nI (i + 1))), (4, .int (nI n2))], [], gh S a b sc ar lo, ex, 0, 0)) rfl ?_
          refine to_lv (lv := [(0, .ref 49), (1, .int (nI k1)), (2, .int (nI n)), (3, .int (nI (i + 1)))]) rfl ⟨rfl, rfl, rfl, rfl, trivial⟩ ?_
          exact ih n (i + 1) (by omega) (by omega) (sb_n hc4_1 (zbu_f hS hn2 hp2 q3))
        · refine to_n 3 (fr' := (39, [(0, .ref 49), (1, .int (nI k1)), (2, .int 1), (3, .int ((nI i) + 1)), (4, .int (nI n2))], [], gh S a b sc ar lo, ex, 0, 0)) rfl ?_
          rw [nI_1 i]
          refine to_n 1 (fr' := (4, [(0, .ref 49), (1, .int (nI k1)), (2, .int 1), (3, .int (nI (i + 1))), (4, .int (nI n2))], [], gh S a b sc ar lo, ex, 0, 0)) rfl ?_
          refine to_lv (lv := [(0, .ref 49), (1, .int (nI k1)), (2, .int 1), (3, .int (nI (i + 1)))]) rfl ⟨rfl, rfl, rfl, rfl, trivial⟩ ?_
          exact ih 1 (i + 1) (by omega) (by omega) (sb_y (zbu_e hn2 hp2 q3))
  refine to_n 4 (fr' := (4, [(0, .ref 49), (1, .int (nI k1)), (2, .int 0), (3, .int 0)], [], gh S a b sc ar lo, ex, 0, 0)) rfl ?_
  exact c4 (4 - 0) 0 0 (by omega) (by omega) sb_0
set_option maxRecDepth 20000 in
theorem sf_X10_oneMore {X : Nat × (Nat → Int32)} {S a b : Nat} {sc : Nat → Int32} {ar : Nat → Nat → Int32} {lo : Nat → Int64} {ex : Bool} (hW : Wd S a b) (hI : Iv S sc ar) (t : Nat) (ht : t < S) (r : Nat) (hr : RI a b t (vW S t (ar 51) (ar 77)) (vM S a b t (ar 51) (ar 77)) (ar 79) (ar 82) (ar 83) r) (hst : (ar 51 t = 0 ∧ ar 77 t = 0)) (d : Nat)  : ci X S a b (d + 3) 162 [.ref 49, .int (nI t)] sc ar lo ex (fun x sc' ar' => Iv S sc' ar' ∧ Fr [] [79, 80, 81, 82, 83, 84] sc ar sc' ar' ∧ rl x 2 ∧ ((x = 0 ∧ zcut 64 (zbs 64 a b) (kW 64 (vW S t (ar 51) (ar 77))) (kW 64 (vM S a b t (ar 51) (ar 77))) (fun c => zbs 64 a b c t) r ∧ ar' 79 = ar 79 ∧ ar' 82 = ar 82 ∧ ar' 83 = ar 83) ∨ (x = 1 ∧ RI a b t (vW S t (ar 51) (ar 77)) (vM S a b t (ar 51) (ar 77)) (ar' 79) (ar' 82) (ar' 83) (r + 1)))) := by
  obtain ⟨ha1, ha8, hb1, hb8, hab, hS1, hS⟩ := id hW
  refine ci_of (M := an_X10_oneMore) rfl (Nat.le_of_ble_eq_true rfl) ?_
  have hF : Fr [] [79, 80, 81, 82, 83, 84] sc ar sc ar := fr_0
  refine to_eq (fr' := (0, [(0, .ref 49), (1, .int (nI t))], [], gh S a b sc ar lo, ex, 0, 0)) rfl ?_
  have c125 : ∀ m : Nat, ∀ (h : Nat) (q : Nat) (sc1 : Nat → Int32) (ar1 : Nat → Nat → Int32), 128 ≤ h + m → BQ 64 a b (vW S t (ar 51) (ar 77)) (vM S a b t (ar 51) (ar 77)) (ar 79) (ar 83) 64 q (zsf (ar1 80)) (ar1 81) → h ≤ q → RD a b t (vW S t (ar 51) (ar 77)) (ar 79) (ar 82) (ar 83) (zsf (ar1 80)) (ar1 81) h → RS (vM S a b t (ar 51) (ar 77)) (ar 79) (ar 83) (zsf (ar1 80)) 64 → ar1 79 = ar 79 → ar1 82 = ar 82 → ar1 83 = ar 83 → h ≤ 128 → Iv S sc1 ar1 → Fr [] [79, 80, 81, 82, 83, 84] sc ar sc1 ar1 → ag_To X (d + 2) an_X10_oneMore (125, [(0, .ref 49), (1, .int (nI t)), (2, .int (nI S)), (3, .int (nI h)), (4, .int (nI q))], [], gh S a b sc1 ar1 lo, ex, 0, 0) (qi S a b lo ex (fun x sc' ar' => Iv S sc' ar' ∧ Fr [] [79, 80, 81, 82, 83, 84] sc ar sc' ar' ∧ rl x 2 ∧ ((x = 0 ∧ zcut 64 (zbs 64 a b) (kW 64 (vW S t (ar 51) (ar 77))) (kW 64 (vM S a b t (ar 51) (ar 77))) (fun c => zbs 64 a b c t) r ∧ ar' 79 = ar 79 ∧ ar' 82 = ar 82 ∧ ar' 83 = ar 83) ∨ (x = 1 ∧ RI a b t (vW S t (ar 51) (ar 77)) (vM S a b t (ar 51) (ar 77)) (ar' 79) (ar' 82) (ar' 83) (r + 1))))) := by
    intro m
    induction m with
    | zero =>
      intro h q sc1 ar1 hm hc125_0 hc125_1 hc125_2 hc125_3 hc125_4 hc125_5 hc125_6 hc125_7 hI1 hF1
      have hq9 := bq_le (Nat.le_refl 64) hc125_0
      refine to_n 2 (fr' := (128, [(0, .ref 49), (1, .int (nI t)), (2, .int (nI S)), (3, .int (nI h)), (4, .int (nI q))], [.int (nI q), .int (nI h)], gh S a b sc1 ar1 lo, ex, 0, 0)) rfl ?_
      refine to_nc_ge_T (t := 466) (x := h) (y := q) rfl (by omega) (by omega) (by omega) ?_
      refine to_n 1 (fr' := (467, [(0, .ref 49), (1, .int (nI t)), (2, .int (nI S)), (3, .int (nI h)), (4, .int (nI q))], [.int 0], gh S a b sc1 ar1 lo, ex, 0, 0)) rfl ?_
      exact to_rt (i := .ireturn) (tg := []) rfl rfl ⟨_, _, _, ⟨hI1, hF1, ⟨rl_n (n := 0) (by omega), (Or.inl ⟨rfl, rd_clo (by omega) (fun c w => (vW_k hS).mpr ((vM_k hS).mp w).1) (fun w => ((vW_k hS).mp w).2.2.2 rfl) hr hc125_0 (by have e9 : h = q := (by omega); subst e9; exact hc125_2) hc125_3, hc125_4, hc125_5, hc125_6⟩)⟩⟩, rfl⟩
    | succ m ih =>
      intro h q sc1 ar1 hm hc125_0 hc125_1 hc125_2 hc125_3 hc125_4 hc125_5 hc125_6 hc125_7 hI1 hF1
      have hq9 := bq_le (Nat.le_refl 64) hc125_0
      have c349 : ∀ m : Nat, ∀ (q1 : Nat) (v : Nat) (k : Nat) (w : Nat) (sc2 : Nat → Int32) (ar2 : Nat → Nat → Int32), w + m = 4 → k < S → v = 64 + k → BQ 64 a b (vW S t (ar 51) (ar 77)) (vM S a b t (ar 51) (ar 77)) (ar 79) (ar 83) 64 q1 (zsf (ar2 80)) (ar2 81) → h + 1 ≤ q1 → ar2 81 h = nI v → RD a b t (vW S t (ar 51) (ar 77)) (ar 79) (ar 82) (ar 83) (zsf (ar2 80)) (ar2 81) h → RS (vM S a b t (ar 51) (ar 77)) (ar 79) (ar 83) (zsf (ar2 80)) 64 → (kW 64 (ar 79) k → kS 64 (zsf (ar2 80)) k) → RX a b t k (vW S t (ar 51) (ar 77)) (ar 79) (ar 82) (zsf (ar2 80)) w → ar2 79 = ar 79 → ar2 82 = ar 82 → ar2 83 = ar 83 → Iv S sc2 ar2 → Fr [] [79, 80, 81, 82, 83, 84] sc ar sc2 ar2 → ag_To X (d + 2) an_X10_oneMore (349, [(0, .ref 49), (1, .int (nI t)), (2, .int (nI S)), (3, .int (nI (h + 1))), (4, .int (nI q1)), (5, .int (nI v)), (6, .int (nI k)), (8, .int (nI w))], [], gh S a b sc2 ar2 lo, ex, 0, 0) (qi S a b lo ex (fun x sc' ar' => Iv S sc' ar' ∧ Fr [] [79, 80, 81, 82, 83, 84] sc ar sc' ar' ∧ rl x 2 ∧ ((x = 0 ∧ zcut 64 (zbs 64 a b) (kW 64 (vW S t (ar 51) (ar 77))) (kW 64 (vM S a b t (ar 51) (ar 77))) (fun c => zbs 64 a b c t) r ∧ ar' 79 = ar 79 ∧ ar' 82 = ar 82 ∧ ar' 83 = ar 83) ∨ (x = 1 ∧ RI a b t (vW S t (ar 51) (ar 77)) (vM S a b t (ar 51) (ar 77)) (ar' 79) (ar' 82) (ar' 83) (r + 1))))) := by
        intro m
        induction m with
        | zero =>
          intro q1 v k w sc2 ar2 hm hc349_0 hc349_1 hc349_2 hc349_3 hc349_4 hc349_5 hc349_6 hc349_7 hc349_8 hc349_9 hc349_10 hc349_11 hI2 hF2
          have hq8 := bq_le (Nat.le_refl 64) hc349_2
          subst hc349_1
          refine to_eq (fr' := (349, [(0, .ref 49), (1, .int (nI t)), (2, .int (nI S)), (3, .int (nI (h + 1))), (4, .int (nI q1)), (5, .int (nI (64 + k))), (6, .int (nI k)), (8, .int (nI w))], [], gh S a b sc2 ar2 lo, ex, 0, 0)) rfl ?_
          refine to_n 2 (fr' := (352, [(0, .ref 49), (1, .int (nI t)), (2, .int (nI S)), (3, .int (nI (h + 1))), (4, .int (nI q1)), (5, .int (nI (64 + k))), (6, .int (nI k)), (8, .int (nI w))], [.int 4, .int (nI w)], gh S a b sc2 ar2 lo, ex, 0, 0)) rfl ?_
          refine to_nc_ge_T (t := 463) (x := w) (y := 4) rfl (by omega) (by omega) (by omega) ?_
          refine to_n 1 (fr' := (125, [(0, .ref 49), (1, .int (nI t)), (2, .int (nI S)), (3, .int (nI (h + 1))), (4, .int (nI q1)), (5, .int (nI (64 + k))), (6, .int (nI k)), (8, .int (nI w))], [], gh S a b sc2 ar2 lo, ex, 0, 0)) rfl ?_
          refine to_lv (lv := [(0, .ref 49), (1, .int (nI t)), (2, .int (nI S)), (3, .int (nI (h + 1))), (4, .int (nI q1))]) rfl ⟨rfl, rfl, rfl, rfl, rfl, trivial⟩ ?_
          exact ih (h + 1) q1 sc2 ar2 (by omega) hc349_2 (by omega) (rd_x hc349_5 (by omega) hc349_4 (rx_4 (by omega) (by have e9 : w = 4 := (by omega); subst e9; exact hc349_8) hc349_7)) hc349_6 hc349_9 hc349_10 hc349_11 (by omega) hI2 hF2
        | succ m ih =>
          intro q1 v k w sc2 ar2 hm hc349_0 hc349_1 hc349_2 hc349_3 hc349_4 hc349_5 hc349_6 hc349_7 hc349_8 hc349_9 hc349_10 hc349_11 hI2 hF2
          have hq8 := bq_le (Nat.le_refl 64) hc349_2
          subst hc349_1
          refine to_eq (fr' := (349, [(0, .ref 49), (1, .int (nI t)), (2, .int (nI S)), (3, .int (nI (h + 1))), (4, .int (nI q1)), (5, .int (nI (64 + k))), (6, .int (nI k)), (8, .int (nI w))], [], gh S a b sc2 ar2 lo, ex, 0, 0)) rfl ?_
          refine to_n 2 (fr' := (352, [(0, .ref 49), (1, .int (nI t)), (2, .int (nI S)), (3, .int (nI (h + 1))), (4, .int (nI q1)), (5, .int (nI (64 + k))), (6, .int (nI k)), (8, .int (nI w))], [.int 4, .int (nI w)], gh S a b sc2 ar2 lo, ex, 0, 0)) rfl ?_
          refine to_nc_ge_F (t := 463) (x := w) (y := 4) rfl (by omega) (by omega) (by omega) ?_
          refine to_n 3 (fr' := (360, [(0, .ref 49), (1, .int (nI t)), (2, .int (nI S)), (3, .int (nI (h + 1))), (4, .int (nI q1)), (5, .int (nI (64 + k))), (6, .int (nI k)), (8, .int (nI w))], [.int (nI w), .int (nI k), .ref 49], gh S a b sc2 ar2 lo, ex, 0, 0)) rfl ?_
          refine to_cp (q := 112) (M1 := an_X10_beside) (rest := []) rfl rfl (by decide) rfl ⟨_, rfl⟩ (sf_X10_beside hW hI2 k (by omega) w (by omega) (d + 1)) (fun x3 hx3 => ?_)
          obtain ⟨hx3, hp3⟩ := hx3
          rcases hx3 with rfl | ⟨n3, hn3, rfl⟩
          · refine to_eq (fr' := (363, [(0, .ref 49), (1, .int (nI t)), (2, .int (nI S)), (3, .int (nI (h + 1))), (4, .int (nI q1)), (5, .int (nI (64 + k))), (6, .int (nI k)), (8, .int (nI w))], [.int (-1)], gh S a b sc2 ar2 lo, ex, 0, 0)) rfl ?_
            refine to_n 5 (fr' := (460, [(0, .ref 49), (1, .int (nI t)), (2, .int (nI S)), (3, .int (nI (h + 1))), (4, .int (nI q1)), (5, .int (nI (64 + k))), (6, .int (nI k)), (8, .int ((nI w) + 1)), (9, .int (-1))], [], gh S a b sc2 ar2 lo, ex, 0, 0)) rfl ?_
            rw [nI_1 w]
            refine to_n 1 (fr' := (349, [(0, .ref 49), (1, .int (nI t)), (2, .int (nI S)), (3, .int (nI (h + 1))), (4, .int (nI q1)), (5, .int (nI (64 + k))), (6, .int (nI k)), (8, .int (nI (w + 1))), (9, .int (-1))], [], gh S a b sc2 ar2 lo, ex, 0, 0)) rfl ?_
            refine to_lv (lv := [(0, .ref 49), (1, .int (nI t)), (2, .int (nI S)), (3, .int (nI (h + 1))), (4, .int (nI q1)), (5, .int (nI (64 + k))), (6, .int (nI k)), (8, .int (nI (w + 1)))]) rfl ⟨rfl, rfl, rfl, rfl, rfl, rfl, rfl, rfl, trivial⟩ ?_
            exact ih q1 (64 + k) k (w + 1) sc2 ar2 (by omega) hc349_0 rfl hc349_2 (by omega) hc349_4 hc349_5 hc349_6 hc349_7 (rx_s (fun _ _ => rfl) hc349_8 (fun d9 h9 z9 => absurd (hp3.trans z9).symm (nI_neg (by omega) (by decide)))) hc349_9 hc349_10 hc349_11 hI2 hF2
          · refine to_eq (fr' := (363, [(0, .ref 49), (1, .int (nI t)), (2, .int (nI S)), (3, .int (nI (h + 1))), (4, .int (nI q1)), (5, .int (nI (64 + k))), (6, .int (nI k)), (8, .int (nI w))], [.int (nI n3)], gh S a b sc2 ar2 lo, ex, 0, 0)) rfl ?_
            refine to_n 3 (fr' := (368, [(0, .ref 49), (1, .int (nI t)), (2, .int (nI S)), (3, .int (nI (h + 1))), (4, .int (nI q1)), (5, .int (nI (64 + k))), (6, .int (nI k)), (8, .int (nI w)), (9, .int (nI n3))], [.int (-1), .int (nI n3)], gh S a b sc2 ar2 lo, ex, 0, 0)) rfl ?_
            refine to_ic_eq_F (t := 457) (x := (nI n3)) (y := (-1)) rfl (nI_neg (by omega) (by decide)) ?_
            refine to_n 2 (fr' := (374, [(0, .ref 49), (1, .int (nI t)), (2, .int (nI S)), (3, .int (nI (h + 1))), (4, .int (nI q1)), (5, .int (nI (64 + k))), (6, .int (nI k)), (8, .int (nI w)), (9, .int (nI n3))], [.int (nI n3), .ref 49], gh S a b sc2 ar2 lo, ex, 0, 0)) rfl ?_
            refine to_cp (q := 161) (M1 := an_X10_stays) (rest := []) rfl rfl (by decide) rfl ⟨_, rfl⟩ (sf_X10_stays2 hW hI2 n3 (by omega) (d + 1)) (fun x4 hx4 => ?_)
            simp only [show ar2 51 = ar 51 from hF2.2 51 (by decide), show ar2 77 = ar 77 from hF2.2 77 (by decide)] at hx4
            rcases hx4 with ⟨rfl, w4⟩ | ⟨rfl, w4⟩
            · refine to_eq (fr' := (377, [(0, .ref 49), (1, .int (nI t)), (2, .int (nI S)), (3, .int (nI (h + 1))), (4, .int (nI q1)), (5, .int (nI (64 + k))), (6, .int (nI k)), (8, .int (nI w)), (9, .int (nI n3))], [.int 1], gh S a b sc2 ar2 lo, ex, 0, 0)) rfl ?_
              refine to_n 2 (fr' := (381, [(0, .ref 49), (1, .int (nI t)), (2, .int (nI S)), (3, .int (nI (h + 1))), (4, .int (nI q1)), (5, .int (nI (64 + k))), (6, .int (nI k)), (8, .int (nI w)), (9, .int (nI n3))], [.ref 49], gh S a b sc2 ar2 lo, ex, 0, 0)) rfl ?_
              refine to_get rfl rfl rfl rfl ?_
              refine to_n 1 (fr' := (386, [(0, .ref 49), (1, .int (nI t)), (2, .int (nI S)), (3, .int (nI (h + 1))), (4, .int (nI q1)), (5, .int (nI (64 + k))), (6, .int (nI k)), (8, .int (nI w)), (9, .int (nI n3))], [.int (nI k), .ref 79], gh S a b sc2 ar2 lo, ex, 0, 0)) rfl ?_
              refine to_ialR (i := k) (v := (ar 79 k)) rfl (by decide) rfl (by omega) (by omega) (congrFun hc349_9 k) ?_
              refine to_n 1 (fr' := (388, [(0, .ref 49), (1, .int (nI t)), (2, .int (nI S)), (3, .int (nI (h + 1))), (4, .int (nI q1)), (5, .int (nI (64 + k))), (6, .int (nI k)), (8, .int (nI w)), (9, .int (nI n3))], [.int 1, .int (ar 79 k)], gh S a b sc2 ar2 lo, ex, 0, 0)) rfl ?_
              refine to_ic_ne (t := 406) rfl (fun q5 => ?_) (fun q5 => ?_)
              · refine to_n 2 (fr' := (409, [(0, .ref 49), (1, .int (nI t)), (2, .int (nI S)), (3, .int (nI (h + 1))), (4, .int (nI q1)), (5, .int (nI (64 + k))), (6, .int (nI k)), (8, .int (nI w)), (9, .int (nI n3))], [.int (nI t), .int (nI n3)], gh S a b sc2 ar2 lo, ex, 0, 0)) rfl ?_
                refine to_nc_ne (t := 421) (x := n3) (y := t) rfl (by omega) (by omega) (fun q6 => ?_) (fun q6 => ?_)
                · refine to_n 1 (fr' := (422, [(0, .ref 49), (1, .int (nI t)), (2, .int (nI S)), (3, .int (nI (h + 1))), (4, .int (nI q1)), (5, .int (nI (64 + k))), (6, .int (nI k)), (8, .int (nI w)), (9, .int (nI n3))], [.ref 49], gh S a b sc2 ar2 lo, ex, 0, 0)) rfl ?_
                  refine to_get rfl rfl rfl rfl ?_
                  refine to_n 1 (fr' := (427, [(0, .ref 49), (1, .int (nI t)), (2, .int (nI S)), (3, .int (nI (h + 1))), (4, .int (nI q1)), (5, .int (nI (64 + k))), (6, .int (nI k)), (8, .int (nI w)), (9, .int (nI n3))], [.int (nI n3), .ref 80], gh S a b sc2 ar2 lo, ex, 0, 0)) rfl ?_
                  refine to_ialR (i := n3) (v := (ar2 80 n3)) rfl (by decide) rfl (by omega) (by omega) rfl ?_
                  refine to_n 1 (fr' := (430, [(0, .ref 49), (1, .int (nI t)), (2, .int (nI S)), (3, .int (nI (h + 1))), (4, .int (nI q1)), (5, .int (nI (64 + k))), (6, .int (nI k)), (8, .int (nI w)), (9, .int (nI n3))], [.int (-2), .int (ar2 80 n3)], gh S a b sc2 ar2 lo, ex, 0, 0)) rfl ?_
                  refine to_ic_eq (t := 436) rfl (fun q7 => ?_) (fun q7 => ?_)
                  · refine to_n 1 (fr' := (437, [(0, .ref 49), (1, .int (nI t)), (2, .int (nI S)), (3, .int (nI (h + 1))), (4, .int (nI q1)), (5, .int (nI (64 + k))), (6, .int (nI k)), (8, .int (nI w)), (9, .int (nI n3))], [.ref 49], gh S a b sc2 ar2 lo, ex, 0, 0)) rfl ?_
                    refine to_get rfl rfl rfl rfl ?_
                    refine to_n 2 (fr' := (444, [(0, .ref 49), (1, .int (nI t)), (2, .int (nI S)), (3, .int (nI (h + 1))), (4, .int (nI q1)), (5, .int (nI (64 + k))), (6, .int (nI k)), (8, .int (nI w)), (9, .int (nI n3))], [.int (nI (64 + k)), .int (nI n3), .ref 80], gh S a b sc2 ar2 lo, ex, 0, 0)) rfl ?_
                    refine to_iasR (i := n3) (h' := gh S a b sc2 (uA ar2 80 (upd (ar2 80) n3 (nI (64 + k)))) lo) rfl rfl (by omega) (by omega) rfl ?_
                    have hI8 := ia_80 (i := n3) (v := (nI (64 + k))) hI2 (rm_n (n := (64 + k)) (by omega) (by omega))
                    have hF8 := fr_a (c := 80) (g := (upd (ar2 80) n3 (nI (64 + k)))) hF2 (by decide)
                    have hr8 := bq_room (Nat.le_refl 64) hc349_2 (n := n3) (by omega) (zsw_1.mpr q7)
                    refine to_n 1 (fr' := (446, [(0, .ref 49), (1, .int (nI t)), (2, .int (nI S)), (3, .int (nI (h + 1))), (4, .int (nI q1)), (5, .int (nI (64 + k))), (6, .int (nI k)), (8, .int (nI w)), (9, .int (nI n3))], [.ref 49], gh S a b sc2 (uA ar2 80 (upd (ar2 80) n3 (nI (64 + k)))) lo, ex, 0, 0)) rfl ?_
                    refine to_get rfl rfl rfl rfl ?_
                    refine to_n 2 (fr' := (453, [(0, .ref 49), (1, .int (nI t)), (2, .int (nI S)), (3, .int (nI (h + 1))), (4, .int (nI q1)), (5, .int (nI (64 + k))), (6, .int (nI k)), (8, .int (nI w)), (9, .int (nI n3))], [.int (nI n3), .int (nI q1), .ref 81], gh S a b sc2 (uA ar2 80 (upd (ar2 80) n3 (nI (64 + k)))) lo, ex, 0, 0)) rfl ?_
                    refine to_iasR (i := q1) (h' := gh S a b sc2 (uA (uA ar2 80 (upd (ar2 80) n3 (nI (64 + k)))) 81 (upd ((uA ar2 80 (upd (ar2 80) n3 (nI (64 + k)))) 81) q1 (nI n3))) lo) rfl rfl (by omega) (by omega) rfl ?_
                    have hI9 := ia_81 (i := q1) (v := (nI n3)) hI8 (rn_n (n := n3) (by omega) (by omega))
                    have hF9 := fr_a (c := 81) (g := (upd ((uA ar2 80 (upd (ar2 80) n3 (nI (64 + k)))) 81) q1 (nI n3))) hF8 (by decide)
                    have hb9 : BQ 64 a b (vW S t (ar 51) (ar 77)) (vM S a b t (ar 51) (ar 77)) (ar 79) (ar 83) 64 (q1 + 1) (zsf ((uA (uA ar2 80 (upd (ar2 80) n3 (nI (64 + k)))) 81 (upd ((uA ar2 80 (upd (ar2 80) n3 (nI (64 + k)))) 81) q1 (nI n3))) 80)) ((uA (uA ar2 80 (upd (ar2 80) n3 (nI (64 + k)))) 81 (upd ((uA ar2 80 (upd (ar2 80) n3 (nI (64 + k)))) 81) q1 (nI n3))) 81) := (by rw [show zsf ((uA (uA ar2 80 (upd (ar2 80) n3 (nI (64 + k)))) 81 (upd ((uA ar2 80 (upd (ar2 80) n3 (nI (64 + k)))) 81) q1 (nI n3))) 80) = upd (zsf (ar2 80)) n3 (nI (64 + k)) from (zsf_u (f := (ar2 80)) (n := n3) (v := (nI (64 + k)))).trans (by rw [zsw_n (by omega)])]; exact (bq_put (Nat.le_refl 64) hc349_2 (by omega) (zsw_1.mpr q7) (Or.inl ⟨by omega, (vW_k hS).mpr ⟨by omega, w4.1, w4.2, q6⟩, Or.inr (Or.inl ⟨k, by omega, rfl, (bq_k hc349_2 (by omega) (by omega) hc349_4), fun e9 => zbs_ir ha1 ha8 (Nat.le_refl 64) (e9 ▸ (show zbs 64 a b k n3 from ⟨by omega, by omega, zwy w, zwy_lt, hp3.symm⟩)), (show zbs 64 a b k n3 from ⟨by omega, by omega, zwy w, zwy_lt, hp3.symm⟩)⟩)⟩)).2)
                    have hm9 : BM q1 (q1 + 1) (zsf (ar2 80)) ((uA ar2 80 (upd (ar2 80) n3 (nI (64 + k)))) 81) (zsf ((uA (uA ar2 80 (upd (ar2 80) n3 (nI (64 + k)))) 81 (upd ((uA ar2 80 (upd (ar2 80) n3 (nI (64 + k)))) 81) q1 (nI n3))) 80)) ((uA (uA ar2 80 (upd (ar2 80) n3 (nI (64 + k)))) 81 (upd ((uA ar2 80 (upd (ar2 80) n3 (nI (64 + k)))) 81) q1 (nI n3))) 81) := (by rw [show zsf ((uA (uA ar2 80 (upd (ar2 80) n3 (nI (64 + k)))) 81 (upd ((uA ar2 80 (upd (ar2 80) n3 (nI (64 + k)))) 81) q1 (nI n3))) 80) = upd (zsf (ar2 80)) n3 (nI (64 + k)) from (zsf_u (f := (ar2 80)) (n := n3) (v := (nI (64 + k)))).trans (by rw [zsw_n (by omega)])]; exact bm_put (zsw_1.mpr q7))
                    refine to_n 1 (fr' := (457, [(0, .ref 49), (1, .int (nI t)), (2, .int (nI S)), (3, .int (nI (h + 1))), (4, .int ((nI q1) + 1)), (5, .int (nI (64 + k))), (6, .int (nI k)), (8, .int (nI w)), (9, .int (nI n3))], [], gh S a b sc2 (uA (uA ar2 80 (upd (ar2 80) n3 (nI (64 + k)))) 81 (upd ((uA ar2 80 (upd (ar2 80) n3 (nI (64 + k)))) 81) q1 (nI n3))) lo, ex, 0, 0)) rfl ?_
                    rw [nI_1 q1]
                    refine to_n 1 (fr' := (460, [(0, .ref 49), (1, .int (nI t)), (2, .int (nI S)), (3, .int (nI (h + 1))), (4, .int (nI (q1 + 1))), (5, .int (nI (64 + k))), (6, .int (nI k)), (8, .int ((nI w) + 1)), (9, .int (nI n3))], [], gh S a b sc2 (uA (uA ar2 80 (upd (ar2 80) n3 (nI (64 + k)))) 81 (upd ((uA ar2 80 (upd (ar2 80) n3 (nI (64 + k)))) 81) q1 (nI n3))) lo, ex, 0, 0)) rfl ?_
                    rw [nI_1 w]
                    refine to_n 1 (fr' := (349, [(0, .ref 49), (1, .int (nI t)), (2, .int (nI S)), (3, .int (nI (h + 1))), (4, .int (nI (q1 + 1))), (5, .int (nI (64 + k))), (6, .int (nI k)), (8, .int (nI (w + 1))), (9, .int (nI n3))], [], gh S a b sc2 (uA (uA ar2 80 (upd (ar2 80) n3 (nI (64 + k)))) 81 (upd ((uA ar2 80 (upd (ar2 80) n3 (nI (64 + k)))) 81) q1 (nI n3))) lo, ex, 0, 0)) rfl ?_
                    refine to_lv (lv := [(0, .ref 49), (1, .int (nI t)), (2, .int (nI S)), (3, .int (nI (h + 1))), (4, .int (nI (q1 + 1))), (5, .int (nI (64 + k))), (6, .int (nI k)), (8, .int (nI (w + 1)))]) rfl ⟨rfl, rfl, rfl, rfl, rfl, rfl, rfl, rfl, trivial⟩ ?_
                    exact ih (q1 + 1) (64 + k) k (w + 1) sc2 (uA (uA ar2 80 (upd (ar2 80) n3 (nI (64 + k)))) 81 (upd ((uA ar2 80 (upd (ar2 80) n3 (nI (64 + k)))) 81) q1 (nI n3))) (by omega) hc349_0 rfl hb9 (by omega) ((hm9.2.2 h (by omega)).trans hc349_4) (rd_m hm9 (by omega) hc349_5) (rs_m hm9.2.1 hc349_6) (fun u => bm_s hm9 (hc349_7 u)) (rx_s hm9.2.1 hc349_8 (fun d9 h9 z9 => by have u9 : n3 = d9 := (nI_eq (by omega) (by omega)).mp (hp3.trans z9); subst u9; exact ⟨fun e8 => absurd e8 q6, fun _ _ => ⟨by omega, fun e9 => absurd (zsw_1.mp e9) (by show ¬ upd _ _ _ _ = _; rw [ug_eq]; exact nI_neg (by omega) (by decide))⟩⟩)) hc349_9 hc349_10 hc349_11 hI9 hF9
                  · refine to_n 2 (fr' := (460, [(0, .ref 49), (1, .int (nI t)), (2, .int (nI S)), (3, .int (nI (h + 1))), (4, .int (nI q1)), (5, .int (nI (64 + k))), (6, .int (nI k)), (8, .int ((nI w) + 1)), (9, .int (nI n3))], [], gh S a b sc2 ar2 lo, ex, 0, 0)) rfl ?_
                    rw [nI_1 w]
                    refine to_n 1 (fr' := (349, [(0, .ref 49), (1, .int (nI t)), (2, .int (nI S)), (3, .int (nI (h + 1))), (4, .int (nI q1)), (5, .int (nI (64 + k))), (6, .int (nI k)), (8, .int (nI (w + 1))), (9, .int (nI n3))], [], gh S a b sc2 ar2 lo, ex, 0, 0)) rfl ?_
                    refine to_lv (lv := [(0, .ref 49), (1, .int (nI t)), (2, .int (nI S)), (3, .int (nI (h + 1))), (4, .int (nI q1)), (5, .int (nI (64 + k))), (6, .int (nI k)), (8, .int (nI (w + 1)))]) rfl ⟨rfl, rfl, rfl, rfl, rfl, rfl, rfl, rfl, trivial⟩ ?_
                    exact ih q1 (64 + k) k (w + 1) sc2 ar2 (by omega) hc349_0 rfl hc349_2 (by omega) hc349_4 hc349_5 hc349_6 hc349_7 (rx_s (fun _ _ => rfl) hc349_8 (fun d9 h9 z9 => by have u9 : n3 = d9 := (nI_eq (by omega) (by omega)).mp (hp3.trans z9); subst u9; exact ⟨fun e8 => absurd e8 q6, fun _ _ => ⟨by omega, fun e9 => q7 (zsw_1.mp e9)⟩⟩)) hc349_9 hc349_10 hc349_11 hI2 hF2
                · refine to_n 3 (fr' := (416, [(0, .ref 49), (1, .int (nI t)), (2, .int (nI S)), (3, .int (nI (h + 1))), (4, .int (nI q1)), (5, .int (nI (64 + k))), (6, .int (nI k)), (8, .int (nI w)), (9, .int (nI n3))], [.int (nI t), .int (nI (64 + k)), .ref 49], gh S a b sc2 ar2 lo, ex, 0, 0)) rfl ?_
                  obtain ⟨rk, hp9, hR9⟩ := tr_of (iv_a80 hI2) hc349_2
                  refine to_cv (q := 163) (M1 := an_X10_trace) (rest := []) rfl rfl (by decide) rfl ⟨_, rfl⟩ (sf_X10_trace hW hI2 (64 + k) (by omega) (nI t) rk (by omega) (by omega) hR9 (fun e9 => (bq_k hc349_2 (by omega) (by omega) hc349_4).2 (zsw_1.mpr e9)) (d + 1)) (fun sc10 ar10 hx10 => ?_)
                  obtain ⟨hI10, hG10, hx10⟩ := hx10
                  have hF10 := fr_t hF2 hG10 (by decide) (by decide)
                  rw [hc349_9, hc349_10, hc349_11] at hx10
                  refine to_eq (fr' := (419, [(0, .ref 49), (1, .int (nI t)), (2, .int (nI S)), (3, .int (nI (h + 1))), (4, .int (nI q1)), (5, .int (nI (64 + k))), (6, .int (nI k)), (8, .int (nI w)), (9, .int (nI n3))], [], gh S a b sc10 ar10 lo, ex, 0, 0)) rfl ?_
                  refine to_n 1 (fr' := (420, [(0, .ref 49), (1, .int (nI t)), (2, .int (nI S)), (3, .int (nI (h + 1))), (4, .int (nI q1)), (5, .int (nI (64 + k))), (6, .int (nI k)), (8, .int (nI w)), (9, .int (nI n3))], [.int 1], gh S a b sc10 ar10 lo, ex, 0, 0)) rfl ?_
                  exact to_rt (i := .ireturn) (tg := []) rfl rfl ⟨_, _, _, ⟨hI10, hF10, ⟨rl_n (n := 1) (by omega), (Or.inr ⟨rfl, tr_RI ha1 ha8 (fun w => ((vW_k hS).mp w).2.2.2 rfl) (by omega) (by omega) (by have z9 := (show zbs 64 a b k n3 from ⟨by omega, by omega, zwy w, zwy_lt, hp3.symm⟩); rw [q6] at z9; exact z9) hr hp9 hx10⟩)⟩⟩, rfl⟩
              · refine to_n 1 (fr' := (392, [(0, .ref 49), (1, .int (nI t)), (2, .int (nI S)), (3, .int (nI (h + 1))), (4, .int (nI q1)), (5, .int (nI (64 + k))), (6, .int (nI k)), (8, .int (nI w)), (9, .int (nI n3))], [.ref 49], gh S a b sc2 ar2 lo, ex, 0, 0)) rfl ?_
                refine to_get rfl rfl rfl rfl ?_
                refine to_n 1 (fr' := (397, [(0, .ref 49), (1, .int (nI t)), (2, .int (nI S)), (3, .int (nI (h + 1))), (4, .int (nI q1)), (5, .int (nI (64 + k))), (6, .int (nI k)), (8, .int (nI w)), (9, .int (nI n3))], [.int (nI k), .ref 82], gh S a b sc2 ar2 lo, ex, 0, 0)) rfl ?_
                refine to_ialR (i := k) (v := (ar 82 k)) rfl (by decide) rfl (by omega) (by omega) (congrFun hc349_10 k) ?_
                refine to_n 1 (fr' := (400, [(0, .ref 49), (1, .int (nI t)), (2, .int (nI S)), (3, .int (nI (h + 1))), (4, .int (nI q1)), (5, .int (nI (64 + k))), (6, .int (nI k)), (8, .int (nI w)), (9, .int (nI n3))], [.int (nI n3), .int (ar 82 k)], gh S a b sc2 ar2 lo, ex, 0, 0)) rfl ?_
                refine to_ic_ne (t := 406) rfl (fun q11 => ?_) (fun q11 => ?_)
                · refine to_n 2 (fr' := (409, [(0, .ref 49), (1, .int (nI t)), (2, .int (nI S)), (3, .int (nI (h + 1))), (4, .int (nI q1)), (5, .int (nI (64 + k))), (6, .int (nI k)), (8, .int (nI w)), (9, .int (nI n3))], [.int (nI t), .int (nI n3)], gh S a b sc2 ar2 lo, ex, 0, 0)) rfl ?_
                  refine to_nc_ne (t := 421) (x := n3) (y := t) rfl (by omega) (by omega) (fun q12 => ?_) (fun q12 => ?_)
                  · refine to_n 1 (fr' := (422, [(0, .ref 49), (1, .int (nI t)), (2, .int (nI S)), (3, .int (nI (h + 1))), (4, .int (nI q1)), (5, .int (nI (64 + k))), (6, .int (nI k)), (8, .int (nI w)), (9, .int (nI n3))], [.ref 49], gh S a b sc2 ar2 lo, ex, 0, 0)) rfl ?_
                    refine to_get rfl rfl rfl rfl ?_
                    refine to_n 1 (fr' := (427, [(0, .ref 49), (1, .int (nI t)), (2, .int (nI S)), (3, .int (nI (h + 1))), (4, .int (nI q1)), (5, .int (nI (64 + k))), (6, .int (nI k)), (8, .int (nI w)), (9, .int (nI n3))], [.int (nI n3), .ref 80], gh S a b sc2 ar2 lo, ex, 0, 0)) rfl ?_
                    refine to_ialR (i := n3) (v := (ar2 80 n3)) rfl (by decide) rfl (by omega) (by omega) rfl ?_
                    refine to_n 1 (fr' := (430, [(0, .ref 49), (1, .int (nI t)), (2, .int (nI S)), (3, .int (nI (h + 1))), (4, .int (nI q1)), (5, .int (nI (64 + k))), (6, .int (nI k)), (8, .int (nI w)), (9, .int (nI n3))], [.int (-2), .int (ar2 80 n3)], gh S a b sc2 ar2 lo, ex, 0, 0)) rfl ?_
                    refine to_ic_eq (t := 436) rfl (fun q13 => ?_) (fun q13 => ?_)
                    · refine to_n 1 (fr' := (437, [(0, .ref 49), (1, .int (nI t)), (2, .int (nI S)), (3, .int (nI (h + 1))), (4, .int (nI q1)), (5, .int (nI (64 + k))), (6, .int (nI k)), (8, .int (nI w)), (9, .int (nI n3))], [.ref 49], gh S a b sc2 ar2 lo, ex, 0, 0)) rfl ?_
                      refine to_get rfl rfl rfl rfl ?_
                      refine to_n 2 (fr' := (444, [(0, .ref 49), (1, .int (nI t)), (2, .int (nI S)), (3, .int (nI (h + 1))), (4, .int (nI q1)), (5, .int (nI (64 + k))), (6, .int (nI k)), (8, .int (nI w)), (9, .int (nI n3))], [.int (nI (64 + k)), .int (nI n3), .ref 80], gh S a b sc2 ar2 lo, ex, 0, 0)) rfl ?_
                      refine to_iasR (i := n3) (h' := gh S a b sc2 (uA ar2 80 (upd (ar2 80) n3 (nI (64 + k)))) lo) rfl rfl (by omega) (by omega) rfl ?_
                      have hI14 := ia_80 (i := n3) (v := (nI (64 + k))) hI2 (rm_n (n := (64 + k)) (by omega) (by omega))
                      have hF14 := fr_a (c := 80) (g := (upd (ar2 80) n3 (nI (64 + k)))) hF2 (by decide)
                      have hr14 := bq_room (Nat.le_refl 64) hc349_2 (n := n3) (by omega) (zsw_1.mpr q13)
                      refine to_n 1 (fr' := (446, [(0, .ref 49), (1, .int (nI t)), (2, .int (nI S)), (3, .int (nI (h + 1))), (4, .int (nI q1)), (5, .int (nI (64 + k))), (6, .int (nI k)), (8, .int (nI w)), (9, .int (nI n3))], [.ref 49], gh S a b sc2 (uA ar2 80 (upd (ar2 80) n3 (nI (64 + k)))) lo, ex, 0, 0)) rfl ?_
                      refine to_get rfl rfl rfl rfl ?_
                      refine to_n 2 (fr' := (453, [(0, .ref 49), (1, .int (nI t)), (2, .int (nI S)), (3, .int (nI (h + 1))), (4, .int (nI q1)), (5, .int (nI (64 + k))), (6, .int (nI k)), (8, .int (nI w)), (9, .int (nI n3))], [.int (nI n3), .int (nI q1), .ref 81], gh S a b sc2 (uA ar2 80 (upd (ar2 80) n3 (nI (64 + k)))) lo, ex, 0, 0)) rfl ?_
                      refine to_iasR (i := q1) (h' := gh S a b sc2 (uA (uA ar2 80 (upd (ar2 80) n3 (nI (64 + k)))) 81 (upd ((uA ar2 80 (upd (ar2 80) n3 (nI (64 + k)))) 81) q1 (nI n3))) lo) rfl rfl (by omega) (by omega) rfl ?_
                      have hI15 := ia_81 (i := q1) (v := (nI n3)) hI14 (rn_n (n := n3) (by omega) (by omega))
                      have hF15 := fr_a (c := 81) (g := (upd ((uA ar2 80 (upd (ar2 80) n3 (nI (64 + k)))) 81) q1 (nI n3))) hF14 (by decide)
                      have hb15 : BQ 64 a b (vW S t (ar 51) (ar 77)) (vM S a b t (ar 51) (ar 77)) (ar 79) (ar 83) 64 (q1 + 1) (zsf ((uA (uA ar2 80 (upd (ar2 80) n3 (nI (64 + k)))) 81 (upd ((uA ar2 80 (upd (ar2 80) n3 (nI (64 + k)))) 81) q1 (nI n3))) 80)) ((uA (uA ar2 80 (upd (ar2 80) n3 (nI (64 + k)))) 81 (upd ((uA ar2 80 (upd (ar2 80) n3 (nI (64 + k)))) 81) q1 (nI n3))) 81) := (by rw [show zsf ((uA (uA ar2 80 (upd (ar2 80) n3 (nI (64 + k)))) 81 (upd ((uA ar2 80 (upd (ar2 80) n3 (nI (64 + k)))) 81) q1 (nI n3))) 80) = upd (zsf (ar2 80)) n3 (nI (64 + k)) from (zsf_u (f := (ar2 80)) (n := n3) (v := (nI (64 + k)))).trans (by rw [zsw_n (by omega)])]; exact (bq_put (Nat.le_refl 64) hc349_2 (by omega) (zsw_1.mpr q13) (Or.inl ⟨by omega, (vW_k hS).mpr ⟨by omega, w4.1, w4.2, q12⟩, Or.inr (Or.inl ⟨k, by omega, rfl, (bq_k hc349_2 (by omega) (by omega) hc349_4), fun e9 => zbs_ir ha1 ha8 (Nat.le_refl 64) (e9 ▸ (show zbs 64 a b k n3 from ⟨by omega, by omega, zwy w, zwy_lt, hp3.symm⟩)), (show zbs 64 a b k n3 from ⟨by omega, by omega, zwy w, zwy_lt, hp3.symm⟩)⟩)⟩)).2)
                      have hm15 : BM q1 (q1 + 1) (zsf (ar2 80)) ((uA ar2 80 (upd (ar2 80) n3 (nI (64 + k)))) 81) (zsf ((uA (uA ar2 80 (upd (ar2 80) n3 (nI (64 + k)))) 81 (upd ((uA ar2 80 (upd (ar2 80) n3 (nI (64 + k)))) 81) q1 (nI n3))) 80)) ((uA (uA ar2 80 (upd (ar2 80) n3 (nI (64 + k)))) 81 (upd ((uA ar2 80 (upd (ar2 80) n3 (nI (64 + k)))) 81) q1 (nI n3))) 81) := (by rw [show zsf ((uA (uA ar2 80 (upd (ar2 80) n3 (nI (64 + k)))) 81 (upd ((uA ar2 80 (upd (ar2 80) n3 (nI (64 + k)))) 81) q1 (nI n3))) 80) = upd (zsf (ar2 80)) n3 (nI (64 + k)) from (zsf_u (f := (ar2 80)) (n := n3) (v := (nI (64 + k)))).trans (by rw [zsw_n (by omega)])]; exact bm_put (zsw_1.mpr q13))
                      refine to_n 1 (fr' := (457, [(0, .ref 49), (1, .int (nI t)), (2, .int (nI S)), (3, .int (nI (h + 1))), (4, .int ((nI q1) + 1)), (5, .int (nI (64 + k))), (6, .int (nI k)), (8, .int (nI w)), (9, .int (nI n3))], [], gh S a b sc2 (uA (uA ar2 80 (upd (ar2 80) n3 (nI (64 + k)))) 81 (upd ((uA ar2 80 (upd (ar2 80) n3 (nI (64 + k)))) 81) q1 (nI n3))) lo, ex, 0, 0)) rfl ?_
                      rw [nI_1 q1]
                      refine to_n 1 (fr' := (460, [(0, .ref 49), (1, .int (nI t)), (2, .int (nI S)), (3, .int (nI (h + 1))), (4, .int (nI (q1 + 1))), (5, .int (nI (64 + k))), (6, .int (nI k)), (8, .int ((nI w) + 1)), (9, .int (nI n3))], [], gh S a b sc2 (uA (uA ar2 80 (upd (ar2 80) n3 (nI (64 + k)))) 81 (upd ((uA ar2 80 (upd (ar2 80) n3 (nI (64 + k)))) 81) q1 (nI n3))) lo, ex, 0, 0)) rfl ?_
                      rw [nI_1 w]
                      refine to_n 1 (fr' := (349, [(0, .ref 49), (1, .int (nI t)), (2, .int (nI S)), (3, .int (nI (h + 1))), (4, .int (nI (q1 + 1))), (5, .int (nI (64 + k))), (6, .int (nI k)), (8, .int (nI (w + 1))), (9, .int (nI n3))], [], gh S a b sc2 (uA (uA ar2 80 (upd (ar2 80) n3 (nI (64 + k)))) 81 (upd ((uA ar2 80 (upd (ar2 80) n3 (nI (64 + k)))) 81) q1 (nI n3))) lo, ex, 0, 0)) rfl ?_
                      refine to_lv (lv := [(0, .ref 49), (1, .int (nI t)), (2, .int (nI S)), (3, .int (nI (h + 1))), (4, .int (nI (q1 + 1))), (5, .int (nI (64 + k))), (6, .int (nI k)), (8, .int (nI (w + 1)))]) rfl ⟨rfl, rfl, rfl, rfl, rfl, rfl, rfl, rfl, trivial⟩ ?_
                      exact ih (q1 + 1) (64 + k) k (w + 1) sc2 (uA (uA ar2 80 (upd (ar2 80) n3 (nI (64 + k)))) 81 (upd ((uA ar2 80 (upd (ar2 80) n3 (nI (64 + k)))) 81) q1 (nI n3))) (by omega) hc349_0 rfl hb15 (by omega) ((hm15.2.2 h (by omega)).trans hc349_4) (rd_m hm15 (by omega) hc349_5) (rs_m hm15.2.1 hc349_6) (fun u => bm_s hm15 (hc349_7 u)) (rx_s hm15.2.1 hc349_8 (fun d9 h9 z9 => by have u9 : n3 = d9 := (nI_eq (by omega) (by omega)).mp (hp3.trans z9); subst u9; exact ⟨fun e8 => absurd e8 q12, fun _ _ => ⟨by omega, fun e9 => absurd (zsw_1.mp e9) (by show ¬ upd _ _ _ _ = _; rw [ug_eq]; exact nI_neg (by omega) (by decide))⟩⟩)) hc349_9 hc349_10 hc349_11 hI15 hF15
                    · refine to_n 2 (fr' := (460, [(0, .ref 49), (1, .int (nI t)), (2, .int (nI S)), (3, .int (nI (h + 1))), (4, .int (nI q1)), (5, .int (nI (64 + k))), (6, .int (nI k)), (8, .int ((nI w) + 1)), (9, .int (nI n3))], [], gh S a b sc2 ar2 lo, ex, 0, 0)) rfl ?_
                      rw [nI_1 w]
                      refine to_n 1 (fr' := (349, [(0, .ref 49), (1, .int (nI t)), (2, .int (nI S)), (3, .int (nI (h + 1))), (4, .int (nI q1)), (5, .int (nI (64 + k))), (6, .int (nI k)), (8, .int (nI (w + 1))), (9, .int (nI n3))], [], gh S a b sc2 ar2 lo, ex, 0, 0)) rfl ?_
                      refine to_lv (lv := [(0, .ref 49), (1, .int (nI t)), (2, .int (nI S)), (3, .int (nI (h + 1))), (4, .int (nI q1)), (5, .int (nI (64 + k))), (6, .int (nI k)), (8, .int (nI (w + 1)))]) rfl ⟨rfl, rfl, rfl, rfl, rfl, rfl, rfl, rfl, trivial⟩ ?_
                      exact ih q1 (64 + k) k (w + 1) sc2 ar2 (by omega) hc349_0 rfl hc349_2 (by omega) hc349_4 hc349_5 hc349_6 hc349_7 (rx_s (fun _ _ => rfl) hc349_8 (fun d9 h9 z9 => by have u9 : n3 = d9 := (nI_eq (by omega) (by omega)).mp (hp3.trans z9); subst u9; exact ⟨fun e8 => absurd e8 q12, fun _ _ => ⟨by omega, fun e9 => q13 (zsw_1.mp e9)⟩⟩)) hc349_9 hc349_10 hc349_11 hI2 hF2
                  · refine to_n 3 (fr' := (416, [(0, .ref 49), (1, .int (nI t)), (2, .int (nI S)), (3, .int (nI (h + 1))), (4, .int (nI q1)), (5, .int (nI (64 + k))), (6, .int (nI k)), (8, .int (nI w)), (9, .int (nI n3))], [.int (nI t), .int (nI (64 + k)), .ref 49], gh S a b sc2 ar2 lo, ex, 0, 0)) rfl ?_
                    obtain ⟨rk, hp9, hR9⟩ := tr_of (iv_a80 hI2) hc349_2
                    refine to_cv (q := 163) (M1 := an_X10_trace) (rest := []) rfl rfl (by decide) rfl ⟨_, rfl⟩ (sf_X10_trace hW hI2 (64 + k) (by omega) (nI t) rk (by omega) (by omega) hR9 (fun e9 => (bq_k hc349_2 (by omega) (by omega) hc349_4).2 (zsw_1.mpr e9)) (d + 1)) (fun sc16 ar16 hx16 => ?_)
                    obtain ⟨hI16, hG16, hx16⟩ := hx16
                    have hF16 := fr_t hF2 hG16 (by decide) (by decide)
                    rw [hc349_9, hc349_10, hc349_11] at hx16
                    refine to_eq (fr' := (419, [(0, .ref 49), (1, .int (nI t)), (2, .int (nI S)), (3, .int (nI (h + 1))), (4, .int (nI q1)), (5, .int (nI (64 + k))), (6, .int (nI k)), (8, .int (nI w)), (9, .int (nI n3))], [], gh S a b sc16 ar16 lo, ex, 0, 0)) rfl ?_
                    refine to_n 1 (fr' := (420, [(0, .ref 49), (1, .int (nI t)), (2, .int (nI S)), (3, .int (nI (h + 1))), (4, .int (nI q1)), (5, .int (nI (64 + k))), (6, .int (nI k)), (8, .int (nI w)), (9, .int (nI n3))], [.int 1], gh S a b sc16 ar16 lo, ex, 0, 0)) rfl ?_
                    exact to_rt (i := .ireturn) (tg := []) rfl rfl ⟨_, _, _, ⟨hI16, hF16, ⟨rl_n (n := 1) (by omega), (Or.inr ⟨rfl, tr_RI ha1 ha8 (fun w => ((vW_k hS).mp w).2.2.2 rfl) (by omega) (by omega) (by have z9 := (show zbs 64 a b k n3 from ⟨by omega, by omega, zwy w, zwy_lt, hp3.symm⟩); rw [q12] at z9; exact z9) hr hp9 hx16⟩)⟩⟩, rfl⟩
                · refine to_n 2 (fr' := (460, [(0, .ref 49), (1, .int (nI t)), (2, .int (nI S)), (3, .int (nI (h + 1))), (4, .int (nI q1)), (5, .int (nI (64 + k))), (6, .int (nI k)), (8, .int ((nI w) + 1)), (9, .int (nI n3))], [], gh S a b sc2 ar2 lo, ex, 0, 0)) rfl ?_
                  rw [nI_1 w]
                  refine to_n 1 (fr' := (349, [(0, .ref 49), (1, .int (nI t)), (2, .int (nI S)), (3, .int (nI (h + 1))), (4, .int (nI q1)), (5, .int (nI (64 + k))), (6, .int (nI k)), (8, .int (nI (w + 1))), (9, .int (nI n3))], [], gh S a b sc2 ar2 lo, ex, 0, 0)) rfl ?_
                  refine to_lv (lv := [(0, .ref 49), (1, .int (nI t)), (2, .int (nI S)), (3, .int (nI (h + 1))), (4, .int (nI q1)), (5, .int (nI (64 + k))), (6, .int (nI k)), (8, .int (nI (w + 1)))]) rfl ⟨rfl, rfl, rfl, rfl, rfl, rfl, rfl, rfl, trivial⟩ ?_
                  exact ih q1 (64 + k) k (w + 1) sc2 ar2 (by omega) hc349_0 rfl hc349_2 (by omega) hc349_4 hc349_5 hc349_6 hc349_7 (rx_s (fun _ _ => rfl) hc349_8 (fun d9 h9 z9 => by have u9 : n3 = d9 := (nI_eq (by omega) (by omega)).mp (hp3.trans z9); subst u9; exact ⟨fun e8 => ⟨⟨by omega, (by rw [q5]; decide)⟩, e8 ▸ q11⟩, fun _ n9 => absurd ⟨⟨by omega, (by rw [q5]; decide)⟩, q11⟩ n9⟩)) hc349_9 hc349_10 hc349_11 hI2 hF2
            · refine to_eq (fr' := (377, [(0, .ref 49), (1, .int (nI t)), (2, .int (nI S)), (3, .int (nI (h + 1))), (4, .int (nI q1)), (5, .int (nI (64 + k))), (6, .int (nI k)), (8, .int (nI w)), (9, .int (nI n3))], [.int 0], gh S a b sc2 ar2 lo, ex, 0, 0)) rfl ?_
              refine to_n 2 (fr' := (460, [(0, .ref 49), (1, .int (nI t)), (2, .int (nI S)), (3, .int (nI (h + 1))), (4, .int (nI q1)), (5, .int (nI (64 + k))), (6, .int (nI k)), (8, .int ((nI w) + 1)), (9, .int (nI n3))], [], gh S a b sc2 ar2 lo, ex, 0, 0)) rfl ?_
              rw [nI_1 w]
              refine to_n 1 (fr' := (349, [(0, .ref 49), (1, .int (nI t)), (2, .int (nI S)), (3, .int (nI (h + 1))), (4, .int (nI q1)), (5, .int (nI (64 + k))), (6, .int (nI k)), (8, .int (nI (w + 1))), (9, .int (nI n3))], [], gh S a b sc2 ar2 lo, ex, 0, 0)) rfl ?_
              refine to_lv (lv := [(0, .ref 49), (1, .int (nI t)), (2, .int (nI S)), (3, .int (nI (h + 1))), (4, .int (nI q1)), (5, .int (nI (64 + k))), (6, .int (nI k)), (8, .int (nI (w + 1)))]) rfl ⟨rfl, rfl, rfl, rfl, rfl, rfl, rfl, rfl, trivial⟩ ?_
              exact ih q1 (64 + k) k (w + 1) sc2 ar2 (by omega) hc349_0 rfl hc349_2 (by omega) hc349_4 hc349_5 hc349_6 hc349_7 (rx_s (fun _ _ => rfl) hc349_8 (fun d9 h9 z9 => by have u9 : n3 = d9 := (nI_eq (by omega) (by omega)).mp (hp3.trans z9); subst u9; exact ⟨fun e8 => absurd (e8.symm ▸ hst) w4, fun w9 _ => absurd ⟨((vW_k hS).mp w9).2.1, ((vW_k hS).mp w9).2.2.1⟩ w4⟩)) hc349_9 hc349_10 hc349_11 hI2 hF2
      refine to_n 2 (fr' := (128, [(0, .ref 49), (1, .int (nI t)), (2, .int (nI S)), (3, .int (nI h)), (4, .int (nI q))], [.int (nI q), .int (nI h)], gh S a b sc1 ar1 lo, ex, 0, 0)) rfl ?_
      refine to_nc_ge (t := 466) (x := h) (y := q) rfl (by omega) (by omega) (fun q17 => ?_) (fun q17 => ?_)
      · refine to_n 1 (fr' := (467, [(0, .ref 49), (1, .int (nI t)), (2, .int (nI S)), (3, .int (nI h)), (4, .int (nI q))], [.int 0], gh S a b sc1 ar1 lo, ex, 0, 0)) rfl ?_
        exact to_rt (i := .ireturn) (tg := []) rfl rfl ⟨_, _, _, ⟨hI1, hF1, ⟨rl_n (n := 0) (by omega), (Or.inl ⟨rfl, rd_clo (by omega) (fun c w => (vW_k hS).mpr ((vM_k hS).mp w).1) (fun w => ((vW_k hS).mp w).2.2.2 rfl) hr hc125_0 (by have e9 : h = q := (by omega); subst e9; exact hc125_2) hc125_3, hc125_4, hc125_5, hc125_6⟩)⟩⟩, rfl⟩
      · refine to_n 1 (fr' := (132, [(0, .ref 49), (1, .int (nI t)), (2, .int (nI S)), (3, .int (nI h)), (4, .int (nI q))], [.ref 49], gh S a b sc1 ar1 lo, ex, 0, 0)) rfl ?_
        refine to_get rfl rfl rfl rfl ?_
        refine to_n 1 (fr' := (136, [(0, .ref 49), (1, .int (nI t)), (2, .int (nI S)), (3, .int (nI h)), (4, .int (nI q))], [.int (nI h), .ref 81], gh S a b sc1 ar1 lo, ex, 0, 0)) rfl ?_
        obtain ⟨n18, hn18, hd18, e18⟩ := iv_a81 hI1 h
        have hs18 := bq_k hc125_0 (i := h) (by omega) hn18 e18
        rcases Nat.lt_or_ge n18 64 with w18 | w18
        · refine to_ialR (i := h) (v := nI n18) rfl (by decide) rfl (by omega) (by omega) e18 ?_
          refine to_n 2 (fr' := (142, [(0, .ref 49), (1, .int (nI t)), (2, .int (nI S)), (3, .int ((nI h) + 1)), (4, .int (nI q)), (5, .int (nI n18))], [], gh S a b sc1 ar1 lo, ex, 0, 0)) rfl ?_
          rw [nI_1 h]
          refine to_n 2 (fr' := (146, [(0, .ref 49), (1, .int (nI t)), (2, .int (nI S)), (3, .int (nI (h + 1))), (4, .int (nI q)), (5, .int (nI n18))], [.int 64, .int (nI n18)], gh S a b sc1 ar1 lo, ex, 0, 0)) rfl ?_
          refine to_remN (x := n18) (y := 64) rfl (by omega) (by omega) (by omega) ?_
          refine to_eq (fr' := (147, [(0, .ref 49), (1, .int (nI t)), (2, .int (nI S)), (3, .int (nI (h + 1))), (4, .int (nI q)), (5, .int (nI n18))], [.int (nI n18)], gh S a b sc1 ar1 lo, ex, 0, 0)) (by rw [show n18 % 64 = n18 by omega]) ?_
          refine to_n 3 (fr' := (153, [(0, .ref 49), (1, .int (nI t)), (2, .int (nI S)), (3, .int (nI (h + 1))), (4, .int (nI q)), (5, .int (nI n18)), (6, .int (nI n18))], [.int 64, .int (nI n18)], gh S a b sc1 ar1 lo, ex, 0, 0)) rfl ?_
          refine to_nc_ge_F (t := 160) (x := n18) (y := 64) rfl (by omega) (by omega) (by omega) ?_
          refine to_n 6 (fr' := (169, [(0, .ref 49), (1, .int (nI t)), (2, .int (nI S)), (3, .int (nI (h + 1))), (4, .int (nI q)), (5, .int (nI n18)), (6, .int (nI n18)), (7, .int 1)], [.ref 49], gh S a b sc1 ar1 lo, ex, 0, 0)) rfl ?_
          refine to_get rfl rfl rfl rfl ?_
          refine to_n 1 (fr' := (174, [(0, .ref 49), (1, .int (nI t)), (2, .int (nI S)), (3, .int (nI (h + 1))), (4, .int (nI q)), (5, .int (nI n18)), (6, .int (nI n18)), (7, .int 1)], [.int (nI n18), .ref 79], gh S a b sc1 ar1 lo, ex, 0, 0)) rfl ?_
          refine to_ialR (i := n18) (v := (ar 79 n18)) rfl (by decide) rfl (by omega) (by omega) (congrFun hc125_4 n18) ?_
          refine to_if_ne (t := 220) rfl (fun q19 => ?_) (fun q19 => ?_)
          · refine to_n 1 (fr' := (221, [(0, .ref 49), (1, .int (nI t)), (2, .int (nI S)), (3, .int (nI (h + 1))), (4, .int (nI q)), (5, .int (nI n18)), (6, .int (nI n18)), (7, .int 1)], [.ref 49], gh S a b sc1 ar1 lo, ex, 0, 0)) rfl ?_
            refine to_get rfl rfl rfl rfl ?_
            refine to_n 1 (fr' := (226, [(0, .ref 49), (1, .int (nI t)), (2, .int (nI S)), (3, .int (nI (h + 1))), (4, .int (nI q)), (5, .int (nI n18)), (6, .int (nI n18)), (7, .int 1)], [.int (nI n18), .ref 79], gh S a b sc1 ar1 lo, ex, 0, 0)) rfl ?_
            refine to_ialR (i := n18) (v := (ar 79 n18)) rfl (by decide) rfl (by omega) (by omega) (congrFun hc125_4 n18) ?_
            refine to_n 1 (fr' := (228, [(0, .ref 49), (1, .int (nI t)), (2, .int (nI S)), (3, .int (nI (h + 1))), (4, .int (nI q)), (5, .int (nI n18)), (6, .int (nI n18)), (7, .int 1)], [.int 1, .int (ar 79 n18)], gh S a b sc1 ar1 lo, ex, 0, 0)) rfl ?_
            refine to_ic_ne_F (t := 125) rfl ((hr.2.2.1 n18 (by omega)).resolve_left q19) ?_
            refine to_n 1 (fr' := (232, [(0, .ref 49), (1, .int (nI t)), (2, .int (nI S)), (3, .int (nI (h + 1))), (4, .int (nI q)), (5, .int (nI n18)), (6, .int (nI n18)), (7, .int 1)], [.ref 49], gh S a b sc1 ar1 lo, ex, 0, 0)) rfl ?_
            refine to_get rfl rfl rfl rfl ?_
            refine to_n 1 (fr' := (237, [(0, .ref 49), (1, .int (nI t)), (2, .int (nI S)), (3, .int (nI (h + 1))), (4, .int (nI q)), (5, .int (nI n18)), (6, .int (nI n18)), (7, .int 1)], [.int (nI n18), .ref 83], gh S a b sc1 ar1 lo, ex, 0, 0)) rfl ?_
            refine to_ialR (i := n18) (v := (ar 83 n18)) rfl (by decide) rfl (by omega) (by omega) (congrFun hc125_6 n18) ?_
            refine to_n 1 (fr' := (239, [(0, .ref 49), (1, .int (nI t)), (2, .int (nI S)), (3, .int (nI (h + 1))), (4, .int (nI q)), (5, .int (nI n18)), (6, .int (nI n18)), (7, .int 1)], [.int (-1), .int (ar 83 n18)], gh S a b sc1 ar1 lo, ex, 0, 0)) rfl ?_
            refine to_ic_eq (t := 125) rfl (fun q20 => ?_) (fun q20 => ?_)
            · refine to_lv (lv := [(0, .ref 49), (1, .int (nI t)), (2, .int (nI S)), (3, .int (nI (h + 1))), (4, .int (nI q))]) rfl ⟨rfl, rfl, rfl, rfl, rfl, trivial⟩ ?_
              exact ih (h + 1) q sc1 ar1 (by omega) hc125_0 (by omega) (rd_e hc125_2 (by omega) e18 ⟨fun u => absurd ⟨by omega, q19⟩ u, fun _ v => absurd v (by rw [kB_m (by rw [q20]; decide)]; omega)⟩) hc125_3 hc125_4 hc125_5 hc125_6 (by omega) hI1 hF1
            · refine to_n 1 (fr' := (243, [(0, .ref 49), (1, .int (nI t)), (2, .int (nI S)), (3, .int (nI (h + 1))), (4, .int (nI q)), (5, .int (nI n18)), (6, .int (nI n18)), (7, .int 1)], [.ref 49], gh S a b sc1 ar1 lo, ex, 0, 0)) rfl ?_
              refine to_get rfl rfl rfl rfl ?_
              refine to_n 2 (fr' := (249, [(0, .ref 49), (1, .int (nI t)), (2, .int (nI S)), (3, .int (nI (h + 1))), (4, .int (nI q)), (5, .int (nI n18)), (6, .int (nI n18)), (7, .int 1)], [.ref 49, .int 64, .ref 80], gh S a b sc1 ar1 lo, ex, 0, 0)) rfl ?_
              refine to_get rfl rfl rfl rfl ?_
              refine to_n 1 (fr' := (254, [(0, .ref 49), (1, .int (nI t)), (2, .int (nI S)), (3, .int (nI (h + 1))), (4, .int (nI q)), (5, .int (nI n18)), (6, .int (nI n18)), (7, .int 1)], [.int (nI n18), .ref 83, .int 64, .ref 80], gh S a b sc1 ar1 lo, ex, 0, 0)) rfl ?_
              obtain ⟨m21, hm21, e21⟩ := (iv_a83 hI n18).resolve_left q20
              refine to_ialR (i := n18) (v := (nI m21)) rfl (by decide) rfl (by omega) (by omega) ((congrFun hc125_6 n18).trans e21) ?_
              refine to_addN (x := 64) (y := m21) rfl ?_
              refine to_ialR (i := (64 + m21)) (v := (ar1 80 (64 + m21))) rfl (by decide) rfl (by omega) (by omega) rfl ?_
              refine to_n 1 (fr' := (259, [(0, .ref 49), (1, .int (nI t)), (2, .int (nI S)), (3, .int (nI (h + 1))), (4, .int (nI q)), (5, .int (nI n18)), (6, .int (nI n18)), (7, .int 1)], [.int (-2), .int (ar1 80 (64 + m21))], gh S a b sc1 ar1 lo, ex, 0, 0)) rfl ?_
              refine to_ic_ne (t := 125) rfl (fun q22 => ?_) (fun q22 => ?_)
              · refine to_lv (lv := [(0, .ref 49), (1, .int (nI t)), (2, .int (nI S)), (3, .int (nI (h + 1))), (4, .int (nI q))]) rfl ⟨rfl, rfl, rfl, rfl, rfl, trivial⟩ ?_
                exact ih (h + 1) q sc1 ar1 (by omega) hc125_0 (by omega) (rd_e hc125_2 (by omega) e18 ⟨fun u => absurd ⟨by omega, q19⟩ u, fun _ _ => by rw [kB_n (by omega) e21]; exact ⟨by omega, fun e9 => q22 (zsw_1.mp e9)⟩⟩) hc125_3 hc125_4 hc125_5 hc125_6 (by omega) hI1 hF1
              · refine to_n 1 (fr' := (263, [(0, .ref 49), (1, .int (nI t)), (2, .int (nI S)), (3, .int (nI (h + 1))), (4, .int (nI q)), (5, .int (nI n18)), (6, .int (nI n18)), (7, .int 1)], [.ref 49], gh S a b sc1 ar1 lo, ex, 0, 0)) rfl ?_
                refine to_get rfl rfl rfl rfl ?_
                refine to_n 2 (fr' := (269, [(0, .ref 49), (1, .int (nI t)), (2, .int (nI S)), (3, .int (nI (h + 1))), (4, .int (nI q)), (5, .int (nI n18)), (6, .int (nI n18)), (7, .int 1)], [.ref 49, .int 64, .ref 80], gh S a b sc1 ar1 lo, ex, 0, 0)) rfl ?_
                refine to_get rfl rfl rfl rfl ?_
                refine to_n 1 (fr' := (274, [(0, .ref 49), (1, .int (nI t)), (2, .int (nI S)), (3, .int (nI (h + 1))), (4, .int (nI q)), (5, .int (nI n18)), (6, .int (nI n18)), (7, .int 1)], [.int (nI n18), .ref 83, .int 64, .ref 80], gh S a b sc1 ar1 lo, ex, 0, 0)) rfl ?_
                refine to_ialR (i := n18) (v := (nI m21)) rfl (by decide) rfl (by omega) (by omega) ((congrFun hc125_6 n18).trans e21) ?_
                refine to_addN (x := 64) (y := m21) rfl ?_
                refine to_n 1 (fr' := (278, [(0, .ref 49), (1, .int (nI t)), (2, .int (nI S)), (3, .int (nI (h + 1))), (4, .int (nI q)), (5, .int (nI n18)), (6, .int (nI n18)), (7, .int 1)], [.int (nI n18), .int (nI (64 + m21)), .ref 80], gh S a b sc1 ar1 lo, ex, 0, 0)) rfl ?_
                refine to_iasR (i := (64 + m21)) (h' := gh S a b sc1 (uA ar1 80 (upd (ar1 80) (64 + m21) (nI n18))) lo) rfl rfl (by omega) (by omega) rfl ?_
                have hI23 := ia_80 (i := (64 + m21)) (v := (nI n18)) hI1 (rm_n (n := n18) (by omega) (by omega))
                have hF23 := fr_a (c := 80) (g := (upd (ar1 80) (64 + m21) (nI n18))) hF1 (by decide)
                have hr23 := bq_room (Nat.le_refl 64) hc125_0 (n := (64 + m21)) (by omega) (zsw_1.mpr q22)
                refine to_n 1 (fr' := (280, [(0, .ref 49), (1, .int (nI t)), (2, .int (nI S)), (3, .int (nI (h + 1))), (4, .int (nI q)), (5, .int (nI n18)), (6, .int (nI n18)), (7, .int 1)], [.ref 49], gh S a b sc1 (uA ar1 80 (upd (ar1 80) (64 + m21) (nI n18))) lo, ex, 0, 0)) rfl ?_
                refine to_get rfl rfl rfl rfl ?_
                refine to_n 3 (fr' := (288, [(0, .ref 49), (1, .int (nI t)), (2, .int (nI S)), (3, .int (nI (h + 1))), (4, .int (nI q)), (5, .int (nI n18)), (6, .int (nI n18)), (7, .int 1)], [.ref 49, .int 64, .int (nI q), .ref 81], gh S a b sc1 (uA ar1 80 (upd (ar1 80) (64 + m21) (nI n18))) lo, ex, 0, 0)) rfl ?_
                refine to_get rfl rfl rfl rfl ?_
                refine to_n 1 (fr' := (293, [(0, .ref 49), (1, .int (nI t)), (2, .int (nI S)), (3, .int (nI (h + 1))), (4, .int (nI q)), (5, .int (nI n18)), (6, .int (nI n18)), (7, .int 1)], [.int (nI n18), .ref 83, .int 64, .int (nI q), .ref 81], gh S a b sc1 (uA ar1 80 (upd (ar1 80) (64 + m21) (nI n18))) lo, ex, 0, 0)) rfl ?_
                refine to_ialR (i := n18) (v := (nI m21)) rfl (by decide) rfl (by omega) (by omega) ((congrFun hc125_6 n18).trans e21) ?_
                refine to_addN (x := 64) (y := m21) rfl ?_
                refine to_iasR (i := q) (h' := gh S a b sc1 (uA (uA ar1 80 (upd (ar1 80) (64 + m21) (nI n18))) 81 (upd ((uA ar1 80 (upd (ar1 80) (64 + m21) (nI n18))) 81) q (nI (64 + m21)))) lo) rfl rfl (by omega) (by omega) rfl ?_
                have hI24 := ia_81 (i := q) (v := (nI (64 + m21))) hI23 (rn_n (n := (64 + m21)) (by omega) (by omega))
                have hF24 := fr_a (c := 81) (g := (upd ((uA ar1 80 (upd (ar1 80) (64 + m21) (nI n18))) 81) q (nI (64 + m21)))) hF23 (by decide)
                have hb24 : BQ 64 a b (vW S t (ar 51) (ar 77)) (vM S a b t (ar 51) (ar 77)) (ar 79) (ar 83) 64 (q + 1) (zsf ((uA (uA ar1 80 (upd (ar1 80) (64 + m21) (nI n18))) 81 (upd ((uA ar1 80 (upd (ar1 80) (64 + m21) (nI n18))) 81) q (nI (64 + m21)))) 80)) ((uA (uA ar1 80 (upd (ar1 80) (64 + m21) (nI n18))) 81 (upd ((uA ar1 80 (upd (ar1 80) (64 + m21) (nI n18))) 81) q (nI (64 + m21)))) 81) := (by rw [show zsf ((uA (uA ar1 80 (upd (ar1 80) (64 + m21) (nI n18))) 81 (upd ((uA ar1 80 (upd (ar1 80) (64 + m21) (nI n18))) 81) q (nI (64 + m21)))) 80) = upd (zsf (ar1 80)) (64 + m21) (nI n18) from (zsf_u (f := (ar1 80)) (n := (64 + m21)) (v := (nI n18))).trans (by rw [zsw_n (by omega)])]; exact (bq_put (Nat.le_refl 64) hc125_0 (by omega) (zsw_1.mpr q22) (Or.inr ⟨m21, by omega, rfl, Or.inr ⟨n18, by omega, rfl, hs18, ⟨by omega, q19⟩, kB_n (by omega) e21⟩⟩)).2)
                have hm24 : BM q (q + 1) (zsf (ar1 80)) ((uA ar1 80 (upd (ar1 80) (64 + m21) (nI n18))) 81) (zsf ((uA (uA ar1 80 (upd (ar1 80) (64 + m21) (nI n18))) 81 (upd ((uA ar1 80 (upd (ar1 80) (64 + m21) (nI n18))) 81) q (nI (64 + m21)))) 80)) ((uA (uA ar1 80 (upd (ar1 80) (64 + m21) (nI n18))) 81 (upd ((uA ar1 80 (upd (ar1 80) (64 + m21) (nI n18))) 81) q (nI (64 + m21)))) 81) := (by rw [show zsf ((uA (uA ar1 80 (upd (ar1 80) (64 + m21) (nI n18))) 81 (upd ((uA ar1 80 (upd (ar1 80) (64 + m21) (nI n18))) 81) q (nI (64 + m21)))) 80) = upd (zsf (ar1 80)) (64 + m21) (nI n18) from (zsf_u (f := (ar1 80)) (n := (64 + m21)) (v := (nI n18))).trans (by rw [zsw_n (by omega)])]; exact bm_put (zsw_1.mpr q22))
                refine to_n 1 (fr' := (299, [(0, .ref 49), (1, .int (nI t)), (2, .int (nI S)), (3, .int (nI (h + 1))), (4, .int ((nI q) + 1)), (5, .int (nI n18)), (6, .int (nI n18)), (7, .int 1)], [], gh S a b sc1 (uA (uA ar1 80 (upd (ar1 80) (64 + m21) (nI n18))) 81 (upd ((uA ar1 80 (upd (ar1 80) (64 + m21) (nI n18))) 81) q (nI (64 + m21)))) lo, ex, 0, 0)) rfl ?_
                rw [nI_1 q]
                refine to_n 1 (fr' := (125, [(0, .ref 49), (1, .int (nI t)), (2, .int (nI S)), (3, .int (nI (h + 1))), (4, .int (nI (q + 1))), (5, .int (nI n18)), (6, .int (nI n18)), (7, .int 1)], [], gh S a b sc1 (uA (uA ar1 80 (upd (ar1 80) (64 + m21) (nI n18))) 81 (upd ((uA ar1 80 (upd (ar1 80) (64 + m21) (nI n18))) 81) q (nI (64 + m21)))) lo, ex, 0, 0)) rfl ?_
                refine to_lv (lv := [(0, .ref 49), (1, .int (nI t)), (2, .int (nI S)), (3, .int (nI (h + 1))), (4, .int (nI (q + 1)))]) rfl ⟨rfl, rfl, rfl, rfl, rfl, trivial⟩ ?_
                exact ih (h + 1) (q + 1) sc1 (uA (uA ar1 80 (upd (ar1 80) (64 + m21) (nI n18))) 81 (upd ((uA ar1 80 (upd (ar1 80) (64 + m21) (nI n18))) 81) q (nI (64 + m21)))) (by omega) hb24 (by omega) (rd_e (rd_m hm24 (by omega) hc125_2) (by omega) ((hm24.2.2 h (by omega)).trans e18) ⟨fun u => absurd ⟨by omega, q19⟩ u, fun _ _ => by rw [kB_n (by omega) e21]; exact ⟨by omega, fun e9 => absurd (zsw_1.mp e9) (by show ¬ upd _ _ _ _ = _; rw [ug_eq]; exact nI_neg (by omega) (by decide))⟩⟩) (rs_m hm24.2.1 hc125_3) hc125_4 hc125_5 hc125_6 (by omega) hI24 hF24
          · refine to_n 1 (fr' := (179, [(0, .ref 49), (1, .int (nI t)), (2, .int (nI S)), (3, .int (nI (h + 1))), (4, .int (nI q)), (5, .int (nI n18)), (6, .int (nI n18)), (7, .int 1)], [.ref 49], gh S a b sc1 ar1 lo, ex, 0, 0)) rfl ?_
            refine to_get rfl rfl rfl rfl ?_
            refine to_n 2 (fr' := (186, [(0, .ref 49), (1, .int (nI t)), (2, .int (nI S)), (3, .int (nI (h + 1))), (4, .int (nI q)), (5, .int (nI n18)), (6, .int (nI n18)), (7, .int 1)], [.int (nI n18), .int 64, .ref 80], gh S a b sc1 ar1 lo, ex, 0, 0)) rfl ?_
            refine to_addN (x := 64) (y := n18) rfl ?_
            refine to_ialR (i := (64 + n18)) (v := (ar1 80 (64 + n18))) rfl (by decide) rfl (by omega) (by omega) rfl ?_
            refine to_n 1 (fr' := (190, [(0, .ref 49), (1, .int (nI t)), (2, .int (nI S)), (3, .int (nI (h + 1))), (4, .int (nI q)), (5, .int (nI n18)), (6, .int (nI n18)), (7, .int 1)], [.int (-2), .int (ar1 80 (64 + n18))], gh S a b sc1 ar1 lo, ex, 0, 0)) rfl ?_
            refine to_ic_ne (t := 220) rfl (fun q25 => ?_) (fun q25 => ?_)
            · refine to_n 1 (fr' := (221, [(0, .ref 49), (1, .int (nI t)), (2, .int (nI S)), (3, .int (nI (h + 1))), (4, .int (nI q)), (5, .int (nI n18)), (6, .int (nI n18)), (7, .int 1)], [.ref 49], gh S a b sc1 ar1 lo, ex, 0, 0)) rfl ?_
              refine to_get rfl rfl rfl rfl ?_
              refine to_n 1 (fr' := (226, [(0, .ref 49), (1, .int (nI t)), (2, .int (nI S)), (3, .int (nI (h + 1))), (4, .int (nI q)), (5, .int (nI n18)), (6, .int (nI n18)), (7, .int 1)], [.int (nI n18), .ref 79], gh S a b sc1 ar1 lo, ex, 0, 0)) rfl ?_
              refine to_ialR (i := n18) (v := (ar 79 n18)) rfl (by decide) rfl (by omega) (by omega) (congrFun hc125_4 n18) ?_
              refine to_n 1 (fr' := (228, [(0, .ref 49), (1, .int (nI t)), (2, .int (nI S)), (3, .int (nI (h + 1))), (4, .int (nI q)), (5, .int (nI n18)), (6, .int (nI n18)), (7, .int 1)], [.int 1, .int (ar 79 n18)], gh S a b sc1 ar1 lo, ex, 0, 0)) rfl ?_
              refine to_ic_ne_T (t := 125) rfl (fun e9 => absurd (q19.symm.trans e9) (by decide)) ?_
              refine to_lv (lv := [(0, .ref 49), (1, .int (nI t)), (2, .int (nI S)), (3, .int (nI (h + 1))), (4, .int (nI q))]) rfl ⟨rfl, rfl, rfl, rfl, rfl, trivial⟩ ?_
              exact ih (h + 1) q sc1 ar1 (by omega) hc125_0 (by omega) (rd_e hc125_2 (by omega) e18 ⟨fun _ => ⟨by omega, fun e9 => q25 (zsw_1.mp e9)⟩, fun w => absurd q19 w.2⟩) hc125_3 hc125_4 hc125_5 hc125_6 (by omega) hI1 hF1
            · refine to_n 1 (fr' := (194, [(0, .ref 49), (1, .int (nI t)), (2, .int (nI S)), (3, .int (nI (h + 1))), (4, .int (nI q)), (5, .int (nI n18)), (6, .int (nI n18)), (7, .int 1)], [.ref 49], gh S a b sc1 ar1 lo, ex, 0, 0)) rfl ?_
              refine to_get rfl rfl rfl rfl ?_
              refine to_n 2 (fr' := (201, [(0, .ref 49), (1, .int (nI t)), (2, .int (nI S)), (3, .int (nI (h + 1))), (4, .int (nI q)), (5, .int (nI n18)), (6, .int (nI n18)), (7, .int 1)], [.int (nI n18), .int 64, .ref 80], gh S a b sc1 ar1 lo, ex, 0, 0)) rfl ?_
              refine to_addN (x := 64) (y := n18) rfl ?_
              refine to_n 1 (fr' := (204, [(0, .ref 49), (1, .int (nI t)), (2, .int (nI S)), (3, .int (nI (h + 1))), (4, .int (nI q)), (5, .int (nI n18)), (6, .int (nI n18)), (7, .int 1)], [.int (nI n18), .int (nI (64 + n18)), .ref 80], gh S a b sc1 ar1 lo, ex, 0, 0)) rfl ?_
              refine to_iasR (i := (64 + n18)) (h' := gh S a b sc1 (uA ar1 80 (upd (ar1 80) (64 + n18) (nI n18))) lo) rfl rfl (by omega) (by omega) rfl ?_
              have hI26 := ia_80 (i := (64 + n18)) (v := (nI n18)) hI1 (rm_n (n := n18) (by omega) (by omega))
              have hF26 := fr_a (c := 80) (g := (upd (ar1 80) (64 + n18) (nI n18))) hF1 (by decide)
              have hr26 := bq_room (Nat.le_refl 64) hc125_0 (n := (64 + n18)) (by omega) (zsw_1.mpr q25)
              refine to_n 1 (fr' := (206, [(0, .ref 49), (1, .int (nI t)), (2, .int (nI S)), (3, .int (nI (h + 1))), (4, .int (nI q)), (5, .int (nI n18)), (6, .int (nI n18)), (7, .int 1)], [.ref 49], gh S a b sc1 (uA ar1 80 (upd (ar1 80) (64 + n18) (nI n18))) lo, ex, 0, 0)) rfl ?_
              refine to_get rfl rfl rfl rfl ?_
              refine to_n 3 (fr' := (215, [(0, .ref 49), (1, .int (nI t)), (2, .int (nI S)), (3, .int (nI (h + 1))), (4, .int (nI q)), (5, .int (nI n18)), (6, .int (nI n18)), (7, .int 1)], [.int (nI n18), .int 64, .int (nI q), .ref 81], gh S a b sc1 (uA ar1 80 (upd (ar1 80) (64 + n18) (nI n18))) lo, ex, 0, 0)) rfl ?_
              refine to_addN (x := 64) (y := n18) rfl ?_
              refine to_iasR (i := q) (h' := gh S a b sc1 (uA (uA ar1 80 (upd (ar1 80) (64 + n18) (nI n18))) 81 (upd ((uA ar1 80 (upd (ar1 80) (64 + n18) (nI n18))) 81) q (nI (64 + n18)))) lo) rfl rfl (by omega) (by omega) rfl ?_
              have hI27 := ia_81 (i := q) (v := (nI (64 + n18))) hI26 (rn_n (n := (64 + n18)) (by omega) (by omega))
              have hF27 := fr_a (c := 81) (g := (upd ((uA ar1 80 (upd (ar1 80) (64 + n18) (nI n18))) 81) q (nI (64 + n18)))) hF26 (by decide)
              have hb27 : BQ 64 a b (vW S t (ar 51) (ar 77)) (vM S a b t (ar 51) (ar 77)) (ar 79) (ar 83) 64 (q + 1) (zsf ((uA (uA ar1 80 (upd (ar1 80) (64 + n18) (nI n18))) 81 (upd ((uA ar1 80 (upd (ar1 80) (64 + n18) (nI n18))) 81) q (nI (64 + n18)))) 80)) ((uA (uA ar1 80 (upd (ar1 80) (64 + n18) (nI n18))) 81 (upd ((uA ar1 80 (upd (ar1 80) (64 + n18) (nI n18))) 81) q (nI (64 + n18)))) 81) := (by rw [show zsf ((uA (uA ar1 80 (upd (ar1 80) (64 + n18) (nI n18))) 81 (upd ((uA ar1 80 (upd (ar1 80) (64 + n18) (nI n18))) 81) q (nI (64 + n18)))) 80) = upd (zsf (ar1 80)) (64 + n18) (nI n18) from (zsf_u (f := (ar1 80)) (n := (64 + n18)) (v := (nI n18))).trans (by rw [zsw_n (by omega)])]; exact (bq_put (Nat.le_refl 64) hc125_0 (by omega) (zsw_1.mpr q25) (Or.inr ⟨n18, by omega, rfl, Or.inl ⟨rfl, hs18, fun w => w.2 q19⟩⟩)).2)
              have hm27 : BM q (q + 1) (zsf (ar1 80)) ((uA ar1 80 (upd (ar1 80) (64 + n18) (nI n18))) 81) (zsf ((uA (uA ar1 80 (upd (ar1 80) (64 + n18) (nI n18))) 81 (upd ((uA ar1 80 (upd (ar1 80) (64 + n18) (nI n18))) 81) q (nI (64 + n18)))) 80)) ((uA (uA ar1 80 (upd (ar1 80) (64 + n18) (nI n18))) 81 (upd ((uA ar1 80 (upd (ar1 80) (64 + n18) (nI n18))) 81) q (nI (64 + n18)))) 81) := (by rw [show zsf ((uA (uA ar1 80 (upd (ar1 80) (64 + n18) (nI n18))) 81 (upd ((uA ar1 80 (upd (ar1 80) (64 + n18) (nI n18))) 81) q (nI (64 + n18)))) 80) = upd (zsf (ar1 80)) (64 + n18) (nI n18) from (zsf_u (f := (ar1 80)) (n := (64 + n18)) (v := (nI n18))).trans (by rw [zsw_n (by omega)])]; exact bm_put (zsw_1.mpr q25))
              refine to_n 1 (fr' := (220, [(0, .ref 49), (1, .int (nI t)), (2, .int (nI S)), (3, .int (nI (h + 1))), (4, .int ((nI q) + 1)), (5, .int (nI n18)), (6, .int (nI n18)), (7, .int 1)], [], gh S a b sc1 (uA (uA ar1 80 (upd (ar1 80) (64 + n18) (nI n18))) 81 (upd ((uA ar1 80 (upd (ar1 80) (64 + n18) (nI n18))) 81) q (nI (64 + n18)))) lo, ex, 0, 0)) rfl ?_
              rw [nI_1 q]
              refine to_n 1 (fr' := (221, [(0, .ref 49), (1, .int (nI t)), (2, .int (nI S)), (3, .int (nI (h + 1))), (4, .int (nI (q + 1))), (5, .int (nI n18)), (6, .int (nI n18)), (7, .int 1)], [.ref 49], gh S a b sc1 (uA (uA ar1 80 (upd (ar1 80) (64 + n18) (nI n18))) 81 (upd ((uA ar1 80 (upd (ar1 80) (64 + n18) (nI n18))) 81) q (nI (64 + n18)))) lo, ex, 0, 0)) rfl ?_
              refine to_get rfl rfl rfl rfl ?_
              refine to_n 1 (fr' := (226, [(0, .ref 49), (1, .int (nI t)), (2, .int (nI S)), (3, .int (nI (h + 1))), (4, .int (nI (q + 1))), (5, .int (nI n18)), (6, .int (nI n18)), (7, .int 1)], [.int (nI n18), .ref 79], gh S a b sc1 (uA (uA ar1 80 (upd (ar1 80) (64 + n18) (nI n18))) 81 (upd ((uA ar1 80 (upd (ar1 80) (64 + n18) (nI n18))) 81) q (nI (64 + n18)))) lo, ex, 0, 0)) rfl ?_
              refine to_ialR (i := n18) (v := (ar 79 n18)) rfl (by decide) rfl (by omega) (by omega) (congrFun hc125_4 n18) ?_
              refine to_n 1 (fr' := (228, [(0, .ref 49), (1, .int (nI t)), (2, .int (nI S)), (3, .int (nI (h + 1))), (4, .int (nI (q + 1))), (5, .int (nI n18)), (6, .int (nI n18)), (7, .int 1)], [.int 1, .int (ar 79 n18)], gh S a b sc1 (uA (uA ar1 80 (upd (ar1 80) (64 + n18) (nI n18))) 81 (upd ((uA ar1 80 (upd (ar1 80) (64 + n18) (nI n18))) 81) q (nI (64 + n18)))) lo, ex, 0, 0)) rfl ?_
              refine to_ic_ne_T (t := 125) rfl (fun e9 => absurd (q19.symm.trans e9) (by decide)) ?_
              refine to_lv (lv := [(0, .ref 49), (1, .int (nI t)), (2, .int (nI S)), (3, .int (nI (h + 1))), (4, .int (nI (q + 1)))]) rfl ⟨rfl, rfl, rfl, rfl, rfl, trivial⟩ ?_
              exact ih (h + 1) (q + 1) sc1 (uA (uA ar1 80 (upd (ar1 80) (64 + n18) (nI n18))) 81 (upd ((uA ar1 80 (upd (ar1 80) (64 + n18) (nI n18))) 81) q (nI (64 + n18)))) (by omega) hb27 (by omega) (rd_e (rd_m hm27 (by omega) hc125_2) (by omega) ((hm27.2.2 h (by omega)).trans e18) ⟨fun _ => ⟨by omega, fun e9 => absurd (zsw_1.mp e9) (by show ¬ upd _ _ _ _ = _; rw [ug_eq]; exact nI_neg (by omega) (by decide))⟩, fun w => absurd q19 w.2⟩) (rs_m hm27.2.1 hc125_3) hc125_4 hc125_5 hc125_6 (by omega) hI27 hF27
        · obtain ⟨c18, rfl⟩ : ∃ c, n18 = 64 + c := ⟨n18 - 64, by omega⟩
          refine to_ialR (i := h) (v := nI (64 + c18)) rfl (by decide) rfl (by omega) (by omega) e18 ?_
          refine to_n 2 (fr' := (142, [(0, .ref 49), (1, .int (nI t)), (2, .int (nI S)), (3, .int ((nI h) + 1)), (4, .int (nI q)), (5, .int (nI (64 + c18)))], [], gh S a b sc1 ar1 lo, ex, 0, 0)) rfl ?_
          rw [nI_1 h]
          refine to_n 2 (fr' := (146, [(0, .ref 49), (1, .int (nI t)), (2, .int (nI S)), (3, .int (nI (h + 1))), (4, .int (nI q)), (5, .int (nI (64 + c18)))], [.int 64, .int (nI (64 + c18))], gh S a b sc1 ar1 lo, ex, 0, 0)) rfl ?_
          refine to_remN (x := (64 + c18)) (y := 64) rfl (by omega) (by omega) (by omega) ?_
          refine to_eq (fr' := (147, [(0, .ref 49), (1, .int (nI t)), (2, .int (nI S)), (3, .int (nI (h + 1))), (4, .int (nI q)), (5, .int (nI (64 + c18)))], [.int (nI c18)], gh S a b sc1 ar1 lo, ex, 0, 0)) (by rw [show (64 + c18) % 64 = c18 by omega]) ?_
          refine to_n 3 (fr' := (153, [(0, .ref 49), (1, .int (nI t)), (2, .int (nI S)), (3, .int (nI (h + 1))), (4, .int (nI q)), (5, .int (nI (64 + c18))), (6, .int (nI c18))], [.int 64, .int (nI (64 + c18))], gh S a b sc1 ar1 lo, ex, 0, 0)) rfl ?_
          refine to_nc_ge_T (t := 160) (x := (64 + c18)) (y := 64) rfl (by omega) (by omega) (by omega) ?_
          refine to_n 5 (fr' := (303, [(0, .ref 49), (1, .int (nI t)), (2, .int (nI S)), (3, .int (nI (h + 1))), (4, .int (nI q)), (5, .int (nI (64 + c18))), (6, .int (nI c18)), (7, .int 0)], [.ref 49], gh S a b sc1 ar1 lo, ex, 0, 0)) rfl ?_
          refine to_get rfl rfl rfl rfl ?_
          refine to_n 1 (fr' := (308, [(0, .ref 49), (1, .int (nI t)), (2, .int (nI S)), (3, .int (nI (h + 1))), (4, .int (nI q)), (5, .int (nI (64 + c18))), (6, .int (nI c18)), (7, .int 0)], [.int (nI c18), .ref 79], gh S a b sc1 ar1 lo, ex, 0, 0)) rfl ?_
          refine to_ialR (i := c18) (v := (ar 79 c18)) rfl (by decide) rfl (by omega) (by omega) (congrFun hc125_4 c18) ?_
          refine to_n 1 (fr' := (310, [(0, .ref 49), (1, .int (nI t)), (2, .int (nI S)), (3, .int (nI (h + 1))), (4, .int (nI q)), (5, .int (nI (64 + c18))), (6, .int (nI c18)), (7, .int 0)], [.int 1, .int (ar 79 c18)], gh S a b sc1 ar1 lo, ex, 0, 0)) rfl ?_
          refine to_ic_ne (t := 346) rfl (fun q28 => ?_) (fun q28 => ?_)
          · refine to_n 2 (fr' := (349, [(0, .ref 49), (1, .int (nI t)), (2, .int (nI S)), (3, .int (nI (h + 1))), (4, .int (nI q)), (5, .int (nI (64 + c18))), (6, .int (nI c18)), (7, .int 0), (8, .int 0)], [], gh S a b sc1 ar1 lo, ex, 0, 0)) rfl ?_
            refine to_lv (lv := [(0, .ref 49), (1, .int (nI t)), (2, .int (nI S)), (3, .int (nI (h + 1))), (4, .int (nI q)), (5, .int (nI (64 + c18))), (6, .int (nI c18)), (8, .int 0)]) rfl ⟨rfl, rfl, rfl, rfl, rfl, rfl, rfl, rfl, trivial⟩ ?_
            exact c349 (4 - 0) q (64 + c18) c18 0 sc1 ar1 (by omega) (by omega) (by omega) hc125_0 (by omega) e18 hc125_2 hc125_3 (fun w => absurd ((hr.2.2.1 c18 (by omega)).resolve_left w.2) q28) rx_0 hc125_4 hc125_5 hc125_6 hI1 hF1
          · refine to_n 1 (fr' := (314, [(0, .ref 49), (1, .int (nI t)), (2, .int (nI S)), (3, .int (nI (h + 1))), (4, .int (nI q)), (5, .int (nI (64 + c18))), (6, .int (nI c18)), (7, .int 0)], [.ref 49], gh S a b sc1 ar1 lo, ex, 0, 0)) rfl ?_
            refine to_get rfl rfl rfl rfl ?_
            refine to_n 1 (fr' := (319, [(0, .ref 49), (1, .int (nI t)), (2, .int (nI S)), (3, .int (nI (h + 1))), (4, .int (nI q)), (5, .int (nI (64 + c18))), (6, .int (nI c18)), (7, .int 0)], [.int (nI c18), .ref 80], gh S a b sc1 ar1 lo, ex, 0, 0)) rfl ?_
            refine to_ialR (i := c18) (v := (ar1 80 c18)) rfl (by decide) rfl (by omega) (by omega) rfl ?_
            refine to_n 1 (fr' := (322, [(0, .ref 49), (1, .int (nI t)), (2, .int (nI S)), (3, .int (nI (h + 1))), (4, .int (nI q)), (5, .int (nI (64 + c18))), (6, .int (nI c18)), (7, .int 0)], [.int (-2), .int (ar1 80 c18)], gh S a b sc1 ar1 lo, ex, 0, 0)) rfl ?_
            refine to_ic_ne (t := 346) rfl (fun q29 => ?_) (fun q29 => ?_)
            · refine to_n 2 (fr' := (349, [(0, .ref 49), (1, .int (nI t)), (2, .int (nI S)), (3, .int (nI (h + 1))), (4, .int (nI q)), (5, .int (nI (64 + c18))), (6, .int (nI c18)), (7, .int 0), (8, .int 0)], [], gh S a b sc1 ar1 lo, ex, 0, 0)) rfl ?_
              refine to_lv (lv := [(0, .ref 49), (1, .int (nI t)), (2, .int (nI S)), (3, .int (nI (h + 1))), (4, .int (nI q)), (5, .int (nI (64 + c18))), (6, .int (nI c18)), (8, .int 0)]) rfl ⟨rfl, rfl, rfl, rfl, rfl, rfl, rfl, rfl, trivial⟩ ?_
              exact c349 (4 - 0) q (64 + c18) c18 0 sc1 ar1 (by omega) (by omega) (by omega) hc125_0 (by omega) e18 hc125_2 hc125_3 (fun _ => ⟨by omega, fun e9 => q29 (zsw_1.mp e9)⟩) rx_0 hc125_4 hc125_5 hc125_6 hI1 hF1
            · refine to_n 1 (fr' := (326, [(0, .ref 49), (1, .int (nI t)), (2, .int (nI S)), (3, .int (nI (h + 1))), (4, .int (nI q)), (5, .int (nI (64 + c18))), (6, .int (nI c18)), (7, .int 0)], [.ref 49], gh S a b sc1 ar1 lo, ex, 0, 0)) rfl ?_
              refine to_get rfl rfl rfl rfl ?_
              refine to_n 2 (fr' := (333, [(0, .ref 49), (1, .int (nI t)), (2, .int (nI S)), (3, .int (nI (h + 1))), (4, .int (nI q)), (5, .int (nI (64 + c18))), (6, .int (nI c18)), (7, .int 0)], [.int (nI (64 + c18)), .int (nI c18), .ref 80], gh S a b sc1 ar1 lo, ex, 0, 0)) rfl ?_
              refine to_iasR (i := c18) (h' := gh S a b sc1 (uA ar1 80 (upd (ar1 80) c18 (nI (64 + c18)))) lo) rfl rfl (by omega) (by omega) rfl ?_
              have hI30 := ia_80 (i := c18) (v := (nI (64 + c18))) hI1 (rm_n (n := (64 + c18)) (by omega) (by omega))
              have hF30 := fr_a (c := 80) (g := (upd (ar1 80) c18 (nI (64 + c18)))) hF1 (by decide)
              have hr30 := bq_room (Nat.le_refl 64) hc125_0 (n := c18) (by omega) (zsw_1.mpr q29)
              refine to_n 1 (fr' := (335, [(0, .ref 49), (1, .int (nI t)), (2, .int (nI S)), (3, .int (nI (h + 1))), (4, .int (nI q)), (5, .int (nI (64 + c18))), (6, .int (nI c18)), (7, .int 0)], [.ref 49], gh S a b sc1 (uA ar1 80 (upd (ar1 80) c18 (nI (64 + c18)))) lo, ex, 0, 0)) rfl ?_
              refine to_get rfl rfl rfl rfl ?_
              refine to_n 2 (fr' := (342, [(0, .ref 49), (1, .int (nI t)), (2, .int (nI S)), (3, .int (nI (h + 1))), (4, .int (nI q)), (5, .int (nI (64 + c18))), (6, .int (nI c18)), (7, .int 0)], [.int (nI c18), .int (nI q), .ref 81], gh S a b sc1 (uA ar1 80 (upd (ar1 80) c18 (nI (64 + c18)))) lo, ex, 0, 0)) rfl ?_
              refine to_iasR (i := q) (h' := gh S a b sc1 (uA (uA ar1 80 (upd (ar1 80) c18 (nI (64 + c18)))) 81 (upd ((uA ar1 80 (upd (ar1 80) c18 (nI (64 + c18)))) 81) q (nI c18))) lo) rfl rfl (by omega) (by omega) rfl ?_
              have hI31 := ia_81 (i := q) (v := (nI c18)) hI30 (rn_n (n := c18) (by omega) (by omega))
              have hF31 := fr_a (c := 81) (g := (upd ((uA ar1 80 (upd (ar1 80) c18 (nI (64 + c18)))) 81) q (nI c18))) hF30 (by decide)
              have hb31 : BQ 64 a b (vW S t (ar 51) (ar 77)) (vM S a b t (ar 51) (ar 77)) (ar 79) (ar 83) 64 (q + 1) (zsf ((uA (uA ar1 80 (upd (ar1 80) c18 (nI (64 + c18)))) 81 (upd ((uA ar1 80 (upd (ar1 80) c18 (nI (64 + c18)))) 81) q (nI c18))) 80)) ((uA (uA ar1 80 (upd (ar1 80) c18 (nI (64 + c18)))) 81 (upd ((uA ar1 80 (upd (ar1 80) c18 (nI (64 + c18)))) 81) q (nI c18))) 81) := (by rw [show zsf ((uA (uA ar1 80 (upd (ar1 80) c18 (nI (64 + c18)))) 81 (upd ((uA ar1 80 (upd (ar1 80) c18 (nI (64 + c18)))) 81) q (nI c18))) 80) = upd (zsf (ar1 80)) c18 (nI (64 + c18)) from (zsf_u (f := (ar1 80)) (n := c18) (v := (nI (64 + c18)))).trans (by rw [zsw_n (by omega)])]; exact (bq_put (Nat.le_refl 64) hc125_0 (by omega) (zsw_1.mpr q29) (Or.inl ⟨by omega, (hr.1 c18 ⟨by omega, (by rw [q28]; decide)⟩).2.1, Or.inr (Or.inr ⟨rfl, hs18, ⟨by omega, (by rw [q28]; decide)⟩⟩)⟩)).2)
              have hm31 : BM q (q + 1) (zsf (ar1 80)) ((uA ar1 80 (upd (ar1 80) c18 (nI (64 + c18)))) 81) (zsf ((uA (uA ar1 80 (upd (ar1 80) c18 (nI (64 + c18)))) 81 (upd ((uA ar1 80 (upd (ar1 80) c18 (nI (64 + c18)))) 81) q (nI c18))) 80)) ((uA (uA ar1 80 (upd (ar1 80) c18 (nI (64 + c18)))) 81 (upd ((uA ar1 80 (upd (ar1 80) c18 (nI (64 + c18)))) 81) q (nI c18))) 81) := (by rw [show zsf ((uA (uA ar1 80 (upd (ar1 80) c18 (nI (64 + c18)))) 81 (upd ((uA ar1 80 (upd (ar1 80) c18 (nI (64 + c18)))) 81) q (nI c18))) 80) = upd (zsf (ar1 80)) c18 (nI (64 + c18)) from (zsf_u (f := (ar1 80)) (n := c18) (v := (nI (64 + c18)))).trans (by rw [zsw_n (by omega)])]; exact bm_put (zsw_1.mpr q29))
              refine to_n 1 (fr' := (346, [(0, .ref 49), (1, .int (nI t)), (2, .int (nI S)), (3, .int (nI (h + 1))), (4, .int ((nI q) + 1)), (5, .int (nI (64 + c18))), (6, .int (nI c18)), (7, .int 0)], [], gh S a b sc1 (uA (uA ar1 80 (upd (ar1 80) c18 (nI (64 + c18)))) 81 (upd ((uA ar1 80 (upd (ar1 80) c18 (nI (64 + c18)))) 81) q (nI c18))) lo, ex, 0, 0)) rfl ?_
              rw [nI_1 q]
              refine to_n 2 (fr' := (349, [(0, .ref 49), (1, .int (nI t)), (2, .int (nI S)), (3, .int (nI (h + 1))), (4, .int (nI (q + 1))), (5, .int (nI (64 + c18))), (6, .int (nI c18)), (7, .int 0), (8, .int 0)], [], gh S a b sc1 (uA (uA ar1 80 (upd (ar1 80) c18 (nI (64 + c18)))) 81 (upd ((uA ar1 80 (upd (ar1 80) c18 (nI (64 + c18)))) 81) q (nI c18))) lo, ex, 0, 0)) rfl ?_
              refine to_lv (lv := [(0, .ref 49), (1, .int (nI t)), (2, .int (nI S)), (3, .int (nI (h + 1))), (4, .int (nI (q + 1))), (5, .int (nI (64 + c18))), (6, .int (nI c18)), (8, .int 0)]) rfl ⟨rfl, rfl, rfl, rfl, rfl, rfl, rfl, rfl, trivial⟩ ?_
              exact c349 (4 - 0) (q + 1) (64 + c18) c18 0 sc1 (uA (uA ar1 80 (upd (ar1 80) c18 (nI (64 + c18)))) 81 (upd ((uA ar1 80 (upd (ar1 80) c18 (nI (64 + c18)))) 81) q (nI c18))) (by omega) (by omega) (by omega) hb31 (by omega) ((hm31.2.2 h (by omega)).trans e18) (rd_m hm31 (by omega) hc125_2) (rs_m hm31.2.1 hc125_3) (fun _ => ⟨by omega, fun e9 => absurd (zsw_1.mp e9) (by show ¬ upd _ _ _ _ = _; rw [ug_eq]; exact nI_neg (by omega) (by decide))⟩) rx_0 hc125_4 hc125_5 hc125_6 hI31 hF31
  have c44 : ∀ m : Nat, ∀ (q : Nat) (i : Nat) (sc32 : Nat → Int32) (ar32 : Nat → Nat → Int32), i + m = S → BQ 64 a b (vW S t (ar 51) (ar 77)) (vM S a b t (ar 51) (ar 77)) (ar 79) (ar 83) 64 q (zsf (ar32 80)) (ar32 81) → RS (vM S a b t (ar 51) (ar 77)) (ar 79) (ar 83) (zsf (ar32 80)) i → (∀ j, i ≤ j → j < 128 → ar32 80 j = -2) → ar32 79 = ar 79 → ar32 82 = ar 82 → ar32 83 = ar 83 → Iv S sc32 ar32 → Fr [] [79, 80, 81, 82, 83, 84] sc ar sc32 ar32 → ag_To X (d + 2) an_X10_oneMore (44, [(0, .ref 49), (1, .int (nI t)), (2, .int (nI S)), (3, .int 0), (4, .int (nI q)), (5, .int (nI i))], [], gh S a b sc32 ar32 lo, ex, 0, 0) (qi S a b lo ex (fun x sc' ar' => Iv S sc' ar' ∧ Fr [] [79, 80, 81, 82, 83, 84] sc ar sc' ar' ∧ rl x 2 ∧ ((x = 0 ∧ zcut 64 (zbs 64 a b) (kW 64 (vW S t (ar 51) (ar 77))) (kW 64 (vM S a b t (ar 51) (ar 77))) (fun c => zbs 64 a b c t) r ∧ ar' 79 = ar 79 ∧ ar' 82 = ar 82 ∧ ar' 83 = ar 83) ∨ (x = 1 ∧ RI a b t (vW S t (ar 51) (ar 77)) (vM S a b t (ar 51) (ar 77)) (ar' 79) (ar' 82) (ar' 83) (r + 1))))) := by
    intro m
    induction m with
    | zero =>
      intro q i sc32 ar32 hm hc44_0 hc44_1 hc44_2 hc44_3 hc44_4 hc44_5 hI32 hF32
      refine to_n 2 (fr' := (47, [(0, .ref 49), (1, .int (nI t)), (2, .int (nI S)), (3, .int 0), (4, .int (nI q)), (5, .int (nI i))], [.int (nI S), .int (nI i)], gh S a b sc32 ar32 lo, ex, 0, 0)) rfl ?_
      refine to_nc_ge_T (t := 125) (x := i) (y := S) rfl (by omega) (by omega) (by omega) ?_
      refine to_lv (lv := [(0, .ref 49), (1, .int (nI t)), (2, .int (nI S)), (3, .int 0), (4, .int (nI q))]) rfl ⟨rfl, rfl, rfl, rfl, rfl, trivial⟩ ?_
      exact c125 (128 - 0) 0 q sc32 ar32 (by omega) hc44_0 (by omega) rd_0 (rs_e (fun c w => by have := ((vM_k hS).mp w).1.1; omega) hc44_1) hc44_3 hc44_4 hc44_5 (by omega) hI32 hF32
    | succ m ih =>
      intro q i sc32 ar32 hm hc44_0 hc44_1 hc44_2 hc44_3 hc44_4 hc44_5 hI32 hF32
      refine to_n 2 (fr' := (47, [(0, .ref 49), (1, .int (nI t)), (2, .int (nI S)), (3, .int 0), (4, .int (nI q)), (5, .int (nI i))], [.int (nI S), .int (nI i)], gh S a b sc32 ar32 lo, ex, 0, 0)) rfl ?_
      refine to_nc_ge_F (t := 125) (x := i) (y := S) rfl (by omega) (by omega) (by omega) ?_
      refine to_n 2 (fr' := (53, [(0, .ref 49), (1, .int (nI t)), (2, .int (nI S)), (3, .int 0), (4, .int (nI q)), (5, .int (nI i))], [.int (nI i), .ref 49], gh S a b sc32 ar32 lo, ex, 0, 0)) rfl ?_
      refine to_cp (q := 161) (M1 := an_X10_stays) (rest := []) rfl rfl (by decide) rfl ⟨_, rfl⟩ (sf_X10_stays2 hW hI32 i (by omega) (d + 1)) (fun x33 hx33 => ?_)
      simp only [show ar32 51 = ar 51 from hF32.2 51 (by decide), show ar32 77 = ar 77 from hF32.2 77 (by decide)] at hx33
      rcases hx33 with ⟨rfl, w33⟩ | ⟨rfl, w33⟩
      · refine to_eq (fr' := (56, [(0, .ref 49), (1, .int (nI t)), (2, .int (nI S)), (3, .int 0), (4, .int (nI q)), (5, .int (nI i))], [.int 1], gh S a b sc32 ar32 lo, ex, 0, 0)) rfl ?_
        refine to_n 3 (fr' := (62, [(0, .ref 49), (1, .int (nI t)), (2, .int (nI S)), (3, .int 0), (4, .int (nI q)), (5, .int (nI i))], [.int (nI t), .int (nI i)], gh S a b sc32 ar32 lo, ex, 0, 0)) rfl ?_
        refine to_nc_eq (t := 119) (x := i) (y := t) rfl (by omega) (by omega) (fun q34 => ?_) (fun q34 => ?_)
        · refine to_n 1 (fr' := (122, [(0, .ref 49), (1, .int (nI t)), (2, .int (nI S)), (3, .int 0), (4, .int (nI q)), (5, .int ((nI i) + 1))], [], gh S a b sc32 ar32 lo, ex, 0, 0)) rfl ?_
          rw [nI_1 i]
          refine to_n 1 (fr' := (44, [(0, .ref 49), (1, .int (nI t)), (2, .int (nI S)), (3, .int 0), (4, .int (nI q)), (5, .int (nI (i + 1)))], [], gh S a b sc32 ar32 lo, ex, 0, 0)) rfl ?_
          exact ih q (i + 1) sc32 ar32 (by omega) hc44_0 (rs_n hc44_1 (fun w => absurd q34 ((vM_k hS).mp w).1.2.2.2)) (fun j h1 h2 => hc44_2 j (by omega) h2) hc44_3 hc44_4 hc44_5 hI32 hF32
        · refine to_n 2 (fr' := (68, [(0, .ref 49), (1, .int (nI t)), (2, .int (nI S)), (3, .int 0), (4, .int (nI q)), (5, .int (nI i))], [.int (nI i), .ref 49], gh S a b sc32 ar32 lo, ex, 0, 0)) rfl ?_
          refine to_cp (q := 160) (M1 := an_X10_isSource) (rest := []) rfl rfl (by decide) rfl ⟨_, rfl⟩ (sf_X10_isSource2 hW hI32 i (by omega) d) (fun x35 hx35 => ?_)
          simp only [show ar32 51 = ar 51 from hF32.2 51 (by decide)] at hx35
          rcases hx35 with ⟨rfl, w35⟩ | ⟨rfl, w35⟩
          · refine to_eq (fr' := (71, [(0, .ref 49), (1, .int (nI t)), (2, .int (nI S)), (3, .int 0), (4, .int (nI q)), (5, .int (nI i))], [.int 1], gh S a b sc32 ar32 lo, ex, 0, 0)) rfl ?_
            refine to_n 2 (fr' := (75, [(0, .ref 49), (1, .int (nI t)), (2, .int (nI S)), (3, .int 0), (4, .int (nI q)), (5, .int (nI i))], [.ref 49], gh S a b sc32 ar32 lo, ex, 0, 0)) rfl ?_
            refine to_get rfl rfl rfl rfl ?_
            refine to_n 1 (fr' := (80, [(0, .ref 49), (1, .int (nI t)), (2, .int (nI S)), (3, .int 0), (4, .int (nI q)), (5, .int (nI i))], [.int (nI i), .ref 79], gh S a b sc32 ar32 lo, ex, 0, 0)) rfl ?_
            refine to_ialR (i := i) (v := (ar 79 i)) rfl (by decide) rfl (by omega) (by omega) (congrFun hc44_3 i) ?_
            refine to_n 1 (fr' := (82, [(0, .ref 49), (1, .int (nI t)), (2, .int (nI S)), (3, .int 0), (4, .int (nI q)), (5, .int (nI i))], [.int 1, .int (ar 79 i)], gh S a b sc32 ar32 lo, ex, 0, 0)) rfl ?_
            refine to_ic_ne (t := 99) rfl (fun q36 => ?_) (fun q36 => ?_)
            · refine to_n 1 (fr' := (100, [(0, .ref 49), (1, .int (nI t)), (2, .int (nI S)), (3, .int 0), (4, .int (nI q)), (5, .int (nI i))], [.ref 49], gh S a b sc32 ar32 lo, ex, 0, 0)) rfl ?_
              refine to_get rfl rfl rfl rfl ?_
              refine to_n 2 (fr' := (106, [(0, .ref 49), (1, .int (nI t)), (2, .int (nI S)), (3, .int 0), (4, .int (nI q)), (5, .int (nI i))], [.int (-1), .int (nI i), .ref 80], gh S a b sc32 ar32 lo, ex, 0, 0)) rfl ?_
              refine to_iasR (i := i) (h' := gh S a b sc32 (uA ar32 80 (upd (ar32 80) i (-1))) lo) rfl rfl (by omega) (by omega) rfl ?_
              have hI37 := ia_80 (i := i) (v := (-1)) hI32 (rm_m)
              have hF37 := fr_a (c := 80) (g := (upd (ar32 80) i (-1))) hF32 (by decide)
              have hr37 := bq_room (Nat.le_refl 64) hc44_0 (n := i) (by omega) (zsw_1.mpr (hc44_2 i (Nat.le_refl _) (by omega)))
              refine to_n 1 (fr' := (108, [(0, .ref 49), (1, .int (nI t)), (2, .int (nI S)), (3, .int 0), (4, .int (nI q)), (5, .int (nI i))], [.ref 49], gh S a b sc32 (uA ar32 80 (upd (ar32 80) i (-1))) lo, ex, 0, 0)) rfl ?_
              refine to_get rfl rfl rfl rfl ?_
              refine to_n 2 (fr' := (115, [(0, .ref 49), (1, .int (nI t)), (2, .int (nI S)), (3, .int 0), (4, .int (nI q)), (5, .int (nI i))], [.int (nI i), .int (nI q), .ref 81], gh S a b sc32 (uA ar32 80 (upd (ar32 80) i (-1))) lo, ex, 0, 0)) rfl ?_
              refine to_iasR (i := q) (h' := gh S a b sc32 (uA (uA ar32 80 (upd (ar32 80) i (-1))) 81 (upd ((uA ar32 80 (upd (ar32 80) i (-1))) 81) q (nI i))) lo) rfl rfl (by omega) (by omega) rfl ?_
              have hI38 := ia_81 (i := q) (v := (nI i)) hI37 (rn_n (n := i) (by omega) (by omega))
              have hF38 := fr_a (c := 81) (g := (upd ((uA ar32 80 (upd (ar32 80) i (-1))) 81) q (nI i))) hF37 (by decide)
              have hb38 : BQ 64 a b (vW S t (ar 51) (ar 77)) (vM S a b t (ar 51) (ar 77)) (ar 79) (ar 83) 64 (q + 1) (zsf ((uA (uA ar32 80 (upd (ar32 80) i (-1))) 81 (upd ((uA ar32 80 (upd (ar32 80) i (-1))) 81) q (nI i))) 80)) ((uA (uA ar32 80 (upd (ar32 80) i (-1))) 81 (upd ((uA ar32 80 (upd (ar32 80) i (-1))) 81) q (nI i))) 81) := (by rw [show zsf ((uA (uA ar32 80 (upd (ar32 80) i (-1))) 81 (upd ((uA ar32 80 (upd (ar32 80) i (-1))) 81) q (nI i))) 80) = upd (zsf (ar32 80)) i (-2) from (zsf_u (f := (ar32 80)) (n := i) (v := (-1))).trans (by rw [zsw_m])]; exact (bq_put (Nat.le_refl 64) hc44_0 (by omega) (zsw_1.mpr (hc44_2 i (Nat.le_refl _) (by omega))) (Or.inl ⟨by omega, (vW_k hS).mpr ⟨by omega, w33.1, w33.2, q34⟩, Or.inl ⟨rfl, Or.inl ((vM_k hS).mpr ⟨⟨by omega, w33.1, w33.2, q34⟩, w35⟩)⟩⟩)).2)
              have hm38 : BM q (q + 1) (zsf (ar32 80)) ((uA ar32 80 (upd (ar32 80) i (-1))) 81) (zsf ((uA (uA ar32 80 (upd (ar32 80) i (-1))) 81 (upd ((uA ar32 80 (upd (ar32 80) i (-1))) 81) q (nI i))) 80)) ((uA (uA ar32 80 (upd (ar32 80) i (-1))) 81 (upd ((uA ar32 80 (upd (ar32 80) i (-1))) 81) q (nI i))) 81) := (by rw [show zsf ((uA (uA ar32 80 (upd (ar32 80) i (-1))) 81 (upd ((uA ar32 80 (upd (ar32 80) i (-1))) 81) q (nI i))) 80) = upd (zsf (ar32 80)) i (-2) from (zsf_u (f := (ar32 80)) (n := i) (v := (-1))).trans (by rw [zsw_m])]; exact bm_put (zsw_1.mpr (hc44_2 i (Nat.le_refl _) (by omega))))
              refine to_n 1 (fr' := (119, [(0, .ref 49), (1, .int (nI t)), (2, .int (nI S)), (3, .int 0), (4, .int ((nI q) + 1)), (5, .int (nI i))], [], gh S a b sc32 (uA (uA ar32 80 (upd (ar32 80) i (-1))) 81 (upd ((uA ar32 80 (upd (ar32 80) i (-1))) 81) q (nI i))) lo, ex, 0, 0)) rfl ?_
              rw [nI_1 q]
              refine to_n 1 (fr' := (122, [(0, .ref 49), (1, .int (nI t)), (2, .int (nI S)), (3, .int 0), (4, .int (nI (q + 1))), (5, .int ((nI i) + 1))], [], gh S a b sc32 (uA (uA ar32 80 (upd (ar32 80) i (-1))) 81 (upd ((uA ar32 80 (upd (ar32 80) i (-1))) 81) q (nI i))) lo, ex, 0, 0)) rfl ?_
              rw [nI_1 i]
              refine to_n 1 (fr' := (44, [(0, .ref 49), (1, .int (nI t)), (2, .int (nI S)), (3, .int 0), (4, .int (nI (q + 1))), (5, .int (nI (i + 1)))], [], gh S a b sc32 (uA (uA ar32 80 (upd (ar32 80) i (-1))) 81 (upd ((uA ar32 80 (upd (ar32 80) i (-1))) 81) q (nI i))) lo, ex, 0, 0)) rfl ?_
              exact ih (q + 1) (i + 1) sc32 (uA (uA ar32 80 (upd (ar32 80) i (-1))) 81 (upd ((uA ar32 80 (upd (ar32 80) i (-1))) 81) q (nI i))) (by omega) hb38 (rs_y hc44_1 hm38.2.1 ⟨by omega, fun e9 => absurd (zsw_1.mp e9) (by show ¬ upd _ _ _ _ = _; rw [ug_eq]; decide)⟩) (fun j h1 h2 => (ug_ne (by omega)).trans (hc44_2 j (by omega) h2)) hc44_3 hc44_4 hc44_5 hI38 hF38
            · refine to_n 1 (fr' := (86, [(0, .ref 49), (1, .int (nI t)), (2, .int (nI S)), (3, .int 0), (4, .int (nI q)), (5, .int (nI i))], [.ref 49], gh S a b sc32 ar32 lo, ex, 0, 0)) rfl ?_
              refine to_get rfl rfl rfl rfl ?_
              refine to_n 1 (fr' := (91, [(0, .ref 49), (1, .int (nI t)), (2, .int (nI S)), (3, .int 0), (4, .int (nI q)), (5, .int (nI i))], [.int (nI i), .ref 83], gh S a b sc32 ar32 lo, ex, 0, 0)) rfl ?_
              refine to_ialR (i := i) (v := (ar 83 i)) rfl (by decide) rfl (by omega) (by omega) (congrFun hc44_5 i) ?_
              refine to_n 1 (fr' := (93, [(0, .ref 49), (1, .int (nI t)), (2, .int (nI S)), (3, .int 0), (4, .int (nI q)), (5, .int (nI i))], [.int (-1), .int (ar 83 i)], gh S a b sc32 ar32 lo, ex, 0, 0)) rfl ?_
              refine to_ic_ne (t := 99) rfl (fun q39 => ?_) (fun q39 => ?_)
              · refine to_n 1 (fr' := (100, [(0, .ref 49), (1, .int (nI t)), (2, .int (nI S)), (3, .int 0), (4, .int (nI q)), (5, .int (nI i))], [.ref 49], gh S a b sc32 ar32 lo, ex, 0, 0)) rfl ?_
                refine to_get rfl rfl rfl rfl ?_
                refine to_n 2 (fr' := (106, [(0, .ref 49), (1, .int (nI t)), (2, .int (nI S)), (3, .int 0), (4, .int (nI q)), (5, .int (nI i))], [.int (-1), .int (nI i), .ref 80], gh S a b sc32 ar32 lo, ex, 0, 0)) rfl ?_
                refine to_iasR (i := i) (h' := gh S a b sc32 (uA ar32 80 (upd (ar32 80) i (-1))) lo) rfl rfl (by omega) (by omega) rfl ?_
                have hI40 := ia_80 (i := i) (v := (-1)) hI32 (rm_m)
                have hF40 := fr_a (c := 80) (g := (upd (ar32 80) i (-1))) hF32 (by decide)
                have hr40 := bq_room (Nat.le_refl 64) hc44_0 (n := i) (by omega) (zsw_1.mpr (hc44_2 i (Nat.le_refl _) (by omega)))
                refine to_n 1 (fr' := (108, [(0, .ref 49), (1, .int (nI t)), (2, .int (nI S)), (3, .int 0), (4, .int (nI q)), (5, .int (nI i))], [.ref 49], gh S a b sc32 (uA ar32 80 (upd (ar32 80) i (-1))) lo, ex, 0, 0)) rfl ?_
                refine to_get rfl rfl rfl rfl ?_
                refine to_n 2 (fr' := (115, [(0, .ref 49), (1, .int (nI t)), (2, .int (nI S)), (3, .int 0), (4, .int (nI q)), (5, .int (nI i))], [.int (nI i), .int (nI q), .ref 81], gh S a b sc32 (uA ar32 80 (upd (ar32 80) i (-1))) lo, ex, 0, 0)) rfl ?_
                refine to_iasR (i := q) (h' := gh S a b sc32 (uA (uA ar32 80 (upd (ar32 80) i (-1))) 81 (upd ((uA ar32 80 (upd (ar32 80) i (-1))) 81) q (nI i))) lo) rfl rfl (by omega) (by omega) rfl ?_
                have hI41 := ia_81 (i := q) (v := (nI i)) hI40 (rn_n (n := i) (by omega) (by omega))
                have hF41 := fr_a (c := 81) (g := (upd ((uA ar32 80 (upd (ar32 80) i (-1))) 81) q (nI i))) hF40 (by decide)
                have hb41 : BQ 64 a b (vW S t (ar 51) (ar 77)) (vM S a b t (ar 51) (ar 77)) (ar 79) (ar 83) 64 (q + 1) (zsf ((uA (uA ar32 80 (upd (ar32 80) i (-1))) 81 (upd ((uA ar32 80 (upd (ar32 80) i (-1))) 81) q (nI i))) 80)) ((uA (uA ar32 80 (upd (ar32 80) i (-1))) 81 (upd ((uA ar32 80 (upd (ar32 80) i (-1))) 81) q (nI i))) 81) := (by rw [show zsf ((uA (uA ar32 80 (upd (ar32 80) i (-1))) 81 (upd ((uA ar32 80 (upd (ar32 80) i (-1))) 81) q (nI i))) 80) = upd (zsf (ar32 80)) i (-2) from (zsf_u (f := (ar32 80)) (n := i) (v := (-1))).trans (by rw [zsw_m])]; exact (bq_put (Nat.le_refl 64) hc44_0 (by omega) (zsw_1.mpr (hc44_2 i (Nat.le_refl _) (by omega))) (Or.inl ⟨by omega, (vW_k hS).mpr ⟨by omega, w33.1, w33.2, q34⟩, Or.inl ⟨rfl, Or.inl ((vM_k hS).mpr ⟨⟨by omega, w33.1, w33.2, q34⟩, w35⟩)⟩⟩)).2)
                have hm41 : BM q (q + 1) (zsf (ar32 80)) ((uA ar32 80 (upd (ar32 80) i (-1))) 81) (zsf ((uA (uA ar32 80 (upd (ar32 80) i (-1))) 81 (upd ((uA ar32 80 (upd (ar32 80) i (-1))) 81) q (nI i))) 80)) ((uA (uA ar32 80 (upd (ar32 80) i (-1))) 81 (upd ((uA ar32 80 (upd (ar32 80) i (-1))) 81) q (nI i))) 81) := (by rw [show zsf ((uA (uA ar32 80 (upd (ar32 80) i (-1))) 81 (upd ((uA ar32 80 (upd (ar32 80) i (-1))) 81) q (nI i))) 80) = upd (zsf (ar32 80)) i (-2) from (zsf_u (f := (ar32 80)) (n := i) (v := (-1))).trans (by rw [zsw_m])]; exact bm_put (zsw_1.mpr (hc44_2 i (Nat.le_refl _) (by omega))))
                refine to_n 1 (fr' := (119, [(0, .ref 49), (1, .int (nI t)), (2, .int (nI S)), (3, .int 0), (4, .int ((nI q) + 1)), (5, .int (nI i))], [], gh S a b sc32 (uA (uA ar32 80 (upd (ar32 80) i (-1))) 81 (upd ((uA ar32 80 (upd (ar32 80) i (-1))) 81) q (nI i))) lo, ex, 0, 0)) rfl ?_
                rw [nI_1 q]
                refine to_n 1 (fr' := (122, [(0, .ref 49), (1, .int (nI t)), (2, .int (nI S)), (3, .int 0), (4, .int (nI (q + 1))), (5, .int ((nI i) + 1))], [], gh S a b sc32 (uA (uA ar32 80 (upd (ar32 80) i (-1))) 81 (upd ((uA ar32 80 (upd (ar32 80) i (-1))) 81) q (nI i))) lo, ex, 0, 0)) rfl ?_
                rw [nI_1 i]
                refine to_n 1 (fr' := (44, [(0, .ref 49), (1, .int (nI t)), (2, .int (nI S)), (3, .int 0), (4, .int (nI (q + 1))), (5, .int (nI (i + 1)))], [], gh S a b sc32 (uA (uA ar32 80 (upd (ar32 80) i (-1))) 81 (upd ((uA ar32 80 (upd (ar32 80) i (-1))) 81) q (nI i))) lo, ex, 0, 0)) rfl ?_
                exact ih (q + 1) (i + 1) sc32 (uA (uA ar32 80 (upd (ar32 80) i (-1))) 81 (upd ((uA ar32 80 (upd (ar32 80) i (-1))) 81) q (nI i))) (by omega) hb41 (rs_y hc44_1 hm41.2.1 ⟨by omega, fun e9 => absurd (zsw_1.mp e9) (by show ¬ upd _ _ _ _ = _; rw [ug_eq]; decide)⟩) (fun j h1 h2 => (ug_ne (by omega)).trans (hc44_2 j (by omega) h2)) hc44_3 hc44_4 hc44_5 hI41 hF41
              · refine to_n 2 (fr' := (122, [(0, .ref 49), (1, .int (nI t)), (2, .int (nI S)), (3, .int 0), (4, .int (nI q)), (5, .int ((nI i) + 1))], [], gh S a b sc32 ar32 lo, ex, 0, 0)) rfl ?_
                rw [nI_1 i]
                refine to_n 1 (fr' := (44, [(0, .ref 49), (1, .int (nI t)), (2, .int (nI S)), (3, .int 0), (4, .int (nI q)), (5, .int (nI (i + 1)))], [], gh S a b sc32 ar32 lo, ex, 0, 0)) rfl ?_
                exact ih q (i + 1) sc32 ar32 (by omega) hc44_0 (rs_n hc44_1 (fun w => ⟨⟨by omega, by rw [q36]; decide⟩, kB_m (by rw [q39]; decide)⟩)) (fun j h1 h2 => hc44_2 j (by omega) h2) hc44_3 hc44_4 hc44_5 hI32 hF32
          · refine to_eq (fr' := (71, [(0, .ref 49), (1, .int (nI t)), (2, .int (nI S)), (3, .int 0), (4, .int (nI q)), (5, .int (nI i))], [.int 0], gh S a b sc32 ar32 lo, ex, 0, 0)) rfl ?_
            refine to_n 2 (fr' := (122, [(0, .ref 49), (1, .int (nI t)), (2, .int (nI S)), (3, .int 0), (4, .int (nI q)), (5, .int ((nI i) + 1))], [], gh S a b sc32 ar32 lo, ex, 0, 0)) rfl ?_
            rw [nI_1 i]
            refine to_n 1 (fr' := (44, [(0, .ref 49), (1, .int (nI t)), (2, .int (nI S)), (3, .int 0), (4, .int (nI q)), (5, .int (nI (i + 1)))], [], gh S a b sc32 ar32 lo, ex, 0, 0)) rfl ?_
            exact ih q (i + 1) sc32 ar32 (by omega) hc44_0 (rs_n hc44_1 (fun w => absurd ((vM_k hS).mp w).2 w35)) (fun j h1 h2 => hc44_2 j (by omega) h2) hc44_3 hc44_4 hc44_5 hI32 hF32
      · refine to_eq (fr' := (56, [(0, .ref 49), (1, .int (nI t)), (2, .int (nI S)), (3, .int 0), (4, .int (nI q)), (5, .int (nI i))], [.int 0], gh S a b sc32 ar32 lo, ex, 0, 0)) rfl ?_
        refine to_n 2 (fr' := (122, [(0, .ref 49), (1, .int (nI t)), (2, .int (nI S)), (3, .int 0), (4, .int (nI q)), (5, .int ((nI i) + 1))], [], gh S a b sc32 ar32 lo, ex, 0, 0)) rfl ?_
        rw [nI_1 i]
        refine to_n 1 (fr' := (44, [(0, .ref 49), (1, .int (nI t)), (2, .int (nI S)), (3, .int 0), (4, .int (nI q)), (5, .int (nI (i + 1)))], [], gh S a b sc32 ar32 lo, ex, 0, 0)) rfl ?_
        exact ih q (i + 1) sc32 ar32 (by omega) hc44_0 (rs_n hc44_1 (fun w => absurd ⟨((vM_k hS).mp w).1.2.1, ((vM_k hS).mp w).1.2.2.1⟩ w33)) (fun j h1 h2 => hc44_2 j (by omega) h2) hc44_3 hc44_4 hc44_5 hI32 hF32
  have c18 : ∀ m : Nat, ∀ (i : Nat) (sc42 : Nat → Int32) (ar42 : Nat → Nat → Int32), i + m = 128 → (∀ j, j < i → ar42 80 j = -2) → ar42 79 = ar 79 → ar42 82 = ar 82 → ar42 83 = ar 83 → Iv S sc42 ar42 → Fr [] [79, 80, 81, 82, 83, 84] sc ar sc42 ar42 → ag_To X (d + 2) an_X10_oneMore (18, [(0, .ref 49), (1, .int (nI t)), (2, .int (nI S)), (3, .int 0), (4, .int 0), (5, .int (nI i))], [], gh S a b sc42 ar42 lo, ex, 0, 0) (qi S a b lo ex (fun x sc' ar' => Iv S sc' ar' ∧ Fr [] [79, 80, 81, 82, 83, 84] sc ar sc' ar' ∧ rl x 2 ∧ ((x = 0 ∧ zcut 64 (zbs 64 a b) (kW 64 (vW S t (ar 51) (ar 77))) (kW 64 (vM S a b t (ar 51) (ar 77))) (fun c => zbs 64 a b c t) r ∧ ar' 79 = ar 79 ∧ ar' 82 = ar 82 ∧ ar' 83 = ar 83) ∨ (x = 1 ∧ RI a b t (vW S t (ar 51) (ar 77)) (vM S a b t (ar 51) (ar 77)) (ar' 79) (ar' 82) (ar' 83) (r + 1))))) := by
    intro m
    induction m with
    | zero =>
      intro i sc42 ar42 hm hc18_0 hc18_1 hc18_2 hc18_3 hI42 hF42
      refine to_n 2 (fr' := (23, [(0, .ref 49), (1, .int (nI t)), (2, .int (nI S)), (3, .int 0), (4, .int 0), (5, .int (nI i))], [.int 128, .int (nI i)], gh S a b sc42 ar42 lo, ex, 0, 0)) rfl ?_
      refine to_nc_ge_T (t := 41) (x := i) (y := 128) rfl (by omega) (by omega) (by omega) ?_
      refine to_n 2 (fr' := (44, [(0, .ref 49), (1, .int (nI t)), (2, .int (nI S)), (3, .int 0), (4, .int 0), (5, .int 0)], [], gh S a b sc42 ar42 lo, ex, 0, 0)) rfl ?_
      exact c44 (S - 0) 0 0 sc42 ar42 (by omega) (bq_0 (fun n h => zsw_1.mpr (hc18_0 n (by omega)))) rs_0 (fun j _ h => hc18_0 j (by omega)) hc18_1 hc18_2 hc18_3 hI42 hF42
    | succ m ih =>
      intro i sc42 ar42 hm hc18_0 hc18_1 hc18_2 hc18_3 hI42 hF42
      refine to_n 2 (fr' := (23, [(0, .ref 49), (1, .int (nI t)), (2, .int (nI S)), (3, .int 0), (4, .int 0), (5, .int (nI i))], [.int 128, .int (nI i)], gh S a b sc42 ar42 lo, ex, 0, 0)) rfl ?_
      refine to_nc_ge_F (t := 41) (x := i) (y := 128) rfl (by omega) (by omega) (by omega) ?_
      refine to_n 1 (fr' := (27, [(0, .ref 49), (1, .int (nI t)), (2, .int (nI S)), (3, .int 0), (4, .int 0), (5, .int (nI i))], [.ref 49], gh S a b sc42 ar42 lo, ex, 0, 0)) rfl ?_
      refine to_get rfl rfl rfl rfl ?_
      refine to_n 2 (fr' := (34, [(0, .ref 49), (1, .int (nI t)), (2, .int (nI S)), (3, .int 0), (4, .int 0), (5, .int (nI i))], [.int (-2), .int (nI i), .ref 80], gh S a b sc42 ar42 lo, ex, 0, 0)) rfl ?_
      refine to_iasR (i := i) (h' := gh S a b sc42 (uA ar42 80 (upd (ar42 80) i (-2))) lo) rfl rfl (by omega) (by omega) rfl ?_
      have hI43 := ia_80 (i := i) (v := (-2)) hI42 (rm_2)
      have hF43 := fr_a (c := 80) (g := (upd (ar42 80) i (-2))) hF42 (by decide)
      refine to_n 1 (fr' := (38, [(0, .ref 49), (1, .int (nI t)), (2, .int (nI S)), (3, .int 0), (4, .int 0), (5, .int ((nI i) + 1))], [], gh S a b sc42 (uA ar42 80 (upd (ar42 80) i (-2))) lo, ex, 0, 0)) rfl ?_
      rw [nI_1 i]
      refine to_n 1 (fr' := (18, [(0, .ref 49), (1, .int (nI t)), (2, .int (nI S)), (3, .int 0), (4, .int 0), (5, .int (nI (i + 1)))], [], gh S a b sc42 (uA ar42 80 (upd (ar42 80) i (-2))) lo, ex, 0, 0)) rfl ?_
      exact ih (i + 1) sc42 (uA ar42 80 (upd (ar42 80) i (-2))) (by omega) (fun j w => if e9 : j = i then (by subst e9; exact ug_eq) else (ug_ne e9).trans (hc18_0 j (by omega))) hc18_1 hc18_2 hc18_3 hI43 hF43
  refine to_n 1 (fr' := (1, [(0, .ref 49), (1, .int (nI t))], [.ref 49], gh S a b sc ar lo, ex, 0, 0)) rfl ?_
  refine to_get rfl rfl rfl rfl ?_
  refine to_n 1 (fr' := (5, [(0, .ref 49), (1, .int (nI t))], [.ref 49, .int (nI a)], gh S a b sc ar lo, ex, 0, 0)) rfl ?_
  refine to_get rfl rfl rfl rfl ?_
  refine to_mulN (x := a) (y := b) rfl ?_
  rw [hab]
  refine to_n 7 (fr' := (18, [(0, .ref 49), (1, .int (nI t)), (2, .int (nI S)), (3, .int 0), (4, .int 0), (5, .int 0)], [], gh S a b sc ar lo, ex, 0, 0)) rfl ?_
  exact c18 (128 - 0) 0 sc ar (by omega) (fun j w => absurd w (Nat.not_lt_zero _)) rfl rfl rfl hI hF
set_option maxRecDepth 20000 in
theorem sf_X10_least {X : Nat × (Nat → Int32)} {S a b : Nat} {sc : Nat → Int32} {ar : Nat → Nat → Int32} {lo : Nat → Int64} {ex : Bool} (hW : Wd S a b) (hI : Iv S sc ar) (t : Nat) (ht : t < S) (hst : (ar 51 t = 0 ∧ ar 77 t = 0)) (d : Nat)  : ci X S a b (d + 4) 164 [.ref 49, .int (nI t)] sc ar lo ex (fun x sc' ar' => Iv S sc' ar' ∧ Fr [] [79, 80, 81, 82, 83, 84] sc ar sc' ar' ∧ (∃ r : Nat, r ≤ 4 ∧ x = nI r ∧ zcut 64 (zbs 64 a b) (kW 64 (vW S t (ar 51) (ar 77))) (kW 64 (vM S a b t (ar 51) (ar 77))) (fun c => zbs 64 a b c t) r)) := by
  obtain ⟨ha1, ha8, hb1, hb8, hab, hS1, hS⟩ := id hW
  refine ci_of (M := an_X10_least) rfl (Nat.le_of_ble_eq_true rfl) ?_
  have hF : Fr [] [79, 80, 81, 82, 83, 84] sc ar sc ar := fr_0
  refine to_eq (fr' := (0, [(0, .ref 49), (1, .int (nI t))], [], gh S a b sc ar lo, ex, 0, 0)) rfl ?_
  have c37 : ∀ m : Nat, ∀ (r : Nat) (sc1 : Nat → Int32) (ar1 : Nat → Nat → Int32), r + m = 5 → RI a b t (vW S t (ar 51) (ar 77)) (vM S a b t (ar 51) (ar 77)) (ar1 79) (ar1 82) (ar1 83) r → Iv S sc1 ar1 → Fr [] [79, 80, 81, 82, 83, 84] sc ar sc1 ar1 → ag_To X (d + 3) an_X10_least (37, [(0, .ref 49), (1, .int (nI t)), (2, .int (nI r))], [], gh S a b sc1 ar1 lo, ex, 0, 0) (qi S a b lo ex (fun x sc' ar' => Iv S sc' ar' ∧ Fr [] [79, 80, 81, 82, 83, 84] sc ar sc' ar' ∧ (∃ r : Nat, r ≤ 4 ∧ x = nI r ∧ zcut 64 (zbs 64 a b) (kW 64 (vW S t (ar 51) (ar 77))) (kW 64 (vM S a b t (ar 51) (ar 77))) (fun c => zbs 64 a b c t) r))) := by
    intro m
    induction m with
    | zero =>
      intro r sc1 ar1 hm hc37_0 hI1 hF1
      have h49 := ri_4 hW ht (fun c w => (vW_k hS).mpr ((vM_k hS).mp w).1) (fun c w => ((vW_k hS).mp w).1) hc37_0
      refine to_n 2 (fr' := (39, [(0, .ref 49), (1, .int (nI t)), (2, .int (nI r))], [.int 5, .int (nI r)], gh S a b sc1 ar1 lo, ex, 0, 0)) rfl ?_
      refine to_nc_ge_T (t := 56) (x := r) (y := 5) rfl (by omega) (by omega) (by omega) ?_
      refine to_n 1 (fr' := (57, [(0, .ref 49), (1, .int (nI t)), (2, .int (nI r))], [.int (nI r)], gh S a b sc1 ar1 lo, ex, 0, 0)) rfl ?_
      exact to_rt (i := .ireturn) (tg := []) rfl rfl ⟨_, _, _, ⟨hI1, hF1, (by exfalso; omega)⟩, rfl⟩
    | succ m ih =>
      intro r sc1 ar1 hm hc37_0 hI1 hF1
      have h49 := ri_4 hW ht (fun c w => (vW_k hS).mpr ((vM_k hS).mp w).1) (fun c w => ((vW_k hS).mp w).1) hc37_0
      refine to_n 2 (fr' := (39, [(0, .ref 49), (1, .int (nI t)), (2, .int (nI r))], [.int 5, .int (nI r)], gh S a b sc1 ar1 lo, ex, 0, 0)) rfl ?_
      refine to_nc_ge_F (t := 56) (x := r) (y := 5) rfl (by omega) (by omega) (by omega) ?_
      refine to_n 2 (fr' := (44, [(0, .ref 49), (1, .int (nI t)), (2, .int (nI r))], [.int (nI t), .ref 49], gh S a b sc1 ar1 lo, ex, 0, 0)) rfl ?_
      refine to_ci (q := 162) (M1 := an_X10_oneMore) (rest := []) rfl rfl (by decide) rfl ⟨_, rfl⟩ (sf_X10_oneMore hW hI1 t ht r (by rw [hF1.2 51 (by decide), hF1.2 77 (by decide)]; exact hc37_0) (by rw [hF1.2 51 (by decide), hF1.2 77 (by decide)]; exact hst) d) (fun x2 sc2 ar2 hx2 => ?_)
      obtain ⟨hI2, hG2, hx2⟩ := hx2
      have hF2 := fr_t hF1 hG2 (by decide) (by decide)
      simp only [show ar1 51 = ar 51 from hF1.2 51 (by decide), show ar1 77 = ar 77 from hF1.2 77 (by decide)] at hx2
      rcases hx2 with ⟨-, ⟨rfl, hz2, -⟩ | ⟨rfl, hz2⟩⟩
      · refine to_eq (fr' := (47, [(0, .ref 49), (1, .int (nI t)), (2, .int (nI r))], [.int 0], gh S a b sc2 ar2 lo, ex, 0, 0)) rfl ?_
        refine to_n 2 (fr' := (57, [(0, .ref 49), (1, .int (nI t)), (2, .int (nI r))], [.int (nI r)], gh S a b sc2 ar2 lo, ex, 0, 0)) rfl ?_
        exact to_rt (i := .ireturn) (tg := []) rfl rfl ⟨_, _, _, ⟨hI2, hF2, ⟨r, h49, rfl, hz2⟩⟩, rfl⟩
      · refine to_eq (fr' := (47, [(0, .ref 49), (1, .int (nI t)), (2, .int (nI r))], [.int 1], gh S a b sc2 ar2 lo, ex, 0, 0)) rfl ?_
        refine to_n 2 (fr' := (53, [(0, .ref 49), (1, .int (nI t)), (2, .int ((nI r) + 1))], [], gh S a b sc2 ar2 lo, ex, 0, 0)) rfl ?_
        rw [nI_1 r]
        refine to_n 1 (fr' := (37, [(0, .ref 49), (1, .int (nI t)), (2, .int (nI (r + 1)))], [], gh S a b sc2 ar2 lo, ex, 0, 0)) rfl ?_
        exact ih (r + 1) sc2 ar2 (by omega) hz2 hI2 hF2
  have c2 : ∀ m : Nat, ∀ (i : Nat) (sc3 : Nat → Int32) (ar3 : Nat → Nat → Int32), i + m = 64 → (∀ c, c < i → ar3 79 c = 0 ∧ ar3 83 c = -1) → Iv S sc3 ar3 → Fr [] [79, 80, 81, 82, 83, 84] sc ar sc3 ar3 → ag_To X (d + 3) an_X10_least (2, [(0, .ref 49), (1, .int (nI t)), (2, .int (nI i))], [], gh S a b sc3 ar3 lo, ex, 0, 0) (qi S a b lo ex (fun x sc' ar' => Iv S sc' ar' ∧ Fr [] [79, 80, 81, 82, 83, 84] sc ar sc' ar' ∧ (∃ r : Nat, r ≤ 4 ∧ x = nI r ∧ zcut 64 (zbs 64 a b) (kW 64 (vW S t (ar 51) (ar 77))) (kW 64 (vM S a b t (ar 51) (ar 77))) (fun c => zbs 64 a b c t) r))) := by
    intro m
    induction m with
    | zero =>
      intro i sc3 ar3 hm hc2_0 hI3 hF3
      refine to_n 2 (fr' := (5, [(0, .ref 49), (1, .int (nI t)), (2, .int (nI i))], [.int 64, .int (nI i)], gh S a b sc3 ar3 lo, ex, 0, 0)) rfl ?_
      refine to_nc_ge_T (t := 35) (x := i) (y := 64) rfl (by omega) (by omega) (by omega) ?_
      refine to_n 2 (fr' := (37, [(0, .ref 49), (1, .int (nI t)), (2, .int 0)], [], gh S a b sc3 ar3 lo, ex, 0, 0)) rfl ?_
      exact c37 (5 - 0) 0 sc3 ar3 (by omega) (ri_0 (fun c hc => hc2_0 c (by omega))) hI3 hF3
    | succ m ih =>
      intro i sc3 ar3 hm hc2_0 hI3 hF3
      refine to_n 2 (fr' := (5, [(0, .ref 49), (1, .int (nI t)), (2, .int (nI i))], [.int 64, .int (nI i)], gh S a b sc3 ar3 lo, ex, 0, 0)) rfl ?_
      refine to_nc_ge_F (t := 35) (x := i) (y := 64) rfl (by omega) (by omega) (by omega) ?_
      refine to_n 1 (fr' := (9, [(0, .ref 49), (1, .int (nI t)), (2, .int (nI i))], [.ref 49], gh S a b sc3 ar3 lo, ex, 0, 0)) rfl ?_
      refine to_get rfl rfl rfl rfl ?_
      refine to_n 2 (fr' := (14, [(0, .ref 49), (1, .int (nI t)), (2, .int (nI i))], [.int 0, .int (nI i), .ref 79], gh S a b sc3 ar3 lo, ex, 0, 0)) rfl ?_
      refine to_iasR (i := i) (h' := gh S a b sc3 (uA ar3 79 (upd (ar3 79) i 0)) lo) rfl rfl (by omega) (by omega) rfl ?_
      have hI4 := ia_79 (g := (upd (ar3 79) i 0)) hI3
      have hF4 := fr_a (c := 79) (g := (upd (ar3 79) i 0)) hF3 (by decide)
      refine to_n 1 (fr' := (16, [(0, .ref 49), (1, .int (nI t)), (2, .int (nI i))], [.ref 49], gh S a b sc3 (uA ar3 79 (upd (ar3 79) i 0)) lo, ex, 0, 0)) rfl ?_
      refine to_get rfl rfl rfl rfl ?_
      refine to_n 2 (fr' := (21, [(0, .ref 49), (1, .int (nI t)), (2, .int (nI i))], [.int (-1), .int (nI i), .ref 82], gh S a b sc3 (uA ar3 79 (upd (ar3 79) i 0)) lo, ex, 0, 0)) rfl ?_
      refine to_iasR (i := i) (h' := gh S a b sc3 (uA (uA ar3 79 (upd (ar3 79) i 0)) 82 (upd ((uA ar3 79 (upd (ar3 79) i 0)) 82) i (-1))) lo) rfl rfl (by omega) (by omega) rfl ?_
      have hI5 := ia_82 (g := (upd ((uA ar3 79 (upd (ar3 79) i 0)) 82) i (-1))) hI4
      have hF5 := fr_a (c := 82) (g := (upd ((uA ar3 79 (upd (ar3 79) i 0)) 82) i (-1))) hF4 (by decide)
      refine to_n 1 (fr' := (23, [(0, .ref 49), (1, .int (nI t)), (2, .int (nI i))], [.ref 49], gh S a b sc3 (uA (uA ar3 79 (upd (ar3 79) i 0)) 82 (upd ((uA ar3 79 (upd (ar3 79) i 0)) 82) i (-1))) lo, ex, 0, 0)) rfl ?_
      refine to_get rfl rfl rfl rfl ?_
      refine to_n 2 (fr' := (28, [(0, .ref 49), (1, .int (nI t)), (2, .int (nI i))], [.int (-1), .int (nI i), .ref 83], gh S a b sc3 (uA (uA ar3 79 (upd (ar3 79) i 0)) 82 (upd ((uA ar3 79 (upd (ar3 79) i 0)) 82) i (-1))) lo, ex, 0, 0)) rfl ?_
      refine to_iasR (i := i) (h' := gh S a b sc3 (uA (uA (uA ar3 79 (upd (ar3 79) i 0)) 82 (upd ((uA ar3 79 (upd (ar3 79) i 0)) 82) i (-1))) 83 (upd ((uA (uA ar3 79 (upd (ar3 79) i 0)) 82 (upd ((uA ar3 79 (upd (ar3 79) i 0)) 82) i (-1))) 83) i (-1))) lo) rfl rfl (by omega) (by omega) rfl ?_
      have hI6 := ia_83 (i := i) (v := (-1)) hI5 (rq_m)
      have hF6 := fr_a (c := 83) (g := (upd ((uA (uA ar3 79 (upd (ar3 79) i 0)) 82 (upd ((uA ar3 79 (upd (ar3 79) i 0)) 82) i (-1))) 83) i (-1))) hF5 (by decide)
      refine to_n 1 (fr' := (32, [(0, .ref 49), (1, .int (nI t)), (2, .int ((nI i) + 1))], [], gh S a b sc3 (uA (uA (uA ar3 79 (upd (ar3 79) i 0)) 82 (upd ((uA ar3 79 (upd (ar3 79) i 0)) 82) i (-1))) 83 (upd ((uA (uA ar3 79 (upd (ar3 79) i 0)) 82 (upd ((uA ar3 79 (upd (ar3 79) i 0)) 82) i (-1))) 83) i (-1))) lo, ex, 0, 0)) rfl ?_
      rw [nI_1 i]
      refine to_n 1 (fr' := (2, [(0, .ref 49), (1, .int (nI t)), (2, .int (nI (i + 1)))], [], gh S a b sc3 (uA (uA (uA ar3 79 (upd (ar3 79) i 0)) 82 (upd ((uA ar3 79 (upd (ar3 79) i 0)) 82) i (-1))) 83 (upd ((uA (uA ar3 79 (upd (ar3 79) i 0)) 82 (upd ((uA ar3 79 (upd (ar3 79) i 0)) 82) i (-1))) 83) i (-1))) lo, ex, 0, 0)) rfl ?_
      exact ih (i + 1) sc3 (uA (uA (uA ar3 79 (upd (ar3 79) i 0)) 82 (upd ((uA ar3 79 (upd (ar3 79) i 0)) 82) i (-1))) 83 (upd ((uA (uA ar3 79 (upd (ar3 79) i 0)) 82 (upd ((uA ar3 79 (upd (ar3 79) i 0)) 82) i (-1))) 83) i (-1))) (by omega) (fa_s hc2_0) hI6 hF6
  refine to_n 2 (fr' := (2, [(0, .ref 49), (1, .int (nI t)), (2, .int 0)], [], gh S a b sc ar lo, ex, 0, 0)) rfl ?_
  exact c2 (64 - 0) 0 sc ar (by omega) (fun c hc => absurd hc (Nat.not_lt_zero _)) hI hF
