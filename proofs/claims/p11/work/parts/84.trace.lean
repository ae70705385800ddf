/-! the reference: rows of houses between the fire and the told one -/
theorem up_ne {f : Nat → Int32} {i j : Nat} {v : Int32} (h : ¬ j = i) : upd f i v j = f j := by
  unfold upd
  rw [if_neg h]
theorem up_eq {f : Nat → Int32} {i : Nat} {v : Int32} : upd f i v i = v := by
  unfold upd
  rw [if_pos rfl]
/-- how many of the first n are -2 -/
def cn2 (f : Nat → Int32) : Nat → Nat
  | 0 => 0
  | n + 1 => cn2 f n + if f n = -2 then 1 else 0
theorem cn2_le (f : Nat → Int32) : ∀ n, cn2 f n ≤ n
  | 0 => Nat.le_refl _
  | n + 1 => by
    have := cn2_le f n
    unfold cn2
    split <;> omega
theorem cn2_off {f : Nat → Int32} {i : Nat} {v : Int32} : ∀ n, n ≤ i → cn2 (upd f i v) n = cn2 f n
  | 0, _ => rfl
  | n + 1, h => by
    unfold cn2
    rw [cn2_off n (by omega), up_ne (by omega)]
theorem cn2_up {f : Nat → Int32} {i : Nat} {v : Int32} (h1 : f i = -2) (h2 : ¬ v = -2) : ∀ n, i < n → cn2 (upd f i v) n + 1 = cn2 f n
  | 0, h => absurd h (Nat.not_lt_zero _)
  | n + 1, h => by
    unfold cn2
    by_cases e : i = n
    · subst e
      rw [cn2_off i (Nat.le_refl _), up_eq, if_neg h2, if_pos h1]
    · have := cn2_up h1 h2 n (by omega)
      rw [up_ne (fun w => e w.symm)]
      omega
/-- what the queue says of where each node was come from -/
def Od (fr qu : Nat → Int32) (T : Nat) : Prop := ∀ i, i < T → ¬ fr (qu i).toNatClampNeg = -2 ∧ (fr (qu i).toNatClampNeg = -1 ∨ ∃ j, j < i ∧ fr (qu i).toNatClampNeg = qu j)
theorem Od.none {fr qu : Nat → Int32} : Od fr qu 0 := fun i h => absurd h (Nat.not_lt_zero _)
theorem Od.put {fr qu : Nat → Int32} {T x : Nat} {v : Int32} (h : Od fr qu T) (hx : x < 128) (hf : fr x = -2) (hv : ¬ v = -2) (hw : v = -1 ∨ ∃ j, j < T ∧ v = qu j) : Od (upd fr x v) (upd qu T (nI x)) (T + 1) := by
  intro i hi
  by_cases e : i = T
  · subst e
    rw [up_eq, nI_clamp (by omega), up_eq]
    refine ⟨hv, hw.imp id (fun ⟨j, h1, h2⟩ => ⟨j, h1, ?_⟩)⟩
    rw [up_ne (by omega)]
    exact h2
  · obtain ⟨g1, g2⟩ := h i (by omega)
    rw [up_ne e]
    have hne : ¬ (qu i).toNatClampNeg = x := fun w => g1 (w ▸ hf)
    rw [up_ne hne]
    refine ⟨g1, g2.imp id (fun ⟨j, h1, h2⟩ => ⟨j, h1, ?_⟩)⟩
    rw [up_ne (by omega)]
    exact h2
theorem Qc.put {fr : Nat → Int32} {T x : Nat} {v : Int32} (h : T + cn2 fr 128 ≤ 128) (hx : x < 128) (hf : fr x = -2) (hv : ¬ v = -2) : T + 1 + cn2 (upd fr x v) 128 ≤ 128 := by
  have := cn2_up hf hv 128 hx
  omega
theorem Qc.room {fr : Nat → Int32} {T x : Nat} (h : T + cn2 fr 128 ≤ 128) (hx : x < 128) (hf : fr x = -2) : T < 128 := by
  have := cn2_up (v := 0) hf (by decide) 128 hx
  omega
set_option maxRecDepth 20000 in
theorem sf_X10_trace {X : Nat × (Nat → Int32)} {S a b : Nat} {sc : Nat → Int32} {ar : Nat → Nat → Int32} {lo : Nat → Int64} {ex : Bool} (hW : Wd S a b) (hI : Iv S sc ar) (k1 : Nat) (hk1 : k1 < 128) (x1 : Int32) (T i0 : Nat) (hk64 : 64 ≤ k1) (hT : T ≤ 128) (h1 : i0 < 128) (h2 : i0 < T) (h3 : ar 81 i0 = nI k1) (hO : Od (ar 80) (ar 81) T) (hkd : k1 % 64 < S) (d : Nat)  : cv X S a b (d + 1) 163 [.ref 49, .int (nI k1), .int x1] sc ar lo ex (fun sc' ar' => Iv S sc' ar' ∧ Fr [] [79, 82, 83, 84] sc ar sc' ar') := by
  obtain ⟨ha1, ha8, hb1, hb8, hab, hS1, hS⟩ := id hW
  refine cv_of (M := an_X10_trace) rfl (Nat.le_of_ble_eq_true rfl) ?_
  have hF : Fr [] [79, 82, 83, 84] sc ar sc ar := fr_0
  refine to_eq (fr' := (0, [(0, .ref 49), (1, .int (nI k1)), (2, .int x1)], [], gh S a b sc ar lo, ex, 0, 0)) rfl ?_
  have c300 : ∀  (sc1 : Nat → Int32) (ar1 : Nat → Nat → Int32), Iv S sc1 ar1 → Fr [] [79, 82, 83, 84] sc ar sc1 ar1 → ag_To X d an_X10_trace (300, [(0, .ref 49), (1, .int (nI k1)), (2, .int x1)], [], gh S a b sc1 ar1 lo, ex, 0, 0) (qv S a b lo ex (fun sc' ar' => Iv S sc' ar' ∧ Fr [] [79, 82, 83, 84] sc ar sc' ar')) := by
    intro sc1 ar1 hI1 hF1
    refine to_n 1 (fr' := (301, [(0, .ref 49), (1, .int (nI k1)), (2, .int x1)], [.ref 49], gh S a b sc1 ar1 lo, ex, 0, 0)) rfl ?_
    refine to_get rfl rfl rfl rfl ?_
    refine to_n 2 (fr' := (307, [(0, .ref 49), (1, .int (nI k1)), (2, .int x1)], [.int 64, .int (nI k1), .ref 82], gh S a b sc1 ar1 lo, ex, 0, 0)) rfl ?_
    refine to_subN (x := k1) (y := 64) rfl (by omega) ?_
    refine to_n 1 (fr' := (309, [(0, .ref 49), (1, .int (nI k1)), (2, .int x1)], [.int x1, .int (nI (k1 - 64)), .ref 82], gh S a b sc1 ar1 lo, ex, 0, 0)) rfl ?_
    refine to_iasR (i := (k1 - 64)) (h' := gh S a b sc1 (uA ar1 82 (upd (ar1 82) (k1 - 64) x1)) lo) rfl rfl (by omega) (by omega) rfl ?_
    have hI2 := ia_82 (g := (upd (ar1 82) (k1 - 64) x1)) hI1
    have hF2 := fr_a (c := 82) (g := (upd (ar1 82) (k1 - 64) x1)) hF1 (by decide)
    exact to_rt (i := .return_) (tg := []) rfl rfl ⟨_, _, ⟨hI2, hF2⟩, rfl⟩
  have c183 : ∀ m : Nat, ∀ (n : Nat) (i : Nat) (sc3 : Nat → Int32) (ar3 : Nat → Nat → Int32), i ≤ m → i < 128 → 1 ≤ n → n ≤ 128 → Iv S sc3 ar3 → Fr [] [79, 82, 83, 84] sc ar sc3 ar3 → ag_To X d an_X10_trace (183, [(0, .ref 49), (1, .int (nI k1)), (2, .int x1), (3, .int (nI n)), (4, .int (nI i))], [], gh S a b sc3 ar3 lo, ex, 0, 0) (qv S a b lo ex (fun sc' ar' => Iv S sc' ar' ∧ Fr [] [79, 82, 83, 84] sc ar sc' ar')) := by
    intro m
    induction m with
    | zero =>
      intro n i sc3 ar3 hm hc183_0 hc183_1 hc183_2 hI3 hF3
      refine to_n 1 (fr' := (185, [(0, .ref 49), (1, .int (nI k1)), (2, .int x1), (3, .int (nI n)), (4, .int (nI i))], [.int (nI i)], gh S a b sc3 ar3 lo, ex, 0, 0)) rfl ?_
      refine to_nf_le_T (t := 300) (x := i) rfl (by omega) (by omega) ?_
      refine to_lv (lv := [(0, .ref 49), (1, .int (nI k1)), (2, .int x1)]) rfl ⟨rfl, rfl, rfl, trivial⟩ ?_
      exact c300 sc3 ar3 hI3 hF3
    | succ m ih =>
      intro n i sc3 ar3 hm hc183_0 hc183_1 hc183_2 hI3 hF3
      have c294 : ∀  (sc4 : Nat → Int32) (ar4 : Nat → Nat → Int32), 1 ≤ i → Iv S sc4 ar4 → Fr [] [79, 82, 83, 84] sc ar sc4 ar4 → ag_To X d an_X10_trace (294, [(0, .ref 49), (1, .int (nI k1)), (2, .int x1), (3, .int (nI n)), (4, .int (nI i))], [], gh S a b sc4 ar4 lo, ex, 0, 0) (qv S a b lo ex (fun sc' ar' => Iv S sc' ar' ∧ Fr [] [79, 82, 83, 84] sc ar sc' ar')) := by
        intro sc4 ar4 hc294_0 hI4 hF4
        refine to_n 1 (fr' := (297, [(0, .ref 49), (1, .int (nI k1)), (2, .int x1), (3, .int (nI n)), (4, .int ((nI i) + (-1)))], [], gh S a b sc4 ar4 lo, ex, 0, 0)) rfl ?_
        rw [nI_dec (show 1 ≤ i by omega)]
        refine to_n 1 (fr' := (183, [(0, .ref 49), (1, .int (nI k1)), (2, .int x1), (3, .int (nI n)), (4, .int (nI (i - 1)))], [], gh S a b sc4 ar4 lo, ex, 0, 0)) rfl ?_
        exact ih n (i - 1) sc4 ar4 (by omega) (by omega) (by omega) (by omega) hI4 hF4
      have c243 : ∀ (u : Nat) (w : Nat) (sc5 : Nat → Int32) (ar5 : Nat → Nat → Int32), u < 128 → u % 64 < S → w < 128 → w % 64 < S → 1 ≤ i → Iv S sc5 ar5 → Fr [] [79, 82, 83, 84] sc ar sc5 ar5 → ag_To X d an_X10_trace (243, [(0, .ref 49), (1, .int (nI k1)), (2, .int x1), (3, .int (nI n)), (4, .int (nI i)), (5, .int (nI u)), (6, .int (nI w))], [], gh S a b sc5 ar5 lo, ex, 0, 0) (qv S a b lo ex (fun sc' ar' => Iv S sc' ar' ∧ Fr [] [79, 82, 83, 84] sc ar sc' ar')) := by
        intro u w sc5 ar5 hc243_0 hc243_1 hc243_2 hc243_3 hc243_4 hI5 hF5
        refine to_n 2 (fr' := (247, [(0, .ref 49), (1, .int (nI k1)), (2, .int x1), (3, .int (nI n)), (4, .int (nI i)), (5, .int (nI u)), (6, .int (nI w))], [.int 64, .int (nI u)], gh S a b sc5 ar5 lo, ex, 0, 0)) rfl ?_
        refine to_nc_lt (t := 294) (x := u) (y := 64) rfl (by omega) (by omega) (fun q6 => ?_) (fun q6 => ?_)
        · refine to_lv (lv := [(0, .ref 49), (1, .int (nI k1)), (2, .int x1), (3, .int (nI n)), (4, .int (nI i))]) rfl ⟨rfl, rfl, rfl, rfl, rfl, trivial⟩ ?_
          exact c294 sc5 ar5 (by omega) hI5 hF5
        · refine to_n 2 (fr' := (254, [(0, .ref 49), (1, .int (nI k1)), (2, .int x1), (3, .int (nI n)), (4, .int (nI i)), (5, .int (nI u)), (6, .int (nI w))], [.int 64, .int (nI w)], gh S a b sc5 ar5 lo, ex, 0, 0)) rfl ?_
          refine to_nc_ge (t := 294) (x := w) (y := 64) rfl (by omega) (by omega) (fun q7 => ?_) (fun q7 => ?_)
          · refine to_lv (lv := [(0, .ref 49), (1, .int (nI k1)), (2, .int x1), (3, .int (nI n)), (4, .int (nI i))]) rfl ⟨rfl, rfl, rfl, rfl, rfl, trivial⟩ ?_
            exact c294 sc5 ar5 (by omega) hI5 hF5
          · refine to_n 2 (fr' := (261, [(0, .ref 49), (1, .int (nI k1)), (2, .int x1), (3, .int (nI n)), (4, .int (nI i)), (5, .int (nI u)), (6, .int (nI w))], [.int 64, .int (nI u)], gh S a b sc5 ar5 lo, ex, 0, 0)) rfl ?_
            refine to_remN (x := u) (y := 64) rfl (by omega) (by omega) (by omega) ?_
            refine to_n 2 (fr' := (266, [(0, .ref 49), (1, .int (nI k1)), (2, .int x1), (3, .int (nI n)), (4, .int (nI i)), (5, .int (nI u)), (6, .int (nI w))], [.int 64, .int (nI w), .int (nI (u % 64))], gh S a b sc5 ar5 lo, ex, 0, 0)) rfl ?_
            refine to_remN (x := w) (y := 64) rfl (by omega) (by omega) (by omega) ?_
            refine to_nc_eq (t := 294) (x := (u % 64)) (y := (w % 64)) rfl (by omega) (by omega) (fun q8 => ?_) (fun q8 => ?_)
            · refine to_lv (lv := [(0, .ref 49), (1, .int (nI k1)), (2, .int x1), (3, .int (nI n)), (4, .int (nI i))]) rfl ⟨rfl, rfl, rfl, rfl, rfl, trivial⟩ ?_
              exact c294 sc5 ar5 (by omega) hI5 hF5
            · refine to_n 1 (fr' := (271, [(0, .ref 49), (1, .int (nI k1)), (2, .int x1), (3, .int (nI n)), (4, .int (nI i)), (5, .int (nI u)), (6, .int (nI w))], [.ref 49], gh S a b sc5 ar5 lo, ex, 0, 0)) rfl ?_
              refine to_get rfl rfl rfl rfl ?_
              refine to_n 2 (fr' := (278, [(0, .ref 49), (1, .int (nI k1)), (2, .int x1), (3, .int (nI n)), (4, .int (nI i)), (5, .int (nI u)), (6, .int (nI w))], [.int 64, .int (nI u), .ref 82], gh S a b sc5 ar5 lo, ex, 0, 0)) rfl ?_
              refine to_subN (x := u) (y := 64) rfl (by omega) ?_
              refine to_n 1 (fr' := (281, [(0, .ref 49), (1, .int (nI k1)), (2, .int x1), (3, .int (nI n)), (4, .int (nI i)), (5, .int (nI u)), (6, .int (nI w))], [.int (nI w), .int (nI (u - 64)), .ref 82], gh S a b sc5 ar5 lo, ex, 0, 0)) rfl ?_
              refine to_iasR (i := (u - 64)) (h' := gh S a b sc5 (uA ar5 82 (upd (ar5 82) (u - 64) (nI w))) lo) rfl rfl (by omega) (by omega) rfl ?_
              have hI9 := ia_82 (g := (upd (ar5 82) (u - 64) (nI w))) hI5
              have hF9 := fr_a (c := 82) (g := (upd (ar5 82) (u - 64) (nI w))) hF5 (by decide)
              refine to_n 1 (fr' := (283, [(0, .ref 49), (1, .int (nI k1)), (2, .int x1), (3, .int (nI n)), (4, .int (nI i)), (5, .int (nI u)), (6, .int (nI w))], [.ref 49], gh S a b sc5 (uA ar5 82 (upd (ar5 82) (u - 64) (nI w))) lo, ex, 0, 0)) rfl ?_
              refine to_get rfl rfl rfl rfl ?_
              refine to_n 3 (fr' := (292, [(0, .ref 49), (1, .int (nI k1)), (2, .int x1), (3, .int (nI n)), (4, .int (nI i)), (5, .int (nI u)), (6, .int (nI w))], [.int 64, .int (nI u), .int (nI w), .ref 83], gh S a b sc5 (uA ar5 82 (upd (ar5 82) (u - 64) (nI w))) lo, ex, 0, 0)) rfl ?_
              refine to_subN (x := u) (y := 64) rfl (by omega) ?_
              refine to_iasR (i := w) (h' := gh S a b sc5 (uA (uA ar5 82 (upd (ar5 82) (u - 64) (nI w))) 83 (upd ((uA ar5 82 (upd (ar5 82) (u - 64) (nI w))) 83) w (nI (u - 64)))) lo) rfl rfl (by omega) (by omega) rfl ?_
              have hI10 := ia_83 (i := w) (v := (nI (u - 64))) hI9 (rq_n (n := (u - 64)) (by omega))
              have hF10 := fr_a (c := 83) (g := (upd ((uA ar5 82 (upd (ar5 82) (u - 64) (nI w))) 83) w (nI (u - 64)))) hF9 (by decide)
              refine to_lv (lv := [(0, .ref 49), (1, .int (nI k1)), (2, .int x1), (3, .int (nI n)), (4, .int (nI i))]) rfl ⟨rfl, rfl, rfl, rfl, rfl, trivial⟩ ?_
              exact c294 sc5 (uA (uA ar5 82 (upd (ar5 82) (u - 64) (nI w))) 83 (upd ((uA ar5 82 (upd (ar5 82) (u - 64) (nI w))) 83) w (nI (u - 64)))) (by omega) hI10 hF10
      refine to_n 1 (fr' := (185, [(0, .ref 49), (1, .int (nI k1)), (2, .int x1), (3, .int (nI n)), (4, .int (nI i))], [.int (nI i)], gh S a b sc3 ar3 lo, ex, 0, 0)) rfl ?_
      refine to_nf_le (t := 300) (x := i) rfl (by omega) (fun q11 => ?_) (fun q11 => ?_)
      · refine to_lv (lv := [(0, .ref 49), (1, .int (nI k1)), (2, .int x1)]) rfl ⟨rfl, rfl, rfl, trivial⟩ ?_
        exact c300 sc3 ar3 hI3 hF3
      · refine to_n 1 (fr' := (189, [(0, .ref 49), (1, .int (nI k1)), (2, .int x1), (3, .int (nI n)), (4, .int (nI i))], [.ref 49], gh S a b sc3 ar3 lo, ex, 0, 0)) rfl ?_
        refine to_get rfl rfl rfl rfl ?_
        refine to_n 1 (fr' := (194, [(0, .ref 49), (1, .int (nI k1)), (2, .int x1), (3, .int (nI n)), (4, .int (nI i))], [.int (nI i), .ref 84], gh S a b sc3 ar3 lo, ex, 0, 0)) rfl ?_
        obtain ⟨n12, hn12, hd12, e12⟩ := iv_a84 hI3 i
        refine to_ialR (i := i) (v := (nI n12)) rfl (by decide) rfl (by omega) (by omega) e12 ?_
        refine to_n 2 (fr' := (198, [(0, .ref 49), (1, .int (nI k1)), (2, .int x1), (3, .int (nI n)), (4, .int (nI i)), (5, .int (nI n12))], [.ref 49], gh S a b sc3 ar3 lo, ex, 0, 0)) rfl ?_
        refine to_get rfl rfl rfl rfl ?_
        refine to_n 2 (fr' := (204, [(0, .ref 49), (1, .int (nI k1)), (2, .int x1), (3, .int (nI n)), (4, .int (nI i)), (5, .int (nI n12))], [.int 1, .int (nI i), .ref 84], gh S a b sc3 ar3 lo, ex, 0, 0)) rfl ?_
        refine to_subN (x := i) (y := 1) rfl (by omega) ?_
        obtain ⟨n13, hn13, hd13, e13⟩ := iv_a84 hI3 (i - 1)
        refine to_ialR (i := (i - 1)) (v := (nI n13)) rfl (by decide) rfl (by omega) (by omega) e13 ?_
        refine to_n 3 (fr' := (212, [(0, .ref 49), (1, .int (nI k1)), (2, .int x1), (3, .int (nI n)), (4, .int (nI i)), (5, .int (nI n12)), (6, .int (nI n13))], [.int 64, .int (nI n12)], gh S a b sc3 ar3 lo, ex, 0, 0)) rfl ?_
        refine to_nc_ge (t := 243) (x := n12) (y := 64) rfl (by omega) (by omega) (fun q14 => ?_) (fun q14 => ?_)
        · exact c243 n12 n13 sc3 ar3 (by omega) (by omega) (by omega) (by omega) (by omega) hI3 hF3
        · refine to_n 2 (fr' := (219, [(0, .ref 49), (1, .int (nI k1)), (2, .int x1), (3, .int (nI n)), (4, .int (nI i)), (5, .int (nI n12)), (6, .int (nI n13))], [.int 64, .int (nI n13)], gh S a b sc3 ar3 lo, ex, 0, 0)) rfl ?_
          refine to_nc_lt (t := 243) (x := n13) (y := 64) rfl (by omega) (by omega) (fun q15 => ?_) (fun q15 => ?_)
          · exact c243 n12 n13 sc3 ar3 (by omega) (by omega) (by omega) (by omega) (by omega) hI3 hF3
          · refine to_n 2 (fr' := (226, [(0, .ref 49), (1, .int (nI k1)), (2, .int x1), (3, .int (nI n)), (4, .int (nI i)), (5, .int (nI n12)), (6, .int (nI n13))], [.int 64, .int (nI n12)], gh S a b sc3 ar3 lo, ex, 0, 0)) rfl ?_
            refine to_remN (x := n12) (y := 64) rfl (by omega) (by omega) (by omega) ?_
            refine to_n 2 (fr' := (231, [(0, .ref 49), (1, .int (nI k1)), (2, .int x1), (3, .int (nI n)), (4, .int (nI i)), (5, .int (nI n12)), (6, .int (nI n13))], [.int 64, .int (nI n13), .int (nI (n12 % 64))], gh S a b sc3 ar3 lo, ex, 0, 0)) rfl ?_
            refine to_remN (x := n13) (y := 64) rfl (by omega) (by omega) (by omega) ?_
            refine to_nc_ne (t := 243) (x := (n12 % 64)) (y := (n13 % 64)) rfl (by omega) (by omega) (fun q16 => ?_) (fun q16 => ?_)
            · exact c243 n12 n13 sc3 ar3 (by omega) (by omega) (by omega) (by omega) (by omega) hI3 hF3
            · refine to_n 1 (fr' := (236, [(0, .ref 49), (1, .int (nI k1)), (2, .int x1), (3, .int (nI n)), (4, .int (nI i)), (5, .int (nI n12)), (6, .int (nI n13))], [.ref 49], gh S a b sc3 ar3 lo, ex, 0, 0)) rfl ?_
              refine to_get rfl rfl rfl rfl ?_
              refine to_n 2 (fr' := (242, [(0, .ref 49), (1, .int (nI k1)), (2, .int x1), (3, .int (nI n)), (4, .int (nI i)), (5, .int (nI n12)), (6, .int (nI n13))], [.int 1, .int (nI n12), .ref 79], gh S a b sc3 ar3 lo, ex, 0, 0)) rfl ?_
              refine to_iasR (i := n12) (h' := gh S a b sc3 (uA ar3 79 (upd (ar3 79) n12 1)) lo) rfl rfl (by omega) (by omega) rfl ?_
              have hI17 := ia_79 (g := (upd (ar3 79) n12 1)) hI3
              have hF17 := fr_a (c := 79) (g := (upd (ar3 79) n12 1)) hF3 (by decide)
              exact c243 n12 n13 sc3 (uA ar3 79 (upd (ar3 79) n12 1)) (by omega) (by omega) (by omega) (by omega) (by omega) hI17 hF17
  have c39 : ∀ m : Nat, ∀ (n : Nat) (i : Nat) (sc18 : Nat → Int32) (ar18 : Nat → Nat → Int32), i ≤ m → i < 128 → 1 ≤ n → n ≤ 128 → Iv S sc18 ar18 → Fr [] [79, 82, 83, 84] sc ar sc18 ar18 → ag_To X d an_X10_trace (39, [(0, .ref 49), (1, .int (nI k1)), (2, .int x1), (3, .int (nI n)), (4, .int (nI i))], [], gh S a b sc18 ar18 lo, ex, 0, 0) (qv S a b lo ex (fun sc' ar' => Iv S sc' ar' ∧ Fr [] [79, 82, 83, 84] sc ar sc' ar')) := by
    intro m
    induction m with
    | zero =>
      intro n i sc18 ar18 hm hc39_0 hc39_1 hc39_2 hI18 hF18
      refine to_n 1 (fr' := (41, [(0, .ref 49), (1, .int (nI k1)), (2, .int x1), (3, .int (nI n)), (4, .int (nI i))], [.int (nI i)], gh S a b sc18 ar18 lo, ex, 0, 0)) rfl ?_
      refine to_nf_le_T (t := 178) (x := i) rfl (by omega) (by omega) ?_
      refine to_n 2 (fr' := (180, [(0, .ref 49), (1, .int (nI k1)), (2, .int x1), (3, .int (nI n)), (4, .int (nI i))], [.int 1, .int (nI n)], gh S a b sc18 ar18 lo, ex, 0, 0)) rfl ?_
      refine to_subN (x := n) (y := 1) rfl (by omega) ?_
      refine to_n 1 (fr' := (183, [(0, .ref 49), (1, .int (nI k1)), (2, .int x1), (3, .int (nI n)), (4, .int (nI (n - 1)))], [], gh S a b sc18 ar18 lo, ex, 0, 0)) rfl ?_
      exact c183 128 n (n - 1) sc18 ar18 (by omega) (by omega) (by omega) (by omega) hI18 hF18
    | succ m ih =>
      intro n i sc18 ar18 hm hc39_0 hc39_1 hc39_2 hI18 hF18
      have c172 : ∀  (sc19 : Nat → Int32) (ar19 : Nat → Nat → Int32), 1 ≤ i → Iv S sc19 ar19 → Fr [] [79, 82, 83, 84] sc ar sc19 ar19 → ag_To X d an_X10_trace (172, [(0, .ref 49), (1, .int (nI k1)), (2, .int x1), (3, .int (nI n)), (4, .int (nI i))], [], gh S a b sc19 ar19 lo, ex, 0, 0) (qv S a b lo ex (fun sc' ar' => Iv S sc' ar' ∧ Fr [] [79, 82, 83, 84] sc ar sc' ar')) := by
        intro sc19 ar19 hc172_0 hI19 hF19
        refine to_n 1 (fr' := (175, [(0, .ref 49), (1, .int (nI k1)), (2, .int x1), (3, .int (nI n)), (4, .int ((nI i) + (-1)))], [], gh S a b sc19 ar19 lo, ex, 0, 0)) rfl ?_
        rw [nI_dec (show 1 ≤ i by omega)]
        refine to_n 1 (fr' := (39, [(0, .ref 49), (1, .int (nI k1)), (2, .int x1), (3, .int (nI n)), (4, .int (nI (i - 1)))], [], gh S a b sc19 ar19 lo, ex, 0, 0)) rfl ?_
        exact ih n (i - 1) sc19 ar19 (by omega) (by omega) (by omega) (by omega) hI19 hF19
      have c137 : ∀ (u : Nat) (w : Nat) (sc20 : Nat → Int32) (ar20 : Nat → Nat → Int32), u < 128 → u % 64 < S → w < 128 → w % 64 < S → 1 ≤ i → Iv S sc20 ar20 → Fr [] [79, 82, 83, 84] sc ar sc20 ar20 → ag_To X d an_X10_trace (137, [(0, .ref 49), (1, .int (nI k1)), (2, .int x1), (3, .int (nI n)), (4, .int (nI i)), (5, .int (nI u)), (6, .int (nI w))], [], gh S a b sc20 ar20 lo, ex, 0, 0) (qv S a b lo ex (fun sc' ar' => Iv S sc' ar' ∧ Fr [] [79, 82, 83, 84] sc ar sc' ar')) := by
        intro u w sc20 ar20 hc137_0 hc137_1 hc137_2 hc137_3 hc137_4 hI20 hF20
        refine to_n 2 (fr' := (141, [(0, .ref 49), (1, .int (nI k1)), (2, .int x1), (3, .int (nI n)), (4, .int (nI i)), (5, .int (nI u)), (6, .int (nI w))], [.int 64, .int (nI u)], gh S a b sc20 ar20 lo, ex, 0, 0)) rfl ?_
        refine to_nc_lt (t := 172) (x := u) (y := 64) rfl (by omega) (by omega) (fun q21 => ?_) (fun q21 => ?_)
        · refine to_lv (lv := [(0, .ref 49), (1, .int (nI k1)), (2, .int x1), (3, .int (nI n)), (4, .int (nI i))]) rfl ⟨rfl, rfl, rfl, rfl, rfl, trivial⟩ ?_
          exact c172 sc20 ar20 (by omega) hI20 hF20
        · refine to_n 2 (fr' := (148, [(0, .ref 49), (1, .int (nI k1)), (2, .int x1), (3, .int (nI n)), (4, .int (nI i)), (5, .int (nI u)), (6, .int (nI w))], [.int 64, .int (nI w)], gh S a b sc20 ar20 lo, ex, 0, 0)) rfl ?_
          refine to_nc_ge (t := 172) (x := w) (y := 64) rfl (by omega) (by omega) (fun q22 => ?_) (fun q22 => ?_)
          · refine to_lv (lv := [(0, .ref 49), (1, .int (nI k1)), (2, .int x1), (3, .int (nI n)), (4, .int (nI i))]) rfl ⟨rfl, rfl, rfl, rfl, rfl, trivial⟩ ?_
            exact c172 sc20 ar20 (by omega) hI20 hF20
          · refine to_n 2 (fr' := (155, [(0, .ref 49), (1, .int (nI k1)), (2, .int x1), (3, .int (nI n)), (4, .int (nI i)), (5, .int (nI u)), (6, .int (nI w))], [.int 64, .int (nI u)], gh S a b sc20 ar20 lo, ex, 0, 0)) rfl ?_
            refine to_remN (x := u) (y := 64) rfl (by omega) (by omega) (by omega) ?_
            refine to_n 2 (fr' := (160, [(0, .ref 49), (1, .int (nI k1)), (2, .int x1), (3, .int (nI n)), (4, .int (nI i)), (5, .int (nI u)), (6, .int (nI w))], [.int 64, .int (nI w), .int (nI (u % 64))], gh S a b sc20 ar20 lo, ex, 0, 0)) rfl ?_
            refine to_remN (x := w) (y := 64) rfl (by omega) (by omega) (by omega) ?_
            refine to_nc_ne (t := 172) (x := (u % 64)) (y := (w % 64)) rfl (by omega) (by omega) (fun q23 => ?_) (fun q23 => ?_)
            · refine to_lv (lv := [(0, .ref 49), (1, .int (nI k1)), (2, .int x1), (3, .int (nI n)), (4, .int (nI i))]) rfl ⟨rfl, rfl, rfl, rfl, rfl, trivial⟩ ?_
              exact c172 sc20 ar20 (by omega) hI20 hF20
            · refine to_n 1 (fr' := (165, [(0, .ref 49), (1, .int (nI k1)), (2, .int x1), (3, .int (nI n)), (4, .int (nI i)), (5, .int (nI u)), (6, .int (nI w))], [.ref 49], gh S a b sc20 ar20 lo, ex, 0, 0)) rfl ?_
              refine to_get rfl rfl rfl rfl ?_
              refine to_n 2 (fr' := (171, [(0, .ref 49), (1, .int (nI k1)), (2, .int x1), (3, .int (nI n)), (4, .int (nI i)), (5, .int (nI u)), (6, .int (nI w))], [.int 0, .int (nI w), .ref 79], gh S a b sc20 ar20 lo, ex, 0, 0)) rfl ?_
              refine to_iasR (i := w) (h' := gh S a b sc20 (uA ar20 79 (upd (ar20 79) w 0)) lo) rfl rfl (by omega) (by omega) rfl ?_
              have hI24 := ia_79 (g := (upd (ar20 79) w 0)) hI20
              have hF24 := fr_a (c := 79) (g := (upd (ar20 79) w 0)) hF20 (by decide)
              refine to_lv (lv := [(0, .ref 49), (1, .int (nI k1)), (2, .int x1), (3, .int (nI n)), (4, .int (nI i))]) rfl ⟨rfl, rfl, rfl, rfl, rfl, trivial⟩ ?_
              exact c172 sc20 (uA ar20 79 (upd (ar20 79) w 0)) (by omega) hI24 hF24
      have c102 : ∀ (u : Nat) (w : Nat) (sc25 : Nat → Int32) (ar25 : Nat → Nat → Int32), u < 128 → u % 64 < S → w < 128 → w % 64 < S → 1 ≤ i → Iv S sc25 ar25 → Fr [] [79, 82, 83, 84] sc ar sc25 ar25 → ag_To X d an_X10_trace (102, [(0, .ref 49), (1, .int (nI k1)), (2, .int x1), (3, .int (nI n)), (4, .int (nI i)), (5, .int (nI u)), (6, .int (nI w))], [], gh S a b sc25 ar25 lo, ex, 0, 0) (qv S a b lo ex (fun sc' ar' => Iv S sc' ar' ∧ Fr [] [79, 82, 83, 84] sc ar sc' ar')) := by
        intro u w sc25 ar25 hc102_0 hc102_1 hc102_2 hc102_3 hc102_4 hI25 hF25
        refine to_n 2 (fr' := (106, [(0, .ref 49), (1, .int (nI k1)), (2, .int x1), (3, .int (nI n)), (4, .int (nI i)), (5, .int (nI u)), (6, .int (nI w))], [.int 64, .int (nI u)], gh S a b sc25 ar25 lo, ex, 0, 0)) rfl ?_
        refine to_nc_ge (t := 137) (x := u) (y := 64) rfl (by omega) (by omega) (fun q26 => ?_) (fun q26 => ?_)
        · exact c137 u w sc25 ar25 (by omega) (by omega) (by omega) (by omega) (by omega) hI25 hF25
        · refine to_n 2 (fr' := (113, [(0, .ref 49), (1, .int (nI k1)), (2, .int x1), (3, .int (nI n)), (4, .int (nI i)), (5, .int (nI u)), (6, .int (nI w))], [.int 64, .int (nI w)], gh S a b sc25 ar25 lo, ex, 0, 0)) rfl ?_
          refine to_nc_lt (t := 137) (x := w) (y := 64) rfl (by omega) (by omega) (fun q27 => ?_) (fun q27 => ?_)
          · exact c137 u w sc25 ar25 (by omega) (by omega) (by omega) (by omega) (by omega) hI25 hF25
          · refine to_n 2 (fr' := (120, [(0, .ref 49), (1, .int (nI k1)), (2, .int x1), (3, .int (nI n)), (4, .int (nI i)), (5, .int (nI u)), (6, .int (nI w))], [.int 64, .int (nI u)], gh S a b sc25 ar25 lo, ex, 0, 0)) rfl ?_
            refine to_remN (x := u) (y := 64) rfl (by omega) (by omega) (by omega) ?_
            refine to_n 2 (fr' := (125, [(0, .ref 49), (1, .int (nI k1)), (2, .int x1), (3, .int (nI n)), (4, .int (nI i)), (5, .int (nI u)), (6, .int (nI w))], [.int 64, .int (nI w), .int (nI (u % 64))], gh S a b sc25 ar25 lo, ex, 0, 0)) rfl ?_
            refine to_remN (x := w) (y := 64) rfl (by omega) (by omega) (by omega) ?_
            refine to_nc_eq (t := 137) (x := (u % 64)) (y := (w % 64)) rfl (by omega) (by omega) (fun q28 => ?_) (fun q28 => ?_)
            · exact c137 u w sc25 ar25 (by omega) (by omega) (by omega) (by omega) (by omega) hI25 hF25
            · refine to_n 1 (fr' := (130, [(0, .ref 49), (1, .int (nI k1)), (2, .int x1), (3, .int (nI n)), (4, .int (nI i)), (5, .int (nI u)), (6, .int (nI w))], [.ref 49], gh S a b sc25 ar25 lo, ex, 0, 0)) rfl ?_
              refine to_get rfl rfl rfl rfl ?_
              refine to_n 2 (fr' := (136, [(0, .ref 49), (1, .int (nI k1)), (2, .int x1), (3, .int (nI n)), (4, .int (nI i)), (5, .int (nI u)), (6, .int (nI w))], [.int (-1), .int (nI u), .ref 83], gh S a b sc25 ar25 lo, ex, 0, 0)) rfl ?_
              refine to_iasR (i := u) (h' := gh S a b sc25 (uA ar25 83 (upd (ar25 83) u (-1))) lo) rfl rfl (by omega) (by omega) rfl ?_
              have hI29 := ia_83 (i := u) (v := (-1)) hI25 (rq_m)
              have hF29 := fr_a (c := 83) (g := (upd (ar25 83) u (-1))) hF25 (by decide)
              exact c137 u w sc25 (uA ar25 83 (upd (ar25 83) u (-1))) (by omega) (by omega) (by omega) (by omega) (by omega) hI29 hF29
      refine to_n 1 (fr' := (41, [(0, .ref 49), (1, .int (nI k1)), (2, .int x1), (3, .int (nI n)), (4, .int (nI i))], [.int (nI i)], gh S a b sc18 ar18 lo, ex, 0, 0)) rfl ?_
      refine to_nf_le (t := 178) (x := i) rfl (by omega) (fun q30 => ?_) (fun q30 => ?_)
      · refine to_n 2 (fr' := (180, [(0, .ref 49), (1, .int (nI k1)), (2, .int x1), (3, .int (nI n)), (4, .int (nI i))], [.int 1, .int (nI n)], gh S a b sc18 ar18 lo, ex, 0, 0)) rfl ?_
        refine to_subN (x := n) (y := 1) rfl (by omega) ?_
        refine to_n 1 (fr' := (183, [(0, .ref 49), (1, .int (nI k1)), (2, .int x1), (3, .int (nI n)), (4, .int (nI (n - 1)))], [], gh S a b sc18 ar18 lo, ex, 0, 0)) rfl ?_
        exact c183 128 n (n - 1) sc18 ar18 (by omega) (by omega) (by omega) (by omega) hI18 hF18
      · refine to_n 1 (fr' := (45, [(0, .ref 49), (1, .int (nI k1)), (2, .int x1), (3, .int (nI n)), (4, .int (nI i))], [.ref 49], gh S a b sc18 ar18 lo, ex, 0, 0)) rfl ?_
        refine to_get rfl rfl rfl rfl ?_
        refine to_n 1 (fr' := (50, [(0, .ref 49), (1, .int (nI k1)), (2, .int x1), (3, .int (nI n)), (4, .int (nI i))], [.int (nI i), .ref 84], gh S a b sc18 ar18 lo, ex, 0, 0)) rfl ?_
        obtain ⟨n31, hn31, hd31, e31⟩ := iv_a84 hI18 i
        refine to_ialR (i := i) (v := (nI n31)) rfl (by decide) rfl (by omega) (by omega) e31 ?_
        refine to_n 2 (fr' := (54, [(0, .ref 49), (1, .int (nI k1)), (2, .int x1), (3, .int (nI n)), (4, .int (nI i)), (5, .int (nI n31))], [.ref 49], gh S a b sc18 ar18 lo, ex, 0, 0)) rfl ?_
        refine to_get rfl rfl rfl rfl ?_
        refine to_n 2 (fr' := (60, [(0, .ref 49), (1, .int (nI k1)), (2, .int x1), (3, .int (nI n)), (4, .int (nI i)), (5, .int (nI n31))], [.int 1, .int (nI i), .ref 84], gh S a b sc18 ar18 lo, ex, 0, 0)) rfl ?_
        refine to_subN (x := i) (y := 1) rfl (by omega) ?_
        obtain ⟨n32, hn32, hd32, e32⟩ := iv_a84 hI18 (i - 1)
        refine to_ialR (i := (i - 1)) (v := (nI n32)) rfl (by decide) rfl (by omega) (by omega) e32 ?_
        refine to_n 3 (fr' := (68, [(0, .ref 49), (1, .int (nI k1)), (2, .int x1), (3, .int (nI n)), (4, .int (nI i)), (5, .int (nI n31)), (6, .int (nI n32))], [.int 64, .int (nI n31)], gh S a b sc18 ar18 lo, ex, 0, 0)) rfl ?_
        refine to_nc_ge (t := 102) (x := n31) (y := 64) rfl (by omega) (by omega) (fun q33 => ?_) (fun q33 => ?_)
        · exact c102 n31 n32 sc18 ar18 (by omega) (by omega) (by omega) (by omega) (by omega) hI18 hF18
        · refine to_n 2 (fr' := (75, [(0, .ref 49), (1, .int (nI k1)), (2, .int x1), (3, .int (nI n)), (4, .int (nI i)), (5, .int (nI n31)), (6, .int (nI n32))], [.int 64, .int (nI n32)], gh S a b sc18 ar18 lo, ex, 0, 0)) rfl ?_
          refine to_nc_lt (t := 102) (x := n32) (y := 64) rfl (by omega) (by omega) (fun q34 => ?_) (fun q34 => ?_)
          · exact c102 n31 n32 sc18 ar18 (by omega) (by omega) (by omega) (by omega) (by omega) hI18 hF18
          · refine to_n 2 (fr' := (82, [(0, .ref 49), (1, .int (nI k1)), (2, .int x1), (3, .int (nI n)), (4, .int (nI i)), (5, .int (nI n31)), (6, .int (nI n32))], [.int 64, .int (nI n31)], gh S a b sc18 ar18 lo, ex, 0, 0)) rfl ?_
            refine to_remN (x := n31) (y := 64) rfl (by omega) (by omega) (by omega) ?_
            refine to_n 2 (fr' := (87, [(0, .ref 49), (1, .int (nI k1)), (2, .int x1), (3, .int (nI n)), (4, .int (nI i)), (5, .int (nI n31)), (6, .int (nI n32))], [.int 64, .int (nI n32), .int (nI (n31 % 64))], gh S a b sc18 ar18 lo, ex, 0, 0)) rfl ?_
            refine to_remN (x := n32) (y := 64) rfl (by omega) (by omega) (by omega) ?_
            refine to_nc_eq (t := 102) (x := (n31 % 64)) (y := (n32 % 64)) rfl (by omega) (by omega) (fun q35 => ?_) (fun q35 => ?_)
            · exact c102 n31 n32 sc18 ar18 (by omega) (by omega) (by omega) (by omega) (by omega) hI18 hF18
            · refine to_n 1 (fr' := (92, [(0, .ref 49), (1, .int (nI k1)), (2, .int x1), (3, .int (nI n)), (4, .int (nI i)), (5, .int (nI n31)), (6, .int (nI n32))], [.ref 49], gh S a b sc18 ar18 lo, ex, 0, 0)) rfl ?_
              refine to_get rfl rfl rfl rfl ?_
              refine to_n 2 (fr' := (99, [(0, .ref 49), (1, .int (nI k1)), (2, .int x1), (3, .int (nI n)), (4, .int (nI i)), (5, .int (nI n31)), (6, .int (nI n32))], [.int 64, .int (nI n32), .ref 82], gh S a b sc18 ar18 lo, ex, 0, 0)) rfl ?_
              refine to_subN (x := n32) (y := 64) rfl (by omega) ?_
              refine to_n 1 (fr' := (101, [(0, .ref 49), (1, .int (nI k1)), (2, .int x1), (3, .int (nI n)), (4, .int (nI i)), (5, .int (nI n31)), (6, .int (nI n32))], [.int (-1), .int (nI (n32 - 64)), .ref 82], gh S a b sc18 ar18 lo, ex, 0, 0)) rfl ?_
              refine to_iasR (i := (n32 - 64)) (h' := gh S a b sc18 (uA ar18 82 (upd (ar18 82) (n32 - 64) (-1))) lo) rfl rfl (by omega) (by omega) rfl ?_
              have hI36 := ia_82 (g := (upd (ar18 82) (n32 - 64) (-1))) hI18
              have hF36 := fr_a (c := 82) (g := (upd (ar18 82) (n32 - 64) (-1))) hF18 (by decide)
              exact c102 n31 n32 sc18 (uA ar18 82 (upd (ar18 82) (n32 - 64) (-1))) (by omega) (by omega) (by omega) (by omega) (by omega) hI36 hF36
  have c5 : ∀ m : Nat, ∀ (n : Nat) (x : Int32) (sc37 : Nat → Int32) (ar37 : Nat → Nat → Int32), (x = -1 ∨ ∃ i, i < m ∧ n + i < 128 ∧ i < T ∧ x = ar 81 i) → (n = 0 → ¬ x = -1) → n ≤ 128 → Iv S sc37 ar37 → Fr [] [79, 82, 83, 84] sc ar sc37 ar37 → ag_To X d an_X10_trace (5, [(0, .ref 49), (1, .int (nI k1)), (2, .int x1), (3, .int (nI n)), (4, .int x)], [], gh S a b sc37 ar37 lo, ex, 0, 0) (qv S a b lo ex (fun sc' ar' => Iv S sc' ar' ∧ Fr [] [79, 82, 83, 84] sc ar sc' ar')) := by
    intro m
    induction m with
    | zero =>
      intro n x sc37 ar37 hm hc5_0 hc5_1 hI37 hF37
      rcases hm with rfl | ⟨i, g1, g2, g3, rfl⟩
      · refine to_eq (fr' := (5, [(0, .ref 49), (1, .int (nI k1)), (2, .int x1), (3, .int (nI n)), (4, .int (-1))], [], gh S a b sc37 ar37 lo, ex, 0, 0)) rfl ?_
        have hn0 : ¬ n = 0 := fun w => hc5_0 w rfl
        refine to_n 5 (fr' := (36, [(0, .ref 49), (1, .int (nI k1)), (2, .int x1), (3, .int (nI n)), (4, .int (-1))], [.int 1, .int (nI n)], gh S a b sc37 ar37 lo, ex, 0, 0)) rfl ?_
        refine to_subN (x := n) (y := 1) rfl (by omega) ?_
        refine to_n 1 (fr' := (39, [(0, .ref 49), (1, .int (nI k1)), (2, .int x1), (3, .int (nI n)), (4, .int (nI (n - 1)))], [], gh S a b sc37 ar37 lo, ex, 0, 0)) rfl ?_
        exact c39 128 n (n - 1) sc37 ar37 (by omega) (by omega) (by omega) (by omega) hI37 hF37
      · exact absurd g1 (Nat.not_lt_zero _)
    | succ m ih =>
      intro n x sc37 ar37 hm hc5_0 hc5_1 hI37 hF37
      rcases hm with rfl | ⟨i, g1, g2, g3, rfl⟩
      · refine to_eq (fr' := (5, [(0, .ref 49), (1, .int (nI k1)), (2, .int x1), (3, .int (nI n)), (4, .int (-1))], [], gh S a b sc37 ar37 lo, ex, 0, 0)) rfl ?_
        have hn0 : ¬ n = 0 := fun w => hc5_0 w rfl
        refine to_n 5 (fr' := (36, [(0, .ref 49), (1, .int (nI k1)), (2, .int x1), (3, .int (nI n)), (4, .int (-1))], [.int 1, .int (nI n)], gh S a b sc37 ar37 lo, ex, 0, 0)) rfl ?_
        refine to_subN (x := n) (y := 1) rfl (by omega) ?_
        refine to_n 1 (fr' := (39, [(0, .ref 49), (1, .int (nI k1)), (2, .int x1), (3, .int (nI n)), (4, .int (nI (n - 1)))], [], gh S a b sc37 ar37 lo, ex, 0, 0)) rfl ?_
        exact c39 128 n (n - 1) sc37 ar37 (by omega) (by omega) (by omega) (by omega) hI37 hF37
      · have q81 : ar37 81 = ar 81 := hF37.2 81 (by decide)
        have q80 : ar37 80 = ar 80 := hF37.2 80 (by decide)
        obtain ⟨y, hy, hyd, ey⟩ := iv_a81 hI i
        rw [ey]
        refine to_eq (fr' := (5, [(0, .ref 49), (1, .int (nI k1)), (2, .int x1), (3, .int (nI n)), (4, .int (nI y))], [], gh S a b sc37 ar37 lo, ex, 0, 0)) rfl ?_
        have go := (hO i g3).2
        rw [ey, nI_clamp (by omega)] at go
        rw [← q80] at go
        refine to_n 2 (fr' := (8, [(0, .ref 49), (1, .int (nI k1)), (2, .int x1), (3, .int (nI n)), (4, .int (nI y))], [.int (-1), .int (nI y)], gh S a b sc37 ar37 lo, ex, 0, 0)) rfl ?_
        refine to_ic_eq_F (t := 34) (x := (nI y)) (y := (-1)) rfl (nI_neg (by omega) (by decide)) ?_
        refine to_n 1 (fr' := (12, [(0, .ref 49), (1, .int (nI k1)), (2, .int x1), (3, .int (nI n)), (4, .int (nI y))], [.ref 49], gh S a b sc37 ar37 lo, ex, 0, 0)) rfl ?_
        refine to_get rfl rfl rfl rfl ?_
        refine to_n 2 (fr' := (18, [(0, .ref 49), (1, .int (nI k1)), (2, .int x1), (3, .int (nI n)), (4, .int (nI y))], [.int (nI y), .int (nI n), .ref 84], gh S a b sc37 ar37 lo, ex, 0, 0)) rfl ?_
        refine to_iasR (i := n) (h' := gh S a b sc37 (uA ar37 84 (upd (ar37 84) n (nI y))) lo) rfl rfl (by omega) (by omega) rfl ?_
        have hI38 := ia_84 (i := n) (v := (nI y)) hI37 (rn_n (n := y) (by omega) (by omega))
        have hF38 := fr_a (c := 84) (g := (upd (ar37 84) n (nI y))) hF37 (by decide)
        refine to_n 1 (fr' := (22, [(0, .ref 49), (1, .int (nI k1)), (2, .int x1), (3, .int ((nI n) + 1)), (4, .int (nI y))], [], gh S a b sc37 (uA ar37 84 (upd (ar37 84) n (nI y))) lo, ex, 0, 0)) rfl ?_
        rw [nI_1 n]
        refine to_n 1 (fr' := (23, [(0, .ref 49), (1, .int (nI k1)), (2, .int x1), (3, .int (nI (n + 1))), (4, .int (nI y))], [.ref 49], gh S a b sc37 (uA ar37 84 (upd (ar37 84) n (nI y))) lo, ex, 0, 0)) rfl ?_
        refine to_get rfl rfl rfl rfl ?_
        refine to_n 1 (fr' := (28, [(0, .ref 49), (1, .int (nI k1)), (2, .int x1), (3, .int (nI (n + 1))), (4, .int (nI y))], [.int (nI y), .ref 80], gh S a b sc37 (uA ar37 84 (upd (ar37 84) n (nI y))) lo, ex, 0, 0)) rfl ?_
        refine to_ialR (i := y) (v := (((uA ar37 84 (upd (ar37 84) n (nI y))) 80) y)) rfl (by decide) rfl (by omega) (by omega) rfl ?_
        refine to_n 2 (fr' := (5, [(0, .ref 49), (1, .int (nI k1)), (2, .int x1), (3, .int (nI (n + 1))), (4, .int (((uA ar37 84 (upd (ar37 84) n (nI y))) 80) y))], [], gh S a b sc37 (uA ar37 84 (upd (ar37 84) n (nI y))) lo, ex, 0, 0)) rfl ?_
        exact ih (n + 1) (((uA ar37 84 (upd (ar37 84) n (nI y))) 80) y) sc37 (uA ar37 84 (upd (ar37 84) n (nI y))) (go.imp id (fun ⟨j, w1, w2⟩ => ⟨j, (by omega), (by omega), (by omega), w2⟩)) (fun w => absurd w (by omega)) (by omega) hI38 hF38
  refine to_n 4 (fr' := (5, [(0, .ref 49), (1, .int (nI k1)), (2, .int x1), (3, .int 0), (4, .int (nI k1))], [], gh S a b sc ar lo, ex, 0, 0)) rfl ?_
  exact c5 128 0 (nI k1) sc ar (Or.inr ⟨i0, h1, (by omega), h2, h3.symm⟩) (fun _ => nI_neg (by omega) (by decide)) (by omega) hI hF
set_option maxRecDepth 20000 in
theorem sf_X10_oneMore {X : Nat × (Nat → Int32)} {S a b : Nat} {sc : Nat → Int32} {ar : Nat → Nat → Int32} {lo : Nat → Int64} {ex : Bool} (hW : Wd S a b) (hI : Iv S sc ar) (x1 : Int32) (d : Nat)  : ci X S a b (d + 3) 162 [.ref 49, .int x1] sc ar lo ex (fun x sc' ar' => Iv S sc' ar' ∧ Fr [] [79, 80, 81, 82, 83, 84] sc ar sc' ar' ∧ rl x 2) := by
  obtain ⟨ha1, ha8, hb1, hb8, hab, hS1, hS⟩ := id hW
  refine ci_of (M := an_X10_oneMore) rfl (Nat.le_of_ble_eq_true rfl) ?_
  have hF : Fr [] [79, 80, 81, 82, 83, 84] sc ar sc ar := fr_0
  refine to_eq (fr' := (0, [(0, .ref 49), (1, .int x1)], [], gh S a b sc ar lo, ex, 0, 0)) rfl ?_
  have c125 : ∀ m : Nat, ∀ (h : Nat) (t : Nat) (sc1 : Nat → Int32) (ar1 : Nat → Nat → Int32), 128 ≤ h + m → t + cn2 (ar1 80) 128 ≤ 128 → Od (ar1 80) (ar1 81) t → h ≤ t → h ≤ 128 → Iv S sc1 ar1 → Fr [] [79, 80, 81, 82, 83, 84] sc ar sc1 ar1 → ag_To X (d + 2) an_X10_oneMore (125, [(0, .ref 49), (1, .int x1), (2, .int (nI S)), (3, .int (nI h)), (4, .int (nI t))], [], gh S a b sc1 ar1 lo, ex, 0, 0) (qi S a b lo ex (fun x sc' ar' => Iv S sc' ar' ∧ Fr [] [79, 80, 81, 82, 83, 84] sc ar sc' ar' ∧ rl x 2)) := by
    intro m
    induction m with
    | zero =>
      intro h t sc1 ar1 hm hc125_0 hc125_1 hc125_2 hc125_3 hI1 hF1
      refine to_n 2 (fr' := (128, [(0, .ref 49), (1, .int x1), (2, .int (nI S)), (3, .int (nI h)), (4, .int (nI t))], [.int (nI t), .int (nI h)], gh S a b sc1 ar1 lo, ex, 0, 0)) rfl ?_
      refine to_nc_ge_T (t := 466) (x := h) (y := t) rfl (by omega) (by omega) (by omega) ?_
      refine to_n 1 (fr' := (467, [(0, .ref 49), (1, .int x1), (2, .int (nI S)), (3, .int (nI h)), (4, .int (nI t))], [.int 0], gh S a b sc1 ar1 lo, ex, 0, 0)) rfl ?_
      exact to_rt (i := .ireturn) (tg := []) rfl rfl ⟨_, _, _, ⟨hI1, hF1, rl_n (n := 0) (by omega)⟩, rfl⟩
    | succ m ih =>
      intro h t sc1 ar1 hm hc125_0 hc125_1 hc125_2 hc125_3 hI1 hF1
      have c349 : ∀ m : Nat, ∀ (t2 : Nat) (v : Nat) (k : Nat) (w : Nat) (sc2 : Nat → Int32) (ar2 : Nat → Nat → Int32), w + m = 4 → t2 + cn2 (ar2 80) 128 ≤ 128 → Od (ar2 80) (ar2 81) t2 → (∃ j, j < t2 ∧ ar2 81 j = nI v) → v < 128 → v % 64 < S → k = v % 64 → h + 1 ≤ t2 → 64 ≤ v → Iv S sc2 ar2 → Fr [] [79, 80, 81, 82, 83, 84] sc ar sc2 ar2 → ag_To X (d + 2) an_X10_oneMore (349, [(0, .ref 49), (1, .int x1), (2, .int (nI S)), (3, .int (nI (h + 1))), (4, .int (nI t2)), (5, .int (nI v)), (6, .int (nI k)), (8, .int (nI w))], [], gh S a b sc2 ar2 lo, ex, 0, 0) (qi S a b lo ex (fun x sc' ar' => Iv S sc' ar' ∧ Fr [] [79, 80, 81, 82, 83, 84] sc ar sc' ar' ∧ rl x 2)) := by
        intro m
        induction m with
        | zero =>
          intro t2 v k w sc2 ar2 hm hc349_0 hc349_1 hc349_2 hc349_3 hc349_4 hc349_5 hc349_6 hc349_7 hI2 hF2
          obtain ⟨jv, hjv, ejv⟩ := hc349_2
          refine to_n 2 (fr' := (352, [(0, .ref 49), (1, .int x1), (2, .int (nI S)), (3, .int (nI (h + 1))), (4, .int (nI t2)), (5, .int (nI v)), (6, .int (nI k)), (8, .int (nI w))], [.int 4, .int (nI w)], gh S a b sc2 ar2 lo, ex, 0, 0)) rfl ?_
          refine to_nc_ge_T (t := 463) (x := w) (y := 4) rfl (by omega) (by omega) (by omega) ?_
          refine to_n 1 (fr' := (125, [(0, .ref 49), (1, .int x1), (2, .int (nI S)), (3, .int (nI (h + 1))), (4, .int (nI t2)), (5, .int (nI v)), (6, .int (nI k)), (8, .int (nI w))], [], gh S a b sc2 ar2 lo, ex, 0, 0)) rfl ?_
          refine to_lv (lv := [(0, .ref 49), (1, .int x1), (2, .int (nI S)), (3, .int (nI (h + 1))), (4, .int (nI t2))]) rfl ⟨rfl, rfl, rfl, rfl, rfl, trivial⟩ ?_
          exact ih (h + 1) t2 sc2 ar2 (by omega) hc349_0 hc349_1 (by omega) (by omega) hI2 hF2
        | succ m ih =>
          intro t2 v k w sc2 ar2 hm hc349_0 hc349_1 hc349_2 hc349_3 hc349_4 hc349_5 hc349_6 hc349_7 hI2 hF2
          have c457 : ∀ (t2 : Nat) (v : Nat) (k : Nat) (sc3 : Nat → Int32) (ar3 : Nat → Nat → Int32), t2 + cn2 (ar3 80) 128 ≤ 128 → Od (ar3 80) (ar3 81) t2 → (∃ j, j < t2 ∧ ar3 81 j = nI v) → v < 128 → v % 64 < S → k = v % 64 → h + 1 ≤ t2 → 64 ≤ v → Iv S sc3 ar3 → Fr [] [79, 80, 81, 82, 83, 84] sc ar sc3 ar3 → ag_To X (d + 2) an_X10_oneMore (457, [(0, .ref 49), (1, .int x1), (2, .int (nI S)), (3, .int (nI (h + 1))), (4, .int (nI t2)), (5, .int (nI v)), (6, .int (nI k)), (8, .int (nI w))], [], gh S a b sc3 ar3 lo, ex, 0, 0) (qi S a b lo ex (fun x sc' ar' => Iv S sc' ar' ∧ Fr [] [79, 80, 81, 82, 83, 84] sc ar sc' ar' ∧ rl x 2)) := by
            intro t2 v k sc3 ar3 hc457_0 hc457_1 hc457_2 hc457_3 hc457_4 hc457_5 hc457_6 hc457_7 hI3 hF3
            obtain ⟨jv, hjv, ejv⟩ := hc457_2
            refine to_n 1 (fr' := (460, [(0, .ref 49), (1, .int x1), (2, .int (nI S)), (3, .int (nI (h + 1))), (4, .int (nI t2)), (5, .int (nI v)), (6, .int (nI k)), (8, .int ((nI w) + 1))], [], gh S a b sc3 ar3 lo, ex, 0, 0)) rfl ?_
            rw [nI_1 w]
            refine to_n 1 (fr' := (349, [(0, .ref 49), (1, .int x1), (2, .int (nI S)), (3, .int (nI (h + 1))), (4, .int (nI t2)), (5, .int (nI v)), (6, .int (nI k)), (8, .int (nI (w + 1)))], [], gh S a b sc3 ar3 lo, ex, 0, 0)) rfl ?_
            exact ih t2 v k (w + 1) sc3 ar3 (by omega) hc457_0 hc457_1 ⟨jv, (by omega), (by first | exact ejv | (rw [show _ = _ from up_ne (by omega)]; exact ejv) | (exact (up_ne (by omega)).trans ejv) | (exact (up_ne (by omega)).trans ((up_ne (by omega)).trans ejv)))⟩ (by omega) (by omega) (by omega) (by omega) (by omega) hI3 hF3
          obtain ⟨jv, hjv, ejv⟩ := hc349_2
          refine to_n 2 (fr' := (352, [(0, .ref 49), (1, .int x1), (2, .int (nI S)), (3, .int (nI (h + 1))), (4, .int (nI t2)), (5, .int (nI v)), (6, .int (nI k)), (8, .int (nI w))], [.int 4, .int (nI w)], gh S a b sc2 ar2 lo, ex, 0, 0)) rfl ?_
          refine to_nc_ge_F (t := 463) (x := w) (y := 4) rfl (by omega) (by omega) (by omega) ?_
          refine to_n 3 (fr' := (360, [(0, .ref 49), (1, .int x1), (2, .int (nI S)), (3, .int (nI (h + 1))), (4, .int (nI t2)), (5, .int (nI v)), (6, .int (nI k)), (8, .int (nI w))], [.int (nI w), .int (nI k), .ref 49], gh S a b sc2 ar2 lo, ex, 0, 0)) rfl ?_
          refine to_cp (q := 112) (M1 := an_X10_beside) (rest := []) rfl rfl (by decide) rfl ⟨_, rfl⟩ (sf_X10_beside hW hI2 k (by omega) w (by omega) (d + 1)) (fun x4 hx4 => ?_)
          obtain ⟨hx4, hp4⟩ := hx4
          rcases hx4 with rfl | ⟨n4, hn4, rfl⟩
          · refine to_eq (fr' := (363, [(0, .ref 49), (1, .int x1), (2, .int (nI S)), (3, .int (nI (h + 1))), (4, .int (nI t2)), (5, .int (nI v)), (6, .int (nI k)), (8, .int (nI w))], [.int (-1)], gh S a b sc2 ar2 lo, ex, 0, 0)) rfl ?_
            refine to_n 4 (fr' := (457, [(0, .ref 49), (1, .int x1), (2, .int (nI S)), (3, .int (nI (h + 1))), (4, .int (nI t2)), (5, .int (nI v)), (6, .int (nI k)), (8, .int (nI w)), (9, .int (-1))], [], gh S a b sc2 ar2 lo, ex, 0, 0)) rfl ?_
            refine to_lv (lv := [(0, .ref 49), (1, .int x1), (2, .int (nI S)), (3, .int (nI (h + 1))), (4, .int (nI t2)), (5, .int (nI v)), (6, .int (nI k)), (8, .int (nI w))]) rfl ⟨rfl, rfl, rfl, rfl, rfl, rfl, rfl, rfl, trivial⟩ ?_
            exact c457 t2 v k sc2 ar2 hc349_0 hc349_1 ⟨jv, (by omega), (by first | exact ejv | (rw [show _ = _ from up_ne (by omega)]; exact ejv) | (exact (up_ne (by omega)).trans ejv) | (exact (up_ne (by omega)).trans ((up_ne (by omega)).trans ejv)))⟩ (by omega) (by omega) (by omega) (by omega) (by omega) hI2 hF2
          · refine to_eq (fr' := (363, [(0, .ref 49), (1, .int x1), (2, .int (nI S)), (3, .int (nI (h + 1))), (4, .int (nI t2)), (5, .int (nI v)), (6, .int (nI k)), (8, .int (nI w))], [.int (nI n4)], gh S a b sc2 ar2 lo, ex, 0, 0)) rfl ?_
            refine to_n 3 (fr' := (368, [(0, .ref 49), (1, .int x1), (2, .int (nI S)), (3, .int (nI (h + 1))), (4, .int (nI t2)), (5, .int (nI v)), (6, .int (nI k)), (8, .int (nI w)), (9, .int (nI n4))], [.int (-1), .int (nI n4)], gh S a b sc2 ar2 lo, ex, 0, 0)) rfl ?_
            refine to_ic_eq_F (t := 457) (x := (nI n4)) (y := (-1)) rfl (nI_neg (by omega) (by decide)) ?_
            refine to_n 2 (fr' := (374, [(0, .ref 49), (1, .int x1), (2, .int (nI S)), (3, .int (nI (h + 1))), (4, .int (nI t2)), (5, .int (nI v)), (6, .int (nI k)), (8, .int (nI w)), (9, .int (nI n4))], [.int (nI n4), .ref 49], gh S a b sc2 ar2 lo, ex, 0, 0)) rfl ?_
            refine to_cp (q := 161) (M1 := an_X10_stays) (rest := []) rfl rfl (by decide) rfl ⟨_, rfl⟩ (sf_X10_stays hW hI2 n4 (by omega) (d + 1)) (fun x5 hx5 => ?_)
            obtain ⟨n5, hn5, rfl⟩ := hx5
            refine to_eq (fr' := (377, [(0, .ref 49), (1, .int x1), (2, .int (nI S)), (3, .int (nI (h + 1))), (4, .int (nI t2)), (5, .int (nI v)), (6, .int (nI k)), (8, .int (nI w)), (9, .int (nI n4))], [.int (nI n5)], gh S a b sc2 ar2 lo, ex, 0, 0)) rfl ?_
            refine to_nf_eq (t := 457) (x := n5) rfl (by omega) (fun q6 => ?_) (fun q6 => ?_)
            · refine to_lv (lv := [(0, .ref 49), (1, .int x1), (2, .int (nI S)), (3, .int (nI (h + 1))), (4, .int (nI t2)), (5, .int (nI v)), (6, .int (nI k)), (8, .int (nI w))]) rfl ⟨rfl, rfl, rfl, rfl, rfl, rfl, rfl, rfl, trivial⟩ ?_
              exact c457 t2 v k sc2 ar2 hc349_0 hc349_1 ⟨jv, (by omega), (by first | exact ejv | (rw [show _ = _ from up_ne (by omega)]; exact ejv) | (exact (up_ne (by omega)).trans ejv) | (exact (up_ne (by omega)).trans ((up_ne (by omega)).trans ejv)))⟩ (by omega) (by omega) (by omega) (by omega) (by omega) hI2 hF2
            · refine to_n 1 (fr' := (381, [(0, .ref 49), (1, .int x1), (2, .int (nI S)), (3, .int (nI (h + 1))), (4, .int (nI t2)), (5, .int (nI v)), (6, .int (nI k)), (8, .int (nI w)), (9, .int (nI n4))], [.ref 49], gh S a b sc2 ar2 lo, ex, 0, 0)) rfl ?_
              refine to_get rfl rfl rfl rfl ?_
              refine to_n 1 (fr' := (386, [(0, .ref 49), (1, .int x1), (2, .int (nI S)), (3, .int (nI (h + 1))), (4, .int (nI t2)), (5, .int (nI v)), (6, .int (nI k)), (8, .int (nI w)), (9, .int (nI n4))], [.int (nI k), .ref 79], gh S a b sc2 ar2 lo, ex, 0, 0)) rfl ?_
              refine to_ialR (i := k) (v := ((ar2 79) k)) rfl (by decide) rfl (by omega) (by omega) rfl ?_
              refine to_n 1 (fr' := (388, [(0, .ref 49), (1, .int x1), (2, .int (nI S)), (3, .int (nI (h + 1))), (4, .int (nI t2)), (5, .int (nI v)), (6, .int (nI k)), (8, .int (nI w)), (9, .int (nI n4))], [.int 1, .int ((ar2 79) k)], gh S a b sc2 ar2 lo, ex, 0, 0)) rfl ?_
              refine to_ic_ne (t := 406) rfl (fun q7 => ?_) (fun q7 => ?_)
              · refine to_n 2 (fr' := (409, [(0, .ref 49), (1, .int x1), (2, .int (nI S)), (3, .int (nI (h + 1))), (4, .int (nI t2)), (5, .int (nI v)), (6, .int (nI k)), (8, .int (nI w)), (9, .int (nI n4))], [.int x1, .int (nI n4)], gh S a b sc2 ar2 lo, ex, 0, 0)) rfl ?_
                refine to_ic_ne (t := 421) rfl (fun q8 => ?_) (fun q8 => ?_)
                · refine to_n 1 (fr' := (422, [(0, .ref 49), (1, .int x1), (2, .int (nI S)), (3, .int (nI (h + 1))), (4, .int (nI t2)), (5, .int (nI v)), (6, .int (nI k)), (8, .int (nI w)), (9, .int (nI n4))], [.ref 49], gh S a b sc2 ar2 lo, ex, 0, 0)) rfl ?_
                  refine to_get rfl rfl rfl rfl ?_
                  refine to_n 1 (fr' := (427, [(0, .ref 49), (1, .int x1), (2, .int (nI S)), (3, .int (nI (h + 1))), (4, .int (nI t2)), (5, .int (nI v)), (6, .int (nI k)), (8, .int (nI w)), (9, .int (nI n4))], [.int (nI n4), .ref 80], gh S a b sc2 ar2 lo, ex, 0, 0)) rfl ?_
                  rcases iv_a80 hI2 n4 with e9 | e9 | ⟨n9, hn9, hd9, e9⟩
                  · refine to_ialR (i := n4) (v := (-1)) rfl (by decide) rfl (by omega) (by omega) e9 ?_
                    refine to_n 3 (fr' := (457, [(0, .ref 49), (1, .int x1), (2, .int (nI S)), (3, .int (nI (h + 1))), (4, .int (nI t2)), (5, .int (nI v)), (6, .int (nI k)), (8, .int (nI w)), (9, .int (nI n4))], [], gh S a b sc2 ar2 lo, ex, 0, 0)) rfl ?_
                    refine to_lv (lv := [(0, .ref 49), (1, .int x1), (2, .int (nI S)), (3, .int (nI (h + 1))), (4, .int (nI t2)), (5, .int (nI v)), (6, .int (nI k)), (8, .int (nI w))]) rfl ⟨rfl, rfl, rfl, rfl, rfl, rfl, rfl, rfl, trivial⟩ ?_
                    exact c457 t2 v k sc2 ar2 hc349_0 hc349_1 ⟨jv, (by omega), (by first | exact ejv | (rw [show _ = _ from up_ne (by omega)]; exact ejv) | (exact (up_ne (by omega)).trans ejv) | (exact (up_ne (by omega)).trans ((up_ne (by omega)).trans ejv)))⟩ (by omega) (by omega) (by omega) (by omega) (by omega) hI2 hF2
                  · refine to_ialR (i := n4) (v := (-2)) rfl (by decide) rfl (by omega) (by omega) e9 ?_
                    refine to_n 3 (fr' := (437, [(0, .ref 49), (1, .int x1), (2, .int (nI S)), (3, .int (nI (h + 1))), (4, .int (nI t2)), (5, .int (nI v)), (6, .int (nI k)), (8, .int (nI w)), (9, .int (nI n4))], [.ref 49], gh S a b sc2 ar2 lo, ex, 0, 0)) rfl ?_
                    refine to_get rfl rfl rfl rfl ?_
                    refine to_n 2 (fr' := (444, [(0, .ref 49), (1, .int x1), (2, .int (nI S)), (3, .int (nI (h + 1))), (4, .int (nI t2)), (5, .int (nI v)), (6, .int (nI k)), (8, .int (nI w)), (9, .int (nI n4))], [.int (nI v), .int (nI n4), .ref 80], gh S a b sc2 ar2 lo, ex, 0, 0)) rfl ?_
                    refine to_iasR (i := n4) (h' := gh S a b sc2 (uA ar2 80 (upd (ar2 80) n4 (nI v))) lo) rfl rfl (by omega) (by omega) rfl ?_
                    have hI10 := ia_80 (i := n4) (v := (nI v)) hI2 (rm_n (n := v) (by omega) (by omega))
                    have hF10 := fr_a (c := 80) (g := (upd (ar2 80) n4 (nI v))) hF2 (by decide)
                    have hr10 : t2 < 128 := Qc.room hc349_0 (x := n4) (by omega) e9
                    refine to_n 1 (fr' := (446, [(0, .ref 49), (1, .int x1), (2, .int (nI S)), (3, .int (nI (h + 1))), (4, .int (nI t2)), (5, .int (nI v)), (6, .int (nI k)), (8, .int (nI w)), (9, .int (nI n4))], [.ref 49], gh S a b sc2 (uA ar2 80 (upd (ar2 80) n4 (nI v))) lo, ex, 0, 0)) rfl ?_
                    refine to_get rfl rfl rfl rfl ?_
                    refine to_n 2 (fr' := (453, [(0, .ref 49), (1, .int x1), (2, .int (nI S)), (3, .int (nI (h + 1))), (4, .int (nI t2)), (5, .int (nI v)), (6, .int (nI k)), (8, .int (nI w)), (9, .int (nI n4))], [.int (nI n4), .int (nI t2), .ref 81], gh S a b sc2 (uA ar2 80 (upd (ar2 80) n4 (nI v))) lo, ex, 0, 0)) rfl ?_
                    refine to_iasR (i := t2) (h' := gh S a b sc2 (uA (uA ar2 80 (upd (ar2 80) n4 (nI v))) 81 (upd ((uA ar2 80 (upd (ar2 80) n4 (nI v))) 81) t2 (nI n4))) lo) rfl rfl (by omega) (by omega) rfl ?_
                    have hI11 := ia_81 (i := t2) (v := (nI n4)) hI10 (rn_n (n := n4) (by omega) (by omega))
                    have hF11 := fr_a (c := 81) (g := (upd ((uA ar2 80 (upd (ar2 80) n4 (nI v))) 81) t2 (nI n4))) hF10 (by decide)
                    have hQ11 := Qc.put (v := (nI v)) hc349_0 (x := n4) (by omega) e9 (nI_neg (by omega) (by decide))
                    have hO11 := Od.put (v := (nI v)) hc349_1 (x := n4) (by omega) e9 (nI_neg (by omega) (by decide)) (Or.inr ⟨jv, (by omega), ejv.symm⟩)
                    refine to_n 1 (fr' := (457, [(0, .ref 49), (1, .int x1), (2, .int (nI S)), (3, .int (nI (h + 1))), (4, .int ((nI t2) + 1)), (5, .int (nI v)), (6, .int (nI k)), (8, .int (nI w)), (9, .int (nI n4))], [], gh S a b sc2 (uA (uA ar2 80 (upd (ar2 80) n4 (nI v))) 81 (upd ((uA ar2 80 (upd (ar2 80) n4 (nI v))) 81) t2 (nI n4))) lo, ex, 0, 0)) rfl ?_
                    rw [nI_1 t2]
                    refine to_lv (lv := [(0, .ref 49), (1, .int x1), (2, .int (nI S)), (3, .int (nI (h + 1))), (4, .int (nI (t2 + 1))), (5, .int (nI v)), (6, .int (nI k)), (8, .int (nI w))]) rfl ⟨rfl, rfl, rfl, rfl, rfl, rfl, rfl, rfl, trivial⟩ ?_
                    exact c457 (t2 + 1) v k sc2 (uA (uA ar2 80 (upd (ar2 80) n4 (nI v))) 81 (upd ((uA ar2 80 (upd (ar2 80) n4 (nI v))) 81) t2 (nI n4))) hQ11 hO11 ⟨jv, (by omega), (by first | exact ejv | (rw [show _ = _ from up_ne (by omega)]; exact ejv) | (exact (up_ne (by omega)).trans ejv) | (exact (up_ne (by omega)).trans ((up_ne (by omega)).trans ejv)))⟩ (by omega) (by omega) (by omega) (by omega) (by omega) hI11 hF11
                  · refine to_ialR (i := n4) (v := (nI n9)) rfl (by decide) rfl (by omega) (by omega) e9 ?_
                    refine to_n 1 (fr' := (430, [(0, .ref 49), (1, .int x1), (2, .int (nI S)), (3, .int (nI (h + 1))), (4, .int (nI t2)), (5, .int (nI v)), (6, .int (nI k)), (8, .int (nI w)), (9, .int (nI n4))], [.int (-2), .int (nI n9)], gh S a b sc2 ar2 lo, ex, 0, 0)) rfl ?_
                    refine to_ic_eq_F (t := 436) (x := (nI n9)) (y := (-2)) rfl (nI_neg (by omega) (by decide)) ?_
                    refine to_n 1 (fr' := (457, [(0, .ref 49), (1, .int x1), (2, .int (nI S)), (3, .int (nI (h + 1))), (4, .int (nI t2)), (5, .int (nI v)), (6, .int (nI k)), (8, .int (nI w)), (9, .int (nI n4))], [], gh S a b sc2 ar2 lo, ex, 0, 0)) rfl ?_
                    refine to_lv (lv := [(0, .ref 49), (1, .int x1), (2, .int (nI S)), (3, .int (nI (h + 1))), (4, .int (nI t2)), (5, .int (nI v)), (6, .int (nI k)), (8, .int (nI w))]) rfl ⟨rfl, rfl, rfl, rfl, rfl, rfl, rfl, rfl, trivial⟩ ?_
                    exact c457 t2 v k sc2 ar2 hc349_0 hc349_1 ⟨jv, (by omega), (by first | exact ejv | (rw [show _ = _ from up_ne (by omega)]; exact ejv) | (exact (up_ne (by omega)).trans ejv) | (exact (up_ne (by omega)).trans ((up_ne (by omega)).trans ejv)))⟩ (by omega) (by omega) (by omega) (by omega) (by omega) hI2 hF2
                · refine to_n 3 (fr' := (416, [(0, .ref 49), (1, .int x1), (2, .int (nI S)), (3, .int (nI (h + 1))), (4, .int (nI t2)), (5, .int (nI v)), (6, .int (nI k)), (8, .int (nI w)), (9, .int (nI n4))], [.int x1, .int (nI v), .ref 49], gh S a b sc2 ar2 lo, ex, 0, 0)) rfl ?_
                  refine to_cv (q := 163) (M1 := an_X10_trace) (rest := []) rfl rfl (by decide) rfl ⟨_, rfl⟩ (sf_X10_trace hW hI2 v (by omega) x1 t2 jv (by omega) (by omega) (by omega) (by omega) ejv hc349_1 (by omega) (d + 1)) (fun sc12 ar12 hx12 => ?_)
                  obtain ⟨hI12, hG12⟩ := hx12
                  have hF12 := fr_t hF2 hG12 (by decide) (by decide)
                  refine to_eq (fr' := (419, [(0, .ref 49), (1, .int x1), (2, .int (nI S)), (3, .int (nI (h + 1))), (4, .int (nI t2)), (5, .int (nI v)), (6, .int (nI k)), (8, .int (nI w)), (9, .int (nI n4))], [], gh S a b sc12 ar12 lo, ex, 0, 0)) rfl ?_
                  refine to_n 1 (fr' := (420, [(0, .ref 49), (1, .int x1), (2, .int (nI S)), (3, .int (nI (h + 1))), (4, .int (nI t2)), (5, .int (nI v)), (6, .int (nI k)), (8, .int (nI w)), (9, .int (nI n4))], [.int 1], gh S a b sc12 ar12 lo, ex, 0, 0)) rfl ?_
                  exact to_rt (i := .ireturn) (tg := []) rfl rfl ⟨_, _, _, ⟨hI12, hF12, rl_n (n := 1) (by omega)⟩, rfl⟩
              · refine to_n 1 (fr' := (392, [(0, .ref 49), (1, .int x1), (2, .int (nI S)), (3, .int (nI (h + 1))), (4, .int (nI t2)), (5, .int (nI v)), (6, .int (nI k)), (8, .int (nI w)), (9, .int (nI n4))], [.ref 49], gh S a b sc2 ar2 lo, ex, 0, 0)) rfl ?_
                refine to_get rfl rfl rfl rfl ?_
                refine to_n 1 (fr' := (397, [(0, .ref 49), (1, .int x1), (2, .int (nI S)), (3, .int (nI (h + 1))), (4, .int (nI t2)), (5, .int (nI v)), (6, .int (nI k)), (8, .int (nI w)), (9, .int (nI n4))], [.int (nI k), .ref 82], gh S a b sc2 ar2 lo, ex, 0, 0)) rfl ?_
                refine to_ialR (i := k) (v := ((ar2 82) k)) rfl (by decide) rfl (by omega) (by omega) rfl ?_
                refine to_n 1 (fr' := (400, [(0, .ref 49), (1, .int x1), (2, .int (nI S)), (3, .int (nI (h + 1))), (4, .int (nI t2)), (5, .int (nI v)), (6, .int (nI k)), (8, .int (nI w)), (9, .int (nI n4))], [.int (nI n4), .int ((ar2 82) k)], gh S a b sc2 ar2 lo, ex, 0, 0)) rfl ?_
                refine to_ic_ne (t := 406) rfl (fun q13 => ?_) (fun q13 => ?_)
                · refine to_n 2 (fr' := (409, [(0, .ref 49), (1, .int x1), (2, .int (nI S)), (3, .int (nI (h + 1))), (4, .int (nI t2)), (5, .int (nI v)), (6, .int (nI k)), (8, .int (nI w)), (9, .int (nI n4))], [.int x1, .int (nI n4)], gh S a b sc2 ar2 lo, ex, 0, 0)) rfl ?_
                  refine to_ic_ne (t := 421) rfl (fun q14 => ?_) (fun q14 => ?_)
                  · refine to_n 1 (fr' := (422, [(0, .ref 49), (1, .int x1), (2, .int (nI S)), (3, .int (nI (h + 1))), (4, .int (nI t2)), (5, .int (nI v)), (6, .int (nI k)), (8, .int (nI w)), (9, .int (nI n4))], [.ref 49], gh S a b sc2 ar2 lo, ex, 0, 0)) rfl ?_
                    refine to_get rfl rfl rfl rfl ?_
                    refine to_n 1 (fr' := (427, [(0, .ref 49), (1, .int x1), (2, .int (nI S)), (3, .int (nI (h + 1))), (4, .int (nI t2)), (5, .int (nI v)), (6, .int (nI k)), (8, .int (nI w)), (9, .int (nI n4))], [.int (nI n4), .ref 80], gh S a b sc2 ar2 lo, ex, 0, 0)) rfl ?_
                    rcases iv_a80 hI2 n4 with e15 | e15 | ⟨n15, hn15, hd15, e15⟩
                    · refine to_ialR (i := n4) (v := (-1)) rfl (by decide) rfl (by omega) (by omega) e15 ?_
                      refine to_n 3 (fr' := (457, [(0, .ref 49), (1, .int x1), (2, .int (nI S)), (3, .int (nI (h + 1))), (4, .int (nI t2)), (5, .int (nI v)), (6, .int (nI k)), (8, .int (nI w)), (9, .int (nI n4))], [], gh S a b sc2 ar2 lo, ex, 0, 0)) rfl ?_
                      refine to_lv (lv := [(0, .ref 49), (1, .int x1), (2, .int (nI S)), (3, .int (nI (h + 1))), (4, .int (nI t2)), (5, .int (nI v)), (6, .int (nI k)), (8, .int (nI w))]) rfl ⟨rfl, rfl, rfl, rfl, rfl, rfl, rfl, rfl, trivial⟩ ?_
                      exact c457 t2 v k sc2 ar2 hc349_0 hc349_1 ⟨jv, (by omega), (by first | exact ejv | (rw [show _ = _ from up_ne (by omega)]; exact ejv) | (exact (up_ne (by omega)).trans ejv) | (exact (up_ne (by omega)).trans ((up_ne (by omega)).trans ejv)))⟩ (by omega) (by omega) (by omega) (by omega) (by omega) hI2 hF2
                    · refine to_ialR (i := n4) (v := (-2)) rfl (by decide) rfl (by omega) (by omega) e15 ?_
                      refine to_n 3 (fr' := (437, [(0, .ref 49), (1, .int x1), (2, .int (nI S)), (3, .int (nI (h + 1))), (4, .int (nI t2)), (5, .int (nI v)), (6, .int (nI k)), (8, .int (nI w)), (9, .int (nI n4))], [.ref 49], gh S a b sc2 ar2 lo, ex, 0, 0)) rfl ?_
                      refine to_get rfl rfl rfl rfl ?_
                      refine to_n 2 (fr' := (444, [(0, .ref 49), (1, .int x1), (2, .int (nI S)), (3, .int (nI (h + 1))), (4, .int (nI t2)), (5, .int (nI v)), (6, .int (nI k)), (8, .int (nI w)), (9, .int (nI n4))], [.int (nI v), .int (nI n4), .ref 80], gh S a b sc2 ar2 lo, ex, 0, 0)) rfl ?_
                      refine to_iasR (i := n4) (h' := gh S a b sc2 (uA ar2 80 (upd (ar2 80) n4 (nI v))) lo) rfl rfl (by omega) (by omega) rfl ?_
                      have hI16 := ia_80 (i := n4) (v := (nI v)) hI2 (rm_n (n := v) (by omega) (by omega))
                      have hF16 := fr_a (c := 80) (g := (upd (ar2 80) n4 (nI v))) hF2 (by decide)
                      have hr16 : t2 < 128 := Qc.room hc349_0 (x := n4) (by omega) e15
                      refine to_n 1 (fr' := (446, [(0, .ref 49), (1, .int x1), (2, .int (nI S)), (3, .int (nI (h + 1))), (4, .int (nI t2)), (5, .int (nI v)), (6, .int (nI k)), (8, .int (nI w)), (9, .int (nI n4))], [.ref 49], gh S a b sc2 (uA ar2 80 (upd (ar2 80) n4 (nI v))) lo, ex, 0, 0)) rfl ?_
                      refine to_get rfl rfl rfl rfl ?_
                      refine to_n 2 (fr' := (453, [(0, .ref 49), (1, .int x1), (2, .int (nI S)), (3, .int (nI (h + 1))), (4, .int (nI t2)), (5, .int (nI v)), (6, .int (nI k)), (8, .int (nI w)), (9, .int (nI n4))], [.int (nI n4), .int (nI t2), .ref 81], gh S a b sc2 (uA ar2 80 (upd (ar2 80) n4 (nI v))) lo, ex, 0, 0)) rfl ?_
                      refine to_iasR (i := t2) (h' := gh S a b sc2 (uA (uA ar2 80 (upd (ar2 80) n4 (nI v))) 81 (upd ((uA ar2 80 (upd (ar2 80) n4 (nI v))) 81) t2 (nI n4))) lo) rfl rfl (by omega) (by omega) rfl ?_
                      have hI17 := ia_81 (i := t2) (v := (nI n4)) hI16 (rn_n (n := n4) (by omega) (by omega))
                      have hF17 := fr_a (c := 81) (g := (upd ((uA ar2 80 (upd (ar2 80) n4 (nI v))) 81) t2 (nI n4))) hF16 (by decide)
                      have hQ17 := Qc.put (v := (nI v)) hc349_0 (x := n4) (by omega) e15 (nI_neg (by omega) (by decide))
                      have hO17 := Od.put (v := (nI v)) hc349_1 (x := n4) (by omega) e15 (nI_neg (by omega) (by decide)) (Or.inr ⟨jv, (by omega), ejv.symm⟩)
                      refine to_n 1 (fr' := (457, [(0, .ref 49), (1, .int x1), (2, .int (nI S)), (3, .int (nI (h + 1))), (4, .int ((nI t2) + 1)), (5, .int (nI v)), (6, .int (nI k)), (8, .int (nI w)), (9, .int (nI n4))], [], gh S a b sc2 (uA (uA ar2 80 (upd (ar2 80) n4 (nI v))) 81 (upd ((uA ar2 80 (upd (ar2 80) n4 (nI v))) 81) t2 (nI n4))) lo, ex, 0, 0)) rfl ?_
                      rw [nI_1 t2]
                      refine to_lv (lv := [(0, .ref 49), (1, .int x1), (2, .int (nI S)), (3, .int (nI (h + 1))), (4, .int (nI (t2 + 1))), (5, .int (nI v)), (6, .int (nI k)), (8, .int (nI w))]) rfl ⟨rfl, rfl, rfl, rfl, rfl, rfl, rfl, rfl, trivial⟩ ?_
                      exact c457 (t2 + 1) v k sc2 (uA (uA ar2 80 (upd (ar2 80) n4 (nI v))) 81 (upd ((uA ar2 80 (upd (ar2 80) n4 (nI v))) 81) t2 (nI n4))) hQ17 hO17 ⟨jv, (by omega), (by first | exact ejv | (rw [show _ = _ from up_ne (by omega)]; exact ejv) | (exact (up_ne (by omega)).trans ejv) | (exact (up_ne (by omega)).trans ((up_ne (by omega)).trans ejv)))⟩ (by omega) (by omega) (by omega) (by omega) (by omega) hI17 hF17
                    · refine to_ialR (i := n4) (v := (nI n15)) rfl (by decide) rfl (by omega) (by omega) e15 ?_
                      refine to_n 1 (fr' := (430, [(0, .ref 49), (1, .int x1), (2, .int (nI S)), (3, .int (nI (h + 1))), (4, .int (nI t2)), (5, .int (nI v)), (6, .int (nI k)), (8, .int (nI w)), (9, .int (nI n4))], [.int (-2), .int (nI n15)], gh S a b sc2 ar2 lo, ex, 0, 0)) rfl ?_
                      refine to_ic_eq_F (t := 436) (x := (nI n15)) (y := (-2)) rfl (nI_neg (by omega) (by decide)) ?_
                      refine to_n 1 (fr' := (457, [(0, .ref 49), (1, .int x1), (2, .int (nI S)), (3, .int (nI (h + 1))), (4, .int (nI t2)), (5, .int (nI v)), (6, .int (nI k)), (8, .int (nI w)), (9, .int (nI n4))], [], gh S a b sc2 ar2 lo, ex, 0, 0)) rfl ?_
                      refine to_lv (lv := [(0, .ref 49), (1, .int x1), (2, .int (nI S)), (3, .int (nI (h + 1))), (4, .int (nI t2)), (5, .int (nI v)), (6, .int (nI k)), (8, .int (nI w))]) rfl ⟨rfl, rfl, rfl, rfl, rfl, rfl, rfl, rfl, trivial⟩ ?_
                      exact c457 t2 v k sc2 ar2 hc349_0 hc349_1 ⟨jv, (by omega), (by first | exact ejv | (rw [show _ = _ from up_ne (by omega)]; exact ejv) | (exact (up_ne (by omega)).trans ejv) | (exact (up_ne (by omega)).trans ((up_ne (by omega)).trans ejv)))⟩ (by omega) (by omega) (by omega) (by omega) (by omega) hI2 hF2
                  · refine to_n 3 (fr' := (416, [(0, .ref 49), (1, .int x1), (2, .int (nI S)), (3, .int (nI (h + 1))), (4, .int (nI t2)), (5, .int (nI v)), (6, .int (nI k)), (8, .int (nI w)), (9, .int (nI n4))], [.int x1, .int (nI v), .ref 49], gh S a b sc2 ar2 lo, ex, 0, 0)) rfl ?_
                    refine to_cv (q := 163) (M1 := an_X10_trace) (rest := []) rfl rfl (by decide) rfl ⟨_, rfl⟩ (sf_X10_trace hW hI2 v (by omega) x1 t2 jv (by omega) (by omega) (by omega) (by omega) ejv hc349_1 (by omega) (d + 1)) (fun sc18 ar18 hx18 => ?_)
                    obtain ⟨hI18, hG18⟩ := hx18
                    have hF18 := fr_t hF2 hG18 (by decide) (by decide)
                    refine to_eq (fr' := (419, [(0, .ref 49), (1, .int x1), (2, .int (nI S)), (3, .int (nI (h + 1))), (4, .int (nI t2)), (5, .int (nI v)), (6, .int (nI k)), (8, .int (nI w)), (9, .int (nI n4))], [], gh S a b sc18 ar18 lo, ex, 0, 0)) rfl ?_
                    refine to_n 1 (fr' := (420, [(0, .ref 49), (1, .int x1), (2, .int (nI S)), (3, .int (nI (h + 1))), (4, .int (nI t2)), (5, .int (nI v)), (6, .int (nI k)), (8, .int (nI w)), (9, .int (nI n4))], [.int 1], gh S a b sc18 ar18 lo, ex, 0, 0)) rfl ?_
                    exact to_rt (i := .ireturn) (tg := []) rfl rfl ⟨_, _, _, ⟨hI18, hF18, rl_n (n := 1) (by omega)⟩, rfl⟩
                · refine to_n 1 (fr' := (457, [(0, .ref 49), (1, .int x1), (2, .int (nI S)), (3, .int (nI (h + 1))), (4, .int (nI t2)), (5, .int (nI v)), (6, .int (nI k)), (8, .int (nI w)), (9, .int (nI n4))], [], gh S a b sc2 ar2 lo, ex, 0, 0)) rfl ?_
                  refine to_lv (lv := [(0, .ref 49), (1, .int x1), (2, .int (nI S)), (3, .int (nI (h + 1))), (4, .int (nI t2)), (5, .int (nI v)), (6, .int (nI k)), (8, .int (nI w))]) rfl ⟨rfl, rfl, rfl, rfl, rfl, rfl, rfl, rfl, trivial⟩ ?_
                  exact c457 t2 v k sc2 ar2 hc349_0 hc349_1 ⟨jv, (by omega), (by first | exact ejv | (rw [show _ = _ from up_ne (by omega)]; exact ejv) | (exact (up_ne (by omega)).trans ejv) | (exact (up_ne (by omega)).trans ((up_ne (by omega)).trans ejv)))⟩ (by omega) (by omega) (by omega) (by omega) (by omega) hI2 hF2
      have c346 : ∀ (t2 : Nat) (v : Nat) (k : Nat) (sc19 : Nat → Int32) (ar19 : Nat → Nat → Int32), t2 + cn2 (ar19 80) 128 ≤ 128 → Od (ar19 80) (ar19 81) t2 → (∃ j, j < t2 ∧ ar19 81 j = nI v) → v < 128 → v % 64 < S → k = v % 64 → h + 1 ≤ t2 → 64 ≤ v → Iv S sc19 ar19 → Fr [] [79, 80, 81, 82, 83, 84] sc ar sc19 ar19 → ag_To X (d + 2) an_X10_oneMore (346, [(0, .ref 49), (1, .int x1), (2, .int (nI S)), (3, .int (nI (h + 1))), (4, .int (nI t2)), (5, .int (nI v)), (6, .int (nI k))], [], gh S a b sc19 ar19 lo, ex, 0, 0) (qi S a b lo ex (fun x sc' ar' => Iv S sc' ar' ∧ Fr [] [79, 80, 81, 82, 83, 84] sc ar sc' ar' ∧ rl x 2)) := by
        intro t2 v k sc19 ar19 hc346_0 hc346_1 hc346_2 hc346_3 hc346_4 hc346_5 hc346_6 hc346_7 hI19 hF19
        obtain ⟨jv, hjv, ejv⟩ := hc346_2
        refine to_n 2 (fr' := (349, [(0, .ref 49), (1, .int x1), (2, .int (nI S)), (3, .int (nI (h + 1))), (4, .int (nI t2)), (5, .int (nI v)), (6, .int (nI k)), (8, .int 0)], [], gh S a b sc19 ar19 lo, ex, 0, 0)) rfl ?_
        exact c349 (4 - 0) t2 v k 0 sc19 ar19 (by omega) hc346_0 hc346_1 ⟨jv, (by omega), (by first | exact ejv | (rw [show _ = _ from up_ne (by omega)]; exact ejv) | (exact (up_ne (by omega)).trans ejv) | (exact (up_ne (by omega)).trans ((up_ne (by omega)).trans ejv)))⟩ (by omega) (by omega) (by omega) (by omega) (by omega) hI19 hF19
      have c220 : ∀ (t2 : Nat) (v : Nat) (k : Nat) (sc20 : Nat → Int32) (ar20 : Nat → Nat → Int32), t2 + cn2 (ar20 80) 128 ≤ 128 → Od (ar20 80) (ar20 81) t2 → (∃ j, j < t2 ∧ ar20 81 j = nI v) → v < 128 → v % 64 < S → k = v % 64 → h + 1 ≤ t2 → v < 64 → Iv S sc20 ar20 → Fr [] [79, 80, 81, 82, 83, 84] sc ar sc20 ar20 → ag_To X (d + 2) an_X10_oneMore (220, [(0, .ref 49), (1, .int x1), (2, .int (nI S)), (3, .int (nI (h + 1))), (4, .int (nI t2)), (5, .int (nI v)), (6, .int (nI k))], [], gh S a b sc20 ar20 lo, ex, 0, 0) (qi S a b lo ex (fun x sc' ar' => Iv S sc' ar' ∧ Fr [] [79, 80, 81, 82, 83, 84] sc ar sc' ar' ∧ rl x 2)) := by
        intro t2 v k sc20 ar20 hc220_0 hc220_1 hc220_2 hc220_3 hc220_4 hc220_5 hc220_6 hc220_7 hI20 hF20
        obtain ⟨jv, hjv, ejv⟩ := hc220_2
        refine to_n 1 (fr' := (221, [(0, .ref 49), (1, .int x1), (2, .int (nI S)), (3, .int (nI (h + 1))), (4, .int (nI t2)), (5, .int (nI v)), (6, .int (nI k))], [.ref 49], gh S a b sc20 ar20 lo, ex, 0, 0)) rfl ?_
        refine to_get rfl rfl rfl rfl ?_
        refine to_n 1 (fr' := (226, [(0, .ref 49), (1, .int x1), (2, .int (nI S)), (3, .int (nI (h + 1))), (4, .int (nI t2)), (5, .int (nI v)), (6, .int (nI k))], [.int (nI k), .ref 79], gh S a b sc20 ar20 lo, ex, 0, 0)) rfl ?_
        refine to_ialR (i := k) (v := ((ar20 79) k)) rfl (by decide) rfl (by omega) (by omega) rfl ?_
        refine to_n 1 (fr' := (228, [(0, .ref 49), (1, .int x1), (2, .int (nI S)), (3, .int (nI (h + 1))), (4, .int (nI t2)), (5, .int (nI v)), (6, .int (nI k))], [.int 1, .int ((ar20 79) k)], gh S a b sc20 ar20 lo, ex, 0, 0)) rfl ?_
        refine to_ic_ne (t := 125) rfl (fun q21 => ?_) (fun q21 => ?_)
        · refine to_lv (lv := [(0, .ref 49), (1, .int x1), (2, .int (nI S)), (3, .int (nI (h + 1))), (4, .int (nI t2))]) rfl ⟨rfl, rfl, rfl, rfl, rfl, trivial⟩ ?_
          exact ih (h + 1) t2 sc20 ar20 (by omega) hc220_0 hc220_1 (by omega) (by omega) hI20 hF20
        · refine to_n 1 (fr' := (232, [(0, .ref 49), (1, .int x1), (2, .int (nI S)), (3, .int (nI (h + 1))), (4, .int (nI t2)), (5, .int (nI v)), (6, .int (nI k))], [.ref 49], gh S a b sc20 ar20 lo, ex, 0, 0)) rfl ?_
          refine to_get rfl rfl rfl rfl ?_
          refine to_n 1 (fr' := (237, [(0, .ref 49), (1, .int x1), (2, .int (nI S)), (3, .int (nI (h + 1))), (4, .int (nI t2)), (5, .int (nI v)), (6, .int (nI k))], [.int (nI k), .ref 83], gh S a b sc20 ar20 lo, ex, 0, 0)) rfl ?_
          rcases iv_a83 hI20 k with e22 | ⟨n22, hn22, e22⟩
          · refine to_ialR (i := k) (v := (-1)) rfl (by decide) rfl (by omega) (by omega) e22 ?_
            refine to_n 2 (fr' := (125, [(0, .ref 49), (1, .int x1), (2, .int (nI S)), (3, .int (nI (h + 1))), (4, .int (nI t2)), (5, .int (nI v)), (6, .int (nI k))], [], gh S a b sc20 ar20 lo, ex, 0, 0)) rfl ?_
            refine to_lv (lv := [(0, .ref 49), (1, .int x1), (2, .int (nI S)), (3, .int (nI (h + 1))), (4, .int (nI t2))]) rfl ⟨rfl, rfl, rfl, rfl, rfl, trivial⟩ ?_
            exact ih (h + 1) t2 sc20 ar20 (by omega) hc220_0 hc220_1 (by omega) (by omega) hI20 hF20
          · refine to_ialR (i := k) (v := (nI n22)) rfl (by decide) rfl (by omega) (by omega) e22 ?_
            refine to_n 1 (fr' := (239, [(0, .ref 49), (1, .int x1), (2, .int (nI S)), (3, .int (nI (h + 1))), (4, .int (nI t2)), (5, .int (nI v)), (6, .int (nI k))], [.int (-1), .int (nI n22)], gh S a b sc20 ar20 lo, ex, 0, 0)) rfl ?_
            refine to_ic_eq_F (t := 125) (x := (nI n22)) (y := (-1)) rfl (nI_neg (by omega) (by decide)) ?_
            refine to_n 1 (fr' := (243, [(0, .ref 49), (1, .int x1), (2, .int (nI S)), (3, .int (nI (h + 1))), (4, .int (nI t2)), (5, .int (nI v)), (6, .int (nI k))], [.ref 49], gh S a b sc20 ar20 lo, ex, 0, 0)) rfl ?_
            refine to_get rfl rfl rfl rfl ?_
            refine to_n 2 (fr' := (249, [(0, .ref 49), (1, .int x1), (2, .int (nI S)), (3, .int (nI (h + 1))), (4, .int (nI t2)), (5, .int (nI v)), (6, .int (nI k))], [.ref 49, .int 64, .ref 80], gh S a b sc20 ar20 lo, ex, 0, 0)) rfl ?_
            refine to_get rfl rfl rfl rfl ?_
            refine to_n 1 (fr' := (254, [(0, .ref 49), (1, .int x1), (2, .int (nI S)), (3, .int (nI (h + 1))), (4, .int (nI t2)), (5, .int (nI v)), (6, .int (nI k))], [.int (nI k), .ref 83, .int 64, .ref 80], gh S a b sc20 ar20 lo, ex, 0, 0)) rfl ?_
            refine to_ialR (i := k) (v := (nI n22)) rfl (by decide) rfl (by omega) (by omega) e22 ?_
            refine to_addN (x := 64) (y := n22) rfl ?_
            rcases iv_a80 hI20 (64 + n22) with e23 | e23 | ⟨n23, hn23, hd23, e23⟩
            · refine to_ialR (i := (64 + n22)) (v := (-1)) rfl (by decide) rfl (by omega) (by omega) e23 ?_
              refine to_n 2 (fr' := (125, [(0, .ref 49), (1, .int x1), (2, .int (nI S)), (3, .int (nI (h + 1))), (4, .int (nI t2)), (5, .int (nI v)), (6, .int (nI k))], [], gh S a b sc20 ar20 lo, ex, 0, 0)) rfl ?_
              refine to_lv (lv := [(0, .ref 49), (1, .int x1), (2, .int (nI S)), (3, .int (nI (h + 1))), (4, .int (nI t2))]) rfl ⟨rfl, rfl, rfl, rfl, rfl, trivial⟩ ?_
              exact ih (h + 1) t2 sc20 ar20 (by omega) hc220_0 hc220_1 (by omega) (by omega) hI20 hF20
            · refine to_ialR (i := (64 + n22)) (v := (-2)) rfl (by decide) rfl (by omega) (by omega) e23 ?_
              refine to_n 3 (fr' := (263, [(0, .ref 49), (1, .int x1), (2, .int (nI S)), (3, .int (nI (h + 1))), (4, .int (nI t2)), (5, .int (nI v)), (6, .int (nI k))], [.ref 49], gh S a b sc20 ar20 lo, ex, 0, 0)) rfl ?_
              refine to_get rfl rfl rfl rfl ?_
              refine to_n 2 (fr' := (269, [(0, .ref 49), (1, .int x1), (2, .int (nI S)), (3, .int (nI (h + 1))), (4, .int (nI t2)), (5, .int (nI v)), (6, .int (nI k))], [.ref 49, .int 64, .ref 80], gh S a b sc20 ar20 lo, ex, 0, 0)) rfl ?_
              refine to_get rfl rfl rfl rfl ?_
              refine to_n 1 (fr' := (274, [(0, .ref 49), (1, .int x1), (2, .int (nI S)), (3, .int (nI (h + 1))), (4, .int (nI t2)), (5, .int (nI v)), (6, .int (nI k))], [.int (nI k), .ref 83, .int 64, .ref 80], gh S a b sc20 ar20 lo, ex, 0, 0)) rfl ?_
              refine to_ialR (i := k) (v := (nI n22)) rfl (by decide) rfl (by omega) (by omega) e22 ?_
              refine to_addN (x := 64) (y := n22) rfl ?_
              refine to_n 1 (fr' := (278, [(0, .ref 49), (1, .int x1), (2, .int (nI S)), (3, .int (nI (h + 1))), (4, .int (nI t2)), (5, .int (nI v)), (6, .int (nI k))], [.int (nI v), .int (nI (64 + n22)), .ref 80], gh S a b sc20 ar20 lo, ex, 0, 0)) rfl ?_
              refine to_iasR (i := (64 + n22)) (h' := gh S a b sc20 (uA ar20 80 (upd (ar20 80) (64 + n22) (nI v))) lo) rfl rfl (by omega) (by omega) rfl ?_
              have hI24 := ia_80 (i := (64 + n22)) (v := (nI v)) hI20 (rm_n (n := v) (by omega) (by omega))
              have hF24 := fr_a (c := 80) (g := (upd (ar20 80) (64 + n22) (nI v))) hF20 (by decide)
              have hr24 : t2 < 128 := Qc.room hc220_0 (x := (64 + n22)) (by omega) e23
              refine to_n 1 (fr' := (280, [(0, .ref 49), (1, .int x1), (2, .int (nI S)), (3, .int (nI (h + 1))), (4, .int (nI t2)), (5, .int (nI v)), (6, .int (nI k))], [.ref 49], gh S a b sc20 (uA ar20 80 (upd (ar20 80) (64 + n22) (nI v))) lo, ex, 0, 0)) rfl ?_
              refine to_get rfl rfl rfl rfl ?_
              refine to_n 3 (fr' := (288, [(0, .ref 49), (1, .int x1), (2, .int (nI S)), (3, .int (nI (h + 1))), (4, .int (nI t2)), (5, .int (nI v)), (6, .int (nI k))], [.ref 49, .int 64, .int (nI t2), .ref 81], gh S a b sc20 (uA ar20 80 (upd (ar20 80) (64 + n22) (nI v))) lo, ex, 0, 0)) rfl ?_
              refine to_get rfl rfl rfl rfl ?_
              refine to_n 1 (fr' := (293, [(0, .ref 49), (1, .int x1), (2, .int (nI S)), (3, .int (nI (h + 1))), (4, .int (nI t2)), (5, .int (nI v)), (6, .int (nI k))], [.int (nI k), .ref 83, .int 64, .int (nI t2), .ref 81], gh S a b sc20 (uA ar20 80 (upd (ar20 80) (64 + n22) (nI v))) lo, ex, 0, 0)) rfl ?_
              refine to_ialR (i := k) (v := (nI n22)) rfl (by decide) rfl (by omega) (by omega) e22 ?_
              refine to_addN (x := 64) (y := n22) rfl ?_
              refine to_iasR (i := t2) (h' := gh S a b sc20 (uA (uA ar20 80 (upd (ar20 80) (64 + n22) (nI v))) 81 (upd ((uA ar20 80 (upd (ar20 80) (64 + n22) (nI v))) 81) t2 (nI (64 + n22)))) lo) rfl rfl (by omega) (by omega) rfl ?_
              have hI25 := ia_81 (i := t2) (v := (nI (64 + n22))) hI24 (rn_n (n := (64 + n22)) (by omega) (by omega))
              have hF25 := fr_a (c := 81) (g := (upd ((uA ar20 80 (upd (ar20 80) (64 + n22) (nI v))) 81) t2 (nI (64 + n22)))) hF24 (by decide)
              have hQ25 := Qc.put (v := (nI v)) hc220_0 (x := (64 + n22)) (by omega) e23 (nI_neg (by omega) (by decide))
              have hO25 := Od.put (v := (nI v)) hc220_1 (x := (64 + n22)) (by omega) e23 (nI_neg (by omega) (by decide)) (Or.inr ⟨jv, (by omega), ejv.symm⟩)
              refine to_n 1 (fr' := (299, [(0, .ref 49), (1, .int x1), (2, .int (nI S)), (3, .int (nI (h + 1))), (4, .int ((nI t2) + 1)), (5, .int (nI v)), (6, .int (nI k))], [], gh S a b sc20 (uA (uA ar20 80 (upd (ar20 80) (64 + n22) (nI v))) 81 (upd ((uA ar20 80 (upd (ar20 80) (64 + n22) (nI v))) 81) t2 (nI (64 + n22)))) lo, ex, 0, 0)) rfl ?_
              rw [nI_1 t2]
              refine to_n 1 (fr' := (125, [(0, .ref 49), (1, .int x1), (2, .int (nI S)), (3, .int (nI (h + 1))), (4, .int (nI (t2 + 1))), (5, .int (nI v)), (6, .int (nI k))], [], gh S a b sc20 (uA (uA ar20 80 (upd (ar20 80) (64 + n22) (nI v))) 81 (upd ((uA ar20 80 (upd (ar20 80) (64 + n22) (nI v))) 81) t2 (nI (64 + n22)))) lo, ex, 0, 0)) rfl ?_
              refine to_lv (lv := [(0, .ref 49), (1, .int x1), (2, .int (nI S)), (3, .int (nI (h + 1))), (4, .int (nI (t2 + 1)))]) rfl ⟨rfl, rfl, rfl, rfl, rfl, trivial⟩ ?_
              exact ih (h + 1) (t2 + 1) sc20 (uA (uA ar20 80 (upd (ar20 80) (64 + n22) (nI v))) 81 (upd ((uA ar20 80 (upd (ar20 80) (64 + n22) (nI v))) 81) t2 (nI (64 + n22)))) (by omega) hQ25 hO25 (by omega) (by omega) hI25 hF25
            · refine to_ialR (i := (64 + n22)) (v := (nI n23)) rfl (by decide) rfl (by omega) (by omega) e23 ?_
              refine to_n 1 (fr' := (259, [(0, .ref 49), (1, .int x1), (2, .int (nI S)), (3, .int (nI (h + 1))), (4, .int (nI t2)), (5, .int (nI v)), (6, .int (nI k))], [.int (-2), .int (nI n23)], gh S a b sc20 ar20 lo, ex, 0, 0)) rfl ?_
              refine to_ic_ne_T (t := 125) (x := (nI n23)) (y := (-2)) rfl (nI_neg (by omega) (by decide)) ?_
              refine to_lv (lv := [(0, .ref 49), (1, .int x1), (2, .int (nI S)), (3, .int (nI (h + 1))), (4, .int (nI t2))]) rfl ⟨rfl, rfl, rfl, rfl, rfl, trivial⟩ ?_
              exact ih (h + 1) t2 sc20 ar20 (by omega) hc220_0 hc220_1 (by omega) (by omega) hI20 hF20
      refine to_n 2 (fr' := (128, [(0, .ref 49), (1, .int x1), (2, .int (nI S)), (3, .int (nI h)), (4, .int (nI t))], [.int (nI t), .int (nI h)], gh S a b sc1 ar1 lo, ex, 0, 0)) rfl ?_
      refine to_nc_ge (t := 466) (x := h) (y := t) rfl (by omega) (by omega) (fun q26 => ?_) (fun q26 => ?_)
      · refine to_n 1 (fr' := (467, [(0, .ref 49), (1, .int x1), (2, .int (nI S)), (3, .int (nI h)), (4, .int (nI t))], [.int 0], gh S a b sc1 ar1 lo, ex, 0, 0)) rfl ?_
        exact to_rt (i := .ireturn) (tg := []) rfl rfl ⟨_, _, _, ⟨hI1, hF1, rl_n (n := 0) (by omega)⟩, rfl⟩
      · refine to_n 1 (fr' := (132, [(0, .ref 49), (1, .int x1), (2, .int (nI S)), (3, .int (nI h)), (4, .int (nI t))], [.ref 49], gh S a b sc1 ar1 lo, ex, 0, 0)) rfl ?_
        refine to_get rfl rfl rfl rfl ?_
        refine to_n 1 (fr' := (136, [(0, .ref 49), (1, .int x1), (2, .int (nI S)), (3, .int (nI h)), (4, .int (nI t))], [.int (nI h), .ref 81], gh S a b sc1 ar1 lo, ex, 0, 0)) rfl ?_
        obtain ⟨n27, hn27, hd27, e27⟩ := iv_a81 hI1 h
        refine to_ialR (i := h) (v := (nI n27)) rfl (by decide) rfl (by omega) (by omega) e27 ?_
        refine to_n 2 (fr' := (142, [(0, .ref 49), (1, .int x1), (2, .int (nI S)), (3, .int ((nI h) + 1)), (4, .int (nI t)), (5, .int (nI n27))], [], gh S a b sc1 ar1 lo, ex, 0, 0)) rfl ?_
        rw [nI_1 h]
        refine to_n 2 (fr' := (146, [(0, .ref 49), (1, .int x1), (2, .int (nI S)), (3, .int (nI (h + 1))), (4, .int (nI t)), (5, .int (nI n27))], [.int 64, .int (nI n27)], gh S a b sc1 ar1 lo, ex, 0, 0)) rfl ?_
        refine to_remN (x := n27) (y := 64) rfl (by omega) (by omega) (by omega) ?_
        refine to_n 3 (fr' := (153, [(0, .ref 49), (1, .int x1), (2, .int (nI S)), (3, .int (nI (h + 1))), (4, .int (nI t)), (5, .int (nI n27)), (6, .int (nI (n27 % 64)))], [.int 64, .int (nI n27)], gh S a b sc1 ar1 lo, ex, 0, 0)) rfl ?_
        refine to_nc_ge (t := 160) (x := n27) (y := 64) rfl (by omega) (by omega) (fun q28 => ?_) (fun q28 => ?_)
        · refine to_n 5 (fr' := (303, [(0, .ref 49), (1, .int x1), (2, .int (nI S)), (3, .int (nI (h + 1))), (4, .int (nI t)), (5, .int (nI n27)), (6, .int (nI (n27 % 64))), (7, .int 0)], [.ref 49], gh S a b sc1 ar1 lo, ex, 0, 0)) rfl ?_
          refine to_get rfl rfl rfl rfl ?_
          refine to_n 1 (fr' := (308, [(0, .ref 49), (1, .int x1), (2, .int (nI S)), (3, .int (nI (h + 1))), (4, .int (nI t)), (5, .int (nI n27)), (6, .int (nI (n27 % 64))), (7, .int 0)], [.int (nI (n27 % 64)), .ref 79], gh S a b sc1 ar1 lo, ex, 0, 0)) rfl ?_
          refine to_ialR (i := (n27 % 64)) (v := ((ar1 79) (n27 % 64))) rfl (by decide) rfl (by omega) (by omega) rfl ?_
          refine to_n 1 (fr' := (310, [(0, .ref 49), (1, .int x1), (2, .int (nI S)), (3, .int (nI (h + 1))), (4, .int (nI t)), (5, .int (nI n27)), (6, .int (nI (n27 % 64))), (7, .int 0)], [.int 1, .int ((ar1 79) (n27 % 64))], gh S a b sc1 ar1 lo, ex, 0, 0)) rfl ?_
          refine to_ic_ne (t := 346) rfl (fun q29 => ?_) (fun q29 => ?_)
          · refine to_lv (lv := [(0, .ref 49), (1, .int x1), (2, .int (nI S)), (3, .int (nI (h + 1))), (4, .int (nI t)), (5, .int (nI n27)), (6, .int (nI (n27 % 64)))]) rfl ⟨rfl, rfl, rfl, rfl, rfl, rfl, rfl, trivial⟩ ?_
            exact c346 t n27 (n27 % 64) sc1 ar1 hc125_0 hc125_1 ⟨h, (by omega), (by first | exact e27 | (rw [show _ = _ from up_ne (by omega)]; exact e27) | (exact (up_ne (by omega)).trans e27) | (exact (up_ne (by omega)).trans ((up_ne (by omega)).trans e27)))⟩ (by omega) (by omega) (by omega) (by omega) (by omega) hI1 hF1
          · refine to_n 1 (fr' := (314, [(0, .ref 49), (1, .int x1), (2, .int (nI S)), (3, .int (nI (h + 1))), (4, .int (nI t)), (5, .int (nI n27)), (6, .int (nI (n27 % 64))), (7, .int 0)], [.ref 49], gh S a b sc1 ar1 lo, ex, 0, 0)) rfl ?_
            refine to_get rfl rfl rfl rfl ?_
            refine to_n 1 (fr' := (319, [(0, .ref 49), (1, .int x1), (2, .int (nI S)), (3, .int (nI (h + 1))), (4, .int (nI t)), (5, .int (nI n27)), (6, .int (nI (n27 % 64))), (7, .int 0)], [.int (nI (n27 % 64)), .ref 80], gh S a b sc1 ar1 lo, ex, 0, 0)) rfl ?_
            rcases iv_a80 hI1 (n27 % 64) with e30 | e30 | ⟨n30, hn30, hd30, e30⟩
            · refine to_ialR (i := (n27 % 64)) (v := (-1)) rfl (by decide) rfl (by omega) (by omega) e30 ?_
              refine to_n 2 (fr' := (346, [(0, .ref 49), (1, .int x1), (2, .int (nI S)), (3, .int (nI (h + 1))), (4, .int (nI t)), (5, .int (nI n27)), (6, .int (nI (n27 % 64))), (7, .int 0)], [], gh S a b sc1 ar1 lo, ex, 0, 0)) rfl ?_
              refine to_lv (lv := [(0, .ref 49), (1, .int x1), (2, .int (nI S)), (3, .int (nI (h + 1))), (4, .int (nI t)), (5, .int (nI n27)), (6, .int (nI (n27 % 64)))]) rfl ⟨rfl, rfl, rfl, rfl, rfl, rfl, rfl, trivial⟩ ?_
              exact c346 t n27 (n27 % 64) sc1 ar1 hc125_0 hc125_1 ⟨h, (by omega), (by first | exact e27 | (rw [show _ = _ from up_ne (by omega)]; exact e27) | (exact (up_ne (by omega)).trans e27) | (exact (up_ne (by omega)).trans ((up_ne (by omega)).trans e27)))⟩ (by omega) (by omega) (by omega) (by omega) (by omega) hI1 hF1
            · refine to_ialR (i := (n27 % 64)) (v := (-2)) rfl (by decide) rfl (by omega) (by omega) e30 ?_
              refine to_n 3 (fr' := (326, [(0, .ref 49), (1, .int x1), (2, .int (nI S)), (3, .int (nI (h + 1))), (4, .int (nI t)), (5, .int (nI n27)), (6, .int (nI (n27 % 64))), (7, .int 0)], [.ref 49], gh S a b sc1 ar1 lo, ex, 0, 0)) rfl ?_
              refine to_get rfl rfl rfl rfl ?_
              refine to_n 2 (fr' := (333, [(0, .ref 49), (1, .int x1), (2, .int (nI S)), (3, .int (nI (h + 1))), (4, .int (nI t)), (5, .int (nI n27)), (6, .int (nI (n27 % 64))), (7, .int 0)], [.int (nI n27), .int (nI (n27 % 64)), .ref 80], gh S a b sc1 ar1 lo, ex, 0, 0)) rfl ?_
              refine to_iasR (i := (n27 % 64)) (h' := gh S a b sc1 (uA ar1 80 (upd (ar1 80) (n27 % 64) (nI n27))) lo) rfl rfl (by omega) (by omega) rfl ?_
              have hI31 := ia_80 (i := (n27 % 64)) (v := (nI n27)) hI1 (rm_n (n := n27) (by omega) (by omega))
              have hF31 := fr_a (c := 80) (g := (upd (ar1 80) (n27 % 64) (nI n27))) hF1 (by decide)
              have hr31 : t < 128 := Qc.room hc125_0 (x := (n27 % 64)) (by omega) e30
              refine to_n 1 (fr' := (335, [(0, .ref 49), (1, .int x1), (2, .int (nI S)), (3, .int (nI (h + 1))), (4, .int (nI t)), (5, .int (nI n27)), (6, .int (nI (n27 % 64))), (7, .int 0)], [.ref 49], gh S a b sc1 (uA ar1 80 (upd (ar1 80) (n27 % 64) (nI n27))) lo, ex, 0, 0)) rfl ?_
              refine to_get rfl rfl rfl rfl ?_
              refine to_n 2 (fr' := (342, [(0, .ref 49), (1, .int x1), (2, .int (nI S)), (3, .int (nI (h + 1))), (4, .int (nI t)), (5, .int (nI n27)), (6, .int (nI (n27 % 64))), (7, .int 0)], [.int (nI (n27 % 64)), .int (nI t), .ref 81], gh S a b sc1 (uA ar1 80 (upd (ar1 80) (n27 % 64) (nI n27))) lo, ex, 0, 0)) rfl ?_
              refine to_iasR (i := t) (h' := gh S a b sc1 (uA (uA ar1 80 (upd (ar1 80) (n27 % 64) (nI n27))) 81 (upd ((uA ar1 80 (upd (ar1 80) (n27 % 64) (nI n27))) 81) t (nI (n27 % 64)))) lo) rfl rfl (by omega) (by omega) rfl ?_
              have hI32 := ia_81 (i := t) (v := (nI (n27 % 64))) hI31 (rn_n (n := (n27 % 64)) (by omega) (by omega))
              have hF32 := fr_a (c := 81) (g := (upd ((uA ar1 80 (upd (ar1 80) (n27 % 64) (nI n27))) 81) t (nI (n27 % 64)))) hF31 (by decide)
              have hQ32 := Qc.put (v := (nI n27)) hc125_0 (x := (n27 % 64)) (by omega) e30 (nI_neg (by omega) (by decide))
              have hO32 := Od.put (v := (nI n27)) hc125_1 (x := (n27 % 64)) (by omega) e30 (nI_neg (by omega) (by decide)) (Or.inr ⟨h, (by omega), e27.symm⟩)
              refine to_n 1 (fr' := (346, [(0, .ref 49), (1, .int x1), (2, .int (nI S)), (3, .int (nI (h + 1))), (4, .int ((nI t) + 1)), (5, .int (nI n27)), (6, .int (nI (n27 % 64))), (7, .int 0)], [], gh S a b sc1 (uA (uA ar1 80 (upd (ar1 80) (n27 % 64) (nI n27))) 81 (upd ((uA ar1 80 (upd (ar1 80) (n27 % 64) (nI n27))) 81) t (nI (n27 % 64)))) lo, ex, 0, 0)) rfl ?_
              rw [nI_1 t]
              refine to_lv (lv := [(0, .ref 49), (1, .int x1), (2, .int (nI S)), (3, .int (nI (h + 1))), (4, .int (nI (t + 1))), (5, .int (nI n27)), (6, .int (nI (n27 % 64)))]) rfl ⟨rfl, rfl, rfl, rfl, rfl, rfl, rfl, trivial⟩ ?_
              exact c346 (t + 1) n27 (n27 % 64) sc1 (uA (uA ar1 80 (upd (ar1 80) (n27 % 64) (nI n27))) 81 (upd ((uA ar1 80 (upd (ar1 80) (n27 % 64) (nI n27))) 81) t (nI (n27 % 64)))) hQ32 hO32 ⟨h, (by omega), (by first | exact e27 | (rw [show _ = _ from up_ne (by omega)]; exact e27) | (exact (up_ne (by omega)).trans e27) | (exact (up_ne (by omega)).trans ((up_ne (by omega)).trans e27)))⟩ (by omega) (by omega) (by omega) (by omega) (by omega) hI32 hF32
            · refine to_ialR (i := (n27 % 64)) (v := (nI n30)) rfl (by decide) rfl (by omega) (by omega) e30 ?_
              refine to_n 1 (fr' := (322, [(0, .ref 49), (1, .int x1), (2, .int (nI S)), (3, .int (nI (h + 1))), (4, .int (nI t)), (5, .int (nI n27)), (6, .int (nI (n27 % 64))), (7, .int 0)], [.int (-2), .int (nI n30)], gh S a b sc1 ar1 lo, ex, 0, 0)) rfl ?_
              refine to_ic_ne_T (t := 346) (x := (nI n30)) (y := (-2)) rfl (nI_neg (by omega) (by decide)) ?_
              refine to_lv (lv := [(0, .ref 49), (1, .int x1), (2, .int (nI S)), (3, .int (nI (h + 1))), (4, .int (nI t)), (5, .int (nI n27)), (6, .int (nI (n27 % 64)))]) rfl ⟨rfl, rfl, rfl, rfl, rfl, rfl, rfl, trivial⟩ ?_
              exact c346 t n27 (n27 % 64) sc1 ar1 hc125_0 hc125_1 ⟨h, (by omega), (by first | exact e27 | (rw [show _ = _ from up_ne (by omega)]; exact e27) | (exact (up_ne (by omega)).trans e27) | (exact (up_ne (by omega)).trans ((up_ne (by omega)).trans e27)))⟩ (by omega) (by omega) (by omega) (by omega) (by omega) hI1 hF1
        · refine to_n 6 (fr' := (169, [(0, .ref 49), (1, .int x1), (2, .int (nI S)), (3, .int (nI (h + 1))), (4, .int (nI t)), (5, .int (nI n27)), (6, .int (nI (n27 % 64))), (7, .int 1)], [.ref 49], gh S a b sc1 ar1 lo, ex, 0, 0)) rfl ?_
          refine to_get rfl rfl rfl rfl ?_
          refine to_n 1 (fr' := (174, [(0, .ref 49), (1, .int x1), (2, .int (nI S)), (3, .int (nI (h + 1))), (4, .int (nI t)), (5, .int (nI n27)), (6, .int (nI (n27 % 64))), (7, .int 1)], [.int (nI (n27 % 64)), .ref 79], gh S a b sc1 ar1 lo, ex, 0, 0)) rfl ?_
          refine to_ialR (i := (n27 % 64)) (v := ((ar1 79) (n27 % 64))) rfl (by decide) rfl (by omega) (by omega) rfl ?_
          refine to_if_ne (t := 220) rfl (fun q33 => ?_) (fun q33 => ?_)
          · refine to_lv (lv := [(0, .ref 49), (1, .int x1), (2, .int (nI S)), (3, .int (nI (h + 1))), (4, .int (nI t)), (5, .int (nI n27)), (6, .int (nI (n27 % 64)))]) rfl ⟨rfl, rfl, rfl, rfl, rfl, rfl, rfl, trivial⟩ ?_
            exact c220 t n27 (n27 % 64) sc1 ar1 hc125_0 hc125_1 ⟨h, (by omega), (by first | exact e27 | (rw [show _ = _ from up_ne (by omega)]; exact e27) | (exact (up_ne (by omega)).trans e27) | (exact (up_ne (by omega)).trans ((up_ne (by omega)).trans e27)))⟩ (by omega) (by omega) (by omega) (by omega) (by omega) hI1 hF1
          · refine to_n 1 (fr' := (179, [(0, .ref 49), (1, .int x1), (2, .int (nI S)), (3, .int (nI (h + 1))), (4, .int (nI t)), (5, .int (nI n27)), (6, .int (nI (n27 % 64))), (7, .int 1)], [.ref 49], gh S a b sc1 ar1 lo, ex, 0, 0)) rfl ?_
            refine to_get rfl rfl rfl rfl ?_
            refine to_n 2 (fr' := (186, [(0, .ref 49), (1, .int x1), (2, .int (nI S)), (3, .int (nI (h + 1))), (4, .int (nI t)), (5, .int (nI n27)), (6, .int (nI (n27 % 64))), (7, .int 1)], [.int (nI (n27 % 64)), .int 64, .ref 80], gh S a b sc1 ar1 lo, ex, 0, 0)) rfl ?_
            refine to_addN (x := 64) (y := (n27 % 64)) rfl ?_
            rcases iv_a80 hI1 (64 + (n27 % 64)) with e34 | e34 | ⟨n34, hn34, hd34, e34⟩
            · refine to_ialR (i := (64 + (n27 % 64))) (v := (-1)) rfl (by decide) rfl (by omega) (by omega) e34 ?_
              refine to_n 2 (fr' := (220, [(0, .ref 49), (1, .int x1), (2, .int (nI S)), (3, .int (nI (h + 1))), (4, .int (nI t)), (5, .int (nI n27)), (6, .int (nI (n27 % 64))), (7, .int 1)], [], gh S a b sc1 ar1 lo, ex, 0, 0)) rfl ?_
              refine to_lv (lv := [(0, .ref 49), (1, .int x1), (2, .int (nI S)), (3, .int (nI (h + 1))), (4, .int (nI t)), (5, .int (nI n27)), (6, .int (nI (n27 % 64)))]) rfl ⟨rfl, rfl, rfl, rfl, rfl, rfl, rfl, trivial⟩ ?_
              exact c220 t n27 (n27 % 64) sc1 ar1 hc125_0 hc125_1 ⟨h, (by omega), (by first | exact e27 | (rw [show _ = _ from up_ne (by omega)]; exact e27) | (exact (up_ne (by omega)).trans e27) | (exact (up_ne (by omega)).trans ((up_ne (by omega)).trans e27)))⟩ (by omega) (by omega) (by omega) (by omega) (by omega) hI1 hF1
            · refine to_ialR (i := (64 + (n27 % 64))) (v := (-2)) rfl (by decide) rfl (by omega) (by omega) e34 ?_
              refine to_n 3 (fr' := (194, [(0, .ref 49), (1, .int x1), (2, .int (nI S)), (3, .int (nI (h + 1))), (4, .int (nI t)), (5, .int (nI n27)), (6, .int (nI (n27 % 64))), (7, .int 1)], [.ref 49], gh S a b sc1 ar1 lo, ex, 0, 0)) rfl ?_
              refine to_get rfl rfl rfl rfl ?_
              refine to_n 2 (fr' := (201, [(0, .ref 49), (1, .int x1), (2, .int (nI S)), (3, .int (nI (h + 1))), (4, .int (nI t)), (5, .int (nI n27)), (6, .int (nI (n27 % 64))), (7, .int 1)], [.int (nI (n27 % 64)), .int 64, .ref 80], gh S a b sc1 ar1 lo, ex, 0, 0)) rfl ?_
              refine to_addN (x := 64) (y := (n27 % 64)) rfl ?_
              refine to_n 1 (fr' := (204, [(0, .ref 49), (1, .int x1), (2, .int (nI S)), (3, .int (nI (h + 1))), (4, .int (nI t)), (5, .int (nI n27)), (6, .int (nI (n27 % 64))), (7, .int 1)], [.int (nI n27), .int (nI (64 + (n27 % 64))), .ref 80], gh S a b sc1 ar1 lo, ex, 0, 0)) rfl ?_
              refine to_iasR (i := (64 + (n27 % 64))) (h' := gh S a b sc1 (uA ar1 80 (upd (ar1 80) (64 + (n27 % 64)) (nI n27))) lo) rfl rfl (by omega) (by omega) rfl ?_
              have hI35 := ia_80 (i := (64 + (n27 % 64))) (v := (nI n27)) hI1 (rm_n (n := n27) (by omega) (by omega))
              have hF35 := fr_a (c := 80) (g := (upd (ar1 80) (64 + (n27 % 64)) (nI n27))) hF1 (by decide)
              have hr35 : t < 128 := Qc.room hc125_0 (x := (64 + (n27 % 64))) (by omega) e34
              refine to_n 1 (fr' := (206, [(0, .ref 49), (1, .int x1), (2, .int (nI S)), (3, .int (nI (h + 1))), (4, .int (nI t)), (5, .int (nI n27)), (6, .int (nI (n27 % 64))), (7, .int 1)], [.ref 49], gh S a b sc1 (uA ar1 80 (upd (ar1 80) (64 + (n27 % 64)) (nI n27))) lo, ex, 0, 0)) rfl ?_
              refine to_get rfl rfl rfl rfl ?_
              refine to_n 3 (fr' := (215, [(0, .ref 49), (1, .int x1), (2, .int (nI S)), (3, .int (nI (h + 1))), (4, .int (nI t)), (5, .int (nI n27)), (6, .int (nI (n27 % 64))), (7, .int 1)], [.int (nI (n27 % 64)), .int 64, .int (nI t), .ref 81], gh S a b sc1 (uA ar1 80 (upd (ar1 80) (64 + (n27 % 64)) (nI n27))) lo, ex, 0, 0)) rfl ?_
              refine to_addN (x := 64) (y := (n27 % 64)) rfl ?_
              refine to_iasR (i := t) (h' := gh S a b sc1 (uA (uA ar1 80 (upd (ar1 80) (64 + (n27 % 64)) (nI n27))) 81 (upd ((uA ar1 80 (upd (ar1 80) (64 + (n27 % 64)) (nI n27))) 81) t (nI (64 + (n27 % 64))))) lo) rfl rfl (by omega) (by omega) rfl ?_
              have hI36 := ia_81 (i := t) (v := (nI (64 + (n27 % 64)))) hI35 (rn_n (n := (64 + (n27 % 64))) (by omega) (by omega))
              have hF36 := fr_a (c := 81) (g := (upd ((uA ar1 80 (upd (ar1 80) (64 + (n27 % 64)) (nI n27))) 81) t (nI (64 + (n27 % 64))))) hF35 (by decide)
              have hQ36 := Qc.put (v := (nI n27)) hc125_0 (x := (64 + (n27 % 64))) (by omega) e34 (nI_neg (by omega) (by decide))
              have hO36 := Od.put (v := (nI n27)) hc125_1 (x := (64 + (n27 % 64))) (by omega) e34 (nI_neg (by omega) (by decide)) (Or.inr ⟨h, (by omega), e27.symm⟩)
              refine to_n 1 (fr' := (220, [(0, .ref 49), (1, .int x1), (2, .int (nI S)), (3, .int (nI (h + 1))), (4, .int ((nI t) + 1)), (5, .int (nI n27)), (6, .int (nI (n27 % 64))), (7, .int 1)], [], gh S a b sc1 (uA (uA ar1 80 (upd (ar1 80) (64 + (n27 % 64)) (nI n27))) 81 (upd ((uA ar1 80 (upd (ar1 80) (64 + (n27 % 64)) (nI n27))) 81) t (nI (64 + (n27 % 64))))) lo, ex, 0, 0)) rfl ?_
              rw [nI_1 t]
              refine to_lv (lv := [(0, .ref 49), (1, .int x1), (2, .int (nI S)), (3, .int (nI (h + 1))), (4, .int (nI (t + 1))), (5, .int (nI n27)), (6, .int (nI (n27 % 64)))]) rfl ⟨rfl, rfl, rfl, rfl, rfl, rfl, rfl, trivial⟩ ?_
              exact c220 (t + 1) n27 (n27 % 64) sc1 (uA (uA ar1 80 (upd (ar1 80) (64 + (n27 % 64)) (nI n27))) 81 (upd ((uA ar1 80 (upd (ar1 80) (64 + (n27 % 64)) (nI n27))) 81) t (nI (64 + (n27 % 64))))) hQ36 hO36 ⟨h, (by omega), (by first | exact e27 | (rw [show _ = _ from up_ne (by omega)]; exact e27) | (exact (up_ne (by omega)).trans e27) | (exact (up_ne (by omega)).trans ((up_ne (by omega)).trans e27)))⟩ (by omega) (by omega) (by omega) (by omega) (by omega) hI36 hF36
            · refine to_ialR (i := (64 + (n27 % 64))) (v := (nI n34)) rfl (by decide) rfl (by omega) (by omega) e34 ?_
              refine to_n 1 (fr' := (190, [(0, .ref 49), (1, .int x1), (2, .int (nI S)), (3, .int (nI (h + 1))), (4, .int (nI t)), (5, .int (nI n27)), (6, .int (nI (n27 % 64))), (7, .int 1)], [.int (-2), .int (nI n34)], gh S a b sc1 ar1 lo, ex, 0, 0)) rfl ?_
              refine to_ic_ne_T (t := 220) (x := (nI n34)) (y := (-2)) rfl (nI_neg (by omega) (by decide)) ?_
              refine to_lv (lv := [(0, .ref 49), (1, .int x1), (2, .int (nI S)), (3, .int (nI (h + 1))), (4, .int (nI t)), (5, .int (nI n27)), (6, .int (nI (n27 % 64)))]) rfl ⟨rfl, rfl, rfl, rfl, rfl, rfl, rfl, trivial⟩ ?_
              exact c220 t n27 (n27 % 64) sc1 ar1 hc125_0 hc125_1 ⟨h, (by omega), (by first | exact e27 | (rw [show _ = _ from up_ne (by omega)]; exact e27) | (exact (up_ne (by omega)).trans e27) | (exact (up_ne (by omega)).trans ((up_ne (by omega)).trans e27)))⟩ (by omega) (by omega) (by omega) (by omega) (by omega) hI1 hF1
  have c44 : ∀ m : Nat, ∀ (t : Nat) (i : Nat) (sc37 : Nat → Int32) (ar37 : Nat → Nat → Int32), i + m = S → t + cn2 (ar37 80) 128 ≤ 128 → Od (ar37 80) (ar37 81) t → (∀ j, i ≤ j → j < 128 → ar37 80 j = -2) → t ≤ i → Iv S sc37 ar37 → Fr [] [79, 80, 81, 82, 83, 84] sc ar sc37 ar37 → ag_To X (d + 2) an_X10_oneMore (44, [(0, .ref 49), (1, .int x1), (2, .int (nI S)), (3, .int 0), (4, .int (nI t)), (5, .int (nI i))], [], gh S a b sc37 ar37 lo, ex, 0, 0) (qi S a b lo ex (fun x sc' ar' => Iv S sc' ar' ∧ Fr [] [79, 80, 81, 82, 83, 84] sc ar sc' ar' ∧ rl x 2)) := by
    intro m
    induction m with
    | zero =>
      intro t i sc37 ar37 hm hc44_0 hc44_1 hc44_2 hc44_3 hI37 hF37
      refine to_n 2 (fr' := (47, [(0, .ref 49), (1, .int x1), (2, .int (nI S)), (3, .int 0), (4, .int (nI t)), (5, .int (nI i))], [.int (nI S), .int (nI i)], gh S a b sc37 ar37 lo, ex, 0, 0)) rfl ?_
      refine to_nc_ge_T (t := 125) (x := i) (y := S) rfl (by omega) (by omega) (by omega) ?_
      refine to_lv (lv := [(0, .ref 49), (1, .int x1), (2, .int (nI S)), (3, .int 0), (4, .int (nI t))]) rfl ⟨rfl, rfl, rfl, rfl, rfl, trivial⟩ ?_
      exact c125 (128 - 0) 0 t sc37 ar37 (by omega) hc44_0 hc44_1 (by omega) (by omega) hI37 hF37
    | succ m ih =>
      intro t i sc37 ar37 hm hc44_0 hc44_1 hc44_2 hc44_3 hI37 hF37
      refine to_n 2 (fr' := (47, [(0, .ref 49), (1, .int x1), (2, .int (nI S)), (3, .int 0), (4, .int (nI t)), (5, .int (nI i))], [.int (nI S), .int (nI i)], gh S a b sc37 ar37 lo, ex, 0, 0)) rfl ?_
      refine to_nc_ge_F (t := 125) (x := i) (y := S) rfl (by omega) (by omega) (by omega) ?_
      refine to_n 2 (fr' := (53, [(0, .ref 49), (1, .int x1), (2, .int (nI S)), (3, .int 0), (4, .int (nI t)), (5, .int (nI i))], [.int (nI i), .ref 49], gh S a b sc37 ar37 lo, ex, 0, 0)) rfl ?_
      refine to_cp (q := 161) (M1 := an_X10_stays) (rest := []) rfl rfl (by decide) rfl ⟨_, rfl⟩ (sf_X10_stays hW hI37 i (by omega) (d + 1)) (fun x38 hx38 => ?_)
      obtain ⟨n38, hn38, rfl⟩ := hx38
      refine to_eq (fr' := (56, [(0, .ref 49), (1, .int x1), (2, .int (nI S)), (3, .int 0), (4, .int (nI t)), (5, .int (nI i))], [.int (nI n38)], gh S a b sc37 ar37 lo, ex, 0, 0)) rfl ?_
      refine to_nf_eq (t := 119) (x := n38) rfl (by omega) (fun q39 => ?_) (fun q39 => ?_)
      · refine to_n 1 (fr' := (122, [(0, .ref 49), (1, .int x1), (2, .int (nI S)), (3, .int 0), (4, .int (nI t)), (5, .int ((nI i) + 1))], [], gh S a b sc37 ar37 lo, ex, 0, 0)) rfl ?_
        rw [nI_1 i]
        refine to_n 1 (fr' := (44, [(0, .ref 49), (1, .int x1), (2, .int (nI S)), (3, .int 0), (4, .int (nI t)), (5, .int (nI (i + 1)))], [], gh S a b sc37 ar37 lo, ex, 0, 0)) rfl ?_
        exact ih t (i + 1) sc37 ar37 (by omega) hc44_0 hc44_1 (fun j w1 w2 => hc44_2 j (by omega) w2) (by omega) hI37 hF37
      · refine to_n 2 (fr' := (62, [(0, .ref 49), (1, .int x1), (2, .int (nI S)), (3, .int 0), (4, .int (nI t)), (5, .int (nI i))], [.int x1, .int (nI i)], gh S a b sc37 ar37 lo, ex, 0, 0)) rfl ?_
        refine to_ic_eq (t := 119) rfl (fun q40 => ?_) (fun q40 => ?_)
        · refine to_n 1 (fr' := (122, [(0, .ref 49), (1, .int x1), (2, .int (nI S)), (3, .int 0), (4, .int (nI t)), (5, .int ((nI i) + 1))], [], gh S a b sc37 ar37 lo, ex, 0, 0)) rfl ?_
          rw [nI_1 i]
          refine to_n 1 (fr' := (44, [(0, .ref 49), (1, .int x1), (2, .int (nI S)), (3, .int 0), (4, .int (nI t)), (5, .int (nI (i + 1)))], [], gh S a b sc37 ar37 lo, ex, 0, 0)) rfl ?_
          exact ih t (i + 1) sc37 ar37 (by omega) hc44_0 hc44_1 (fun j w1 w2 => hc44_2 j (by omega) w2) (by omega) hI37 hF37
        · refine to_n 2 (fr' := (68, [(0, .ref 49), (1, .int x1), (2, .int (nI S)), (3, .int 0), (4, .int (nI t)), (5, .int (nI i))], [.int (nI i), .ref 49], gh S a b sc37 ar37 lo, ex, 0, 0)) rfl ?_
          refine to_cp (q := 160) (M1 := an_X10_isSource) (rest := []) rfl rfl (by decide) rfl ⟨_, rfl⟩ (sf_X10_isSource hW hI37 i (by omega) d) (fun x41 hx41 => ?_)
          obtain ⟨n41, hn41, rfl⟩ := hx41
          refine to_eq (fr' := (71, [(0, .ref 49), (1, .int x1), (2, .int (nI S)), (3, .int 0), (4, .int (nI t)), (5, .int (nI i))], [.int (nI n41)], gh S a b sc37 ar37 lo, ex, 0, 0)) rfl ?_
          refine to_nf_eq (t := 119) (x := n41) rfl (by omega) (fun q42 => ?_) (fun q42 => ?_)
          · refine to_n 1 (fr' := (122, [(0, .ref 49), (1, .int x1), (2, .int (nI S)), (3, .int 0), (4, .int (nI t)), (5, .int ((nI i) + 1))], [], gh S a b sc37 ar37 lo, ex, 0, 0)) rfl ?_
            rw [nI_1 i]
            refine to_n 1 (fr' := (44, [(0, .ref 49), (1, .int x1), (2, .int (nI S)), (3, .int 0), (4, .int (nI t)), (5, .int (nI (i + 1)))], [], gh S a b sc37 ar37 lo, ex, 0, 0)) rfl ?_
            exact ih t (i + 1) sc37 ar37 (by omega) hc44_0 hc44_1 (fun j w1 w2 => hc44_2 j (by omega) w2) (by omega) hI37 hF37
          · refine to_n 1 (fr' := (75, [(0, .ref 49), (1, .int x1), (2, .int (nI S)), (3, .int 0), (4, .int (nI t)), (5, .int (nI i))], [.ref 49], gh S a b sc37 ar37 lo, ex, 0, 0)) rfl ?_
            refine to_get rfl rfl rfl rfl ?_
            refine to_n 1 (fr' := (80, [(0, .ref 49), (1, .int x1), (2, .int (nI S)), (3, .int 0), (4, .int (nI t)), (5, .int (nI i))], [.int (nI i), .ref 79], gh S a b sc37 ar37 lo, ex, 0, 0)) rfl ?_
            refine to_ialR (i := i) (v := ((ar37 79) i)) rfl (by decide) rfl (by omega) (by omega) rfl ?_
            refine to_n 1 (fr' := (82, [(0, .ref 49), (1, .int x1), (2, .int (nI S)), (3, .int 0), (4, .int (nI t)), (5, .int (nI i))], [.int 1, .int ((ar37 79) i)], gh S a b sc37 ar37 lo, ex, 0, 0)) rfl ?_
            refine to_ic_ne (t := 99) rfl (fun q43 => ?_) (fun q43 => ?_)
            · refine to_n 1 (fr' := (100, [(0, .ref 49), (1, .int x1), (2, .int (nI S)), (3, .int 0), (4, .int (nI t)), (5, .int (nI i))], [.ref 49], gh S a b sc37 ar37 lo, ex, 0, 0)) rfl ?_
              refine to_get rfl rfl rfl rfl ?_
              refine to_n 2 (fr' := (106, [(0, .ref 49), (1, .int x1), (2, .int (nI S)), (3, .int 0), (4, .int (nI t)), (5, .int (nI i))], [.int (-1), .int (nI i), .ref 80], gh S a b sc37 ar37 lo, ex, 0, 0)) rfl ?_
              refine to_iasR (i := i) (h' := gh S a b sc37 (uA ar37 80 (upd (ar37 80) i (-1))) lo) rfl rfl (by omega) (by omega) rfl ?_
              have hI44 := ia_80 (i := i) (v := (-1)) hI37 (rm_m)
              have hF44 := fr_a (c := 80) (g := (upd (ar37 80) i (-1))) hF37 (by decide)
              have hr44 : t < 128 := Qc.room hc44_0 (x := i) (by omega) (hc44_2 i (Nat.le_refl _) (by omega))
              refine to_n 1 (fr' := (108, [(0, .ref 49), (1, .int x1), (2, .int (nI S)), (3, .int 0), (4, .int (nI t)), (5, .int (nI i))], [.ref 49], gh S a b sc37 (uA ar37 80 (upd (ar37 80) i (-1))) lo, ex, 0, 0)) rfl ?_
              refine to_get rfl rfl rfl rfl ?_
              refine to_n 2 (fr' := (115, [(0, .ref 49), (1, .int x1), (2, .int (nI S)), (3, .int 0), (4, .int (nI t)), (5, .int (nI i))], [.int (nI i), .int (nI t), .ref 81], gh S a b sc37 (uA ar37 80 (upd (ar37 80) i (-1))) lo, ex, 0, 0)) rfl ?_
              refine to_iasR (i := t) (h' := gh S a b sc37 (uA (uA ar37 80 (upd (ar37 80) i (-1))) 81 (upd ((uA ar37 80 (upd (ar37 80) i (-1))) 81) t (nI i))) lo) rfl rfl (by omega) (by omega) rfl ?_
              have hI45 := ia_81 (i := t) (v := (nI i)) hI44 (rn_n (n := i) (by omega) (by omega))
              have hF45 := fr_a (c := 81) (g := (upd ((uA ar37 80 (upd (ar37 80) i (-1))) 81) t (nI i))) hF44 (by decide)
              have hQ45 := Qc.put (v := (-1)) hc44_0 (x := i) (by omega) (hc44_2 i (Nat.le_refl _) (by omega)) (by decide)
              have hO45 := Od.put (v := (-1)) hc44_1 (x := i) (by omega) (hc44_2 i (Nat.le_refl _) (by omega)) (by decide) (Or.inl rfl)
              refine to_n 1 (fr' := (119, [(0, .ref 49), (1, .int x1), (2, .int (nI S)), (3, .int 0), (4, .int ((nI t) + 1)), (5, .int (nI i))], [], gh S a b sc37 (uA (uA ar37 80 (upd (ar37 80) i (-1))) 81 (upd ((uA ar37 80 (upd (ar37 80) i (-1))) 81) t (nI i))) lo, ex, 0, 0)) rfl ?_
              rw [nI_1 t]
              refine to_n 1 (fr' := (122, [(0, .ref 49), (1, .int x1), (2, .int (nI S)), (3, .int 0), (4, .int (nI (t + 1))), (5, .int ((nI i) + 1))], [], gh S a b sc37 (uA (uA ar37 80 (upd (ar37 80) i (-1))) 81 (upd ((uA ar37 80 (upd (ar37 80) i (-1))) 81) t (nI i))) lo, ex, 0, 0)) rfl ?_
              rw [nI_1 i]
              refine to_n 1 (fr' := (44, [(0, .ref 49), (1, .int x1), (2, .int (nI S)), (3, .int 0), (4, .int (nI (t + 1))), (5, .int (nI (i + 1)))], [], gh S a b sc37 (uA (uA ar37 80 (upd (ar37 80) i (-1))) 81 (upd ((uA ar37 80 (upd (ar37 80) i (-1))) 81) t (nI i))) lo, ex, 0, 0)) rfl ?_
              exact ih (t + 1) (i + 1) sc37 (uA (uA ar37 80 (upd (ar37 80) i (-1))) 81 (upd ((uA ar37 80 (upd (ar37 80) i (-1))) 81) t (nI i))) (by omega) hQ45 hO45 (fun j w1 w2 => (up_ne (by omega)).trans (hc44_2 j (by omega) w2)) (by omega) hI45 hF45
            · refine to_n 1 (fr' := (86, [(0, .ref 49), (1, .int x1), (2, .int (nI S)), (3, .int 0), (4, .int (nI t)), (5, .int (nI i))], [.ref 49], gh S a b sc37 ar37 lo, ex, 0, 0)) rfl ?_
              refine to_get rfl rfl rfl rfl ?_
              refine to_n 1 (fr' := (91, [(0, .ref 49), (1, .int x1), (2, .int (nI S)), (3, .int 0), (4, .int (nI t)), (5, .int (nI i))], [.int (nI i), .ref 83], gh S a b sc37 ar37 lo, ex, 0, 0)) rfl ?_
              rcases iv_a83 hI37 i with e46 | ⟨n46, hn46, e46⟩
              · refine to_ialR (i := i) (v := (-1)) rfl (by decide) rfl (by omega) (by omega) e46 ?_
                refine to_n 4 (fr' := (122, [(0, .ref 49), (1, .int x1), (2, .int (nI S)), (3, .int 0), (4, .int (nI t)), (5, .int ((nI i) + 1))], [], gh S a b sc37 ar37 lo, ex, 0, 0)) rfl ?_
                rw [nI_1 i]
                refine to_n 1 (fr' := (44, [(0, .ref 49), (1, .int x1), (2, .int (nI S)), (3, .int 0), (4, .int (nI t)), (5, .int (nI (i + 1)))], [], gh S a b sc37 ar37 lo, ex, 0, 0)) rfl ?_
                exact ih t (i + 1) sc37 ar37 (by omega) hc44_0 hc44_1 (fun j w1 w2 => hc44_2 j (by omega) w2) (by omega) hI37 hF37
              · refine to_ialR (i := i) (v := (nI n46)) rfl (by decide) rfl (by omega) (by omega) e46 ?_
                refine to_n 1 (fr' := (93, [(0, .ref 49), (1, .int x1), (2, .int (nI S)), (3, .int 0), (4, .int (nI t)), (5, .int (nI i))], [.int (-1), .int (nI n46)], gh S a b sc37 ar37 lo, ex, 0, 0)) rfl ?_
                refine to_ic_ne_T (t := 99) (x := (nI n46)) (y := (-1)) rfl (nI_neg (by omega) (by decide)) ?_
                refine to_n 1 (fr' := (100, [(0, .ref 49), (1, .int x1), (2, .int (nI S)), (3, .int 0), (4, .int (nI t)), (5, .int (nI i))], [.ref 49], gh S a b sc37 ar37 lo, ex, 0, 0)) rfl ?_
                refine to_get rfl rfl rfl rfl ?_
                refine to_n 2 (fr' := (106, [(0, .ref 49), (1, .int x1), (2, .int (nI S)), (3, .int 0), (4, .int (nI t)), (5, .int (nI i))], [.int (-1), .int (nI i), .ref 80], gh S a b sc37 ar37 lo, ex, 0, 0)) rfl ?_
                refine to_iasR (i := i) (h' := gh S a b sc37 (uA ar37 80 (upd (ar37 80) i (-1))) lo) rfl rfl (by omega) (by omega) rfl ?_
                have hI47 := ia_80 (i := i) (v := (-1)) hI37 (rm_m)
                have hF47 := fr_a (c := 80) (g := (upd (ar37 80) i (-1))) hF37 (by decide)
                have hr47 : t < 128 := Qc.room hc44_0 (x := i) (by omega) (hc44_2 i (Nat.le_refl _) (by omega))
                refine to_n 1 (fr' := (108, [(0, .ref 49), (1, .int x1), (2, .int (nI S)), (3, .int 0), (4, .int (nI t)), (5, .int (nI i))], [.ref 49], gh S a b sc37 (uA ar37 80 (upd (ar37 80) i (-1))) lo, ex, 0, 0)) rfl ?_
                refine to_get rfl rfl rfl rfl ?_
                refine to_n 2 (fr' := (115, [(0, .ref 49), (1, .int x1), (2, .int (nI S)), (3, .int 0), (4, .int (nI t)), (5, .int (nI i))], [.int (nI i), .int (nI t), .ref 81], gh S a b sc37 (uA ar37 80 (upd (ar37 80) i (-1))) lo, ex, 0, 0)) rfl ?_
                refine to_iasR (i := t) (h' := gh S a b sc37 (uA (uA ar37 80 (upd (ar37 80) i (-1))) 81 (upd ((uA ar37 80 (upd (ar37 80) i (-1))) 81) t (nI i))) lo) rfl rfl (by omega) (by omega) rfl ?_
                have hI48 := ia_81 (i := t) (v := (nI i)) hI47 (rn_n (n := i) (by omega) (by omega))
                have hF48 := fr_a (c := 81) (g := (upd ((uA ar37 80 (upd (ar37 80) i (-1))) 81) t (nI i))) hF47 (by decide)
                have hQ48 := Qc.put (v := (-1)) hc44_0 (x := i) (by omega) (hc44_2 i (Nat.le_refl _) (by omega)) (by decide)
                have hO48 := Od.put (v := (-1)) hc44_1 (x := i) (by omega) (hc44_2 i (Nat.le_refl _) (by omega)) (by decide) (Or.inl rfl)
                refine to_n 1 (fr' := (119, [(0, .ref 49), (1, .int x1), (2, .int (nI S)), (3, .int 0), (4, .int ((nI t) + 1)), (5, .int (nI i))], [], gh S a b sc37 (uA (uA ar37 80 (upd (ar37 80) i (-1))) 81 (upd ((uA ar37 80 (upd (ar37 80) i (-1))) 81) t (nI i))) lo, ex, 0, 0)) rfl ?_
                rw [nI_1 t]
                refine to_n 1 (fr' := (122, [(0, .ref 49), (1, .int x1), (2, .int (nI S)), (3, .int 0), (4, .int (nI (t + 1))), (5, .int ((nI i) + 1))], [], gh S a b sc37 (uA (uA ar37 80 (upd (ar37 80) i (-1))) 81 (upd ((uA ar37 80 (upd (ar37 80) i (-1))) 81) t (nI i))) lo, ex, 0, 0)) rfl ?_
                rw [nI_1 i]
                refine to_n 1 (fr' := (44, [(0, .ref 49), (1, .int x1), (2, .int (nI S)), (3, .int 0), (4, .int (nI (t + 1))), (5, .int (nI (i + 1)))], [], gh S a b sc37 (uA (uA ar37 80 (upd (ar37 80) i (-1))) 81 (upd ((uA ar37 80 (upd (ar37 80) i (-1))) 81) t (nI i))) lo, ex, 0, 0)) rfl ?_
                exact ih (t + 1) (i + 1) sc37 (uA (uA ar37 80 (upd (ar37 80) i (-1))) 81 (upd ((uA ar37 80 (upd (ar37 80) i (-1))) 81) t (nI i))) (by omega) hQ48 hO48 (fun j w1 w2 => (up_ne (by omega)).trans (hc44_2 j (by omega) w2)) (by omega) hI48 hF48
  have c18 : ∀ m : Nat, ∀ (i : Nat) (sc49 : Nat → Int32) (ar49 : Nat → Nat → Int32), i + m = 128 → (∀ j, j < i → ar49 80 j = -2) → Iv S sc49 ar49 → Fr [] [79, 80, 81, 82, 83, 84] sc ar sc49 ar49 → ag_To X (d + 2) an_X10_oneMore (18, [(0, .ref 49), (1, .int x1), (2, .int (nI S)), (3, .int 0), (4, .int 0), (5, .int (nI i))], [], gh S a b sc49 ar49 lo, ex, 0, 0) (qi S a b lo ex (fun x sc' ar' => Iv S sc' ar' ∧ Fr [] [79, 80, 81, 82, 83, 84] sc ar sc' ar' ∧ rl x 2)) := by
    intro m
    induction m with
    | zero =>
      intro i sc49 ar49 hm hc18_0 hI49 hF49
      refine to_n 2 (fr' := (23, [(0, .ref 49), (1, .int x1), (2, .int (nI S)), (3, .int 0), (4, .int 0), (5, .int (nI i))], [.int 128, .int (nI i)], gh S a b sc49 ar49 lo, ex, 0, 0)) rfl ?_
      refine to_nc_ge_T (t := 41) (x := i) (y := 128) rfl (by omega) (by omega) (by omega) ?_
      refine to_n 2 (fr' := (44, [(0, .ref 49), (1, .int x1), (2, .int (nI S)), (3, .int 0), (4, .int 0), (5, .int 0)], [], gh S a b sc49 ar49 lo, ex, 0, 0)) rfl ?_
      exact c44 (S - 0) 0 0 sc49 ar49 (by omega) (Nat.zero_add _ ▸ cn2_le _ 128) Od.none (fun j w1 w2 => hc18_0 j (by omega)) (by omega) hI49 hF49
    | succ m ih =>
      intro i sc49 ar49 hm hc18_0 hI49 hF49
      refine to_n 2 (fr' := (23, [(0, .ref 49), (1, .int x1), (2, .int (nI S)), (3, .int 0), (4, .int 0), (5, .int (nI i))], [.int 128, .int (nI i)], gh S a b sc49 ar49 lo, ex, 0, 0)) rfl ?_
      refine to_nc_ge_F (t := 41) (x := i) (y := 128) rfl (by omega) (by omega) (by omega) ?_
      refine to_n 1 (fr' := (27, [(0, .ref 49), (1, .int x1), (2, .int (nI S)), (3, .int 0), (4, .int 0), (5, .int (nI i))], [.ref 49], gh S a b sc49 ar49 lo, ex, 0, 0)) rfl ?_
      refine to_get rfl rfl rfl rfl ?_
      refine to_n 2 (fr' := (34, [(0, .ref 49), (1, .int x1), (2, .int (nI S)), (3, .int 0), (4, .int 0), (5, .int (nI i))], [.int (-2), .int (nI i), .ref 80], gh S a b sc49 ar49 lo, ex, 0, 0)) rfl ?_
      refine to_iasR (i := i) (h' := gh S a b sc49 (uA ar49 80 (upd (ar49 80) i (-2))) lo) rfl rfl (by omega) (by omega) rfl ?_
      have hI50 := ia_80 (i := i) (v := (-2)) hI49 (rm_2)
      have hF50 := fr_a (c := 80) (g := (upd (ar49 80) i (-2))) hF49 (by decide)
      refine to_n 1 (fr' := (38, [(0, .ref 49), (1, .int x1), (2, .int (nI S)), (3, .int 0), (4, .int 0), (5, .int ((nI i) + 1))], [], gh S a b sc49 (uA ar49 80 (upd (ar49 80) i (-2))) lo, ex, 0, 0)) rfl ?_
      rw [nI_1 i]
      refine to_n 1 (fr' := (18, [(0, .ref 49), (1, .int x1), (2, .int (nI S)), (3, .int 0), (4, .int 0), (5, .int (nI (i + 1)))], [], gh S a b sc49 (uA ar49 80 (upd (ar49 80) i (-2))) lo, ex, 0, 0)) rfl ?_
      exact ih (i + 1) sc49 (uA ar49 80 (upd (ar49 80) i (-2))) (by omega) (fun j w => if e9 : j = i then (by subst e9; exact up_eq) else (up_ne e9).trans (hc18_0 j (by omega))) hI50 hF50
  refine to_n 1 (fr' := (1, [(0, .ref 49), (1, .int x1)], [.ref 49], gh S a b sc ar lo, ex, 0, 0)) rfl ?_
  refine to_get rfl rfl rfl rfl ?_
  refine to_n 1 (fr' := (5, [(0, .ref 49), (1, .int x1)], [.ref 49, .int (nI a)], gh S a b sc ar lo, ex, 0, 0)) rfl ?_
  refine to_get rfl rfl rfl rfl ?_
  refine to_mulN (x := a) (y := b) rfl ?_
  rw [hab]
  refine to_n 7 (fr' := (18, [(0, .ref 49), (1, .int x1), (2, .int (nI S)), (3, .int 0), (4, .int 0), (5, .int 0)], [], gh S a b sc ar lo, ex, 0, 0)) rfl ?_
  exact c18 (128 - 0) 0 sc ar (by omega) (fun j w => absurd w (Nat.not_lt_zero _)) hI hF
set_option maxRecDepth 20000 in
theorem sf_X10_least {X : Nat × (Nat → Int32)} {S a b : Nat} {sc : Nat → Int32} {ar : Nat → Nat → Int32} {lo : Nat → Int64} {ex : Bool} (hW : Wd S a b) (hI : Iv S sc ar) (x1 : Int32) (d : Nat)  : ci X S a b (d + 4) 164 [.ref 49, .int x1] sc ar lo ex (fun x sc' ar' => Iv S sc' ar' ∧ Fr [] [79, 80, 81, 82, 83, 84] sc ar sc' ar' ∧ rl x 6) := by
  obtain ⟨ha1, ha8, hb1, hb8, hab, hS1, hS⟩ := id hW
  refine ci_of (M := an_X10_least) rfl (Nat.le_of_ble_eq_true rfl) ?_
  have hF : Fr [] [79, 80, 81, 82, 83, 84] sc ar sc ar := fr_0
  refine to_eq (fr' := (0, [(0, .ref 49), (1, .int x1)], [], gh S a b sc ar lo, ex, 0, 0)) rfl ?_
  have c37 : ∀ m : Nat, ∀ (i : Nat) (sc1 : Nat → Int32) (ar1 : Nat → Nat → Int32), i + m = 5 → Iv S sc1 ar1 → Fr [] [79, 80, 81, 82, 83, 84] sc ar sc1 ar1 → ag_To X (d + 3) an_X10_least (37, [(0, .ref 49), (1, .int x1), (2, .int (nI i))], [], gh S a b sc1 ar1 lo, ex, 0, 0) (qi S a b lo ex (fun x sc' ar' => Iv S sc' ar' ∧ Fr [] [79, 80, 81, 82, 83, 84] sc ar sc' ar' ∧ rl x 6)) := by
    intro m
    induction m with
    | zero =>
      intro i sc1 ar1 hm hI1 hF1
      refine to_n 2 (fr' := (39, [(0, .ref 49), (1, .int x1), (2, .int (nI i))], [.int 5, .int (nI i)], gh S a b sc1 ar1 lo, ex, 0, 0)) rfl ?_
      refine to_nc_ge_T (t := 56) (x := i) (y := 5) rfl (by omega) (by omega) (by omega) ?_
      refine to_n 1 (fr' := (57, [(0, .ref 49), (1, .int x1), (2, .int (nI i))], [.int (nI i)], gh S a b sc1 ar1 lo, ex, 0, 0)) rfl ?_
      exact to_rt (i := .ireturn) (tg := []) rfl rfl ⟨_, _, _, ⟨hI1, hF1, rl_n (n := i) (by omega)⟩, rfl⟩
    | succ m ih =>
      intro i sc1 ar1 hm hI1 hF1
      refine to_n 2 (fr' := (39, [(0, .ref 49), (1, .int x1), (2, .int (nI i))], [.int 5, .int (nI i)], gh S a b sc1 ar1 lo, ex, 0, 0)) rfl ?_
      refine to_nc_ge_F (t := 56) (x := i) (y := 5) rfl (by omega) (by omega) (by omega) ?_
      refine to_n 2 (fr' := (44, [(0, .ref 49), (1, .int x1), (2, .int (nI i))], [.int x1, .ref 49], gh S a b sc1 ar1 lo, ex, 0, 0)) rfl ?_
      refine to_ci (q := 162) (M1 := an_X10_oneMore) (rest := []) rfl rfl (by decide) rfl ⟨_, rfl⟩ (sf_X10_oneMore hW hI1 x1 d) (fun x2 sc2 ar2 hx2 => ?_)
      obtain ⟨hI2, hG2, hx2⟩ := hx2
      have hF2 := fr_t hF1 hG2 (by decide) (by decide)
      obtain ⟨n2, hn2, rfl⟩ := hx2
      refine to_eq (fr' := (47, [(0, .ref 49), (1, .int x1), (2, .int (nI i))], [.int (nI n2)], gh S a b sc2 ar2 lo, ex, 0, 0)) rfl ?_
      refine to_nf_eq (t := 56) (x := n2) rfl (by omega) (fun q3 => ?_) (fun q3 => ?_)
      · refine to_n 1 (fr' := (57, [(0, .ref 49), (1, .int x1), (2, .int (nI i))], [.int (nI i)], gh S a b sc2 ar2 lo, ex, 0, 0)) rfl ?_
        exact to_rt (i := .ireturn) (tg := []) rfl rfl ⟨_, _, _, ⟨hI2, hF2, rl_n (n := i) (by omega)⟩, rfl⟩
      · refine to_n 1 (fr' := (53, [(0, .ref 49), (1, .int x1), (2, .int ((nI i) + 1))], [], gh S a b sc2 ar2 lo, ex, 0, 0)) rfl ?_
        rw [nI_1 i]
        refine to_n 1 (fr' := (37, [(0, .ref 49), (1, .int x1), (2, .int (nI (i + 1)))], [], gh S a b sc2 ar2 lo, ex, 0, 0)) rfl ?_
        exact ih (i + 1) sc2 ar2 (by omega) hI2 hF2
  have c2 : ∀ m : Nat, ∀ (i : Nat) (sc4 : Nat → Int32) (ar4 : Nat → Nat → Int32), i + m = 64 → Iv S sc4 ar4 → Fr [] [79, 80, 81, 82, 83, 84] sc ar sc4 ar4 → ag_To X (d + 3) an_X10_least (2, [(0, .ref 49), (1, .int x1), (2, .int (nI i))], [], gh S a b sc4 ar4 lo, ex, 0, 0) (qi S a b lo ex (fun x sc' ar' => Iv S sc' ar' ∧ Fr [] [79, 80, 81, 82, 83, 84] sc ar sc' ar' ∧ rl x 6)) := by
    intro m
    induction m with
    | zero =>
      intro i sc4 ar4 hm hI4 hF4
      refine to_n 2 (fr' := (5, [(0, .ref 49), (1, .int x1), (2, .int (nI i))], [.int 64, .int (nI i)], gh S a b sc4 ar4 lo, ex, 0, 0)) rfl ?_
      refine to_nc_ge_T (t := 35) (x := i) (y := 64) rfl (by omega) (by omega) (by omega) ?_
      refine to_n 2 (fr' := (37, [(0, .ref 49), (1, .int x1), (2, .int 0)], [], gh S a b sc4 ar4 lo, ex, 0, 0)) rfl ?_
      exact c37 (5 - 0) 0 sc4 ar4 (by omega) hI4 hF4
    | succ m ih =>
      intro i sc4 ar4 hm hI4 hF4
      refine to_n 2 (fr' := (5, [(0, .ref 49), (1, .int x1), (2, .int (nI i))], [.int 64, .int (nI i)], gh S a b sc4 ar4 lo, ex, 0, 0)) rfl ?_
      refine to_nc_ge_F (t := 35) (x := i) (y := 64) rfl (by omega) (by omega) (by omega) ?_
      refine to_n 1 (fr' := (9, [(0, .ref 49), (1, .int x1), (2, .int (nI i))], [.ref 49], gh S a b sc4 ar4 lo, ex, 0, 0)) rfl ?_
      refine to_get rfl rfl rfl rfl ?_
      refine to_n 2 (fr' := (14, [(0, .ref 49), (1, .int x1), (2, .int (nI i))], [.int 0, .int (nI i), .ref 79], gh S a b sc4 ar4 lo, ex, 0, 0)) rfl ?_
      refine to_iasR (i := i) (h' := gh S a b sc4 (uA ar4 79 (upd (ar4 79) i 0)) lo) rfl rfl (by omega) (by omega) rfl ?_
      have hI5 := ia_79 (g := (upd (ar4 79) i 0)) hI4
      have hF5 := fr_a (c := 79) (g := (upd (ar4 79) i 0)) hF4 (by decide)
      refine to_n 1 (fr' := (16, [(0, .ref 49), (1, .int x1), (2, .int (nI i))], [.ref 49], gh S a b sc4 (uA ar4 79 (upd (ar4 79) i 0)) lo, ex, 0, 0)) rfl ?_
      refine to_get rfl rfl rfl rfl ?_
      refine to_n 2 (fr' := (21, [(0, .ref 49), (1, .int x1), (2, .int (nI i))], [.int (-1), .int (nI i), .ref 82], gh S a b sc4 (uA ar4 79 (upd (ar4 79) i 0)) lo, ex, 0, 0)) rfl ?_
      refine to_iasR (i := i) (h' := gh S a b sc4 (uA (uA ar4 79 (upd (ar4 79) i 0)) 82 (upd ((uA ar4 79 (upd (ar4 79) i 0)) 82) i (-1))) lo) rfl rfl (by omega) (by omega) rfl ?_
      have hI6 := ia_82 (g := (upd ((uA ar4 79 (upd (ar4 79) i 0)) 82) i (-1))) hI5
      have hF6 := fr_a (c := 82) (g := (upd ((uA ar4 79 (upd (ar4 79) i 0)) 82) i (-1))) hF5 (by decide)
      refine to_n 1 (fr' := (23, [(0, .ref 49), (1, .int x1), (2, .int (nI i))], [.ref 49], gh S a b sc4 (uA (uA ar4 79 (upd (ar4 79) i 0)) 82 (upd ((uA ar4 79 (upd (ar4 79) i 0)) 82) i (-1))) lo, ex, 0, 0)) rfl ?_
      refine to_get rfl rfl rfl rfl ?_
      refine to_n 2 (fr' := (28, [(0, .ref 49), (1, .int x1), (2, .int (nI i))], [.int (-1), .int (nI i), .ref 83], gh S a b sc4 (uA (uA ar4 79 (upd (ar4 79) i 0)) 82 (upd ((uA ar4 79 (upd (ar4 79) i 0)) 82) i (-1))) lo, ex, 0, 0)) rfl ?_
      refine to_iasR (i := i) (h' := gh S a b sc4 (uA (uA (uA ar4 79 (upd (ar4 79) i 0)) 82 (upd ((uA ar4 79 (upd (ar4 79) i 0)) 82) i (-1))) 83 (upd ((uA (uA ar4 79 (upd (ar4 79) i 0)) 82 (upd ((uA ar4 79 (upd (ar4 79) i 0)) 82) i (-1))) 83) i (-1))) lo) rfl rfl (by omega) (by omega) rfl ?_
      have hI7 := ia_83 (i := i) (v := (-1)) hI6 (rq_m)
      have hF7 := fr_a (c := 83) (g := (upd ((uA (uA ar4 79 (upd (ar4 79) i 0)) 82 (upd ((uA ar4 79 (upd (ar4 79) i 0)) 82) i (-1))) 83) i (-1))) hF6 (by decide)
      refine to_n 1 (fr' := (32, [(0, .ref 49), (1, .int x1), (2, .int ((nI i) + 1))], [], gh S a b sc4 (uA (uA (uA ar4 79 (upd (ar4 79) i 0)) 82 (upd ((uA ar4 79 (upd (ar4 79) i 0)) 82) i (-1))) 83 (upd ((uA (uA ar4 79 (upd (ar4 79) i 0)) 82 (upd ((uA ar4 79 (upd (ar4 79) i 0)) 82) i (-1))) 83) i (-1))) lo, ex, 0, 0)) rfl ?_
      rw [nI_1 i]
      refine to_n 1 (fr' := (2, [(0, .ref 49), (1, .int x1), (2, .int (nI (i + 1)))], [], gh S a b sc4 (uA (uA (uA ar4 79 (upd (ar4 79) i 0)) 82 (upd ((uA ar4 79 (upd (ar4 79) i 0)) 82) i (-1))) 83 (upd ((uA (uA ar4 79 (upd (ar4 79) i 0)) 82 (upd ((uA ar4 79 (upd (ar4 79) i 0)) 82) i (-1))) 83) i (-1))) lo, ex, 0, 0)) rfl ?_
      exact ih (i + 1) sc4 (uA (uA (uA ar4 79 (upd (ar4 79) i 0)) 82 (upd ((uA ar4 79 (upd (ar4 79) i 0)) 82) i (-1))) 83 (upd ((uA (uA ar4 79 (upd (ar4 79) i 0)) 82 (upd ((uA ar4 79 (upd (ar4 79) i 0)) 82) i (-1))) 83) i (-1))) (by omega) hI7 hF7
  refine to_n 2 (fr' := (2, [(0, .ref 49), (1, .int x1), (2, .int 0)], [], gh S a b sc ar lo, ex, 0, 0)) rfl ?_
  exact c2 (64 - 0) 0 sc ar (by omega) hI hF
