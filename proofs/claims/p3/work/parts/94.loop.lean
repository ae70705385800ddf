/-! BOTH SIDES: the same cells are bare, and the same have wells -/
def Rw (S : Nat) (sc : Nat → Int32) (ar : Nat → Nat → Int32) : Prop := Go sc ar ∧ ∀ n : Nat, n < S → ((ar 5 n = -1 ↔ ar 51 n = -1) ∧ ar 12 n = ar 58 n)
section BOTH
variable {S : Nat} {sc sc1 sc2 : Nat → Int32} {ar ar1 ar2 : Nat → Nat → Int32} {L A L1 A1 L2 A2 : List Nat}
theorem rw_k (R : Rw S sc ar) (h : Kg sc ar sc1 ar1) (f : Fr L A sc ar sc1 ar1) (hA : 12 ∉ A ∧ 58 ∉ A) : Rw S sc1 ar1 := ⟨h.1, fun n hn => ⟨(h.2.1 n).trans ((R.2 n hn).1.trans (h.2.2 n).symm), by rw [f.2 12 hA.1, f.2 58 hA.2]; exact (R.2 n hn).2⟩⟩
theorem rw_f (R : Rw S sc ar) (f : Fr L A sc ar sc1 ar1) (hL : 1308 ∉ L ∧ 4906 ∉ L) (hA : 5 ∉ A ∧ 17 ∉ A ∧ 51 ∉ A ∧ 62 ∉ A ∧ 76 ∉ A) (hB : 12 ∉ A ∧ 58 ∉ A) : Rw S sc1 ar1 := rw_k R (kg_f (kg_0 R.1) f hL hA) f hB
theorem rw_mk (R : Rw S sc ar) (s1 : sc2 1308 = sc 1308) (s2 : sc2 4906 = sc 4906) (e17 : ar2 17 = ar 17) (e62 : ar2 62 = ar 62) (e76 : ar2 76 = ar 76) (m5 : ∀ t, ar2 5 t = -1 → ar 5 t = -1) (m51 : ∀ t, ar2 51 t = -1 → ar 51 t = -1) (mr : ∀ t, t < S → (ar2 5 t = -1 ↔ ar2 51 t = -1)) (mw : ∀ t, t < S → ar2 12 t = ar2 58 t) : Rw S sc2 ar2 := by
  obtain ⟨⟨g1, g2, g3⟩, _⟩ := R
  refine ⟨⟨fun j s n hs hn e hj w u => ?_, fun j s n hs hn e hj w u => ?_, fun n w u => ?_⟩, fun n hn => ⟨mr n hn, mw n hn⟩⟩
  · rw [e17] at w
    exact g1 j s n hs hn (s1.symm.trans e) hj w (m5 n u)
  · rw [e62] at w
    exact g2 j s n hs hn (s2.symm.trans e) hj w (m51 n u)
  · rw [e76] at w
    exact g3 n w (m51 n u)
theorem rw_2 (R : Rw S sc ar) (f1 : Fr L1 A1 sc ar sc1 ar1) (f2 : Fr L2 A2 sc1 ar1 sc2 ar2) (d1 : (1308 ∉ L1 ∧ 4906 ∉ L1) ∧ 17 ∉ A1 ∧ 62 ∉ A1 ∧ 76 ∉ A1) (d2 : (1308 ∉ L2 ∧ 4906 ∉ L2) ∧ 17 ∉ A2 ∧ 62 ∉ A2 ∧ 76 ∉ A2) (m5 : ∀ t, ar2 5 t = -1 → ar 5 t = -1) (m51 : ∀ t, ar2 51 t = -1 → ar 51 t = -1) (mr : ∀ t, t < S → (ar2 5 t = -1 ↔ ar2 51 t = -1)) (mw : ∀ t, t < S → ar2 12 t = ar2 58 t) : Rw S sc2 ar2 :=
  rw_mk R ((f2.1 1308 d2.1.1).trans (f1.1 1308 d1.1.1)) ((f2.1 4906 d2.1.2).trans (f1.1 4906 d1.1.2)) ((f2.2 17 d2.2.1).trans (f1.2 17 d1.2.1)) ((f2.2 62 d2.2.2.1).trans (f1.2 62 d1.2.2.1)) ((f2.2 76 d2.2.2.2).trans (f1.2 76 d1.2.2.2)) m5 m51 mr mw
theorem rw_house {x x1 x2 x3 : Int32} (hS : S < 2 ^ 31) (R : Rw S sc ar) (h : (x = 0 ∧ ∃ n : Nat, n < S ∧ x1 = nI n ∧ Hd 5 12 n x2 x3 ar ar1) ∨ (x = 1 ∧ ¬ (0 ≤ x1 ∧ x1 < nI S) ∧ ar1 5 = ar 5)) (f1 : Fr L1 A1 sc ar sc1 ar1) (g : (∃ n : Nat, n < S ∧ x1 = nI n ∧ Hd 51 58 n x2 x3 ar1 ar2) ∨ (¬ (0 ≤ x1 ∧ x1 < nI S) ∧ ar2 51 = ar1 51)) (f2 : Fr L2 A2 sc1 ar1 sc2 ar2) (d1 : (1308 ∉ L1 ∧ 4906 ∉ L1) ∧ 17 ∉ A1 ∧ 62 ∉ A1 ∧ 76 ∉ A1) (d2 : (1308 ∉ L2 ∧ 4906 ∉ L2) ∧ 17 ∉ A2 ∧ 62 ∉ A2 ∧ 76 ∉ A2) (b1 : 51 ∉ A1 ∧ 12 ∉ A1 ∧ 58 ∉ A1) (b2 : 5 ∉ A2 ∧ 12 ∉ A2 ∧ 58 ∉ A2) : Rw S sc2 ar2 := by
  have mw : ∀ t, t < S → ar2 12 t = ar2 58 t := fun t ht => by
    rw [f2.2 12 b2.2.1, f1.2 12 b1.2.1, f2.2 58 b2.2.2, f1.2 58 b1.2.2]
    exact (R.2 t ht).2
  rcases h with ⟨_, n, hn, en, hd⟩ | ⟨_, hr, u5⟩
  · rcases g with ⟨m, hm, em, gd⟩ | ⟨gr, _⟩
    · obtain rfl : n = m := (nI_eq (by omega) (by omega)).mp (en.symm.trans em)
      have b5 : ∀ t, ar2 5 t = -1 ↔ (ar 5 t = -1 ∧ ¬ (t = n ∧ ar 12 t = 0 ∧ hv_W x2 x3)) := fun t => by
        rw [f2.2 5 b2.1]
        exact hd t
      have b51 : ∀ t, ar2 51 t = -1 ↔ (ar 51 t = -1 ∧ ¬ (t = n ∧ ar 58 t = 0 ∧ hv_W x2 x3)) := fun t => by
        have u := gd t
        rw [f1.2 51 b1.1, f1.2 58 b1.2.2] at u
        exact u
      exact rw_2 R f1 f2 d1 d2 (fun t u => ((b5 t).mp u).1) (fun t u => ((b51 t).mp u).1) (fun t ht => by rw [b5, b51, (R.2 t ht).1, (R.2 t ht).2]) mw
    · exact absurd (by rw [en]; exact has_in hn hS) gr
  · rcases g with ⟨m, hm, em, gd⟩ | ⟨gr, u51⟩
    · exact absurd (by rw [em]; exact has_in hm hS) hr
    · have e5 : ar2 5 = ar 5 := (f2.2 5 b2.1).trans u5
      have e51 : ar2 51 = ar 51 := u51.trans (f1.2 51 b1.1)
      exact rw_2 R f1 f2 d1 d2 (fun t u => by rw [e5] at u; exact u) (fun t u => by rw [e51] at u; exact u) (fun t ht => by rw [e5, e51]; exact (R.2 t ht).1) mw
theorem rw_same (R : Rw S sc ar) (f1 : Fr L1 A1 sc ar sc1 ar1) (f2 : Fr L2 A2 sc1 ar1 sc2 ar2) (d1 : (1308 ∉ L1 ∧ 4906 ∉ L1) ∧ 17 ∉ A1 ∧ 62 ∉ A1 ∧ 76 ∉ A1) (d2 : (1308 ∉ L2 ∧ 4906 ∉ L2) ∧ 17 ∉ A2 ∧ 62 ∉ A2 ∧ 76 ∉ A2) (b1 : 5 ∉ A1 ∧ 51 ∉ A1) (b2 : 5 ∉ A2 ∧ 51 ∉ A2) (mw : ∀ t, t < S → ar2 12 t = ar2 58 t) : Rw S sc2 ar2 := by
  have e5 : ar2 5 = ar 5 := (f2.2 5 b2.1).trans (f1.2 5 b1.1)
  have e51 : ar2 51 = ar 51 := (f2.2 51 b2.2).trans (f1.2 51 b1.2)
  exact rw_2 R f1 f2 d1 d2 (fun t u => by rw [e5] at u; exact u) (fun t u => by rw [e51] at u; exact u) (fun t ht => by rw [e5, e51]; exact (R.2 t ht).1) mw
theorem we_eq {k : Nat} {v x y : Int32} (R : Rw S sc ar) (hk : k < S) (h : We 5 12 k v x ar ar1) (g : We 51 58 k v y ar1 ar2) (e51 : ar1 51 = ar 51) (e58 : ar1 58 = ar 58) (e12 : ar2 12 = ar1 12) : y = x ∧ ∀ t, t < S → ar2 12 t = ar2 58 t := by
  have c : (ar1 51 k = -1 ∧ ¬ ar1 58 k = v) ↔ (ar 5 k = -1 ∧ ¬ ar 12 k = v) := by
    rw [e51, e58, (R.2 k hk).1, (R.2 k hk).2]
  rcases h with ⟨p, hx, hm⟩ | ⟨p, hx, hm⟩
  · rcases g with ⟨p', hy, hm'⟩ | ⟨p', hy, hm'⟩
    · refine ⟨hy.trans hx.symm, fun t ht => ?_⟩
      rw [e12, hm t, hm' t, e58]
      by_cases u : t = k
      · subst u
        rw [ug_eq, ug_eq]
      · rw [ug_ne u, ug_ne u]
        exact (R.2 t ht).2
    · exact absurd (c.mpr p) p'
  · rcases g with ⟨p', hy, hm'⟩ | ⟨p', hy, hm'⟩
    · exact absurd (c.mp p') p
    · refine ⟨hy.trans hx.symm, fun t ht => ?_⟩
      rw [e12, hm t, hm' t, e58]
      exact (R.2 t ht).2
end BOTH
/-! the law, call after call -/
theorem lg_self (x : Int64) : lg_cmp x x = 0 := by
  unfold lg_cmp
  rw [if_neg (Int64.lt_irrefl), if_pos rfl]
set_option maxRecDepth 20000 in
theorem lw_loop {X : Nat × (Nat → Int32)} {S a b B BS : Nat} (hW : Wd S a b) (hX : X.1 ≤ 3074) (d : Nat) : ∀ (m i : Nat) (sc : Nat → Int32) (ar : Nat → Nat → Int32) (lo : Nat → Int64) (ex : Bool) (nc ns : Nat), X.1 ≤ i + 6 * m → i ≤ 4000 → Iv S sc ar → Lw sc ar → Rw S sc ar → nc + m ≤ B → ns + 6 * m ≤ BS → ag_To X (d + 36) an_law (43, [(0, .ref 1000000), (1, .ref 0), (2, .ref 49), (3, .ref 85), (4, .int (nI i))], [], gh S a b sc ar lo, ex, nc, ns) (fun o => ∃ h9 ex9 nc9 ns9, nc9 ≤ B ∧ ns9 ≤ BS ∧ o = .inl (some (.int 1), h9, ex9, nc9, ns9)) := by
  obtain ⟨ha1, ha8, hb1, hb8, hab, hS1, hS⟩ := id hW
  intro m
  induction m with
  | zero =>
    intro i sc ar lo ex nc ns hm hi hI hLw hR hB hBS
    refine to_n 2 (fr' := (46, [(0, .ref 1000000), (1, .ref 0), (2, .ref 49), (3, .ref 85), (4, .int (nI i))], [.ref 1000000, .int (nI i)], gh S a b sc ar lo, ex, nc, ns)) rfl ?_
    refine to_lenx rfl ?_
    refine to_n 1 (fr' := (49, [(0, .ref 1000000), (1, .ref 0), (2, .ref 49), (3, .ref 85), (4, .int (nI i))], [.int 6, .int (nI X.1), .int (nI i)], gh S a b sc ar lo, ex, nc, ns)) rfl ?_
    rcases Nat.lt_or_ge X.1 6 with w | w
    · refine to_n 1 (fr' := (50, [(0, .ref 1000000), (1, .ref 0), (2, .ref 49), (3, .ref 85), (4, .int (nI i))], [.int ((nI X.1) - (nI 6)), .int (nI i)], gh S a b sc ar lo, ex, nc, ns)) rfl ?_
      refine to_ic_gt_T (t := 795) rfl (neg_lt (by omega) (sub_neg w (by omega))) ?_
      refine to_n 1 (fr' := (796, [(0, .ref 1000000), (1, .ref 0), (2, .ref 49), (3, .ref 85), (4, .int (nI i))], [.int 1], gh S a b sc ar lo, ex, nc, ns)) rfl ?_
      exact to_rt (i := .ireturn) (tg := []) rfl rfl ⟨_, _, _, _, by omega, by omega, rfl⟩
    · refine to_subN (x := X.1) (y := 6) rfl (by omega) ?_
      refine to_nc_gt_T (t := 795) (x := i) (y := X.1 - 6) rfl (by omega) (by omega) (by omega) ?_
      refine to_n 1 (fr' := (796, [(0, .ref 1000000), (1, .ref 0), (2, .ref 49), (3, .ref 85), (4, .int (nI i))], [.int 1], gh S a b sc ar lo, ex, nc, ns)) rfl ?_
      exact to_rt (i := .ireturn) (tg := []) rfl rfl ⟨_, _, _, _, by omega, by omega, rfl⟩
  | succ m ih =>
    intro i sc ar lo ex nc ns hm hi hI hLw hR hB hBS
    refine to_n 2 (fr' := (46, [(0, .ref 1000000), (1, .ref 0), (2, .ref 49), (3, .ref 85), (4, .int (nI i))], [.ref 1000000, .int (nI i)], gh S a b sc ar lo, ex, nc, ns)) rfl ?_
    refine to_lenx rfl ?_
    refine to_n 1 (fr' := (49, [(0, .ref 1000000), (1, .ref 0), (2, .ref 49), (3, .ref 85), (4, .int (nI i))], [.int 6, .int (nI X.1), .int (nI i)], gh S a b sc ar lo, ex, nc, ns)) rfl ?_
    rcases Nat.lt_or_ge X.1 6 with w | w
    · refine to_n 1 (fr' := (50, [(0, .ref 1000000), (1, .ref 0), (2, .ref 49), (3, .ref 85), (4, .int (nI i))], [.int ((nI X.1) - (nI 6)), .int (nI i)], gh S a b sc ar lo, ex, nc, ns)) rfl ?_
      refine to_ic_gt_T (t := 795) rfl (neg_lt (by omega) (sub_neg w (by omega))) ?_
      refine to_n 1 (fr' := (796, [(0, .ref 1000000), (1, .ref 0), (2, .ref 49), (3, .ref 85), (4, .int (nI i))], [.int 1], gh S a b sc ar lo, ex, nc, ns)) rfl ?_
      exact to_rt (i := .ireturn) (tg := []) rfl rfl ⟨_, _, _, _, by omega, by omega, rfl⟩
    · refine to_subN (x := X.1) (y := 6) rfl (by omega) ?_
      refine to_nc_gt (t := 795) (x := i) (y := X.1 - 6) rfl (by omega) (by omega) (fun q => ?_) (fun q => ?_)
      · refine to_n 1 (fr' := (796, [(0, .ref 1000000), (1, .ref 0), (2, .ref 49), (3, .ref 85), (4, .int (nI i))], [.int 1], gh S a b sc ar lo, ex, nc, ns)) rfl ?_
        exact to_rt (i := .ireturn) (tg := []) rfl rfl ⟨_, _, _, _, by omega, by omega, rfl⟩
      · refine to_n 2 (fr' := (56, [(0, .ref 1000000), (1, .ref 0), (2, .ref 49), (3, .ref 85), (4, .int (nI i))], [.int (nI i), .ref 1000000], gh S a b sc ar lo, ex, nc, ns)) rfl ?_
        refine to_ldx (i := i) rfl (by omega) (by omega) ?_
        refine to_n 2 (fr' := (60, [(0, .ref 1000000), (1, .ref 0), (2, .ref 49), (3, .ref 85), (4, .int (nI i))], [.int ((X.2 i) &&& 15)], gh S a b sc ar lo, ex, nc, ns)) rfl ?_
        refine to_tb (x := ((X.2 i) &&& 15)) rfl rfl (by decide) (fun t ht => ?_)
        obtain rfl | rfl | rfl | rfl | rfl | rfl | rfl | rfl | rfl | rfl | rfl | rfl | rfl | rfl | rfl | rfl | rfl : t = 140 ∨ t = 192 ∨ t = 283 ∨ t = 311 ∨ t = 363 ∨ t = 436 ∨ t = 476 ∨ t = 489 ∨ t = 517 ∨ t = 557 ∨ t = 597 ∨ t = 625 ∨ t = 665 ∨ t = 705 ∨ t = 733 ∨ t = 761 ∨ t = 789 := by simpa using to_mem (l := [140, 192, 283, 311, 363, 436, 476, 489, 517, 557, 597, 625, 665, 705, 733, 761, 789]) ht (by decide)
        · refine to_eq (fr' := (140, [(0, .ref 1000000), (1, .ref 0), (2, .ref 49), (3, .ref 85), (4, .int (nI i))], [], gh S a b sc ar lo, ex, nc, ns)) rfl ?_
          refine to_n 4 (fr' := (145, [(0, .ref 1000000), (1, .ref 0), (2, .ref 49), (3, .ref 85), (4, .int (nI i))], [.int 1, .int (nI i), .ref 1000000, .ref 0], gh S a b sc ar lo, ex, nc, ns)) rfl ?_
          refine to_addN (x := i) (y := 1) rfl ?_
          refine to_ldx (i := (i + 1)) rfl (by omega) (by omega) ?_
          refine to_n 3 (fr' := (151, [(0, .ref 1000000), (1, .ref 0), (2, .ref 49), (3, .ref 85), (4, .int (nI i))], [.int 2, .int (nI i), .ref 1000000, .int (X.2 (i + 1)), .ref 0], gh S a b sc ar lo, ex, nc, ns)) rfl ?_
          refine to_addN (x := i) (y := 2) rfl ?_
          refine to_ldx (i := (i + 2)) rfl (by omega) (by omega) ?_
          refine to_n 3 (fr' := (157, [(0, .ref 1000000), (1, .ref 0), (2, .ref 49), (3, .ref 85), (4, .int (nI i))], [.int 3, .int (nI i), .ref 1000000, .int (X.2 (i + 2)), .int (X.2 (i + 1)), .ref 0], gh S a b sc ar lo, ex, nc, ns)) rfl ?_
          refine to_addN (x := i) (y := 3) rfl ?_
          refine to_ldx (i := (i + 3)) rfl (by omega) (by omega) ?_
          refine to_n 1 (fr' := (160, [(0, .ref 1000000), (1, .ref 0), (2, .ref 49), (3, .ref 85), (4, .int (nI i))], [.ref 85, .int (X.2 (i + 3)), .int (X.2 (i + 2)), .int (X.2 (i + 1)), .ref 0], gh S a b sc ar lo, ex, nc, ns)) rfl ?_
          refine to_cl (q := 170) (M1 := an_L_house) (rest := []) rfl rfl (by decide) rfl trivial (lc_house hW hI (X.2 (i + 1)) (X.2 (i + 2)) (X.2 (i + 3)) (d + 32)) (fun x1 sc1 ar1 lo1 ex1 nn1 ss1 hx1 hn1 hs1 => ?_)
          obtain ⟨hI1, hG1, hx1⟩ := hx1
          have hL1 : Lw sc1 ar1 := lw_fr hLw hG1 (by decide) (by decide) (by decide) (by decide)
          refine to_eq (fr' := (163, [(0, .ref 1000000), (1, .ref 0), (2, .ref 49), (3, .ref 85), (4, .int (nI i))], [.int x1], gh S a b sc1 ar1 lo1, ex1, (nc + nn1), (ns + ss1))) rfl ?_
          refine to_n 5 (fr' := (170, [(0, .ref 1000000), (1, .ref 0), (2, .ref 49), (3, .ref 85), (4, .int (nI i)), (5, .int x1)], [.int 1, .int (nI i), .ref 1000000, .ref 49], gh S a b sc1 ar1 lo1, ex1, (nc + nn1), (ns + ss1))) rfl ?_
          refine to_addN (x := i) (y := 1) rfl ?_
          refine to_ldx (i := (i + 1)) rfl (by omega) (by omega) ?_
          refine to_n 3 (fr' := (176, [(0, .ref 1000000), (1, .ref 0), (2, .ref 49), (3, .ref 85), (4, .int (nI i)), (5, .int x1)], [.int 2, .int (nI i), .ref 1000000, .int (X.2 (i + 1)), .ref 49], gh S a b sc1 ar1 lo1, ex1, (nc + nn1), (ns + ss1))) rfl ?_
          refine to_addN (x := i) (y := 2) rfl ?_
          refine to_ldx (i := (i + 2)) rfl (by omega) (by omega) ?_
          refine to_n 3 (fr' := (182, [(0, .ref 1000000), (1, .ref 0), (2, .ref 49), (3, .ref 85), (4, .int (nI i)), (5, .int x1)], [.int 3, .int (nI i), .ref 1000000, .int (X.2 (i + 2)), .int (X.2 (i + 1)), .ref 49], gh S a b sc1 ar1 lo1, ex1, (nc + nn1), (ns + ss1))) rfl ?_
          refine to_addN (x := i) (y := 3) rfl ?_
          refine to_ldx (i := (i + 3)) rfl (by omega) (by omega) ?_
          refine to_ci (q := 114) (M1 := an_X10_house) (rest := []) rfl rfl (by decide) rfl ⟨_, rfl⟩ (sf_X10_house hW hI1 (X.2 (i + 1)) (X.2 (i + 2)) (X.2 (i + 3)) (d + 34)) (fun x2 sc2 ar2 hx2 => ?_)
          obtain ⟨hI2, hG2, hx2⟩ := hx2
          have hL2 : Lw sc2 ar2 := lw_fr hL1 hG2 (by decide) (by decide) (by decide) (by decide)
          have hR2 : Rw S sc2 ar2 := rw_house (by omega) hR hx1 hG1 hx2.2 hG2 (by decide) (by decide) (by decide) (by decide)
          clear hx1 hx2
          refine to_eq (fr' := (187, [(0, .ref 1000000), (1, .ref 0), (2, .ref 49), (3, .ref 85), (4, .int (nI i)), (5, .int x1)], [.int x2], gh S a b sc2 ar2 lo1, ex1, (nc + nn1), (ns + ss1))) rfl ?_
          refine to_n 3 (fr' := (792, [(0, .ref 1000000), (1, .ref 0), (2, .ref 49), (3, .ref 85), (4, .int ((nI i) + 6)), (5, .int x1), (6, .int x2)], [], gh S a b sc2 ar2 lo1, ex1, (nc + nn1), (ns + ss1))) rfl ?_
          rw [show ((nI i) + 6 : Int32) = nI (i + 6) from nI_add _ 6]
          refine to_n 1 (fr' := (43, [(0, .ref 1000000), (1, .ref 0), (2, .ref 49), (3, .ref 85), (4, .int (nI (i + 6))), (5, .int x1), (6, .int x2)], [], gh S a b sc2 ar2 lo1, ex1, (nc + nn1), (ns + ss1))) rfl ?_
          refine to_lv (lv := [(0, .ref 1000000), (1, .ref 0), (2, .ref 49), (3, .ref 85), (4, .int (nI (i + 6)))]) rfl ⟨rfl, rfl, rfl, rfl, rfl, trivial⟩ ?_
          exact ih (i + 6) sc2 ar2 lo1 ex1 (nc + nn1) (ns + ss1) (by omega) (by omega) hI2 hL2 hR2 (by omega) (by omega)
        · refine to_eq (fr' := (192, [(0, .ref 1000000), (1, .ref 0), (2, .ref 49), (3, .ref 85), (4, .int (nI i))], [], gh S a b sc ar lo, ex, nc, ns)) rfl ?_
          refine to_n 4 (fr' := (197, [(0, .ref 1000000), (1, .ref 0), (2, .ref 49), (3, .ref 85), (4, .int (nI i))], [.int 1, .int (nI i), .ref 1000000, .ref 0], gh S a b sc ar lo, ex, nc, ns)) rfl ?_
          refine to_addN (x := i) (y := 1) rfl ?_
          refine to_ldx (i := (i + 1)) rfl (by omega) (by omega) ?_
          refine to_n 3 (fr' := (203, [(0, .ref 1000000), (1, .ref 0), (2, .ref 49), (3, .ref 85), (4, .int (nI i))], [.int 2, .int (nI i), .ref 1000000, .int (X.2 (i + 1)), .ref 0], gh S a b sc ar lo, ex, nc, ns)) rfl ?_
          refine to_addN (x := i) (y := 2) rfl ?_
          refine to_ldx (i := (i + 2)) rfl (by omega) (by omega) ?_
          refine to_if_eq (t := 212) rfl (fun q3 => ?_) (fun q3 => ?_)
          · refine to_n 2 (fr' := (214, [(0, .ref 1000000), (1, .ref 0), (2, .ref 49), (3, .ref 85), (4, .int (nI i))], [.ref 85, .int 0, .int (X.2 (i + 1)), .ref 0], gh S a b sc ar lo, ex, nc, ns)) rfl ?_
            refine to_cl (q := 171) (M1 := an_L_well) (rest := []) rfl rfl (by decide) rfl trivial (lc_well hW hI (X.2 (i + 1)) 0 (by omega) (d + 32)) (fun x4 sc4 ar4 lo4 ex4 nn4 ss4 hx4 hn4 hs4 => ?_)
            obtain ⟨hI4, hG4, hx4⟩ := hx4
            have hL4 : Lw sc4 ar4 := lw_fr hLw hG4 (by decide) (by decide) (by decide) (by decide)
            refine to_eq (fr' := (217, [(0, .ref 1000000), (1, .ref 0), (2, .ref 49), (3, .ref 85), (4, .int (nI i))], [.int x4], gh S a b sc4 ar4 lo4, ex4, (nc + nn4), (ns + ss4))) rfl ?_
            refine to_n 5 (fr' := (224, [(0, .ref 1000000), (1, .ref 0), (2, .ref 49), (3, .ref 85), (4, .int (nI i)), (5, .int x4)], [.int 1, .int (nI i), .ref 1000000, .ref 49], gh S a b sc4 ar4 lo4, ex4, (nc + nn4), (ns + ss4))) rfl ?_
            refine to_addN (x := i) (y := 1) rfl ?_
            refine to_ldx (i := (i + 1)) rfl (by omega) (by omega) ?_
            refine to_n 3 (fr' := (230, [(0, .ref 1000000), (1, .ref 0), (2, .ref 49), (3, .ref 85), (4, .int (nI i)), (5, .int x4)], [.int 2, .int (nI i), .ref 1000000, .int (X.2 (i + 1)), .ref 49], gh S a b sc4 ar4 lo4, ex4, (nc + nn4), (ns + ss4))) rfl ?_
            refine to_addN (x := i) (y := 2) rfl ?_
            refine to_ldx (i := (i + 2)) rfl (by omega) (by omega) ?_
            refine to_if_eq_T (t := 239) rfl q3 ?_
            refine to_n 1 (fr' := (240, [(0, .ref 1000000), (1, .ref 0), (2, .ref 49), (3, .ref 85), (4, .int (nI i)), (5, .int x4)], [.int 0, .int (X.2 (i + 1)), .ref 49], gh S a b sc4 ar4 lo4, ex4, (nc + nn4), (ns + ss4))) rfl ?_
            refine to_ci (q := 115) (M1 := an_X10_well) (rest := []) rfl rfl (by decide) rfl ⟨_, rfl⟩ (sf_X10_well hW hI4 (X.2 (i + 1)) 0 (by omega) (d + 34)) (fun x5 sc5 ar5 hx5 => ?_)
            obtain ⟨hI5, hG5, hx5⟩ := hx5
            have hL5 : Lw sc5 ar5 := lw_fr hL4 hG5 (by decide) (by decide) (by decide) (by decide)
            obtain ⟨hb5, hx5⟩ := hx5
            rcases hx4 with ⟨rfl, wn, w1, w2, wy, w3, wp, wl⟩ | ⟨rfl, wr, wc⟩
            · rcases hx5 with ⟨vn, v1, v2, vp, v5⟩ | ⟨vr, v3, v5⟩
              · obtain rfl : wn = vn := (nI_eq (by omega) (by omega)).mp (w2.symm.trans v2)
                obtain ⟨hv5, hu5⟩ := we_eq hR w1 wp vp (hG4.2 51 (by decide)) (hG4.2 58 (by decide)) (hG5.2 12 (by decide))
                clear wp vp
                have hR5 : Rw S sc5 ar5 := rw_same hR hG4 hG5 (by decide) (by decide) (by decide) (by decide) hu5
                rcases (show wy = 0 ∨ wy = 1 by omega) with rfl | rfl
                · subst hv5
                  refine to_eq (fr' := (243, [(0, .ref 1000000), (1, .ref 0), (2, .ref 49), (3, .ref 85), (4, .int (nI i)), (5, .int 0)], [.int 0], gh S a b sc5 ar5 lo4, ex4, (nc + nn4), (ns + ss4))) rfl ?_
                  refine to_n 2 (fr' := (246, [(0, .ref 1000000), (1, .ref 0), (2, .ref 49), (3, .ref 85), (4, .int (nI i)), (5, .int 0), (6, .int 0)], [.ref 49], gh S a b sc5 ar5 lo4, ex4, (nc + nn4), (ns + ss4))) rfl ?_
                  refine to_cp (q := 108) (M1 := an_X10_thrown) (rest := []) rfl rfl (by decide) rfl ⟨_, rfl⟩ (sf_X10_thrown hW hI5  (d + 35)) (fun x6 hx6 => ?_)
                  refine to_eq (fr' := (249, [(0, .ref 1000000), (1, .ref 0), (2, .ref 49), (3, .ref 85), (4, .int (nI i)), (5, .int 0), (6, .int 0)], [.int x6], gh S a b sc5 ar5 lo4, ex4, (nc + nn4), (ns + ss4))) rfl ?_
                  refine to_n 1 (fr' := (251, [(0, .ref 1000000), (1, .ref 0), (2, .ref 49), (3, .ref 85), (4, .int (nI i)), (5, .int 0), (6, .int 0)], [.int 0, .int x6], gh S a b sc5 ar5 lo4, ex4, (nc + nn4), (ns + ss4))) rfl ?_
                  refine to_ic_eq_T (t := 256) rfl (hx6.trans v5) ?_
                  refine to_n 9 (fr' := (275, [(0, .ref 1000000), (1, .ref 0), (2, .ref 49), (3, .ref 85), (4, .int (nI i)), (5, .int 0), (6, .int 0)], [.int (lg_cmp (lo4 0) 0)], gh S a b sc5 ar5 lo4, ex4, (nc + nn4), (ns + ss4))) rfl ?_
                  refine to_if_eq_T (t := 280) rfl (by rw [wl]; exact lg_self _) ?_
                  refine to_n 2 (fr' := (792, [(0, .ref 1000000), (1, .ref 0), (2, .ref 49), (3, .ref 85), (4, .int ((nI i) + 6)), (5, .int 0), (6, .int 0)], [], gh S a b sc5 ar5 lo4, ex4, (nc + nn4), (ns + ss4))) rfl ?_
                  rw [show ((nI i) + 6 : Int32) = nI (i + 6) from nI_add _ 6]
                  refine to_n 1 (fr' := (43, [(0, .ref 1000000), (1, .ref 0), (2, .ref 49), (3, .ref 85), (4, .int (nI (i + 6))), (5, .int 0), (6, .int 0)], [], gh S a b sc5 ar5 lo4, ex4, (nc + nn4), (ns + ss4))) rfl ?_
                  refine to_lv (lv := [(0, .ref 1000000), (1, .ref 0), (2, .ref 49), (3, .ref 85), (4, .int (nI (i + 6)))]) rfl ⟨rfl, rfl, rfl, rfl, rfl, trivial⟩ ?_
                  exact ih (i + 6) sc5 ar5 lo4 ex4 (nc + nn4) (ns + ss4) (by omega) (by omega) hI5 hL5 hR5 (by omega) (by omega)
                · subst hv5
                  refine to_eq (fr' := (243, [(0, .ref 1000000), (1, .ref 0), (2, .ref 49), (3, .ref 85), (4, .int (nI i)), (5, .int 0)], [.int 1], gh S a b sc5 ar5 lo4, ex4, (nc + nn4), (ns + ss4))) rfl ?_
                  refine to_n 2 (fr' := (246, [(0, .ref 1000000), (1, .ref 0), (2, .ref 49), (3, .ref 85), (4, .int (nI i)), (5, .int 0), (6, .int 1)], [.ref 49], gh S a b sc5 ar5 lo4, ex4, (nc + nn4), (ns + ss4))) rfl ?_
                  refine to_cp (q := 108) (M1 := an_X10_thrown) (rest := []) rfl rfl (by decide) rfl ⟨_, rfl⟩ (sf_X10_thrown hW hI5  (d + 35)) (fun x7 hx7 => ?_)
                  refine to_eq (fr' := (249, [(0, .ref 1000000), (1, .ref 0), (2, .ref 49), (3, .ref 85), (4, .int (nI i)), (5, .int 0), (6, .int 1)], [.int x7], gh S a b sc5 ar5 lo4, ex4, (nc + nn4), (ns + ss4))) rfl ?_
                  refine to_n 1 (fr' := (251, [(0, .ref 1000000), (1, .ref 0), (2, .ref 49), (3, .ref 85), (4, .int (nI i)), (5, .int 0), (6, .int 1)], [.int 0, .int x7], gh S a b sc5 ar5 lo4, ex4, (nc + nn4), (ns + ss4))) rfl ?_
                  refine to_ic_eq_T (t := 256) rfl (hx7.trans v5) ?_
                  refine to_n 10 (fr' := (275, [(0, .ref 1000000), (1, .ref 0), (2, .ref 49), (3, .ref 85), (4, .int (nI i)), (5, .int 0), (6, .int 1)], [.int (lg_cmp (lo4 0) 1)], gh S a b sc5 ar5 lo4, ex4, (nc + nn4), (ns + ss4))) rfl ?_
                  refine to_if_eq_T (t := 280) rfl (by rw [wl]; exact lg_self _) ?_
                  refine to_n 2 (fr' := (792, [(0, .ref 1000000), (1, .ref 0), (2, .ref 49), (3, .ref 85), (4, .int ((nI i) + 6)), (5, .int 0), (6, .int 1)], [], gh S a b sc5 ar5 lo4, ex4, (nc + nn4), (ns + ss4))) rfl ?_
                  rw [show ((nI i) + 6 : Int32) = nI (i + 6) from nI_add _ 6]
                  refine to_n 1 (fr' := (43, [(0, .ref 1000000), (1, .ref 0), (2, .ref 49), (3, .ref 85), (4, .int (nI (i + 6))), (5, .int 0), (6, .int 1)], [], gh S a b sc5 ar5 lo4, ex4, (nc + nn4), (ns + ss4))) rfl ?_
                  refine to_lv (lv := [(0, .ref 1000000), (1, .ref 0), (2, .ref 49), (3, .ref 85), (4, .int (nI (i + 6)))]) rfl ⟨rfl, rfl, rfl, rfl, rfl, trivial⟩ ?_
                  exact ih (i + 6) sc5 ar5 lo4 ex4 (nc + nn4) (ns + ss4) (by omega) (by omega) hI5 hL5 hR5 (by omega) (by omega)
              · exact absurd (by rw [w2]; exact has_in w1 (by omega)) vr
            · rcases hx5 with ⟨vn, v1, v2, vp, v5⟩ | ⟨vr, v3, v5⟩
              · exact absurd (by rw [v2]; exact has_in v1 (by omega)) wr
              · have hR5 : Rw S sc5 ar5 := rw_same hR hG4 hG5 (by decide) (by decide) (by decide) (by decide) (fun t ht => by rw [hG5.2 12 (by decide), wc, v3, hG4.2 58 (by decide)]; exact (hR.2 t ht).2)
                refine to_eq (fr' := (243, [(0, .ref 1000000), (1, .ref 0), (2, .ref 49), (3, .ref 85), (4, .int (nI i)), (5, .int 1)], [.int x5], gh S a b sc5 ar5 lo4, ex4, (nc + nn4), (ns + ss4))) rfl ?_
                refine to_n 2 (fr' := (246, [(0, .ref 1000000), (1, .ref 0), (2, .ref 49), (3, .ref 85), (4, .int (nI i)), (5, .int 1), (6, .int x5)], [.ref 49], gh S a b sc5 ar5 lo4, ex4, (nc + nn4), (ns + ss4))) rfl ?_
                refine to_cp (q := 108) (M1 := an_X10_thrown) (rest := []) rfl rfl (by decide) rfl ⟨_, rfl⟩ (sf_X10_thrown hW hI5  (d + 35)) (fun x8 hx8 => ?_)
                refine to_eq (fr' := (249, [(0, .ref 1000000), (1, .ref 0), (2, .ref 49), (3, .ref 85), (4, .int (nI i)), (5, .int 1), (6, .int x5)], [.int x8], gh S a b sc5 ar5 lo4, ex4, (nc + nn4), (ns + ss4))) rfl ?_
                refine to_n 1 (fr' := (251, [(0, .ref 1000000), (1, .ref 0), (2, .ref 49), (3, .ref 85), (4, .int (nI i)), (5, .int 1), (6, .int x5)], [.int 1, .int x8], gh S a b sc5 ar5 lo4, ex4, (nc + nn4), (ns + ss4))) rfl ?_
                refine to_ic_eq_T (t := 256) rfl (hx8.trans v5) ?_
                refine to_n 4 (fr' := (792, [(0, .ref 1000000), (1, .ref 0), (2, .ref 49), (3, .ref 85), (4, .int ((nI i) + 6)), (5, .int 1), (6, .int x5)], [], gh S a b sc5 ar5 lo4, ex4, (nc + nn4), (ns + ss4))) rfl ?_
                rw [show ((nI i) + 6 : Int32) = nI (i + 6) from nI_add _ 6]
                refine to_n 1 (fr' := (43, [(0, .ref 1000000), (1, .ref 0), (2, .ref 49), (3, .ref 85), (4, .int (nI (i + 6))), (5, .int 1), (6, .int x5)], [], gh S a b sc5 ar5 lo4, ex4, (nc + nn4), (ns + ss4))) rfl ?_
                refine to_lv (lv := [(0, .ref 1000000), (1, .ref 0), (2, .ref 49), (3, .ref 85), (4, .int (nI (i + 6)))]) rfl ⟨rfl, rfl, rfl, rfl, rfl, trivial⟩ ?_
                exact ih (i + 6) sc5 ar5 lo4 ex4 (nc + nn4) (ns + ss4) (by omega) (by omega) hI5 hL5 hR5 (by omega) (by omega)
          · refine to_n 3 (fr' := (214, [(0, .ref 1000000), (1, .ref 0), (2, .ref 49), (3, .ref 85), (4, .int (nI i))], [.ref 85, .int 1, .int (X.2 (i + 1)), .ref 0], gh S a b sc ar lo, ex, nc, ns)) rfl ?_
            refine to_cl (q := 171) (M1 := an_L_well) (rest := []) rfl rfl (by decide) rfl trivial (lc_well hW hI (X.2 (i + 1)) 1 (by omega) (d + 32)) (fun x9 sc9 ar9 lo9 ex9 nn9 ss9 hx9 hn9 hs9 => ?_)
            obtain ⟨hI9, hG9, hx9⟩ := hx9
            have hL9 : Lw sc9 ar9 := lw_fr hLw hG9 (by decide) (by decide) (by decide) (by decide)
            refine to_eq (fr' := (217, [(0, .ref 1000000), (1, .ref 0), (2, .ref 49), (3, .ref 85), (4, .int (nI i))], [.int x9], gh S a b sc9 ar9 lo9, ex9, (nc + nn9), (ns + ss9))) rfl ?_
            refine to_n 5 (fr' := (224, [(0, .ref 1000000), (1, .ref 0), (2, .ref 49), (3, .ref 85), (4, .int (nI i)), (5, .int x9)], [.int 1, .int (nI i), .ref 1000000, .ref 49], gh S a b sc9 ar9 lo9, ex9, (nc + nn9), (ns + ss9))) rfl ?_
            refine to_addN (x := i) (y := 1) rfl ?_
            refine to_ldx (i := (i + 1)) rfl (by omega) (by omega) ?_
            refine to_n 3 (fr' := (230, [(0, .ref 1000000), (1, .ref 0), (2, .ref 49), (3, .ref 85), (4, .int (nI i)), (5, .int x9)], [.int 2, .int (nI i), .ref 1000000, .int (X.2 (i + 1)), .ref 49], gh S a b sc9 ar9 lo9, ex9, (nc + nn9), (ns + ss9))) rfl ?_
            refine to_addN (x := i) (y := 2) rfl ?_
            refine to_ldx (i := (i + 2)) rfl (by omega) (by omega) ?_
            refine to_if_eq_F (t := 239) rfl q3 ?_
            refine to_n 2 (fr' := (240, [(0, .ref 1000000), (1, .ref 0), (2, .ref 49), (3, .ref 85), (4, .int (nI i)), (5, .int x9)], [.int 1, .int (X.2 (i + 1)), .ref 49], gh S a b sc9 ar9 lo9, ex9, (nc + nn9), (ns + ss9))) rfl ?_
            refine to_ci (q := 115) (M1 := an_X10_well) (rest := []) rfl rfl (by decide) rfl ⟨_, rfl⟩ (sf_X10_well hW hI9 (X.2 (i + 1)) 1 (by omega) (d + 34)) (fun x10 sc10 ar10 hx10 => ?_)
            obtain ⟨hI10, hG10, hx10⟩ := hx10
            have hL10 : Lw sc10 ar10 := lw_fr hL9 hG10 (by decide) (by decide) (by decide) (by decide)
            obtain ⟨hb10, hx10⟩ := hx10
            rcases hx9 with ⟨rfl, wn, w1, w2, wy, w3, wp, wl⟩ | ⟨rfl, wr, wc⟩
            · rcases hx10 with ⟨vn, v1, v2, vp, v5⟩ | ⟨vr, v3, v5⟩
              · obtain rfl : wn = vn := (nI_eq (by omega) (by omega)).mp (w2.symm.trans v2)
                obtain ⟨hv10, hu10⟩ := we_eq hR w1 wp vp (hG9.2 51 (by decide)) (hG9.2 58 (by decide)) (hG10.2 12 (by decide))
                clear wp vp
                have hR10 : Rw S sc10 ar10 := rw_same hR hG9 hG10 (by decide) (by decide) (by decide) (by decide) hu10
                rcases (show wy = 0 ∨ wy = 1 by omega) with rfl | rfl
                · subst hv10
                  refine to_eq (fr' := (243, [(0, .ref 1000000), (1, .ref 0), (2, .ref 49), (3, .ref 85), (4, .int (nI i)), (5, .int 0)], [.int 0], gh S a b sc10 ar10 lo9, ex9, (nc + nn9), (ns + ss9))) rfl ?_
                  refine to_n 2 (fr' := (246, [(0, .ref 1000000), (1, .ref 0), (2, .ref 49), (3, .ref 85), (4, .int (nI i)), (5, .int 0), (6, .int 0)], [.ref 49], gh S a b sc10 ar10 lo9, ex9, (nc + nn9), (ns + ss9))) rfl ?_
                  refine to_cp (q := 108) (M1 := an_X10_thrown) (rest := []) rfl rfl (by decide) rfl ⟨_, rfl⟩ (sf_X10_thrown hW hI10  (d + 35)) (fun x11 hx11 => ?_)
                  refine to_eq (fr' := (249, [(0, .ref 1000000), (1, .ref 0), (2, .ref 49), (3, .ref 85), (4, .int (nI i)), (5, .int 0), (6, .int 0)], [.int x11], gh S a b sc10 ar10 lo9, ex9, (nc + nn9), (ns + ss9))) rfl ?_
                  refine to_n 1 (fr' := (251, [(0, .ref 1000000), (1, .ref 0), (2, .ref 49), (3, .ref 85), (4, .int (nI i)), (5, .int 0), (6, .int 0)], [.int 0, .int x11], gh S a b sc10 ar10 lo9, ex9, (nc + nn9), (ns + ss9))) rfl ?_
                  refine to_ic_eq_T (t := 256) rfl (hx11.trans v5) ?_
                  refine to_n 9 (fr' := (275, [(0, .ref 1000000), (1, .ref 0), (2, .ref 49), (3, .ref 85), (4, .int (nI i)), (5, .int 0), (6, .int 0)], [.int (lg_cmp (lo9 0) 0)], gh S a b sc10 ar10 lo9, ex9, (nc + nn9), (ns + ss9))) rfl ?_
                  refine to_if_eq_T (t := 280) rfl (by rw [wl]; exact lg_self _) ?_
                  refine to_n 2 (fr' := (792, [(0, .ref 1000000), (1, .ref 0), (2, .ref 49), (3, .ref 85), (4, .int ((nI i) + 6)), (5, .int 0), (6, .int 0)], [], gh S a b sc10 ar10 lo9, ex9, (nc + nn9), (ns + ss9))) rfl ?_
                  rw [show ((nI i) + 6 : Int32) = nI (i + 6) from nI_add _ 6]
                  refine to_n 1 (fr' := (43, [(0, .ref 1000000), (1, .ref 0), (2, .ref 49), (3, .ref 85), (4, .int (nI (i + 6))), (5, .int 0), (6, .int 0)], [], gh S a b sc10 ar10 lo9, ex9, (nc + nn9), (ns + ss9))) rfl ?_
                  refine to_lv (lv := [(0, .ref 1000000), (1, .ref 0), (2, .ref 49), (3, .ref 85), (4, .int (nI (i + 6)))]) rfl ⟨rfl, rfl, rfl, rfl, rfl, trivial⟩ ?_
                  exact ih (i + 6) sc10 ar10 lo9 ex9 (nc + nn9) (ns + ss9) (by omega) (by omega) hI10 hL10 hR10 (by omega) (by omega)
                · subst hv10
                  refine to_eq (fr' := (243, [(0, .ref 1000000), (1, .ref 0), (2, .ref 49), (3, .ref 85), (4, .int (nI i)), (5, .int 0)], [.int 1], gh S a b sc10 ar10 lo9, ex9, (nc + nn9), (ns + ss9))) rfl ?_
                  refine to_n 2 (fr' := (246, [(0, .ref 1000000), (1, .ref 0), (2, .ref 49), (3, .ref 85), (4, .int (nI i)), (5, .int 0), (6, .int 1)], [.ref 49], gh S a b sc10 ar10 lo9, ex9, (nc + nn9), (ns + ss9))) rfl ?_
                  refine to_cp (q := 108) (M1 := an_X10_thrown) (rest := []) rfl rfl (by decide) rfl ⟨_, rfl⟩ (sf_X10_thrown hW hI10  (d + 35)) (fun x12 hx12 => ?_)
                  refine to_eq (fr' := (249, [(0, .ref 1000000), (1, .ref 0), (2, .ref 49), (3, .ref 85), (4, .int (nI i)), (5, .int 0), (6, .int 1)], [.int x12], gh S a b sc10 ar10 lo9, ex9, (nc + nn9), (ns + ss9))) rfl ?_
                  refine to_n 1 (fr' := (251, [(0, .ref 1000000), (1, .ref 0), (2, .ref 49), (3, .ref 85), (4, .int (nI i)), (5, .int 0), (6, .int 1)], [.int 0, .int x12], gh S a b sc10 ar10 lo9, ex9, (nc + nn9), (ns + ss9))) rfl ?_
                  refine to_ic_eq_T (t := 256) rfl (hx12.trans v5) ?_
                  refine to_n 10 (fr' := (275, [(0, .ref 1000000), (1, .ref 0), (2, .ref 49), (3, .ref 85), (4, .int (nI i)), (5, .int 0), (6, .int 1)], [.int (lg_cmp (lo9 0) 1)], gh S a b sc10 ar10 lo9, ex9, (nc + nn9), (ns + ss9))) rfl ?_
                  refine to_if_eq_T (t := 280) rfl (by rw [wl]; exact lg_self _) ?_
                  refine to_n 2 (fr' := (792, [(0, .ref 1000000), (1, .ref 0), (2, .ref 49), (3, .ref 85), (4, .int ((nI i) + 6)), (5, .int 0), (6, .int 1)], [], gh S a b sc10 ar10 lo9, ex9, (nc + nn9), (ns + ss9))) rfl ?_
                  rw [show ((nI i) + 6 : Int32) = nI (i + 6) from nI_add _ 6]
                  refine to_n 1 (fr' := (43, [(0, .ref 1000000), (1, .ref 0), (2, .ref 49), (3, .ref 85), (4, .int (nI (i + 6))), (5, .int 0), (6, .int 1)], [], gh S a b sc10 ar10 lo9, ex9, (nc + nn9), (ns + ss9))) rfl ?_
                  refine to_lv (lv := [(0, .ref 1000000), (1, .ref 0), (2, .ref 49), (3, .ref 85), (4, .int (nI (i + 6)))]) rfl ⟨rfl, rfl, rfl, rfl, rfl, trivial⟩ ?_
                  exact ih (i + 6) sc10 ar10 lo9 ex9 (nc + nn9) (ns + ss9) (by omega) (by omega) hI10 hL10 hR10 (by omega) (by omega)
              · exact absurd (by rw [w2]; exact has_in w1 (by omega)) vr
            · rcases hx10 with ⟨vn, v1, v2, vp, v5⟩ | ⟨vr, v3, v5⟩
              · exact absurd (by rw [v2]; exact has_in v1 (by omega)) wr
              · have hR10 : Rw S sc10 ar10 := rw_same hR hG9 hG10 (by decide) (by decide) (by decide) (by decide) (fun t ht => by rw [hG10.2 12 (by decide), wc, v3, hG9.2 58 (by decide)]; exact (hR.2 t ht).2)
                refine to_eq (fr' := (243, [(0, .ref 1000000), (1, .ref 0), (2, .ref 49), (3, .ref 85), (4, .int (nI i)), (5, .int 1)], [.int x10], gh S a b sc10 ar10 lo9, ex9, (nc + nn9), (ns + ss9))) rfl ?_
                refine to_n 2 (fr' := (246, [(0, .ref 1000000), (1, .ref 0), (2, .ref 49), (3, .ref 85), (4, .int (nI i)), (5, .int 1), (6, .int x10)], [.ref 49], gh S a b sc10 ar10 lo9, ex9, (nc + nn9), (ns + ss9))) rfl ?_
                refine to_cp (q := 108) (M1 := an_X10_thrown) (rest := []) rfl rfl (by decide) rfl ⟨_, rfl⟩ (sf_X10_thrown hW hI10  (d + 35)) (fun x13 hx13 => ?_)
                refine to_eq (fr' := (249, [(0, .ref 1000000), (1, .ref 0), (2, .ref 49), (3, .ref 85), (4, .int (nI i)), (5, .int 1), (6, .int x10)], [.int x13], gh S a b sc10 ar10 lo9, ex9, (nc + nn9), (ns + ss9))) rfl ?_
                refine to_n 1 (fr' := (251, [(0, .ref 1000000), (1, .ref 0), (2, .ref 49), (3, .ref 85), (4, .int (nI i)), (5, .int 1), (6, .int x10)], [.int 1, .int x13], gh S a b sc10 ar10 lo9, ex9, (nc + nn9), (ns + ss9))) rfl ?_
                refine to_ic_eq_T (t := 256) rfl (hx13.trans v5) ?_
                refine to_n 4 (fr' := (792, [(0, .ref 1000000), (1, .ref 0), (2, .ref 49), (3, .ref 85), (4, .int ((nI i) + 6)), (5, .int 1), (6, .int x10)], [], gh S a b sc10 ar10 lo9, ex9, (nc + nn9), (ns + ss9))) rfl ?_
                rw [show ((nI i) + 6 : Int32) = nI (i + 6) from nI_add _ 6]
                refine to_n 1 (fr' := (43, [(0, .ref 1000000), (1, .ref 0), (2, .ref 49), (3, .ref 85), (4, .int (nI (i + 6))), (5, .int 1), (6, .int x10)], [], gh S a b sc10 ar10 lo9, ex9, (nc + nn9), (ns + ss9))) rfl ?_
                refine to_lv (lv := [(0, .ref 1000000), (1, .ref 0), (2, .ref 49), (3, .ref 85), (4, .int (nI (i + 6)))]) rfl ⟨rfl, rfl, rfl, rfl, rfl, trivial⟩ ?_
                exact ih (i + 6) sc10 ar10 lo9 ex9 (nc + nn9) (ns + ss9) (by omega) (by omega) hI10 hL10 hR10 (by omega) (by omega)
        · refine to_eq (fr' := (283, [(0, .ref 1000000), (1, .ref 0), (2, .ref 49), (3, .ref 85), (4, .int (nI i))], [], gh S a b sc ar lo, ex, nc, ns)) rfl ?_
          refine to_n 4 (fr' := (288, [(0, .ref 1000000), (1, .ref 0), (2, .ref 49), (3, .ref 85), (4, .int (nI i))], [.int 1, .int (nI i), .ref 1000000, .ref 0], gh S a b sc ar lo, ex, nc, ns)) rfl ?_
          refine to_addN (x := i) (y := 1) rfl ?_
          refine to_ldx (i := (i + 1)) rfl (by omega) (by omega) ?_
          refine to_n 1 (fr' := (291, [(0, .ref 1000000), (1, .ref 0), (2, .ref 49), (3, .ref 85), (4, .int (nI i))], [.ref 85, .int (X.2 (i + 1)), .ref 0], gh S a b sc ar lo, ex, nc, ns)) rfl ?_
          refine to_cl (q := 172) (M1 := an_L_wind) (rest := []) rfl rfl (by decide) rfl trivial (lc_wind hW hI (X.2 (i + 1)) (d + 34)) (fun x14 sc14 ar14 lo14 ex14 nn14 ss14 hx14 hn14 hs14 => ?_)
          obtain ⟨hI14, hG14, hx14⟩ := hx14
          have hL14 : Lw sc14 ar14 := lw_fr hLw hG14 (by decide) (by decide) (by decide) (by decide)
          clear hx14
          have hR14 : Rw S sc14 ar14 := rw_f hR hG14 (by decide) (by decide) (by decide)
          refine to_eq (fr' := (294, [(0, .ref 1000000), (1, .ref 0), (2, .ref 49), (3, .ref 85), (4, .int (nI i))], [.int x14], gh S a b sc14 ar14 lo14, ex14, (nc + nn14), (ns + ss14))) rfl ?_
          refine to_n 5 (fr' := (301, [(0, .ref 1000000), (1, .ref 0), (2, .ref 49), (3, .ref 85), (4, .int (nI i)), (5, .int x14)], [.int 1, .int (nI i), .ref 1000000, .ref 49], gh S a b sc14 ar14 lo14, ex14, (nc + nn14), (ns + ss14))) rfl ?_
          refine to_addN (x := i) (y := 1) rfl ?_
          refine to_ldx (i := (i + 1)) rfl (by omega) (by omega) ?_
          refine to_ci (q := 116) (M1 := an_X10_wind) (rest := []) rfl rfl (by decide) rfl ⟨_, rfl⟩ (sf_X10_wind hW hI14 (X.2 (i + 1)) (d + 34)) (fun x15 sc15 ar15 hx15 => ?_)
          obtain ⟨hI15, hG15, hx15⟩ := hx15
          have hL15 : Lw sc15 ar15 := lw_fr hL14 hG15 (by decide) (by decide) (by decide) (by decide)
          clear hx15
          have hR15 : Rw S sc15 ar15 := rw_f hR14 hG15 (by decide) (by decide) (by decide)
          refine to_eq (fr' := (306, [(0, .ref 1000000), (1, .ref 0), (2, .ref 49), (3, .ref 85), (4, .int (nI i)), (5, .int x14)], [.int x15], gh S a b sc15 ar15 lo14, ex14, (nc + nn14), (ns + ss14))) rfl ?_
          refine to_n 3 (fr' := (792, [(0, .ref 1000000), (1, .ref 0), (2, .ref 49), (3, .ref 85), (4, .int ((nI i) + 6)), (5, .int x14), (6, .int x15)], [], gh S a b sc15 ar15 lo14, ex14, (nc + nn14), (ns + ss14))) rfl ?_
          rw [show ((nI i) + 6 : Int32) = nI (i + 6) from nI_add _ 6]
          refine to_n 1 (fr' := (43, [(0, .ref 1000000), (1, .ref 0), (2, .ref 49), (3, .ref 85), (4, .int (nI (i + 6))), (5, .int x14), (6, .int x15)], [], gh S a b sc15 ar15 lo14, ex14, (nc + nn14), (ns + ss14))) rfl ?_
          refine to_lv (lv := [(0, .ref 1000000), (1, .ref 0), (2, .ref 49), (3, .ref 85), (4, .int (nI (i + 6)))]) rfl ⟨rfl, rfl, rfl, rfl, rfl, trivial⟩ ?_
          exact ih (i + 6) sc15 ar15 lo14 ex14 (nc + nn14) (ns + ss14) (by omega) (by omega) hI15 hL15 hR15 (by omega) (by omega)
        · refine to_eq (fr' := (311, [(0, .ref 1000000), (1, .ref 0), (2, .ref 49), (3, .ref 85), (4, .int (nI i))], [], gh S a b sc ar lo, ex, nc, ns)) rfl ?_
          refine to_n 4 (fr' := (316, [(0, .ref 1000000), (1, .ref 0), (2, .ref 49), (3, .ref 85), (4, .int (nI i))], [.int 1, .int (nI i), .ref 1000000, .ref 0], gh S a b sc ar lo, ex, nc, ns)) rfl ?_
          refine to_addN (x := i) (y := 1) rfl ?_
          refine to_ldx (i := (i + 1)) rfl (by omega) (by omega) ?_
          refine to_n 3 (fr' := (322, [(0, .ref 1000000), (1, .ref 0), (2, .ref 49), (3, .ref 85), (4, .int (nI i))], [.int 2, .int (nI i), .ref 1000000, .int (X.2 (i + 1)), .ref 0], gh S a b sc ar lo, ex, nc, ns)) rfl ?_
          refine to_addN (x := i) (y := 2) rfl ?_
          refine to_ldx (i := (i + 2)) rfl (by omega) (by omega) ?_
          refine to_n 3 (fr' := (328, [(0, .ref 1000000), (1, .ref 0), (2, .ref 49), (3, .ref 85), (4, .int (nI i))], [.int 3, .int (nI i), .ref 1000000, .int (X.2 (i + 2)), .int (X.2 (i + 1)), .ref 0], gh S a b sc ar lo, ex, nc, ns)) rfl ?_
          refine to_addN (x := i) (y := 3) rfl ?_
          refine to_ldx (i := (i + 3)) rfl (by omega) (by omega) ?_
          refine to_n 1 (fr' := (331, [(0, .ref 1000000), (1, .ref 0), (2, .ref 49), (3, .ref 85), (4, .int (nI i))], [.ref 85, .int (X.2 (i + 3)), .int (X.2 (i + 2)), .int (X.2 (i + 1)), .ref 0], gh S a b sc ar lo, ex, nc, ns)) rfl ?_
          refine to_cl (q := 173) (M1 := an_L_company) (rest := []) rfl rfl (by decide) rfl trivial (lc_company hW hI (X.2 (i + 1)) (X.2 (i + 2)) (X.2 (i + 3)) hR.1 (d + 32)) (fun x16 sc16 ar16 lo16 ex16 nn16 ss16 hx16 hn16 hs16 => ?_)
          obtain ⟨hI16, hG16, hk16, hx16⟩ := hx16
          have hL16 : Lw sc16 ar16 := lw_fr hLw hG16 (by decide) (by decide) (by decide) (by decide)
          clear hx16
          have hR16 : Rw S sc16 ar16 := rw_k hR hk16 hG16 (by decide)
          refine to_eq (fr' := (334, [(0, .ref 1000000), (1, .ref 0), (2, .ref 49), (3, .ref 85), (4, .int (nI i))], [.int x16], gh S a b sc16 ar16 lo16, ex16, (nc + nn16), (ns + ss16))) rfl ?_
          refine to_n 5 (fr' := (341, [(0, .ref 1000000), (1, .ref 0), (2, .ref 49), (3, .ref 85), (4, .int (nI i)), (5, .int x16)], [.int 1, .int (nI i), .ref 1000000, .ref 49], gh S a b sc16 ar16 lo16, ex16, (nc + nn16), (ns + ss16))) rfl ?_
          refine to_addN (x := i) (y := 1) rfl ?_
          refine to_ldx (i := (i + 1)) rfl (by omega) (by omega) ?_
          refine to_n 3 (fr' := (347, [(0, .ref 1000000), (1, .ref 0), (2, .ref 49), (3, .ref 85), (4, .int (nI i)), (5, .int x16)], [.int 2, .int (nI i), .ref 1000000, .int (X.2 (i + 1)), .ref 49], gh S a b sc16 ar16 lo16, ex16, (nc + nn16), (ns + ss16))) rfl ?_
          refine to_addN (x := i) (y := 2) rfl ?_
          refine to_ldx (i := (i + 2)) rfl (by omega) (by omega) ?_
          refine to_n 3 (fr' := (353, [(0, .ref 1000000), (1, .ref 0), (2, .ref 49), (3, .ref 85), (4, .int (nI i)), (5, .int x16)], [.int 3, .int (nI i), .ref 1000000, .int (X.2 (i + 2)), .int (X.2 (i + 1)), .ref 49], gh S a b sc16 ar16 lo16, ex16, (nc + nn16), (ns + ss16))) rfl ?_
          refine to_addN (x := i) (y := 3) rfl ?_
          refine to_ldx (i := (i + 3)) rfl (by omega) (by omega) ?_
          refine to_ci (q := 117) (M1 := an_X10_company) (rest := []) rfl rfl (by decide) rfl ⟨_, rfl⟩ (sf_X10_company hW hI16 (X.2 (i + 1)) (X.2 (i + 2)) (X.2 (i + 3)) hR16.1 (d + 34)) (fun x17 sc17 ar17 hx17 => ?_)
          obtain ⟨hI17, hG17, hk17, hx17⟩ := hx17
          have hL17 : Lw sc17 ar17 := lw_fr hL16 hG17 (by decide) (by decide) (by decide) (by decide)
          clear hx17
          have hR17 : Rw S sc17 ar17 := rw_k hR16 hk17 hG17 (by decide)
          refine to_eq (fr' := (358, [(0, .ref 1000000), (1, .ref 0), (2, .ref 49), (3, .ref 85), (4, .int (nI i)), (5, .int x16)], [.int x17], gh S a b sc17 ar17 lo16, ex16, (nc + nn16), (ns + ss16))) rfl ?_
          refine to_n 3 (fr' := (792, [(0, .ref 1000000), (1, .ref 0), (2, .ref 49), (3, .ref 85), (4, .int ((nI i) + 6)), (5, .int x16), (6, .int x17)], [], gh S a b sc17 ar17 lo16, ex16, (nc + nn16), (ns + ss16))) rfl ?_
          rw [show ((nI i) + 6 : Int32) = nI (i + 6) from nI_add _ 6]
          refine to_n 1 (fr' := (43, [(0, .ref 1000000), (1, .ref 0), (2, .ref 49), (3, .ref 85), (4, .int (nI (i + 6))), (5, .int x16), (6, .int x17)], [], gh S a b sc17 ar17 lo16, ex16, (nc + nn16), (ns + ss16))) rfl ?_
          refine to_lv (lv := [(0, .ref 1000000), (1, .ref 0), (2, .ref 49), (3, .ref 85), (4, .int (nI (i + 6)))]) rfl ⟨rfl, rfl, rfl, rfl, rfl, trivial⟩ ?_
          exact ih (i + 6) sc17 ar17 lo16 ex16 (nc + nn16) (ns + ss16) (by omega) (by omega) hI17 hL17 hR17 (by omega) (by omega)
        · refine to_eq (fr' := (363, [(0, .ref 1000000), (1, .ref 0), (2, .ref 49), (3, .ref 85), (4, .int (nI i))], [], gh S a b sc ar lo, ex, nc, ns)) rfl ?_
          refine to_n 4 (fr' := (368, [(0, .ref 1000000), (1, .ref 0), (2, .ref 49), (3, .ref 85), (4, .int (nI i))], [.int 1, .int (nI i), .ref 1000000, .ref 0], gh S a b sc ar lo, ex, nc, ns)) rfl ?_
          refine to_addN (x := i) (y := 1) rfl ?_
          refine to_ldx (i := (i + 1)) rfl (by omega) (by omega) ?_
          refine to_n 3 (fr' := (374, [(0, .ref 1000000), (1, .ref 0), (2, .ref 49), (3, .ref 85), (4, .int (nI i))], [.int 2, .int (nI i), .ref 1000000, .int (X.2 (i + 1)), .ref 0], gh S a b sc ar lo, ex, nc, ns)) rfl ?_
          refine to_addN (x := i) (y := 2) rfl ?_
          refine to_ldx (i := (i + 2)) rfl (by omega) (by omega) ?_
          refine to_n 3 (fr' := (380, [(0, .ref 1000000), (1, .ref 0), (2, .ref 49), (3, .ref 85), (4, .int (nI i))], [.int 3, .int (nI i), .ref 1000000, .int (X.2 (i + 2)), .int (X.2 (i + 1)), .ref 0], gh S a b sc ar lo, ex, nc, ns)) rfl ?_
          refine to_addN (x := i) (y := 3) rfl ?_
          refine to_ldx (i := (i + 3)) rfl (by omega) (by omega) ?_
          refine to_n 3 (fr' := (386, [(0, .ref 1000000), (1, .ref 0), (2, .ref 49), (3, .ref 85), (4, .int (nI i))], [.int 4, .int (nI i), .ref 1000000, .int (X.2 (i + 3)), .int (X.2 (i + 2)), .int (X.2 (i + 1)), .ref 0], gh S a b sc ar lo, ex, nc, ns)) rfl ?_
          refine to_addN (x := i) (y := 4) rfl ?_
          refine to_ldx (i := (i + 4)) rfl (by omega) (by omega) ?_
          refine to_n 3 (fr' := (392, [(0, .ref 1000000), (1, .ref 0), (2, .ref 49), (3, .ref 85), (4, .int (nI i))], [.int 5, .int (nI i), .ref 1000000, .int (X.2 (i + 4)), .int (X.2 (i + 3)), .int (X.2 (i + 2)), .int (X.2 (i + 1)), .ref 0], gh S a b sc ar lo, ex, nc, ns)) rfl ?_
          refine to_addN (x := i) (y := 5) rfl ?_
          refine to_ldx (i := (i + 5)) rfl (by omega) (by omega) ?_
          refine to_ci (q := 77) (M1 := an_X9_feed) (rest := []) rfl rfl (by decide) rfl ⟨_, rfl⟩ (sf_X9_feed hW hI (X.2 (i + 1)) (X.2 (i + 2)) (X.2 (i + 3)) (X.2 (i + 4)) (X.2 (i + 5)) (d + 34)) (fun x18 sc18 ar18 hx18 => ?_)
          obtain ⟨hI18, hG18, hx18⟩ := hx18
          have hL18 : Lw sc18 ar18 := lw_fr hLw hG18 (by decide) (by decide) (by decide) (by decide)
          clear hx18
          have hR18 : Rw S sc18 ar18 := rw_f hR hG18 (by decide) (by decide) (by decide)
          refine to_eq (fr' := (397, [(0, .ref 1000000), (1, .ref 0), (2, .ref 49), (3, .ref 85), (4, .int (nI i))], [.int x18], gh S a b sc18 ar18 lo, ex, nc, ns)) rfl ?_
          refine to_n 5 (fr' := (403, [(0, .ref 1000000), (1, .ref 0), (2, .ref 49), (3, .ref 85), (4, .int (nI i))], [.int 1, .int (nI i), .ref 1000000, .ref 49], gh S a b sc18 ar18 lo, ex, nc, ns)) rfl ?_
          refine to_addN (x := i) (y := 1) rfl ?_
          refine to_ldx (i := (i + 1)) rfl (by omega) (by omega) ?_
          refine to_n 3 (fr' := (409, [(0, .ref 1000000), (1, .ref 0), (2, .ref 49), (3, .ref 85), (4, .int (nI i))], [.int 2, .int (nI i), .ref 1000000, .int (X.2 (i + 1)), .ref 49], gh S a b sc18 ar18 lo, ex, nc, ns)) rfl ?_
          refine to_addN (x := i) (y := 2) rfl ?_
          refine to_ldx (i := (i + 2)) rfl (by omega) (by omega) ?_
          refine to_n 3 (fr' := (415, [(0, .ref 1000000), (1, .ref 0), (2, .ref 49), (3, .ref 85), (4, .int (nI i))], [.int 3, .int (nI i), .ref 1000000, .int (X.2 (i + 2)), .int (X.2 (i + 1)), .ref 49], gh S a b sc18 ar18 lo, ex, nc, ns)) rfl ?_
          refine to_addN (x := i) (y := 3) rfl ?_
          refine to_ldx (i := (i + 3)) rfl (by omega) (by omega) ?_
          refine to_n 3 (fr' := (421, [(0, .ref 1000000), (1, .ref 0), (2, .ref 49), (3, .ref 85), (4, .int (nI i))], [.int 4, .int (nI i), .ref 1000000, .int (X.2 (i + 3)), .int (X.2 (i + 2)), .int (X.2 (i + 1)), .ref 49], gh S a b sc18 ar18 lo, ex, nc, ns)) rfl ?_
          refine to_addN (x := i) (y := 4) rfl ?_
          refine to_ldx (i := (i + 4)) rfl (by omega) (by omega) ?_
          refine to_n 3 (fr' := (427, [(0, .ref 1000000), (1, .ref 0), (2, .ref 49), (3, .ref 85), (4, .int (nI i))], [.int 5, .int (nI i), .ref 1000000, .int (X.2 (i + 4)), .int (X.2 (i + 3)), .int (X.2 (i + 2)), .int (X.2 (i + 1)), .ref 49], gh S a b sc18 ar18 lo, ex, nc, ns)) rfl ?_
          refine to_addN (x := i) (y := 5) rfl ?_
          refine to_ldx (i := (i + 5)) rfl (by omega) (by omega) ?_
          refine to_ci (q := 118) (M1 := an_X10_feed) (rest := []) rfl rfl (by decide) rfl ⟨_, rfl⟩ (sf_X10_feed hW hI18 (X.2 (i + 1)) (X.2 (i + 2)) (X.2 (i + 3)) (X.2 (i + 4)) (X.2 (i + 5)) (d + 35)) (fun x19 sc19 ar19 hx19 => ?_)
          obtain ⟨hI19, hG19, hx19⟩ := hx19
          have hL19 : Lw sc19 ar19 := lw_fr hL18 hG19 (by decide) (by decide) (by decide) (by decide)
          clear hx19
          have hR19 : Rw S sc19 ar19 := rw_f hR18 hG19 (by decide) (by decide) (by decide)
          refine to_eq (fr' := (432, [(0, .ref 1000000), (1, .ref 0), (2, .ref 49), (3, .ref 85), (4, .int (nI i))], [.int x19], gh S a b sc19 ar19 lo, ex, nc, ns)) rfl ?_
          refine to_n 3 (fr' := (792, [(0, .ref 1000000), (1, .ref 0), (2, .ref 49), (3, .ref 85), (4, .int ((nI i) + 6))], [], gh S a b sc19 ar19 lo, ex, nc, ns)) rfl ?_
          rw [show ((nI i) + 6 : Int32) = nI (i + 6) from nI_add _ 6]
          refine to_n 1 (fr' := (43, [(0, .ref 1000000), (1, .ref 0), (2, .ref 49), (3, .ref 85), (4, .int (nI (i + 6)))], [], gh S a b sc19 ar19 lo, ex, nc, ns)) rfl ?_
          exact ih (i + 6) sc19 ar19 lo ex nc ns (by omega) (by omega) hI19 hL19 hR19 (by omega) (by omega)
        · refine to_eq (fr' := (436, [(0, .ref 1000000), (1, .ref 0), (2, .ref 49), (3, .ref 85), (4, .int (nI i))], [], gh S a b sc ar lo, ex, nc, ns)) rfl ?_
          refine to_n 4 (fr' := (441, [(0, .ref 1000000), (1, .ref 0), (2, .ref 49), (3, .ref 85), (4, .int (nI i))], [.int 1, .int (nI i), .ref 1000000, .ref 0], gh S a b sc ar lo, ex, nc, ns)) rfl ?_
          refine to_addN (x := i) (y := 1) rfl ?_
          refine to_ldx (i := (i + 1)) rfl (by omega) (by omega) ?_
          refine to_n 3 (fr' := (447, [(0, .ref 1000000), (1, .ref 0), (2, .ref 49), (3, .ref 85), (4, .int (nI i))], [.int 2, .int (nI i), .ref 1000000, .int (X.2 (i + 1)), .ref 0], gh S a b sc ar lo, ex, nc, ns)) rfl ?_
          refine to_addN (x := i) (y := 2) rfl ?_
          refine to_ldx (i := (i + 2)) rfl (by omega) (by omega) ?_
          refine to_n 1 (fr' := (450, [(0, .ref 1000000), (1, .ref 0), (2, .ref 49), (3, .ref 85), (4, .int (nI i))], [.ref 85, .int (X.2 (i + 2)), .int (X.2 (i + 1)), .ref 0], gh S a b sc ar lo, ex, nc, ns)) rfl ?_
          refine to_cl (q := 174) (M1 := an_L_law) (rest := []) rfl rfl (by decide) rfl trivial (lc_law hW hI (X.2 (i + 1)) (X.2 (i + 2)) d) (fun x20 sc20 ar20 lo20 ex20 nn20 ss20 hx20 hn20 hs20 => ?_)
          obtain ⟨hI20, hG20⟩ := hx20
          have hL20 : Lw sc20 ar20 := lw_fr hLw hG20 (by decide) (by decide) (by decide) (by decide)
          have hR20 : Rw S sc20 ar20 := rw_f hR hG20 (by decide) (by decide) (by decide)
          refine to_eq (fr' := (453, [(0, .ref 1000000), (1, .ref 0), (2, .ref 49), (3, .ref 85), (4, .int (nI i))], [.int x20], gh S a b sc20 ar20 lo20, ex20, (nc + nn20), (ns + ss20))) rfl ?_
          refine to_n 5 (fr' := (460, [(0, .ref 1000000), (1, .ref 0), (2, .ref 49), (3, .ref 85), (4, .int (nI i)), (5, .int x20)], [.int 1, .int (nI i), .ref 1000000, .ref 49], gh S a b sc20 ar20 lo20, ex20, (nc + nn20), (ns + ss20))) rfl ?_
          refine to_addN (x := i) (y := 1) rfl ?_
          refine to_ldx (i := (i + 1)) rfl (by omega) (by omega) ?_
          refine to_n 3 (fr' := (466, [(0, .ref 1000000), (1, .ref 0), (2, .ref 49), (3, .ref 85), (4, .int (nI i)), (5, .int x20)], [.int 2, .int (nI i), .ref 1000000, .int (X.2 (i + 1)), .ref 49], gh S a b sc20 ar20 lo20, ex20, (nc + nn20), (ns + ss20))) rfl ?_
          refine to_addN (x := i) (y := 2) rfl ?_
          refine to_ldx (i := (i + 2)) rfl (by omega) (by omega) ?_
          refine to_ci (q := 132) (M1 := an_X10_law) (rest := []) rfl rfl (by decide) rfl ⟨_, rfl⟩ (sf_X10_law hW hI20 (X.2 (i + 1)) (X.2 (i + 2)) hL20 (d + 3)) (fun x21 sc21 ar21 hx21 => ?_)
          obtain ⟨hI21, hG21, hx21⟩ := hx21
          have hL21 : Lw sc21 ar21 := hx21
          have hR21 : Rw S sc21 ar21 := rw_f hR20 hG21 (by decide) (by decide) (by decide)
          refine to_eq (fr' := (471, [(0, .ref 1000000), (1, .ref 0), (2, .ref 49), (3, .ref 85), (4, .int (nI i)), (5, .int x20)], [.int x21], gh S a b sc21 ar21 lo20, ex20, (nc + nn20), (ns + ss20))) rfl ?_
          refine to_n 3 (fr' := (792, [(0, .ref 1000000), (1, .ref 0), (2, .ref 49), (3, .ref 85), (4, .int ((nI i) + 6)), (5, .int x20), (6, .int x21)], [], gh S a b sc21 ar21 lo20, ex20, (nc + nn20), (ns + ss20))) rfl ?_
          rw [show ((nI i) + 6 : Int32) = nI (i + 6) from nI_add _ 6]
          refine to_n 1 (fr' := (43, [(0, .ref 1000000), (1, .ref 0), (2, .ref 49), (3, .ref 85), (4, .int (nI (i + 6))), (5, .int x20), (6, .int x21)], [], gh S a b sc21 ar21 lo20, ex20, (nc + nn20), (ns + ss20))) rfl ?_
          refine to_lv (lv := [(0, .ref 1000000), (1, .ref 0), (2, .ref 49), (3, .ref 85), (4, .int (nI (i + 6)))]) rfl ⟨rfl, rfl, rfl, rfl, rfl, trivial⟩ ?_
          exact ih (i + 6) sc21 ar21 lo20 ex20 (nc + nn20) (ns + ss20) (by omega) (by omega) hI21 hL21 hR21 (by omega) (by omega)
        · refine to_eq (fr' := (476, [(0, .ref 1000000), (1, .ref 0), (2, .ref 49), (3, .ref 85), (4, .int (nI i))], [], gh S a b sc ar lo, ex, nc, ns)) rfl ?_
          refine to_n 1 (fr' := (477, [(0, .ref 1000000), (1, .ref 0), (2, .ref 49), (3, .ref 85), (4, .int (nI i))], [.ref 0], gh S a b sc ar lo, ex, nc, ns)) rfl ?_
          refine to_ci (q := 79) (M1 := an_X9_fault) (rest := []) rfl rfl (by decide) rfl ⟨_, rfl⟩ (sf_X9_fault hW hI  (d + 35)) (fun x22 sc22 ar22 hx22 => ?_)
          obtain ⟨hI22, hG22, hx22⟩ := hx22
          have hL22 : Lw sc22 ar22 := lw_fr hLw hG22 (by decide) (by decide) (by decide) (by decide)
          clear hx22
          have hR22 : Rw S sc22 ar22 := rw_f hR hG22 (by decide) (by decide) (by decide)
          refine to_eq (fr' := (480, [(0, .ref 1000000), (1, .ref 0), (2, .ref 49), (3, .ref 85), (4, .int (nI i))], [.int x22], gh S a b sc22 ar22 lo, ex, nc, ns)) rfl ?_
          refine to_n 2 (fr' := (482, [(0, .ref 1000000), (1, .ref 0), (2, .ref 49), (3, .ref 85), (4, .int (nI i))], [.ref 49], gh S a b sc22 ar22 lo, ex, nc, ns)) rfl ?_
          refine to_ci (q := 133) (M1 := an_X10_fault) (rest := []) rfl rfl (by decide) rfl ⟨_, rfl⟩ (sf_X10_fault hW hI22  (d + 35)) (fun x23 sc23 ar23 hx23 => ?_)
          obtain ⟨hI23, hG23, hx23⟩ := hx23
          have hL23 : Lw sc23 ar23 := lw_fr hL22 hG23 (by decide) (by decide) (by decide) (by decide)
          clear hx23
          have hR23 : Rw S sc23 ar23 := rw_f hR22 hG23 (by decide) (by decide) (by decide)
          refine to_eq (fr' := (485, [(0, .ref 1000000), (1, .ref 0), (2, .ref 49), (3, .ref 85), (4, .int (nI i))], [.int x23], gh S a b sc23 ar23 lo, ex, nc, ns)) rfl ?_
          refine to_n 3 (fr' := (792, [(0, .ref 1000000), (1, .ref 0), (2, .ref 49), (3, .ref 85), (4, .int ((nI i) + 6))], [], gh S a b sc23 ar23 lo, ex, nc, ns)) rfl ?_
          rw [show ((nI i) + 6 : Int32) = nI (i + 6) from nI_add _ 6]
          refine to_n 1 (fr' := (43, [(0, .ref 1000000), (1, .ref 0), (2, .ref 49), (3, .ref 85), (4, .int (nI (i + 6)))], [], gh S a b sc23 ar23 lo, ex, nc, ns)) rfl ?_
          exact ih (i + 6) sc23 ar23 lo ex nc ns (by omega) (by omega) hI23 hL23 hR23 (by omega) (by omega)
        · refine to_eq (fr' := (489, [(0, .ref 1000000), (1, .ref 0), (2, .ref 49), (3, .ref 85), (4, .int (nI i))], [], gh S a b sc ar lo, ex, nc, ns)) rfl ?_
          refine to_n 4 (fr' := (494, [(0, .ref 1000000), (1, .ref 0), (2, .ref 49), (3, .ref 85), (4, .int (nI i))], [.int 1, .int (nI i), .ref 1000000, .ref 0], gh S a b sc ar lo, ex, nc, ns)) rfl ?_
          refine to_addN (x := i) (y := 1) rfl ?_
          refine to_ldx (i := (i + 1)) rfl (by omega) (by omega) ?_
          refine to_n 1 (fr' := (497, [(0, .ref 1000000), (1, .ref 0), (2, .ref 49), (3, .ref 85), (4, .int (nI i))], [.ref 85, .int (X.2 (i + 1)), .ref 0], gh S a b sc ar lo, ex, nc, ns)) rfl ?_
          refine to_cl (q := 175) (M1 := an_L_light) (rest := []) rfl rfl (by decide) rfl trivial (lc_light hW hI (X.2 (i + 1)) hR.1 (d + 28)) (fun x24 sc24 ar24 lo24 ex24 nn24 ss24 hx24 hn24 hs24 => ?_)
          obtain ⟨hI24, hG24, hk24⟩ := hx24
          have hL24 : Lw sc24 ar24 := lw_fr hLw hG24 (by decide) (by decide) (by decide) (by decide)
          have hR24 : Rw S sc24 ar24 := rw_k hR hk24 hG24 (by decide)
          refine to_eq (fr' := (500, [(0, .ref 1000000), (1, .ref 0), (2, .ref 49), (3, .ref 85), (4, .int (nI i))], [.int x24], gh S a b sc24 ar24 lo24, ex24, (nc + nn24), (ns + ss24))) rfl ?_
          refine to_n 5 (fr' := (507, [(0, .ref 1000000), (1, .ref 0), (2, .ref 49), (3, .ref 85), (4, .int (nI i)), (5, .int x24)], [.int 1, .int (nI i), .ref 1000000, .ref 49], gh S a b sc24 ar24 lo24, ex24, (nc + nn24), (ns + ss24))) rfl ?_
          refine to_addN (x := i) (y := 1) rfl ?_
          refine to_ldx (i := (i + 1)) rfl (by omega) (by omega) ?_
          refine to_ci (q := 144) (M1 := an_X10_light) (rest := []) rfl rfl (by decide) rfl ⟨_, rfl⟩ (sf_X10_light hW hI24 (X.2 (i + 1)) hL24 hR24.1 (d + 29)) (fun x25 sc25 ar25 hx25 => ?_)
          obtain ⟨hI25, hG25, hk25, hx25⟩ := hx25
          have hL25 : Lw sc25 ar25 := lw_fr hL24 hG25 (by decide) (by decide) (by decide) (by decide)
          clear hx25
          have hR25 : Rw S sc25 ar25 := rw_k hR24 hk25 hG25 (by decide)
          refine to_eq (fr' := (512, [(0, .ref 1000000), (1, .ref 0), (2, .ref 49), (3, .ref 85), (4, .int (nI i)), (5, .int x24)], [.int x25], gh S a b sc25 ar25 lo24, ex24, (nc + nn24), (ns + ss24))) rfl ?_
          refine to_n 3 (fr' := (792, [(0, .ref 1000000), (1, .ref 0), (2, .ref 49), (3, .ref 85), (4, .int ((nI i) + 6)), (5, .int x24), (6, .int x25)], [], gh S a b sc25 ar25 lo24, ex24, (nc + nn24), (ns + ss24))) rfl ?_
          rw [show ((nI i) + 6 : Int32) = nI (i + 6) from nI_add _ 6]
          refine to_n 1 (fr' := (43, [(0, .ref 1000000), (1, .ref 0), (2, .ref 49), (3, .ref 85), (4, .int (nI (i + 6))), (5, .int x24), (6, .int x25)], [], gh S a b sc25 ar25 lo24, ex24, (nc + nn24), (ns + ss24))) rfl ?_
          refine to_lv (lv := [(0, .ref 1000000), (1, .ref 0), (2, .ref 49), (3, .ref 85), (4, .int (nI (i + 6)))]) rfl ⟨rfl, rfl, rfl, rfl, rfl, trivial⟩ ?_
          exact ih (i + 6) sc25 ar25 lo24 ex24 (nc + nn24) (ns + ss24) (by omega) (by omega) hI25 hL25 hR25 (by omega) (by omega)
        · refine to_eq (fr' := (517, [(0, .ref 1000000), (1, .ref 0), (2, .ref 49), (3, .ref 85), (4, .int (nI i))], [], gh S a b sc ar lo, ex, nc, ns)) rfl ?_
          refine to_n 4 (fr' := (522, [(0, .ref 1000000), (1, .ref 0), (2, .ref 49), (3, .ref 85), (4, .int (nI i))], [.int 1, .int (nI i), .ref 1000000, .ref 0], gh S a b sc ar lo, ex, nc, ns)) rfl ?_
          refine to_addN (x := i) (y := 1) rfl ?_
          refine to_ldx (i := (i + 1)) rfl (by omega) (by omega) ?_
          refine to_n 3 (fr' := (528, [(0, .ref 1000000), (1, .ref 0), (2, .ref 49), (3, .ref 85), (4, .int (nI i))], [.int 2, .int (nI i), .ref 1000000, .int (X.2 (i + 1)), .ref 0], gh S a b sc ar lo, ex, nc, ns)) rfl ?_
          refine to_addN (x := i) (y := 2) rfl ?_
          refine to_ldx (i := (i + 2)) rfl (by omega) (by omega) ?_
          refine to_n 1 (fr' := (531, [(0, .ref 1000000), (1, .ref 0), (2, .ref 49), (3, .ref 85), (4, .int (nI i))], [.ref 85, .int (X.2 (i + 2)), .int (X.2 (i + 1)), .ref 0], gh S a b sc ar lo, ex, nc, ns)) rfl ?_
          refine to_cl (q := 176) (M1 := an_L_send) (rest := []) rfl rfl (by decide) rfl trivial (lc_send hW hI (X.2 (i + 1)) (X.2 (i + 2)) hR.1 (d + 31)) (fun x26 sc26 ar26 lo26 ex26 nn26 ss26 hx26 hn26 hs26 => ?_)
          obtain ⟨hI26, hG26, hk26⟩ := hx26
          have hL26 : Lw sc26 ar26 := lw_fr hLw hG26 (by decide) (by decide) (by decide) (by decide)
          have hR26 : Rw S sc26 ar26 := rw_k hR hk26 hG26 (by decide)
          refine to_eq (fr' := (534, [(0, .ref 1000000), (1, .ref 0), (2, .ref 49), (3, .ref 85), (4, .int (nI i))], [.int x26], gh S a b sc26 ar26 lo26, ex26, (nc + nn26), (ns + ss26))) rfl ?_
          refine to_n 5 (fr' := (541, [(0, .ref 1000000), (1, .ref 0), (2, .ref 49), (3, .ref 85), (4, .int (nI i)), (5, .int x26)], [.int 1, .int (nI i), .ref 1000000, .ref 49], gh S a b sc26 ar26 lo26, ex26, (nc + nn26), (ns + ss26))) rfl ?_
          refine to_addN (x := i) (y := 1) rfl ?_
          refine to_ldx (i := (i + 1)) rfl (by omega) (by omega) ?_
          refine to_n 3 (fr' := (547, [(0, .ref 1000000), (1, .ref 0), (2, .ref 49), (3, .ref 85), (4, .int (nI i)), (5, .int x26)], [.int 2, .int (nI i), .ref 1000000, .int (X.2 (i + 1)), .ref 49], gh S a b sc26 ar26 lo26, ex26, (nc + nn26), (ns + ss26))) rfl ?_
          refine to_addN (x := i) (y := 2) rfl ?_
          refine to_ldx (i := (i + 2)) rfl (by omega) (by omega) ?_
          refine to_ci (q := 146) (M1 := an_X10_send) (rest := []) rfl rfl (by decide) rfl ⟨_, rfl⟩ (sf_X10_send hW hI26 (X.2 (i + 1)) (X.2 (i + 2)) hR26.1 (d + 33)) (fun x27 sc27 ar27 hx27 => ?_)
          obtain ⟨hI27, hG27, hk27, hx27⟩ := hx27
          have hL27 : Lw sc27 ar27 := lw_fr hL26 hG27 (by decide) (by decide) (by decide) (by decide)
          clear hx27
          have hR27 : Rw S sc27 ar27 := rw_k hR26 hk27 hG27 (by decide)
          refine to_eq (fr' := (552, [(0, .ref 1000000), (1, .ref 0), (2, .ref 49), (3, .ref 85), (4, .int (nI i)), (5, .int x26)], [.int x27], gh S a b sc27 ar27 lo26, ex26, (nc + nn26), (ns + ss26))) rfl ?_
          refine to_n 3 (fr' := (792, [(0, .ref 1000000), (1, .ref 0), (2, .ref 49), (3, .ref 85), (4, .int ((nI i) + 6)), (5, .int x26), (6, .int x27)], [], gh S a b sc27 ar27 lo26, ex26, (nc + nn26), (ns + ss26))) rfl ?_
          rw [show ((nI i) + 6 : Int32) = nI (i + 6) from nI_add _ 6]
          refine to_n 1 (fr' := (43, [(0, .ref 1000000), (1, .ref 0), (2, .ref 49), (3, .ref 85), (4, .int (nI (i + 6))), (5, .int x26), (6, .int x27)], [], gh S a b sc27 ar27 lo26, ex26, (nc + nn26), (ns + ss26))) rfl ?_
          refine to_lv (lv := [(0, .ref 1000000), (1, .ref 0), (2, .ref 49), (3, .ref 85), (4, .int (nI (i + 6)))]) rfl ⟨rfl, rfl, rfl, rfl, rfl, trivial⟩ ?_
          exact ih (i + 6) sc27 ar27 lo26 ex26 (nc + nn26) (ns + ss26) (by omega) (by omega) hI27 hL27 hR27 (by omega) (by omega)
        · refine to_eq (fr' := (557, [(0, .ref 1000000), (1, .ref 0), (2, .ref 49), (3, .ref 85), (4, .int (nI i))], [], gh S a b sc ar lo, ex, nc, ns)) rfl ?_
          refine to_n 4 (fr' := (562, [(0, .ref 1000000), (1, .ref 0), (2, .ref 49), (3, .ref 85), (4, .int (nI i))], [.int 1, .int (nI i), .ref 1000000, .ref 0], gh S a b sc ar lo, ex, nc, ns)) rfl ?_
          refine to_addN (x := i) (y := 1) rfl ?_
          refine to_ldx (i := (i + 1)) rfl (by omega) (by omega) ?_
          refine to_n 3 (fr' := (568, [(0, .ref 1000000), (1, .ref 0), (2, .ref 49), (3, .ref 85), (4, .int (nI i))], [.int 2, .int (nI i), .ref 1000000, .int (X.2 (i + 1)), .ref 0], gh S a b sc ar lo, ex, nc, ns)) rfl ?_
          refine to_addN (x := i) (y := 2) rfl ?_
          refine to_ldx (i := (i + 2)) rfl (by omega) (by omega) ?_
          refine to_n 1 (fr' := (571, [(0, .ref 1000000), (1, .ref 0), (2, .ref 49), (3, .ref 85), (4, .int (nI i))], [.ref 85, .int (X.2 (i + 2)), .int (X.2 (i + 1)), .ref 0], gh S a b sc ar lo, ex, nc, ns)) rfl ?_
          refine to_cl (q := 177) (M1 := an_L_pull) (rest := []) rfl rfl (by decide) rfl trivial (lc_pull hW hI (X.2 (i + 1)) (X.2 (i + 2)) hR.1 (d + 31)) (fun x28 sc28 ar28 lo28 ex28 nn28 ss28 hx28 hn28 hs28 => ?_)
          obtain ⟨hI28, hG28, hk28⟩ := hx28
          have hL28 : Lw sc28 ar28 := lw_fr hLw hG28 (by decide) (by decide) (by decide) (by decide)
          have hR28 : Rw S sc28 ar28 := rw_k hR hk28 hG28 (by decide)
          refine to_eq (fr' := (574, [(0, .ref 1000000), (1, .ref 0), (2, .ref 49), (3, .ref 85), (4, .int (nI i))], [.int x28], gh S a b sc28 ar28 lo28, ex28, (nc + nn28), (ns + ss28))) rfl ?_
          refine to_n 5 (fr' := (581, [(0, .ref 1000000), (1, .ref 0), (2, .ref 49), (3, .ref 85), (4, .int (nI i)), (5, .int x28)], [.int 1, .int (nI i), .ref 1000000, .ref 49], gh S a b sc28 ar28 lo28, ex28, (nc + nn28), (ns + ss28))) rfl ?_
          refine to_addN (x := i) (y := 1) rfl ?_
          refine to_ldx (i := (i + 1)) rfl (by omega) (by omega) ?_
          refine to_n 3 (fr' := (587, [(0, .ref 1000000), (1, .ref 0), (2, .ref 49), (3, .ref 85), (4, .int (nI i)), (5, .int x28)], [.int 2, .int (nI i), .ref 1000000, .int (X.2 (i + 1)), .ref 49], gh S a b sc28 ar28 lo28, ex28, (nc + nn28), (ns + ss28))) rfl ?_
          refine to_addN (x := i) (y := 2) rfl ?_
          refine to_ldx (i := (i + 2)) rfl (by omega) (by omega) ?_
          refine to_ci (q := 147) (M1 := an_X10_pull) (rest := []) rfl rfl (by decide) rfl ⟨_, rfl⟩ (sf_X10_pull hW hI28 (X.2 (i + 1)) (X.2 (i + 2)) hR28.1 (d + 33)) (fun x29 sc29 ar29 hx29 => ?_)
          obtain ⟨hI29, hG29, hk29, hx29⟩ := hx29
          have hL29 : Lw sc29 ar29 := lw_fr hL28 hG29 (by decide) (by decide) (by decide) (by decide)
          clear hx29
          have hR29 : Rw S sc29 ar29 := rw_k hR28 hk29 hG29 (by decide)
          refine to_eq (fr' := (592, [(0, .ref 1000000), (1, .ref 0), (2, .ref 49), (3, .ref 85), (4, .int (nI i)), (5, .int x28)], [.int x29], gh S a b sc29 ar29 lo28, ex28, (nc + nn28), (ns + ss28))) rfl ?_
          refine to_n 3 (fr' := (792, [(0, .ref 1000000), (1, .ref 0), (2, .ref 49), (3, .ref 85), (4, .int ((nI i) + 6)), (5, .int x28), (6, .int x29)], [], gh S a b sc29 ar29 lo28, ex28, (nc + nn28), (ns + ss28))) rfl ?_
          rw [show ((nI i) + 6 : Int32) = nI (i + 6) from nI_add _ 6]
          refine to_n 1 (fr' := (43, [(0, .ref 1000000), (1, .ref 0), (2, .ref 49), (3, .ref 85), (4, .int (nI (i + 6))), (5, .int x28), (6, .int x29)], [], gh S a b sc29 ar29 lo28, ex28, (nc + nn28), (ns + ss28))) rfl ?_
          refine to_lv (lv := [(0, .ref 1000000), (1, .ref 0), (2, .ref 49), (3, .ref 85), (4, .int (nI (i + 6)))]) rfl ⟨rfl, rfl, rfl, rfl, rfl, trivial⟩ ?_
          exact ih (i + 6) sc29 ar29 lo28 ex28 (nc + nn28) (ns + ss28) (by omega) (by omega) hI29 hL29 hR29 (by omega) (by omega)
        · refine to_eq (fr' := (597, [(0, .ref 1000000), (1, .ref 0), (2, .ref 49), (3, .ref 85), (4, .int (nI i))], [], gh S a b sc ar lo, ex, nc, ns)) rfl ?_
          refine to_n 4 (fr' := (602, [(0, .ref 1000000), (1, .ref 0), (2, .ref 49), (3, .ref 85), (4, .int (nI i))], [.int 1, .int (nI i), .ref 1000000, .ref 0], gh S a b sc ar lo, ex, nc, ns)) rfl ?_
          refine to_addN (x := i) (y := 1) rfl ?_
          refine to_ldx (i := (i + 1)) rfl (by omega) (by omega) ?_
          refine to_n 1 (fr' := (605, [(0, .ref 1000000), (1, .ref 0), (2, .ref 49), (3, .ref 85), (4, .int (nI i))], [.ref 85, .int (X.2 (i + 1)), .ref 0], gh S a b sc ar lo, ex, nc, ns)) rfl ?_
          refine to_cl (q := 178) (M1 := an_L_hours) (rest := []) rfl rfl (by decide) rfl trivial (lc_hours hW hI (X.2 (i + 1)) hR.1 (d + 27)) (fun x30 sc30 ar30 lo30 ex30 nn30 ss30 hx30 hn30 hs30 => ?_)
          obtain ⟨hI30, hG30, hk30, hx30⟩ := hx30
          have hL30 : Lw sc30 ar30 := lw_fr hLw hG30 (by decide) (by decide) (by decide) (by decide)
          clear hx30
          have hR30 : Rw S sc30 ar30 := rw_k hR hk30 hG30 (by decide)
          refine to_eq (fr' := (608, [(0, .ref 1000000), (1, .ref 0), (2, .ref 49), (3, .ref 85), (4, .int (nI i))], [.int x30], gh S a b sc30 ar30 lo30, ex30, (nc + nn30), (ns + ss30))) rfl ?_
          refine to_n 5 (fr' := (615, [(0, .ref 1000000), (1, .ref 0), (2, .ref 49), (3, .ref 85), (4, .int (nI i)), (5, .int x30)], [.int 1, .int (nI i), .ref 1000000, .ref 49], gh S a b sc30 ar30 lo30, ex30, (nc + nn30), (ns + ss30))) rfl ?_
          refine to_addN (x := i) (y := 1) rfl ?_
          refine to_ldx (i := (i + 1)) rfl (by omega) (by omega) ?_
          refine to_ci (q := 157) (M1 := an_X10_hours) (rest := []) rfl rfl (by decide) rfl ⟨_, rfl⟩ (sf_X10_hours hW hI30 (X.2 (i + 1)) hL30 hR30.1 (d + 29)) (fun x31 sc31 ar31 hx31 => ?_)
          obtain ⟨hI31, hG31, hk31, hx31⟩ := hx31
          have hL31 : Lw sc31 ar31 := lw_fr hL30 hG31 (by decide) (by decide) (by decide) (by decide)
          clear hx31
          have hR31 : Rw S sc31 ar31 := rw_k hR30 hk31 hG31 (by decide)
          refine to_eq (fr' := (620, [(0, .ref 1000000), (1, .ref 0), (2, .ref 49), (3, .ref 85), (4, .int (nI i)), (5, .int x30)], [.int x31], gh S a b sc31 ar31 lo30, ex30, (nc + nn30), (ns + ss30))) rfl ?_
          refine to_n 3 (fr' := (792, [(0, .ref 1000000), (1, .ref 0), (2, .ref 49), (3, .ref 85), (4, .int ((nI i) + 6)), (5, .int x30), (6, .int x31)], [], gh S a b sc31 ar31 lo30, ex30, (nc + nn30), (ns + ss30))) rfl ?_
          rw [show ((nI i) + 6 : Int32) = nI (i + 6) from nI_add _ 6]
          refine to_n 1 (fr' := (43, [(0, .ref 1000000), (1, .ref 0), (2, .ref 49), (3, .ref 85), (4, .int (nI (i + 6))), (5, .int x30), (6, .int x31)], [], gh S a b sc31 ar31 lo30, ex30, (nc + nn30), (ns + ss30))) rfl ?_
          refine to_lv (lv := [(0, .ref 1000000), (1, .ref 0), (2, .ref 49), (3, .ref 85), (4, .int (nI (i + 6)))]) rfl ⟨rfl, rfl, rfl, rfl, rfl, trivial⟩ ?_
          exact ih (i + 6) sc31 ar31 lo30 ex30 (nc + nn30) (ns + ss30) (by omega) (by omega) hI31 hL31 hR31 (by omega) (by omega)
        · refine to_eq (fr' := (625, [(0, .ref 1000000), (1, .ref 0), (2, .ref 49), (3, .ref 85), (4, .int (nI i))], [], gh S a b sc ar lo, ex, nc, ns)) rfl ?_
          refine to_n 4 (fr' := (630, [(0, .ref 1000000), (1, .ref 0), (2, .ref 49), (3, .ref 85), (4, .int (nI i))], [.int 1, .int (nI i), .ref 1000000, .ref 0], gh S a b sc ar lo, ex, nc, ns)) rfl ?_
          refine to_addN (x := i) (y := 1) rfl ?_
          refine to_ldx (i := (i + 1)) rfl (by omega) (by omega) ?_
          refine to_n 3 (fr' := (636, [(0, .ref 1000000), (1, .ref 0), (2, .ref 49), (3, .ref 85), (4, .int (nI i))], [.int 2, .int (nI i), .ref 1000000, .int (X.2 (i + 1)), .ref 0], gh S a b sc ar lo, ex, nc, ns)) rfl ?_
          refine to_addN (x := i) (y := 2) rfl ?_
          refine to_ldx (i := (i + 2)) rfl (by omega) (by omega) ?_
          refine to_n 1 (fr' := (639, [(0, .ref 1000000), (1, .ref 0), (2, .ref 49), (3, .ref 85), (4, .int (nI i))], [.ref 85, .int (X.2 (i + 2)), .int (X.2 (i + 1)), .ref 0], gh S a b sc ar lo, ex, nc, ns)) rfl ?_
          refine to_cl (q := 179) (M1 := an_L_cell_) (rest := []) rfl rfl (by decide) rfl trivial (lc_cell_ hW hI (X.2 (i + 1)) (X.2 (i + 2)) (d + 32)) (fun x32 sc32 ar32 lo32 ex32 nn32 ss32 hx32 hn32 hs32 => ?_)
          obtain ⟨hI32, hG32⟩ := hx32
          have hL32 : Lw sc32 ar32 := lw_fr hLw hG32 (by decide) (by decide) (by decide) (by decide)
          have hR32 : Rw S sc32 ar32 := rw_f hR hG32 (by decide) (by decide) (by decide)
          refine to_eq (fr' := (642, [(0, .ref 1000000), (1, .ref 0), (2, .ref 49), (3, .ref 85), (4, .int (nI i))], [.int x32], gh S a b sc32 ar32 lo32, ex32, (nc + nn32), (ns + ss32))) rfl ?_
          refine to_n 5 (fr' := (649, [(0, .ref 1000000), (1, .ref 0), (2, .ref 49), (3, .ref 85), (4, .int (nI i)), (5, .int x32)], [.int 1, .int (nI i), .ref 1000000, .ref 49], gh S a b sc32 ar32 lo32, ex32, (nc + nn32), (ns + ss32))) rfl ?_
          refine to_addN (x := i) (y := 1) rfl ?_
          refine to_ldx (i := (i + 1)) rfl (by omega) (by omega) ?_
          refine to_n 3 (fr' := (655, [(0, .ref 1000000), (1, .ref 0), (2, .ref 49), (3, .ref 85), (4, .int (nI i)), (5, .int x32)], [.int 2, .int (nI i), .ref 1000000, .int (X.2 (i + 1)), .ref 49], gh S a b sc32 ar32 lo32, ex32, (nc + nn32), (ns + ss32))) rfl ?_
          refine to_addN (x := i) (y := 2) rfl ?_
          refine to_ldx (i := (i + 2)) rfl (by omega) (by omega) ?_
          refine to_ci (q := 158) (M1 := an_X10_cell) (rest := []) rfl rfl (by decide) rfl ⟨_, rfl⟩ (sf_X10_cell hW hI32 (X.2 (i + 1)) (X.2 (i + 2)) (d + 34)) (fun x33 sc33 ar33 hx33 => ?_)
          obtain ⟨hI33, hG33, hx33⟩ := hx33
          have hL33 : Lw sc33 ar33 := lw_fr hL32 hG33 (by decide) (by decide) (by decide) (by decide)
          clear hx33
          have hR33 : Rw S sc33 ar33 := rw_f hR32 hG33 (by decide) (by decide) (by decide)
          refine to_eq (fr' := (660, [(0, .ref 1000000), (1, .ref 0), (2, .ref 49), (3, .ref 85), (4, .int (nI i)), (5, .int x32)], [.int x33], gh S a b sc33 ar33 lo32, ex32, (nc + nn32), (ns + ss32))) rfl ?_
          refine to_n 3 (fr' := (792, [(0, .ref 1000000), (1, .ref 0), (2, .ref 49), (3, .ref 85), (4, .int ((nI i) + 6)), (5, .int x32), (6, .int x33)], [], gh S a b sc33 ar33 lo32, ex32, (nc + nn32), (ns + ss32))) rfl ?_
          rw [show ((nI i) + 6 : Int32) = nI (i + 6) from nI_add _ 6]
          refine to_n 1 (fr' := (43, [(0, .ref 1000000), (1, .ref 0), (2, .ref 49), (3, .ref 85), (4, .int (nI (i + 6))), (5, .int x32), (6, .int x33)], [], gh S a b sc33 ar33 lo32, ex32, (nc + nn32), (ns + ss32))) rfl ?_
          refine to_lv (lv := [(0, .ref 1000000), (1, .ref 0), (2, .ref 49), (3, .ref 85), (4, .int (nI (i + 6)))]) rfl ⟨rfl, rfl, rfl, rfl, rfl, trivial⟩ ?_
          exact ih (i + 6) sc33 ar33 lo32 ex32 (nc + nn32) (ns + ss32) (by omega) (by omega) hI33 hL33 hR33 (by omega) (by omega)
        · refine to_eq (fr' := (665, [(0, .ref 1000000), (1, .ref 0), (2, .ref 49), (3, .ref 85), (4, .int (nI i))], [], gh S a b sc ar lo, ex, nc, ns)) rfl ?_
          refine to_n 4 (fr' := (670, [(0, .ref 1000000), (1, .ref 0), (2, .ref 49), (3, .ref 85), (4, .int (nI i))], [.int 1, .int (nI i), .ref 1000000, .ref 0], gh S a b sc ar lo, ex, nc, ns)) rfl ?_
          refine to_addN (x := i) (y := 1) rfl ?_
          refine to_ldx (i := (i + 1)) rfl (by omega) (by omega) ?_
          refine to_n 3 (fr' := (676, [(0, .ref 1000000), (1, .ref 0), (2, .ref 49), (3, .ref 85), (4, .int (nI i))], [.int 2, .int (nI i), .ref 1000000, .int (X.2 (i + 1)), .ref 0], gh S a b sc ar lo, ex, nc, ns)) rfl ?_
          refine to_addN (x := i) (y := 2) rfl ?_
          refine to_ldx (i := (i + 2)) rfl (by omega) (by omega) ?_
          refine to_n 1 (fr' := (679, [(0, .ref 1000000), (1, .ref 0), (2, .ref 49), (3, .ref 85), (4, .int (nI i))], [.ref 85, .int (X.2 (i + 2)), .int (X.2 (i + 1)), .ref 0], gh S a b sc ar lo, ex, nc, ns)) rfl ?_
          refine to_cl (q := 180) (M1 := an_L_of) (rest := []) rfl rfl (by decide) rfl trivial (lc_of hW hI (X.2 (i + 1)) (X.2 (i + 2)) (d + 32)) (fun x34 sc34 ar34 lo34 ex34 nn34 ss34 hx34 hn34 hs34 => ?_)
          obtain ⟨hI34, hG34⟩ := hx34
          have hL34 : Lw sc34 ar34 := lw_fr hLw hG34 (by decide) (by decide) (by decide) (by decide)
          have hR34 : Rw S sc34 ar34 := rw_f hR hG34 (by decide) (by decide) (by decide)
          refine to_eq (fr' := (682, [(0, .ref 1000000), (1, .ref 0), (2, .ref 49), (3, .ref 85), (4, .int (nI i))], [.int x34], gh S a b sc34 ar34 lo34, ex34, (nc + nn34), (ns + ss34))) rfl ?_
          refine to_n 5 (fr' := (689, [(0, .ref 1000000), (1, .ref 0), (2, .ref 49), (3, .ref 85), (4, .int (nI i)), (5, .int x34)], [.int 1, .int (nI i), .ref 1000000, .ref 49], gh S a b sc34 ar34 lo34, ex34, (nc + nn34), (ns + ss34))) rfl ?_
          refine to_addN (x := i) (y := 1) rfl ?_
          refine to_ldx (i := (i + 1)) rfl (by omega) (by omega) ?_
          refine to_n 3 (fr' := (695, [(0, .ref 1000000), (1, .ref 0), (2, .ref 49), (3, .ref 85), (4, .int (nI i)), (5, .int x34)], [.int 2, .int (nI i), .ref 1000000, .int (X.2 (i + 1)), .ref 49], gh S a b sc34 ar34 lo34, ex34, (nc + nn34), (ns + ss34))) rfl ?_
          refine to_addN (x := i) (y := 2) rfl ?_
          refine to_ldx (i := (i + 2)) rfl (by omega) (by omega) ?_
          refine to_ci (q := 159) (M1 := an_X10_of) (rest := []) rfl rfl (by decide) rfl ⟨_, rfl⟩ (sf_X10_of hW hI34 (X.2 (i + 1)) (X.2 (i + 2)) (d + 34)) (fun x35 sc35 ar35 hx35 => ?_)
          obtain ⟨hI35, hG35, hx35⟩ := hx35
          have hL35 : Lw sc35 ar35 := lw_fr hL34 hG35 (by decide) (by decide) (by decide) (by decide)
          clear hx35
          have hR35 : Rw S sc35 ar35 := rw_f hR34 hG35 (by decide) (by decide) (by decide)
          refine to_eq (fr' := (700, [(0, .ref 1000000), (1, .ref 0), (2, .ref 49), (3, .ref 85), (4, .int (nI i)), (5, .int x34)], [.int x35], gh S a b sc35 ar35 lo34, ex34, (nc + nn34), (ns + ss34))) rfl ?_
          refine to_n 3 (fr' := (792, [(0, .ref 1000000), (1, .ref 0), (2, .ref 49), (3, .ref 85), (4, .int ((nI i) + 6)), (5, .int x34), (6, .int x35)], [], gh S a b sc35 ar35 lo34, ex34, (nc + nn34), (ns + ss34))) rfl ?_
          rw [show ((nI i) + 6 : Int32) = nI (i + 6) from nI_add _ 6]
          refine to_n 1 (fr' := (43, [(0, .ref 1000000), (1, .ref 0), (2, .ref 49), (3, .ref 85), (4, .int (nI (i + 6))), (5, .int x34), (6, .int x35)], [], gh S a b sc35 ar35 lo34, ex34, (nc + nn34), (ns + ss34))) rfl ?_
          refine to_lv (lv := [(0, .ref 1000000), (1, .ref 0), (2, .ref 49), (3, .ref 85), (4, .int (nI (i + 6)))]) rfl ⟨rfl, rfl, rfl, rfl, rfl, trivial⟩ ?_
          exact ih (i + 6) sc35 ar35 lo34 ex34 (nc + nn34) (ns + ss34) (by omega) (by omega) hI35 hL35 hR35 (by omega) (by omega)
        · refine to_eq (fr' := (705, [(0, .ref 1000000), (1, .ref 0), (2, .ref 49), (3, .ref 85), (4, .int (nI i))], [], gh S a b sc ar lo, ex, nc, ns)) rfl ?_
          refine to_n 4 (fr' := (710, [(0, .ref 1000000), (1, .ref 0), (2, .ref 49), (3, .ref 85), (4, .int (nI i))], [.int 1, .int (nI i), .ref 1000000, .ref 0], gh S a b sc ar lo, ex, nc, ns)) rfl ?_
          refine to_addN (x := i) (y := 1) rfl ?_
          refine to_ldx (i := (i + 1)) rfl (by omega) (by omega) ?_
          refine to_n 1 (fr' := (713, [(0, .ref 1000000), (1, .ref 0), (2, .ref 49), (3, .ref 85), (4, .int (nI i))], [.ref 85, .int (X.2 (i + 1)), .ref 0], gh S a b sc ar lo, ex, nc, ns)) rfl ?_
          refine to_cl (q := 181) (M1 := an_L_breaks) (rest := []) rfl rfl (by decide) rfl trivial (lc_breaks hW hI (X.2 (i + 1)) (d + 29)) (fun x36 sc36 ar36 lo36 ex36 nn36 ss36 hx36 hn36 hs36 => ?_)
          obtain ⟨hI36, hG36⟩ := hx36
          have hL36 : Lw sc36 ar36 := lw_fr hLw hG36 (by decide) (by decide) (by decide) (by decide)
          have hR36 : Rw S sc36 ar36 := rw_f hR hG36 (by decide) (by decide) (by decide)
          refine to_eq (fr' := (716, [(0, .ref 1000000), (1, .ref 0), (2, .ref 49), (3, .ref 85), (4, .int (nI i))], [.int x36], gh S a b sc36 ar36 lo36, ex36, (nc + nn36), (ns + ss36))) rfl ?_
          refine to_n 5 (fr' := (723, [(0, .ref 1000000), (1, .ref 0), (2, .ref 49), (3, .ref 85), (4, .int (nI i)), (5, .int x36)], [.int 1, .int (nI i), .ref 1000000, .ref 49], gh S a b sc36 ar36 lo36, ex36, (nc + nn36), (ns + ss36))) rfl ?_
          refine to_addN (x := i) (y := 1) rfl ?_
          refine to_ldx (i := (i + 1)) rfl (by omega) (by omega) ?_
          refine to_ci (q := 165) (M1 := an_X10_breaks) (rest := []) rfl rfl (by decide) rfl ⟨_, rfl⟩ (sf_X10_breaks hW hI36 (X.2 (i + 1)) (d + 31)) (fun x37 sc37 ar37 hx37 => ?_)
          obtain ⟨hI37, hG37, hx37⟩ := hx37
          have hL37 : Lw sc37 ar37 := lw_fr hL36 hG37 (by decide) (by decide) (by decide) (by decide)
          clear hx37
          have hR37 : Rw S sc37 ar37 := rw_f hR36 hG37 (by decide) (by decide) (by decide)
          refine to_eq (fr' := (728, [(0, .ref 1000000), (1, .ref 0), (2, .ref 49), (3, .ref 85), (4, .int (nI i)), (5, .int x36)], [.int x37], gh S a b sc37 ar37 lo36, ex36, (nc + nn36), (ns + ss36))) rfl ?_
          refine to_n 3 (fr' := (792, [(0, .ref 1000000), (1, .ref 0), (2, .ref 49), (3, .ref 85), (4, .int ((nI i) + 6)), (5, .int x36), (6, .int x37)], [], gh S a b sc37 ar37 lo36, ex36, (nc + nn36), (ns + ss36))) rfl ?_
          rw [show ((nI i) + 6 : Int32) = nI (i + 6) from nI_add _ 6]
          refine to_n 1 (fr' := (43, [(0, .ref 1000000), (1, .ref 0), (2, .ref 49), (3, .ref 85), (4, .int (nI (i + 6))), (5, .int x36), (6, .int x37)], [], gh S a b sc37 ar37 lo36, ex36, (nc + nn36), (ns + ss36))) rfl ?_
          refine to_lv (lv := [(0, .ref 1000000), (1, .ref 0), (2, .ref 49), (3, .ref 85), (4, .int (nI (i + 6)))]) rfl ⟨rfl, rfl, rfl, rfl, rfl, trivial⟩ ?_
          exact ih (i + 6) sc37 ar37 lo36 ex36 (nc + nn36) (ns + ss36) (by omega) (by omega) hI37 hL37 hR37 (by omega) (by omega)
        · refine to_eq (fr' := (733, [(0, .ref 1000000), (1, .ref 0), (2, .ref 49), (3, .ref 85), (4, .int (nI i))], [], gh S a b sc ar lo, ex, nc, ns)) rfl ?_
          refine to_n 4 (fr' := (738, [(0, .ref 1000000), (1, .ref 0), (2, .ref 49), (3, .ref 85), (4, .int (nI i))], [.int 1, .int (nI i), .ref 1000000, .ref 0], gh S a b sc ar lo, ex, nc, ns)) rfl ?_
          refine to_addN (x := i) (y := 1) rfl ?_
          refine to_ldx (i := (i + 1)) rfl (by omega) (by omega) ?_
          refine to_n 1 (fr' := (741, [(0, .ref 1000000), (1, .ref 0), (2, .ref 49), (3, .ref 85), (4, .int (nI i))], [.ref 85, .int (X.2 (i + 1)), .ref 0], gh S a b sc ar lo, ex, nc, ns)) rfl ?_
          refine to_cl (q := 182) (M1 := an_L_breaker) (rest := []) rfl rfl (by decide) rfl trivial (lc_breaker hW hI (X.2 (i + 1)) (d + 34)) (fun x38 sc38 ar38 lo38 ex38 nn38 ss38 hx38 hn38 hs38 => ?_)
          obtain ⟨hI38, hG38⟩ := hx38
          have hL38 : Lw sc38 ar38 := lw_fr hLw hG38 (by decide) (by decide) (by decide) (by decide)
          have hR38 : Rw S sc38 ar38 := rw_f hR hG38 (by decide) (by decide) (by decide)
          refine to_eq (fr' := (744, [(0, .ref 1000000), (1, .ref 0), (2, .ref 49), (3, .ref 85), (4, .int (nI i))], [.int x38], gh S a b sc38 ar38 lo38, ex38, (nc + nn38), (ns + ss38))) rfl ?_
          refine to_n 5 (fr' := (751, [(0, .ref 1000000), (1, .ref 0), (2, .ref 49), (3, .ref 85), (4, .int (nI i)), (5, .int x38)], [.int 1, .int (nI i), .ref 1000000, .ref 49], gh S a b sc38 ar38 lo38, ex38, (nc + nn38), (ns + ss38))) rfl ?_
          refine to_addN (x := i) (y := 1) rfl ?_
          refine to_ldx (i := (i + 1)) rfl (by omega) (by omega) ?_
          refine to_ci (q := 166) (M1 := an_X10_breaker) (rest := []) rfl rfl (by decide) rfl ⟨_, rfl⟩ (sf_X10_breaker hW hI38 (X.2 (i + 1)) (d + 34)) (fun x39 sc39 ar39 hx39 => ?_)
          obtain ⟨hI39, hG39, hx39⟩ := hx39
          have hL39 : Lw sc39 ar39 := lw_fr hL38 hG39 (by decide) (by decide) (by decide) (by decide)
          clear hx39
          have hR39 : Rw S sc39 ar39 := rw_f hR38 hG39 (by decide) (by decide) (by decide)
          refine to_eq (fr' := (756, [(0, .ref 1000000), (1, .ref 0), (2, .ref 49), (3, .ref 85), (4, .int (nI i)), (5, .int x38)], [.int x39], gh S a b sc39 ar39 lo38, ex38, (nc + nn38), (ns + ss38))) rfl ?_
          refine to_n 3 (fr' := (792, [(0, .ref 1000000), (1, .ref 0), (2, .ref 49), (3, .ref 85), (4, .int ((nI i) + 6)), (5, .int x38), (6, .int x39)], [], gh S a b sc39 ar39 lo38, ex38, (nc + nn38), (ns + ss38))) rfl ?_
          rw [show ((nI i) + 6 : Int32) = nI (i + 6) from nI_add _ 6]
          refine to_n 1 (fr' := (43, [(0, .ref 1000000), (1, .ref 0), (2, .ref 49), (3, .ref 85), (4, .int (nI (i + 6))), (5, .int x38), (6, .int x39)], [], gh S a b sc39 ar39 lo38, ex38, (nc + nn38), (ns + ss38))) rfl ?_
          refine to_lv (lv := [(0, .ref 1000000), (1, .ref 0), (2, .ref 49), (3, .ref 85), (4, .int (nI (i + 6)))]) rfl ⟨rfl, rfl, rfl, rfl, rfl, trivial⟩ ?_
          exact ih (i + 6) sc39 ar39 lo38 ex38 (nc + nn38) (ns + ss38) (by omega) (by omega) hI39 hL39 hR39 (by omega) (by omega)
        · refine to_eq (fr' := (761, [(0, .ref 1000000), (1, .ref 0), (2, .ref 49), (3, .ref 85), (4, .int (nI i))], [], gh S a b sc ar lo, ex, nc, ns)) rfl ?_
          refine to_n 4 (fr' := (766, [(0, .ref 1000000), (1, .ref 0), (2, .ref 49), (3, .ref 85), (4, .int (nI i))], [.int 1, .int (nI i), .ref 1000000, .ref 0], gh S a b sc ar lo, ex, nc, ns)) rfl ?_
          refine to_addN (x := i) (y := 1) rfl ?_
          refine to_ldx (i := (i + 1)) rfl (by omega) (by omega) ?_
          refine to_n 1 (fr' := (769, [(0, .ref 1000000), (1, .ref 0), (2, .ref 49), (3, .ref 85), (4, .int (nI i))], [.ref 85, .int (X.2 (i + 1)), .ref 0], gh S a b sc ar lo, ex, nc, ns)) rfl ?_
          refine to_cl (q := 183) (M1 := an_L_count) (rest := []) rfl rfl (by decide) rfl trivial (lc_count hW hI (X.2 (i + 1)) (d + 33)) (fun x40 sc40 ar40 lo40 ex40 nn40 ss40 hx40 hn40 hs40 => ?_)
          obtain ⟨hI40, hG40⟩ := hx40
          have hL40 : Lw sc40 ar40 := lw_fr hLw hG40 (by decide) (by decide) (by decide) (by decide)
          have hR40 : Rw S sc40 ar40 := rw_f hR hG40 (by decide) (by decide) (by decide)
          refine to_eq (fr' := (772, [(0, .ref 1000000), (1, .ref 0), (2, .ref 49), (3, .ref 85), (4, .int (nI i))], [.int x40], gh S a b sc40 ar40 lo40, ex40, (nc + nn40), (ns + ss40))) rfl ?_
          refine to_n 5 (fr' := (779, [(0, .ref 1000000), (1, .ref 0), (2, .ref 49), (3, .ref 85), (4, .int (nI i)), (5, .int x40)], [.int 1, .int (nI i), .ref 1000000, .ref 49], gh S a b sc40 ar40 lo40, ex40, (nc + nn40), (ns + ss40))) rfl ?_
          refine to_addN (x := i) (y := 1) rfl ?_
          refine to_ldx (i := (i + 1)) rfl (by omega) (by omega) ?_
          refine to_ci (q := 167) (M1 := an_X10_count) (rest := []) rfl rfl (by decide) rfl ⟨_, rfl⟩ (sf_X10_count hW hI40 (X.2 (i + 1)) (d + 34)) (fun x41 sc41 ar41 hx41 => ?_)
          obtain ⟨hI41, hG41, hx41⟩ := hx41
          have hL41 : Lw sc41 ar41 := lw_fr hL40 hG41 (by decide) (by decide) (by decide) (by decide)
          clear hx41
          have hR41 : Rw S sc41 ar41 := rw_f hR40 hG41 (by decide) (by decide) (by decide)
          refine to_eq (fr' := (784, [(0, .ref 1000000), (1, .ref 0), (2, .ref 49), (3, .ref 85), (4, .int (nI i)), (5, .int x40)], [.int x41], gh S a b sc41 ar41 lo40, ex40, (nc + nn40), (ns + ss40))) rfl ?_
          refine to_n 3 (fr' := (792, [(0, .ref 1000000), (1, .ref 0), (2, .ref 49), (3, .ref 85), (4, .int ((nI i) + 6)), (5, .int x40), (6, .int x41)], [], gh S a b sc41 ar41 lo40, ex40, (nc + nn40), (ns + ss40))) rfl ?_
          rw [show ((nI i) + 6 : Int32) = nI (i + 6) from nI_add _ 6]
          refine to_n 1 (fr' := (43, [(0, .ref 1000000), (1, .ref 0), (2, .ref 49), (3, .ref 85), (4, .int (nI (i + 6))), (5, .int x40), (6, .int x41)], [], gh S a b sc41 ar41 lo40, ex40, (nc + nn40), (ns + ss40))) rfl ?_
          refine to_lv (lv := [(0, .ref 1000000), (1, .ref 0), (2, .ref 49), (3, .ref 85), (4, .int (nI (i + 6)))]) rfl ⟨rfl, rfl, rfl, rfl, rfl, trivial⟩ ?_
          exact ih (i + 6) sc41 ar41 lo40 ex40 (nc + nn40) (ns + ss40) (by omega) (by omega) hI41 hL41 hR41 (by omega) (by omega)
        · refine to_eq (fr' := (789, [(0, .ref 1000000), (1, .ref 0), (2, .ref 49), (3, .ref 85), (4, .int (nI i))], [], gh S a b sc ar lo, ex, nc, ns)) rfl ?_
          refine to_n 1 (fr' := (792, [(0, .ref 1000000), (1, .ref 0), (2, .ref 49), (3, .ref 85), (4, .int ((nI i) + 6))], [], gh S a b sc ar lo, ex, nc, ns)) rfl ?_
          rw [show ((nI i) + 6 : Int32) = nI (i + 6) from nI_add _ 6]
          refine to_n 1 (fr' := (43, [(0, .ref 1000000), (1, .ref 0), (2, .ref 49), (3, .ref 85), (4, .int (nI (i + 6)))], [], gh S a b sc ar lo, ex, nc, ns)) rfl ?_
          exact ih (i + 6) sc ar lo ex nc ns (by omega) (by omega) hI hLw hR (by omega) (by omega)
