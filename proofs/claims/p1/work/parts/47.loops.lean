set_option maxRecDepth 20000 in
theorem lp_tally {xs : Nat → Int32} {S : Nat} {f1 f2 f3 g1 g2 s1 s2 : Nat → Int32} {a b : Nat} {nc ns : Nat} {d : Nat} {ex : Bool} (hS1 : 1 ≤ S) (hS : S ≤ 64) (hab : nI a * nI b = nI S) (hg : ∀ j, j < S → g1 j = -1) (hs : ∀ j, j < 64 → s1 j = -1) {u v t : Int32} {lo : Nat → Int64} {w : Int32} (hw : ¬ (-1 : Int32) = w) : ∀ m i : Nat, i + m = S → ∀ o, ag_Go (8, xs) d an_X0_tally (31, [(0, .ref 1), (1, .int w), (2, .int 0), (3, .int (nI S))], [], (ah_w S (nI S) f1 f2 f3 g1 g2 u a b s1 s2 v t lo), ex, nc, ns) o → ag_Go (8, xs) d an_X0_tally (4, [(0, .ref 1), (1, .int w), (2, .int 0), (3, .int (nI i))], [], (ah_w S (nI S) f1 f2 f3 g1 g2 u a b s1 s2 v t lo), ex, nc, ns) o := by
  intro m
  induction m with
  | zero =>
    intro i hi o k
    have e : i = S := by omega
    rw [e]
    have hn1 : ¬ nI S < nI S := Int32.lt_irrefl
    have hn2 : ¬ nI S < nI a * nI b := by rw [hab]; exact hn1
    refine go_n 2 (fr' := (6, [(0, .ref 1), (1, .int w), (2, .int 0), (3, .int (nI S))], [.ref 1, .int (nI S)], (ah_w S (nI S) f1 f2 f3 g1 g2 u a b s1 s2 v t lo), ex, nc, ns)) rfl ?_
    refine go_get rfl rfl rfl rfl ?_
    refine go_ic_ge (t := 31) rfl (fun q1 => ?_) (fun q1 => absurd (Int32.not_lt.mp hn1) q1)
    exact k
  | succ m ih =>
    intro i hi o k
    have hl1 : nI i < nI S := nI_lt (by omega) (by omega)
    have hl2 : nI i < nI a * nI b := by rw [hab]; exact hl1
    have hi1 : ai_in (nI i) S = true := ai_in_nI (by omega) (by omega)
    have hi2 : ai_in (nI i) 64 = true := ai_in_nI (by omega) (by omega)
    have hr1 : g1 (nI i).toNatClampNeg = -1 := by rw [nI_clamp (by omega)]; exact hg i (by omega)
    have hr2 : s1 (nI i).toNatClampNeg = -1 := by rw [nI_clamp (by omega)]; exact hs i (by omega)
    have hp : (0 : Int32) < Int32.ofNat S := nI_lt (a := 0) (b := S) (by omega) (by omega)
    refine go_n 2 (fr' := (6, [(0, .ref 1), (1, .int w), (2, .int 0), (3, .int (nI i))], [.ref 1, .int (nI i)], (ah_w S (nI S) f1 f2 f3 g1 g2 u a b s1 s2 v t lo), ex, nc, ns)) rfl ?_
    refine go_get rfl rfl rfl rfl ?_
    refine go_ic_ge (t := 31) rfl (fun q1 => absurd q1 (Int32.not_le.mpr hl1)) (fun q1 => ?_)
    refine go_n 1 (fr' := (13, [(0, .ref 1), (1, .int w), (2, .int 0), (3, .int (nI i))], [.ref 1], (ah_w S (nI S) f1 f2 f3 g1 g2 u a b s1 s2 v t lo), ex, nc, ns)) rfl ?_
    refine go_get rfl rfl rfl rfl ?_
    refine go_n 1 (fr' := (17, [(0, .ref 1), (1, .int w), (2, .int 0), (3, .int (nI i))], [.int (nI i), .ref 5], (ah_w S (nI S) f1 f2 f3 g1 g2 u a b s1 s2 v t lo), ex, nc, ns)) rfl ?_
    refine go_ial rfl (by decide) rfl hi1 ?_
    rw [hr1]
    refine go_n 1 (fr' := (19, [(0, .ref 1), (1, .int w), (2, .int 0), (3, .int (nI i))], [.int w, .int (-1)], (ah_w S (nI S) f1 f2 f3 g1 g2 u a b s1 s2 v t lo), ex, nc, ns)) rfl ?_
    refine go_ic_ne (t := 25) rfl (fun q2 => ?_) (fun q2 => absurd q2 hw)
    refine go_n 2 (fr' := (4, [(0, .ref 1), (1, .int w), (2, .int 0), (3, .int ((nI i) + 1))], [], (ah_w S (nI S) f1 f2 f3 g1 g2 u a b s1 s2 v t lo), ex, nc, ns)) rfl ?_
    rw [nI_1 i]
    refine go_eq (fr' := (4, [(0, .ref 1), (1, .int w), (2, .int 0), (3, .int (nI (i + 1)))], [], (ah_w S (nI S) f1 f2 f3 g1 g2 u a b s1 s2 v t lo), ex, nc, ns)) rfl ?_
    exact ih (i + 1) (by omega) o k
set_option maxRecDepth 20000 in
theorem lp_giveRoofs {xs : Nat → Int32} {S : Nat} {f1 f2 f3 g1 g2 s1 s2 : Nat → Int32} {a b : Nat} {nc ns : Nat} {d : Nat} {ex : Bool} (hS1 : 1 ≤ S) (hS : S ≤ 64) (hab : nI a * nI b = nI S) (hg : ∀ j, j < S → g1 j = -1) (hs : ∀ j, j < 64 → s1 j = -1) {u v t : Int32} {lo : Nat → Int64} : ∀ m i : Nat, i + m = S → ∀ o, ag_Go (8, xs) d an_X9_giveRoofs (50, [(0, .ref 0), (1, .int (nI S))], [], (ah_w S (nI S) f1 f2 f3 g1 g2 u a b s1 s2 v t lo), ex, nc, ns) o → ag_Go (8, xs) d an_X9_giveRoofs (2, [(0, .ref 0), (1, .int (nI i))], [], (ah_w S (nI S) f1 f2 f3 g1 g2 u a b s1 s2 v t lo), ex, nc, ns) o := by
  intro m
  induction m with
  | zero =>
    intro i hi o k
    have e : i = S := by omega
    rw [e]
    have hn1 : ¬ nI S < nI S := Int32.lt_irrefl
    have hn2 : ¬ nI S < nI a * nI b := by rw [hab]; exact hn1
    refine go_n 2 (fr' := (4, [(0, .ref 0), (1, .int (nI S))], [.ref 0, .int (nI S)], (ah_w S (nI S) f1 f2 f3 g1 g2 u a b s1 s2 v t lo), ex, nc, ns)) rfl ?_
    refine go_get rfl rfl rfl rfl ?_
    refine go_get rfl rfl rfl rfl ?_
    refine go_ic_ge (t := 50) rfl (fun q1 => ?_) (fun q1 => absurd (Int32.not_lt.mp hn1) q1)
    exact k
  | succ m ih =>
    intro i hi o k
    have hl1 : nI i < nI S := nI_lt (by omega) (by omega)
    have hl2 : nI i < nI a * nI b := by rw [hab]; exact hl1
    have hi1 : ai_in (nI i) S = true := ai_in_nI (by omega) (by omega)
    have hi2 : ai_in (nI i) 64 = true := ai_in_nI (by omega) (by omega)
    have hr1 : g1 (nI i).toNatClampNeg = -1 := by rw [nI_clamp (by omega)]; exact hg i (by omega)
    have hr2 : s1 (nI i).toNatClampNeg = -1 := by rw [nI_clamp (by omega)]; exact hs i (by omega)
    have hp : (0 : Int32) < Int32.ofNat S := nI_lt (a := 0) (b := S) (by omega) (by omega)
    refine go_n 2 (fr' := (4, [(0, .ref 0), (1, .int (nI i))], [.ref 0, .int (nI i)], (ah_w S (nI S) f1 f2 f3 g1 g2 u a b s1 s2 v t lo), ex, nc, ns)) rfl ?_
    refine go_get rfl rfl rfl rfl ?_
    refine go_get rfl rfl rfl rfl ?_
    refine go_ic_ge (t := 50) rfl (fun q1 => absurd q1 (Int32.not_le.mpr hl1)) (fun q1 => ?_)
    refine go_n 1 (fr' := (14, [(0, .ref 0), (1, .int (nI i))], [.ref 0], (ah_w S (nI S) f1 f2 f3 g1 g2 u a b s1 s2 v t lo), ex, nc, ns)) rfl ?_
    refine go_get rfl rfl rfl rfl ?_
    refine go_get rfl rfl rfl rfl ?_
    refine go_n 1 (fr' := (21, [(0, .ref 0), (1, .int (nI i))], [.int (nI i), .ref 5], (ah_w S (nI S) f1 f2 f3 g1 g2 u a b s1 s2 v t lo), ex, nc, ns)) rfl ?_
    refine go_ial rfl (by decide) rfl hi1 ?_
    rw [hr1]
    refine go_n 4 (fr' := (2, [(0, .ref 0), (1, .int ((nI i) + 1))], [], (ah_w S (nI S) f1 f2 f3 g1 g2 u a b s1 s2 v t lo), ex, nc, ns)) rfl ?_
    rw [nI_1 i]
    refine go_eq (fr' := (2, [(0, .ref 0), (1, .int (nI (i + 1)))], [], (ah_w S (nI S) f1 f2 f3 g1 g2 u a b s1 s2 v t lo), ex, nc, ns)) rfl ?_
    exact ih (i + 1) (by omega) o k
set_option maxRecDepth 20000 in
theorem lp_fireEats {xs : Nat → Int32} {S : Nat} {f1 f2 f3 g1 g2 s1 s2 : Nat → Int32} {a b : Nat} {nc ns : Nat} {d : Nat} {ex : Bool} (hS1 : 1 ≤ S) (hS : S ≤ 64) (hab : nI a * nI b = nI S) (hg : ∀ j, j < S → g1 j = -1) (hs : ∀ j, j < 64 → s1 j = -1) {u v t : Int32} {lo : Nat → Int64} : ∀ m i : Nat, i + m = S → ∀ o, ag_Go (8, xs) d an_X9_fireEats (106, [(0, .ref 0), (1, .int (nI S))], [], (ah_w S (nI S) f1 f2 f3 g1 g2 u a b s1 s2 v t lo), ex, nc, ns) o → ag_Go (8, xs) d an_X9_fireEats (2, [(0, .ref 0), (1, .int (nI i))], [], (ah_w S (nI S) f1 f2 f3 g1 g2 u a b s1 s2 v t lo), ex, nc, ns) o := by
  intro m
  induction m with
  | zero =>
    intro i hi o k
    have e : i = S := by omega
    rw [e]
    have hn1 : ¬ nI S < nI S := Int32.lt_irrefl
    have hn2 : ¬ nI S < nI a * nI b := by rw [hab]; exact hn1
    refine go_n 2 (fr' := (4, [(0, .ref 0), (1, .int (nI S))], [.ref 0, .int (nI S)], (ah_w S (nI S) f1 f2 f3 g1 g2 u a b s1 s2 v t lo), ex, nc, ns)) rfl ?_
    refine go_get rfl rfl rfl rfl ?_
    refine go_get rfl rfl rfl rfl ?_
    refine go_ic_ge (t := 106) rfl (fun q1 => ?_) (fun q1 => absurd (Int32.not_lt.mp hn1) q1)
    exact k
  | succ m ih =>
    intro i hi o k
    have hl1 : nI i < nI S := nI_lt (by omega) (by omega)
    have hl2 : nI i < nI a * nI b := by rw [hab]; exact hl1
    have hi1 : ai_in (nI i) S = true := ai_in_nI (by omega) (by omega)
    have hi2 : ai_in (nI i) 64 = true := ai_in_nI (by omega) (by omega)
    have hr1 : g1 (nI i).toNatClampNeg = -1 := by rw [nI_clamp (by omega)]; exact hg i (by omega)
    have hr2 : s1 (nI i).toNatClampNeg = -1 := by rw [nI_clamp (by omega)]; exact hs i (by omega)
    have hp : (0 : Int32) < Int32.ofNat S := nI_lt (a := 0) (b := S) (by omega) (by omega)
    refine go_n 2 (fr' := (4, [(0, .ref 0), (1, .int (nI i))], [.ref 0, .int (nI i)], (ah_w S (nI S) f1 f2 f3 g1 g2 u a b s1 s2 v t lo), ex, nc, ns)) rfl ?_
    refine go_get rfl rfl rfl rfl ?_
    refine go_get rfl rfl rfl rfl ?_
    refine go_ic_ge (t := 106) rfl (fun q1 => absurd q1 (Int32.not_le.mpr hl1)) (fun q1 => ?_)
    refine go_n 1 (fr' := (14, [(0, .ref 0), (1, .int (nI i))], [.ref 0], (ah_w S (nI S) f1 f2 f3 g1 g2 u a b s1 s2 v t lo), ex, nc, ns)) rfl ?_
    refine go_get rfl rfl rfl rfl ?_
    refine go_get rfl rfl rfl rfl ?_
    refine go_n 1 (fr' := (21, [(0, .ref 0), (1, .int (nI i))], [.int (nI i), .ref 5], (ah_w S (nI S) f1 f2 f3 g1 g2 u a b s1 s2 v t lo), ex, nc, ns)) rfl ?_
    refine go_ial rfl (by decide) rfl hi1 ?_
    rw [hr1]
    refine go_n 5 (fr' := (2, [(0, .ref 0), (1, .int ((nI i) + 1))], [], (ah_w S (nI S) f1 f2 f3 g1 g2 u a b s1 s2 v t lo), ex, nc, ns)) rfl ?_
    rw [nI_1 i]
    refine go_eq (fr' := (2, [(0, .ref 0), (1, .int (nI (i + 1)))], [], (ah_w S (nI S) f1 f2 f3 g1 g2 u a b s1 s2 v t lo), ex, nc, ns)) rfl ?_
    exact ih (i + 1) (by omega) o k
set_option maxRecDepth 20000 in
theorem lp_warmUp1 {xs : Nat → Int32} {S : Nat} {f1 f2 f3 g1 g2 s1 s2 : Nat → Int32} {a b : Nat} {nc ns : Nat} {d : Nat} {ex : Bool} (hS1 : 1 ≤ S) (hS : S ≤ 64) (hab : nI a * nI b = nI S) (hg : ∀ j, j < S → g1 j = -1) (hs : ∀ j, j < 64 → s1 j = -1) {u v t : Int32} {lo : Nat → Int64} : ∀ m i : Nat, i + m = S → ∀ o, ag_Go (8, xs) d an_X0_warmUp (49, [(0, .ref 1), (1, .ref 48), (2, .int (nI S))], [], (ah_w S (nI S) f1 f2 f3 g1 g2 u a b s1 s2 v t lo), ex, nc, ns) o → ag_Go (8, xs) d an_X0_warmUp (2, [(0, .ref 1), (1, .ref 48), (2, .int (nI i))], [], (ah_w S (nI S) f1 f2 f3 g1 g2 u a b s1 s2 v t lo), ex, nc, ns) o := by
  intro m
  induction m with
  | zero =>
    intro i hi o k
    have e : i = S := by omega
    rw [e]
    have hn1 : ¬ nI S < nI S := Int32.lt_irrefl
    have hn2 : ¬ nI S < nI a * nI b := by rw [hab]; exact hn1
    refine go_n 2 (fr' := (4, [(0, .ref 1), (1, .ref 48), (2, .int (nI S))], [.ref 1, .int (nI S)], (ah_w S (nI S) f1 f2 f3 g1 g2 u a b s1 s2 v t lo), ex, nc, ns)) rfl ?_
    refine go_get rfl rfl rfl rfl ?_
    refine go_ic_ge (t := 49) rfl (fun q1 => ?_) (fun q1 => absurd (Int32.not_lt.mp hn1) q1)
    exact k
  | succ m ih =>
    intro i hi o k
    have hl1 : nI i < nI S := nI_lt (by omega) (by omega)
    have hl2 : nI i < nI a * nI b := by rw [hab]; exact hl1
    have hi1 : ai_in (nI i) S = true := ai_in_nI (by omega) (by omega)
    have hi2 : ai_in (nI i) 64 = true := ai_in_nI (by omega) (by omega)
    have hr1 : g1 (nI i).toNatClampNeg = -1 := by rw [nI_clamp (by omega)]; exact hg i (by omega)
    have hr2 : s1 (nI i).toNatClampNeg = -1 := by rw [nI_clamp (by omega)]; exact hs i (by omega)
    have hp : (0 : Int32) < Int32.ofNat S := nI_lt (a := 0) (b := S) (by omega) (by omega)
    refine go_n 2 (fr' := (4, [(0, .ref 1), (1, .ref 48), (2, .int (nI i))], [.ref 1, .int (nI i)], (ah_w S (nI S) f1 f2 f3 g1 g2 u a b s1 s2 v t lo), ex, nc, ns)) rfl ?_
    refine go_get rfl rfl rfl rfl ?_
    refine go_ic_ge (t := 49) rfl (fun q1 => absurd q1 (Int32.not_le.mpr hl1)) (fun q1 => ?_)
    refine go_n 1 (fr' := (11, [(0, .ref 1), (1, .ref 48), (2, .int (nI i))], [.ref 1], (ah_w S (nI S) f1 f2 f3 g1 g2 u a b s1 s2 v t lo), ex, nc, ns)) rfl ?_
    refine go_get rfl rfl rfl rfl ?_
    refine go_n 1 (fr' := (15, [(0, .ref 1), (1, .ref 48), (2, .int (nI i))], [.int (nI i), .ref 5], (ah_w S (nI S) f1 f2 f3 g1 g2 u a b s1 s2 v t lo), ex, nc, ns)) rfl ?_
    refine go_ial rfl (by decide) rfl hi1 ?_
    rw [hr1]
    refine go_n 3 (fr' := (2, [(0, .ref 1), (1, .ref 48), (2, .int ((nI i) + 1))], [], (ah_w S (nI S) f1 f2 f3 g1 g2 u a b s1 s2 v t lo), ex, nc, ns)) rfl ?_
    rw [nI_1 i]
    refine go_eq (fr' := (2, [(0, .ref 1), (1, .ref 48), (2, .int (nI (i + 1)))], [], (ah_w S (nI S) f1 f2 f3 g1 g2 u a b s1 s2 v t lo), ex, nc, ns)) rfl ?_
    exact ih (i + 1) (by omega) o k
set_option maxRecDepth 20000 in
theorem lp_warmUp2 {xs : Nat → Int32} {S : Nat} {f1 f2 f3 g1 g2 s1 s2 : Nat → Int32} {a b : Nat} {nc ns : Nat} {d : Nat} {ex : Bool} (hS1 : 1 ≤ S) (hS : S ≤ 64) (hab : nI a * nI b = nI S) (hg : ∀ j, j < S → g1 j = -1) (hs : ∀ j, j < 64 → s1 j = -1) {u v t : Int32} {lo : Nat → Int64} : ∀ m i : Nat, i + m = S → ∀ o, ag_Go (8, xs) d an_X0_warmUp (106, [(0, .ref 1), (1, .ref 48), (2, .int 0), (3, .int (nI S))], [], (ah_w S (nI S) f1 f2 f3 g1 g2 u a b s1 s2 v t lo), ex, nc, ns) o → ag_Go (8, xs) d an_X0_warmUp (53, [(0, .ref 1), (1, .ref 48), (2, .int 0), (3, .int (nI i))], [], (ah_w S (nI S) f1 f2 f3 g1 g2 u a b s1 s2 v t lo), ex, nc, ns) o := by
  intro m
  induction m with
  | zero =>
    intro i hi o k
    have e : i = S := by omega
    rw [e]
    have hn1 : ¬ nI S < nI S := Int32.lt_irrefl
    have hn2 : ¬ nI S < nI a * nI b := by rw [hab]; exact hn1
    refine go_n 2 (fr' := (55, [(0, .ref 1), (1, .ref 48), (2, .int 0), (3, .int (nI S))], [.ref 1, .int (nI S)], (ah_w S (nI S) f1 f2 f3 g1 g2 u a b s1 s2 v t lo), ex, nc, ns)) rfl ?_
    refine go_get rfl rfl rfl rfl ?_
    refine go_ic_ge (t := 106) rfl (fun q1 => ?_) (fun q1 => absurd (Int32.not_lt.mp hn1) q1)
    exact k
  | succ m ih =>
    intro i hi o k
    have hl1 : nI i < nI S := nI_lt (by omega) (by omega)
    have hl2 : nI i < nI a * nI b := by rw [hab]; exact hl1
    have hi1 : ai_in (nI i) S = true := ai_in_nI (by omega) (by omega)
    have hi2 : ai_in (nI i) 64 = true := ai_in_nI (by omega) (by omega)
    have hr1 : g1 (nI i).toNatClampNeg = -1 := by rw [nI_clamp (by omega)]; exact hg i (by omega)
    have hr2 : s1 (nI i).toNatClampNeg = -1 := by rw [nI_clamp (by omega)]; exact hs i (by omega)
    have hp : (0 : Int32) < Int32.ofNat S := nI_lt (a := 0) (b := S) (by omega) (by omega)
    refine go_n 2 (fr' := (55, [(0, .ref 1), (1, .ref 48), (2, .int 0), (3, .int (nI i))], [.ref 1, .int (nI i)], (ah_w S (nI S) f1 f2 f3 g1 g2 u a b s1 s2 v t lo), ex, nc, ns)) rfl ?_
    refine go_get rfl rfl rfl rfl ?_
    refine go_ic_ge (t := 106) rfl (fun q1 => absurd q1 (Int32.not_le.mpr hl1)) (fun q1 => ?_)
    refine go_n 2 (fr' := (63, [(0, .ref 1), (1, .ref 48), (2, .int 0), (3, .int (nI i))], [.ref 48, .int 0], (ah_w S (nI S) f1 f2 f3 g1 g2 u a b s1 s2 v t lo), ex, nc, ns)) rfl ?_
    refine go_len rfl (by decide) rfl (by decide) ?_
    refine go_ic_ge (t := 106) rfl (fun q2 => absurd q2 (Int32.not_le.mpr hp)) (fun q2 => ?_)
    refine go_n 1 (fr' := (68, [(0, .ref 1), (1, .ref 48), (2, .int 0), (3, .int (nI i))], [.ref 1], (ah_w S (nI S) f1 f2 f3 g1 g2 u a b s1 s2 v t lo), ex, nc, ns)) rfl ?_
    refine go_get rfl rfl rfl rfl ?_
    refine go_n 1 (fr' := (72, [(0, .ref 1), (1, .ref 48), (2, .int 0), (3, .int (nI i))], [.int (nI i), .ref 5], (ah_w S (nI S) f1 f2 f3 g1 g2 u a b s1 s2 v t lo), ex, nc, ns)) rfl ?_
    refine go_ial rfl (by decide) rfl hi1 ?_
    rw [hr1]
    refine go_n 3 (fr' := (53, [(0, .ref 1), (1, .ref 48), (2, .int 0), (3, .int ((nI i) + 1))], [], (ah_w S (nI S) f1 f2 f3 g1 g2 u a b s1 s2 v t lo), ex, nc, ns)) rfl ?_
    rw [nI_1 i]
    refine go_eq (fr' := (53, [(0, .ref 1), (1, .ref 48), (2, .int 0), (3, .int (nI (i + 1)))], [], (ah_w S (nI S) f1 f2 f3 g1 g2 u a b s1 s2 v t lo), ex, nc, ns)) rfl ?_
    exact ih (i + 1) (by omega) o k
set_option maxRecDepth 20000 in
theorem lp_many {xs : Nat → Int32} {S : Nat} {f1 f2 f3 g1 g2 s1 s2 : Nat → Int32} {a b : Nat} {nc ns : Nat} {d : Nat} {ex : Bool} (hS1 : 1 ≤ S) (hS : S ≤ 64) (hab : nI a * nI b = nI S) (hg : ∀ j, j < S → g1 j = -1) (hs : ∀ j, j < 64 → s1 j = -1) {u v t : Int32} {lo : Nat → Int64} {w : Int32} (hw : ¬ (-1 : Int32) = w) : ∀ m i : Nat, i + m = S → ∀ o, ag_Go (8, xs) d an_X10_many (41, [(0, .ref 49), (1, .int w), (2, .int 0), (3, .int (nI S))], [], (ah_w S (nI S) f1 f2 f3 g1 g2 u a b s1 s2 v t lo), ex, nc, ns) o → ag_Go (8, xs) d an_X10_many (4, [(0, .ref 49), (1, .int w), (2, .int 0), (3, .int (nI i))], [], (ah_w S (nI S) f1 f2 f3 g1 g2 u a b s1 s2 v t lo), ex, nc, ns) o := by
  intro m
  induction m with
  | zero =>
    intro i hi o k
    have e : i = S := by omega
    rw [e]
    have hn1 : ¬ nI S < nI S := Int32.lt_irrefl
    have hn2 : ¬ nI S < nI a * nI b := by rw [hab]; exact hn1
    refine go_n 2 (fr' := (6, [(0, .ref 49), (1, .int w), (2, .int 0), (3, .int (nI S))], [.ref 49, .int (nI S)], (ah_w S (nI S) f1 f2 f3 g1 g2 u a b s1 s2 v t lo), ex, nc, ns)) rfl ?_
    refine go_get rfl rfl rfl rfl ?_
    refine go_n 1 (fr' := (10, [(0, .ref 49), (1, .int w), (2, .int 0), (3, .int (nI S))], [.ref 49, .int (nI a), .int (nI S)], (ah_w S (nI S) f1 f2 f3 g1 g2 u a b s1 s2 v t lo), ex, nc, ns)) rfl ?_
    refine go_get rfl rfl rfl rfl ?_
    refine go_n 1 (fr' := (14, [(0, .ref 49), (1, .int w), (2, .int 0), (3, .int (nI S))], [.int ((nI a) * (nI b)), .int (nI S)], (ah_w S (nI S) f1 f2 f3 g1 g2 u a b s1 s2 v t lo), ex, nc, ns)) rfl ?_
    refine go_ic_ge (t := 41) rfl (fun q1 => ?_) (fun q1 => absurd (Int32.not_lt.mp hn2) q1)
    exact k
  | succ m ih =>
    intro i hi o k
    have hl1 : nI i < nI S := nI_lt (by omega) (by omega)
    have hl2 : nI i < nI a * nI b := by rw [hab]; exact hl1
    have hi1 : ai_in (nI i) S = true := ai_in_nI (by omega) (by omega)
    have hi2 : ai_in (nI i) 64 = true := ai_in_nI (by omega) (by omega)
    have hr1 : g1 (nI i).toNatClampNeg = -1 := by rw [nI_clamp (by omega)]; exact hg i (by omega)
    have hr2 : s1 (nI i).toNatClampNeg = -1 := by rw [nI_clamp (by omega)]; exact hs i (by omega)
    have hp : (0 : Int32) < Int32.ofNat S := nI_lt (a := 0) (b := S) (by omega) (by omega)
    refine go_n 2 (fr' := (6, [(0, .ref 49), (1, .int w), (2, .int 0), (3, .int (nI i))], [.ref 49, .int (nI i)], (ah_w S (nI S) f1 f2 f3 g1 g2 u a b s1 s2 v t lo), ex, nc, ns)) rfl ?_
    refine go_get rfl rfl rfl rfl ?_
    refine go_n 1 (fr' := (10, [(0, .ref 49), (1, .int w), (2, .int 0), (3, .int (nI i))], [.ref 49, .int (nI a), .int (nI i)], (ah_w S (nI S) f1 f2 f3 g1 g2 u a b s1 s2 v t lo), ex, nc, ns)) rfl ?_
    refine go_get rfl rfl rfl rfl ?_
    refine go_n 1 (fr' := (14, [(0, .ref 49), (1, .int w), (2, .int 0), (3, .int (nI i))], [.int ((nI a) * (nI b)), .int (nI i)], (ah_w S (nI S) f1 f2 f3 g1 g2 u a b s1 s2 v t lo), ex, nc, ns)) rfl ?_
    refine go_ic_ge (t := 41) rfl (fun q1 => absurd q1 (Int32.not_le.mpr hl2)) (fun q1 => ?_)
    refine go_n 2 (fr' := (19, [(0, .ref 49), (1, .int w), (2, .int 0), (3, .int (nI i))], [.ref 49, .int 0], (ah_w S (nI S) f1 f2 f3 g1 g2 u a b s1 s2 v t lo), ex, nc, ns)) rfl ?_
    refine go_get rfl rfl rfl rfl ?_
    refine go_n 1 (fr' := (23, [(0, .ref 49), (1, .int w), (2, .int 0), (3, .int (nI i))], [.int (nI i), .ref 51, .int 0], (ah_w S (nI S) f1 f2 f3 g1 g2 u a b s1 s2 v t lo), ex, nc, ns)) rfl ?_
    refine go_ial rfl (by decide) rfl hi2 ?_
    rw [hr2]
    refine go_n 1 (fr' := (25, [(0, .ref 49), (1, .int w), (2, .int 0), (3, .int (nI i))], [.int w, .int (-1), .int 0], (ah_w S (nI S) f1 f2 f3 g1 g2 u a b s1 s2 v t lo), ex, nc, ns)) rfl ?_
    refine go_ic_ne (t := 32) rfl (fun q2 => ?_) (fun q2 => absurd q2 hw)
    refine go_n 5 (fr' := (4, [(0, .ref 49), (1, .int w), (2, .int 0), (3, .int ((nI i) + 1))], [], (ah_w S (nI S) f1 f2 f3 g1 g2 u a b s1 s2 v t lo), ex, nc, ns)) rfl ?_
    rw [nI_1 i]
    refine go_eq (fr' := (4, [(0, .ref 49), (1, .int w), (2, .int 0), (3, .int (nI (i + 1)))], [], (ah_w S (nI S) f1 f2 f3 g1 g2 u a b s1 s2 v t lo), ex, nc, ns)) rfl ?_
    exact ih (i + 1) (by omega) o k
set_option maxRecDepth 20000 in
theorem lp_roofs {xs : Nat → Int32} {S : Nat} {f1 f2 f3 g1 g2 s1 s2 : Nat → Int32} {a b : Nat} {nc ns : Nat} {d : Nat} {ex : Bool} (hS1 : 1 ≤ S) (hS : S ≤ 64) (hab : nI a * nI b = nI S) (hg : ∀ j, j < S → g1 j = -1) (hs : ∀ j, j < 64 → s1 j = -1) {u v t : Int32} {lo : Nat → Int64} : ∀ m i : Nat, i + m = S → ∀ o, ag_Go (8, xs) d an_X10_roofs (136, [(0, .ref 49), (1, .int (nI S))], [], (ah_w S (nI S) f1 f2 f3 g1 g2 u a b s1 s2 v t lo), ex, nc, ns) o → ag_Go (8, xs) d an_X10_roofs (2, [(0, .ref 49), (1, .int (nI i))], [], (ah_w S (nI S) f1 f2 f3 g1 g2 u a b s1 s2 v t lo), ex, nc, ns) o := by
  intro m
  induction m with
  | zero =>
    intro i hi o k
    have e : i = S := by omega
    rw [e]
    have hn1 : ¬ nI S < nI S := Int32.lt_irrefl
    have hn2 : ¬ nI S < nI a * nI b := by rw [hab]; exact hn1
    refine go_n 2 (fr' := (4, [(0, .ref 49), (1, .int (nI S))], [.ref 49, .int (nI S)], (ah_w S (nI S) f1 f2 f3 g1 g2 u a b s1 s2 v t lo), ex, nc, ns)) rfl ?_
    refine go_get rfl rfl rfl rfl ?_
    refine go_n 1 (fr' := (8, [(0, .ref 49), (1, .int (nI S))], [.ref 49, .int (nI a), .int (nI S)], (ah_w S (nI S) f1 f2 f3 g1 g2 u a b s1 s2 v t lo), ex, nc, ns)) rfl ?_
    refine go_get rfl rfl rfl rfl ?_
    refine go_n 1 (fr' := (12, [(0, .ref 49), (1, .int (nI S))], [.int ((nI a) * (nI b)), .int (nI S)], (ah_w S (nI S) f1 f2 f3 g1 g2 u a b s1 s2 v t lo), ex, nc, ns)) rfl ?_
    refine go_ic_ge (t := 136) rfl (fun q1 => ?_) (fun q1 => absurd (Int32.not_lt.mp hn2) q1)
    exact k
  | succ m ih =>
    intro i hi o k
    have hl1 : nI i < nI S := nI_lt (by omega) (by omega)
    have hl2 : nI i < nI a * nI b := by rw [hab]; exact hl1
    have hi1 : ai_in (nI i) S = true := ai_in_nI (by omega) (by omega)
    have hi2 : ai_in (nI i) 64 = true := ai_in_nI (by omega) (by omega)
    have hr1 : g1 (nI i).toNatClampNeg = -1 := by rw [nI_clamp (by omega)]; exact hg i (by omega)
    have hr2 : s1 (nI i).toNatClampNeg = -1 := by rw [nI_clamp (by omega)]; exact hs i (by omega)
    have hp : (0 : Int32) < Int32.ofNat S := nI_lt (a := 0) (b := S) (by omega) (by omega)
    refine go_n 2 (fr' := (4, [(0, .ref 49), (1, .int (nI i))], [.ref 49, .int (nI i)], (ah_w S (nI S) f1 f2 f3 g1 g2 u a b s1 s2 v t lo), ex, nc, ns)) rfl ?_
    refine go_get rfl rfl rfl rfl ?_
    refine go_n 1 (fr' := (8, [(0, .ref 49), (1, .int (nI i))], [.ref 49, .int (nI a), .int (nI i)], (ah_w S (nI S) f1 f2 f3 g1 g2 u a b s1 s2 v t lo), ex, nc, ns)) rfl ?_
    refine go_get rfl rfl rfl rfl ?_
    refine go_n 1 (fr' := (12, [(0, .ref 49), (1, .int (nI i))], [.int ((nI a) * (nI b)), .int (nI i)], (ah_w S (nI S) f1 f2 f3 g1 g2 u a b s1 s2 v t lo), ex, nc, ns)) rfl ?_
    refine go_ic_ge (t := 136) rfl (fun q1 => absurd q1 (Int32.not_le.mpr hl2)) (fun q1 => ?_)
    refine go_n 1 (fr' := (16, [(0, .ref 49), (1, .int (nI i))], [.ref 49], (ah_w S (nI S) f1 f2 f3 g1 g2 u a b s1 s2 v t lo), ex, nc, ns)) rfl ?_
    refine go_get rfl rfl rfl rfl ?_
    refine go_n 1 (fr' := (20, [(0, .ref 49), (1, .int (nI i))], [.int (nI i), .ref 51], (ah_w S (nI S) f1 f2 f3 g1 g2 u a b s1 s2 v t lo), ex, nc, ns)) rfl ?_
    refine go_ial rfl (by decide) rfl hi2 ?_
    rw [hr2]
    refine go_n 4 (fr' := (2, [(0, .ref 49), (1, .int ((nI i) + 1))], [], (ah_w S (nI S) f1 f2 f3 g1 g2 u a b s1 s2 v t lo), ex, nc, ns)) rfl ?_
    rw [nI_1 i]
    refine go_eq (fr' := (2, [(0, .ref 49), (1, .int (nI (i + 1)))], [], (ah_w S (nI S) f1 f2 f3 g1 g2 u a b s1 s2 v t lo), ex, nc, ns)) rfl ?_
    exact ih (i + 1) (by omega) o k
set_option maxRecDepth 20000 in
theorem lp_warm1 {xs : Nat → Int32} {S : Nat} {f1 f2 f3 g1 g2 s1 s2 : Nat → Int32} {a b : Nat} {nc ns : Nat} {d : Nat} {ex : Bool} (hS1 : 1 ≤ S) (hS : S ≤ 64) (hab : nI a * nI b = nI S) (hg : ∀ j, j < S → g1 j = -1) (hs : ∀ j, j < 64 → s1 j = -1) {u v t : Int32} {lo : Nat → Int64} : ∀ m i : Nat, i + m = S → ∀ o, ag_Go (8, xs) d an_X10_warm (153, [(0, .ref 49), (1, .int ((nI a) * (nI b))), (2, .int (nI S))], [], (ah_w S (nI S) f1 f2 f3 g1 g2 u a b s1 s2 v t lo), ex, nc, ns) o → ag_Go (8, xs) d an_X10_warm (12, [(0, .ref 49), (1, .int ((nI a) * (nI b))), (2, .int (nI i))], [], (ah_w S (nI S) f1 f2 f3 g1 g2 u a b s1 s2 v t lo), ex, nc, ns) o := by
  intro m
  induction m with
  | zero =>
    intro i hi o k
    have e : i = S := by omega
    rw [e]
    have hn1 : ¬ nI S < nI S := Int32.lt_irrefl
    have hn2 : ¬ nI S < nI a * nI b := by rw [hab]; exact hn1
    refine go_n 2 (fr' := (14, [(0, .ref 49), (1, .int ((nI a) * (nI b))), (2, .int (nI S))], [.int ((nI a) * (nI b)), .int (nI S)], (ah_w S (nI S) f1 f2 f3 g1 g2 u a b s1 s2 v t lo), ex, nc, ns)) rfl ?_
    refine go_ic_ge (t := 153) rfl (fun q1 => ?_) (fun q1 => absurd (Int32.not_lt.mp hn2) q1)
    exact k
  | succ m ih =>
    intro i hi o k
    have hl1 : nI i < nI S := nI_lt (by omega) (by omega)
    have hl2 : nI i < nI a * nI b := by rw [hab]; exact hl1
    have hi1 : ai_in (nI i) S = true := ai_in_nI (by omega) (by omega)
    have hi2 : ai_in (nI i) 64 = true := ai_in_nI (by omega) (by omega)
    have hr1 : g1 (nI i).toNatClampNeg = -1 := by rw [nI_clamp (by omega)]; exact hg i (by omega)
    have hr2 : s1 (nI i).toNatClampNeg = -1 := by rw [nI_clamp (by omega)]; exact hs i (by omega)
    have hp : (0 : Int32) < Int32.ofNat S := nI_lt (a := 0) (b := S) (by omega) (by omega)
    refine go_n 2 (fr' := (14, [(0, .ref 49), (1, .int ((nI a) * (nI b))), (2, .int (nI i))], [.int ((nI a) * (nI b)), .int (nI i)], (ah_w S (nI S) f1 f2 f3 g1 g2 u a b s1 s2 v t lo), ex, nc, ns)) rfl ?_
    refine go_ic_ge (t := 153) rfl (fun q1 => absurd q1 (Int32.not_le.mpr hl2)) (fun q1 => ?_)
    refine go_n 1 (fr' := (18, [(0, .ref 49), (1, .int ((nI a) * (nI b))), (2, .int (nI i))], [.ref 49], (ah_w S (nI S) f1 f2 f3 g1 g2 u a b s1 s2 v t lo), ex, nc, ns)) rfl ?_
    refine go_get rfl rfl rfl rfl ?_
    refine go_n 2 (fr' := (23, [(0, .ref 49), (1, .int ((nI a) * (nI b))), (2, .int (nI i))], [.ref 49, .int (nI i), .ref 75], (ah_w S (nI S) f1 f2 f3 g1 g2 u a b s1 s2 v t lo), ex, nc, ns)) rfl ?_
    refine go_get rfl rfl rfl rfl ?_
    refine go_n 1 (fr' := (27, [(0, .ref 49), (1, .int ((nI a) * (nI b))), (2, .int (nI i))], [.int (nI i), .ref 55, .int (nI i), .ref 75], (ah_w S (nI S) f1 f2 f3 g1 g2 u a b s1 s2 v t lo), ex, nc, ns)) rfl ?_
    refine go_ial rfl (by decide) rfl hi2 ?_
    refine go_ias0 rfl rfl hi2 rfl ?_
    refine go_n 1 (fr' := (30, [(0, .ref 49), (1, .int ((nI a) * (nI b))), (2, .int (nI i))], [.ref 49], (ah_w S (nI S) f1 f2 f3 g1 g2 u a b s1 s2 v t lo), ex, nc, ns)) rfl ?_
    refine go_get rfl rfl rfl rfl ?_
    refine go_n 1 (fr' := (34, [(0, .ref 49), (1, .int ((nI a) * (nI b))), (2, .int (nI i))], [.int (nI i), .ref 51], (ah_w S (nI S) f1 f2 f3 g1 g2 u a b s1 s2 v t lo), ex, nc, ns)) rfl ?_
    refine go_ial rfl (by decide) rfl hi2 ?_
    rw [hr2]
    refine go_n 4 (fr' := (12, [(0, .ref 49), (1, .int ((nI a) * (nI b))), (2, .int ((nI i) + 1))], [], (ah_w S (nI S) f1 f2 f3 g1 g2 u a b s1 s2 v t lo), ex, nc, ns)) rfl ?_
    rw [nI_1 i]
    refine go_eq (fr' := (12, [(0, .ref 49), (1, .int ((nI a) * (nI b))), (2, .int (nI (i + 1)))], [], (ah_w S (nI S) f1 f2 f3 g1 g2 u a b s1 s2 v t lo), ex, nc, ns)) rfl ?_
    exact ih (i + 1) (by omega) o k
set_option maxRecDepth 20000 in
theorem lp_warm2 {xs : Nat → Int32} {S : Nat} {f1 f2 f3 g1 g2 s1 s2 : Nat → Int32} {a b : Nat} {nc ns : Nat} {d : Nat} {ex : Bool} (hS1 : 1 ≤ S) (hS : S ≤ 64) (hab : nI a * nI b = nI S) (hg : ∀ j, j < S → g1 j = -1) (hs : ∀ j, j < 64 → s1 j = -1) {u v t : Int32} {lo : Nat → Int64} : ∀ m i : Nat, i + m = S → ∀ o, ag_Go (8, xs) d an_X10_warm (208, [(0, .ref 49), (1, .int ((nI a) * (nI b))), (2, .int (nI S))], [], (ah_w S (nI S) f1 f2 f3 g1 g2 u a b s1 s2 v t lo), ex, nc, ns) o → ag_Go (8, xs) d an_X10_warm (155, [(0, .ref 49), (1, .int ((nI a) * (nI b))), (2, .int (nI i))], [], (ah_w S (nI S) f1 f2 f3 g1 g2 u a b s1 s2 v t lo), ex, nc, ns) o := by
  intro m
  induction m with
  | zero =>
    intro i hi o k
    have e : i = S := by omega
    rw [e]
    have hn1 : ¬ nI S < nI S := Int32.lt_irrefl
    have hn2 : ¬ nI S < nI a * nI b := by rw [hab]; exact hn1
    refine go_n 2 (fr' := (157, [(0, .ref 49), (1, .int ((nI a) * (nI b))), (2, .int (nI S))], [.int ((nI a) * (nI b)), .int (nI S)], (ah_w S (nI S) f1 f2 f3 g1 g2 u a b s1 s2 v t lo), ex, nc, ns)) rfl ?_
    refine go_ic_ge (t := 208) rfl (fun q1 => ?_) (fun q1 => absurd (Int32.not_lt.mp hn2) q1)
    exact k
  | succ m ih =>
    intro i hi o k
    have hl1 : nI i < nI S := nI_lt (by omega) (by omega)
    have hl2 : nI i < nI a * nI b := by rw [hab]; exact hl1
    have hi1 : ai_in (nI i) S = true := ai_in_nI (by omega) (by omega)
    have hi2 : ai_in (nI i) 64 = true := ai_in_nI (by omega) (by omega)
    have hr1 : g1 (nI i).toNatClampNeg = -1 := by rw [nI_clamp (by omega)]; exact hg i (by omega)
    have hr2 : s1 (nI i).toNatClampNeg = -1 := by rw [nI_clamp (by omega)]; exact hs i (by omega)
    have hp : (0 : Int32) < Int32.ofNat S := nI_lt (a := 0) (b := S) (by omega) (by omega)
    refine go_n 2 (fr' := (157, [(0, .ref 49), (1, .int ((nI a) * (nI b))), (2, .int (nI i))], [.int ((nI a) * (nI b)), .int (nI i)], (ah_w S (nI S) f1 f2 f3 g1 g2 u a b s1 s2 v t lo), ex, nc, ns)) rfl ?_
    refine go_ic_ge (t := 208) rfl (fun q1 => absurd q1 (Int32.not_le.mpr hl2)) (fun q1 => ?_)
    refine go_n 1 (fr' := (161, [(0, .ref 49), (1, .int ((nI a) * (nI b))), (2, .int (nI i))], [.ref 49], (ah_w S (nI S) f1 f2 f3 g1 g2 u a b s1 s2 v t lo), ex, nc, ns)) rfl ?_
    refine go_get rfl rfl rfl rfl ?_
    refine go_n 2 (fr' := (166, [(0, .ref 49), (1, .int ((nI a) * (nI b))), (2, .int (nI i))], [.ref 49, .int (nI i), .ref 76], (ah_w S (nI S) f1 f2 f3 g1 g2 u a b s1 s2 v t lo), ex, nc, ns)) rfl ?_
    refine go_get rfl rfl rfl rfl ?_
    refine go_n 1 (fr' := (170, [(0, .ref 49), (1, .int ((nI a) * (nI b))), (2, .int (nI i))], [.int (nI i), .ref 51, .int (nI i), .ref 76], (ah_w S (nI S) f1 f2 f3 g1 g2 u a b s1 s2 v t lo), ex, nc, ns)) rfl ?_
    refine go_ial rfl (by decide) rfl hi2 ?_
    rw [hr2]
    refine go_n 2 (fr' := (189, [(0, .ref 49), (1, .int ((nI a) * (nI b))), (2, .int (nI i))], [.int 0, .int (nI i), .ref 76], (ah_w S (nI S) f1 f2 f3 g1 g2 u a b s1 s2 v t lo), ex, nc, ns)) rfl ?_
    refine go_zas0 rfl rfl hi2 rfl ?_
    refine go_n 1 (fr' := (191, [(0, .ref 49), (1, .int ((nI a) * (nI b))), (2, .int (nI i))], [.ref 49], (ah_w S (nI S) f1 f2 f3 g1 g2 u a b s1 s2 v t lo), ex, nc, ns)) rfl ?_
    refine go_get rfl rfl rfl rfl ?_
    refine go_n 2 (fr' := (196, [(0, .ref 49), (1, .int ((nI a) * (nI b))), (2, .int (nI i))], [.ref 49, .int (nI i), .ref 55], (ah_w S (nI S) f1 f2 f3 g1 g2 u a b s1 s2 v t lo), ex, nc, ns)) rfl ?_
    refine go_get rfl rfl rfl rfl ?_
    refine go_n 1 (fr' := (200, [(0, .ref 49), (1, .int ((nI a) * (nI b))), (2, .int (nI i))], [.int (nI i), .ref 75, .int (nI i), .ref 55], (ah_w S (nI S) f1 f2 f3 g1 g2 u a b s1 s2 v t lo), ex, nc, ns)) rfl ?_
    refine go_ial rfl (by decide) rfl hi2 ?_
    refine go_ias0 rfl rfl hi2 rfl ?_
    refine go_n 2 (fr' := (155, [(0, .ref 49), (1, .int ((nI a) * (nI b))), (2, .int ((nI i) + 1))], [], (ah_w S (nI S) f1 f2 f3 g1 g2 u a b s1 s2 v t lo), ex, nc, ns)) rfl ?_
    rw [nI_1 i]
    refine go_eq (fr' := (155, [(0, .ref 49), (1, .int ((nI a) * (nI b))), (2, .int (nI (i + 1)))], [], (ah_w S (nI S) f1 f2 f3 g1 g2 u a b s1 s2 v t lo), ex, nc, ns)) rfl ?_
    exact ih (i + 1) (by omega) o k
set_option maxRecDepth 20000 in
theorem lp_warm3 {xs : Nat → Int32} {S : Nat} {f1 f2 f3 g1 g2 s1 s2 : Nat → Int32} {a b : Nat} {nc ns : Nat} {d : Nat} {ex : Bool} (hS1 : 1 ≤ S) (hS : S ≤ 64) (hab : nI a * nI b = nI S) (hg : ∀ j, j < S → g1 j = -1) (hs : ∀ j, j < 64 → s1 j = -1) {u v t : Int32} {lo : Nat → Int64} : ∀ m i : Nat, i + m = S → ∀ o, ag_Go (8, xs) d an_X10_warm (237, [(0, .ref 49), (1, .int ((nI a) * (nI b))), (2, .int (nI S))], [], (ah_w S (nI S) f1 f2 f3 g1 g2 u a b s1 s2 v t lo), ex, nc, ns) o → ag_Go (8, xs) d an_X10_warm (210, [(0, .ref 49), (1, .int ((nI a) * (nI b))), (2, .int (nI i))], [], (ah_w S (nI S) f1 f2 f3 g1 g2 u a b s1 s2 v t lo), ex, nc, ns) o := by
  intro m
  induction m with
  | zero =>
    intro i hi o k
    have e : i = S := by omega
    rw [e]
    have hn1 : ¬ nI S < nI S := Int32.lt_irrefl
    have hn2 : ¬ nI S < nI a * nI b := by rw [hab]; exact hn1
    refine go_n 2 (fr' := (212, [(0, .ref 49), (1, .int ((nI a) * (nI b))), (2, .int (nI S))], [.int ((nI a) * (nI b)), .int (nI S)], (ah_w S (nI S) f1 f2 f3 g1 g2 u a b s1 s2 v t lo), ex, nc, ns)) rfl ?_
    refine go_ic_ge (t := 237) rfl (fun q1 => ?_) (fun q1 => absurd (Int32.not_lt.mp hn2) q1)
    exact k
  | succ m ih =>
    intro i hi o k
    have hl1 : nI i < nI S := nI_lt (by omega) (by omega)
    have hl2 : nI i < nI a * nI b := by rw [hab]; exact hl1
    have hi1 : ai_in (nI i) S = true := ai_in_nI (by omega) (by omega)
    have hi2 : ai_in (nI i) 64 = true := ai_in_nI (by omega) (by omega)
    have hr1 : g1 (nI i).toNatClampNeg = -1 := by rw [nI_clamp (by omega)]; exact hg i (by omega)
    have hr2 : s1 (nI i).toNatClampNeg = -1 := by rw [nI_clamp (by omega)]; exact hs i (by omega)
    have hp : (0 : Int32) < Int32.ofNat S := nI_lt (a := 0) (b := S) (by omega) (by omega)
    refine go_n 2 (fr' := (212, [(0, .ref 49), (1, .int ((nI a) * (nI b))), (2, .int (nI i))], [.int ((nI a) * (nI b)), .int (nI i)], (ah_w S (nI S) f1 f2 f3 g1 g2 u a b s1 s2 v t lo), ex, nc, ns)) rfl ?_
    refine go_ic_ge (t := 237) rfl (fun q1 => absurd q1 (Int32.not_le.mpr hl2)) (fun q1 => ?_)
    refine go_n 1 (fr' := (216, [(0, .ref 49), (1, .int ((nI a) * (nI b))), (2, .int (nI i))], [.ref 49], (ah_w S (nI S) f1 f2 f3 g1 g2 u a b s1 s2 v t lo), ex, nc, ns)) rfl ?_
    refine go_get rfl rfl rfl rfl ?_
    refine go_n 1 (fr' := (220, [(0, .ref 49), (1, .int ((nI a) * (nI b))), (2, .int (nI i))], [.int (nI i), .ref 76], (ah_w S (nI S) f1 f2 f3 g1 g2 u a b s1 s2 v t lo), ex, nc, ns)) rfl ?_
    refine go_zal rfl rfl hi2 ?_
    refine go_n 3 (fr' := (210, [(0, .ref 49), (1, .int ((nI a) * (nI b))), (2, .int ((nI i) + 1))], [], (ah_w S (nI S) f1 f2 f3 g1 g2 u a b s1 s2 v t lo), ex, nc, ns)) rfl ?_
    rw [nI_1 i]
    refine go_eq (fr' := (210, [(0, .ref 49), (1, .int ((nI a) * (nI b))), (2, .int (nI (i + 1)))], [], (ah_w S (nI S) f1 f2 f3 g1 g2 u a b s1 s2 v t lo), ex, nc, ns)) rfl ?_
    exact ih (i + 1) (by omega) o k
set_option maxRecDepth 20000 in
theorem lp_burn {xs : Nat → Int32} {S : Nat} {f1 f2 f3 g1 g2 s1 s2 : Nat → Int32} {a b : Nat} {nc ns : Nat} {d : Nat} {ex : Bool} (hS1 : 1 ≤ S) (hS : S ≤ 64) (hab : nI a * nI b = nI S) (hg : ∀ j, j < S → g1 j = -1) (hs : ∀ j, j < 64 → s1 j = -1) {u v t : Int32} {lo : Nat → Int64} {w y : Int32} : ∀ m i : Nat, i + m = S → ∀ o, ag_Go (8, xs) d an_X10_hours (133, [(0, .ref 49), (1, .int w), (2, .int ((nI a) * (nI b))), (3, .int y), (4, .int (nI S))], [], (ah_w S (nI S) f1 f2 f3 g1 g2 u a b s1 s2 v t lo), ex, nc, ns) o → ag_Go (8, xs) d an_X10_hours (104, [(0, .ref 49), (1, .int w), (2, .int ((nI a) * (nI b))), (3, .int y), (4, .int (nI i))], [], (ah_w S (nI S) f1 f2 f3 g1 g2 u a b s1 s2 v t lo), ex, nc, ns) o := by
  intro m
  induction m with
  | zero =>
    intro i hi o k
    have e : i = S := by omega
    rw [e]
    have hn1 : ¬ nI S < nI S := Int32.lt_irrefl
    have hn2 : ¬ nI S < nI a * nI b := by rw [hab]; exact hn1
    refine go_n 2 (fr' := (107, [(0, .ref 49), (1, .int w), (2, .int ((nI a) * (nI b))), (3, .int y), (4, .int (nI S))], [.int ((nI a) * (nI b)), .int (nI S)], (ah_w S (nI S) f1 f2 f3 g1 g2 u a b s1 s2 v t lo), ex, nc, ns)) rfl ?_
    refine go_ic_ge (t := 133) rfl (fun q1 => ?_) (fun q1 => absurd (Int32.not_lt.mp hn2) q1)
    exact k
  | succ m ih =>
    intro i hi o k
    have hl1 : nI i < nI S := nI_lt (by omega) (by omega)
    have hl2 : nI i < nI a * nI b := by rw [hab]; exact hl1
    have hi1 : ai_in (nI i) S = true := ai_in_nI (by omega) (by omega)
    have hi2 : ai_in (nI i) 64 = true := ai_in_nI (by omega) (by omega)
    have hr1 : g1 (nI i).toNatClampNeg = -1 := by rw [nI_clamp (by omega)]; exact hg i (by omega)
    have hr2 : s1 (nI i).toNatClampNeg = -1 := by rw [nI_clamp (by omega)]; exact hs i (by omega)
    have hp : (0 : Int32) < Int32.ofNat S := nI_lt (a := 0) (b := S) (by omega) (by omega)
    refine go_n 2 (fr' := (107, [(0, .ref 49), (1, .int w), (2, .int ((nI a) * (nI b))), (3, .int y), (4, .int (nI i))], [.int ((nI a) * (nI b)), .int (nI i)], (ah_w S (nI S) f1 f2 f3 g1 g2 u a b s1 s2 v t lo), ex, nc, ns)) rfl ?_
    refine go_ic_ge (t := 133) rfl (fun q1 => absurd q1 (Int32.not_le.mpr hl2)) (fun q1 => ?_)
    refine go_n 1 (fr' := (111, [(0, .ref 49), (1, .int w), (2, .int ((nI a) * (nI b))), (3, .int y), (4, .int (nI i))], [.ref 49], (ah_w S (nI S) f1 f2 f3 g1 g2 u a b s1 s2 v t lo), ex, nc, ns)) rfl ?_
    refine go_get rfl rfl rfl rfl ?_
    refine go_n 1 (fr' := (116, [(0, .ref 49), (1, .int w), (2, .int ((nI a) * (nI b))), (3, .int y), (4, .int (nI i))], [.int (nI i), .ref 51], (ah_w S (nI S) f1 f2 f3 g1 g2 u a b s1 s2 v t lo), ex, nc, ns)) rfl ?_
    refine go_ial rfl (by decide) rfl hi2 ?_
    rw [hr2]
    refine go_n 4 (fr' := (104, [(0, .ref 49), (1, .int w), (2, .int ((nI a) * (nI b))), (3, .int y), (4, .int ((nI i) + 1))], [], (ah_w S (nI S) f1 f2 f3 g1 g2 u a b s1 s2 v t lo), ex, nc, ns)) rfl ?_
    rw [nI_1 i]
    refine go_eq (fr' := (104, [(0, .ref 49), (1, .int w), (2, .int ((nI a) * (nI b))), (3, .int y), (4, .int (nI (i + 1)))], [], (ah_w S (nI S) f1 f2 f3 g1 g2 u a b s1 s2 v t lo), ex, nc, ns)) rfl ?_
    exact ih (i + 1) (by omega) o k
set_option maxRecDepth 20000 in
theorem lp_noGoal {xs : Nat → Int32} {S : Nat} {f1 f2 f3 g1 g2 s1 s2 : Nat → Int32} {a b : Nat} {nc ns : Nat} {d : Nat} {ex : Bool} (hS1 : 1 ≤ S) (hS : S ≤ 64) (hab : nI a * nI b = nI S) (hg : ∀ j, j < S → g1 j = -1) (hs : ∀ j, j < 64 → s1 j = -1) {u v t : Int32} {lo : Nat → Int64} {w y : Int32} : ∀ m i : Nat, i + m = S → ∀ o, ag_Go (8, xs) d an_X10_hours (169, [(0, .ref 49), (1, .int w), (2, .int ((nI a) * (nI b))), (3, .int y), (4, .int (nI S))], [], (ah_w S (nI S) f1 f2 f3 g1 g2 u a b s1 s2 v t lo), ex, nc, ns) o → ag_Go (8, xs) d an_X10_hours (140, [(0, .ref 49), (1, .int w), (2, .int ((nI a) * (nI b))), (3, .int y), (4, .int (nI i))], [], (ah_w S (nI S) f1 f2 f3 g1 g2 u a b s1 s2 v t lo), ex, nc, ns) o := by
  intro m
  induction m with
  | zero =>
    intro i hi o k
    have e : i = S := by omega
    rw [e]
    have hn1 : ¬ nI S < nI S := Int32.lt_irrefl
    have hn2 : ¬ nI S < nI a * nI b := by rw [hab]; exact hn1
    refine go_n 2 (fr' := (143, [(0, .ref 49), (1, .int w), (2, .int ((nI a) * (nI b))), (3, .int y), (4, .int (nI S))], [.int ((nI a) * (nI b)), .int (nI S)], (ah_w S (nI S) f1 f2 f3 g1 g2 u a b s1 s2 v t lo), ex, nc, ns)) rfl ?_
    refine go_ic_ge (t := 169) rfl (fun q1 => ?_) (fun q1 => absurd (Int32.not_lt.mp hn2) q1)
    exact k
  | succ m ih =>
    intro i hi o k
    have hl1 : nI i < nI S := nI_lt (by omega) (by omega)
    have hl2 : nI i < nI a * nI b := by rw [hab]; exact hl1
    have hi1 : ai_in (nI i) S = true := ai_in_nI (by omega) (by omega)
    have hi2 : ai_in (nI i) 64 = true := ai_in_nI (by omega) (by omega)
    have hr1 : g1 (nI i).toNatClampNeg = -1 := by rw [nI_clamp (by omega)]; exact hg i (by omega)
    have hr2 : s1 (nI i).toNatClampNeg = -1 := by rw [nI_clamp (by omega)]; exact hs i (by omega)
    have hp : (0 : Int32) < Int32.ofNat S := nI_lt (a := 0) (b := S) (by omega) (by omega)
    refine go_n 2 (fr' := (143, [(0, .ref 49), (1, .int w), (2, .int ((nI a) * (nI b))), (3, .int y), (4, .int (nI i))], [.int ((nI a) * (nI b)), .int (nI i)], (ah_w S (nI S) f1 f2 f3 g1 g2 u a b s1 s2 v t lo), ex, nc, ns)) rfl ?_
    refine go_ic_ge (t := 169) rfl (fun q1 => absurd q1 (Int32.not_le.mpr hl2)) (fun q1 => ?_)
    refine go_n 1 (fr' := (147, [(0, .ref 49), (1, .int w), (2, .int ((nI a) * (nI b))), (3, .int y), (4, .int (nI i))], [.ref 49], (ah_w S (nI S) f1 f2 f3 g1 g2 u a b s1 s2 v t lo), ex, nc, ns)) rfl ?_
    refine go_get rfl rfl rfl rfl ?_
    refine go_n 1 (fr' := (152, [(0, .ref 49), (1, .int w), (2, .int ((nI a) * (nI b))), (3, .int y), (4, .int (nI i))], [.int (nI i), .ref 76], (ah_w S (nI S) f1 f2 f3 g1 g2 u a b s1 s2 v t lo), ex, nc, ns)) rfl ?_
    refine go_zal rfl rfl hi2 ?_
    refine go_n 3 (fr' := (140, [(0, .ref 49), (1, .int w), (2, .int ((nI a) * (nI b))), (3, .int y), (4, .int ((nI i) + 1))], [], (ah_w S (nI S) f1 f2 f3 g1 g2 u a b s1 s2 v t lo), ex, nc, ns)) rfl ?_
    rw [nI_1 i]
    refine go_eq (fr' := (140, [(0, .ref 49), (1, .int w), (2, .int ((nI a) * (nI b))), (3, .int y), (4, .int (nI (i + 1)))], [], (ah_w S (nI S) f1 f2 f3 g1 g2 u a b s1 s2 v t lo), ex, nc, ns)) rfl ?_
    exact ih (i + 1) (by omega) o k
set_option maxRecDepth 20000 in
theorem lp_ring {xs : Nat → Int32} {S : Nat} {f1 f2 f3 g1 g2 s1 s2 : Nat → Int32} {a b : Nat} {nc ns : Nat} {d : Nat} {ex : Bool} (hS1 : 1 ≤ S) (hS : S ≤ 64) (hab : nI a * nI b = nI S) (hg : ∀ j, j < S → g1 j = -1) (hs : ∀ j, j < 64 → s1 j = -1) {u v t : Int32} {lo : Nat → Int64} {w y : Int32} : ∀ m i : Nat, i + m = S → ∀ o, ag_Go (8, xs) d an_X10_hours (200, [(0, .ref 49), (1, .int w), (2, .int ((nI a) * (nI b))), (3, .int y), (4, .int (nI S))], [], (ah_w S (nI S) f1 f2 f3 g1 g2 u a b s1 s2 v t lo), ex, nc, ns) o → ag_Go (8, xs) d an_X10_hours (172, [(0, .ref 49), (1, .int w), (2, .int ((nI a) * (nI b))), (3, .int y), (4, .int (nI i))], [], (ah_w S (nI S) f1 f2 f3 g1 g2 u a b s1 s2 v t lo), ex, nc, ns) o := by
  intro m
  induction m with
  | zero =>
    intro i hi o k
    have e : i = S := by omega
    rw [e]
    have hn1 : ¬ nI S < nI S := Int32.lt_irrefl
    have hn2 : ¬ nI S < nI a * nI b := by rw [hab]; exact hn1
    refine go_n 2 (fr' := (175, [(0, .ref 49), (1, .int w), (2, .int ((nI a) * (nI b))), (3, .int y), (4, .int (nI S))], [.int ((nI a) * (nI b)), .int (nI S)], (ah_w S (nI S) f1 f2 f3 g1 g2 u a b s1 s2 v t lo), ex, nc, ns)) rfl ?_
    refine go_ic_ge (t := 200) rfl (fun q1 => ?_) (fun q1 => absurd (Int32.not_lt.mp hn2) q1)
    exact k
  | succ m ih =>
    intro i hi o k
    have hl1 : nI i < nI S := nI_lt (by omega) (by omega)
    have hl2 : nI i < nI a * nI b := by rw [hab]; exact hl1
    have hi1 : ai_in (nI i) S = true := ai_in_nI (by omega) (by omega)
    have hi2 : ai_in (nI i) 64 = true := ai_in_nI (by omega) (by omega)
    have hr1 : g1 (nI i).toNatClampNeg = -1 := by rw [nI_clamp (by omega)]; exact hg i (by omega)
    have hr2 : s1 (nI i).toNatClampNeg = -1 := by rw [nI_clamp (by omega)]; exact hs i (by omega)
    have hp : (0 : Int32) < Int32.ofNat S := nI_lt (a := 0) (b := S) (by omega) (by omega)
    refine go_n 2 (fr' := (175, [(0, .ref 49), (1, .int w), (2, .int ((nI a) * (nI b))), (3, .int y), (4, .int (nI i))], [.int ((nI a) * (nI b)), .int (nI i)], (ah_w S (nI S) f1 f2 f3 g1 g2 u a b s1 s2 v t lo), ex, nc, ns)) rfl ?_
    refine go_ic_ge (t := 200) rfl (fun q1 => absurd q1 (Int32.not_le.mpr hl2)) (fun q1 => ?_)
    refine go_n 1 (fr' := (179, [(0, .ref 49), (1, .int w), (2, .int ((nI a) * (nI b))), (3, .int y), (4, .int (nI i))], [.ref 49], (ah_w S (nI S) f1 f2 f3 g1 g2 u a b s1 s2 v t lo), ex, nc, ns)) rfl ?_
    refine go_get rfl rfl rfl rfl ?_
    refine go_n 1 (fr' := (184, [(0, .ref 49), (1, .int w), (2, .int ((nI a) * (nI b))), (3, .int y), (4, .int (nI i))], [.int (nI i), .ref 76], (ah_w S (nI S) f1 f2 f3 g1 g2 u a b s1 s2 v t lo), ex, nc, ns)) rfl ?_
    refine go_zal rfl rfl hi2 ?_
    refine go_n 3 (fr' := (172, [(0, .ref 49), (1, .int w), (2, .int ((nI a) * (nI b))), (3, .int y), (4, .int ((nI i) + 1))], [], (ah_w S (nI S) f1 f2 f3 g1 g2 u a b s1 s2 v t lo), ex, nc, ns)) rfl ?_
    rw [nI_1 i]
    refine go_eq (fr' := (172, [(0, .ref 49), (1, .int w), (2, .int ((nI a) * (nI b))), (3, .int y), (4, .int (nI (i + 1)))], [], (ah_w S (nI S) f1 f2 f3 g1 g2 u a b s1 s2 v t lo), ex, nc, ns)) rfl ?_
    exact ih (i + 1) (by omega) o k
