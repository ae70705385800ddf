/-! Crews, LawBook, Tape, Judge -/
def fz_ (x1 x2 x3 x4 x5 : Int32) (m : Nat) : Int32 := (if m < 4 then x1 else if m < 8 then x2 else if m < 12 then x3 else if m < 16 then x4 else x5) >>> ((if m % 4 = 0 then 24 else if m % 4 = 1 then 16 else if m % 4 = 2 then 8 else 0) &&& 31)
theorem al_20 {P : Nat → Prop} (h0 : P 0) (h1 : P 1) (h2 : P 2) (h3 : P 3) (h4 : P 4) (h5 : P 5) (h6 : P 6) (h7 : P 7) (h8 : P 8) (h9 : P 9) (h10 : P 10) (h11 : P 11) (h12 : P 12) (h13 : P 13) (h14 : P 14) (h15 : P 15) (h16 : P 16) (h17 : P 17) (h18 : P 18) (h19 : P 19) : ∀ m, m < 20 → P m
  | 0, _ => h0
  | 1, _ => h1
  | 2, _ => h2
  | 3, _ => h3
  | 4, _ => h4
  | 5, _ => h5
  | 6, _ => h6
  | 7, _ => h7
  | 8, _ => h8
  | 9, _ => h9
  | 10, _ => h10
  | 11, _ => h11
  | 12, _ => h12
  | 13, _ => h13
  | 14, _ => h14
  | 15, _ => h15
  | 16, _ => h16
  | 17, _ => h17
  | 18, _ => h18
  | 19, _ => h19
  | n + 20, h => absurd h (by omega)
theorem ug_eq {f : Nat → Int32} {i : Nat} {v : Int32} : upd f i v i = v := if_pos rfl
theorem ug_ne {f : Nat → Int32} {i j : Nat} {v : Int32} (h : ¬ j = i) : upd f i v j = f j := if_neg h
/-! what company and feed answer, exactly -/
def co_W (x1 x2 : Int32) : Prop := (0 ≤ x1 ∧ x1 ≤ 7) ∧ 1 ≤ x2 ∧ x2 ≤ 9
def co_E (k : Nat) (x : Int32) (sc sc' : Nat → Int32) : Prop := ∃ s : Nat, s ≤ 8 ∧ sc k = nI s ∧ ((s < 8 ∧ x = nI s ∧ sc' k = nI (s + 1)) ∨ (¬ s < 8 ∧ x = -1 ∧ sc' k = sc k))
def co_P (k : Nat) (x1 x2 x : Int32) (sc sc' : Nat → Int32) : Prop := ∃ s : Nat, s ≤ 8 ∧ sc k = nI s ∧ ((co_W x1 x2 ∧ s < 8 ∧ x = nI s ∧ sc' k = nI (s + 1)) ∨ (¬ (co_W x1 x2 ∧ s < 8) ∧ x = -1 ∧ sc' k = sc k))
theorem co_eq {k k' : Nat} {x1 x2 x y : Int32} {sc sc' tc tc' : Nat → Int32} (h : co_P k x1 x2 x sc sc') (g : co_P k' x1 x2 y tc tc') (e : tc k' = sc k) : y = x ∧ sc' k = tc' k' := by
  obtain ⟨s, hs, es, h⟩ := h
  obtain ⟨r, hr, er, g⟩ := g
  obtain rfl : s = r := (nI_eq (by omega) (by omega)).mp (es.symm.trans (e.symm.trans er))
  rcases h with ⟨a1, a2, a3, a4⟩ | ⟨a1, a2, a3⟩
  · rcases g with ⟨b1, b2, b3, b4⟩ | ⟨b1, b2, b3⟩
    · exact ⟨b3.trans a3.symm, a4.trans b4.symm⟩
    · exact absurd ⟨a1, a2⟩ b1
  · rcases g with ⟨b1, b2, b3, b4⟩ | ⟨b1, b2, b3⟩
    · exact absurd ⟨b1, b2⟩ a1
    · exact ⟨b2.trans a2.symm, a3.trans (e.symm.trans b3.symm)⟩
theorem co_en {k : Nat} {x1 x2 x : Int32} {sc sc' : Nat → Int32} (w : co_W x1 x2) (h : co_E k x sc sc') : co_P k x1 x2 x sc sc' := by
  obtain ⟨s, h1, h2, h3⟩ := h
  exact ⟨s, h1, h2, h3.imp (fun u => ⟨w, u⟩) (fun u => ⟨fun v => u.1 v.2, u.2⟩)⟩
theorem co_no {k s : Nat} {x1 x2 : Int32} {sc : Nat → Int32} (hs : s ≤ 8) (es : sc k = nI s) (w : ¬ co_W x1 x2) : co_P k x1 x2 (-1) sc sc := ⟨s, hs, es, Or.inr ⟨fun v => w v.1, rfl, rfl⟩⟩
theorem iw_0 {n : Nat} {A : Prop} (h : (nI n = 1 ∧ A) ∨ (nI n = 0 ∧ ¬ A)) (e : n = 0) : ¬ A := by
  subst e
  rcases h with ⟨h, _⟩ | ⟨_, w⟩
  · exact absurd h (by decide)
  · exact w
theorem iw_1 {n : Nat} {A : Prop} (h : (nI n = 1 ∧ A) ∨ (nI n = 0 ∧ ¬ A)) (e : ¬ n = 0) (hn : n < 2) : A := by
  obtain rfl : n = 1 := by omega
  rcases h with ⟨_, w⟩ | ⟨h, _⟩
  · exact w
  · exact absurd h (by decide)
theorem has_in {n B : Nat} (h : n < B) (hB : B < 2 ^ 31) : 0 ≤ nI n ∧ nI n < nI B := ⟨nI_pos' (by omega), (nI_ltI (by omega) hB).mpr h⟩
def fe_P (k : Nat) (x : Int32) (sc sc' : Nat → Int32) : Prop := ∃ s : Nat, s ≤ 400 ∧ sc k = nI s ∧ ((s + 20 ≤ 400 ∧ x = nI (s + 20) ∧ sc' k = nI (s + 20)) ∨ (¬ s + 20 ≤ 400 ∧ x = -1 ∧ sc' k = sc k))
theorem fe_eq {k k' : Nat} {x y : Int32} {sc sc' tc tc' : Nat → Int32} (h : fe_P k x sc sc') (g : fe_P k' y tc tc') (e : tc k' = sc k) : y = x ∧ sc' k = tc' k' := by
  obtain ⟨s, hs, es, h⟩ := h
  obtain ⟨r, hr, er, g⟩ := g
  obtain rfl : s = r := (nI_eq (by omega) (by omega)).mp (es.symm.trans (e.symm.trans er))
  rcases h with ⟨a1, a3, a4⟩ | ⟨a1, a2, a3⟩
  · rcases g with ⟨b1, b3, b4⟩ | ⟨b1, b2, b3⟩
    · exact ⟨b3.trans a3.symm, a4.trans b4.symm⟩
    · exact absurd a1 b1
  · rcases g with ⟨b1, b3, b4⟩ | ⟨b1, b2, b3⟩
    · exact absurd b1 a1
    · exact ⟨b2.trans a2.symm, a3.trans (e.symm.trans b3.symm)⟩
set_option maxRecDepth 20000 in
theorem sf_X1_enlist {X : Nat × (Nat → Int32)} {S a b : Nat} {sc : Nat → Int32} {ar : Nat → Nat → Int32} {lo : Nat → Int64} {ex : Bool} (hW : Wd S a b) (hI : Iv S sc ar) (x1 : Int32) (x2 : Int32) (k1 : Nat) (hk1 : k1 < S) (d : Nat)  : ci X S a b (d + 1) 15 [.ref 13, .int x1, .int x2, .int (nI k1)] sc ar lo ex (fun x sc' ar' => Iv S sc' ar' ∧ Fr [1308] [14, 15, 16, 17] sc ar sc' ar' ∧ rq x 8 ∧ co_E 1308 x sc sc') := by
  obtain ⟨ha1, ha8, hb1, hb8, hab, hS1, hS⟩ := id hW
  obtain ⟨s0, hs0, es0⟩ := iv_s1308 hI
  refine ci_of (M := an_X1_enlist) rfl (Nat.le_of_ble_eq_true rfl) ?_
  have hF : Fr [1308] [14, 15, 16, 17] sc ar sc ar := fr_0
  refine to_eq (fr' := (0, [(0, .ref 13), (1, .int x1), (2, .int x2), (3, .int (nI k1))], [], gh S a b sc ar lo, ex, 0, 0)) rfl ?_
  refine to_n 1 (fr' := (1, [(0, .ref 13), (1, .int x1), (2, .int x2), (3, .int (nI k1))], [.ref 13], gh S a b sc ar lo, ex, 0, 0)) rfl ?_
  refine to_getR (v := (nI s0)) rfl rfl rfl rfl es0 ?_
  refine to_n 1 (fr' := (6, [(0, .ref 13), (1, .int x1), (2, .int x2), (3, .int (nI k1))], [.int 8, .int (nI s0)], gh S a b sc ar lo, ex, 0, 0)) rfl ?_
  refine to_nc_lt (t := 11) (x := s0) (y := 8) rfl (by omega) (by omega) (fun q1 => ?_) (fun q1 => ?_)
  · refine to_n 1 (fr' := (12, [(0, .ref 13), (1, .int x1), (2, .int x2), (3, .int (nI k1))], [.ref 13], gh S a b sc ar lo, ex, 0, 0)) rfl ?_
    refine to_get rfl rfl rfl rfl ?_
    refine to_n 1 (fr' := (16, [(0, .ref 13), (1, .int x1), (2, .int x2), (3, .int (nI k1))], [.ref 13, .ref 14], gh S a b sc ar lo, ex, 0, 0)) rfl ?_
    refine to_getR (v := (nI s0)) rfl rfl rfl rfl es0 ?_
    refine to_n 1 (fr' := (20, [(0, .ref 13), (1, .int x1), (2, .int x2), (3, .int (nI k1))], [.int x1, .int (nI s0), .ref 14], gh S a b sc ar lo, ex, 0, 0)) rfl ?_
    refine to_iasR (i := s0) (h' := gh S a b sc (uA ar 14 (upd (ar 14) s0 x1)) lo) rfl rfl (by omega) (by omega) rfl ?_
    have hI2 := ia_14 (g := (upd (ar 14) s0 x1)) hI
    have hF2 := fr_a (c := 14) (g := (upd (ar 14) s0 x1)) hF (by decide)
    refine to_n 1 (fr' := (22, [(0, .ref 13), (1, .int x1), (2, .int x2), (3, .int (nI k1))], [.ref 13], gh S a b sc (uA ar 14 (upd (ar 14) s0 x1)) lo, ex, 0, 0)) rfl ?_
    refine to_get rfl rfl rfl rfl ?_
    refine to_n 1 (fr' := (26, [(0, .ref 13), (1, .int x1), (2, .int x2), (3, .int (nI k1))], [.ref 13, .ref 15], gh S a b sc (uA ar 14 (upd (ar 14) s0 x1)) lo, ex, 0, 0)) rfl ?_
    refine to_getR (v := (nI s0)) rfl rfl rfl rfl es0 ?_
    refine to_n 1 (fr' := (30, [(0, .ref 13), (1, .int x1), (2, .int x2), (3, .int (nI k1))], [.int x2, .int (nI s0), .ref 15], gh S a b sc (uA ar 14 (upd (ar 14) s0 x1)) lo, ex, 0, 0)) rfl ?_
    refine to_iasR (i := s0) (h' := gh S a b sc (uA (uA ar 14 (upd (ar 14) s0 x1)) 15 (upd ((uA ar 14 (upd (ar 14) s0 x1)) 15) s0 x2)) lo) rfl rfl (by omega) (by omega) rfl ?_
    have hI3 := ia_15 (g := (upd ((uA ar 14 (upd (ar 14) s0 x1)) 15) s0 x2)) hI2
    have hF3 := fr_a (c := 15) (g := (upd ((uA ar 14 (upd (ar 14) s0 x1)) 15) s0 x2)) hF2 (by decide)
    refine to_n 1 (fr' := (32, [(0, .ref 13), (1, .int x1), (2, .int x2), (3, .int (nI k1))], [.ref 13], gh S a b sc (uA (uA ar 14 (upd (ar 14) s0 x1)) 15 (upd ((uA ar 14 (upd (ar 14) s0 x1)) 15) s0 x2)) lo, ex, 0, 0)) rfl ?_
    refine to_get rfl rfl rfl rfl ?_
    refine to_n 1 (fr' := (36, [(0, .ref 13), (1, .int x1), (2, .int x2), (3, .int (nI k1))], [.ref 13, .ref 16], gh S a b sc (uA (uA ar 14 (upd (ar 14) s0 x1)) 15 (upd ((uA ar 14 (upd (ar 14) s0 x1)) 15) s0 x2)) lo, ex, 0, 0)) rfl ?_
    refine to_getR (v := (nI s0)) rfl rfl rfl rfl es0 ?_
    refine to_n 1 (fr' := (40, [(0, .ref 13), (1, .int x1), (2, .int x2), (3, .int (nI k1))], [.int (nI k1), .int (nI s0), .ref 16], gh S a b sc (uA (uA ar 14 (upd (ar 14) s0 x1)) 15 (upd ((uA ar 14 (upd (ar 14) s0 x1)) 15) s0 x2)) lo, ex, 0, 0)) rfl ?_
    refine to_iasR (i := s0) (h' := gh S a b sc (uA (uA (uA ar 14 (upd (ar 14) s0 x1)) 15 (upd ((uA ar 14 (upd (ar 14) s0 x1)) 15) s0 x2)) 16 (upd ((uA (uA ar 14 (upd (ar 14) s0 x1)) 15 (upd ((uA ar 14 (upd (ar 14) s0 x1)) 15) s0 x2)) 16) s0 (nI k1))) lo) rfl rfl (by omega) (by omega) rfl ?_
    have hI4 := ia_16 (i := s0) (v := (nI k1)) hI3 (rl_n (n := k1) (by omega))
    have hF4 := fr_a (c := 16) (g := (upd ((uA (uA ar 14 (upd (ar 14) s0 x1)) 15 (upd ((uA ar 14 (upd (ar 14) s0 x1)) 15) s0 x2)) 16) s0 (nI k1))) hF3 (by decide)
    refine to_n 1 (fr' := (42, [(0, .ref 13), (1, .int x1), (2, .int x2), (3, .int (nI k1))], [.ref 13], gh S a b sc (uA (uA (uA ar 14 (upd (ar 14) s0 x1)) 15 (upd ((uA ar 14 (upd (ar 14) s0 x1)) 15) s0 x2)) 16 (upd ((uA (uA ar 14 (upd (ar 14) s0 x1)) 15 (upd ((uA ar 14 (upd (ar 14) s0 x1)) 15) s0 x2)) 16) s0 (nI k1))) lo, ex, 0, 0)) rfl ?_
    refine to_get rfl rfl rfl rfl ?_
    refine to_n 1 (fr' := (46, [(0, .ref 13), (1, .int x1), (2, .int x2), (3, .int (nI k1))], [.ref 13, .ref 17], gh S a b sc (uA (uA (uA ar 14 (upd (ar 14) s0 x1)) 15 (upd ((uA ar 14 (upd (ar 14) s0 x1)) 15) s0 x2)) 16 (upd ((uA (uA ar 14 (upd (ar 14) s0 x1)) 15 (upd ((uA ar 14 (upd (ar 14) s0 x1)) 15) s0 x2)) 16) s0 (nI k1))) lo, ex, 0, 0)) rfl ?_
    refine to_getR (v := (nI s0)) rfl rfl rfl rfl es0 ?_
    refine to_n 1 (fr' := (50, [(0, .ref 13), (1, .int x1), (2, .int x2), (3, .int (nI k1))], [.int (-1), .int (nI s0), .ref 17], gh S a b sc (uA (uA (uA ar 14 (upd (ar 14) s0 x1)) 15 (upd ((uA ar 14 (upd (ar 14) s0 x1)) 15) s0 x2)) 16 (upd ((uA (uA ar 14 (upd (ar 14) s0 x1)) 15 (upd ((uA ar 14 (upd (ar 14) s0 x1)) 15) s0 x2)) 16) s0 (nI k1))) lo, ex, 0, 0)) rfl ?_
    refine to_iasR (i := s0) (h' := gh S a b sc (uA (uA (uA (uA ar 14 (upd (ar 14) s0 x1)) 15 (upd ((uA ar 14 (upd (ar 14) s0 x1)) 15) s0 x2)) 16 (upd ((uA (uA ar 14 (upd (ar 14) s0 x1)) 15 (upd ((uA ar 14 (upd (ar 14) s0 x1)) 15) s0 x2)) 16) s0 (nI k1))) 17 (upd ((uA (uA (uA ar 14 (upd (ar 14) s0 x1)) 15 (upd ((uA ar 14 (upd (ar 14) s0 x1)) 15) s0 x2)) 16 (upd ((uA (uA ar 14 (upd (ar 14) s0 x1)) 15 (upd ((uA ar 14 (upd (ar 14) s0 x1)) 15) s0 x2)) 16) s0 (nI k1))) 17) s0 (-1))) lo) rfl rfl (by omega) (by omega) rfl ?_
    have hI5 := ia_17 (i := s0) (v := (-1)) hI4 (rq_m)
    have hF5 := fr_a (c := 17) (g := (upd ((uA (uA (uA ar 14 (upd (ar 14) s0 x1)) 15 (upd ((uA ar 14 (upd (ar 14) s0 x1)) 15) s0 x2)) 16 (upd ((uA (uA ar 14 (upd (ar 14) s0 x1)) 15 (upd ((uA ar 14 (upd (ar 14) s0 x1)) 15) s0 x2)) 16) s0 (nI k1))) 17) s0 (-1))) hF4 (by decide)
    refine to_n 2 (fr' := (53, [(0, .ref 13), (1, .int x1), (2, .int x2), (3, .int (nI k1))], [.ref 13, .ref 13], gh S a b sc (uA (uA (uA (uA ar 14 (upd (ar 14) s0 x1)) 15 (upd ((uA ar 14 (upd (ar 14) s0 x1)) 15) s0 x2)) 16 (upd ((uA (uA ar 14 (upd (ar 14) s0 x1)) 15 (upd ((uA ar 14 (upd (ar 14) s0 x1)) 15) s0 x2)) 16) s0 (nI k1))) 17 (upd ((uA (uA (uA ar 14 (upd (ar 14) s0 x1)) 15 (upd ((uA ar 14 (upd (ar 14) s0 x1)) 15) s0 x2)) 16 (upd ((uA (uA ar 14 (upd (ar 14) s0 x1)) 15 (upd ((uA ar 14 (upd (ar 14) s0 x1)) 15) s0 x2)) 16) s0 (nI k1))) 17) s0 (-1))) lo, ex, 0, 0)) rfl ?_
    refine to_getR (v := (nI s0)) rfl rfl rfl rfl es0 ?_
    refine to_n 1 (fr' := (57, [(0, .ref 13), (1, .int x1), (2, .int x2), (3, .int (nI k1))], [.int 1, .int (nI s0), .ref 13], gh S a b sc (uA (uA (uA (uA ar 14 (upd (ar 14) s0 x1)) 15 (upd ((uA ar 14 (upd (ar 14) s0 x1)) 15) s0 x2)) 16 (upd ((uA (uA ar 14 (upd (ar 14) s0 x1)) 15 (upd ((uA ar 14 (upd (ar 14) s0 x1)) 15) s0 x2)) 16) s0 (nI k1))) 17 (upd ((uA (uA (uA ar 14 (upd (ar 14) s0 x1)) 15 (upd ((uA ar 14 (upd (ar 14) s0 x1)) 15) s0 x2)) 16 (upd ((uA (uA ar 14 (upd (ar 14) s0 x1)) 15 (upd ((uA ar 14 (upd (ar 14) s0 x1)) 15) s0 x2)) 16) s0 (nI k1))) 17) s0 (-1))) lo, ex, 0, 0)) rfl ?_
    refine to_addN (x := s0) (y := 1) rfl ?_
    refine to_putR (h' := gh S a b (upd sc 1308 (nI (s0 + 1))) (uA (uA (uA (uA ar 14 (upd (ar 14) s0 x1)) 15 (upd ((uA ar 14 (upd (ar 14) s0 x1)) 15) s0 x2)) 16 (upd ((uA (uA ar 14 (upd (ar 14) s0 x1)) 15 (upd ((uA ar 14 (upd (ar 14) s0 x1)) 15) s0 x2)) 16) s0 (nI k1))) 17 (upd ((uA (uA (uA ar 14 (upd (ar 14) s0 x1)) 15 (upd ((uA ar 14 (upd (ar 14) s0 x1)) 15) s0 x2)) 16 (upd ((uA (uA ar 14 (upd (ar 14) s0 x1)) 15 (upd ((uA ar 14 (upd (ar 14) s0 x1)) 15) s0 x2)) 16) s0 (nI k1))) 17) s0 (-1))) lo) rfl rfl rfl (Nat.le_of_ble_eq_true rfl) rfl rfl ?_
    have hI6 := ip_1308 (v := (nI (s0 + 1))) hI5 (rl_n (n := (s0 + 1)) (by omega))
    have hF6 := fr_s (k := 1308) (v := (nI (s0 + 1))) hF5 (by decide)
    refine to_n 1 (fr' := (62, [(0, .ref 13), (1, .int x1), (2, .int x2), (3, .int (nI k1))], [.ref 13], gh S a b (upd sc 1308 (nI (s0 + 1))) (uA (uA (uA (uA ar 14 (upd (ar 14) s0 x1)) 15 (upd ((uA ar 14 (upd (ar 14) s0 x1)) 15) s0 x2)) 16 (upd ((uA (uA ar 14 (upd (ar 14) s0 x1)) 15 (upd ((uA ar 14 (upd (ar 14) s0 x1)) 15) s0 x2)) 16) s0 (nI k1))) 17 (upd ((uA (uA (uA ar 14 (upd (ar 14) s0 x1)) 15 (upd ((uA ar 14 (upd (ar 14) s0 x1)) 15) s0 x2)) 16 (upd ((uA (uA ar 14 (upd (ar 14) s0 x1)) 15 (upd ((uA ar 14 (upd (ar 14) s0 x1)) 15) s0 x2)) 16) s0 (nI k1))) 17) s0 (-1))) lo, ex, 0, 0)) rfl ?_
    refine to_getR (v := (nI (s0 + 1))) rfl rfl rfl rfl rfl ?_
    refine to_n 1 (fr' := (66, [(0, .ref 13), (1, .int x1), (2, .int x2), (3, .int (nI k1))], [.int 1, .int (nI (s0 + 1))], gh S a b (upd sc 1308 (nI (s0 + 1))) (uA (uA (uA (uA ar 14 (upd (ar 14) s0 x1)) 15 (upd ((uA ar 14 (upd (ar 14) s0 x1)) 15) s0 x2)) 16 (upd ((uA (uA ar 14 (upd (ar 14) s0 x1)) 15 (upd ((uA ar 14 (upd (ar 14) s0 x1)) 15) s0 x2)) 16) s0 (nI k1))) 17 (upd ((uA (uA (uA ar 14 (upd (ar 14) s0 x1)) 15 (upd ((uA ar 14 (upd (ar 14) s0 x1)) 15) s0 x2)) 16 (upd ((uA (uA ar 14 (upd (ar 14) s0 x1)) 15 (upd ((uA ar 14 (upd (ar 14) s0 x1)) 15) s0 x2)) 16) s0 (nI k1))) 17) s0 (-1))) lo, ex, 0, 0)) rfl ?_
    refine to_subN (x := (s0 + 1)) (y := 1) rfl (by omega) ?_
    exact to_rt (i := .ireturn) (tg := []) rfl rfl ⟨_, _, _, ⟨hI6, hF6, ⟨rq_n (n := ((s0 + 1) - 1)) (by omega), ⟨s0, by omega, es0, Or.inl ⟨by omega, by exact congrArg nI (by omega), rfl⟩⟩⟩⟩, rfl⟩
  · refine to_n 1 (fr' := (10, [(0, .ref 13), (1, .int x1), (2, .int x2), (3, .int (nI k1))], [.int (-1)], gh S a b sc ar lo, ex, 0, 0)) rfl ?_
    exact to_rt (i := .ireturn) (tg := []) rfl rfl ⟨_, _, _, ⟨hI, hF, ⟨rq_m, ⟨s0, by omega, es0, Or.inr ⟨by omega, rfl, rfl⟩⟩⟩⟩, rfl⟩
set_option maxRecDepth 20000 in
theorem sf_X1_forget {X : Nat × (Nat → Int32)} {S a b : Nat} {sc : Nat → Int32} {ar : Nat → Nat → Int32} {lo : Nat → Int64} {ex : Bool} (hW : Wd S a b) (hI : Iv S sc ar) (x1 : Int32) (d : Nat)  : cv X S a b (d + 1) 16 [.ref 13, .int x1] sc ar lo ex (fun sc' ar' => Iv S sc' ar' ∧ Fr [] [17, 18] sc ar sc' ar') := by
  obtain ⟨ha1, ha8, hb1, hb8, hab, hS1, hS⟩ := id hW
  refine cv_of (M := an_X1_forget) rfl (Nat.le_of_ble_eq_true rfl) ?_
  have hF : Fr [] [17, 18] sc ar sc ar := fr_0
  refine to_eq (fr' := (0, [(0, .ref 13), (1, .int x1)], [], gh S a b sc ar lo, ex, 0, 0)) rfl ?_
  have c2 : ∀ m : Nat, ∀ (i : Nat) (sc1 : Nat → Int32) (ar1 : Nat → Nat → Int32), 9 ≤ i + m → i ≤ 9 → Iv S sc1 ar1 → Fr [] [17, 18] sc ar sc1 ar1 → ag_To X d an_X1_forget (2, [(0, .ref 13), (1, .int x1), (2, .int (nI i))], [], gh S a b sc1 ar1 lo, ex, 0, 0) (qv S a b lo ex (fun sc' ar' => Iv S sc' ar' ∧ Fr [] [17, 18] sc ar sc' ar')) := by
    intro m
    induction m with
    | zero =>
      intro i sc1 ar1 hm hc2_0 hI1 hF1
      refine to_n 2 (fr' := (4, [(0, .ref 13), (1, .int x1), (2, .int (nI i))], [.ref 13, .int (nI i)], gh S a b sc1 ar1 lo, ex, 0, 0)) rfl ?_
      obtain ⟨n2, hn2, e2⟩ := iv_s1308 hI1
      refine to_getR (v := (nI n2)) rfl rfl rfl rfl e2 ?_
      refine to_nc_ge_T (t := 40) (x := i) (y := n2) rfl (by omega) (by omega) (by omega) ?_
      exact to_rt (i := .return_) (tg := []) rfl rfl ⟨_, _, ⟨hI1, hF1⟩, rfl⟩
    | succ m ih =>
      intro i sc1 ar1 hm hc2_0 hI1 hF1
      refine to_n 2 (fr' := (4, [(0, .ref 13), (1, .int x1), (2, .int (nI i))], [.ref 13, .int (nI i)], gh S a b sc1 ar1 lo, ex, 0, 0)) rfl ?_
      obtain ⟨n3, hn3, e3⟩ := iv_s1308 hI1
      refine to_getR (v := (nI n3)) rfl rfl rfl rfl e3 ?_
      refine to_nc_ge (t := 40) (x := i) (y := n3) rfl (by omega) (by omega) (fun q4 => ?_) (fun q4 => ?_)
      · exact to_rt (i := .return_) (tg := []) rfl rfl ⟨_, _, ⟨hI1, hF1⟩, rfl⟩
      · refine to_n 1 (fr' := (11, [(0, .ref 13), (1, .int x1), (2, .int (nI i))], [.ref 13], gh S a b sc1 ar1 lo, ex, 0, 0)) rfl ?_
        refine to_get rfl rfl rfl rfl ?_
        refine to_n 1 (fr' := (15, [(0, .ref 13), (1, .int x1), (2, .int (nI i))], [.int (nI i), .ref 17], gh S a b sc1 ar1 lo, ex, 0, 0)) rfl ?_
        rcases iv_a17 hI1 i with e5 | ⟨n5, hn5, e5⟩
        · refine to_ialR (i := i) (v := (-1)) rfl (by decide) rfl (by omega) (by omega) e5 ?_
          refine to_n 1 (fr' := (17, [(0, .ref 13), (1, .int x1), (2, .int (nI i))], [.int x1, .int (-1)], gh S a b sc1 ar1 lo, ex, 0, 0)) rfl ?_
          refine to_ic_ne (t := 34) rfl (fun q6 => ?_) (fun q6 => ?_)
          · refine to_n 1 (fr' := (37, [(0, .ref 13), (1, .int x1), (2, .int ((nI i) + 1))], [], gh S a b sc1 ar1 lo, ex, 0, 0)) rfl ?_
            rw [nI_1 i]
            refine to_n 1 (fr' := (2, [(0, .ref 13), (1, .int x1), (2, .int (nI (i + 1)))], [], gh S a b sc1 ar1 lo, ex, 0, 0)) rfl ?_
            exact ih (i + 1) sc1 ar1 (by omega) (by omega) hI1 hF1
          · refine to_n 1 (fr' := (21, [(0, .ref 13), (1, .int x1), (2, .int (nI i))], [.ref 13], gh S a b sc1 ar1 lo, ex, 0, 0)) rfl ?_
            refine to_get rfl rfl rfl rfl ?_
            refine to_n 2 (fr' := (26, [(0, .ref 13), (1, .int x1), (2, .int (nI i))], [.int (-1), .int (nI i), .ref 17], gh S a b sc1 ar1 lo, ex, 0, 0)) rfl ?_
            refine to_iasR (i := i) (h' := gh S a b sc1 (uA ar1 17 (upd (ar1 17) i (-1))) lo) rfl rfl (by omega) (by omega) rfl ?_
            have hI7 := ia_17 (i := i) (v := (-1)) hI1 (rq_m)
            have hF7 := fr_a (c := 17) (g := (upd (ar1 17) i (-1))) hF1 (by decide)
            refine to_n 1 (fr' := (28, [(0, .ref 13), (1, .int x1), (2, .int (nI i))], [.ref 13], gh S a b sc1 (uA ar1 17 (upd (ar1 17) i (-1))) lo, ex, 0, 0)) rfl ?_
            refine to_get rfl rfl rfl rfl ?_
            refine to_n 2 (fr' := (33, [(0, .ref 13), (1, .int x1), (2, .int (nI i))], [.int 0, .int (nI i), .ref 18], gh S a b sc1 (uA ar1 17 (upd (ar1 17) i (-1))) lo, ex, 0, 0)) rfl ?_
            refine to_zasR (i := i) (h' := gh S a b sc1 (uA (uA ar1 17 (upd (ar1 17) i (-1))) 18 (upd ((uA ar1 17 (upd (ar1 17) i (-1))) 18) i (vp_nar .boolean 0))) lo) rfl rfl (by omega) (by omega) rfl ?_
            have hI8 := ia_18 (g := (upd ((uA ar1 17 (upd (ar1 17) i (-1))) 18) i (vp_nar .boolean 0))) hI7
            have hF8 := fr_a (c := 18) (g := (upd ((uA ar1 17 (upd (ar1 17) i (-1))) 18) i (vp_nar .boolean 0))) hF7 (by decide)
            refine to_n 1 (fr' := (37, [(0, .ref 13), (1, .int x1), (2, .int ((nI i) + 1))], [], gh S a b sc1 (uA (uA ar1 17 (upd (ar1 17) i (-1))) 18 (upd ((uA ar1 17 (upd (ar1 17) i (-1))) 18) i (vp_nar .boolean 0))) lo, ex, 0, 0)) rfl ?_
            rw [nI_1 i]
            refine to_n 1 (fr' := (2, [(0, .ref 13), (1, .int x1), (2, .int (nI (i + 1)))], [], gh S a b sc1 (uA (uA ar1 17 (upd (ar1 17) i (-1))) 18 (upd ((uA ar1 17 (upd (ar1 17) i (-1))) 18) i (vp_nar .boolean 0))) lo, ex, 0, 0)) rfl ?_
            exact ih (i + 1) sc1 (uA (uA ar1 17 (upd (ar1 17) i (-1))) 18 (upd ((uA ar1 17 (upd (ar1 17) i (-1))) 18) i (vp_nar .boolean 0))) (by omega) (by omega) hI8 hF8
        · refine to_ialR (i := i) (v := (nI n5)) rfl (by decide) rfl (by omega) (by omega) e5 ?_
          refine to_n 1 (fr' := (17, [(0, .ref 13), (1, .int x1), (2, .int (nI i))], [.int x1, .int (nI n5)], gh S a b sc1 ar1 lo, ex, 0, 0)) rfl ?_
          refine to_ic_ne (t := 34) rfl (fun q9 => ?_) (fun q9 => ?_)
          · refine to_n 1 (fr' := (37, [(0, .ref 13), (1, .int x1), (2, .int ((nI i) + 1))], [], gh S a b sc1 ar1 lo, ex, 0, 0)) rfl ?_
            rw [nI_1 i]
            refine to_n 1 (fr' := (2, [(0, .ref 13), (1, .int x1), (2, .int (nI (i + 1)))], [], gh S a b sc1 ar1 lo, ex, 0, 0)) rfl ?_
            exact ih (i + 1) sc1 ar1 (by omega) (by omega) hI1 hF1
          · refine to_n 1 (fr' := (21, [(0, .ref 13), (1, .int x1), (2, .int (nI i))], [.ref 13], gh S a b sc1 ar1 lo, ex, 0, 0)) rfl ?_
            refine to_get rfl rfl rfl rfl ?_
            refine to_n 2 (fr' := (26, [(0, .ref 13), (1, .int x1), (2, .int (nI i))], [.int (-1), .int (nI i), .ref 17], gh S a b sc1 ar1 lo, ex, 0, 0)) rfl ?_
            refine to_iasR (i := i) (h' := gh S a b sc1 (uA ar1 17 (upd (ar1 17) i (-1))) lo) rfl rfl (by omega) (by omega) rfl ?_
            have hI10 := ia_17 (i := i) (v := (-1)) hI1 (rq_m)
            have hF10 := fr_a (c := 17) (g := (upd (ar1 17) i (-1))) hF1 (by decide)
            refine to_n 1 (fr' := (28, [(0, .ref 13), (1, .int x1), (2, .int (nI i))], [.ref 13], gh S a b sc1 (uA ar1 17 (upd (ar1 17) i (-1))) lo, ex, 0, 0)) rfl ?_
            refine to_get rfl rfl rfl rfl ?_
            refine to_n 2 (fr' := (33, [(0, .ref 13), (1, .int x1), (2, .int (nI i))], [.int 0, .int (nI i), .ref 18], gh S a b sc1 (uA ar1 17 (upd (ar1 17) i (-1))) lo, ex, 0, 0)) rfl ?_
            refine to_zasR (i := i) (h' := gh S a b sc1 (uA (uA ar1 17 (upd (ar1 17) i (-1))) 18 (upd ((uA ar1 17 (upd (ar1 17) i (-1))) 18) i (vp_nar .boolean 0))) lo) rfl rfl (by omega) (by omega) rfl ?_
            have hI11 := ia_18 (g := (upd ((uA ar1 17 (upd (ar1 17) i (-1))) 18) i (vp_nar .boolean 0))) hI10
            have hF11 := fr_a (c := 18) (g := (upd ((uA ar1 17 (upd (ar1 17) i (-1))) 18) i (vp_nar .boolean 0))) hF10 (by decide)
            refine to_n 1 (fr' := (37, [(0, .ref 13), (1, .int x1), (2, .int ((nI i) + 1))], [], gh S a b sc1 (uA (uA ar1 17 (upd (ar1 17) i (-1))) 18 (upd ((uA ar1 17 (upd (ar1 17) i (-1))) 18) i (vp_nar .boolean 0))) lo, ex, 0, 0)) rfl ?_
            rw [nI_1 i]
            refine to_n 1 (fr' := (2, [(0, .ref 13), (1, .int x1), (2, .int (nI (i + 1)))], [], gh S a b sc1 (uA (uA ar1 17 (upd (ar1 17) i (-1))) 18 (upd ((uA ar1 17 (upd (ar1 17) i (-1))) 18) i (vp_nar .boolean 0))) lo, ex, 0, 0)) rfl ?_
            exact ih (i + 1) sc1 (uA (uA ar1 17 (upd (ar1 17) i (-1))) 18 (upd ((uA ar1 17 (upd (ar1 17) i (-1))) 18) i (vp_nar .boolean 0))) (by omega) (by omega) hI11 hF11
  refine to_n 2 (fr' := (2, [(0, .ref 13), (1, .int x1), (2, .int 0)], [], gh S a b sc ar lo, ex, 0, 0)) rfl ?_
  exact c2 (9 - 0) 0 sc ar (by omega) (by omega) hI hF
set_option maxRecDepth 20000 in
theorem sf_X1_bound {X : Nat × (Nat → Int32)} {S a b : Nat} {sc : Nat → Int32} {ar : Nat → Nat → Int32} {lo : Nat → Int64} {ex : Bool} (hW : Wd S a b) (hI : Iv S sc ar) (x1 : Int32) (d : Nat)  : cp X S a b (d + 1) 17 [.ref 13, .int x1] sc ar lo ex (fun x => True) := by
  obtain ⟨ha1, ha8, hb1, hb8, hab, hS1, hS⟩ := id hW
  refine cp_of (M := an_X1_bound) rfl (Nat.le_of_ble_eq_true rfl) ?_
  refine to_eq (fr' := (0, [(0, .ref 13), (1, .int x1)], [], gh S a b sc ar lo, ex, 0, 0)) rfl ?_
  have c4 : ∀ m : Nat, ∀ (y : Int32) (i : Nat) , 9 ≤ i + m → i ≤ 9 → ag_To X d an_X1_bound (4, [(0, .ref 13), (1, .int x1), (2, .int y), (3, .int (nI i))], [], gh S a b sc ar lo, ex, 0, 0) (qp S a b sc ar lo ex (fun x => True)) := by
    intro m
    induction m with
    | zero =>
      intro y i hm hc4_0
      refine to_n 2 (fr' := (6, [(0, .ref 13), (1, .int x1), (2, .int y), (3, .int (nI i))], [.ref 13, .int (nI i)], gh S a b sc ar lo, ex, 0, 0)) rfl ?_
      obtain ⟨n2, hn2, e2⟩ := iv_s1308 hI
      refine to_getR (v := (nI n2)) rfl rfl rfl rfl e2 ?_
      refine to_nc_ge_T (t := 31) (x := i) (y := n2) rfl (by omega) (by omega) (by omega) ?_
      refine to_n 1 (fr' := (32, [(0, .ref 13), (1, .int x1), (2, .int y), (3, .int (nI i))], [.int y], gh S a b sc ar lo, ex, 0, 0)) rfl ?_
      exact to_rt (i := .ireturn) (tg := []) rfl rfl ⟨_, trivial, rfl⟩
    | succ m ih =>
      intro y i hm hc4_0
      refine to_n 2 (fr' := (6, [(0, .ref 13), (1, .int x1), (2, .int y), (3, .int (nI i))], [.ref 13, .int (nI i)], gh S a b sc ar lo, ex, 0, 0)) rfl ?_
      obtain ⟨n3, hn3, e3⟩ := iv_s1308 hI
      refine to_getR (v := (nI n3)) rfl rfl rfl rfl e3 ?_
      refine to_nc_ge (t := 31) (x := i) (y := n3) rfl (by omega) (by omega) (fun q4 => ?_) (fun q4 => ?_)
      · refine to_n 1 (fr' := (32, [(0, .ref 13), (1, .int x1), (2, .int y), (3, .int (nI i))], [.int y], gh S a b sc ar lo, ex, 0, 0)) rfl ?_
        exact to_rt (i := .ireturn) (tg := []) rfl rfl ⟨_, trivial, rfl⟩
      · refine to_n 1 (fr' := (13, [(0, .ref 13), (1, .int x1), (2, .int y), (3, .int (nI i))], [.ref 13], gh S a b sc ar lo, ex, 0, 0)) rfl ?_
        refine to_get rfl rfl rfl rfl ?_
        refine to_n 1 (fr' := (17, [(0, .ref 13), (1, .int x1), (2, .int y), (3, .int (nI i))], [.int (nI i), .ref 17], gh S a b sc ar lo, ex, 0, 0)) rfl ?_
        rcases iv_a17 hI i with e5 | ⟨n5, hn5, e5⟩
        · refine to_ialR (i := i) (v := (-1)) rfl (by decide) rfl (by omega) (by omega) e5 ?_
          refine to_n 1 (fr' := (19, [(0, .ref 13), (1, .int x1), (2, .int y), (3, .int (nI i))], [.int x1, .int (-1)], gh S a b sc ar lo, ex, 0, 0)) rfl ?_
          refine to_ic_ne (t := 25) rfl (fun q6 => ?_) (fun q6 => ?_)
          · refine to_n 1 (fr' := (28, [(0, .ref 13), (1, .int x1), (2, .int y), (3, .int ((nI i) + 1))], [], gh S a b sc ar lo, ex, 0, 0)) rfl ?_
            rw [nI_1 i]
            refine to_n 1 (fr' := (4, [(0, .ref 13), (1, .int x1), (2, .int y), (3, .int (nI (i + 1)))], [], gh S a b sc ar lo, ex, 0, 0)) rfl ?_
            exact ih y (i + 1) (by omega) (by omega)
          · refine to_n 2 (fr' := (28, [(0, .ref 13), (1, .int x1), (2, .int (y + 1)), (3, .int ((nI i) + 1))], [], gh S a b sc ar lo, ex, 0, 0)) rfl ?_
            rw [nI_1 i]
            refine to_n 1 (fr' := (4, [(0, .ref 13), (1, .int x1), (2, .int (y + 1)), (3, .int (nI (i + 1)))], [], gh S a b sc ar lo, ex, 0, 0)) rfl ?_
            exact ih (y + 1) (i + 1) (by omega) (by omega)
        · refine to_ialR (i := i) (v := (nI n5)) rfl (by decide) rfl (by omega) (by omega) e5 ?_
          refine to_n 1 (fr' := (19, [(0, .ref 13), (1, .int x1), (2, .int y), (3, .int (nI i))], [.int x1, .int (nI n5)], gh S a b sc ar lo, ex, 0, 0)) rfl ?_
          refine to_ic_ne (t := 25) rfl (fun q7 => ?_) (fun q7 => ?_)
          · refine to_n 1 (fr' := (28, [(0, .ref 13), (1, .int x1), (2, .int y), (3, .int ((nI i) + 1))], [], gh S a b sc ar lo, ex, 0, 0)) rfl ?_
            rw [nI_1 i]
            refine to_n 1 (fr' := (4, [(0, .ref 13), (1, .int x1), (2, .int y), (3, .int (nI (i + 1)))], [], gh S a b sc ar lo, ex, 0, 0)) rfl ?_
            exact ih y (i + 1) (by omega) (by omega)
          · refine to_n 2 (fr' := (28, [(0, .ref 13), (1, .int x1), (2, .int (y + 1)), (3, .int ((nI i) + 1))], [], gh S a b sc ar lo, ex, 0, 0)) rfl ?_
            rw [nI_1 i]
            refine to_n 1 (fr' := (4, [(0, .ref 13), (1, .int x1), (2, .int (y + 1)), (3, .int (nI (i + 1)))], [], gh S a b sc ar lo, ex, 0, 0)) rfl ?_
            exact ih (y + 1) (i + 1) (by omega) (by omega)
  refine to_n 4 (fr' := (4, [(0, .ref 13), (1, .int x1), (2, .int 0), (3, .int 0)], [], gh S a b sc ar lo, ex, 0, 0)) rfl ?_
  exact c4 (9 - 0) 0 0 (by omega) (by omega)
set_option maxRecDepth 20000 in
theorem sf_X1_allQuarrels {X : Nat × (Nat → Int32)} {S a b : Nat} {sc : Nat → Int32} {ar : Nat → Nat → Int32} {lo : Nat → Int64} {ex : Bool} (hW : Wd S a b) (hI : Iv S sc ar)  (d : Nat)  : cp X S a b (d + 1) 18 [.ref 13] sc ar lo ex (fun x => True) := by
  obtain ⟨ha1, ha8, hb1, hb8, hab, hS1, hS⟩ := id hW
  refine cp_of (M := an_X1_allQuarrels) rfl (Nat.le_of_ble_eq_true rfl) ?_
  refine to_eq (fr' := (0, [(0, .ref 13)], [], gh S a b sc ar lo, ex, 0, 0)) rfl ?_
  have c4 : ∀ m : Nat, ∀ (y : Int32) (i : Nat) , 9 ≤ i + m → i ≤ 9 → ag_To X d an_X1_allQuarrels (4, [(0, .ref 13), (1, .int y), (2, .int (nI i))], [], gh S a b sc ar lo, ex, 0, 0) (qp S a b sc ar lo ex (fun x => True)) := by
    intro m
    induction m with
    | zero =>
      intro y i hm hc4_0
      refine to_n 2 (fr' := (6, [(0, .ref 13), (1, .int y), (2, .int (nI i))], [.ref 13, .int (nI i)], gh S a b sc ar lo, ex, 0, 0)) rfl ?_
      obtain ⟨n2, hn2, e2⟩ := iv_s1308 hI
      refine to_getR (v := (nI n2)) rfl rfl rfl rfl e2 ?_
      refine to_nc_ge_T (t := 27) (x := i) (y := n2) rfl (by omega) (by omega) (by omega) ?_
      refine to_n 1 (fr' := (28, [(0, .ref 13), (1, .int y), (2, .int (nI i))], [.int y], gh S a b sc ar lo, ex, 0, 0)) rfl ?_
      exact to_rt (i := .ireturn) (tg := []) rfl rfl ⟨_, trivial, rfl⟩
    | succ m ih =>
      intro y i hm hc4_0
      refine to_n 2 (fr' := (6, [(0, .ref 13), (1, .int y), (2, .int (nI i))], [.ref 13, .int (nI i)], gh S a b sc ar lo, ex, 0, 0)) rfl ?_
      obtain ⟨n3, hn3, e3⟩ := iv_s1308 hI
      refine to_getR (v := (nI n3)) rfl rfl rfl rfl e3 ?_
      refine to_nc_ge (t := 27) (x := i) (y := n3) rfl (by omega) (by omega) (fun q4 => ?_) (fun q4 => ?_)
      · refine to_n 1 (fr' := (28, [(0, .ref 13), (1, .int y), (2, .int (nI i))], [.int y], gh S a b sc ar lo, ex, 0, 0)) rfl ?_
        exact to_rt (i := .ireturn) (tg := []) rfl rfl ⟨_, trivial, rfl⟩
      · refine to_n 2 (fr' := (14, [(0, .ref 13), (1, .int y), (2, .int (nI i))], [.ref 13, .int y], gh S a b sc ar lo, ex, 0, 0)) rfl ?_
        refine to_get rfl rfl rfl rfl ?_
        refine to_n 1 (fr' := (18, [(0, .ref 13), (1, .int y), (2, .int (nI i))], [.int (nI i), .ref 20, .int y], gh S a b sc ar lo, ex, 0, 0)) rfl ?_
        refine to_ialR (i := i) (v := ((ar 20) i)) rfl (by decide) rfl (by omega) (by omega) rfl ?_
        refine to_n 3 (fr' := (24, [(0, .ref 13), (1, .int (y + ((ar 20) i))), (2, .int ((nI i) + 1))], [], gh S a b sc ar lo, ex, 0, 0)) rfl ?_
        rw [nI_1 i]
        refine to_n 1 (fr' := (4, [(0, .ref 13), (1, .int (y + ((ar 20) i))), (2, .int (nI (i + 1)))], [], gh S a b sc ar lo, ex, 0, 0)) rfl ?_
        exact ih (y + ((ar 20) i)) (i + 1) (by omega) (by omega)
  refine to_n 4 (fr' := (4, [(0, .ref 13), (1, .int 0), (2, .int 0)], [], gh S a b sc ar lo, ex, 0, 0)) rfl ?_
  exact c4 (9 - 0) 0 0 (by omega) (by omega)
set_option maxRecDepth 20000 in
theorem sf_X6_put {X : Nat × (Nat → Int32)} {S a b : Nat} {sc : Nat → Int32} {ar : Nat → Nat → Int32} {lo : Nat → Int64} {ex : Bool} (hW : Wd S a b) (hI : Iv S sc ar) (x1 : Int32) (s0 : Nat) (hs0 : s0 + 4 ≤ 400) (hh : sc 2201 = nI s0) (d : Nat)  : cv X S a b (d + 1) 55 [.ref 22, .int x1] sc ar lo ex (fun sc' ar' => Iv S sc' ar' ∧ Fr [2201] [23] sc ar sc' ar' ∧ (sc' 2201 = nI (s0 + 4) ∧ (∀ t, t < s0 → ar' 23 t = ar 23 t) ∧ ar' 23 (s0 + 0) = (vp_nar .byte (((x1 >>> (24 &&& 31)) : Int32).toInt8.toInt32)) ∧ ar' 23 (s0 + 1) = (vp_nar .byte (((x1 >>> (16 &&& 31)) : Int32).toInt8.toInt32)) ∧ ar' 23 (s0 + 2) = (vp_nar .byte (((x1 >>> (8 &&& 31)) : Int32).toInt8.toInt32)) ∧ ar' 23 (s0 + 3) = (vp_nar .byte (((x1 >>> (0 &&& 31)) : Int32).toInt8.toInt32)))) := by
  obtain ⟨ha1, ha8, hb1, hb8, hab, hS1, hS⟩ := id hW
  refine cv_of (M := an_X6_put) rfl (Nat.le_of_ble_eq_true rfl) ?_
  have hF : Fr [2201] [23] sc ar sc ar := fr_0
  refine to_eq (fr' := (0, [(0, .ref 22), (1, .int x1)], [], gh S a b sc ar lo, ex, 0, 0)) rfl ?_
  have c3_0 : ∀ (p : Nat) (sc1 : Nat → Int32) (ar1 : Nat → Nat → Int32), sc1 2201 = nI p → p = s0 + 3 → (∀ t, t < s0 → ar1 23 t = ar 23 t) → ar1 23 (s0 + 0) = (vp_nar .byte (((x1 >>> (24 &&& 31)) : Int32).toInt8.toInt32)) → ar1 23 (s0 + 1) = (vp_nar .byte (((x1 >>> (16 &&& 31)) : Int32).toInt8.toInt32)) → ar1 23 (s0 + 2) = (vp_nar .byte (((x1 >>> (8 &&& 31)) : Int32).toInt8.toInt32)) → Iv S sc1 ar1 → Fr [2201] [23] sc ar sc1 ar1 → ag_To X d an_X6_put (3, [(0, .ref 22), (1, .int x1), (2, .int 0)], [], gh S a b sc1 ar1 lo, ex, 0, 0) (qv S a b lo ex (fun sc' ar' => Iv S sc' ar' ∧ Fr [2201] [23] sc ar sc' ar' ∧ (sc' 2201 = nI (s0 + 4) ∧ (∀ t, t < s0 → ar' 23 t = ar 23 t) ∧ ar' 23 (s0 + 0) = (vp_nar .byte (((x1 >>> (24 &&& 31)) : Int32).toInt8.toInt32)) ∧ ar' 23 (s0 + 1) = (vp_nar .byte (((x1 >>> (16 &&& 31)) : Int32).toInt8.toInt32)) ∧ ar' 23 (s0 + 2) = (vp_nar .byte (((x1 >>> (8 &&& 31)) : Int32).toInt8.toInt32)) ∧ ar' 23 (s0 + 3) = (vp_nar .byte (((x1 >>> (0 &&& 31)) : Int32).toInt8.toInt32))))) := by
    intro p sc1 ar1 hc3_0 hc3_1 hc3_2 hc3_3 hc3_4 hc3_5 hI1 hF1
    refine to_n 3 (fr' := (8, [(0, .ref 22), (1, .int x1), (2, .int 0)], [.ref 22], gh S a b sc1 ar1 lo, ex, 0, 0)) rfl ?_
    refine to_getR (v := (nI p)) rfl rfl rfl rfl hc3_0 ?_
    refine to_n 1 (fr' := (12, [(0, .ref 22), (1, .int x1), (2, .int 0)], [.ref 22, .int (nI p)], gh S a b sc1 ar1 lo, ex, 0, 0)) rfl ?_
    refine to_get rfl rfl rfl rfl ?_
    refine to_len rfl (by decide) rfl (by decide) ?_
    refine to_eq (fr' := (16, [(0, .ref 22), (1, .int x1), (2, .int 0)], [.int (nI 400), .int (nI p)], gh S a b sc1 ar1 lo, ex, 0, 0)) rfl ?_
    refine to_nc_ge_F (t := 48) (x := p) (y := 400) rfl (by omega) (by omega) (by omega) ?_
    refine to_n 1 (fr' := (20, [(0, .ref 22), (1, .int x1), (2, .int 0)], [.ref 22], gh S a b sc1 ar1 lo, ex, 0, 0)) rfl ?_
    refine to_get rfl rfl rfl rfl ?_
    refine to_n 1 (fr' := (24, [(0, .ref 22), (1, .int x1), (2, .int 0)], [.ref 22, .ref 23], gh S a b sc1 ar1 lo, ex, 0, 0)) rfl ?_
    refine to_getR (v := (nI p)) rfl rfl rfl rfl hc3_0 ?_
    refine to_n 4 (fr' := (31, [(0, .ref 22), (1, .int x1), (2, .int 0)], [.int (((x1 >>> (0 &&& 31)) : Int32).toInt8.toInt32), .int (nI p), .ref 23], gh S a b sc1 ar1 lo, ex, 0, 0)) rfl ?_
    refine to_basR (i := p) (h' := gh S a b sc1 (uA ar1 23 (upd (ar1 23) p (vp_nar .byte (((x1 >>> (0 &&& 31)) : Int32).toInt8.toInt32)))) lo) rfl rfl (by omega) (by omega) rfl ?_
    have hI2 := ia_23 (g := (upd (ar1 23) p (vp_nar .byte (((x1 >>> (0 &&& 31)) : Int32).toInt8.toInt32)))) hI1
    have hF2 := fr_a (c := 23) (g := (upd (ar1 23) p (vp_nar .byte (((x1 >>> (0 &&& 31)) : Int32).toInt8.toInt32)))) hF1 (by decide)
    refine to_n 2 (fr' := (34, [(0, .ref 22), (1, .int x1), (2, .int 0)], [.ref 22, .ref 22], gh S a b sc1 (uA ar1 23 (upd (ar1 23) p (vp_nar .byte (((x1 >>> (0 &&& 31)) : Int32).toInt8.toInt32)))) lo, ex, 0, 0)) rfl ?_
    refine to_getR (v := (nI p)) rfl rfl rfl rfl hc3_0 ?_
    refine to_n 1 (fr' := (38, [(0, .ref 22), (1, .int x1), (2, .int 0)], [.int 1, .int (nI p), .ref 22], gh S a b sc1 (uA ar1 23 (upd (ar1 23) p (vp_nar .byte (((x1 >>> (0 &&& 31)) : Int32).toInt8.toInt32)))) lo, ex, 0, 0)) rfl ?_
    refine to_addN (x := p) (y := 1) rfl ?_
    refine to_putR (h' := gh S a b (upd sc1 2201 (nI (p + 1))) (uA ar1 23 (upd (ar1 23) p (vp_nar .byte (((x1 >>> (0 &&& 31)) : Int32).toInt8.toInt32)))) lo) rfl rfl rfl (Nat.le_of_ble_eq_true rfl) rfl rfl ?_
    have hI3 := ip_2201 (v := (nI (p + 1))) hI2 (rl_n (n := (p + 1)) (by omega))
    have hF3 := fr_s (k := 2201) (v := (nI (p + 1))) hF2 (by decide)
    refine to_n 4 (fr' := (48, [(0, .ref 22), (1, .int x1), (2, .int (-8))], [], gh S a b (upd sc1 2201 (nI (p + 1))) (uA ar1 23 (upd (ar1 23) p (vp_nar .byte (((x1 >>> (0 &&& 31)) : Int32).toInt8.toInt32)))) lo, ex, 0, 0)) rfl ?_
    exact to_rt (i := .return_) (tg := []) rfl rfl ⟨_, _, ⟨hI3, hF3, ⟨(show (upd sc1 2201 (nI (p + 1))) 2201 = nI (p + 1) from rfl).trans (congrArg nI (by omega)), fun t ht => (show (upd (ar1 23) p (vp_nar .byte (((x1 >>> (0 &&& 31)) : Int32).toInt8.toInt32))) t = _ from ug_ne (by omega)).trans (hc3_2 t ht), ((show (upd (ar1 23) p (vp_nar .byte (((x1 >>> (0 &&& 31)) : Int32).toInt8.toInt32))) (s0 + 0) = _ from ug_ne (by omega)).trans hc3_3), ((show (upd (ar1 23) p (vp_nar .byte (((x1 >>> (0 &&& 31)) : Int32).toInt8.toInt32))) (s0 + 1) = _ from ug_ne (by omega)).trans hc3_4), ((show (upd (ar1 23) p (vp_nar .byte (((x1 >>> (0 &&& 31)) : Int32).toInt8.toInt32))) (s0 + 2) = _ from ug_ne (by omega)).trans hc3_5), (show (upd (ar1 23) p (vp_nar .byte (((x1 >>> (0 &&& 31)) : Int32).toInt8.toInt32))) (s0 + 3) = _ from by rw [← hc3_1]; exact ug_eq)⟩⟩, rfl⟩
  have c3_8 : ∀ (p : Nat) (sc4 : Nat → Int32) (ar4 : Nat → Nat → Int32), sc4 2201 = nI p → p = s0 + 2 → (∀ t, t < s0 → ar4 23 t = ar 23 t) → ar4 23 (s0 + 0) = (vp_nar .byte (((x1 >>> (24 &&& 31)) : Int32).toInt8.toInt32)) → ar4 23 (s0 + 1) = (vp_nar .byte (((x1 >>> (16 &&& 31)) : Int32).toInt8.toInt32)) → Iv S sc4 ar4 → Fr [2201] [23] sc ar sc4 ar4 → ag_To X d an_X6_put (3, [(0, .ref 22), (1, .int x1), (2, .int 8)], [], gh S a b sc4 ar4 lo, ex, 0, 0) (qv S a b lo ex (fun sc' ar' => Iv S sc' ar' ∧ Fr [2201] [23] sc ar sc' ar' ∧ (sc' 2201 = nI (s0 + 4) ∧ (∀ t, t < s0 → ar' 23 t = ar 23 t) ∧ ar' 23 (s0 + 0) = (vp_nar .byte (((x1 >>> (24 &&& 31)) : Int32).toInt8.toInt32)) ∧ ar' 23 (s0 + 1) = (vp_nar .byte (((x1 >>> (16 &&& 31)) : Int32).toInt8.toInt32)) ∧ ar' 23 (s0 + 2) = (vp_nar .byte (((x1 >>> (8 &&& 31)) : Int32).toInt8.toInt32)) ∧ ar' 23 (s0 + 3) = (vp_nar .byte (((x1 >>> (0 &&& 31)) : Int32).toInt8.toInt32))))) := by
    intro p sc4 ar4 hc3_0 hc3_1 hc3_2 hc3_3 hc3_4 hI4 hF4
    refine to_n 3 (fr' := (8, [(0, .ref 22), (1, .int x1), (2, .int 8)], [.ref 22], gh S a b sc4 ar4 lo, ex, 0, 0)) rfl ?_
    refine to_getR (v := (nI p)) rfl rfl rfl rfl hc3_0 ?_
    refine to_n 1 (fr' := (12, [(0, .ref 22), (1, .int x1), (2, .int 8)], [.ref 22, .int (nI p)], gh S a b sc4 ar4 lo, ex, 0, 0)) rfl ?_
    refine to_get rfl rfl rfl rfl ?_
    refine to_len rfl (by decide) rfl (by decide) ?_
    refine to_eq (fr' := (16, [(0, .ref 22), (1, .int x1), (2, .int 8)], [.int (nI 400), .int (nI p)], gh S a b sc4 ar4 lo, ex, 0, 0)) rfl ?_
    refine to_nc_ge_F (t := 48) (x := p) (y := 400) rfl (by omega) (by omega) (by omega) ?_
    refine to_n 1 (fr' := (20, [(0, .ref 22), (1, .int x1), (2, .int 8)], [.ref 22], gh S a b sc4 ar4 lo, ex, 0, 0)) rfl ?_
    refine to_get rfl rfl rfl rfl ?_
    refine to_n 1 (fr' := (24, [(0, .ref 22), (1, .int x1), (2, .int 8)], [.ref 22, .ref 23], gh S a b sc4 ar4 lo, ex, 0, 0)) rfl ?_
    refine to_getR (v := (nI p)) rfl rfl rfl rfl hc3_0 ?_
    refine to_n 4 (fr' := (31, [(0, .ref 22), (1, .int x1), (2, .int 8)], [.int (((x1 >>> (8 &&& 31)) : Int32).toInt8.toInt32), .int (nI p), .ref 23], gh S a b sc4 ar4 lo, ex, 0, 0)) rfl ?_
    refine to_basR (i := p) (h' := gh S a b sc4 (uA ar4 23 (upd (ar4 23) p (vp_nar .byte (((x1 >>> (8 &&& 31)) : Int32).toInt8.toInt32)))) lo) rfl rfl (by omega) (by omega) rfl ?_
    have hI5 := ia_23 (g := (upd (ar4 23) p (vp_nar .byte (((x1 >>> (8 &&& 31)) : Int32).toInt8.toInt32)))) hI4
    have hF5 := fr_a (c := 23) (g := (upd (ar4 23) p (vp_nar .byte (((x1 >>> (8 &&& 31)) : Int32).toInt8.toInt32)))) hF4 (by decide)
    refine to_n 2 (fr' := (34, [(0, .ref 22), (1, .int x1), (2, .int 8)], [.ref 22, .ref 22], gh S a b sc4 (uA ar4 23 (upd (ar4 23) p (vp_nar .byte (((x1 >>> (8 &&& 31)) : Int32).toInt8.toInt32)))) lo, ex, 0, 0)) rfl ?_
    refine to_getR (v := (nI p)) rfl rfl rfl rfl hc3_0 ?_
    refine to_n 1 (fr' := (38, [(0, .ref 22), (1, .int x1), (2, .int 8)], [.int 1, .int (nI p), .ref 22], gh S a b sc4 (uA ar4 23 (upd (ar4 23) p (vp_nar .byte (((x1 >>> (8 &&& 31)) : Int32).toInt8.toInt32)))) lo, ex, 0, 0)) rfl ?_
    refine to_addN (x := p) (y := 1) rfl ?_
    refine to_putR (h' := gh S a b (upd sc4 2201 (nI (p + 1))) (uA ar4 23 (upd (ar4 23) p (vp_nar .byte (((x1 >>> (8 &&& 31)) : Int32).toInt8.toInt32)))) lo) rfl rfl rfl (Nat.le_of_ble_eq_true rfl) rfl rfl ?_
    have hI6 := ip_2201 (v := (nI (p + 1))) hI5 (rl_n (n := (p + 1)) (by omega))
    have hF6 := fr_s (k := 2201) (v := (nI (p + 1))) hF5 (by decide)
    refine to_n 2 (fr' := (3, [(0, .ref 22), (1, .int x1), (2, .int 0)], [], gh S a b (upd sc4 2201 (nI (p + 1))) (uA ar4 23 (upd (ar4 23) p (vp_nar .byte (((x1 >>> (8 &&& 31)) : Int32).toInt8.toInt32)))) lo, ex, 0, 0)) rfl ?_
    exact c3_0 (p + 1) (upd sc4 2201 (nI (p + 1))) (uA ar4 23 (upd (ar4 23) p (vp_nar .byte (((x1 >>> (8 &&& 31)) : Int32).toInt8.toInt32)))) (rfl) (by omega) (fun t ht => (show (upd (ar4 23) p (vp_nar .byte (((x1 >>> (8 &&& 31)) : Int32).toInt8.toInt32))) t = _ from ug_ne (by omega)).trans (hc3_2 t ht)) ((show (upd (ar4 23) p (vp_nar .byte (((x1 >>> (8 &&& 31)) : Int32).toInt8.toInt32))) (s0 + 0) = _ from ug_ne (by omega)).trans hc3_3) ((show (upd (ar4 23) p (vp_nar .byte (((x1 >>> (8 &&& 31)) : Int32).toInt8.toInt32))) (s0 + 1) = _ from ug_ne (by omega)).trans hc3_4) (show (upd (ar4 23) p (vp_nar .byte (((x1 >>> (8 &&& 31)) : Int32).toInt8.toInt32))) (s0 + 2) = _ from by rw [← hc3_1]; exact ug_eq) hI6 hF6
  have c3_16 : ∀ (p : Nat) (sc7 : Nat → Int32) (ar7 : Nat → Nat → Int32), sc7 2201 = nI p → p = s0 + 1 → (∀ t, t < s0 → ar7 23 t = ar 23 t) → ar7 23 (s0 + 0) = (vp_nar .byte (((x1 >>> (24 &&& 31)) : Int32).toInt8.toInt32)) → Iv S sc7 ar7 → Fr [2201] [23] sc ar sc7 ar7 → ag_To X d an_X6_put (3, [(0, .ref 22), (1, .int x1), (2, .int 16)], [], gh S a b sc7 ar7 lo, ex, 0, 0) (qv S a b lo ex (fun sc' ar' => Iv S sc' ar' ∧ Fr [2201] [23] sc ar sc' ar' ∧ (sc' 2201 = nI (s0 + 4) ∧ (∀ t, t < s0 → ar' 23 t = ar 23 t) ∧ ar' 23 (s0 + 0) = (vp_nar .byte (((x1 >>> (24 &&& 31)) : Int32).toInt8.toInt32)) ∧ ar' 23 (s0 + 1) = (vp_nar .byte (((x1 >>> (16 &&& 31)) : Int32).toInt8.toInt32)) ∧ ar' 23 (s0 + 2) = (vp_nar .byte (((x1 >>> (8 &&& 31)) : Int32).toInt8.toInt32)) ∧ ar' 23 (s0 + 3) = (vp_nar .byte (((x1 >>> (0 &&& 31)) : Int32).toInt8.toInt32))))) := by
    intro p sc7 ar7 hc3_0 hc3_1 hc3_2 hc3_3 hI7 hF7
    refine to_n 3 (fr' := (8, [(0, .ref 22), (1, .int x1), (2, .int 16)], [.ref 22], gh S a b sc7 ar7 lo, ex, 0, 0)) rfl ?_
    refine to_getR (v := (nI p)) rfl rfl rfl rfl hc3_0 ?_
    refine to_n 1 (fr' := (12, [(0, .ref 22), (1, .int x1), (2, .int 16)], [.ref 22, .int (nI p)], gh S a b sc7 ar7 lo, ex, 0, 0)) rfl ?_
    refine to_get rfl rfl rfl rfl ?_
    refine to_len rfl (by decide) rfl (by decide) ?_
    refine to_eq (fr' := (16, [(0, .ref 22), (1, .int x1), (2, .int 16)], [.int (nI 400), .int (nI p)], gh S a b sc7 ar7 lo, ex, 0, 0)) rfl ?_
    refine to_nc_ge_F (t := 48) (x := p) (y := 400) rfl (by omega) (by omega) (by omega) ?_
    refine to_n 1 (fr' := (20, [(0, .ref 22), (1, .int x1), (2, .int 16)], [.ref 22], gh S a b sc7 ar7 lo, ex, 0, 0)) rfl ?_
    refine to_get rfl rfl rfl rfl ?_
    refine to_n 1 (fr' := (24, [(0, .ref 22), (1, .int x1), (2, .int 16)], [.ref 22, .ref 23], gh S a b sc7 ar7 lo, ex, 0, 0)) rfl ?_
    refine to_getR (v := (nI p)) rfl rfl rfl rfl hc3_0 ?_
    refine to_n 4 (fr' := (31, [(0, .ref 22), (1, .int x1), (2, .int 16)], [.int (((x1 >>> (16 &&& 31)) : Int32).toInt8.toInt32), .int (nI p), .ref 23], gh S a b sc7 ar7 lo, ex, 0, 0)) rfl ?_
    refine to_basR (i := p) (h' := gh S a b sc7 (uA ar7 23 (upd (ar7 23) p (vp_nar .byte (((x1 >>> (16 &&& 31)) : Int32).toInt8.toInt32)))) lo) rfl rfl (by omega) (by omega) rfl ?_
    have hI8 := ia_23 (g := (upd (ar7 23) p (vp_nar .byte (((x1 >>> (16 &&& 31)) : Int32).toInt8.toInt32)))) hI7
    have hF8 := fr_a (c := 23) (g := (upd (ar7 23) p (vp_nar .byte (((x1 >>> (16 &&& 31)) : Int32).toInt8.toInt32)))) hF7 (by decide)
    refine to_n 2 (fr' := (34, [(0, .ref 22), (1, .int x1), (2, .int 16)], [.ref 22, .ref 22], gh S a b sc7 (uA ar7 23 (upd (ar7 23) p (vp_nar .byte (((x1 >>> (16 &&& 31)) : Int32).toInt8.toInt32)))) lo, ex, 0, 0)) rfl ?_
    refine to_getR (v := (nI p)) rfl rfl rfl rfl hc3_0 ?_
    refine to_n 1 (fr' := (38, [(0, .ref 22), (1, .int x1), (2, .int 16)], [.int 1, .int (nI p), .ref 22], gh S a b sc7 (uA ar7 23 (upd (ar7 23) p (vp_nar .byte (((x1 >>> (16 &&& 31)) : Int32).toInt8.toInt32)))) lo, ex, 0, 0)) rfl ?_
    refine to_addN (x := p) (y := 1) rfl ?_
    refine to_putR (h' := gh S a b (upd sc7 2201 (nI (p + 1))) (uA ar7 23 (upd (ar7 23) p (vp_nar .byte (((x1 >>> (16 &&& 31)) : Int32).toInt8.toInt32)))) lo) rfl rfl rfl (Nat.le_of_ble_eq_true rfl) rfl rfl ?_
    have hI9 := ip_2201 (v := (nI (p + 1))) hI8 (rl_n (n := (p + 1)) (by omega))
    have hF9 := fr_s (k := 2201) (v := (nI (p + 1))) hF8 (by decide)
    refine to_n 2 (fr' := (3, [(0, .ref 22), (1, .int x1), (2, .int 8)], [], gh S a b (upd sc7 2201 (nI (p + 1))) (uA ar7 23 (upd (ar7 23) p (vp_nar .byte (((x1 >>> (16 &&& 31)) : Int32).toInt8.toInt32)))) lo, ex, 0, 0)) rfl ?_
    exact c3_8 (p + 1) (upd sc7 2201 (nI (p + 1))) (uA ar7 23 (upd (ar7 23) p (vp_nar .byte (((x1 >>> (16 &&& 31)) : Int32).toInt8.toInt32)))) (rfl) (by omega) (fun t ht => (show (upd (ar7 23) p (vp_nar .byte (((x1 >>> (16 &&& 31)) : Int32).toInt8.toInt32))) t = _ from ug_ne (by omega)).trans (hc3_2 t ht)) ((show (upd (ar7 23) p (vp_nar .byte (((x1 >>> (16 &&& 31)) : Int32).toInt8.toInt32))) (s0 + 0) = _ from ug_ne (by omega)).trans hc3_3) (show (upd (ar7 23) p (vp_nar .byte (((x1 >>> (16 &&& 31)) : Int32).toInt8.toInt32))) (s0 + 1) = _ from by rw [← hc3_1]; exact ug_eq) hI9 hF9
  refine to_n 5 (fr' := (8, [(0, .ref 22), (1, .int x1), (2, .int 24)], [.ref 22], gh S a b sc ar lo, ex, 0, 0)) rfl ?_
  refine to_getR (v := (nI s0)) rfl rfl rfl rfl hh ?_
  refine to_n 1 (fr' := (12, [(0, .ref 22), (1, .int x1), (2, .int 24)], [.ref 22, .int (nI s0)], gh S a b sc ar lo, ex, 0, 0)) rfl ?_
  refine to_get rfl rfl rfl rfl ?_
  refine to_len rfl (by decide) rfl (by decide) ?_
  refine to_eq (fr' := (16, [(0, .ref 22), (1, .int x1), (2, .int 24)], [.int (nI 400), .int (nI s0)], gh S a b sc ar lo, ex, 0, 0)) rfl ?_
  refine to_nc_ge_F (t := 48) (x := s0) (y := 400) rfl (by omega) (by omega) (by omega) ?_
  refine to_n 1 (fr' := (20, [(0, .ref 22), (1, .int x1), (2, .int 24)], [.ref 22], gh S a b sc ar lo, ex, 0, 0)) rfl ?_
  refine to_get rfl rfl rfl rfl ?_
  refine to_n 1 (fr' := (24, [(0, .ref 22), (1, .int x1), (2, .int 24)], [.ref 22, .ref 23], gh S a b sc ar lo, ex, 0, 0)) rfl ?_
  refine to_getR (v := (nI s0)) rfl rfl rfl rfl hh ?_
  refine to_n 4 (fr' := (31, [(0, .ref 22), (1, .int x1), (2, .int 24)], [.int (((x1 >>> (24 &&& 31)) : Int32).toInt8.toInt32), .int (nI s0), .ref 23], gh S a b sc ar lo, ex, 0, 0)) rfl ?_
  refine to_basR (i := s0) (h' := gh S a b sc (uA ar 23 (upd (ar 23) s0 (vp_nar .byte (((x1 >>> (24 &&& 31)) : Int32).toInt8.toInt32)))) lo) rfl rfl (by omega) (by omega) rfl ?_
  have hI10 := ia_23 (g := (upd (ar 23) s0 (vp_nar .byte (((x1 >>> (24 &&& 31)) : Int32).toInt8.toInt32)))) hI
  have hF10 := fr_a (c := 23) (g := (upd (ar 23) s0 (vp_nar .byte (((x1 >>> (24 &&& 31)) : Int32).toInt8.toInt32)))) hF (by decide)
  refine to_n 2 (fr' := (34, [(0, .ref 22), (1, .int x1), (2, .int 24)], [.ref 22, .ref 22], gh S a b sc (uA ar 23 (upd (ar 23) s0 (vp_nar .byte (((x1 >>> (24 &&& 31)) : Int32).toInt8.toInt32)))) lo, ex, 0, 0)) rfl ?_
  refine to_getR (v := (nI s0)) rfl rfl rfl rfl hh ?_
  refine to_n 1 (fr' := (38, [(0, .ref 22), (1, .int x1), (2, .int 24)], [.int 1, .int (nI s0), .ref 22], gh S a b sc (uA ar 23 (upd (ar 23) s0 (vp_nar .byte (((x1 >>> (24 &&& 31)) : Int32).toInt8.toInt32)))) lo, ex, 0, 0)) rfl ?_
  refine to_addN (x := s0) (y := 1) rfl ?_
  refine to_putR (h' := gh S a b (upd sc 2201 (nI (s0 + 1))) (uA ar 23 (upd (ar 23) s0 (vp_nar .byte (((x1 >>> (24 &&& 31)) : Int32).toInt8.toInt32)))) lo) rfl rfl rfl (Nat.le_of_ble_eq_true rfl) rfl rfl ?_
  have hI11 := ip_2201 (v := (nI (s0 + 1))) hI10 (rl_n (n := (s0 + 1)) (by omega))
  have hF11 := fr_s (k := 2201) (v := (nI (s0 + 1))) hF10 (by decide)
  refine to_n 2 (fr' := (3, [(0, .ref 22), (1, .int x1), (2, .int 16)], [], gh S a b (upd sc 2201 (nI (s0 + 1))) (uA ar 23 (upd (ar 23) s0 (vp_nar .byte (((x1 >>> (24 &&& 31)) : Int32).toInt8.toInt32)))) lo, ex, 0, 0)) rfl ?_
  exact c3_16 (s0 + 1) (upd sc 2201 (nI (s0 + 1))) (uA ar 23 (upd (ar 23) s0 (vp_nar .byte (((x1 >>> (24 &&& 31)) : Int32).toInt8.toInt32)))) (rfl) (by omega) (fun t ht => (show (upd (ar 23) s0 (vp_nar .byte (((x1 >>> (24 &&& 31)) : Int32).toInt8.toInt32))) t = _ from ug_ne (by omega))) (show (upd (ar 23) s0 (vp_nar .byte (((x1 >>> (24 &&& 31)) : Int32).toInt8.toInt32))) (s0 + 0) = _ from ug_eq) hI11 hF11
set_option maxRecDepth 20000 in
theorem sf_X4_begin {X : Nat × (Nat → Int32)} {S a b : Nat} {sc : Nat → Int32} {ar : Nat → Nat → Int32} {lo : Nat → Int64} {ex : Bool} (hW : Wd S a b) (hI : Iv S sc ar) (k1 : Nat) (hk1 : k1 < 7) (d : Nat)  : cp X S a b (d + 1) 38 [.ref 29, .int (nI k1)] sc ar lo ex (fun x => rl x 2401) := by
  obtain ⟨ha1, ha8, hb1, hb8, hab, hS1, hS⟩ := id hW
  refine cp_of (M := an_X4_begin) rfl (Nat.le_of_ble_eq_true rfl) ?_
  refine to_eq (fr' := (0, [(0, .ref 29), (1, .int (nI k1))], [], gh S a b sc ar lo, ex, 0, 0)) rfl ?_
  refine to_n 1 (fr' := (1, [(0, .ref 29), (1, .int (nI k1))], [.int (nI k1)], gh S a b sc ar lo, ex, 0, 0)) rfl ?_
  refine to_nf_le (t := 24) (x := k1) rfl (by omega) (fun q1 => ?_) (fun q1 => ?_)
  · refine to_n 1 (fr' := (25, [(0, .ref 29), (1, .int (nI k1))], [.int 0], gh S a b sc ar lo, ex, 0, 0)) rfl ?_
    exact to_rt (i := .ireturn) (tg := []) rfl rfl ⟨_, rl_n (n := 0) (by omega), rfl⟩
  · refine to_n 2 (fr' := (6, [(0, .ref 29), (1, .int (nI k1))], [.ref 29, .int (nI k1)], gh S a b sc ar lo, ex, 0, 0)) rfl ?_
    refine to_get rfl rfl rfl rfl ?_
    refine to_len rfl (by decide) rfl (by decide) ?_
    refine to_eq (fr' := (10, [(0, .ref 29), (1, .int (nI k1))], [.int (nI 6), .int (nI k1)], gh S a b sc ar lo, ex, 0, 0)) rfl ?_
    refine to_nc_gt (t := 24) (x := k1) (y := 6) rfl (by omega) (by omega) (fun q2 => ?_) (fun q2 => ?_)
    · refine to_n 1 (fr' := (25, [(0, .ref 29), (1, .int (nI k1))], [.int 0], gh S a b sc ar lo, ex, 0, 0)) rfl ?_
      exact to_rt (i := .ireturn) (tg := []) rfl rfl ⟨_, rl_n (n := 0) (by omega), rfl⟩
    · refine to_n 1 (fr' := (14, [(0, .ref 29), (1, .int (nI k1))], [.ref 29], gh S a b sc ar lo, ex, 0, 0)) rfl ?_
      refine to_get rfl rfl rfl rfl ?_
      refine to_n 2 (fr' := (19, [(0, .ref 29), (1, .int (nI k1))], [.int 1, .int (nI k1), .ref 31], gh S a b sc ar lo, ex, 0, 0)) rfl ?_
      refine to_subN (x := k1) (y := 1) rfl (by omega) ?_
      obtain ⟨n3, hn3, e3⟩ := iv_a31 hI (k1 - 1)
      refine to_ialR (i := (k1 - 1)) (v := (nI n3)) rfl (by decide) rfl (by omega) (by omega) e3 ?_
      refine to_n 1 (fr' := (25, [(0, .ref 29), (1, .int (nI k1))], [.int (nI n3)], gh S a b sc ar lo, ex, 0, 0)) rfl ?_
      exact to_rt (i := .ireturn) (tg := []) rfl rfl ⟨_, rl_n (n := n3) (by omega), rfl⟩
set_option maxRecDepth 20000 in
theorem bg_X4_begin {X : Nat × (Nat → Int32)} {S a b : Nat} {sc : Nat → Int32} {ar : Nat → Nat → Int32} {lo : Nat → Int64} {ex : Bool} (hW : Wd S a b) (hI : Iv S sc ar) (k1 : Nat) (hk1 : k1 < 7) (hb : ∀ i, i < k1 → ∃ e : Nat, e ≤ 400 * (i + 1) ∧ ar 31 i = nI e) (d : Nat)  : cp X S a b (d + 1) 38 [.ref 29, .int (nI k1)] sc ar lo ex (fun x => rl x 2401 ∧ (∃ e : Nat, e ≤ 400 * k1 ∧ x = nI e)) := by
  obtain ⟨ha1, ha8, hb1, hb8, hab, hS1, hS⟩ := id hW
  refine cp_of (M := an_X4_begin) rfl (Nat.le_of_ble_eq_true rfl) ?_
  refine to_eq (fr' := (0, [(0, .ref 29), (1, .int (nI k1))], [], gh S a b sc ar lo, ex, 0, 0)) rfl ?_
  refine to_n 1 (fr' := (1, [(0, .ref 29), (1, .int (nI k1))], [.int (nI k1)], gh S a b sc ar lo, ex, 0, 0)) rfl ?_
  refine to_nf_le (t := 24) (x := k1) rfl (by omega) (fun q1 => ?_) (fun q1 => ?_)
  · refine to_n 1 (fr' := (25, [(0, .ref 29), (1, .int (nI k1))], [.int 0], gh S a b sc ar lo, ex, 0, 0)) rfl ?_
    exact to_rt (i := .ireturn) (tg := []) rfl rfl ⟨_, ⟨rl_n (n := 0) (by omega), ⟨0, by omega, rfl⟩⟩, rfl⟩
  · refine to_n 2 (fr' := (6, [(0, .ref 29), (1, .int (nI k1))], [.ref 29, .int (nI k1)], gh S a b sc ar lo, ex, 0, 0)) rfl ?_
    refine to_get rfl rfl rfl rfl ?_
    refine to_len rfl (by decide) rfl (by decide) ?_
    refine to_eq (fr' := (10, [(0, .ref 29), (1, .int (nI k1))], [.int (nI 6), .int (nI k1)], gh S a b sc ar lo, ex, 0, 0)) rfl ?_
    refine to_nc_gt (t := 24) (x := k1) (y := 6) rfl (by omega) (by omega) (fun q2 => ?_) (fun q2 => ?_)
    · refine to_n 1 (fr' := (25, [(0, .ref 29), (1, .int (nI k1))], [.int 0], gh S a b sc ar lo, ex, 0, 0)) rfl ?_
      exact to_rt (i := .ireturn) (tg := []) rfl rfl ⟨_, ⟨rl_n (n := 0) (by omega), ⟨0, by omega, rfl⟩⟩, rfl⟩
    · refine to_n 1 (fr' := (14, [(0, .ref 29), (1, .int (nI k1))], [.ref 29], gh S a b sc ar lo, ex, 0, 0)) rfl ?_
      refine to_get rfl rfl rfl rfl ?_
      refine to_n 2 (fr' := (19, [(0, .ref 29), (1, .int (nI k1))], [.int 1, .int (nI k1), .ref 31], gh S a b sc ar lo, ex, 0, 0)) rfl ?_
      refine to_subN (x := k1) (y := 1) rfl (by omega) ?_
      obtain ⟨n3, hn3, e3⟩ := iv_a31 hI (k1 - 1)
      refine to_ialR (i := (k1 - 1)) (v := (nI n3)) rfl (by decide) rfl (by omega) (by omega) e3 ?_
      refine to_n 1 (fr' := (25, [(0, .ref 29), (1, .int (nI k1))], [.int (nI n3)], gh S a b sc ar lo, ex, 0, 0)) rfl ?_
      exact to_rt (i := .ireturn) (tg := []) rfl rfl ⟨_, ⟨rl_n (n := n3) (by omega), ((hb (k1 - 1) (by omega)).elim fun e w => ⟨e, by have := w.1; omega, e3.symm.trans w.2⟩)⟩, rfl⟩
set_option maxRecDepth 20000 in
theorem sf_X4_inForce {X : Nat × (Nat → Int32)} {S a b : Nat} {sc : Nat → Int32} {ar : Nat → Nat → Int32} {lo : Nat → Int64} {ex : Bool} (hW : Wd S a b) (hI : Iv S sc ar) (x1 : Int32) (d : Nat)  : cp X S a b (d + 1) 39 [.ref 29, .int x1] sc ar lo ex (fun x => rq x 6) := by
  obtain ⟨ha1, ha8, hb1, hb8, hab, hS1, hS⟩ := id hW
  refine cp_of (M := an_X4_inForce) rfl (Nat.le_of_ble_eq_true rfl) ?_
  refine to_eq (fr' := (0, [(0, .ref 29), (1, .int x1)], [], gh S a b sc ar lo, ex, 0, 0)) rfl ?_
  have c4 : ∀ m : Nat, ∀ (y : Int32) (i : Nat) , 7 ≤ i + m → rq y 6 → i ≤ 7 → ag_To X d an_X4_inForce (4, [(0, .ref 29), (1, .int x1), (2, .int y), (3, .int (nI i))], [], gh S a b sc ar lo, ex, 0, 0) (qp S a b sc ar lo ex (fun x => rq x 6)) := by
    intro m
    induction m with
    | zero =>
      intro y i hm hq_y hc4_0
      rcases hq_y with rfl | ⟨n2, hn2, rfl⟩
      · refine to_eq (fr' := (4, [(0, .ref 29), (1, .int x1), (2, .int (-1)), (3, .int (nI i))], [], gh S a b sc ar lo, ex, 0, 0)) rfl ?_
        refine to_n 2 (fr' := (6, [(0, .ref 29), (1, .int x1), (2, .int (-1)), (3, .int (nI i))], [.ref 29, .int (nI i)], gh S a b sc ar lo, ex, 0, 0)) rfl ?_
        obtain ⟨n3, hn3, e3⟩ := iv_s2903 hI
        refine to_getR (v := (nI n3)) rfl rfl rfl rfl e3 ?_
        refine to_nc_ge_T (t := 50) (x := i) (y := n3) rfl (by omega) (by omega) (by omega) ?_
        refine to_n 1 (fr' := (51, [(0, .ref 29), (1, .int x1), (2, .int (-1)), (3, .int (nI i))], [.int (-1)], gh S a b sc ar lo, ex, 0, 0)) rfl ?_
        exact to_rt (i := .ireturn) (tg := []) rfl rfl ⟨_, rq_m, rfl⟩
      · refine to_eq (fr' := (4, [(0, .ref 29), (1, .int x1), (2, .int (nI n2)), (3, .int (nI i))], [], gh S a b sc ar lo, ex, 0, 0)) rfl ?_
        refine to_n 2 (fr' := (6, [(0, .ref 29), (1, .int x1), (2, .int (nI n2)), (3, .int (nI i))], [.ref 29, .int (nI i)], gh S a b sc ar lo, ex, 0, 0)) rfl ?_
        obtain ⟨n4, hn4, e4⟩ := iv_s2903 hI
        refine to_getR (v := (nI n4)) rfl rfl rfl rfl e4 ?_
        refine to_nc_ge_T (t := 50) (x := i) (y := n4) rfl (by omega) (by omega) (by omega) ?_
        refine to_n 1 (fr' := (51, [(0, .ref 29), (1, .int x1), (2, .int (nI n2)), (3, .int (nI i))], [.int (nI n2)], gh S a b sc ar lo, ex, 0, 0)) rfl ?_
        exact to_rt (i := .ireturn) (tg := []) rfl rfl ⟨_, rq_n (n := n2) (by omega), rfl⟩
    | succ m ih =>
      intro y i hm hq_y hc4_0
      rcases hq_y with rfl | ⟨n5, hn5, rfl⟩
      · refine to_eq (fr' := (4, [(0, .ref 29), (1, .int x1), (2, .int (-1)), (3, .int (nI i))], [], gh S a b sc ar lo, ex, 0, 0)) rfl ?_
        refine to_n 2 (fr' := (6, [(0, .ref 29), (1, .int x1), (2, .int (-1)), (3, .int (nI i))], [.ref 29, .int (nI i)], gh S a b sc ar lo, ex, 0, 0)) rfl ?_
        obtain ⟨n6, hn6, e6⟩ := iv_s2903 hI
        refine to_getR (v := (nI n6)) rfl rfl rfl rfl e6 ?_
        refine to_nc_ge (t := 50) (x := i) (y := n6) rfl (by omega) (by omega) (fun q7 => ?_) (fun q7 => ?_)
        · refine to_n 1 (fr' := (51, [(0, .ref 29), (1, .int x1), (2, .int (-1)), (3, .int (nI i))], [.int (-1)], gh S a b sc ar lo, ex, 0, 0)) rfl ?_
          exact to_rt (i := .ireturn) (tg := []) rfl rfl ⟨_, rq_m, rfl⟩
        · refine to_n 1 (fr' := (13, [(0, .ref 29), (1, .int x1), (2, .int (-1)), (3, .int (nI i))], [.ref 29], gh S a b sc ar lo, ex, 0, 0)) rfl ?_
          refine to_get rfl rfl rfl rfl ?_
          refine to_n 1 (fr' := (17, [(0, .ref 29), (1, .int x1), (2, .int (-1)), (3, .int (nI i))], [.int (nI i), .ref 32], gh S a b sc ar lo, ex, 0, 0)) rfl ?_
          refine to_ialR (i := i) (v := ((ar 32) i)) rfl (by decide) rfl (by omega) (by omega) rfl ?_
          refine to_n 1 (fr' := (19, [(0, .ref 29), (1, .int x1), (2, .int (-1)), (3, .int (nI i))], [.int x1, .int ((ar 32) i)], gh S a b sc ar lo, ex, 0, 0)) rfl ?_
          refine to_ic_gt (t := 44) rfl (fun q8 => ?_) (fun q8 => ?_)
          · refine to_n 1 (fr' := (47, [(0, .ref 29), (1, .int x1), (2, .int (-1)), (3, .int ((nI i) + 1))], [], gh S a b sc ar lo, ex, 0, 0)) rfl ?_
            rw [nI_1 i]
            refine to_n 1 (fr' := (4, [(0, .ref 29), (1, .int x1), (2, .int (-1)), (3, .int (nI (i + 1)))], [], gh S a b sc ar lo, ex, 0, 0)) rfl ?_
            exact ih (-1) (i + 1) (by omega) (rq_m) (by omega)
          · refine to_n 6 (fr' := (47, [(0, .ref 29), (1, .int x1), (2, .int (nI i)), (3, .int ((nI i) + 1))], [], gh S a b sc ar lo, ex, 0, 0)) rfl ?_
            rw [nI_1 i]
            refine to_n 1 (fr' := (4, [(0, .ref 29), (1, .int x1), (2, .int (nI i)), (3, .int (nI (i + 1)))], [], gh S a b sc ar lo, ex, 0, 0)) rfl ?_
            exact ih (nI i) (i + 1) (by omega) (rq_n (n := i) (by omega)) (by omega)
      · refine to_eq (fr' := (4, [(0, .ref 29), (1, .int x1), (2, .int (nI n5)), (3, .int (nI i))], [], gh S a b sc ar lo, ex, 0, 0)) rfl ?_
        refine to_n 2 (fr' := (6, [(0, .ref 29), (1, .int x1), (2, .int (nI n5)), (3, .int (nI i))], [.ref 29, .int (nI i)], gh S a b sc ar lo, ex, 0, 0)) rfl ?_
        obtain ⟨n9, hn9, e9⟩ := iv_s2903 hI
        refine to_getR (v := (nI n9)) rfl rfl rfl rfl e9 ?_
        refine to_nc_ge (t := 50) (x := i) (y := n9) rfl (by omega) (by omega) (fun q10 => ?_) (fun q10 => ?_)
        · refine to_n 1 (fr' := (51, [(0, .ref 29), (1, .int x1), (2, .int (nI n5)), (3, .int (nI i))], [.int (nI n5)], gh S a b sc ar lo, ex, 0, 0)) rfl ?_
          exact to_rt (i := .ireturn) (tg := []) rfl rfl ⟨_, rq_n (n := n5) (by omega), rfl⟩
        · refine to_n 1 (fr' := (13, [(0, .ref 29), (1, .int x1), (2, .int (nI n5)), (3, .int (nI i))], [.ref 29], gh S a b sc ar lo, ex, 0, 0)) rfl ?_
          refine to_get rfl rfl rfl rfl ?_
          refine to_n 1 (fr' := (17, [(0, .ref 29), (1, .int x1), (2, .int (nI n5)), (3, .int (nI i))], [.int (nI i), .ref 32], gh S a b sc ar lo, ex, 0, 0)) rfl ?_
          refine to_ialR (i := i) (v := ((ar 32) i)) rfl (by decide) rfl (by omega) (by omega) rfl ?_
          refine to_n 1 (fr' := (19, [(0, .ref 29), (1, .int x1), (2, .int (nI n5)), (3, .int (nI i))], [.int x1, .int ((ar 32) i)], gh S a b sc ar lo, ex, 0, 0)) rfl ?_
          refine to_ic_gt (t := 44) rfl (fun q11 => ?_) (fun q11 => ?_)
          · refine to_n 1 (fr' := (47, [(0, .ref 29), (1, .int x1), (2, .int (nI n5)), (3, .int ((nI i) + 1))], [], gh S a b sc ar lo, ex, 0, 0)) rfl ?_
            rw [nI_1 i]
            refine to_n 1 (fr' := (4, [(0, .ref 29), (1, .int x1), (2, .int (nI n5)), (3, .int (nI (i + 1)))], [], gh S a b sc ar lo, ex, 0, 0)) rfl ?_
            exact ih (nI n5) (i + 1) (by omega) (rq_n (n := n5) (by omega)) (by omega)
          · refine to_n 2 (fr' := (24, [(0, .ref 29), (1, .int x1), (2, .int (nI n5)), (3, .int (nI i))], [.int (-1), .int (nI n5)], gh S a b sc ar lo, ex, 0, 0)) rfl ?_
            refine to_ic_eq_F (t := 42) (x := (nI n5)) (y := (-1)) rfl (nI_neg (by omega) (by decide)) ?_
            refine to_n 1 (fr' := (28, [(0, .ref 29), (1, .int x1), (2, .int (nI n5)), (3, .int (nI i))], [.ref 29], gh S a b sc ar lo, ex, 0, 0)) rfl ?_
            refine to_get rfl rfl rfl rfl ?_
            refine to_n 1 (fr' := (32, [(0, .ref 29), (1, .int x1), (2, .int (nI n5)), (3, .int (nI i))], [.int (nI i), .ref 32], gh S a b sc ar lo, ex, 0, 0)) rfl ?_
            refine to_ialR (i := i) (v := ((ar 32) i)) rfl (by decide) rfl (by omega) (by omega) rfl ?_
            refine to_n 1 (fr' := (34, [(0, .ref 29), (1, .int x1), (2, .int (nI n5)), (3, .int (nI i))], [.ref 29, .int ((ar 32) i)], gh S a b sc ar lo, ex, 0, 0)) rfl ?_
            refine to_get rfl rfl rfl rfl ?_
            refine to_n 1 (fr' := (38, [(0, .ref 29), (1, .int x1), (2, .int (nI n5)), (3, .int (nI i))], [.int (nI n5), .ref 32, .int ((ar 32) i)], gh S a b sc ar lo, ex, 0, 0)) rfl ?_
            refine to_ialR (i := n5) (v := ((ar 32) n5)) rfl (by decide) rfl (by omega) (by omega) rfl ?_
            refine to_ic_lt (t := 44) rfl (fun q12 => ?_) (fun q12 => ?_)
            · refine to_n 1 (fr' := (47, [(0, .ref 29), (1, .int x1), (2, .int (nI n5)), (3, .int ((nI i) + 1))], [], gh S a b sc ar lo, ex, 0, 0)) rfl ?_
              rw [nI_1 i]
              refine to_n 1 (fr' := (4, [(0, .ref 29), (1, .int x1), (2, .int (nI n5)), (3, .int (nI (i + 1)))], [], gh S a b sc ar lo, ex, 0, 0)) rfl ?_
              exact ih (nI n5) (i + 1) (by omega) (rq_n (n := n5) (by omega)) (by omega)
            · refine to_n 3 (fr' := (47, [(0, .ref 29), (1, .int x1), (2, .int (nI i)), (3, .int ((nI i) + 1))], [], gh S a b sc ar lo, ex, 0, 0)) rfl ?_
              rw [nI_1 i]
              refine to_n 1 (fr' := (4, [(0, .ref 29), (1, .int x1), (2, .int (nI i)), (3, .int (nI (i + 1)))], [], gh S a b sc ar lo, ex, 0, 0)) rfl ?_
              exact ih (nI i) (i + 1) (by omega) (rq_n (n := i) (by omega)) (by omega)
  refine to_n 4 (fr' := (4, [(0, .ref 29), (1, .int x1), (2, .int (-1)), (3, .int 0)], [], gh S a b sc ar lo, ex, 0, 0)) rfl ?_
  exact c4 (7 - 0) (-1) 0 (by omega) (rq_m) (by omega)
set_option maxRecDepth 20000 in
theorem sf_X4_enter {X : Nat × (Nat → Int32)} {S a b : Nat} {sc : Nat → Int32} {ar : Nat → Nat → Int32} {lo : Nat → Int64} {ex : Bool} (hW : Wd S a b) (hI : Iv S sc ar) (k1 : Nat) (hk1 : k1 < 401) (x1 : Int32) (l : Nat) (hl : l < 6) (el : sc 2903 = nI l) (hb : ∀ i, i < l → ∃ e : Nat, e ≤ 400 * (i + 1) ∧ ar 31 i = nI e) (d : Nat)  : ci X S a b (d + 2) 37 [.ref 29, .ref 25, .int (nI k1), .int x1] sc ar lo ex (fun x sc' ar' => Iv S sc' ar' ∧ Fr [2903] [30, 31, 32] sc ar sc' ar' ∧ (sc' 2903 = nI (l + 1) ∧ (∀ i, i < l → ar' 31 i = ar 31 i) ∧ ∃ e : Nat, e ≤ 400 * (l + 1) ∧ ar' 31 l = nI e)) := by
  obtain ⟨ha1, ha8, hb1, hb8, hab, hS1, hS⟩ := id hW
  refine ci_of (M := an_X4_enter) rfl (Nat.le_of_ble_eq_true rfl) ?_
  have hF : Fr [2903] [30, 31, 32] sc ar sc ar := fr_0
  refine to_eq (fr' := (0, [(0, .ref 29), (1, .ref 25), (2, .int (nI k1)), (3, .int x1)], [], gh S a b sc ar lo, ex, 0, 0)) rfl ?_
  refine to_n 2 (fr' := (2, [(0, .ref 29), (1, .ref 25), (2, .int (nI k1)), (3, .int x1)], [.ref 29, .ref 29], gh S a b sc ar lo, ex, 0, 0)) rfl ?_
  refine to_getR (v := (nI l)) rfl rfl rfl rfl el ?_
  refine to_cp (q := 38) (M1 := an_X4_begin) (rest := []) rfl rfl (by decide) rfl ⟨_, rfl⟩ (bg_X4_begin hW hI l (by omega) hb d) (fun x1 hx1 => ?_)
  obtain ⟨hx1, hp1⟩ := hx1
  obtain ⟨n1, hn1, rfl⟩ := hx1
  obtain ⟨be, hb1, hb2⟩ := hp1
  have hbe : n1 = be := (nI_eq (by omega) (by omega)).mp hb2
  refine to_eq (fr' := (8, [(0, .ref 29), (1, .ref 25), (2, .int (nI k1)), (3, .int x1)], [.int (nI n1)], gh S a b sc ar lo, ex, 0, 0)) rfl ?_
  refine to_n 2 (fr' := (11, [(0, .ref 29), (1, .ref 25), (2, .int (nI k1)), (3, .int x1), (4, .int (nI n1))], [.ref 29], gh S a b sc ar lo, ex, 0, 0)) rfl ?_
  refine to_getR (v := (nI l)) rfl rfl rfl rfl el ?_
  refine to_n 1 (fr' := (16, [(0, .ref 29), (1, .ref 25), (2, .int (nI k1)), (3, .int x1), (4, .int (nI n1))], [.int 6, .int (nI l)], gh S a b sc ar lo, ex, 0, 0)) rfl ?_
  refine to_nc_ge_F (t := 37) (x := l) (y := 6) rfl (by omega) (by omega) (by omega) ?_
  refine to_n 2 (fr' := (21, [(0, .ref 29), (1, .ref 25), (2, .int (nI k1)), (3, .int x1), (4, .int (nI n1))], [.ref 25, .int (nI k1)], gh S a b sc ar lo, ex, 0, 0)) rfl ?_
  refine to_len rfl (by decide) rfl (by decide) ?_
  refine to_eq (fr' := (22, [(0, .ref 29), (1, .ref 25), (2, .int (nI k1)), (3, .int x1), (4, .int (nI n1))], [.int (nI 400), .int (nI k1)], gh S a b sc ar lo, ex, 0, 0)) rfl ?_
  refine to_nc_gt_F (t := 37) (x := k1) (y := 400) rfl (by omega) (by omega) (by omega) ?_
  refine to_n 2 (fr' := (27, [(0, .ref 29), (1, .ref 25), (2, .int (nI k1)), (3, .int x1), (4, .int (nI n1))], [.ref 29, .int (nI k1)], gh S a b sc ar lo, ex, 0, 0)) rfl ?_
  refine to_get rfl rfl rfl rfl ?_
  refine to_len rfl (by decide) rfl (by decide) ?_
  refine to_eq (fr' := (31, [(0, .ref 29), (1, .ref 25), (2, .int (nI k1)), (3, .int x1), (4, .int (nI n1))], [.int (nI 2400), .int (nI k1)], gh S a b sc ar lo, ex, 0, 0)) rfl ?_
  refine to_n 1 (fr' := (33, [(0, .ref 29), (1, .ref 25), (2, .int (nI k1)), (3, .int x1), (4, .int (nI n1))], [.int (nI n1), .int (nI 2400), .int (nI k1)], gh S a b sc ar lo, ex, 0, 0)) rfl ?_
  refine to_subN (x := 2400) (y := n1) rfl (by omega) ?_
  refine to_nc_le_T (t := 40) (x := k1) (y := (2400 - n1)) rfl (by omega) (by omega) (by omega) ?_
  refine to_n 3 (fr' := (43, [(0, .ref 29), (1, .ref 25), (2, .int (nI k1)), (3, .int x1), (4, .int (nI n1))], [.ref 29, .int 0, .ref 25], gh S a b sc ar lo, ex, 0, 0)) rfl ?_
  refine to_get rfl rfl rfl rfl ?_
  refine to_n 2 (fr' := (49, [(0, .ref 29), (1, .ref 25), (2, .int (nI k1)), (3, .int x1), (4, .int (nI n1))], [.int (nI k1), .int (nI n1), .ref 30, .int 0, .ref 25], gh S a b sc ar lo, ex, 0, 0)) rfl ?_
  refine to_cpy (n := k1) (dp := n1) (sp := 0) (h' := gh S a b sc (uA ar 30 (va_cpy (ar 25) (ar 30) 0 n1 k1)) lo) rfl rfl rfl rfl (by omega) (by omega) (by omega) (by decide) rfl ?_
  have hI2 := ia_30 (g := (va_cpy (ar 25) (ar 30) 0 n1 k1)) hI
  have hF2 := fr_a (c := 30) (g := (va_cpy (ar 25) (ar 30) 0 n1 k1)) hF (by decide)
  refine to_eq (fr' := (52, [(0, .ref 29), (1, .ref 25), (2, .int (nI k1)), (3, .int x1), (4, .int (nI n1))], [], gh S a b sc (uA ar 30 (va_cpy (ar 25) (ar 30) 0 n1 k1)) lo, ex, 0, 0)) rfl ?_
  refine to_n 1 (fr' := (53, [(0, .ref 29), (1, .ref 25), (2, .int (nI k1)), (3, .int x1), (4, .int (nI n1))], [.ref 29], gh S a b sc (uA ar 30 (va_cpy (ar 25) (ar 30) 0 n1 k1)) lo, ex, 0, 0)) rfl ?_
  refine to_get rfl rfl rfl rfl ?_
  refine to_n 1 (fr' := (57, [(0, .ref 29), (1, .ref 25), (2, .int (nI k1)), (3, .int x1), (4, .int (nI n1))], [.ref 29, .ref 31], gh S a b sc (uA ar 30 (va_cpy (ar 25) (ar 30) 0 n1 k1)) lo, ex, 0, 0)) rfl ?_
  refine to_getR (v := (nI l)) rfl rfl rfl rfl el ?_
  refine to_n 2 (fr' := (63, [(0, .ref 29), (1, .ref 25), (2, .int (nI k1)), (3, .int x1), (4, .int (nI n1))], [.int (nI k1), .int (nI n1), .int (nI l), .ref 31], gh S a b sc (uA ar 30 (va_cpy (ar 25) (ar 30) 0 n1 k1)) lo, ex, 0, 0)) rfl ?_
  refine to_addN (x := n1) (y := k1) rfl ?_
  refine to_iasR (i := l) (h' := gh S a b sc (uA (uA ar 30 (va_cpy (ar 25) (ar 30) 0 n1 k1)) 31 (upd ((uA ar 30 (va_cpy (ar 25) (ar 30) 0 n1 k1)) 31) l (nI (n1 + k1)))) lo) rfl rfl (by omega) (by omega) rfl ?_
  have hI3 := ia_31 (i := l) (v := (nI (n1 + k1))) hI2 (rl_n (n := (n1 + k1)) (by omega))
  have hF3 := fr_a (c := 31) (g := (upd ((uA ar 30 (va_cpy (ar 25) (ar 30) 0 n1 k1)) 31) l (nI (n1 + k1)))) hF2 (by decide)
  refine to_n 1 (fr' := (66, [(0, .ref 29), (1, .ref 25), (2, .int (nI k1)), (3, .int x1), (4, .int (nI n1))], [.ref 29], gh S a b sc (uA (uA ar 30 (va_cpy (ar 25) (ar 30) 0 n1 k1)) 31 (upd ((uA ar 30 (va_cpy (ar 25) (ar 30) 0 n1 k1)) 31) l (nI (n1 + k1)))) lo, ex, 0, 0)) rfl ?_
  refine to_get rfl rfl rfl rfl ?_
  refine to_n 1 (fr' := (70, [(0, .ref 29), (1, .ref 25), (2, .int (nI k1)), (3, .int x1), (4, .int (nI n1))], [.ref 29, .ref 32], gh S a b sc (uA (uA ar 30 (va_cpy (ar 25) (ar 30) 0 n1 k1)) 31 (upd ((uA ar 30 (va_cpy (ar 25) (ar 30) 0 n1 k1)) 31) l (nI (n1 + k1)))) lo, ex, 0, 0)) rfl ?_
  refine to_getR (v := (nI l)) rfl rfl rfl rfl el ?_
  refine to_n 1 (fr' := (74, [(0, .ref 29), (1, .ref 25), (2, .int (nI k1)), (3, .int x1), (4, .int (nI n1))], [.int x1, .int (nI l), .ref 32], gh S a b sc (uA (uA ar 30 (va_cpy (ar 25) (ar 30) 0 n1 k1)) 31 (upd ((uA ar 30 (va_cpy (ar 25) (ar 30) 0 n1 k1)) 31) l (nI (n1 + k1)))) lo, ex, 0, 0)) rfl ?_
  refine to_iasR (i := l) (h' := gh S a b sc (uA (uA (uA ar 30 (va_cpy (ar 25) (ar 30) 0 n1 k1)) 31 (upd ((uA ar 30 (va_cpy (ar 25) (ar 30) 0 n1 k1)) 31) l (nI (n1 + k1)))) 32 (upd ((uA (uA ar 30 (va_cpy (ar 25) (ar 30) 0 n1 k1)) 31 (upd ((uA ar 30 (va_cpy (ar 25) (ar 30) 0 n1 k1)) 31) l (nI (n1 + k1)))) 32) l x1)) lo) rfl rfl (by omega) (by omega) rfl ?_
  have hI4 := ia_32 (g := (upd ((uA (uA ar 30 (va_cpy (ar 25) (ar 30) 0 n1 k1)) 31 (upd ((uA ar 30 (va_cpy (ar 25) (ar 30) 0 n1 k1)) 31) l (nI (n1 + k1)))) 32) l x1)) hI3
  have hF4 := fr_a (c := 32) (g := (upd ((uA (uA ar 30 (va_cpy (ar 25) (ar 30) 0 n1 k1)) 31 (upd ((uA ar 30 (va_cpy (ar 25) (ar 30) 0 n1 k1)) 31) l (nI (n1 + k1)))) 32) l x1)) hF3 (by decide)
  refine to_n 2 (fr' := (77, [(0, .ref 29), (1, .ref 25), (2, .int (nI k1)), (3, .int x1), (4, .int (nI n1))], [.ref 29, .ref 29], gh S a b sc (uA (uA (uA ar 30 (va_cpy (ar 25) (ar 30) 0 n1 k1)) 31 (upd ((uA ar 30 (va_cpy (ar 25) (ar 30) 0 n1 k1)) 31) l (nI (n1 + k1)))) 32 (upd ((uA (uA ar 30 (va_cpy (ar 25) (ar 30) 0 n1 k1)) 31 (upd ((uA ar 30 (va_cpy (ar 25) (ar 30) 0 n1 k1)) 31) l (nI (n1 + k1)))) 32) l x1)) lo, ex, 0, 0)) rfl ?_
  refine to_getR (v := (nI l)) rfl rfl rfl rfl el ?_
  refine to_n 1 (fr' := (81, [(0, .ref 29), (1, .ref 25), (2, .int (nI k1)), (3, .int x1), (4, .int (nI n1))], [.int 1, .int (nI l), .ref 29], gh S a b sc (uA (uA (uA ar 30 (va_cpy (ar 25) (ar 30) 0 n1 k1)) 31 (upd ((uA ar 30 (va_cpy (ar 25) (ar 30) 0 n1 k1)) 31) l (nI (n1 + k1)))) 32 (upd ((uA (uA ar 30 (va_cpy (ar 25) (ar 30) 0 n1 k1)) 31 (upd ((uA ar 30 (va_cpy (ar 25) (ar 30) 0 n1 k1)) 31) l (nI (n1 + k1)))) 32) l x1)) lo, ex, 0, 0)) rfl ?_
  refine to_addN (x := l) (y := 1) rfl ?_
  refine to_putR (h' := gh S a b (upd sc 2903 (nI (l + 1))) (uA (uA (uA ar 30 (va_cpy (ar 25) (ar 30) 0 n1 k1)) 31 (upd ((uA ar 30 (va_cpy (ar 25) (ar 30) 0 n1 k1)) 31) l (nI (n1 + k1)))) 32 (upd ((uA (uA ar 30 (va_cpy (ar 25) (ar 30) 0 n1 k1)) 31 (upd ((uA ar 30 (va_cpy (ar 25) (ar 30) 0 n1 k1)) 31) l (nI (n1 + k1)))) 32) l x1)) lo) rfl rfl rfl (Nat.le_of_ble_eq_true rfl) rfl rfl ?_
  have hI5 := ip_2903 (v := (nI (l + 1))) hI4 (rl_n (n := (l + 1)) (by omega))
  have hF5 := fr_s (k := 2903) (v := (nI (l + 1))) hF4 (by decide)
  refine to_n 1 (fr' := (86, [(0, .ref 29), (1, .ref 25), (2, .int (nI k1)), (3, .int x1), (4, .int (nI n1))], [.ref 29], gh S a b (upd sc 2903 (nI (l + 1))) (uA (uA (uA ar 30 (va_cpy (ar 25) (ar 30) 0 n1 k1)) 31 (upd ((uA ar 30 (va_cpy (ar 25) (ar 30) 0 n1 k1)) 31) l (nI (n1 + k1)))) 32 (upd ((uA (uA ar 30 (va_cpy (ar 25) (ar 30) 0 n1 k1)) 31 (upd ((uA ar 30 (va_cpy (ar 25) (ar 30) 0 n1 k1)) 31) l (nI (n1 + k1)))) 32) l x1)) lo, ex, 0, 0)) rfl ?_
  refine to_getR (v := (nI (l + 1))) rfl rfl rfl rfl rfl ?_
  refine to_n 1 (fr' := (90, [(0, .ref 29), (1, .ref 25), (2, .int (nI k1)), (3, .int x1), (4, .int (nI n1))], [.int 1, .int (nI (l + 1))], gh S a b (upd sc 2903 (nI (l + 1))) (uA (uA (uA ar 30 (va_cpy (ar 25) (ar 30) 0 n1 k1)) 31 (upd ((uA ar 30 (va_cpy (ar 25) (ar 30) 0 n1 k1)) 31) l (nI (n1 + k1)))) 32 (upd ((uA (uA ar 30 (va_cpy (ar 25) (ar 30) 0 n1 k1)) 31 (upd ((uA ar 30 (va_cpy (ar 25) (ar 30) 0 n1 k1)) 31) l (nI (n1 + k1)))) 32) l x1)) lo, ex, 0, 0)) rfl ?_
  refine to_subN (x := (l + 1)) (y := 1) rfl (by omega) ?_
  exact to_rt (i := .ireturn) (tg := []) rfl rfl ⟨_, _, _, ⟨hI5, hF5, ⟨rfl, fun i hi => (show (upd ((uA ar 30 (va_cpy (ar 25) (ar 30) 0 n1 k1)) 31) l (nI (n1 + k1))) i = ar 31 i from ug_ne (by omega)), ⟨n1 + k1, by omega, (show (upd ((uA ar 30 (va_cpy (ar 25) (ar 30) 0 n1 k1)) 31) l (nI (n1 + k1))) l = _ from ug_eq)⟩⟩⟩, rfl⟩
set_option maxRecDepth 20000 in
theorem sf_X3_push {X : Nat × (Nat → Int32)} {S a b : Nat} {sc : Nat → Int32} {ar : Nat → Nat → Int32} {lo : Nat → Int64} {ex : Bool} (hW : Wd S a b) (hI : Iv S sc ar) (x1 : Int32) (d : Nat)  : cv X S a b (d + 1) 34 [.ref 33, .int x1] sc ar lo ex (fun sc' ar' => Iv S sc' ar' ∧ Fr [3304] [35] sc ar sc' ar') := by
  obtain ⟨ha1, ha8, hb1, hb8, hab, hS1, hS⟩ := id hW
  refine cv_of (M := an_X3_push) rfl (Nat.le_of_ble_eq_true rfl) ?_
  have hF : Fr [3304] [35] sc ar sc ar := fr_0
  refine to_eq (fr' := (0, [(0, .ref 33), (1, .int x1)], [], gh S a b sc ar lo, ex, 0, 0)) rfl ?_
  refine to_n 1 (fr' := (1, [(0, .ref 33), (1, .int x1)], [.ref 33], gh S a b sc ar lo, ex, 0, 0)) rfl ?_
  obtain ⟨n1, hn1, e1⟩ := iv_s3304 hI
  refine to_getR (v := (nI n1)) rfl rfl rfl rfl e1 ?_
  refine to_n 1 (fr' := (5, [(0, .ref 33), (1, .int x1)], [.ref 33, .int (nI n1)], gh S a b sc ar lo, ex, 0, 0)) rfl ?_
  refine to_get rfl rfl rfl rfl ?_
  refine to_len rfl (by decide) rfl (by decide) ?_
  refine to_eq (fr' := (9, [(0, .ref 33), (1, .int x1)], [.int (nI 20), .int (nI n1)], gh S a b sc ar lo, ex, 0, 0)) rfl ?_
  refine to_nc_ge (t := 32) (x := n1) (y := 20) rfl (by omega) (by omega) (fun q2 => ?_) (fun q2 => ?_)
  · exact to_rt (i := .return_) (tg := []) rfl rfl ⟨_, _, ⟨hI, hF⟩, rfl⟩
  · refine to_n 1 (fr' := (13, [(0, .ref 33), (1, .int x1)], [.ref 33], gh S a b sc ar lo, ex, 0, 0)) rfl ?_
    refine to_get rfl rfl rfl rfl ?_
    refine to_n 1 (fr' := (17, [(0, .ref 33), (1, .int x1)], [.ref 33, .ref 35], gh S a b sc ar lo, ex, 0, 0)) rfl ?_
    refine to_getR (v := (nI n1)) rfl rfl rfl rfl e1 ?_
    refine to_n 1 (fr' := (21, [(0, .ref 33), (1, .int x1)], [.int x1, .int (nI n1), .ref 35], gh S a b sc ar lo, ex, 0, 0)) rfl ?_
    refine to_iasR (i := n1) (h' := gh S a b sc (uA ar 35 (upd (ar 35) n1 x1)) lo) rfl rfl (by omega) (by omega) rfl ?_
    have hI3 := ia_35 (g := (upd (ar 35) n1 x1)) hI
    have hF3 := fr_a (c := 35) (g := (upd (ar 35) n1 x1)) hF (by decide)
    refine to_n 2 (fr' := (24, [(0, .ref 33), (1, .int x1)], [.ref 33, .ref 33], gh S a b sc (uA ar 35 (upd (ar 35) n1 x1)) lo, ex, 0, 0)) rfl ?_
    refine to_getR (v := (nI n1)) rfl rfl rfl rfl e1 ?_
    refine to_n 1 (fr' := (28, [(0, .ref 33), (1, .int x1)], [.int 1, .int (nI n1), .ref 33], gh S a b sc (uA ar 35 (upd (ar 35) n1 x1)) lo, ex, 0, 0)) rfl ?_
    refine to_addN (x := n1) (y := 1) rfl ?_
    refine to_putR (h' := gh S a b (upd sc 3304 (nI (n1 + 1))) (uA ar 35 (upd (ar 35) n1 x1)) lo) rfl rfl rfl (Nat.le_of_ble_eq_true rfl) rfl rfl ?_
    have hI4 := ip_3304 (v := (nI (n1 + 1))) hI3 (rl_n (n := (n1 + 1)) (by omega))
    have hF4 := fr_s (k := 3304) (v := (nI (n1 + 1))) hF3 (by decide)
    exact to_rt (i := .return_) (tg := []) rfl rfl ⟨_, _, ⟨hI4, hF4⟩, rfl⟩
set_option maxRecDepth 20000 in
theorem sf_X3_pop {X : Nat × (Nat → Int32)} {S a b : Nat} {sc : Nat → Int32} {ar : Nat → Nat → Int32} {lo : Nat → Int64} {ex : Bool} (hW : Wd S a b) (hI : Iv S sc ar)  (d : Nat)  : ci X S a b (d + 1) 35 [.ref 33] sc ar lo ex (fun x sc' ar' => Iv S sc' ar' ∧ Fr [3304] [] sc ar sc' ar' ∧ True) := by
  obtain ⟨ha1, ha8, hb1, hb8, hab, hS1, hS⟩ := id hW
  refine ci_of (M := an_X3_pop) rfl (Nat.le_of_ble_eq_true rfl) ?_
  have hF : Fr [3304] [] sc ar sc ar := fr_0
  refine to_eq (fr' := (0, [(0, .ref 33)], [], gh S a b sc ar lo, ex, 0, 0)) rfl ?_
  refine to_n 1 (fr' := (1, [(0, .ref 33)], [.ref 33], gh S a b sc ar lo, ex, 0, 0)) rfl ?_
  obtain ⟨n1, hn1, e1⟩ := iv_s3304 hI
  refine to_getR (v := (nI n1)) rfl rfl rfl rfl e1 ?_
  refine to_nf_gt (t := 9) (x := n1) rfl (by omega) (fun q2 => ?_) (fun q2 => ?_)
  · refine to_n 2 (fr' := (11, [(0, .ref 33)], [.ref 33, .ref 33], gh S a b sc ar lo, ex, 0, 0)) rfl ?_
    refine to_getR (v := (nI n1)) rfl rfl rfl rfl e1 ?_
    refine to_n 1 (fr' := (15, [(0, .ref 33)], [.int 1, .int (nI n1), .ref 33], gh S a b sc ar lo, ex, 0, 0)) rfl ?_
    refine to_subN (x := n1) (y := 1) rfl (by omega) ?_
    refine to_putR (h' := gh S a b (upd sc 3304 (nI (n1 - 1))) ar lo) rfl rfl rfl (Nat.le_of_ble_eq_true rfl) rfl rfl ?_
    have hI3 := ip_3304 (v := (nI (n1 - 1))) hI (rl_n (n := (n1 - 1)) (by omega))
    have hF3 := fr_s (k := 3304) (v := (nI (n1 - 1))) hF (by decide)
    refine to_n 1 (fr' := (20, [(0, .ref 33)], [.ref 33], gh S a b (upd sc 3304 (nI (n1 - 1))) ar lo, ex, 0, 0)) rfl ?_
    refine to_get rfl rfl rfl rfl ?_
    refine to_n 1 (fr' := (24, [(0, .ref 33)], [.ref 33, .ref 35], gh S a b (upd sc 3304 (nI (n1 - 1))) ar lo, ex, 0, 0)) rfl ?_
    refine to_getR (v := (nI (n1 - 1))) rfl rfl rfl rfl rfl ?_
    refine to_ialR (i := (n1 - 1)) (v := ((ar 35) (n1 - 1))) rfl (by decide) rfl (by omega) (by omega) rfl ?_
    exact to_rt (i := .ireturn) (tg := []) rfl rfl ⟨_, _, _, ⟨hI3, hF3, trivial⟩, rfl⟩
  · refine to_n 1 (fr' := (8, [(0, .ref 33)], [.int 0], gh S a b sc ar lo, ex, 0, 0)) rfl ?_
    exact to_rt (i := .ireturn) (tg := []) rfl rfl ⟨_, _, _, ⟨hI, hF, trivial⟩, rfl⟩
set_option maxRecDepth 20000 in
theorem sf_X3_learn {X : Nat × (Nat → Int32)} {S a b : Nat} {sc : Nat → Int32} {ar : Nat → Nat → Int32} {lo : Nat → Int64} {ex : Bool} (hW : Wd S a b) (hI : Iv S sc ar) (x1 : Int32) (x2 : Int32) (d : Nat)  : cv X S a b (d + 1) 30 [.ref 33, .int x1, .int x2] sc ar lo ex (fun sc' ar' => Iv S sc' ar' ∧ Fr [] [34] sc ar sc' ar') := by
  obtain ⟨ha1, ha8, hb1, hb8, hab, hS1, hS⟩ := id hW
  refine cv_of (M := an_X3_learn) rfl (Nat.le_of_ble_eq_true rfl) ?_
  have hF : Fr [] [34] sc ar sc ar := fr_0
  refine to_eq (fr' := (0, [(0, .ref 33), (1, .int x1), (2, .int x2)], [], gh S a b sc ar lo, ex, 0, 0)) rfl ?_
  refine to_n 5 (fr' := (6, [(0, .ref 33), (1, .int x1), (2, .int x2), (3, .int ((-20) - x1))], [.int ((-20) - x1)], gh S a b sc ar lo, ex, 0, 0)) rfl ?_
  refine to_if_lt (t := 25) rfl (fun q1 => ?_) (fun q1 => ?_)
  · exact to_rt (i := .return_) (tg := []) rfl rfl ⟨_, _, ⟨hI, hF⟩, rfl⟩
  · obtain ⟨n2, hn2, e2⟩ := nI_of q1
    rw [e2]
    refine to_eq (fr' := (9, [(0, .ref 33), (1, .int x1), (2, .int x2), (3, .int (nI n2))], [], gh S a b sc ar lo, ex, 0, 0)) rfl ?_
    refine to_n 2 (fr' := (11, [(0, .ref 33), (1, .int x1), (2, .int x2), (3, .int (nI n2))], [.ref 33, .int (nI n2)], gh S a b sc ar lo, ex, 0, 0)) rfl ?_
    refine to_get rfl rfl rfl rfl ?_
    refine to_len rfl (by decide) rfl (by decide) ?_
    refine to_eq (fr' := (15, [(0, .ref 33), (1, .int x1), (2, .int x2), (3, .int (nI n2))], [.int (nI 8), .int (nI n2)], gh S a b sc ar lo, ex, 0, 0)) rfl ?_
    refine to_nc_ge (t := 25) (x := n2) (y := 8) rfl (by omega) (by omega) (fun q3 => ?_) (fun q3 => ?_)
    · exact to_rt (i := .return_) (tg := []) rfl rfl ⟨_, _, ⟨hI, hF⟩, rfl⟩
    · refine to_n 1 (fr' := (19, [(0, .ref 33), (1, .int x1), (2, .int x2), (3, .int (nI n2))], [.ref 33], gh S a b sc ar lo, ex, 0, 0)) rfl ?_
      refine to_get rfl rfl rfl rfl ?_
      refine to_n 2 (fr' := (24, [(0, .ref 33), (1, .int x1), (2, .int x2), (3, .int (nI n2))], [.int x2, .int (nI n2), .ref 34], gh S a b sc ar lo, ex, 0, 0)) rfl ?_
      refine to_iasR (i := n2) (h' := gh S a b sc (uA ar 34 (upd (ar 34) n2 x2)) lo) rfl rfl (by omega) (by omega) rfl ?_
      have hI4 := ia_34 (g := (upd (ar 34) n2 x2)) hI
      have hF4 := fr_a (c := 34) (g := (upd (ar 34) n2 x2)) hF (by decide)
      exact to_rt (i := .return_) (tg := []) rfl rfl ⟨_, _, ⟨hI4, hF4⟩, rfl⟩
set_option maxRecDepth 20000 in
theorem sf_X3_join {X : Nat × (Nat → Int32)} {S a b : Nat} {sc : Nat → Int32} {ar : Nat → Nat → Int32} {lo : Nat → Int64} {ex : Bool} (hW : Wd S a b) (hI : Iv S sc ar) (x1 : Int32) (x2 : Int32) (x3 : Int32) (d : Nat)  : cp X S a b (d + 1) 33 [.int x1, .int x2, .int x3] sc ar lo ex (fun x => True) := by
  obtain ⟨ha1, ha8, hb1, hb8, hab, hS1, hS⟩ := id hW
  refine cp_of (M := an_X3_join) rfl (Nat.le_of_ble_eq_true rfl) ?_
  refine to_eq (fr' := (0, [(0, .int x1), (1, .int x2), (2, .int x3)], [], gh S a b sc ar lo, ex, 0, 0)) rfl ?_
  refine to_n 1 (fr' := (1, [(0, .int x1), (1, .int x2), (2, .int x3)], [.int x1], gh S a b sc ar lo, ex, 0, 0)) rfl ?_
  refine to_tb (x := x1) rfl rfl (by decide) (fun t ht => ?_)
  obtain rfl | rfl | rfl | rfl | rfl | rfl | rfl : t = 48 ∨ t = 52 ∨ t = 56 ∨ t = 60 ∨ t = 71 ∨ t = 82 ∨ t = 96 := by simpa using to_mem (l := [48, 52, 56, 60, 71, 82, 96]) ht (by decide)
  · refine to_eq (fr' := (48, [(0, .int x1), (1, .int x2), (2, .int x3)], [], gh S a b sc ar lo, ex, 0, 0)) rfl ?_
    refine to_n 3 (fr' := (51, [(0, .int x1), (1, .int x2), (2, .int x3)], [.int (x2 + x3)], gh S a b sc ar lo, ex, 0, 0)) rfl ?_
    exact to_rt (i := .ireturn) (tg := []) rfl rfl ⟨_, trivial, rfl⟩
  · refine to_eq (fr' := (52, [(0, .int x1), (1, .int x2), (2, .int x3)], [], gh S a b sc ar lo, ex, 0, 0)) rfl ?_
    refine to_n 3 (fr' := (55, [(0, .int x1), (1, .int x2), (2, .int x3)], [.int (x2 - x3)], gh S a b sc ar lo, ex, 0, 0)) rfl ?_
    exact to_rt (i := .ireturn) (tg := []) rfl rfl ⟨_, trivial, rfl⟩
  · refine to_eq (fr' := (56, [(0, .int x1), (1, .int x2), (2, .int x3)], [], gh S a b sc ar lo, ex, 0, 0)) rfl ?_
    refine to_n 3 (fr' := (59, [(0, .int x1), (1, .int x2), (2, .int x3)], [.int (x2 * x3)], gh S a b sc ar lo, ex, 0, 0)) rfl ?_
    exact to_rt (i := .ireturn) (tg := []) rfl rfl ⟨_, trivial, rfl⟩
  · refine to_eq (fr' := (60, [(0, .int x1), (1, .int x2), (2, .int x3)], [], gh S a b sc ar lo, ex, 0, 0)) rfl ?_
    refine to_n 2 (fr' := (62, [(0, .int x1), (1, .int x2), (2, .int x3)], [.int x3, .int x2], gh S a b sc ar lo, ex, 0, 0)) rfl ?_
    refine to_ic_ge (t := 69) rfl (fun q1 => ?_) (fun q1 => ?_)
    · refine to_n 1 (fr' := (70, [(0, .int x1), (1, .int x2), (2, .int x3)], [.int 0], gh S a b sc ar lo, ex, 0, 0)) rfl ?_
      exact to_rt (i := .ireturn) (tg := []) rfl rfl ⟨_, trivial, rfl⟩
    · refine to_n 2 (fr' := (70, [(0, .int x1), (1, .int x2), (2, .int x3)], [.int 1], gh S a b sc ar lo, ex, 0, 0)) rfl ?_
      exact to_rt (i := .ireturn) (tg := []) rfl rfl ⟨_, trivial, rfl⟩
  · refine to_eq (fr' := (71, [(0, .int x1), (1, .int x2), (2, .int x3)], [], gh S a b sc ar lo, ex, 0, 0)) rfl ?_
    refine to_n 2 (fr' := (73, [(0, .int x1), (1, .int x2), (2, .int x3)], [.int x3, .int x2], gh S a b sc ar lo, ex, 0, 0)) rfl ?_
    refine to_ic_ne (t := 80) rfl (fun q2 => ?_) (fun q2 => ?_)
    · refine to_n 1 (fr' := (81, [(0, .int x1), (1, .int x2), (2, .int x3)], [.int 0], gh S a b sc ar lo, ex, 0, 0)) rfl ?_
      exact to_rt (i := .ireturn) (tg := []) rfl rfl ⟨_, trivial, rfl⟩
    · refine to_n 2 (fr' := (81, [(0, .int x1), (1, .int x2), (2, .int x3)], [.int 1], gh S a b sc ar lo, ex, 0, 0)) rfl ?_
      exact to_rt (i := .ireturn) (tg := []) rfl rfl ⟨_, trivial, rfl⟩
  · refine to_eq (fr' := (82, [(0, .int x1), (1, .int x2), (2, .int x3)], [], gh S a b sc ar lo, ex, 0, 0)) rfl ?_
    refine to_n 1 (fr' := (83, [(0, .int x1), (1, .int x2), (2, .int x3)], [.int x2], gh S a b sc ar lo, ex, 0, 0)) rfl ?_
    refine to_if_eq (t := 94) rfl (fun q3 => ?_) (fun q3 => ?_)
    · refine to_n 1 (fr' := (95, [(0, .int x1), (1, .int x2), (2, .int x3)], [.int 0], gh S a b sc ar lo, ex, 0, 0)) rfl ?_
      exact to_rt (i := .ireturn) (tg := []) rfl rfl ⟨_, trivial, rfl⟩
    · refine to_n 1 (fr' := (87, [(0, .int x1), (1, .int x2), (2, .int x3)], [.int x3], gh S a b sc ar lo, ex, 0, 0)) rfl ?_
      refine to_if_eq (t := 94) rfl (fun q4 => ?_) (fun q4 => ?_)
      · refine to_n 1 (fr' := (95, [(0, .int x1), (1, .int x2), (2, .int x3)], [.int 0], gh S a b sc ar lo, ex, 0, 0)) rfl ?_
        exact to_rt (i := .ireturn) (tg := []) rfl rfl ⟨_, trivial, rfl⟩
      · refine to_n 2 (fr' := (95, [(0, .int x1), (1, .int x2), (2, .int x3)], [.int 1], gh S a b sc ar lo, ex, 0, 0)) rfl ?_
        exact to_rt (i := .ireturn) (tg := []) rfl rfl ⟨_, trivial, rfl⟩
  · refine to_eq (fr' := (96, [(0, .int x1), (1, .int x2), (2, .int x3)], [], gh S a b sc ar lo, ex, 0, 0)) rfl ?_
    refine to_n 1 (fr' := (97, [(0, .int x1), (1, .int x2), (2, .int x3)], [.int x2], gh S a b sc ar lo, ex, 0, 0)) rfl ?_
    refine to_if_ne (t := 104) rfl (fun q5 => ?_) (fun q5 => ?_)
    · refine to_n 2 (fr' := (109, [(0, .int x1), (1, .int x2), (2, .int x3)], [.int 1], gh S a b sc ar lo, ex, 0, 0)) rfl ?_
      exact to_rt (i := .ireturn) (tg := []) rfl rfl ⟨_, trivial, rfl⟩
    · refine to_n 1 (fr' := (101, [(0, .int x1), (1, .int x2), (2, .int x3)], [.int x3], gh S a b sc ar lo, ex, 0, 0)) rfl ?_
      refine to_if_eq (t := 108) rfl (fun q6 => ?_) (fun q6 => ?_)
      · refine to_n 1 (fr' := (109, [(0, .int x1), (1, .int x2), (2, .int x3)], [.int 0], gh S a b sc ar lo, ex, 0, 0)) rfl ?_
        exact to_rt (i := .ireturn) (tg := []) rfl rfl ⟨_, trivial, rfl⟩
      · refine to_n 2 (fr' := (109, [(0, .int x1), (1, .int x2), (2, .int x3)], [.int 1], gh S a b sc ar lo, ex, 0, 0)) rfl ?_
        exact to_rt (i := .ireturn) (tg := []) rfl rfl ⟨_, trivial, rfl⟩
set_option maxRecDepth 20000 in
theorem sf_X3_take {X : Nat × (Nat → Int32)} {S a b : Nat} {sc : Nat → Int32} {ar : Nat → Nat → Int32} {lo : Nat → Int64} {ex : Bool} (hW : Wd S a b) (hI : Iv S sc ar) (x1 : Int32) (d : Nat)  : cv X S a b (d + 2) 32 [.ref 33, .int x1] sc ar lo ex (fun sc' ar' => Iv S sc' ar' ∧ Fr [3300, 3301, 3304] [35] sc ar sc' ar') := by
  obtain ⟨ha1, ha8, hb1, hb8, hab, hS1, hS⟩ := id hW
  refine cv_of (M := an_X3_take) rfl (Nat.le_of_ble_eq_true rfl) ?_
  have hF : Fr [3300, 3301, 3304] [35] sc ar sc ar := fr_0
  refine to_eq (fr' := (0, [(0, .ref 33), (1, .int x1)], [], gh S a b sc ar lo, ex, 0, 0)) rfl ?_
  refine to_n 5 (fr' := (6, [(0, .ref 33), (1, .int x1), (2, .int ((-20) - x1))], [.int x1], gh S a b sc ar lo, ex, 0, 0)) rfl ?_
  refine to_if_lt (t := 17) rfl (fun q1 => ?_) (fun q1 => ?_)
  · refine to_n 1 (fr' := (18, [(0, .ref 33), (1, .int x1), (2, .int ((-20) - x1))], [.int ((-20) - x1)], gh S a b sc ar lo, ex, 0, 0)) rfl ?_
    refine to_if_lt (t := 43) rfl (fun q2 => ?_) (fun q2 => ?_)
    · refine to_n 2 (fr' := (46, [(0, .ref 33), (1, .int x1), (2, .int ((-20) - x1))], [.int (-12), .int x1], gh S a b sc ar lo, ex, 0, 0)) rfl ?_
      refine to_ic_ne (t := 75) rfl (fun q4 => ?_) (fun q4 => ?_)
      · refine to_n 2 (fr' := (78, [(0, .ref 33), (1, .int x1), (2, .int ((-20) - x1))], [.int (-13), .int x1], gh S a b sc ar lo, ex, 0, 0)) rfl ?_
        refine to_ic_ne (t := 97) rfl (fun q5 => ?_) (fun q5 => ?_)
        · refine to_n 2 (fr' := (100, [(0, .ref 33), (1, .int x1), (2, .int ((-20) - x1))], [.int (-16), .int x1], gh S a b sc ar lo, ex, 0, 0)) rfl ?_
          refine to_ic_ne (t := 122) rfl (fun q6 => ?_) (fun q6 => ?_)
          · refine to_n 1 (fr' := (123, [(0, .ref 33), (1, .int x1), (2, .int ((-20) - x1))], [.ref 33], gh S a b sc ar lo, ex, 0, 0)) rfl ?_
            refine to_ci (q := 35) (M1 := an_X3_pop) (rest := []) rfl rfl (by decide) rfl ⟨_, rfl⟩ (sf_X3_pop hW hI  d) (fun x7 sc7 ar7 hx7 => ?_)
            obtain ⟨hI7, hG7, hx7⟩ := hx7
            have hF7 := fr_t hF hG7 (by decide) (by decide)
            refine to_eq (fr' := (126, [(0, .ref 33), (1, .int x1), (2, .int ((-20) - x1))], [.int x7], gh S a b sc7 ar7 lo, ex, 0, 0)) rfl ?_
            refine to_n 2 (fr' := (128, [(0, .ref 33), (1, .int x1), (2, .int ((-20) - x1)), (3, .int x7)], [.ref 33], gh S a b sc7 ar7 lo, ex, 0, 0)) rfl ?_
            refine to_ci (q := 35) (M1 := an_X3_pop) (rest := []) rfl rfl (by decide) rfl ⟨_, rfl⟩ (sf_X3_pop hW hI7  d) (fun x8 sc8 ar8 hx8 => ?_)
            obtain ⟨hI8, hG8, hx8⟩ := hx8
            have hF8 := fr_t hF7 hG8 (by decide) (by decide)
            refine to_eq (fr' := (131, [(0, .ref 33), (1, .int x1), (2, .int ((-20) - x1)), (3, .int x7)], [.int x8], gh S a b sc8 ar8 lo, ex, 0, 0)) rfl ?_
            refine to_n 5 (fr' := (138, [(0, .ref 33), (1, .int x1), (2, .int ((-20) - x1)), (3, .int x7), (4, .int x8)], [.int x7, .int x8, .int x1, .ref 33], gh S a b sc8 ar8 lo, ex, 0, 0)) rfl ?_
            refine to_cp (q := 33) (M1 := an_X3_join) (rest := [.ref 33]) rfl rfl (by decide) rfl trivial (sf_X3_join hW hI8 x1 x8 x7 d) (fun x9 hx9 => ?_)
            refine to_eq (fr' := (141, [(0, .ref 33), (1, .int x1), (2, .int ((-20) - x1)), (3, .int x7), (4, .int x8)], [.int x9, .ref 33], gh S a b sc8 ar8 lo, ex, 0, 0)) rfl ?_
            refine to_cv (q := 34) (M1 := an_X3_push) (rest := []) rfl rfl (by decide) rfl ⟨_, rfl⟩ (sf_X3_push hW hI8 x9 d) (fun sc10 ar10 hx10 => ?_)
            obtain ⟨hI10, hG10⟩ := hx10
            have hF10 := fr_t hF8 hG10 (by decide) (by decide)
            refine to_eq (fr' := (144, [(0, .ref 33), (1, .int x1), (2, .int ((-20) - x1)), (3, .int x7), (4, .int x8)], [], gh S a b sc10 ar10 lo, ex, 0, 0)) rfl ?_
            exact to_rt (i := .return_) (tg := []) rfl rfl ⟨_, _, ⟨hI10, hF10⟩, rfl⟩
          · refine to_n 2 (fr' := (105, [(0, .ref 33), (1, .int x1), (2, .int ((-20) - x1))], [.ref 33, .ref 33], gh S a b sc ar lo, ex, 0, 0)) rfl ?_
            refine to_ci (q := 35) (M1 := an_X3_pop) (rest := [.ref 33]) rfl rfl (by decide) rfl ⟨_, rfl⟩ (sf_X3_pop hW hI  d) (fun x11 sc11 ar11 hx11 => ?_)
            obtain ⟨hI11, hG11, hx11⟩ := hx11
            have hF11 := fr_t hF hG11 (by decide) (by decide)
            refine to_eq (fr' := (108, [(0, .ref 33), (1, .int x1), (2, .int ((-20) - x1))], [.int x11, .ref 33], gh S a b sc11 ar11 lo, ex, 0, 0)) rfl ?_
            refine to_if_ne (t := 115) rfl (fun q12 => ?_) (fun q12 => ?_)
            · refine to_n 1 (fr' := (116, [(0, .ref 33), (1, .int x1), (2, .int ((-20) - x1))], [.int 0, .ref 33], gh S a b sc11 ar11 lo, ex, 0, 0)) rfl ?_
              refine to_cv (q := 34) (M1 := an_X3_push) (rest := []) rfl rfl (by decide) rfl ⟨_, rfl⟩ (sf_X3_push hW hI11 0 d) (fun sc13 ar13 hx13 => ?_)
              obtain ⟨hI13, hG13⟩ := hx13
              have hF13 := fr_t hF11 hG13 (by decide) (by decide)
              refine to_eq (fr' := (119, [(0, .ref 33), (1, .int x1), (2, .int ((-20) - x1))], [], gh S a b sc13 ar13 lo, ex, 0, 0)) rfl ?_
              refine to_n 1 (fr' := (144, [(0, .ref 33), (1, .int x1), (2, .int ((-20) - x1))], [], gh S a b sc13 ar13 lo, ex, 0, 0)) rfl ?_
              exact to_rt (i := .return_) (tg := []) rfl rfl ⟨_, _, ⟨hI13, hF13⟩, rfl⟩
            · refine to_n 2 (fr' := (116, [(0, .ref 33), (1, .int x1), (2, .int ((-20) - x1))], [.int 1, .ref 33], gh S a b sc11 ar11 lo, ex, 0, 0)) rfl ?_
              refine to_cv (q := 34) (M1 := an_X3_push) (rest := []) rfl rfl (by decide) rfl ⟨_, rfl⟩ (sf_X3_push hW hI11 1 d) (fun sc14 ar14 hx14 => ?_)
              obtain ⟨hI14, hG14⟩ := hx14
              have hF14 := fr_t hF11 hG14 (by decide) (by decide)
              refine to_eq (fr' := (119, [(0, .ref 33), (1, .int x1), (2, .int ((-20) - x1))], [], gh S a b sc14 ar14 lo, ex, 0, 0)) rfl ?_
              refine to_n 1 (fr' := (144, [(0, .ref 33), (1, .int x1), (2, .int ((-20) - x1))], [], gh S a b sc14 ar14 lo, ex, 0, 0)) rfl ?_
              exact to_rt (i := .return_) (tg := []) rfl rfl ⟨_, _, ⟨hI14, hF14⟩, rfl⟩
        · refine to_n 2 (fr' := (83, [(0, .ref 33), (1, .int x1), (2, .int ((-20) - x1))], [.ref 33, .ref 33], gh S a b sc ar lo, ex, 0, 0)) rfl ?_
          refine to_getR (v := (sc 3301)) rfl rfl rfl rfl rfl ?_
          refine to_n 1 (fr' := (87, [(0, .ref 33), (1, .int x1), (2, .int ((-20) - x1))], [.ref 33, .int (sc 3301), .ref 33], gh S a b sc ar lo, ex, 0, 0)) rfl ?_
          refine to_ci (q := 35) (M1 := an_X3_pop) (rest := [.int (sc 3301), .ref 33]) rfl rfl (by decide) rfl ⟨_, rfl⟩ (sf_X3_pop hW hI  d) (fun x15 sc15 ar15 hx15 => ?_)
          obtain ⟨hI15, hG15, hx15⟩ := hx15
          have hF15 := fr_t hF hG15 (by decide) (by decide)
          refine to_eq (fr' := (90, [(0, .ref 33), (1, .int x1), (2, .int ((-20) - x1))], [.int x15, .int (sc 3301), .ref 33], gh S a b sc15 ar15 lo, ex, 0, 0)) rfl ?_
          refine to_n 1 (fr' := (91, [(0, .ref 33), (1, .int x1), (2, .int ((-20) - x1))], [.int ((sc 3301) + x15), .ref 33], gh S a b sc15 ar15 lo, ex, 0, 0)) rfl ?_
          refine to_putR (h' := gh S a b (upd sc15 3301 ((sc 3301) + x15)) ar15 lo) rfl rfl rfl (Nat.le_of_ble_eq_true rfl) rfl rfl ?_
          have hI16 := ip_3301 (v := ((sc 3301) + x15)) hI15 
          have hF16 := fr_s (k := 3301) (v := ((sc 3301) + x15)) hF15 (by decide)
          refine to_n 1 (fr' := (144, [(0, .ref 33), (1, .int x1), (2, .int ((-20) - x1))], [], gh S a b (upd sc15 3301 ((sc 3301) + x15)) ar15 lo, ex, 0, 0)) rfl ?_
          exact to_rt (i := .return_) (tg := []) rfl rfl ⟨_, _, ⟨hI16, hF16⟩, rfl⟩
      · refine to_n 2 (fr' := (51, [(0, .ref 33), (1, .int x1), (2, .int ((-20) - x1))], [.ref 33, .ref 33], gh S a b sc ar lo, ex, 0, 0)) rfl ?_
        refine to_ci (q := 35) (M1 := an_X3_pop) (rest := [.ref 33]) rfl rfl (by decide) rfl ⟨_, rfl⟩ (sf_X3_pop hW hI  d) (fun x17 sc17 ar17 hx17 => ?_)
        obtain ⟨hI17, hG17, hx17⟩ := hx17
        have hF17 := fr_t hF hG17 (by decide) (by decide)
        refine to_eq (fr' := (54, [(0, .ref 33), (1, .int x1), (2, .int ((-20) - x1))], [.int x17, .ref 33], gh S a b sc17 ar17 lo, ex, 0, 0)) rfl ?_
        refine to_if_ne (t := 64) rfl (fun q18 => ?_) (fun q18 => ?_)
        · refine to_n 2 (fr' := (69, [(0, .ref 33), (1, .int x1), (2, .int ((-20) - x1))], [.int 1, .ref 33], gh S a b sc17 ar17 lo, ex, 0, 0)) rfl ?_
          refine to_putR (h' := gh S a b (upd sc17 3300 1) ar17 lo) rfl rfl rfl (Nat.le_of_ble_eq_true rfl) rfl rfl ?_
          have hI19 := ip_3300 (v := 1) hI17 (rl_n (n := 1) (by omega))
          have hF19 := fr_s (k := 3300) (v := 1) hF17 (by decide)
          refine to_n 1 (fr' := (144, [(0, .ref 33), (1, .int x1), (2, .int ((-20) - x1))], [], gh S a b (upd sc17 3300 1) ar17 lo, ex, 0, 0)) rfl ?_
          exact to_rt (i := .return_) (tg := []) rfl rfl ⟨_, _, ⟨hI19, hF19⟩, rfl⟩
        · refine to_n 1 (fr' := (58, [(0, .ref 33), (1, .int x1), (2, .int ((-20) - x1))], [.ref 33, .ref 33], gh S a b sc17 ar17 lo, ex, 0, 0)) rfl ?_
          obtain ⟨n20, hn20, e20⟩ := iv_s3300 hI17
          refine to_getR (v := (nI n20)) rfl rfl rfl rfl e20 ?_
          refine to_nf_eq (t := 68) (x := n20) rfl (by omega) (fun q21 => ?_) (fun q21 => ?_)
          · refine to_n 1 (fr' := (69, [(0, .ref 33), (1, .int x1), (2, .int ((-20) - x1))], [.int 0, .ref 33], gh S a b sc17 ar17 lo, ex, 0, 0)) rfl ?_
            refine to_putR (h' := gh S a b (upd sc17 3300 0) ar17 lo) rfl rfl rfl (Nat.le_of_ble_eq_true rfl) rfl rfl ?_
            have hI22 := ip_3300 (v := 0) hI17 (rl_n (n := 0) (by omega))
            have hF22 := fr_s (k := 3300) (v := 0) hF17 (by decide)
            refine to_n 1 (fr' := (144, [(0, .ref 33), (1, .int x1), (2, .int ((-20) - x1))], [], gh S a b (upd sc17 3300 0) ar17 lo, ex, 0, 0)) rfl ?_
            exact to_rt (i := .return_) (tg := []) rfl rfl ⟨_, _, ⟨hI22, hF22⟩, rfl⟩
          · refine to_n 2 (fr' := (69, [(0, .ref 33), (1, .int x1), (2, .int ((-20) - x1))], [.int 1, .ref 33], gh S a b sc17 ar17 lo, ex, 0, 0)) rfl ?_
            refine to_putR (h' := gh S a b (upd sc17 3300 1) ar17 lo) rfl rfl rfl (Nat.le_of_ble_eq_true rfl) rfl rfl ?_
            have hI23 := ip_3300 (v := 1) hI17 (rl_n (n := 1) (by omega))
            have hF23 := fr_s (k := 3300) (v := 1) hF17 (by decide)
            refine to_n 1 (fr' := (144, [(0, .ref 33), (1, .int x1), (2, .int ((-20) - x1))], [], gh S a b (upd sc17 3300 1) ar17 lo, ex, 0, 0)) rfl ?_
            exact to_rt (i := .return_) (tg := []) rfl rfl ⟨_, _, ⟨hI23, hF23⟩, rfl⟩
    · obtain ⟨n3, hn3, e3⟩ := nI_of q2
      rw [e3]
      refine to_eq (fr' := (21, [(0, .ref 33), (1, .int x1), (2, .int (nI n3))], [], gh S a b sc ar lo, ex, 0, 0)) rfl ?_
      refine to_n 2 (fr' := (23, [(0, .ref 33), (1, .int x1), (2, .int (nI n3))], [.ref 33, .int (nI n3)], gh S a b sc ar lo, ex, 0, 0)) rfl ?_
      refine to_get rfl rfl rfl rfl ?_
      refine to_len rfl (by decide) rfl (by decide) ?_
      refine to_eq (fr' := (27, [(0, .ref 33), (1, .int x1), (2, .int (nI n3))], [.int (nI 8), .int (nI n3)], gh S a b sc ar lo, ex, 0, 0)) rfl ?_
      refine to_nc_ge (t := 43) (x := n3) (y := 8) rfl (by omega) (by omega) (fun q24 => ?_) (fun q24 => ?_)
      · refine to_n 2 (fr' := (46, [(0, .ref 33), (1, .int x1), (2, .int (nI n3))], [.int (-12), .int x1], gh S a b sc ar lo, ex, 0, 0)) rfl ?_
        refine to_ic_ne (t := 75) rfl (fun q25 => ?_) (fun q25 => ?_)
        · refine to_n 2 (fr' := (78, [(0, .ref 33), (1, .int x1), (2, .int (nI n3))], [.int (-13), .int x1], gh S a b sc ar lo, ex, 0, 0)) rfl ?_
          refine to_ic_ne (t := 97) rfl (fun q26 => ?_) (fun q26 => ?_)
          · refine to_n 2 (fr' := (100, [(0, .ref 33), (1, .int x1), (2, .int (nI n3))], [.int (-16), .int x1], gh S a b sc ar lo, ex, 0, 0)) rfl ?_
            refine to_ic_ne (t := 122) rfl (fun q27 => ?_) (fun q27 => ?_)
            · refine to_n 1 (fr' := (123, [(0, .ref 33), (1, .int x1), (2, .int (nI n3))], [.ref 33], gh S a b sc ar lo, ex, 0, 0)) rfl ?_
              refine to_ci (q := 35) (M1 := an_X3_pop) (rest := []) rfl rfl (by decide) rfl ⟨_, rfl⟩ (sf_X3_pop hW hI  d) (fun x28 sc28 ar28 hx28 => ?_)
              obtain ⟨hI28, hG28, hx28⟩ := hx28
              have hF28 := fr_t hF hG28 (by decide) (by decide)
              refine to_eq (fr' := (126, [(0, .ref 33), (1, .int x1), (2, .int (nI n3))], [.int x28], gh S a b sc28 ar28 lo, ex, 0, 0)) rfl ?_
              refine to_n 2 (fr' := (128, [(0, .ref 33), (1, .int x1), (2, .int (nI n3)), (3, .int x28)], [.ref 33], gh S a b sc28 ar28 lo, ex, 0, 0)) rfl ?_
              refine to_ci (q := 35) (M1 := an_X3_pop) (rest := []) rfl rfl (by decide) rfl ⟨_, rfl⟩ (sf_X3_pop hW hI28  d) (fun x29 sc29 ar29 hx29 => ?_)
              obtain ⟨hI29, hG29, hx29⟩ := hx29
              have hF29 := fr_t hF28 hG29 (by decide) (by decide)
              refine to_eq (fr' := (131, [(0, .ref 33), (1, .int x1), (2, .int (nI n3)), (3, .int x28)], [.int x29], gh S a b sc29 ar29 lo, ex, 0, 0)) rfl ?_
              refine to_n 5 (fr' := (138, [(0, .ref 33), (1, .int x1), (2, .int (nI n3)), (3, .int x28), (4, .int x29)], [.int x28, .int x29, .int x1, .ref 33], gh S a b sc29 ar29 lo, ex, 0, 0)) rfl ?_
              refine to_cp (q := 33) (M1 := an_X3_join) (rest := [.ref 33]) rfl rfl (by decide) rfl trivial (sf_X3_join hW hI29 x1 x29 x28 d) (fun x30 hx30 => ?_)
              refine to_eq (fr' := (141, [(0, .ref 33), (1, .int x1), (2, .int (nI n3)), (3, .int x28), (4, .int x29)], [.int x30, .ref 33], gh S a b sc29 ar29 lo, ex, 0, 0)) rfl ?_
              refine to_cv (q := 34) (M1 := an_X3_push) (rest := []) rfl rfl (by decide) rfl ⟨_, rfl⟩ (sf_X3_push hW hI29 x30 d) (fun sc31 ar31 hx31 => ?_)
              obtain ⟨hI31, hG31⟩ := hx31
              have hF31 := fr_t hF29 hG31 (by decide) (by decide)
              refine to_eq (fr' := (144, [(0, .ref 33), (1, .int x1), (2, .int (nI n3)), (3, .int x28), (4, .int x29)], [], gh S a b sc31 ar31 lo, ex, 0, 0)) rfl ?_
              exact to_rt (i := .return_) (tg := []) rfl rfl ⟨_, _, ⟨hI31, hF31⟩, rfl⟩
            · refine to_n 2 (fr' := (105, [(0, .ref 33), (1, .int x1), (2, .int (nI n3))], [.ref 33, .ref 33], gh S a b sc ar lo, ex, 0, 0)) rfl ?_
              refine to_ci (q := 35) (M1 := an_X3_pop) (rest := [.ref 33]) rfl rfl (by decide) rfl ⟨_, rfl⟩ (sf_X3_pop hW hI  d) (fun x32 sc32 ar32 hx32 => ?_)
              obtain ⟨hI32, hG32, hx32⟩ := hx32
              have hF32 := fr_t hF hG32 (by decide) (by decide)
              refine to_eq (fr' := (108, [(0, .ref 33), (1, .int x1), (2, .int (nI n3))], [.int x32, .ref 33], gh S a b sc32 ar32 lo, ex, 0, 0)) rfl ?_
              refine to_if_ne (t := 115) rfl (fun q33 => ?_) (fun q33 => ?_)
              · refine to_n 1 (fr' := (116, [(0, .ref 33), (1, .int x1), (2, .int (nI n3))], [.int 0, .ref 33], gh S a b sc32 ar32 lo, ex, 0, 0)) rfl ?_
                refine to_cv (q := 34) (M1 := an_X3_push) (rest := []) rfl rfl (by decide) rfl ⟨_, rfl⟩ (sf_X3_push hW hI32 0 d) (fun sc34 ar34 hx34 => ?_)
                obtain ⟨hI34, hG34⟩ := hx34
                have hF34 := fr_t hF32 hG34 (by decide) (by decide)
                refine to_eq (fr' := (119, [(0, .ref 33), (1, .int x1), (2, .int (nI n3))], [], gh S a b sc34 ar34 lo, ex, 0, 0)) rfl ?_
                refine to_n 1 (fr' := (144, [(0, .ref 33), (1, .int x1), (2, .int (nI n3))], [], gh S a b sc34 ar34 lo, ex, 0, 0)) rfl ?_
                exact to_rt (i := .return_) (tg := []) rfl rfl ⟨_, _, ⟨hI34, hF34⟩, rfl⟩
              · refine to_n 2 (fr' := (116, [(0, .ref 33), (1, .int x1), (2, .int (nI n3))], [.int 1, .ref 33], gh S a b sc32 ar32 lo, ex, 0, 0)) rfl ?_
                refine to_cv (q := 34) (M1 := an_X3_push) (rest := []) rfl rfl (by decide) rfl ⟨_, rfl⟩ (sf_X3_push hW hI32 1 d) (fun sc35 ar35 hx35 => ?_)
                obtain ⟨hI35, hG35⟩ := hx35
                have hF35 := fr_t hF32 hG35 (by decide) (by decide)
                refine to_eq (fr' := (119, [(0, .ref 33), (1, .int x1), (2, .int (nI n3))], [], gh S a b sc35 ar35 lo, ex, 0, 0)) rfl ?_
                refine to_n 1 (fr' := (144, [(0, .ref 33), (1, .int x1), (2, .int (nI n3))], [], gh S a b sc35 ar35 lo, ex, 0, 0)) rfl ?_
                exact to_rt (i := .return_) (tg := []) rfl rfl ⟨_, _, ⟨hI35, hF35⟩, rfl⟩
          · refine to_n 2 (fr' := (83, [(0, .ref 33), (1, .int x1), (2, .int (nI n3))], [.ref 33, .ref 33], gh S a b sc ar lo, ex, 0, 0)) rfl ?_
            refine to_getR (v := (sc 3301)) rfl rfl rfl rfl rfl ?_
            refine to_n 1 (fr' := (87, [(0, .ref 33), (1, .int x1), (2, .int (nI n3))], [.ref 33, .int (sc 3301), .ref 33], gh S a b sc ar lo, ex, 0, 0)) rfl ?_
            refine to_ci (q := 35) (M1 := an_X3_pop) (rest := [.int (sc 3301), .ref 33]) rfl rfl (by decide) rfl ⟨_, rfl⟩ (sf_X3_pop hW hI  d) (fun x36 sc36 ar36 hx36 => ?_)
            obtain ⟨hI36, hG36, hx36⟩ := hx36
            have hF36 := fr_t hF hG36 (by decide) (by decide)
            refine to_eq (fr' := (90, [(0, .ref 33), (1, .int x1), (2, .int (nI n3))], [.int x36, .int (sc 3301), .ref 33], gh S a b sc36 ar36 lo, ex, 0, 0)) rfl ?_
            refine to_n 1 (fr' := (91, [(0, .ref 33), (1, .int x1), (2, .int (nI n3))], [.int ((sc 3301) + x36), .ref 33], gh S a b sc36 ar36 lo, ex, 0, 0)) rfl ?_
            refine to_putR (h' := gh S a b (upd sc36 3301 ((sc 3301) + x36)) ar36 lo) rfl rfl rfl (Nat.le_of_ble_eq_true rfl) rfl rfl ?_
            have hI37 := ip_3301 (v := ((sc 3301) + x36)) hI36 
            have hF37 := fr_s (k := 3301) (v := ((sc 3301) + x36)) hF36 (by decide)
            refine to_n 1 (fr' := (144, [(0, .ref 33), (1, .int x1), (2, .int (nI n3))], [], gh S a b (upd sc36 3301 ((sc 3301) + x36)) ar36 lo, ex, 0, 0)) rfl ?_
            exact to_rt (i := .return_) (tg := []) rfl rfl ⟨_, _, ⟨hI37, hF37⟩, rfl⟩
        · refine to_n 2 (fr' := (51, [(0, .ref 33), (1, .int x1), (2, .int (nI n3))], [.ref 33, .ref 33], gh S a b sc ar lo, ex, 0, 0)) rfl ?_
          refine to_ci (q := 35) (M1 := an_X3_pop) (rest := [.ref 33]) rfl rfl (by decide) rfl ⟨_, rfl⟩ (sf_X3_pop hW hI  d) (fun x38 sc38 ar38 hx38 => ?_)
          obtain ⟨hI38, hG38, hx38⟩ := hx38
          have hF38 := fr_t hF hG38 (by decide) (by decide)
          refine to_eq (fr' := (54, [(0, .ref 33), (1, .int x1), (2, .int (nI n3))], [.int x38, .ref 33], gh S a b sc38 ar38 lo, ex, 0, 0)) rfl ?_
          refine to_if_ne (t := 64) rfl (fun q39 => ?_) (fun q39 => ?_)
          · refine to_n 2 (fr' := (69, [(0, .ref 33), (1, .int x1), (2, .int (nI n3))], [.int 1, .ref 33], gh S a b sc38 ar38 lo, ex, 0, 0)) rfl ?_
            refine to_putR (h' := gh S a b (upd sc38 3300 1) ar38 lo) rfl rfl rfl (Nat.le_of_ble_eq_true rfl) rfl rfl ?_
            have hI40 := ip_3300 (v := 1) hI38 (rl_n (n := 1) (by omega))
            have hF40 := fr_s (k := 3300) (v := 1) hF38 (by decide)
            refine to_n 1 (fr' := (144, [(0, .ref 33), (1, .int x1), (2, .int (nI n3))], [], gh S a b (upd sc38 3300 1) ar38 lo, ex, 0, 0)) rfl ?_
            exact to_rt (i := .return_) (tg := []) rfl rfl ⟨_, _, ⟨hI40, hF40⟩, rfl⟩
          · refine to_n 1 (fr' := (58, [(0, .ref 33), (1, .int x1), (2, .int (nI n3))], [.ref 33, .ref 33], gh S a b sc38 ar38 lo, ex, 0, 0)) rfl ?_
            obtain ⟨n41, hn41, e41⟩ := iv_s3300 hI38
            refine to_getR (v := (nI n41)) rfl rfl rfl rfl e41 ?_
            refine to_nf_eq (t := 68) (x := n41) rfl (by omega) (fun q42 => ?_) (fun q42 => ?_)
            · refine to_n 1 (fr' := (69, [(0, .ref 33), (1, .int x1), (2, .int (nI n3))], [.int 0, .ref 33], gh S a b sc38 ar38 lo, ex, 0, 0)) rfl ?_
              refine to_putR (h' := gh S a b (upd sc38 3300 0) ar38 lo) rfl rfl rfl (Nat.le_of_ble_eq_true rfl) rfl rfl ?_
              have hI43 := ip_3300 (v := 0) hI38 (rl_n (n := 0) (by omega))
              have hF43 := fr_s (k := 3300) (v := 0) hF38 (by decide)
              refine to_n 1 (fr' := (144, [(0, .ref 33), (1, .int x1), (2, .int (nI n3))], [], gh S a b (upd sc38 3300 0) ar38 lo, ex, 0, 0)) rfl ?_
              exact to_rt (i := .return_) (tg := []) rfl rfl ⟨_, _, ⟨hI43, hF43⟩, rfl⟩
            · refine to_n 2 (fr' := (69, [(0, .ref 33), (1, .int x1), (2, .int (nI n3))], [.int 1, .ref 33], gh S a b sc38 ar38 lo, ex, 0, 0)) rfl ?_
              refine to_putR (h' := gh S a b (upd sc38 3300 1) ar38 lo) rfl rfl rfl (Nat.le_of_ble_eq_true rfl) rfl rfl ?_
              have hI44 := ip_3300 (v := 1) hI38 (rl_n (n := 1) (by omega))
              have hF44 := fr_s (k := 3300) (v := 1) hF38 (by decide)
              refine to_n 1 (fr' := (144, [(0, .ref 33), (1, .int x1), (2, .int (nI n3))], [], gh S a b (upd sc38 3300 1) ar38 lo, ex, 0, 0)) rfl ?_
              exact to_rt (i := .return_) (tg := []) rfl rfl ⟨_, _, ⟨hI44, hF44⟩, rfl⟩
      · refine to_n 2 (fr' := (32, [(0, .ref 33), (1, .int x1), (2, .int (nI n3))], [.ref 33, .ref 33], gh S a b sc ar lo, ex, 0, 0)) rfl ?_
        refine to_get rfl rfl rfl rfl ?_
        refine to_n 1 (fr' := (36, [(0, .ref 33), (1, .int x1), (2, .int (nI n3))], [.int (nI n3), .ref 34, .ref 33], gh S a b sc ar lo, ex, 0, 0)) rfl ?_
        refine to_ialR (i := n3) (v := ((ar 34) n3)) rfl (by decide) rfl (by omega) (by omega) rfl ?_
        refine to_cv (q := 34) (M1 := an_X3_push) (rest := []) rfl rfl (by decide) rfl ⟨_, rfl⟩ (sf_X3_push hW hI ((ar 34) n3) d) (fun sc45 ar45 hx45 => ?_)
        obtain ⟨hI45, hG45⟩ := hx45
        have hF45 := fr_t hF hG45 (by decide) (by decide)
        refine to_eq (fr' := (40, [(0, .ref 33), (1, .int x1), (2, .int (nI n3))], [], gh S a b sc45 ar45 lo, ex, 0, 0)) rfl ?_
        refine to_n 1 (fr' := (144, [(0, .ref 33), (1, .int x1), (2, .int (nI n3))], [], gh S a b sc45 ar45 lo, ex, 0, 0)) rfl ?_
        exact to_rt (i := .return_) (tg := []) rfl rfl ⟨_, _, ⟨hI45, hF45⟩, rfl⟩
  · refine to_n 2 (fr' := (11, [(0, .ref 33), (1, .int x1), (2, .int ((-20) - x1))], [.int x1, .ref 33], gh S a b sc ar lo, ex, 0, 0)) rfl ?_
    refine to_cv (q := 34) (M1 := an_X3_push) (rest := []) rfl rfl (by decide) rfl ⟨_, rfl⟩ (sf_X3_push hW hI x1 d) (fun sc46 ar46 hx46 => ?_)
    obtain ⟨hI46, hG46⟩ := hx46
    have hF46 := fr_t hF hG46 (by decide) (by decide)
    refine to_eq (fr' := (14, [(0, .ref 33), (1, .int x1), (2, .int ((-20) - x1))], [], gh S a b sc46 ar46 lo, ex, 0, 0)) rfl ?_
    refine to_n 1 (fr' := (144, [(0, .ref 33), (1, .int x1), (2, .int ((-20) - x1))], [], gh S a b sc46 ar46 lo, ex, 0, 0)) rfl ?_
    exact to_rt (i := .return_) (tg := []) rfl rfl ⟨_, _, ⟨hI46, hF46⟩, rfl⟩
set_option maxRecDepth 20000 in
theorem sf_X3_apply {X : Nat × (Nat → Int32)} {S a b : Nat} {sc : Nat → Int32} {ar : Nat → Nat → Int32} {lo : Nat → Int64} {ex : Bool} (hW : Wd S a b) (hI : Iv S sc ar) (x1 : Int32) (d : Nat)  : cv X S a b (d + 3) 31 [.ref 33, .ref 29, .int x1] sc ar lo ex (fun sc' ar' => Iv S sc' ar' ∧ Fr [3300, 3301, 3304] [35] sc ar sc' ar') := by
  obtain ⟨ha1, ha8, hb1, hb8, hab, hS1, hS⟩ := id hW
  refine cv_of (M := an_X3_apply) rfl (Nat.le_of_ble_eq_true rfl) ?_
  have hF : Fr [3300, 3301, 3304] [35] sc ar sc ar := fr_0
  refine to_eq (fr' := (0, [(0, .ref 33), (1, .ref 29), (2, .int x1)], [], gh S a b sc ar lo, ex, 0, 0)) rfl ?_
  have c34 : ∀ m : Nat, ∀ (k : Nat) (i : Nat) (sc1 : Nat → Int32) (ar1 : Nat → Nat → Int32), 2400 ≤ i + m → k < 6 → i ≤ 2400 → Iv S sc1 ar1 → Fr [3300, 3301, 3304] [35] sc ar sc1 ar1 → ag_To X (d + 2) an_X3_apply (34, [(0, .ref 33), (1, .ref 29), (2, .int (nI k)), (3, .int (nI i))], [], gh S a b sc1 ar1 lo, ex, 0, 0) (qv S a b lo ex (fun sc' ar' => Iv S sc' ar' ∧ Fr [3300, 3301, 3304] [35] sc ar sc' ar')) := by
    intro m
    induction m with
    | zero =>
      intro k i sc1 ar1 hm hc34_0 hc34_1 hI1 hF1
      refine to_n 2 (fr' := (36, [(0, .ref 33), (1, .ref 29), (2, .int (nI k)), (3, .int (nI i))], [.ref 29, .int (nI i)], gh S a b sc1 ar1 lo, ex, 0, 0)) rfl ?_
      refine to_get rfl rfl rfl rfl ?_
      refine to_n 1 (fr' := (40, [(0, .ref 33), (1, .ref 29), (2, .int (nI k)), (3, .int (nI i))], [.int (nI k), .ref 31, .int (nI i)], gh S a b sc1 ar1 lo, ex, 0, 0)) rfl ?_
      obtain ⟨n2, hn2, e2⟩ := iv_a31 hI1 k
      refine to_ialR (i := k) (v := (nI n2)) rfl (by decide) rfl (by omega) (by omega) e2 ?_
      refine to_nc_ge (t := 69) (x := i) (y := n2) rfl (by omega) (by omega) (fun q3 => ?_) (fun q3 => ?_)
      · exact to_rt (i := .return_) (tg := []) rfl rfl ⟨_, _, ⟨hI1, hF1⟩, rfl⟩
      · refine to_n 2 (fr' := (46, [(0, .ref 33), (1, .ref 29), (2, .int (nI k)), (3, .int (nI i))], [.ref 29, .int (nI i)], gh S a b sc1 ar1 lo, ex, 0, 0)) rfl ?_
        refine to_get rfl rfl rfl rfl ?_
        refine to_len rfl (by decide) rfl (by decide) ?_
        refine to_eq (fr' := (50, [(0, .ref 33), (1, .ref 29), (2, .int (nI k)), (3, .int (nI i))], [.int (nI 2400), .int (nI i)], gh S a b sc1 ar1 lo, ex, 0, 0)) rfl ?_
        refine to_nc_ge_T (t := 69) (x := i) (y := 2400) rfl (by omega) (by omega) (by omega) ?_
        exact to_rt (i := .return_) (tg := []) rfl rfl ⟨_, _, ⟨hI1, hF1⟩, rfl⟩
    | succ m ih =>
      intro k i sc1 ar1 hm hc34_0 hc34_1 hI1 hF1
      refine to_n 2 (fr' := (36, [(0, .ref 33), (1, .ref 29), (2, .int (nI k)), (3, .int (nI i))], [.ref 29, .int (nI i)], gh S a b sc1 ar1 lo, ex, 0, 0)) rfl ?_
      refine to_get rfl rfl rfl rfl ?_
      refine to_n 1 (fr' := (40, [(0, .ref 33), (1, .ref 29), (2, .int (nI k)), (3, .int (nI i))], [.int (nI k), .ref 31, .int (nI i)], gh S a b sc1 ar1 lo, ex, 0, 0)) rfl ?_
      obtain ⟨n4, hn4, e4⟩ := iv_a31 hI1 k
      refine to_ialR (i := k) (v := (nI n4)) rfl (by decide) rfl (by omega) (by omega) e4 ?_
      refine to_nc_ge (t := 69) (x := i) (y := n4) rfl (by omega) (by omega) (fun q5 => ?_) (fun q5 => ?_)
      · exact to_rt (i := .return_) (tg := []) rfl rfl ⟨_, _, ⟨hI1, hF1⟩, rfl⟩
      · refine to_n 2 (fr' := (46, [(0, .ref 33), (1, .ref 29), (2, .int (nI k)), (3, .int (nI i))], [.ref 29, .int (nI i)], gh S a b sc1 ar1 lo, ex, 0, 0)) rfl ?_
        refine to_get rfl rfl rfl rfl ?_
        refine to_len rfl (by decide) rfl (by decide) ?_
        refine to_eq (fr' := (50, [(0, .ref 33), (1, .ref 29), (2, .int (nI k)), (3, .int (nI i))], [.int (nI 2400), .int (nI i)], gh S a b sc1 ar1 lo, ex, 0, 0)) rfl ?_
        refine to_nc_ge (t := 69) (x := i) (y := 2400) rfl (by omega) (by omega) (fun q6 => ?_) (fun q6 => ?_)
        · exact to_rt (i := .return_) (tg := []) rfl rfl ⟨_, _, ⟨hI1, hF1⟩, rfl⟩
        · refine to_n 2 (fr' := (55, [(0, .ref 33), (1, .ref 29), (2, .int (nI k)), (3, .int (nI i))], [.ref 29, .ref 33], gh S a b sc1 ar1 lo, ex, 0, 0)) rfl ?_
          refine to_get rfl rfl rfl rfl ?_
          refine to_n 1 (fr' := (59, [(0, .ref 33), (1, .ref 29), (2, .int (nI k)), (3, .int (nI i))], [.int (nI i), .ref 30, .ref 33], gh S a b sc1 ar1 lo, ex, 0, 0)) rfl ?_
          refine to_ialR (i := i) (v := ((ar1 30) i)) rfl (by decide) rfl (by omega) (by omega) rfl ?_
          refine to_cv (q := 32) (M1 := an_X3_take) (rest := []) rfl rfl (by decide) rfl ⟨_, rfl⟩ (sf_X3_take hW hI1 ((ar1 30) i) d) (fun sc7 ar7 hx7 => ?_)
          obtain ⟨hI7, hG7⟩ := hx7
          have hF7 := fr_t hF1 hG7 (by decide) (by decide)
          refine to_eq (fr' := (63, [(0, .ref 33), (1, .ref 29), (2, .int (nI k)), (3, .int (nI i))], [], gh S a b sc7 ar7 lo, ex, 0, 0)) rfl ?_
          refine to_n 1 (fr' := (66, [(0, .ref 33), (1, .ref 29), (2, .int (nI k)), (3, .int ((nI i) + 1))], [], gh S a b sc7 ar7 lo, ex, 0, 0)) rfl ?_
          rw [nI_1 i]
          refine to_n 1 (fr' := (34, [(0, .ref 33), (1, .ref 29), (2, .int (nI k)), (3, .int (nI (i + 1)))], [], gh S a b sc7 ar7 lo, ex, 0, 0)) rfl ?_
          exact ih k (i + 1) sc7 ar7 (by omega) (by omega) (by omega) hI7 hF7
  refine to_n 2 (fr' := (2, [(0, .ref 33), (1, .ref 29), (2, .int x1)], [.int 0, .ref 33], gh S a b sc ar lo, ex, 0, 0)) rfl ?_
  refine to_putR (h' := gh S a b (upd sc 3300 0) ar lo) rfl rfl rfl (Nat.le_of_ble_eq_true rfl) rfl rfl ?_
  have hI8 := ip_3300 (v := 0) hI (rl_n (n := 0) (by omega))
  have hF8 := fr_s (k := 3300) (v := 0) hF (by decide)
  refine to_n 2 (fr' := (7, [(0, .ref 33), (1, .ref 29), (2, .int x1)], [.int 0, .ref 33], gh S a b (upd sc 3300 0) ar lo, ex, 0, 0)) rfl ?_
  refine to_putR (h' := gh S a b (upd (upd sc 3300 0) 3301 0) ar lo) rfl rfl rfl (Nat.le_of_ble_eq_true rfl) rfl rfl ?_
  have hI9 := ip_3301 (v := 0) hI8 
  have hF9 := fr_s (k := 3301) (v := 0) hF8 (by decide)
  refine to_n 2 (fr' := (12, [(0, .ref 33), (1, .ref 29), (2, .int x1)], [.int 0, .ref 33], gh S a b (upd (upd sc 3300 0) 3301 0) ar lo, ex, 0, 0)) rfl ?_
  refine to_putR (h' := gh S a b (upd (upd (upd sc 3300 0) 3301 0) 3304 0) ar lo) rfl rfl rfl (Nat.le_of_ble_eq_true rfl) rfl rfl ?_
  have hI10 := ip_3304 (v := 0) hI9 (rl_n (n := 0) (by omega))
  have hF10 := fr_s (k := 3304) (v := 0) hF9 (by decide)
  refine to_n 1 (fr' := (16, [(0, .ref 33), (1, .ref 29), (2, .int x1)], [.int x1], gh S a b (upd (upd (upd sc 3300 0) 3301 0) 3304 0) ar lo, ex, 0, 0)) rfl ?_
  refine to_if_lt (t := 27) rfl (fun q11 => ?_) (fun q11 => ?_)
  · exact to_rt (i := .return_) (tg := []) rfl rfl ⟨_, _, ⟨hI10, hF10⟩, rfl⟩
  · obtain ⟨n12, hn12, e12⟩ := nI_of q11
    rw [e12]
    refine to_eq (fr' := (19, [(0, .ref 33), (1, .ref 29), (2, .int (nI n12))], [], gh S a b (upd (upd (upd sc 3300 0) 3301 0) 3304 0) ar lo, ex, 0, 0)) rfl ?_
    refine to_n 2 (fr' := (21, [(0, .ref 33), (1, .ref 29), (2, .int (nI n12))], [.ref 29, .int (nI n12)], gh S a b (upd (upd (upd sc 3300 0) 3301 0) 3304 0) ar lo, ex, 0, 0)) rfl ?_
    obtain ⟨n13, hn13, e13⟩ := iv_s2903 hI10
    refine to_getR (v := (nI n13)) rfl rfl rfl rfl e13 ?_
    refine to_nc_lt (t := 28) (x := n12) (y := n13) rfl (by omega) (by omega) (fun q14 => ?_) (fun q14 => ?_)
    · refine to_n 2 (fr' := (30, [(0, .ref 33), (1, .ref 29), (2, .int (nI n12))], [.int (nI n12), .ref 29], gh S a b (upd (upd (upd sc 3300 0) 3301 0) 3304 0) ar lo, ex, 0, 0)) rfl ?_
      refine to_cp (q := 38) (M1 := an_X4_begin) (rest := []) rfl rfl (by decide) rfl ⟨_, rfl⟩ (sf_X4_begin hW hI10 n12 (by omega) (d + 1)) (fun x15 hx15 => ?_)
      obtain ⟨n15, hn15, rfl⟩ := hx15
      refine to_eq (fr' := (33, [(0, .ref 33), (1, .ref 29), (2, .int (nI n12))], [.int (nI n15)], gh S a b (upd (upd (upd sc 3300 0) 3301 0) 3304 0) ar lo, ex, 0, 0)) rfl ?_
      refine to_n 1 (fr' := (34, [(0, .ref 33), (1, .ref 29), (2, .int (nI n12)), (3, .int (nI n15))], [], gh S a b (upd (upd (upd sc 3300 0) 3301 0) 3304 0) ar lo, ex, 0, 0)) rfl ?_
      exact c34 (2400 - n15) n12 n15 (upd (upd (upd sc 3300 0) 3301 0) 3304 0) ar (by omega) (by omega) (by omega) hI10 hF10
    · exact to_rt (i := .return_) (tg := []) rfl rfl ⟨_, _, ⟨hI10, hF10⟩, rfl⟩
