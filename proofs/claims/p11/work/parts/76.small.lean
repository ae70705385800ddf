/-! Crews, LawBook, Tape, Judge -/
def fz_ (x1 x2 x3 x4 x5 : Int32) (m : Nat) : Int32 := (if m < 4 then x1 else if m < 8 then x2 else if m < 12 then x3 else if m < 16 then x4 else x5) >>> ((if m % 4 = 0 then 24 else if m % 4 = 1 then 16 else if m % 4 = 2 then 8 else 0) &&& 31)
theorem al_20 {P : Nat → Prop} (h0 : P 0) (h1 : P 1) (h2 : P 2) (h3 : P 3) (h4 : P 4) (h5 : P 5) (h6 : P 6) (h7 : P 7) (h8 : P 8) (h9 : P 9) (h10 : P 10) (h11 : P 11) (h12 : P 12) (h13 : P 13) (h14 : P 14) (h15 : P 15) (h16 : P 16) (h17 : P 17) (h18 : P 18) (h19 : P 19) : ∀ m, m < 20 → P m
  | 0, _ => h0
  | 1, _ => h1
  | 2, _ => h2
  | 3, _ => h3
  | 4, _ => h4
  | 5, _ => h5
  | 6, _ => h6
  | 7, _ => h7
  | 8, _ => h8
  | 9, _ => h9
  | 10, _ => h10
  | 11, _ => h11
  | 12, _ => h12
  | 13, _ => h13
  | 14, _ => h14
  | 15, _ => h15
  | 16, _ => h16
  | 17, _ => h17
  | 18, _ => h18
  | 19, _ => h19
  | n + 20, h => absurd h (by omega)
theorem ug_eq {f : Nat → Int32} {i : Nat} {v : Int32} : upd f i v i = v := if_pos rfl
theorem ug_ne {f : Nat → Int32} {i j : Nat} {v : Int32} (h : ¬ j = i) : upd f i v j = f j := if_neg h
/-! what company and feed answer, exactly -/
def co_W (x1 x2 : Int32) : Prop := (0 ≤ x1 ∧ x1 ≤ 7) ∧ 1 ≤ x2 ∧ x2 ≤ 9
def co_E (k : Nat) (x : Int32) (sc sc' : Nat → Int32) : Prop := ∃ s : Nat, s ≤ 8 ∧ sc k = nI s ∧ ((s < 8 ∧ x = nI s ∧ sc' k = nI (s + 1)) ∨ (¬ s < 8 ∧ x = -1 ∧ sc' k = sc k))
def co_P (k : Nat) (x1 x2 x : Int32) (sc sc' : Nat → Int32) : Prop := ∃ s : Nat, s ≤ 8 ∧ sc k = nI s ∧ ((co_W x1 x2 ∧ s < 8 ∧ x = nI s ∧ sc' k = nI (s + 1)) ∨ (¬ (co_W x1 x2 ∧ s < 8) ∧ x = -1 ∧ sc' k = sc k))
theorem co_eq {k k' : Nat} {x1 x2 x y : Int32} {sc sc' tc tc' : Nat → Int32} (h : co_P k x1 x2 x sc sc') (g : co_P k' x1 x2 y tc tc') (e : tc k' = sc k) : y = x ∧ sc' k = tc' k' := by
  obtain ⟨s, hs, es, h⟩ := h
  obtain ⟨r, hr, er, g⟩ := g
  obtain rfl : s = r := (nI_eq (by omega) (by omega)).mp (es.symm.trans (e.symm.trans er))
  rcases h with ⟨a1, a2, a3, a4⟩ | ⟨a1, a2, a3⟩
  · rcases g with ⟨b1, b2, b3, b4⟩ | ⟨b1, b2, b3⟩
    · exact ⟨b3.trans a3.symm, a4.trans b4.symm⟩
    · exact absurd ⟨a1, a2⟩ b1
  · rcases g with ⟨b1, b2, b3, b4⟩ | ⟨b1, b2, b3⟩
    · exact absurd ⟨b1, b2⟩ a1
    · exact ⟨b2.trans a2.symm, a3.trans (e.symm.trans b3.symm)⟩
theorem co_en {k : Nat} {x1 x2 x : Int32} {sc sc' : Nat → Int32} (w : co_W x1 x2) (h : co_E k x sc sc') : co_P k x1 x2 x sc sc' := by
  obtain ⟨s, h1, h2, h3⟩ := h
  exact ⟨s, h1, h2, h3.imp (fun u => ⟨w, u⟩) (fun u => ⟨fun v => u.1 v.2, u.2⟩)⟩
theorem co_no {k s : Nat} {x1 x2 : Int32} {sc : Nat → Int32} (hs : s ≤ 8) (es : sc k = nI s) (w : ¬ co_W x1 x2) : co_P k x1 x2 (-1) sc sc := ⟨s, hs, es, Or.inr ⟨fun v => w v.1, rfl, rfl⟩⟩
theorem iw_0 {n : Nat} {A : Prop} (h : (nI n = 1 ∧ A) ∨ (nI n = 0 ∧ ¬ A)) (e : n = 0) : ¬ A := by
  subst e
  rcases h with ⟨h, _⟩ | ⟨_, w⟩
  · exact absurd h (by decide)
  · exact w
theorem iw_1 {n : Nat} {A : Prop} (h : (nI n = 1 ∧ A) ∨ (nI n = 0 ∧ ¬ A)) (e : ¬ n = 0) (hn : n < 2) : A := by
  obtain rfl : n = 1 := by omega
  rcases h with ⟨_, w⟩ | ⟨h, _⟩
  · exact w
  · exact absurd h (by decide)
theorem has_in {n B : Nat} (h : n < B) (hB : B < 2 ^ 31) : 0 ≤ nI n ∧ nI n < nI B := ⟨nI_pos' (by omega), (nI_ltI (by omega) hB).mpr h⟩
def fe_P (k : Nat) (x : Int32) (sc sc' : Nat → Int32) : Prop := ∃ s : Nat, s ≤ 400 ∧ sc k = nI s ∧ ((s + 20 ≤ 400 ∧ x = nI (s + 20) ∧ sc' k = nI (s + 20)) ∨ (¬ s + 20 ≤ 400 ∧ x = -1 ∧ sc' k = sc k))
theorem fe_eq {k k' : Nat} {x y : Int32} {sc sc' tc tc' : Nat → Int32} (h : fe_P k x sc sc') (g : fe_P k' y tc tc') (e : tc k' = sc k) : y = x ∧ sc' k = tc' k' := by
  obtain ⟨s, hs, es, h⟩ := h
  obtain ⟨r, hr, er, g⟩ := g
  obtain rfl : s = r := (nI_eq (by omega) (by omega)).mp (es.symm.trans (e.symm.trans er))
  rcases h with ⟨a1, a3, a4⟩ | ⟨a1, a2, a3⟩
  · rcases g with ⟨b1, b3, b4⟩ | ⟨b1, b2, b3⟩
    · exact ⟨b3.trans a3.symm, a4.trans b4.symm⟩
    · exact absurd a1 b1
  · rcases g with ⟨b1, b3, b4⟩ | ⟨b1, b2, b3⟩
    · exact absurd b1 a1
    · exact ⟨b2.trans a2.symm, a3.trans (e.symm.trans b3.symm)⟩
set_option maxRecDepth 20000 in
theorem sf_X1_enlist {X : Nat × (Nat → Int32)} {S a b : Nat} {sc : Nat → Int32} {ar : Nat → Nat → Int32} {lo : Nat → Int64} {ex : Bool} (hW : Wd S a b) (hI : Iv S sc ar) (x1 : Int32) (x2 : Int32) (k1 : Nat) (hk1 : k1 < S) (d : Nat)  : ci X S a b (d + 1) 15 [.ref 13, .int x1, .int x2, .int (nI k1)] sc ar lo ex (fun x sc' ar' => Iv S sc' ar' ∧ Fr [1308] [14, 15, 16, 17] sc ar sc' ar' ∧ rq x 8 ∧ (co_E 1308 x sc sc' ∧ zen 1308 14 15 16 17 x1 x2 (nI k1) x sc sc' ar ar')) := by
  obtain ⟨ha1, ha8, hb1, hb8, hab, hS1, hS⟩ := id hW
  obtain ⟨s0, hs0, es0⟩ := iv_s1308 hI
  refine ci_of (M := an_X1_enlist) rfl (Nat.le_of_ble_eq_true rfl) ?_
  have hF : Fr [1308] [14, 15, 16, 17] sc ar sc ar := fr_0
  refine to_eq (fr' := (0, [(0, .ref 13), (1, .int x1), (2, .int x2), (3, .int (nI k1))], [], gh S a b sc ar lo, ex, 0, 0)) rfl ?_
  refine to_n 1 (fr' := (1, [(0, .ref 13), (1, .int x1), (2, .int x2), (3, .int (nI k1))], [.ref 13], gh S a b sc ar lo, ex, 0, 0)) rfl ?_
  refine to_getR (v := (nI s0)) rfl rfl rfl rfl es0 ?_
  refine to_n 1 (fr' := (6, [(0, .ref 13), (1, .int x1), (2, .int x2), (3, .int (nI k1))], [.int 8, .int (nI s0)], gh S a b sc ar lo, ex, 0, 0)) rfl ?_
  refine to_nc_lt (t := 11) (x := s0) (y := 8) rfl (by omega) (by omega) (fun q1 => ?_) (fun q1 => ?_)
  · refine to_n 1 (fr' := (12, [(0, .ref 13), (1, .int x1), (2, .int x2), (3, .int (nI k1))], [.ref 13], gh S a b sc ar lo, ex, 0, 0)) rfl ?_
    refine to_get rfl rfl rfl rfl ?_
    refine to_n 1 (fr' := (16, [(0, .ref 13), (1, .int x1), (2, .int x2), (3, .int (nI k1))], [.ref 13, .ref 14], gh S a b sc ar lo, ex, 0, 0)) rfl ?_
    refine to_getR (v := (nI s0)) rfl rfl rfl rfl es0 ?_
    refine to_n 1 (fr' := (20, [(0, .ref 13), (1, .int x1), (2, .int x2), (3, .int (nI k1))], [.int x1, .int (nI s0), .ref 14], gh S a b sc ar lo, ex, 0, 0)) rfl ?_
    refine to_iasR (i := s0) (h' := gh S a b sc (uA ar 14 (upd (ar 14) s0 x1)) lo) rfl rfl (by omega) (by omega) rfl ?_
    have hI2 := ia_14 (g := (upd (ar 14) s0 x1)) hI
    have hF2 := fr_a (c := 14) (g := (upd (ar 14) s0 x1)) hF (by decide)
    refine to_n 1 (fr' := (22, [(0, .ref 13), (1, .int x1), (2, .int x2), (3, .int (nI k1))], [.ref 13], gh S a b sc (uA ar 14 (upd (ar 14) s0 x1)) lo, ex, 0, 0)) rfl ?_
    refine to_get rfl rfl rfl rfl ?_
    refine to_n 1 (fr' := (26, [(0, .ref 13), (1, .int x1), (2, .int x2), (3, .int (nI k1))], [.ref 13, .ref 15], gh S a b sc (uA ar 14 (upd (ar 14) s0 x1)) lo, ex, 0, 0)) rfl ?_
    refine to_getR (v := (nI s0)) rfl rfl rfl rfl es0 ?_
    refine to_n 1 (fr' := (30, [(0, .ref 13), (1, .int x1), (2, .int x2), (3, .int (nI k1))], [.int x2, .int (nI s0), .ref 15], gh S a b sc (uA ar 14 (upd (ar 14) s0 x1)) lo, ex, 0, 0)) rfl ?_
    refine to_iasR (i := s0) (h' := gh S a b sc (uA (uA ar 14 (upd (ar 14) s0 x1)) 15 (upd ((uA ar 14 (upd (ar 14) s0 x1)) 15) s0 x2)) lo) rfl rfl (by omega) (by omega) rfl ?_
    have hI3 := ia_15 (g := (upd ((uA ar 14 (upd (ar 14) s0 x1)) 15) s0 x2)) hI2
    have hF3 := fr_a (c := 15) (g := (upd ((uA ar 14 (upd (ar 14) s0 x1)) 15) s0 x2)) hF2 (by decide)
    refine to_n 1 (fr' := (32, [(0, .ref 13), (1, .int x1), (2, .int x2), (3, .int (nI k1))], [.ref 13], gh S a b sc (uA (uA ar 14 (upd (ar 14) s0 x1)) 15 (upd ((uA ar 14 (upd (ar 14) s0 x1)) 15) s0 x2)) lo, ex, 0, 0)) rfl ?_
    refine to_get rfl rfl rfl rfl ?_
    refine to_n 1 (fr' := (36, [(0, .ref 13), (1, .int x1), (2, .int x2), (3, .int (nI k1))], [.ref 13, .ref 16], gh S a b sc (uA (uA ar 14 (upd (ar 14) s0 x1)) 15 (upd ((uA ar 14 (upd (ar 14) s0 x1)) 15) s0 x2)) lo, ex, 0, 0)) rfl ?_
    refine to_getR (v := (nI s0)) rfl rfl rfl rfl es0 ?_
    refine to_n 1 (fr' := (40, [(0, .ref 13), (1, .int x1), (2, .int x2), (3, .int (nI k1))], [.int (nI k1), .int (nI s0), .ref 16], gh S a b sc (uA (uA ar 14 (upd (ar 14) s0 x1)) 15 (upd ((uA ar 14 (upd (ar 14) s0 x1)) 15) s0 x2)) lo, ex, 0, 0)) rfl ?_
    refine to_iasR (i := s0) (h' := gh S a b sc (uA (uA (uA ar 14 (upd (ar 14) s0 x1)) 15 (upd ((uA ar 14 (upd (ar 14) s0 x1)) 15) s0 x2)) 16 (upd ((uA (uA ar 14 (upd (ar 14) s0 x1)) 15 (upd ((uA ar 14 (upd (ar 14) s0 x1)) 15) s0 x2)) 16) s0 (nI k1))) lo) rfl rfl (by omega) (by omega) rfl ?_
    have hI4 := ia_16 (i := s0) (v := (nI k1)) hI3 (rl_n (n := k1) (by omega))
    have hF4 := fr_a (c := 16) (g := (upd ((uA (uA ar 14 (upd (ar 14) s0 x1)) 15 (upd ((uA ar 14 (upd (ar 14) s0 x1)) 15) s0 x2)) 16) s0 (nI k1))) hF3 (by decide)
    refine to_n 1 (fr' := (42, [(0, .ref 13), (1, .int x1), (2, .int x2), (3, .int (nI k1))], [.ref 13], gh S a b sc (uA (uA (uA ar 14 (upd (ar 14) s0 x1)) 15 (upd ((uA ar 14 (upd (ar 14) s0 x1)) 15) s0 x2)) 16 (upd ((uA (uA ar 14 (upd (ar 14) s0 x1)) 15 (upd ((uA ar 14 (upd (ar 14) s0 x1)) 15) s0 x2)) 16) s0 (nI k1))) lo, ex, 0, 0)) rfl ?_
    refine to_get rfl rfl rfl rfl ?_
    refine to_n 1 (fr' := (46, [(0, .ref 13), (1, .int x1), (2, .int x2), (3, .int (nI k1))], [.ref 13, .ref 17], gh S a b sc (uA (uA (uA ar 14 (upd (ar 14) s0 x1)) 15 (upd ((uA ar 14 (upd (ar 14) s0 x1)) 15) s0 x2)) 16 (upd ((uA (uA ar 14 (upd (ar 14) s0 x1)) 15 (upd ((uA ar 14 (upd (ar 14) s0 x1)) 15) s0 x2)) 16) s0 (nI k1))) lo, ex, 0, 0)) rfl ?_
    refine to_getR (v := (nI s0)) rfl rfl rfl rfl es0 ?_
    refine to_n 1 (fr' := (50, [(0, .ref 13), (1, .int x1), (2, .int x2), (3, .int (nI k1))], [.int (-1), .int (nI s0), .ref 17], gh S a b sc (uA (uA (uA ar 14 (upd (ar 14) s0 x1)) 15 (upd ((uA ar 14 (upd (ar 14) s0 x1)) 15) s0 x2)) 16 (upd ((uA (uA ar 14 (upd (ar 14) s0 x1)) 15 (upd ((uA ar 14 (upd (ar 14) s0 x1)) 15) s0 x2)) 16) s0 (nI k1))) lo, ex, 0, 0)) rfl ?_
    refine to_iasR (i := s0) (h' := gh S a b sc (uA (uA (uA (uA ar 14 (upd (ar 14) s0 x1)) 15 (upd ((uA ar 14 (upd (ar 14) s0 x1)) 15) s0 x2)) 16 (upd ((uA (uA ar 14 (upd (ar 14) s0 x1)) 15 (upd ((uA ar 14 (upd (ar 14) s0 x1)) 15) s0 x2)) 16) s0 (nI k1))) 17 (upd ((uA (uA (uA ar 14 (upd (ar 14) s0 x1)) 15 (upd ((uA ar 14 (upd (ar 14) s0 x1)) 15) s0 x2)) 16 (upd ((uA (uA ar 14 (upd (ar 14) s0 x1)) 15 (upd ((uA ar 14 (upd (ar 14) s0 x1)) 15) s0 x2)) 16) s0 (nI k1))) 17) s0 (-1))) lo) rfl rfl (by omega) (by omega) rfl ?_
    have hI5 := ia_17 (i := s0) (v := (-1)) hI4 (rq_m)
    have hF5 := fr_a (c := 17) (g := (upd ((uA (uA (uA ar 14 (upd (ar 14) s0 x1)) 15 (upd ((uA ar 14 (upd (ar 14) s0 x1)) 15) s0 x2)) 16 (upd ((uA (uA ar 14 (upd (ar 14) s0 x1)) 15 (upd ((uA ar 14 (upd (ar 14) s0 x1)) 15) s0 x2)) 16) s0 (nI k1))) 17) s0 (-1))) hF4 (by decide)
    refine to_n 2 (fr' := (53, [(0, .ref 13), (1, .int x1), (2, .int x2), (3, .int (nI k1))], [.ref 13, .ref 13], gh S a b sc (uA (uA (uA (uA ar 14 (upd (ar 14) s0 x1)) 15 (upd ((uA ar 14 (upd (ar 14) s0 x1)) 15) s0 x2)) 16 (upd ((uA (uA ar 14 (upd (ar 14) s0 x1)) 15 (upd ((uA ar 14 (upd (ar 14) s0 x1)) 15) s0 x2)) 16) s0 (nI k1))) 17 (upd ((uA (uA (uA ar 14 (upd (ar 14) s0 x1)) 15 (upd ((uA ar 14 (upd (ar 14) s0 x1)) 15) s0 x2)) 16 (upd ((uA (uA ar 14 (upd (ar 14) s0 x1)) 15 (upd ((uA ar 14 (upd (ar 14) s0 x1)) 15) s0 x2)) 16) s0 (nI k1))) 17) s0 (-1))) lo, ex, 0, 0)) rfl ?_
    refine to_getR (v := (nI s0)) rfl rfl rfl rfl es0 ?_
    refine to_n 1 (fr' := (57, [(0, .ref 13), (1, .int x1), (2, .int x2), (3, .int (nI k1))], [.int 1, .int (nI s0), .ref 13], gh S a b sc (uA (uA (uA (uA ar 14 (upd (ar 14) s0 x1)) 15 (upd ((uA ar 14 (upd (ar 14) s0 x1)) 15) s0 x2)) 16 (upd ((uA (uA ar 14 (upd (ar 14) s0 x1)) 15 (upd ((uA ar 14 (upd (ar 14) s0 x1)) 15) s0 x2)) 16) s0 (nI k1))) 17 (upd ((uA (uA (uA ar 14 (upd (ar 14) s0 x1)) 15 (upd ((uA ar 14 (upd (ar 14) s0 x1)) 15) s0 x2)) 16 (upd ((uA (uA ar 14 (upd (ar 14) s0 x1)) 15 (upd ((uA ar 14 (upd (ar 14) s0 x1)) 15) s0 x2)) 16) s0 (nI k1))) 17) s0 (-1))) lo, ex, 0, 0)) rfl ?_
    refine to_addN (x := s0) (y := 1) rfl ?_
    refine to_putR (h' := gh S a b (upd sc 1308 (nI (s0 + 1))) (uA (uA (uA (uA ar 14 (upd (ar 14) s0 x1)) 15 (upd ((uA ar 14 (upd (ar 14) s0 x1)) 15) s0 x2)) 16 (upd ((uA (uA ar 14 (upd (ar 14) s0 x1)) 15 (upd ((uA ar 14 (upd (ar 14) s0 x1)) 15) s0 x2)) 16) s0 (nI k1))) 17 (upd ((uA (uA (uA ar 14 (upd (ar 14) s0 x1)) 15 (upd ((uA ar 14 (upd (ar 14) s0 x1)) 15) s0 x2)) 16 (upd ((uA (uA ar 14 (upd (ar 14) s0 x1)) 15 (upd ((uA ar 14 (upd (ar 14) s0 x1)) 15) s0 x2)) 16) s0 (nI k1))) 17) s0 (-1))) lo) rfl rfl rfl (Nat.le_of_ble_eq_true rfl) rfl rfl ?_
    have hI6 := ip_1308 (v := (nI (s0 + 1))) hI5 (rl_n (n := (s0 + 1)) (by omega))
    have hF6 := fr_s (k := 1308) (v := (nI (s0 + 1))) hF5 (by decide)
    refine to_n 1 (fr' := (62, [(0, .ref 13), (1, .int x1), (2, .int x2), (3, .int (nI k1))], [.ref 13], gh S a b (upd sc 1308 (nI (s0 + 1))) (uA (uA (uA (uA ar 14 (upd (ar 14) s0 x1)) 15 (upd ((uA ar 14 (upd (ar 14) s0 x1)) 15) s0 x2)) 16 (upd ((uA (uA ar 14 (upd (ar 14) s0 x1)) 15 (upd ((uA ar 14 (upd (ar 14) s0 x1)) 15) s0 x2)) 16) s0 (nI k1))) 17 (upd ((uA (uA (uA ar 14 (upd (ar 14) s0 x1)) 15 (upd ((uA ar 14 (upd (ar 14) s0 x1)) 15) s0 x2)) 16 (upd ((uA (uA ar 14 (upd (ar 14) s0 x1)) 15 (upd ((uA ar 14 (upd (ar 14) s0 x1)) 15) s0 x2)) 16) s0 (nI k1))) 17) s0 (-1))) lo, ex, 0, 0)) rfl ?_
    refine to_getR (v := (nI (s0 + 1))) rfl rfl rfl rfl rfl ?_
    refine to_n 1 (fr' := (66, [(0, .ref 13), (1, .int x1), (2, .int x2), (3, .int (nI k1))], [.int 1, .int (nI (s0 + 1))], gh S a b (upd sc 1308 (nI (s0 + 1))) (uA (uA (uA (uA ar 14 (upd (ar 14) s0 x1)) 15 (upd ((uA ar 14 (upd (ar 14) s0 x1)) 15) s0 x2)) 16 (upd ((uA (uA ar 14 (upd (ar 14) s0 x1)) 15 (upd ((uA ar 14 (upd (ar 14) s0 x1)) 15) s0 x2)) 16) s0 (nI k1))) 17 (upd ((uA (uA (uA ar 14 (upd (ar 14) s0 x1)) 15 (upd ((uA ar 14 (upd (ar 14) s0 x1)) 15) s0 x2)) 16 (upd ((uA (uA ar 14 (upd (ar 14) s0 x1)) 15 (upd ((uA ar 14 (upd (ar 14) s0 x1)) 15) s0 x2)) 16) s0 (nI k1))) 17) s0 (-1))) lo, ex, 0, 0)) rfl ?_
    refine to_subN (x := (s0 + 1)) (y := 1) rfl (by omega) ?_
    exact to_rt (i := .ireturn) (tg := []) rfl rfl ⟨_, _, _, ⟨hI6, hF6, ⟨rq_n (n := ((s0 + 1) - 1)) (by omega), ⟨⟨s0, by omega, es0, Or.inl ⟨by omega, by exact congrArg nI (by omega), rfl⟩⟩, Or.inr ⟨s0, by omega, es0, by exact congrArg nI (by omega), rfl, rfl, rfl, rfl, rfl⟩⟩⟩⟩, rfl⟩
  · refine to_n 1 (fr' := (10, [(0, .ref 13), (1, .int x1), (2, .int x2), (3, .int (nI k1))], [.int (-1)], gh S a b sc ar lo, ex, 0, 0)) rfl ?_
    exact to_rt (i := .ireturn) (tg := []) rfl rfl ⟨_, _, _, ⟨hI, hF, ⟨rq_m, ⟨⟨s0, by omega, es0, Or.inr ⟨by omega, rfl, rfl⟩⟩, Or.inl ⟨rfl, rfl, rfl, rfl, rfl, rfl⟩⟩⟩⟩, rfl⟩
set_option maxRecDepth 20000 in
theorem sf_X1_forget {X : Nat × (Nat → Int32)} {S a b : Nat} {sc : Nat → Int32} {ar : Nat → Nat → Int32} {lo : Nat → Int64} {ex : Bool} (hW : Wd S a b) (hI : Iv S sc ar) (n : Nat) (enb : n < 9) (x1 : Int32) (en : sc 1308 = nI n) (d : Nat)  : cv X S a b (d + 1) 16 [.ref 13, .int x1] sc ar lo ex (fun sc' ar' => Iv S sc' ar' ∧ Fr [] [17, 18] sc ar sc' ar' ∧ (ar' 17 = fgl n x1 (ar 17) ∧ ar' 18 = fgp n x1 (ar 17) (ar 18))) := by
  obtain ⟨ha1, ha8, hb1, hb8, hab, hS1, hS⟩ := id hW
  refine cv_of (M := an_X1_forget) rfl (Nat.le_of_ble_eq_true rfl) ?_
  have hF : Fr [] [17, 18] sc ar sc ar := fr_0
  refine to_eq (fr' := (0, [(0, .ref 13), (1, .int x1)], [], gh S a b sc ar lo, ex, 0, 0)) rfl ?_
  have c2 : ∀ m : Nat, ∀ (i : Nat) (sc1 : Nat → Int32) (ar1 : Nat → Nat → Int32), i + m = n → ar1 17 = fgl i x1 (ar 17) → ar1 18 = fgp i x1 (ar 17) (ar 18) → Iv S sc1 ar1 → Fr [] [17, 18] sc ar sc1 ar1 → ag_To X d an_X1_forget (2, [(0, .ref 13), (1, .int x1), (2, .int (nI i))], [], gh S a b sc1 ar1 lo, ex, 0, 0) (qv S a b lo ex (fun sc' ar' => Iv S sc' ar' ∧ Fr [] [17, 18] sc ar sc' ar' ∧ (ar' 17 = fgl n x1 (ar 17) ∧ ar' 18 = fgp n x1 (ar 17) (ar 18)))) := by
    intro m
    induction m with
    | zero =>
      intro i sc1 ar1 hm hc2_0 hc2_1 hI1 hF1
      refine to_n 2 (fr' := (4, [(0, .ref 13), (1, .int x1), (2, .int (nI i))], [.ref 13, .int (nI i)], gh S a b sc1 ar1 lo, ex, 0, 0)) rfl ?_
      refine to_getR (v := (nI n)) rfl rfl rfl rfl ((hF1.1 1308 (by decide)).trans en) ?_
      refine to_nc_ge_T (t := 40) (x := i) (y := n) rfl (by omega) (by omega) (by omega) ?_
      exact to_rt (i := .return_) (tg := []) rfl rfl ⟨_, _, ⟨hI1, hF1, ⟨(by rw [show n = i by omega]; exact hc2_0), (by rw [show n = i by omega]; exact hc2_1)⟩⟩, rfl⟩
    | succ m ih =>
      intro i sc1 ar1 hm hc2_0 hc2_1 hI1 hF1
      refine to_n 2 (fr' := (4, [(0, .ref 13), (1, .int x1), (2, .int (nI i))], [.ref 13, .int (nI i)], gh S a b sc1 ar1 lo, ex, 0, 0)) rfl ?_
      refine to_getR (v := (nI n)) rfl rfl rfl rfl ((hF1.1 1308 (by decide)).trans en) ?_
      refine to_nc_ge_F (t := 40) (x := i) (y := n) rfl (by omega) (by omega) (by omega) ?_
      refine to_n 1 (fr' := (11, [(0, .ref 13), (1, .int x1), (2, .int (nI i))], [.ref 13], gh S a b sc1 ar1 lo, ex, 0, 0)) rfl ?_
      refine to_get rfl rfl rfl rfl ?_
      refine to_n 1 (fr' := (15, [(0, .ref 13), (1, .int x1), (2, .int (nI i))], [.int (nI i), .ref 17], gh S a b sc1 ar1 lo, ex, 0, 0)) rfl ?_
      rcases iv_a17 hI1 i with e2 | ⟨n2, hn2, e2⟩
      · refine to_ialR (i := i) (v := (-1)) rfl (by decide) rfl (by omega) (by omega) e2 ?_
        refine to_n 1 (fr' := (17, [(0, .ref 13), (1, .int x1), (2, .int (nI i))], [.int x1, .int (-1)], gh S a b sc1 ar1 lo, ex, 0, 0)) rfl ?_
        refine to_ic_ne (t := 34) rfl (fun q3 => ?_) (fun q3 => ?_)
        · refine to_n 1 (fr' := (37, [(0, .ref 13), (1, .int x1), (2, .int ((nI i) + 1))], [], gh S a b sc1 ar1 lo, ex, 0, 0)) rfl ?_
          rw [nI_1 i]
          refine to_n 1 (fr' := (2, [(0, .ref 13), (1, .int x1), (2, .int (nI (i + 1)))], [], gh S a b sc1 ar1 lo, ex, 0, 0)) rfl ?_
          exact ih (i + 1) sc1 ar1 (by omega) (fgl_n hc2_0 (fun w => q3 (e2.symm.trans w))) (fgp_n hc2_0 hc2_1 (fun w => q3 (e2.symm.trans w))) hI1 hF1
        · refine to_n 1 (fr' := (21, [(0, .ref 13), (1, .int x1), (2, .int (nI i))], [.ref 13], gh S a b sc1 ar1 lo, ex, 0, 0)) rfl ?_
          refine to_get rfl rfl rfl rfl ?_
          refine to_n 2 (fr' := (26, [(0, .ref 13), (1, .int x1), (2, .int (nI i))], [.int (-1), .int (nI i), .ref 17], gh S a b sc1 ar1 lo, ex, 0, 0)) rfl ?_
          refine to_iasR (i := i) (h' := gh S a b sc1 (uA ar1 17 (upd (ar1 17) i (-1))) lo) rfl rfl (by omega) (by omega) rfl ?_
          have hI4 := ia_17 (i := i) (v := (-1)) hI1 (rq_m)
          have hF4 := fr_a (c := 17) (g := (upd (ar1 17) i (-1))) hF1 (by decide)
          refine to_n 1 (fr' := (28, [(0, .ref 13), (1, .int x1), (2, .int (nI i))], [.ref 13], gh S a b sc1 (uA ar1 17 (upd (ar1 17) i (-1))) lo, ex, 0, 0)) rfl ?_
          refine to_get rfl rfl rfl rfl ?_
          refine to_n 2 (fr' := (33, [(0, .ref 13), (1, .int x1), (2, .int (nI i))], [.int 0, .int (nI i), .ref 18], gh S a b sc1 (uA ar1 17 (upd (ar1 17) i (-1))) lo, ex, 0, 0)) rfl ?_
          refine to_zasR (i := i) (h' := gh S a b sc1 (uA (uA ar1 17 (upd (ar1 17) i (-1))) 18 (upd ((uA ar1 17 (upd (ar1 17) i (-1))) 18) i (vp_nar .boolean 0))) lo) rfl rfl (by omega) (by omega) rfl ?_
          have hI5 := ia_18 (g := (upd ((uA ar1 17 (upd (ar1 17) i (-1))) 18) i (vp_nar .boolean 0))) hI4
          have hF5 := fr_a (c := 18) (g := (upd ((uA ar1 17 (upd (ar1 17) i (-1))) 18) i (vp_nar .boolean 0))) hF4 (by decide)
          refine to_n 1 (fr' := (37, [(0, .ref 13), (1, .int x1), (2, .int ((nI i) + 1))], [], gh S a b sc1 (uA (uA ar1 17 (upd (ar1 17) i (-1))) 18 (upd ((uA ar1 17 (upd (ar1 17) i (-1))) 18) i (vp_nar .boolean 0))) lo, ex, 0, 0)) rfl ?_
          rw [nI_1 i]
          refine to_n 1 (fr' := (2, [(0, .ref 13), (1, .int x1), (2, .int (nI (i + 1)))], [], gh S a b sc1 (uA (uA ar1 17 (upd (ar1 17) i (-1))) 18 (upd ((uA ar1 17 (upd (ar1 17) i (-1))) 18) i (vp_nar .boolean 0))) lo, ex, 0, 0)) rfl ?_
          exact ih (i + 1) sc1 (uA (uA ar1 17 (upd (ar1 17) i (-1))) 18 (upd ((uA ar1 17 (upd (ar1 17) i (-1))) 18) i (vp_nar .boolean 0))) (by omega) (fgl_y hc2_0 (e2.trans q3)) (fgp_y hc2_0 hc2_1 (e2.trans q3)) hI5 hF5
      · refine to_ialR (i := i) (v := (nI n2)) rfl (by decide) rfl (by omega) (by omega) e2 ?_
        refine to_n 1 (fr' := (17, [(0, .ref 13), (1, .int x1), (2, .int (nI i))], [.int x1, .int (nI n2)], gh S a b sc1 ar1 lo, ex, 0, 0)) rfl ?_
        refine to_ic_ne (t := 34) rfl (fun q6 => ?_) (fun q6 => ?_)
        · refine to_n 1 (fr' := (37, [(0, .ref 13), (1, .int x1), (2, .int ((nI i) + 1))], [], gh S a b sc1 ar1 lo, ex, 0, 0)) rfl ?_
          rw [nI_1 i]
          refine to_n 1 (fr' := (2, [(0, .ref 13), (1, .int x1), (2, .int (nI (i + 1)))], [], gh S a b sc1 ar1 lo, ex, 0, 0)) rfl ?_
          exact ih (i + 1) sc1 ar1 (by omega) (fgl_n hc2_0 (fun w => q6 (e2.symm.trans w))) (fgp_n hc2_0 hc2_1 (fun w => q6 (e2.symm.trans w))) hI1 hF1
        · refine to_n 1 (fr' := (21, [(0, .ref 13), (1, .int x1), (2, .int (nI i))], [.ref 13], gh S a b sc1 ar1 lo, ex, 0, 0)) rfl ?_
          refine to_get rfl rfl rfl rfl ?_
          refine to_n 2 (fr' := (26, [(0, .ref 13), (1, .int x1), (2, .int (nI i))], [.int (-1), .int (nI i), .ref 17], gh S a b sc1 ar1 lo, ex, 0, 0)) rfl ?_
          refine to_iasR (i := i) (h' := gh S a b sc1 (uA ar1 17 (upd (ar1 17) i (-1))) lo) rfl rfl (by omega) (by omega) rfl ?_
          have hI7 := ia_17 (i := i) (v := (-1)) hI1 (rq_m)
          have hF7 := fr_a (c := 17) (g := (upd (ar1 17) i (-1))) hF1 (by decide)
          refine to_n 1 (fr' := (28, [(0, .ref 13), (1, .int x1), (2, .int (nI i))], [.ref 13], gh S a b sc1 (uA ar1 17 (upd (ar1 17) i (-1))) lo, ex, 0, 0)) rfl ?_
          refine to_get rfl rfl rfl rfl ?_
          refine to_n 2 (fr' := (33, [(0, .ref 13), (1, .int x1), (2, .int (nI i))], [.int 0, .int (nI i), .ref 18], gh S a b sc1 (uA ar1 17 (upd (ar1 17) i (-1))) lo, ex, 0, 0)) rfl ?_
          refine to_zasR (i := i) (h' := gh S a b sc1 (uA (uA ar1 17 (upd (ar1 17) i (-1))) 18 (upd ((uA ar1 17 (upd (ar1 17) i (-1))) 18) i (vp_nar .boolean 0))) lo) rfl rfl (by omega) (by omega) rfl ?_
          have hI8 := ia_18 (g := (upd ((uA ar1 17 (upd (ar1 17) i (-1))) 18) i (vp_nar .boolean 0))) hI7
          have hF8 := fr_a (c := 18) (g := (upd ((uA ar1 17 (upd (ar1 17) i (-1))) 18) i (vp_nar .boolean 0))) hF7 (by decide)
          refine to_n 1 (fr' := (37, [(0, .ref 13), (1, .int x1), (2, .int ((nI i) + 1))], [], gh S a b sc1 (uA (uA ar1 17 (upd (ar1 17) i (-1))) 18 (upd ((uA ar1 17 (upd (ar1 17) i (-1))) 18) i (vp_nar .boolean 0))) lo, ex, 0, 0)) rfl ?_
          rw [nI_1 i]
          refine to_n 1 (fr' := (2, [(0, .ref 13), (1, .int x1), (2, .int (nI (i + 1)))], [], gh S a b sc1 (uA (uA ar1 17 (upd (ar1 17) i (-1))) 18 (upd ((uA ar1 17 (upd (ar1 17) i (-1))) 18) i (vp_nar .boolean 0))) lo, ex, 0, 0)) rfl ?_
          exact ih (i + 1) sc1 (uA (uA ar1 17 (upd (ar1 17) i (-1))) 18 (upd ((uA ar1 17 (upd (ar1 17) i (-1))) 18) i (vp_nar .boolean 0))) (by omega) (fgl_y hc2_0 (e2.trans q6)) (fgp_y hc2_0 hc2_1 (e2.trans q6)) hI8 hF8
  refine to_n 2 (fr' := (2, [(0, .ref 13), (1, .int x1), (2, .int 0)], [], gh S a b sc ar lo, ex, 0, 0)) rfl ?_
  exact c2 (n - 0) 0 sc ar (by omega) fgl_0 fgp_0 hI hF
set_option maxRecDepth 20000 in
theorem sf_X1_bound {X : Nat × (Nat → Int32)} {S a b : Nat} {sc : Nat → Int32} {ar : Nat → Nat → Int32} {lo : Nat → Int64} {ex : Bool} (hW : Wd S a b) (hI : Iv S sc ar) (n : Nat) (enb : n < 9) (x1 : Int32) (en : sc 1308 = nI n) (d : Nat)  : cp X S a b (d + 1) 17 [.ref 13, .int x1] sc ar lo ex (fun x => x = zcn (ar 17) x1 n) := by
  obtain ⟨ha1, ha8, hb1, hb8, hab, hS1, hS⟩ := id hW
  refine cp_of (M := an_X1_bound) rfl (Nat.le_of_ble_eq_true rfl) ?_
  refine to_eq (fr' := (0, [(0, .ref 13), (1, .int x1)], [], gh S a b sc ar lo, ex, 0, 0)) rfl ?_
  have c4 : ∀ m : Nat, ∀ (y : Int32) (i : Nat) , i + m = n → y = zcn (ar 17) x1 i → ag_To X d an_X1_bound (4, [(0, .ref 13), (1, .int x1), (2, .int y), (3, .int (nI i))], [], gh S a b sc ar lo, ex, 0, 0) (qp S a b sc ar lo ex (fun x => x = zcn (ar 17) x1 n)) := by
    intro m
    induction m with
    | zero =>
      intro y i hm hc4_0
      refine to_n 2 (fr' := (6, [(0, .ref 13), (1, .int x1), (2, .int y), (3, .int (nI i))], [.ref 13, .int (nI i)], gh S a b sc ar lo, ex, 0, 0)) rfl ?_
      refine to_getR (v := (nI n)) rfl rfl rfl rfl en ?_
      refine to_nc_ge_T (t := 31) (x := i) (y := n) rfl (by omega) (by omega) (by omega) ?_
      refine to_n 1 (fr' := (32, [(0, .ref 13), (1, .int x1), (2, .int y), (3, .int (nI i))], [.int y], gh S a b sc ar lo, ex, 0, 0)) rfl ?_
      exact to_rt (i := .ireturn) (tg := []) rfl rfl ⟨_, (by rw [show n = i by omega]; exact hc4_0), rfl⟩
    | succ m ih =>
      intro y i hm hc4_0
      refine to_n 2 (fr' := (6, [(0, .ref 13), (1, .int x1), (2, .int y), (3, .int (nI i))], [.ref 13, .int (nI i)], gh S a b sc ar lo, ex, 0, 0)) rfl ?_
      refine to_getR (v := (nI n)) rfl rfl rfl rfl en ?_
      refine to_nc_ge_F (t := 31) (x := i) (y := n) rfl (by omega) (by omega) (by omega) ?_
      refine to_n 1 (fr' := (13, [(0, .ref 13), (1, .int x1), (2, .int y), (3, .int (nI i))], [.ref 13], gh S a b sc ar lo, ex, 0, 0)) rfl ?_
      refine to_get rfl rfl rfl rfl ?_
      refine to_n 1 (fr' := (17, [(0, .ref 13), (1, .int x1), (2, .int y), (3, .int (nI i))], [.int (nI i), .ref 17], gh S a b sc ar lo, ex, 0, 0)) rfl ?_
      rcases iv_a17 hI i with e2 | ⟨n2, hn2, e2⟩
      · refine to_ialR (i := i) (v := (-1)) rfl (by decide) rfl (by omega) (by omega) e2 ?_
        refine to_n 1 (fr' := (19, [(0, .ref 13), (1, .int x1), (2, .int y), (3, .int (nI i))], [.int x1, .int (-1)], gh S a b sc ar lo, ex, 0, 0)) rfl ?_
        refine to_ic_ne (t := 25) rfl (fun q3 => ?_) (fun q3 => ?_)
        · refine to_n 1 (fr' := (28, [(0, .ref 13), (1, .int x1), (2, .int y), (3, .int ((nI i) + 1))], [], gh S a b sc ar lo, ex, 0, 0)) rfl ?_
          rw [nI_1 i]
          refine to_n 1 (fr' := (4, [(0, .ref 13), (1, .int x1), (2, .int y), (3, .int (nI (i + 1)))], [], gh S a b sc ar lo, ex, 0, 0)) rfl ?_
          exact ih y (i + 1) (by omega) (zcn_n hc4_0 (fun w => q3 (e2.symm.trans w)))
        · refine to_n 2 (fr' := (28, [(0, .ref 13), (1, .int x1), (2, .int (y + 1)), (3, .int ((nI i) + 1))], [], gh S a b sc ar lo, ex, 0, 0)) rfl ?_
          rw [nI_1 i]
          refine to_n 1 (fr' := (4, [(0, .ref 13), (1, .int x1), (2, .int (y + 1)), (3, .int (nI (i + 1)))], [], gh S a b sc ar lo, ex, 0, 0)) rfl ?_
          exact ih (y + 1) (i + 1) (by omega) (zcn_y hc4_0 (e2.trans q3))
      · refine to_ialR (i := i) (v := (nI n2)) rfl (by decide) rfl (by omega) (by omega) e2 ?_
        refine to_n 1 (fr' := (19, [(0, .ref 13), (1, .int x1), (2, .int y), (3, .int (nI i))], [.int x1, .int (nI n2)], gh S a b sc ar lo, ex, 0, 0)) rfl ?_
        refine to_ic_ne (t := 25) rfl (fun q4 => ?_) (fun q4 => ?_)
        · refine to_n 1 (fr' := (28, [(0, .ref 13), (1, .int x1), (2, .int y), (3, .int ((nI i) + 1))], [], gh S a b sc ar lo, ex, 0, 0)) rfl ?_
          rw [nI_1 i]
          refine to_n 1 (fr' := (4, [(0, .ref 13), (1, .int x1), (2, .int y), (3, .int (nI (i + 1)))], [], gh S a b sc ar lo, ex, 0, 0)) rfl ?_
          exact ih y (i + 1) (by omega) (zcn_n hc4_0 (fun w => q4 (e2.symm.trans w)))
        · refine to_n 2 (fr' := (28, [(0, .ref 13), (1, .int x1), (2, .int (y + 1)), (3, .int ((nI i) + 1))], [], gh S a b sc ar lo, ex, 0, 0)) rfl ?_
          rw [nI_1 i]
          refine to_n 1 (fr' := (4, [(0, .ref 13), (1, .int x1), (2, .int (y + 1)), (3, .int (nI (i + 1)))], [], gh S a b sc ar lo, ex, 0, 0)) rfl ?_
          exact ih (y + 1) (i + 1) (by omega) (zcn_y hc4_0 (e2.trans q4))
  refine to_n 4 (fr' := (4, [(0, .ref 13), (1, .int x1), (2, .int 0), (3, .int 0)], [], gh S a b sc ar lo, ex, 0, 0)) rfl ?_
  exact c4 (n - 0) 0 0 (by omega) rfl
set_option maxRecDepth 20000 in
theorem sf_X1_allQuarrels {X : Nat × (Nat → Int32)} {S a b : Nat} {sc : Nat → Int32} {ar : Nat → Nat → Int32} {lo : Nat → Int64} {ex : Bool} (hW : Wd S a b) (hI : Iv S sc ar) (n : Nat) (enb : n < 9) (en : sc 1308 = nI n) (d : Nat)  : cp X S a b (d + 1) 18 [.ref 13] sc ar lo ex (fun x => x = zsm (ar 20) n) := by
  obtain ⟨ha1, ha8, hb1, hb8, hab, hS1, hS⟩ := id hW
  refine cp_of (M := an_X1_allQuarrels) rfl (Nat.le_of_ble_eq_true rfl) ?_
  refine to_eq (fr' := (0, [(0, .ref 13)], [], gh S a b sc ar lo, ex, 0, 0)) rfl ?_
  have c4 : ∀ m : Nat, ∀ (y : Int32) (i : Nat) , i + m = n → y = zsm (ar 20) i → ag_To X d an_X1_allQuarrels (4, [(0, .ref 13), (1, .int y), (2, .int (nI i))], [], gh S a b sc ar lo, ex, 0, 0) (qp S a b sc ar lo ex (fun x => x = zsm (ar 20) n)) := by
    intro m
    induction m with
    | zero =>
      intro y i hm hc4_0
      refine to_n 2 (fr' := (6, [(0, .ref 13), (1, .int y), (2, .int (nI i))], [.ref 13, .int (nI i)], gh S a b sc ar lo, ex, 0, 0)) rfl ?_
      refine to_getR (v := (nI n)) rfl rfl rfl rfl en ?_
      refine to_nc_ge_T (t := 27) (x := i) (y := n) rfl (by omega) (by omega) (by omega) ?_
      refine to_n 1 (fr' := (28, [(0, .ref 13), (1, .int y), (2, .int (nI i))], [.int y], gh S a b sc ar lo, ex, 0, 0)) rfl ?_
      exact to_rt (i := .ireturn) (tg := []) rfl rfl ⟨_, (by rw [show n = i by omega]; exact hc4_0), rfl⟩
    | succ m ih =>
      intro y i hm hc4_0
      refine to_n 2 (fr' := (6, [(0, .ref 13), (1, .int y), (2, .int (nI i))], [.ref 13, .int (nI i)], gh S a b sc ar lo, ex, 0, 0)) rfl ?_
      refine to_getR (v := (nI n)) rfl rfl rfl rfl en ?_
      refine to_nc_ge_F (t := 27) (x := i) (y := n) rfl (by omega) (by omega) (by omega) ?_
      refine to_n 2 (fr' := (14, [(0, .ref 13), (1, .int y), (2, .int (nI i))], [.ref 13, .int y], gh S a b sc ar lo, ex, 0, 0)) rfl ?_
      refine to_get rfl rfl rfl rfl ?_
      refine to_n 1 (fr' := (18, [(0, .ref 13), (1, .int y), (2, .int (nI i))], [.int (nI i), .ref 20, .int y], gh S a b sc ar lo, ex, 0, 0)) rfl ?_
      refine to_ialR (i := i) (v := (ar 20 i)) rfl (by decide) rfl (by omega) (by omega) rfl ?_
      refine to_n 3 (fr' := (24, [(0, .ref 13), (1, .int (y + (ar 20 i))), (2, .int ((nI i) + 1))], [], gh S a b sc ar lo, ex, 0, 0)) rfl ?_
      rw [nI_1 i]
      refine to_n 1 (fr' := (4, [(0, .ref 13), (1, .int (y + (ar 20 i))), (2, .int (nI (i + 1)))], [], gh S a b sc ar lo, ex, 0, 0)) rfl ?_
      exact ih (y + (ar 20 i)) (i + 1) (by omega) (by rw [hc4_0]; rfl)
  refine to_n 4 (fr' := (4, [(0, .ref 13), (1, .int 0), (2, .int 0)], [], gh S a b sc ar lo, ex, 0, 0)) rfl ?_
  exact c4 (n - 0) 0 0 (by omega) rfl
set_option maxRecDepth 20000 in
theorem sf_X6_put {X : Nat × (Nat → Int32)} {S a b : Nat} {sc : Nat → Int32} {ar : Nat → Nat → Int32} {lo : Nat → Int64} {ex : Bool} (hW : Wd S a b) (hI : Iv S sc ar) (x1 : Int32) (s0 : Nat) (hs0 : s0 + 4 ≤ 400) (hh : sc 2201 = nI s0) (d : Nat)  : cv X S a b (d + 1) 55 [.ref 22, .int x1] sc ar lo ex (fun sc' ar' => Iv S sc' ar' ∧ Fr [2201] [23] sc ar sc' ar' ∧ (sc' 2201 = nI (s0 + 4) ∧ (∀ t, t < s0 → ar' 23 t = ar 23 t) ∧ ar' 23 (s0 + 0) = (vp_nar .byte (((x1 >>> (24 &&& 31)) : Int32).toInt8.toInt32)) ∧ ar' 23 (s0 + 1) = (vp_nar .byte (((x1 >>> (16 &&& 31)) : Int32).toInt8.toInt32)) ∧ ar' 23 (s0 + 2) = (vp_nar .byte (((x1 >>> (8 &&& 31)) : Int32).toInt8.toInt32)) ∧ ar' 23 (s0 + 3) = (vp_nar .byte (((x1 >>> (0 &&& 31)) : Int32).toInt8.toInt32)))) := by
  obtain ⟨ha1, ha8, hb1, hb8, hab, hS1, hS⟩ := id hW
  refine cv_of (M := an_X6_put) rfl (Nat.le_of_ble_eq_true rfl) ?_
  have hF : Fr [2201] [23] sc ar sc ar := fr_0
  refine to_eq (fr' := (0, [(0, .ref 22), (1, .int x1)], [], gh S a b sc ar lo, ex, 0, 0)) rfl ?_
  have c3_0 : ∀ (p : Nat) (sc1 : Nat → Int32) (ar1 : Nat → Nat → Int32), sc1 2201 = nI p → p = s0 + 3 → (∀ t, t < s0 → ar1 23 t = ar 23 t) → ar1 23 (s0 + 0) = (vp_nar .byte (((x1 >>> (24 &&& 31)) : Int32).toInt8.toInt32)) → ar1 23 (s0 + 1) = (vp_nar .byte (((x1 >>> (16 &&& 31)) : Int32).toInt8.toInt32)) → ar1 23 (s0 + 2) = (vp_nar .byte (((x1 >>> (8 &&& 31)) : Int32).toInt8.toInt32)) → Iv S sc1 ar1 → Fr [2201] [23] sc ar sc1 ar1 → ag_To X d an_X6_put (3, [(0, .ref 22), (1, .int x1), (2, .int 0)], [], gh S a b sc1 ar1 lo, ex, 0, 0) (qv S a b lo ex (fun sc' ar' => Iv S sc' ar' ∧ Fr [2201] [23] sc ar sc' ar' ∧ (sc' 2201 = nI (s0 + 4) ∧ (∀ t, t < s0 → ar' 23 t = ar 23 t) ∧ ar' 23 (s0 + 0) = (vp_nar .byte (((x1 >>> (24 &&& 31)) : Int32).toInt8.toInt32)) ∧ ar' 23 (s0 + 1) = (vp_nar .byte (((x1 >>> (16 &&& 31)) : Int32).toInt8.toInt32)) ∧ ar' 23 (s0 + 2) = (vp_nar .byte (((x1 >>> (8 &&& 31)) : Int32).toInt8.toInt32)) ∧ ar' 23 (s0 + 3) = (vp_nar .byte (((x1 >>> (0 &&& 31)) : Int32).toInt8.toInt32))))) := by
    intro p sc1 ar1 hc3_0 hc3_1 hc3_2 hc3_3 hc3_4 hc3_5 hI1 hF1
    refine to_n 3 (fr' := (8, [(0, .ref 22), (1, .int x1), (2, .int 0)], [.ref 22], gh S a b sc1 ar1 lo, ex, 0, 0)) rfl ?_
    refine to_getR (v := (nI p)) rfl rfl rfl rfl hc3_0 ?_
    refine to_n 1 (fr' := (12, [(0, .ref 22), (1, .int x1), (2, .int 0)], [.ref 22, .int (nI p)], gh S a b sc1 ar1 lo, ex, 0, 0)) rfl ?_
    refine to_get rfl rfl rfl rfl ?_
    refine to_len rfl (by decide) rfl (by decide) ?_
    refine to_eq (fr' := (16, [(0, .ref 22), (1, .int x1), (2, .int 0)], [.int (nI 400), .int (nI p)], gh S a b sc1 ar1 lo, ex, 0, 0)) rfl ?_
    refine to_nc_ge_F (t := 48) (x := p) (y := 400) rfl (by omega) (by omega) (by omega) ?_
    refine to_n 1 (fr' := (20, [(0, .ref 22), (1, .int x1), (2, .int 0)], [.ref 22], gh S a b sc1 ar1 lo, ex, 0, 0)) rfl ?_
    refine to_get rfl rfl rfl rfl ?_
    refine to_n 1 (fr' := (24, [(0, .ref 22), (1, .int x1), (2, .int 0)], [.ref 22, .ref 23], gh S a b sc1 ar1 lo, ex, 0, 0)) rfl ?_
    refine to_getR (v := (nI p)) rfl rfl rfl rfl hc3_0 ?_
    refine to_n 4 (fr' := (31, [(0, .ref 22), (1, .int x1), (2, .int 0)], [.int (((x1 >>> (0 &&& 31)) : Int32).toInt8.toInt32), .int (nI p), .ref 23], gh S a b sc1 ar1 lo, ex, 0, 0)) rfl ?_
    refine to_basR (i := p) (h' := gh S a b sc1 (uA ar1 23 (upd (ar1 23) p (vp_nar .byte (((x1 >>> (0 &&& 31)) : Int32).toInt8.toInt32)))) lo) rfl rfl (by omega) (by omega) rfl ?_
    have hI2 := ia_23 (g := (upd (ar1 23) p (vp_nar .byte (((x1 >>> (0 &&& 31)) : Int32).toInt8.toInt32)))) hI1
    have hF2 := fr_a (c := 23) (g := (upd (ar1 23) p (vp_nar .byte (((x1 >>> (0 &&& 31)) : Int32).toInt8.toInt32)))) hF1 (by decide)
    refine to_n 2 (fr' := (34, [(0, .ref 22), (1, .int x1), (2, .int 0)], [.ref 22, .ref 22], gh S a b sc1 (uA ar1 23 (upd (ar1 23) p (vp_nar .byte (((x1 >>> (0 &&& 31)) : Int32).toInt8.toInt32)))) lo, ex, 0, 0)) rfl ?_
    refine to_getR (v := (nI p)) rfl rfl rfl rfl hc3_0 ?_
    refine to_n 1 (fr' := (38, [(0, .ref 22), (1, .int x1), (2, .int 0)], [.int 1, .int (nI p), .ref 22], gh S a b sc1 (uA ar1 23 (upd (ar1 23) p (vp_nar .byte (((x1 >>> (0 &&& 31)) : Int32).toInt8.toInt32)))) lo, ex, 0, 0)) rfl ?_
    refine to_addN (x := p) (y := 1) rfl ?_
    refine to_putR (h' := gh S a b (upd sc1 2201 (nI (p + 1))) (uA ar1 23 (upd (ar1 23) p (vp_nar .byte (((x1 >>> (0 &&& 31)) : Int32).toInt8.toInt32)))) lo) rfl rfl rfl (Nat.le_of_ble_eq_true rfl) rfl rfl ?_
    have hI3 := ip_2201 (v := (nI (p + 1))) hI2 (rl_n (n := (p + 1)) (by omega))
    have hF3 := fr_s (k := 2201) (v := (nI (p + 1))) hF2 (by decide)
    refine to_n 4 (fr' := (48, [(0, .ref 22), (1, .int x1), (2, .int (-8))], [], gh S a b (upd sc1 2201 (nI (p + 1))) (uA ar1 23 (upd (ar1 23) p (vp_nar .byte (((x1 >>> (0 &&& 31)) : Int32).toInt8.toInt32)))) lo, ex, 0, 0)) rfl ?_
    exact to_rt (i := .return_) (tg := []) rfl rfl ⟨_, _, ⟨hI3, hF3, ⟨(show (upd sc1 2201 (nI (p + 1))) 2201 = nI (p + 1) from rfl).trans (congrArg nI (by omega)), fun t ht => (show (upd (ar1 23) p (vp_nar .byte (((x1 >>> (0 &&& 31)) : Int32).toInt8.toInt32))) t = _ from ug_ne (by omega)).trans (hc3_2 t ht), ((show (upd (ar1 23) p (vp_nar .byte (((x1 >>> (0 &&& 31)) : Int32).toInt8.toInt32))) (s0 + 0) = _ from ug_ne (by omega)).trans hc3_3), ((show (upd (ar1 23) p (vp_nar .byte (((x1 >>> (0 &&& 31)) : Int32).toInt8.toInt32))) (s0 + 1) = _ from ug_ne (by omega)).trans hc3_4), ((show (upd (ar1 23) p (vp_nar .byte (((x1 >>> (0 &&& 31)) : Int32).toInt8.toInt32))) (s0 + 2) = _ from ug_ne (by omega)).trans hc3_5), (show (upd (ar1 23) p (vp_nar .byte (((x1 >>> (0 &&& 31)) : Int32).toInt8.toInt32))) (s0 + 3) = _ from by rw [← hc3_1]; exact ug_eq)⟩⟩, rfl⟩
  have c3_8 : ∀ (p : Nat) (sc4 : Nat → Int32) (ar4 : Nat → Nat → Int32), sc4 2201 = nI p → p = s0 + 2 → (∀ t, t < s0 → ar4 23 t = ar 23 t) → ar4 23 (s0 + 0) = (vp_nar .byte (((x1 >>> (24 &&& 31)) : Int32).toInt8.toInt32)) → ar4 23 (s0 + 1) = (vp_nar .byte (((x1 >>> (16 &&& 31)) : Int32).toInt8.toInt32)) → Iv S sc4 ar4 → Fr [2201] [23] sc ar sc4 ar4 → ag_To X d an_X6_put (3, [(0, .ref 22), (1, .int x1), (2, .int 8)], [], gh S a b sc4 ar4 lo, ex, 0, 0) (qv S a b lo ex (fun sc' ar' => Iv S sc' ar' ∧ Fr [2201] [23] sc ar sc' ar' ∧ (sc' 2201 = nI (s0 + 4) ∧ (∀ t, t < s0 → ar' 23 t = ar 23 t) ∧ ar' 23 (s0 + 0) = (vp_nar .byte (((x1 >>> (24 &&& 31)) : Int32).toInt8.toInt32)) ∧ ar' 23 (s0 + 1) = (vp_nar .byte (((x1 >>> (16 &&& 31)) : Int32).toInt8.toInt32)) ∧ ar' 23 (s0 + 2) = (vp_nar .byte (((x1 >>> (8 &&& 31)) : Int32).toInt8.toInt32)) ∧ ar' 23 (s0 + 3) = (vp_nar .byte (((x1 >>> (0 &&& 31)) : Int32).toInt8.toInt32))))) := by
    intro p sc4 ar4 hc3_0 hc3_1 hc3_2 hc3_3 hc3_4 hI4 hF4
    refine to_n 3 (fr' := (8, [(0, .ref 22), (1, .int x1), (2, .int 8)], [.ref 22], gh S a b sc4 ar4 lo, ex, 0, 0)) rfl ?_
    refine to_getR (v := (nI p)) rfl rfl rfl rfl hc3_0 ?_
    refine to_n 1 (fr' := (12, [(0, .ref 22), (1, .int x1), (2, .int 8)], [.ref 22, .int (nI p)], gh S a b sc4 ar4 lo, ex, 0, 0)) rfl ?_
    refine to_get rfl rfl rfl rfl ?_
    refine to_len rfl (by decide) rfl (by decide) ?_
    refine to_eq (fr' := (16, [(0, .ref 22), (1, .int x1), (2, .int 8)], [.int (nI 400), .int (nI p)], gh S a b sc4 ar4 lo, ex, 0, 0)) rfl ?_
    refine to_nc_ge_F (t := 48) (x := p) (y := 400) rfl (by omega) (by omega) (by omega) ?_
    refine to_n 1 (fr' := (20, [(0, .ref 22), (1, .int x1), (2, .int 8)], [.ref 22], gh S a b sc4 ar4 lo, ex, 0, 0)) rfl ?_
    refine to_get rfl rfl rfl rfl ?_
    refine to_n 1 (fr' := (24, [(0, .ref 22), (1, .int x1), (2, .int 8)], [.ref 22, .ref 23], gh S a b sc4 ar4 lo, ex, 0, 0)) rfl ?_
    refine to_getR (v := (nI p)) rfl rfl rfl rfl hc3_0 ?_
    refine to_n 4 (fr' := (31, [(0, .ref 22), (1, .int x1), (2, .int 8)], [.int (((x1 >>> (8 &&& 31)) : Int32).toInt8.toInt32), .int (nI p), .ref 23], gh S a b sc4 ar4 lo, ex, 0, 0)) rfl ?_
    refine to_basR (i := p) (h' := gh S a b sc4 (uA ar4 23 (upd (ar4 23) p (vp_nar .byte (((x1 >>> (8 &&& 31)) : Int32).toInt8.toInt32)))) lo) rfl rfl (by omega) (by omega) rfl ?_
    have hI5 := ia_23 (g := (upd (ar4 23) p (vp_nar .byte (((x1 >>> (8 &&& 31)) : Int32).toInt8.toInt32)))) hI4
    have hF5 := fr_a (c := 23) (g := (upd (ar4 23) p (vp_nar .byte (((x1 >>> (8 &&& 31)) : Int32).toInt8.toInt32)))) hF4 (by decide)
    refine to_n 2 (fr' := (34, [(0, .ref 22), (1, .int x1), (2, .int 8)], [.ref 22, .ref 22], gh S a b sc4 (uA ar4 23 (upd (ar4 23) p (vp_nar .byte (((x1 >>> (8 &&& 31)) : Int32).toInt8.toInt32)))) lo, ex, 0, 0)) rfl ?_
    refine to_getR (v := (nI p)) rfl rfl rfl rfl hc3_0 ?_
    refine to_n 1 (fr' := (38, [(0, .ref 22), (1, .int x1), (2, .int 8)], [.int 1, .int (nI p), .ref 22], gh S a b sc4 (uA ar4 23 (upd (ar4 23) p (vp_nar .byte (((x1 >>> (8 &&& 31)) : Int32).toInt8.toInt32)))) lo, ex, 0, 0)) rfl ?_
    refine to_addN (x := p) (y := 1) rfl ?_
    refine to_putR (h' := gh S a b (upd sc4 2201 (nI (p + 1))) (uA ar4 23 (upd (ar4 23) p (vp_nar .byte (((x1 >>> (8 &&& 31)) : Int32).toInt8.toInt32)))) lo) rfl rfl rfl (Nat.le_of_ble_eq_true rfl) rfl rfl ?_
    have hI6 := ip_2201 (v := (nI (p + 1))) hI5 (rl_n (n := (p + 1)) (by omega))
    have hF6 := fr_s (k := 2201) (v := (nI (p + 1))) hF5 (by decide)
    refine to_n 2 (fr' := (3, [(0, .ref 22), (1, .int x1), (2, .int 0)], [], gh S a b (upd sc4 2201 (nI (p + 1))) (uA ar4 23 (upd (ar4 23) p (vp_nar .byte (((x1 >>> (8 &&& 31)) : Int32).toInt8.toInt32)))) lo, ex, 0, 0)) rfl ?_
    exact c3_0 (p + 1) (upd sc4 2201 (nI (p + 1))) (uA ar4 23 (upd (ar4 23) p (vp_nar .byte (((x1 >>> (8 &&& 31)) : Int32).toInt8.toInt32)))) (rfl) (by omega) (fun t ht => (show (upd (ar4 23) p (vp_nar .byte (((x1 >>> (8 &&& 31)) : Int32).toInt8.toInt32))) t = _ from ug_ne (by omega)).trans (hc3_2 t ht)) ((show (upd (ar4 23) p (vp_nar .byte (((x1 >>> (8 &&& 31)) : Int32).toInt8.toInt32))) (s0 + 0) = _ from ug_ne (by omega)).trans hc3_3) ((show (upd (ar4 23) p (vp_nar .byte (((x1 >>> (8 &&& 31)) : Int32).toInt8.toInt32))) (s0 + 1) = _ from ug_ne (by omega)).trans hc3_4) (show (upd (ar4 23) p (vp_nar .byte (((x1 >>> (8 &&& 31)) : Int32).toInt8.toInt32))) (s0 + 2) = _ from by rw [← hc3_1]; exact ug_eq) hI6 hF6
  have c3_16 : ∀ (p : Nat) (sc7 : Nat → Int32) (ar7 : Nat → Nat → Int32), sc7 2201 = nI p → p = s0 + 1 → (∀ t, t < s0 → ar7 23 t = ar 23 t) → ar7 23 (s0 + 0) = (vp_nar .byte (((x1 >>> (24 &&& 31)) : Int32).toInt8.toInt32)) → Iv S sc7 ar7 → Fr [2201] [23] sc ar sc7 ar7 → ag_To X d an_X6_put (3, [(0, .ref 22), (1, .int x1), (2, .int 16)], [], gh S a b sc7 ar7 lo, ex, 0, 0) (qv S a b lo ex (fun sc' ar' => Iv S sc' ar' ∧ Fr [2201] [23] sc ar sc' ar' ∧ (sc' 2201 = nI (s0 + 4) ∧ (∀ t, t < s0 → ar' 23 t = ar 23 t) ∧ ar' 23 (s0 + 0) = (vp_nar .byte (((x1 >>> (24 &&& 31)) : Int32).toInt8.toInt32)) ∧ ar' 23 (s0 + 1) = (vp_nar .byte (((x1 >>> (16 &&& 31)) : Int32).toInt8.toInt32)) ∧ ar' 23 (s0 + 2) = (vp_nar .byte (((x1 >>> (8 &&& 31)) : Int32).toInt8.toInt32)) ∧ ar' 23 (s0 + 3) = (vp_nar .byte (((x1 >>> (0 &&& 31)) : Int32).toInt8.toInt32))))) := by
    intro p sc7 ar7 hc3_0 hc3_1 hc3_2 hc3_3 hI7 hF7
    refine to_n 3 (fr' := (8, [(0, .ref 22), (1, .int x1), (2, .int 16)], [.ref 22], gh S a b sc7 ar7 lo, ex, 0, 0)) rfl ?_
    refine to_getR (v := (nI p)) rfl rfl rfl rfl hc3_0 ?_
    refine to_n 1 (fr' := (12, [(0, .ref 22), (1, .int x1), (2, .int 16)], [.ref 22, .int (nI p)], gh S a b sc7 ar7 lo, ex, 0, 0)) rfl ?_
    refine to_get rfl rfl rfl rfl ?_
    refine to_len rfl (by decide) rfl (by decide) ?_
    refine to_eq (fr' := (16, [(0, .ref 22), (1, .int x1), (2, .int 16)], [.int (nI 400), .int (nI p)], gh S a b sc7 ar7 lo, ex, 0, 0)) rfl ?_
    refine to_nc_ge_F (t := 48) (x := p) (y := 400) rfl (by omega) (by omega) (by omega) ?_
    refine to_n 1 (fr' := (20, [(0, .ref 22), (1, .int x1), (2, .int 16)], [.ref 22], gh S a b sc7 ar7 lo, ex, 0, 0)) rfl ?_
    refine to_get rfl rfl rfl rfl ?_
    refine to_n 1 (fr' := (24, [(0, .ref 22), (1, .int x1), (2, .int 16)], [.ref 22, .ref 23], gh S a b sc7 ar7 lo, ex, 0, 0)) rfl ?_
    refine to_getR (v := (nI p)) rfl rfl rfl rfl hc3_0 ?_
    refine to_n 4 (fr' := (31, [(0, .ref 22), (1, .int x1), (2, .int 16)], [.int (((x1 >>> (16 &&& 31)) : Int32).toInt8.toInt32), .int (nI p), .ref 23], gh S a b sc7 ar7 lo, ex, 0, 0)) rfl ?_
    refine to_basR (i := p) (h' := gh S a b sc7 (uA ar7 23 (upd (ar7 23) p (vp_nar .byte (((x1 >>> (16 &&& 31)) : Int32).toInt8.toInt32)))) lo) rfl rfl (by omega) (by omega) rfl ?_
    have hI8 := ia_23 (g := (upd (ar7 23) p (vp_nar .byte (((x1 >>> (16 &&& 31)) : Int32).toInt8.toInt32)))) hI7
    have hF8 := fr_a (c := 23) (g := (upd (ar7 23) p (vp_nar .byte (((x1 >>> (16 &&& 31)) : Int32).toInt8.toInt32)))) hF7 (by decide)
    refine to_n 2 (fr' := (34, [(0, .ref 22), (1, .int x1), (2, .int 16)], [.ref 22, .ref 22], gh S a b sc7 (uA ar7 23 (upd (ar7 23) p (vp_nar .byte (((x1 >>> (16 &&& 31)) : Int32).toInt8.toInt32)))) lo, ex, 0, 0)) rfl ?_
    refine to_getR (v := (nI p)) rfl rfl rfl rfl hc3_0 ?_
    refine to_n 1 (fr' := (38, [(0, .ref 22), (1, .int x1), (2, .int 16)], [.int 1, .int (nI p), .ref 22], gh S a b sc7 (uA ar7 23 (upd (ar7 23) p (vp_nar .byte (((x1 >>> (16 &&& 31)) : Int32).toInt8.toInt32)))) lo, ex, 0, 0)) rfl ?_
    refine to_addN (x := p) (y := 1) rfl ?_
    refine to_putR (h' := gh S a b (upd sc7 2201 (nI (p + 1))) (uA ar7 23 (upd (ar7 23) p (vp_nar .byte (((x1 >>> (16 &&& 31)) : Int32).toInt8.toInt32)))) lo) rfl rfl rfl (Nat.le_of_ble_eq_true rfl) rfl rfl ?_
    have hI9 := ip_2201 (v := (nI (p + 1))) hI8 (rl_n (n := (p + 1)) (by omega))
    have hF9 := fr_s (k := 2201) (v := (nI (p + 1))) hF8 (by decide)
    refine to_n 2 (fr' := (3, [(0, .ref 22), (1, .int x1), (2, .int 8)], [], gh S a b (upd sc7 2201 (nI (p + 1))) (uA ar7 23 (upd (ar7 23) p (vp_nar .byte (((x1 >>> (16 &&& 31)) : Int32).toInt8.toInt32)))) lo, ex, 0, 0)) rfl ?_
    exact c3_8 (p + 1) (upd sc7 2201 (nI (p + 1))) (uA ar7 23 (upd (ar7 23) p (vp_nar .byte (((x1 >>> (16 &&& 31)) : Int32).toInt8.toInt32)))) (rfl) (by omega) (fun t ht => (show (upd (ar7 23) p (vp_nar .byte (((x1 >>> (16 &&& 31)) : Int32).toInt8.toInt32))) t = _ from ug_ne (by omega)).trans (hc3_2 t ht)) ((show (upd (ar7 23) p (vp_nar .byte (((x1 >>> (16 &&& 31)) : Int32).toInt8.toInt32))) (s0 + 0) = _ from ug_ne (by omega)).trans hc3_3) (show (upd (ar7 23) p (vp_nar .byte (((x1 >>> (16 &&& 31)) : Int32).toInt8.toInt32))) (s0 + 1) = _ from by rw [← hc3_1]; exact ug_eq) hI9 hF9
  refine to_n 5 (fr' := (8, [(0, .ref 22), (1, .int x1), (2, .int 24)], [.ref 22], gh S a b sc ar lo, ex, 0, 0)) rfl ?_
  refine to_getR (v := (nI s0)) rfl rfl rfl rfl hh ?_
  refine to_n 1 (fr' := (12, [(0, .ref 22), (1, .int x1), (2, .int 24)], [.ref 22, .int (nI s0)], gh S a b sc ar lo, ex, 0, 0)) rfl ?_
  refine to_get rfl rfl rfl rfl ?_
  refine to_len rfl (by decide) rfl (by decide) ?_
  refine to_eq (fr' := (16, [(0, .ref 22), (1, .int x1), (2, .int 24)], [.int (nI 400), .int (nI s0)], gh S a b sc ar lo, ex, 0, 0)) rfl ?_
  refine to_nc_ge_F (t := 48) (x := s0) (y := 400) rfl (by omega) (by omega) (by omega) ?_
  refine to_n 1 (fr' := (20, [(0, .ref 22), (1, .int x1), (2, .int 24)], [.ref 22], gh S a b sc ar lo, ex, 0, 0)) rfl ?_
  refine to_get rfl rfl rfl rfl ?_
  refine to_n 1 (fr' := (24, [(0, .ref 22), (1, .int x1), (2, .int 24)], [.ref 22, .ref 23], gh S a b sc ar lo, ex, 0, 0)) rfl ?_
  refine to_getR (v := (nI s0)) rfl rfl rfl rfl hh ?_
  refine to_n 4 (fr' := (31, [(0, .ref 22), (1, .int x1), (2, .int 24)], [.int (((x1 >>> (24 &&& 31)) : Int32).toInt8.toInt32), .int (nI s0), .ref 23], gh S a b sc ar lo, ex, 0, 0)) rfl ?_
  refine to_basR (i := s0) (h' := gh S a b sc (uA ar 23 (upd (ar 23) s0 (vp_nar .byte (((x1 >>> (24 &&& 31)) : Int32).toInt8.toInt32)))) lo) rfl rfl (by omega) (by omega) rfl ?_
  have hI10 := ia_23 (g := (upd (ar 23) s0 (vp_nar .byte (((x1 >>> (24 &&& 31)) : Int32).toInt8.toInt32)))) hI
  have hF10 := fr_a (c := 23) (g := (upd (ar 23) s0 (vp_nar .byte (((x1 >>> (24 &&& 31)) : Int32).toInt8.toInt32)))) hF (by decide)
  refine to_n 2 (fr' := (34, [(0, .ref 22), (1, .int x1), (2, .int 24)], [.ref 22, .ref 22], gh S a b sc (uA ar 23 (upd (ar 23) s0 (vp_nar .byte (((x1 >>> (24 &&& 31)) : Int32).toInt8.toInt32)))) lo, ex, 0, 0)) rfl ?_
  refine to_getR (v := (nI s0)) rfl rfl rfl rfl hh ?_
  refine to_n 1 (fr' := (38, [(0, .ref 22), (1, .int x1), (2, .int 24)], [.int 1, .int (nI s0), .ref 22], gh S a b sc (uA ar 23 (upd (ar 23) s0 (vp_nar .byte (((x1 >>> (24 &&& 31)) : Int32).toInt8.toInt32)))) lo, ex, 0, 0)) rfl ?_
  refine to_addN (x := s0) (y := 1) rfl ?_
  refine to_putR (h' := gh S a b (upd sc 2201 (nI (s0 + 1))) (uA ar 23 (upd (ar 23) s0 (vp_nar .byte (((x1 >>> (24 &&& 31)) : Int32).toInt8.toInt32)))) lo) rfl rfl rfl (Nat.le_of_ble_eq_true rfl) rfl rfl ?_
  have hI11 := ip_2201 (v := (nI (s0 + 1))) hI10 (rl_n (n := (s0 + 1)) (by omega))
  have hF11 := fr_s (k := 2201) (v := (nI (s0 + 1))) hF10 (by decide)
  refine to_n 2 (fr' := (3, [(0, .ref 22), (1, .int x1), (2, .int 16)], [], gh S a b (upd sc 2201 (nI (s0 + 1))) (uA ar 23 (upd (ar 23) s0 (vp_nar .byte (((x1 >>> (24 &&& 31)) : Int32).toInt8.toInt32)))) lo, ex, 0, 0)) rfl ?_
  exact c3_16 (s0 + 1) (upd sc 2201 (nI (s0 + 1))) (uA ar 23 (upd (ar 23) s0 (vp_nar .byte (((x1 >>> (24 &&& 31)) : Int32).toInt8.toInt32)))) (rfl) (by omega) (fun t ht => (show (upd (ar 23) s0 (vp_nar .byte (((x1 >>> (24 &&& 31)) : Int32).toInt8.toInt32))) t = _ from ug_ne (by omega))) (show (upd (ar 23) s0 (vp_nar .byte (((x1 >>> (24 &&& 31)) : Int32).toInt8.toInt32))) (s0 + 0) = _ from ug_eq) hI11 hF11
set_option maxRecDepth 20000 in
theorem sf_X4_begin {X : Nat × (Nat → Int32)} {S a b : Nat} {sc : Nat → Int32} {ar : Nat → Nat → Int32} {lo : Nat → Int64} {ex : Bool} (hW : Wd S a b) (hI : Iv S sc ar) (k1 : Nat) (hk1 : k1 < 7) (d : Nat)  : cp X S a b (d + 1) 38 [.ref 29, .int (nI k1)] sc ar lo ex (fun x => rl x 2401 ∧ x = zbe (ar 31) k1) := by
  obtain ⟨ha1, ha8, hb1, hb8, hab, hS1, hS⟩ := id hW
  refine cp_of (M := an_X4_begin) rfl (Nat.le_of_ble_eq_true rfl) ?_
  refine to_eq (fr' := (0, [(0, .ref 29), (1, .int (nI k1))], [], gh S a b sc ar lo, ex, 0, 0)) rfl ?_
  refine to_n 1 (fr' := (1, [(0, .ref 29), (1, .int (nI k1))], [.int (nI k1)], gh S a b sc ar lo, ex, 0, 0)) rfl ?_
  refine to_nf_le (t := 24) (x := k1) rfl (by omega) (fun q1 => ?_) (fun q1 => ?_)
  · refine to_n 1 (fr' := (25, [(0, .ref 29), (1, .int (nI k1))], [.int 0], gh S a b sc ar lo, ex, 0, 0)) rfl ?_
    exact to_rt (i := .ireturn) (tg := []) rfl rfl ⟨_, ⟨rl_n (n := 0) (by omega), (by unfold zbe; rw [if_pos (by omega)]; rfl)⟩, rfl⟩
  · refine to_n 2 (fr' := (6, [(0, .ref 29), (1, .int (nI k1))], [.ref 29, .int (nI k1)], gh S a b sc ar lo, ex, 0, 0)) rfl ?_
    refine to_get rfl rfl rfl rfl ?_
    refine to_len rfl (by decide) rfl (by decide) ?_
    refine to_eq (fr' := (10, [(0, .ref 29), (1, .int (nI k1))], [.int (nI 6), .int (nI k1)], gh S a b sc ar lo, ex, 0, 0)) rfl ?_
    refine to_nc_gt (t := 24) (x := k1) (y := 6) rfl (by omega) (by omega) (fun q2 => ?_) (fun q2 => ?_)
    · refine to_n 1 (fr' := (25, [(0, .ref 29), (1, .int (nI k1))], [.int 0], gh S a b sc ar lo, ex, 0, 0)) rfl ?_
      exact to_rt (i := .ireturn) (tg := []) rfl rfl ⟨_, ⟨rl_n (n := 0) (by omega), (by unfold zbe; rw [if_pos (by omega)]; rfl)⟩, rfl⟩
    · refine to_n 1 (fr' := (14, [(0, .ref 29), (1, .int (nI k1))], [.ref 29], gh S a b sc ar lo, ex, 0, 0)) rfl ?_
      refine to_get rfl rfl rfl rfl ?_
      refine to_n 2 (fr' := (19, [(0, .ref 29), (1, .int (nI k1))], [.int 1, .int (nI k1), .ref 31], gh S a b sc ar lo, ex, 0, 0)) rfl ?_
      refine to_subN (x := k1) (y := 1) rfl (by omega) ?_
      obtain ⟨n3, hn3, e3⟩ := iv_a31 hI (k1 - 1)
      refine to_ialR (i := (k1 - 1)) (v := (nI n3)) rfl (by decide) rfl (by omega) (by omega) e3 ?_
      refine to_n 1 (fr' := (25, [(0, .ref 29), (1, .int (nI k1))], [.int (nI n3)], gh S a b sc ar lo, ex, 0, 0)) rfl ?_
      exact to_rt (i := .ireturn) (tg := []) rfl rfl ⟨_, ⟨rl_n (n := n3) (by omega), (by unfold zbe; rw [if_neg (by omega)]; exact e3.symm)⟩, rfl⟩
set_option maxRecDepth 20000 in
theorem bg_X4_begin {X : Nat × (Nat → Int32)} {S a b : Nat} {sc : Nat → Int32} {ar : Nat → Nat → Int32} {lo : Nat → Int64} {ex : Bool} (hW : Wd S a b) (hI : Iv S sc ar) (k1 : Nat) (hk1 : k1 < 7) (hb : ∀ i, i < k1 → ∃ e : Nat, e ≤ 400 * (i + 1) ∧ ar 31 i = nI e) (d : Nat)  : cp X S a b (d + 1) 38 [.ref 29, .int (nI k1)] sc ar lo ex (fun x => rl x 2401 ∧ (x = zbe (ar 31) k1 ∧ ∃ e : Nat, e ≤ 400 * k1 ∧ x = nI e)) := by
  obtain ⟨ha1, ha8, hb1, hb8, hab, hS1, hS⟩ := id hW
  refine cp_of (M := an_X4_begin) rfl (Nat.le_of_ble_eq_true rfl) ?_
  refine to_eq (fr' := (0, [(0, .ref 29), (1, .int (nI k1))], [], gh S a b sc ar lo, ex, 0, 0)) rfl ?_
  refine to_n 1 (fr' := (1, [(0, .ref 29), (1, .int (nI k1))], [.int (nI k1)], gh S a b sc ar lo, ex, 0, 0)) rfl ?_
  refine to_nf_le (t := 24) (x := k1) rfl (by omega) (fun q1 => ?_) (fun q1 => ?_)
  · refine to_n 1 (fr' := (25, [(0, .ref 29), (1, .int (nI k1))], [.int 0], gh S a b sc ar lo, ex, 0, 0)) rfl ?_
    exact to_rt (i := .ireturn) (tg := []) rfl rfl ⟨_, ⟨rl_n (n := 0) (by omega), ⟨(by unfold zbe; rw [if_pos (by omega)]; rfl), 0, by omega, rfl⟩⟩, rfl⟩
  · refine to_n 2 (fr' := (6, [(0, .ref 29), (1, .int (nI k1))], [.ref 29, .int (nI k1)], gh S a b sc ar lo, ex, 0, 0)) rfl ?_
    refine to_get rfl rfl rfl rfl ?_
    refine to_len rfl (by decide) rfl (by decide) ?_
    refine to_eq (fr' := (10, [(0, .ref 29), (1, .int (nI k1))], [.int (nI 6), .int (nI k1)], gh S a b sc ar lo, ex, 0, 0)) rfl ?_
    refine to_nc_gt (t := 24) (x := k1) (y := 6) rfl (by omega) (by omega) (fun q2 => ?_) (fun q2 => ?_)
    · refine to_n 1 (fr' := (25, [(0, .ref 29), (1, .int (nI k1))], [.int 0], gh S a b sc ar lo, ex, 0, 0)) rfl ?_
      exact to_rt (i := .ireturn) (tg := []) rfl rfl ⟨_, ⟨rl_n (n := 0) (by omega), ⟨(by unfold zbe; rw [if_pos (by omega)]; rfl), 0, by omega, rfl⟩⟩, rfl⟩
    · refine to_n 1 (fr' := (14, [(0, .ref 29), (1, .int (nI k1))], [.ref 29], gh S a b sc ar lo, ex, 0, 0)) rfl ?_
      refine to_get rfl rfl rfl rfl ?_
      refine to_n 2 (fr' := (19, [(0, .ref 29), (1, .int (nI k1))], [.int 1, .int (nI k1), .ref 31], gh S a b sc ar lo, ex, 0, 0)) rfl ?_
      refine to_subN (x := k1) (y := 1) rfl (by omega) ?_
      obtain ⟨n3, hn3, e3⟩ := iv_a31 hI (k1 - 1)
      refine to_ialR (i := (k1 - 1)) (v := (nI n3)) rfl (by decide) rfl (by omega) (by omega) e3 ?_
      refine to_n 1 (fr' := (25, [(0, .ref 29), (1, .int (nI k1))], [.int (nI n3)], gh S a b sc ar lo, ex, 0, 0)) rfl ?_
      exact to_rt (i := .ireturn) (tg := []) rfl rfl ⟨_, ⟨rl_n (n := n3) (by omega), ⟨(by unfold zbe; rw [if_neg (by omega)]; exact e3.symm), ((hb (k1 - 1) (by omega)).elim fun e w => ⟨e, by have := w.1; omega, e3.symm.trans w.2⟩)⟩⟩, rfl⟩
set_option maxRecDepth 20000 in
theorem sf_X4_inForce {X : Nat × (Nat → Int32)} {S a b : Nat} {sc : Nat → Int32} {ar : Nat → Nat → Int32} {lo : Nat → Int64} {ex : Bool} (hW : Wd S a b) (hI : Iv S sc ar) (l0 : Nat) (el0b : l0 < 7) (x1 : Int32) (el0 : sc 2903 = nI l0) (d : Nat)  : cp X S a b (d + 1) 39 [.ref 29, .int x1] sc ar lo ex (fun x => rq x l0 ∧ x = fo (ar 32) x1 l0 0 (-1)) := by
  obtain ⟨ha1, ha8, hb1, hb8, hab, hS1, hS⟩ := id hW
  refine cp_of (M := an_X4_inForce) rfl (Nat.le_of_ble_eq_true rfl) ?_
  refine to_eq (fr' := (0, [(0, .ref 29), (1, .int x1)], [], gh S a b sc ar lo, ex, 0, 0)) rfl ?_
  have c4 : ∀ m : Nat, ∀ (y : Int32) (i : Nat) , i + m = l0 → rq y l0 → fo (ar 32) x1 (l0 - i) i y = fo (ar 32) x1 l0 0 (-1) → ag_To X d an_X4_inForce (4, [(0, .ref 29), (1, .int x1), (2, .int y), (3, .int (nI i))], [], gh S a b sc ar lo, ex, 0, 0) (qp S a b sc ar lo ex (fun x => rq x l0 ∧ x = fo (ar 32) x1 l0 0 (-1))) := by
    intro m
    induction m with
    | zero =>
      intro y i hm hq_y hc4_0
      rcases hq_y with rfl | ⟨n2, hn2, rfl⟩
      · refine to_eq (fr' := (4, [(0, .ref 29), (1, .int x1), (2, .int (-1)), (3, .int (nI i))], [], gh S a b sc ar lo, ex, 0, 0)) rfl ?_
        refine to_n 2 (fr' := (6, [(0, .ref 29), (1, .int x1), (2, .int (-1)), (3, .int (nI i))], [.ref 29, .int (nI i)], gh S a b sc ar lo, ex, 0, 0)) rfl ?_
        refine to_getR (v := (nI l0)) rfl rfl rfl rfl el0 ?_
        refine to_nc_ge_T (t := 50) (x := i) (y := l0) rfl (by omega) (by omega) (by omega) ?_
        refine to_n 1 (fr' := (51, [(0, .ref 29), (1, .int x1), (2, .int (-1)), (3, .int (nI i))], [.int (-1)], gh S a b sc ar lo, ex, 0, 0)) rfl ?_
        exact to_rt (i := .ireturn) (tg := []) rfl rfl ⟨_, ⟨rq_m, (by rw [← hc4_0, show l0 - i = 0 by omega]; rfl)⟩, rfl⟩
      · refine to_eq (fr' := (4, [(0, .ref 29), (1, .int x1), (2, .int (nI n2)), (3, .int (nI i))], [], gh S a b sc ar lo, ex, 0, 0)) rfl ?_
        refine to_n 2 (fr' := (6, [(0, .ref 29), (1, .int x1), (2, .int (nI n2)), (3, .int (nI i))], [.ref 29, .int (nI i)], gh S a b sc ar lo, ex, 0, 0)) rfl ?_
        refine to_getR (v := (nI l0)) rfl rfl rfl rfl el0 ?_
        refine to_nc_ge_T (t := 50) (x := i) (y := l0) rfl (by omega) (by omega) (by omega) ?_
        refine to_n 1 (fr' := (51, [(0, .ref 29), (1, .int x1), (2, .int (nI n2)), (3, .int (nI i))], [.int (nI n2)], gh S a b sc ar lo, ex, 0, 0)) rfl ?_
        exact to_rt (i := .ireturn) (tg := []) rfl rfl ⟨_, ⟨rq_n (n := n2) (by omega), (by rw [← hc4_0, show l0 - i = 0 by omega]; rfl)⟩, rfl⟩
    | succ m ih =>
      intro y i hm hq_y hc4_0
      rcases hq_y with rfl | ⟨n3, hn3, rfl⟩
      · refine to_eq (fr' := (4, [(0, .ref 29), (1, .int x1), (2, .int (-1)), (3, .int (nI i))], [], gh S a b sc ar lo, ex, 0, 0)) rfl ?_
        refine to_n 2 (fr' := (6, [(0, .ref 29), (1, .int x1), (2, .int (-1)), (3, .int (nI i))], [.ref 29, .int (nI i)], gh S a b sc ar lo, ex, 0, 0)) rfl ?_
        refine to_getR (v := (nI l0)) rfl rfl rfl rfl el0 ?_
        refine to_nc_ge_F (t := 50) (x := i) (y := l0) rfl (by omega) (by omega) (by omega) ?_
        refine to_n 1 (fr' := (13, [(0, .ref 29), (1, .int x1), (2, .int (-1)), (3, .int (nI i))], [.ref 29], gh S a b sc ar lo, ex, 0, 0)) rfl ?_
        refine to_get rfl rfl rfl rfl ?_
        refine to_n 1 (fr' := (17, [(0, .ref 29), (1, .int x1), (2, .int (-1)), (3, .int (nI i))], [.int (nI i), .ref 32], gh S a b sc ar lo, ex, 0, 0)) rfl ?_
        refine to_ialR (i := i) (v := (ar 32 i)) rfl (by decide) rfl (by omega) (by omega) rfl ?_
        refine to_n 1 (fr' := (19, [(0, .ref 29), (1, .int x1), (2, .int (-1)), (3, .int (nI i))], [.int x1, .int (ar 32 i)], gh S a b sc ar lo, ex, 0, 0)) rfl ?_
        refine to_ic_gt (t := 44) rfl (fun q4 => ?_) (fun q4 => ?_)
        · refine to_n 1 (fr' := (47, [(0, .ref 29), (1, .int x1), (2, .int (-1)), (3, .int ((nI i) + 1))], [], gh S a b sc ar lo, ex, 0, 0)) rfl ?_
          rw [nI_1 i]
          refine to_n 1 (fr' := (4, [(0, .ref 29), (1, .int x1), (2, .int (-1)), (3, .int (nI (i + 1)))], [], gh S a b sc ar lo, ex, 0, 0)) rfl ?_
          exact ih (-1) (i + 1) (by omega) (rq_m) ((fo_no (by omega) (fun w => Int32.not_lt.mpr w.1 q4)).trans hc4_0)
        · refine to_n 6 (fr' := (47, [(0, .ref 29), (1, .int x1), (2, .int (nI i)), (3, .int ((nI i) + 1))], [], gh S a b sc ar lo, ex, 0, 0)) rfl ?_
          rw [nI_1 i]
          refine to_n 1 (fr' := (4, [(0, .ref 29), (1, .int x1), (2, .int (nI i)), (3, .int (nI (i + 1)))], [], gh S a b sc ar lo, ex, 0, 0)) rfl ?_
          exact ih (nI i) (i + 1) (by omega) (rq_n (n := i) (by omega)) ((fo_yes (b := -1) (by omega) (Int32.not_lt.mp q4) (Or.inl rfl)).trans hc4_0)
      · refine to_eq (fr' := (4, [(0, .ref 29), (1, .int x1), (2, .int (nI n3)), (3, .int (nI i))], [], gh S a b sc ar lo, ex, 0, 0)) rfl ?_
        refine to_n 2 (fr' := (6, [(0, .ref 29), (1, .int x1), (2, .int (nI n3)), (3, .int (nI i))], [.ref 29, .int (nI i)], gh S a b sc ar lo, ex, 0, 0)) rfl ?_
        refine to_getR (v := (nI l0)) rfl rfl rfl rfl el0 ?_
        refine to_nc_ge_F (t := 50) (x := i) (y := l0) rfl (by omega) (by omega) (by omega) ?_
        refine to_n 1 (fr' := (13, [(0, .ref 29), (1, .int x1), (2, .int (nI n3)), (3, .int (nI i))], [.ref 29], gh S a b sc ar lo, ex, 0, 0)) rfl ?_
        refine to_get rfl rfl rfl rfl ?_
        refine to_n 1 (fr' := (17, [(0, .ref 29), (1, .int x1), (2, .int (nI n3)), (3, .int (nI i))], [.int (nI i), .ref 32], gh S a b sc ar lo, ex, 0, 0)) rfl ?_
        refine to_ialR (i := i) (v := (ar 32 i)) rfl (by decide) rfl (by omega) (by omega) rfl ?_
        refine to_n 1 (fr' := (19, [(0, .ref 29), (1, .int x1), (2, .int (nI n3)), (3, .int (nI i))], [.int x1, .int (ar 32 i)], gh S a b sc ar lo, ex, 0, 0)) rfl ?_
        refine to_ic_gt (t := 44) rfl (fun q5 => ?_) (fun q5 => ?_)
        · refine to_n 1 (fr' := (47, [(0, .ref 29), (1, .int x1), (2, .int (nI n3)), (3, .int ((nI i) + 1))], [], gh S a b sc ar lo, ex, 0, 0)) rfl ?_
          rw [nI_1 i]
          refine to_n 1 (fr' := (4, [(0, .ref 29), (1, .int x1), (2, .int (nI n3)), (3, .int (nI (i + 1)))], [], gh S a b sc ar lo, ex, 0, 0)) rfl ?_
          exact ih (nI n3) (i + 1) (by omega) (rq_n (n := n3) (by omega)) ((fo_no (by omega) (fun w => Int32.not_lt.mpr w.1 q5)).trans hc4_0)
        · refine to_n 2 (fr' := (24, [(0, .ref 29), (1, .int x1), (2, .int (nI n3)), (3, .int (nI i))], [.int (-1), .int (nI n3)], gh S a b sc ar lo, ex, 0, 0)) rfl ?_
          refine to_ic_eq_F (t := 42) (x := (nI n3)) (y := (-1)) rfl (nI_neg (by omega) (by decide)) ?_
          refine to_n 1 (fr' := (28, [(0, .ref 29), (1, .int x1), (2, .int (nI n3)), (3, .int (nI i))], [.ref 29], gh S a b sc ar lo, ex, 0, 0)) rfl ?_
          refine to_get rfl rfl rfl rfl ?_
          refine to_n 1 (fr' := (32, [(0, .ref 29), (1, .int x1), (2, .int (nI n3)), (3, .int (nI i))], [.int (nI i), .ref 32], gh S a b sc ar lo, ex, 0, 0)) rfl ?_
          refine to_ialR (i := i) (v := (ar 32 i)) rfl (by decide) rfl (by omega) (by omega) rfl ?_
          refine to_n 1 (fr' := (34, [(0, .ref 29), (1, .int x1), (2, .int (nI n3)), (3, .int (nI i))], [.ref 29, .int (ar 32 i)], gh S a b sc ar lo, ex, 0, 0)) rfl ?_
          refine to_get rfl rfl rfl rfl ?_
          refine to_n 1 (fr' := (38, [(0, .ref 29), (1, .int x1), (2, .int (nI n3)), (3, .int (nI i))], [.int (nI n3), .ref 32, .int (ar 32 i)], gh S a b sc ar lo, ex, 0, 0)) rfl ?_
          refine to_ialR (i := n3) (v := (ar 32 n3)) rfl (by decide) rfl (by omega) (by omega) rfl ?_
          refine to_ic_lt (t := 44) rfl (fun q6 => ?_) (fun q6 => ?_)
          · refine to_n 1 (fr' := (47, [(0, .ref 29), (1, .int x1), (2, .int (nI n3)), (3, .int ((nI i) + 1))], [], gh S a b sc ar lo, ex, 0, 0)) rfl ?_
            rw [nI_1 i]
            refine to_n 1 (fr' := (4, [(0, .ref 29), (1, .int x1), (2, .int (nI n3)), (3, .int (nI (i + 1)))], [], gh S a b sc ar lo, ex, 0, 0)) rfl ?_
            exact ih (nI n3) (i + 1) (by omega) (rq_n (n := n3) (by omega)) ((fo_no (b := nI n3) (by omega) (fun w => w.2.elim (nI_neg (by omega) (by decide)) (fun v => by rw [nI_clamp (by omega)] at v; exact Int32.not_lt.mpr v q6))).trans hc4_0)
          · refine to_n 3 (fr' := (47, [(0, .ref 29), (1, .int x1), (2, .int (nI i)), (3, .int ((nI i) + 1))], [], gh S a b sc ar lo, ex, 0, 0)) rfl ?_
            rw [nI_1 i]
            refine to_n 1 (fr' := (4, [(0, .ref 29), (1, .int x1), (2, .int (nI i)), (3, .int (nI (i + 1)))], [], gh S a b sc ar lo, ex, 0, 0)) rfl ?_
            exact ih (nI i) (i + 1) (by omega) (rq_n (n := i) (by omega)) ((fo_yes (b := nI n3) (by omega) (Int32.not_lt.mp q5) (Or.inr (show (ar 32) (nI n3).toNatClampNeg ≤ (ar 32) i by rw [nI_clamp (by omega)]; exact Int32.not_lt.mp q6))).trans hc4_0)
  refine to_n 4 (fr' := (4, [(0, .ref 29), (1, .int x1), (2, .int (-1)), (3, .int 0)], [], gh S a b sc ar lo, ex, 0, 0)) rfl ?_
  exact c4 (l0 - 0) (-1) 0 (by omega) (rq_m) (by rw [Nat.sub_zero])
set_option maxRecDepth 20000 in
theorem sf_X4_enter {X : Nat × (Nat → Int32)} {S a b : Nat} {sc : Nat → Int32} {ar : Nat → Nat → Int32} {lo : Nat → Int64} {ex : Bool} (hW : Wd S a b) (hI : Iv S sc ar) (k1 : Nat) (hk1 : k1 < 401) (x1 : Int32) (l : Nat) (hl : l < 6) (el : sc 2903 = nI l) (hb : ∀ i, i < l → ∃ e : Nat, e ≤ 400 * (i + 1) ∧ ar 31 i = nI e) (d : Nat)  : ci X S a b (d + 2) 37 [.ref 29, .ref 25, .int (nI k1), .int x1] sc ar lo ex (fun x sc' ar' => Iv S sc' ar' ∧ Fr [2903] [30, 31, 32] sc ar sc' ar' ∧ (sc' 2903 = nI (l + 1) ∧ (∀ i, i < l → ar' 31 i = ar 31 i) ∧ (∃ e : Nat, e ≤ 400 * (l + 1) ∧ ar' 31 l = nI e) ∧ ∃ be : Nat, be ≤ 400 * l ∧ zbe (ar 31) l = nI be ∧ ar' 30 = va_cpy (ar 25) (ar 30) 0 be k1 ∧ ar' 31 = upd (ar 31) l (nI (be + k1)) ∧ ar' 32 = upd (ar 32) l x1)) := by
  obtain ⟨ha1, ha8, hb1, hb8, hab, hS1, hS⟩ := id hW
  refine ci_of (M := an_X4_enter) rfl (Nat.le_of_ble_eq_true rfl) ?_
  have hF : Fr [2903] [30, 31, 32] sc ar sc ar := fr_0
  refine to_eq (fr' := (0, [(0, .ref 29), (1, .ref 25), (2, .int (nI k1)), (3, .int x1)], [], gh S a b sc ar lo, ex, 0, 0)) rfl ?_
  refine to_n 2 (fr' := (2, [(0, .ref 29), (1, .ref 25), (2, .int (nI k1)), (3, .int x1)], [.ref 29, .ref 29], gh S a b sc ar lo, ex, 0, 0)) rfl ?_
  refine to_getR (v := (nI l)) rfl rfl rfl rfl el ?_
  refine to_cp (q := 38) (M1 := an_X4_begin) (rest := []) rfl rfl (by decide) rfl ⟨_, rfl⟩ (bg_X4_begin hW hI l (by omega) hb d) (fun x1 hx1 => ?_)
  obtain ⟨hx1, hp1⟩ := hx1
  obtain ⟨n1, hn1, rfl⟩ := hx1
  obtain ⟨hbe1, be, hb1, hb2⟩ := hp1
  have hbe : n1 = be := (nI_eq (by omega) (by omega)).mp hb2
  refine to_eq (fr' := (8, [(0, .ref 29), (1, .ref 25), (2, .int (nI k1)), (3, .int x1)], [.int (nI n1)], gh S a b sc ar lo, ex, 0, 0)) rfl ?_
  refine to_n 2 (fr' := (11, [(0, .ref 29), (1, .ref 25), (2, .int (nI k1)), (3, .int x1), (4, .int (nI n1))], [.ref 29], gh S a b sc ar lo, ex, 0, 0)) rfl ?_
  refine to_getR (v := (nI l)) rfl rfl rfl rfl el ?_
  refine to_n 1 (fr' := (16, [(0, .ref 29), (1, .ref 25), (2, .int (nI k1)), (3, .int x1), (4, .int (nI n1))], [.int 6, .int (nI l)], gh S a b sc ar lo, ex, 0, 0)) rfl ?_
  refine to_nc_ge_F (t := 37) (x := l) (y := 6) rfl (by omega) (by omega) (by omega) ?_
  refine to_n 2 (fr' := (21, [(0, .ref 29), (1, .ref 25), (2, .int (nI k1)), (3, .int x1), (4, .int (nI n1))], [.ref 25, .int (nI k1)], gh S a b sc ar lo, ex, 0, 0)) rfl ?_
  refine to_len rfl (by decide) rfl (by decide) ?_
  refine to_eq (fr' := (22, [(0, .ref 29), (1, .ref 25), (2, .int (nI k1)), (3, .int x1), (4, .int (nI n1))], [.int (nI 400), .int (nI k1)], gh S a b sc ar lo, ex, 0, 0)) rfl ?_
  refine to_nc_gt_F (t := 37) (x := k1) (y := 400) rfl (by omega) (by omega) (by omega) ?_
  refine to_n 2 (fr' := (27, [(0, .ref 29), (1, .ref 25), (2, .int (nI k1)), (3, .int x1), (4, .int (nI n1))], [.ref 29, .int (nI k1)], gh S a b sc ar lo, ex, 0, 0)) rfl ?_
  refine to_get rfl rfl rfl rfl ?_
  refine to_len rfl (by decide) rfl (by decide) ?_
  refine to_eq (fr' := (31, [(0, .ref 29), (1, .ref 25), (2, .int (nI k1)), (3, .int x1), (4, .int (nI n1))], [.int (nI 2400), .int (nI k1)], gh S a b sc ar lo, ex, 0, 0)) rfl ?_
  refine to_n 1 (fr' := (33, [(0, .ref 29), (1, .ref 25), (2, .int (nI k1)), (3, .int x1), (4, .int (nI n1))], [.int (nI n1), .int (nI 2400), .int (nI k1)], gh S a b sc ar lo, ex, 0, 0)) rfl ?_
  refine to_subN (x := 2400) (y := n1) rfl (by omega) ?_
  refine to_nc_le_T (t := 40) (x := k1) (y := (2400 - n1)) rfl (by omega) (by omega) (by omega) ?_
  refine to_n 3 (fr' := (43, [(0, .ref 29), (1, .ref 25), (2, .int (nI k1)), (3, .int x1), (4, .int (nI n1))], [.ref 29, .int 0, .ref 25], gh S a b sc ar lo, ex, 0, 0)) rfl ?_
  refine to_get rfl rfl rfl rfl ?_
  refine to_n 2 (fr' := (49, [(0, .ref 29), (1, .ref 25), (2, .int (nI k1)), (3, .int x1), (4, .int (nI n1))], [.int (nI k1), .int (nI n1), .ref 30, .int 0, .ref 25], gh S a b sc ar lo, ex, 0, 0)) rfl ?_
  refine to_cpy (n := k1) (dp := n1) (sp := 0) (h' := gh S a b sc (uA ar 30 (va_cpy (ar 25) (ar 30) 0 n1 k1)) lo) rfl rfl rfl rfl (by omega) (by omega) (by omega) (by decide) rfl ?_
  have hI2 := ia_30 (g := (va_cpy (ar 25) (ar 30) 0 n1 k1)) hI
  have hF2 := fr_a (c := 30) (g := (va_cpy (ar 25) (ar 30) 0 n1 k1)) hF (by decide)
  refine to_eq (fr' := (52, [(0, .ref 29), (1, .ref 25), (2, .int (nI k1)), (3, .int x1), (4, .int (nI n1))], [], gh S a b sc (uA ar 30 (va_cpy (ar 25) (ar 30) 0 n1 k1)) lo, ex, 0, 0)) rfl ?_
  refine to_n 1 (fr' := (53, [(0, .ref 29), (1, .ref 25), (2, .int (nI k1)), (3, .int x1), (4, .int (nI n1))], [.ref 29], gh S a b sc (uA ar 30 (va_cpy (ar 25) (ar 30) 0 n1 k1)) lo, ex, 0, 0)) rfl ?_
  refine to_get rfl rfl rfl rfl ?_
  refine to_n 1 (fr' := (57, [(0, .ref 29), (1, .ref 25), (2, .int (nI k1)), (3, .int x1), (4, .int (nI n1))], [.ref 29, .ref 31], gh S a b sc (uA ar 30 (va_cpy (ar 25) (ar 30) 0 n1 k1)) lo, ex, 0, 0)) rfl ?_
  refine to_getR (v := (nI l)) rfl rfl rfl rfl el ?_
  refine to_n 2 (fr' := (63, [(0, .ref 29), (1, .ref 25), (2, .int (nI k1)), (3, .int x1), (4, .int (nI n1))], [.int (nI k1), .int (nI n1), .int (nI l), .ref 31], gh S a b sc (uA ar 30 (va_cpy (ar 25) (ar 30) 0 n1 k1)) lo, ex, 0, 0)) rfl ?_
  refine to_addN (x := n1) (y := k1) rfl ?_
  refine to_iasR (i := l) (h' := gh S a b sc (uA (uA ar 30 (va_cpy (ar 25) (ar 30) 0 n1 k1)) 31 (upd ((uA ar 30 (va_cpy (ar 25) (ar 30) 0 n1 k1)) 31) l (nI (n1 + k1)))) lo) rfl rfl (by omega) (by omega) rfl ?_
  have hI3 := ia_31 (i := l) (v := (nI (n1 + k1))) hI2 (rl_n (n := (n1 + k1)) (by omega))
  have hF3 := fr_a (c := 31) (g := (upd ((uA ar 30 (va_cpy (ar 25) (ar 30) 0 n1 k1)) 31) l (nI (n1 + k1)))) hF2 (by decide)
  refine to_n 1 (fr' := (66, [(0, .ref 29), (1, .ref 25), (2, .int (nI k1)), (3, .int x1), (4, .int (nI n1))], [.ref 29], gh S a b sc (uA (uA ar 30 (va_cpy (ar 25) (ar 30) 0 n1 k1)) 31 (upd ((uA ar 30 (va_cpy (ar 25) (ar 30) 0 n1 k1)) 31) l (nI (n1 + k1)))) lo, ex, 0, 0)) rfl ?_
  refine to_get rfl rfl rfl rfl ?_
  refine to_n 1 (fr' := (70, [(0, .ref 29), (1, .ref 25), (2, .int (nI k1)), (3, .int x1), (4, .int (nI n1))], [.ref 29, .ref 32], gh S a b sc (uA (uA ar 30 (va_cpy (ar 25) (ar 30) 0 n1 k1)) 31 (upd ((uA ar 30 (va_cpy (ar 25) (ar 30) 0 n1 k1)) 31) l (nI (n1 + k1)))) lo, ex, 0, 0)) rfl ?_
  refine to_getR (v := (nI l)) rfl rfl rfl rfl el ?_
  refine to_n 1 (fr' := (74, [(0, .ref 29), (1, .ref 25), (2, .int (nI k1)), (3, .int x1), (4, .int (nI n1))], [.int x1, .int (nI l), .ref 32], gh S a b sc (uA (uA ar 30 (va_cpy (ar 25) (ar 30) 0 n1 k1)) 31 (upd ((uA ar 30 (va_cpy (ar 25) (ar 30) 0 n1 k1)) 31) l (nI (n1 + k1)))) lo, ex, 0, 0)) rfl ?_
  refine to_iasR (i := l) (h' := gh S a b sc (uA (uA (uA ar 30 (va_cpy (ar 25) (ar 30) 0 n1 k1)) 31 (upd ((uA ar 30 (va_cpy (ar 25) (ar 30) 0 n1 k1)) 31) l (nI (n1 + k1)))) 32 (upd ((uA (uA ar 30 (va_cpy (ar 25) (ar 30) 0 n1 k1)) 31 (upd ((uA ar 30 (va_cpy (ar 25) (ar 30) 0 n1 k1)) 31) l (nI (n1 + k1)))) 32) l x1)) lo) rfl rfl (by omega) (by omega) rfl ?_
  have hI4 := ia_32 (g := (upd ((uA (uA ar 30 (va_cpy (ar 25) (ar 30) 0 n1 k1)) 31 (upd ((uA ar 30 (va_cpy (ar 25) (ar 30) 0 n1 k1)) 31) l (nI (n1 + k1)))) 32) l x1)) hI3
  have hF4 := fr_a (c := 32) (g := (upd ((uA (uA ar 30 (va_cpy (ar 25) (ar 30) 0 n1 k1)) 31 (upd ((uA ar 30 (va_cpy (ar 25) (ar 30) 0 n1 k1)) 31) l (nI (n1 + k1)))) 32) l x1)) hF3 (by decide)
  refine to_n 2 (fr' := (77, [(0, .ref 29), (1, .ref 25), (2, .int (nI k1)), (3, .int x1), (4, .int (nI n1))], [.ref 29, .ref 29], gh S a b sc (uA (uA (uA ar 30 (va_cpy (ar 25) (ar 30) 0 n1 k1)) 31 (upd ((uA ar 30 (va_cpy (ar 25) (ar 30) 0 n1 k1)) 31) l (nI (n1 + k1)))) 32 (upd ((uA (uA ar 30 (va_cpy (ar 25) (ar 30) 0 n1 k1)) 31 (upd ((uA ar 30 (va_cpy (ar 25) (ar 30) 0 n1 k1)) 31) l (nI (n1 + k1)))) 32) l x1)) lo, ex, 0, 0)) rfl ?_
  refine to_getR (v := (nI l)) rfl rfl rfl rfl el ?_
  refine to_n 1 (fr' := (81, [(0, .ref 29), (1, .ref 25), (2, .int (nI k1)), (3, .int x1), (4, .int (nI n1))], [.int 1, .int (nI l), .ref 29], gh S a b sc (uA (uA (uA ar 30 (va_cpy (ar 25) (ar 30) 0 n1 k1)) 31 (upd ((uA ar 30 (va_cpy (ar 25) (ar 30) 0 n1 k1)) 31) l (nI (n1 + k1)))) 32 (upd ((uA (uA ar 30 (va_cpy (ar 25) (ar 30) 0 n1 k1)) 31 (upd ((uA ar 30 (va_cpy (ar 25) (ar 30) 0 n1 k1)) 31) l (nI (n1 + k1)))) 32) l x1)) lo, ex, 0, 0)) rfl ?_
  refine to_addN (x := l) (y := 1) rfl ?_
  refine to_putR (h' := gh S a b (upd sc 2903 (nI (l + 1))) (uA (uA (uA ar 30 (va_cpy (ar 25) (ar 30) 0 n1 k1)) 31 (upd ((uA ar 30 (va_cpy (ar 25) (ar 30) 0 n1 k1)) 31) l (nI (n1 + k1)))) 32 (upd ((uA (uA ar 30 (va_cpy (ar 25) (ar 30) 0 n1 k1)) 31 (upd ((uA ar 30 (va_cpy (ar 25) (ar 30) 0 n1 k1)) 31) l (nI (n1 + k1)))) 32) l x1)) lo) rfl rfl rfl (Nat.le_of_ble_eq_true rfl) rfl rfl ?_
  have hI5 := ip_2903 (v := (nI (l + 1))) hI4 (rl_n (n := (l + 1)) (by omega))
  have hF5 := fr_s (k := 2903) (v := (nI (l + 1))) hF4 (by decide)
  refine to_n 1 (fr' := (86, [(0, .ref 29), (1, .ref 25), (2, .int (nI k1)), (3, .int x1), (4, .int (nI n1))], [.ref 29], gh S a b (upd sc 2903 (nI (l + 1))) (uA (uA (uA ar 30 (va_cpy (ar 25) (ar 30) 0 n1 k1)) 31 (upd ((uA ar 30 (va_cpy (ar 25) (ar 30) 0 n1 k1)) 31) l (nI (n1 + k1)))) 32 (upd ((uA (uA ar 30 (va_cpy (ar 25) (ar 30) 0 n1 k1)) 31 (upd ((uA ar 30 (va_cpy (ar 25) (ar 30) 0 n1 k1)) 31) l (nI (n1 + k1)))) 32) l x1)) lo, ex, 0, 0)) rfl ?_
  refine to_getR (v := (nI (l + 1))) rfl rfl rfl rfl rfl ?_
  refine to_n 1 (fr' := (90, [(0, .ref 29), (1, .ref 25), (2, .int (nI k1)), (3, .int x1), (4, .int (nI n1))], [.int 1, .int (nI (l + 1))], gh S a b (upd sc 2903 (nI (l + 1))) (uA (uA (uA ar 30 (va_cpy (ar 25) (ar 30) 0 n1 k1)) 31 (upd ((uA ar 30 (va_cpy (ar 25) (ar 30) 0 n1 k1)) 31) l (nI (n1 + k1)))) 32 (upd ((uA (uA ar 30 (va_cpy (ar 25) (ar 30) 0 n1 k1)) 31 (upd ((uA ar 30 (va_cpy (ar 25) (ar 30) 0 n1 k1)) 31) l (nI (n1 + k1)))) 32) l x1)) lo, ex, 0, 0)) rfl ?_
  refine to_subN (x := (l + 1)) (y := 1) rfl (by omega) ?_
  exact to_rt (i := .ireturn) (tg := []) rfl rfl ⟨_, _, _, ⟨hI5, hF5, ⟨rfl, fun i hi => (show (upd ((uA ar 30 (va_cpy (ar 25) (ar 30) 0 n1 k1)) 31) l (nI (n1 + k1))) i = ar 31 i from ug_ne (by omega)), ⟨n1 + k1, by omega, (show (upd ((uA ar 30 (va_cpy (ar 25) (ar 30) 0 n1 k1)) 31) l (nI (n1 + k1))) l = _ from ug_eq)⟩, n1, by omega, hbe1.symm, rfl, rfl, rfl⟩⟩, rfl⟩
set_option maxRecDepth 20000 in
theorem sf_X3_push {X : Nat × (Nat → Int32)} {S a b : Nat} {sc : Nat → Int32} {ar : Nat → Nat → Int32} {lo : Nat → Int64} {ex : Bool} (hW : Wd S a b) (hI : Iv S sc ar) (x1 : Int32) (t : Nat) (ht : t < 21) (et : sc 3304 = nI t) (d : Nat)  : cv X S a b (d + 1) 34 [.ref 33, .int x1] sc ar lo ex (fun sc' ar' => Iv S sc' ar' ∧ Fr [3304] [35] sc ar sc' ar' ∧ (ar' 35 = (zpush (ar 35) t x1).1 ∧ sc' 3304 = nI (zpush (ar 35) t x1).2)) := by
  obtain ⟨ha1, ha8, hb1, hb8, hab, hS1, hS⟩ := id hW
  refine cv_of (M := an_X3_push) rfl (Nat.le_of_ble_eq_true rfl) ?_
  have hF : Fr [3304] [35] sc ar sc ar := fr_0
  refine to_eq (fr' := (0, [(0, .ref 33), (1, .int x1)], [], gh S a b sc ar lo, ex, 0, 0)) rfl ?_
  refine to_n 1 (fr' := (1, [(0, .ref 33), (1, .int x1)], [.ref 33], gh S a b sc ar lo, ex, 0, 0)) rfl ?_
  refine to_getR (v := (nI t)) rfl rfl rfl rfl et ?_
  refine to_n 1 (fr' := (5, [(0, .ref 33), (1, .int x1)], [.ref 33, .int (nI t)], gh S a b sc ar lo, ex, 0, 0)) rfl ?_
  refine to_get rfl rfl rfl rfl ?_
  refine to_len rfl (by decide) rfl (by decide) ?_
  refine to_eq (fr' := (9, [(0, .ref 33), (1, .int x1)], [.int (nI 20), .int (nI t)], gh S a b sc ar lo, ex, 0, 0)) rfl ?_
  refine to_nc_ge (t := 32) (x := t) (y := 20) rfl (by omega) (by omega) (fun q1 => ?_) (fun q1 => ?_)
  · exact to_rt (i := .return_) (tg := []) rfl rfl ⟨_, _, ⟨hI, hF, (by unfold zpush; rw [if_neg (by omega)]; exact ⟨rfl, et⟩)⟩, rfl⟩
  · refine to_n 1 (fr' := (13, [(0, .ref 33), (1, .int x1)], [.ref 33], gh S a b sc ar lo, ex, 0, 0)) rfl ?_
    refine to_get rfl rfl rfl rfl ?_
    refine to_n 1 (fr' := (17, [(0, .ref 33), (1, .int x1)], [.ref 33, .ref 35], gh S a b sc ar lo, ex, 0, 0)) rfl ?_
    refine to_getR (v := (nI t)) rfl rfl rfl rfl et ?_
    refine to_n 1 (fr' := (21, [(0, .ref 33), (1, .int x1)], [.int x1, .int (nI t), .ref 35], gh S a b sc ar lo, ex, 0, 0)) rfl ?_
    refine to_iasR (i := t) (h' := gh S a b sc (uA ar 35 (upd (ar 35) t x1)) lo) rfl rfl (by omega) (by omega) rfl ?_
    have hI2 := ia_35 (g := (upd (ar 35) t x1)) hI
    have hF2 := fr_a (c := 35) (g := (upd (ar 35) t x1)) hF (by decide)
    refine to_n 2 (fr' := (24, [(0, .ref 33), (1, .int x1)], [.ref 33, .ref 33], gh S a b sc (uA ar 35 (upd (ar 35) t x1)) lo, ex, 0, 0)) rfl ?_
    refine to_getR (v := (nI t)) rfl rfl rfl rfl et ?_
    refine to_n 1 (fr' := (28, [(0, .ref 33), (1, .int x1)], [.int 1, .int (nI t), .ref 33], gh S a b sc (uA ar 35 (upd (ar 35) t x1)) lo, ex, 0, 0)) rfl ?_
    refine to_addN (x := t) (y := 1) rfl ?_
    refine to_putR (h' := gh S a b (upd sc 3304 (nI (t + 1))) (uA ar 35 (upd (ar 35) t x1)) lo) rfl rfl rfl (Nat.le_of_ble_eq_true rfl) rfl rfl ?_
    have hI3 := ip_3304 (v := (nI (t + 1))) hI2 (rl_n (n := (t + 1)) (by omega))
    have hF3 := fr_s (k := 3304) (v := (nI (t + 1))) hF2 (by decide)
    exact to_rt (i := .return_) (tg := []) rfl rfl ⟨_, _, ⟨hI3, hF3, (by unfold zpush; rw [if_pos (by omega)]; exact ⟨rfl, rfl⟩)⟩, rfl⟩
set_option maxRecDepth 20000 in
theorem sf_X3_pop {X : Nat × (Nat → Int32)} {S a b : Nat} {sc : Nat → Int32} {ar : Nat → Nat → Int32} {lo : Nat → Int64} {ex : Bool} (hW : Wd S a b) (hI : Iv S sc ar) (t : Nat) (ht : t < 21) (et : sc 3304 = nI t) (d : Nat)  : ci X S a b (d + 1) 35 [.ref 33] sc ar lo ex (fun x sc' ar' => Iv S sc' ar' ∧ Fr [3304] [] sc ar sc' ar' ∧ (x = zpop (ar 35) t ∧ sc' 3304 = nI (t - 1))) := by
  obtain ⟨ha1, ha8, hb1, hb8, hab, hS1, hS⟩ := id hW
  refine ci_of (M := an_X3_pop) rfl (Nat.le_of_ble_eq_true rfl) ?_
  have hF : Fr [3304] [] sc ar sc ar := fr_0
  refine to_eq (fr' := (0, [(0, .ref 33)], [], gh S a b sc ar lo, ex, 0, 0)) rfl ?_
  refine to_n 1 (fr' := (1, [(0, .ref 33)], [.ref 33], gh S a b sc ar lo, ex, 0, 0)) rfl ?_
  refine to_getR (v := (nI t)) rfl rfl rfl rfl et ?_
  refine to_nf_gt (t := 9) (x := t) rfl (by omega) (fun q1 => ?_) (fun q1 => ?_)
  · refine to_n 2 (fr' := (11, [(0, .ref 33)], [.ref 33, .ref 33], gh S a b sc ar lo, ex, 0, 0)) rfl ?_
    refine to_getR (v := (nI t)) rfl rfl rfl rfl et ?_
    refine to_n 1 (fr' := (15, [(0, .ref 33)], [.int 1, .int (nI t), .ref 33], gh S a b sc ar lo, ex, 0, 0)) rfl ?_
    refine to_subN (x := t) (y := 1) rfl (by omega) ?_
    refine to_putR (h' := gh S a b (upd sc 3304 (nI (t - 1))) ar lo) rfl rfl rfl (Nat.le_of_ble_eq_true rfl) rfl rfl ?_
    have hI2 := ip_3304 (v := (nI (t - 1))) hI (rl_n (n := (t - 1)) (by omega))
    have hF2 := fr_s (k := 3304) (v := (nI (t - 1))) hF (by decide)
    refine to_n 1 (fr' := (20, [(0, .ref 33)], [.ref 33], gh S a b (upd sc 3304 (nI (t - 1))) ar lo, ex, 0, 0)) rfl ?_
    refine to_get rfl rfl rfl rfl ?_
    refine to_n 1 (fr' := (24, [(0, .ref 33)], [.ref 33, .ref 35], gh S a b (upd sc 3304 (nI (t - 1))) ar lo, ex, 0, 0)) rfl ?_
    refine to_getR (v := (nI (t - 1))) rfl rfl rfl rfl rfl ?_
    refine to_ialR (i := (t - 1)) (v := (ar 35 (t - 1))) rfl (by decide) rfl (by omega) (by omega) (congrFun (hF2.2 35 (by decide)) (t - 1)) ?_
    exact to_rt (i := .ireturn) (tg := []) rfl rfl ⟨_, _, _, ⟨hI2, hF2, (by unfold zpop; rw [if_neg (by omega)]; exact ⟨rfl, rfl⟩)⟩, rfl⟩
  · refine to_n 1 (fr' := (8, [(0, .ref 33)], [.int 0], gh S a b sc ar lo, ex, 0, 0)) rfl ?_
    exact to_rt (i := .ireturn) (tg := []) rfl rfl ⟨_, _, _, ⟨hI, hF, (by unfold zpop; rw [if_pos (by omega), show t - 1 = t by omega]; exact ⟨rfl, et⟩)⟩, rfl⟩
set_option maxRecDepth 20000 in
theorem sf_X3_learn {X : Nat × (Nat → Int32)} {S a b : Nat} {sc : Nat → Int32} {ar : Nat → Nat → Int32} {lo : Nat → Int64} {ex : Bool} (hW : Wd S a b) (hI : Iv S sc ar) (x1 : Int32) (x2 : Int32) (d : Nat)  : cv X S a b (d + 1) 30 [.ref 33, .int x1, .int x2] sc ar lo ex (fun sc' ar' => Iv S sc' ar' ∧ Fr [] [34] sc ar sc' ar' ∧ ar' 34 = zln (ar 34) x1 x2) := by
  obtain ⟨ha1, ha8, hb1, hb8, hab, hS1, hS⟩ := id hW
  refine cv_of (M := an_X3_learn) rfl (Nat.le_of_ble_eq_true rfl) ?_
  have hF : Fr [] [34] sc ar sc ar := fr_0
  refine to_eq (fr' := (0, [(0, .ref 33), (1, .int x1), (2, .int x2)], [], gh S a b sc ar lo, ex, 0, 0)) rfl ?_
  refine to_n 5 (fr' := (6, [(0, .ref 33), (1, .int x1), (2, .int x2), (3, .int ((-20) - x1))], [.int ((-20) - x1)], gh S a b sc ar lo, ex, 0, 0)) rfl ?_
  refine to_if_lt (t := 25) rfl (fun q1 => ?_) (fun q1 => ?_)
  · exact to_rt (i := .return_) (tg := []) rfl rfl ⟨_, _, ⟨hI, hF, (by unfold zln; rw [if_neg (fun w => Int32.not_lt.mpr w.1 q1)])⟩, rfl⟩
  · obtain ⟨n2, hn2, e2⟩ := nI_of q1
    rw [e2]
    refine to_eq (fr' := (9, [(0, .ref 33), (1, .int x1), (2, .int x2), (3, .int (nI n2))], [], gh S a b sc ar lo, ex, 0, 0)) rfl ?_
    refine to_n 2 (fr' := (11, [(0, .ref 33), (1, .int x1), (2, .int x2), (3, .int (nI n2))], [.ref 33, .int (nI n2)], gh S a b sc ar lo, ex, 0, 0)) rfl ?_
    refine to_get rfl rfl rfl rfl ?_
    refine to_len rfl (by decide) rfl (by decide) ?_
    refine to_eq (fr' := (15, [(0, .ref 33), (1, .int x1), (2, .int x2), (3, .int (nI n2))], [.int (nI 8), .int (nI n2)], gh S a b sc ar lo, ex, 0, 0)) rfl ?_
    refine to_nc_ge (t := 25) (x := n2) (y := 8) rfl (by omega) (by omega) (fun q3 => ?_) (fun q3 => ?_)
    · exact to_rt (i := .return_) (tg := []) rfl rfl ⟨_, _, ⟨hI, hF, (by unfold zln; rw [if_neg (za_4 (by omega) (by omega) e2)])⟩, rfl⟩
    · refine to_n 1 (fr' := (19, [(0, .ref 33), (1, .int x1), (2, .int x2), (3, .int (nI n2))], [.ref 33], gh S a b sc ar lo, ex, 0, 0)) rfl ?_
      refine to_get rfl rfl rfl rfl ?_
      refine to_n 2 (fr' := (24, [(0, .ref 33), (1, .int x1), (2, .int x2), (3, .int (nI n2))], [.int x2, .int (nI n2), .ref 34], gh S a b sc ar lo, ex, 0, 0)) rfl ?_
      refine to_iasR (i := n2) (h' := gh S a b sc (uA ar 34 (upd (ar 34) n2 x2)) lo) rfl rfl (by omega) (by omega) rfl ?_
      have hI4 := ia_34 (g := (upd (ar 34) n2 x2)) hI
      have hF4 := fr_a (c := 34) (g := (upd (ar 34) n2 x2)) hF (by decide)
      exact to_rt (i := .return_) (tg := []) rfl rfl ⟨_, _, ⟨hI4, hF4, (by unfold zln; rw [if_pos (za_3 (by omega) e2), e2, nI_clamp (by omega)]; rfl)⟩, rfl⟩
set_option maxRecDepth 20000 in
theorem sf_X3_join {X : Nat × (Nat → Int32)} {S a b : Nat} {sc : Nat → Int32} {ar : Nat → Nat → Int32} {lo : Nat → Int64} {ex : Bool} (hW : Wd S a b) (hI : Iv S sc ar) (x1 : Int32) (x2 : Int32) (x3 : Int32) (d : Nat)  : cp X S a b (d + 1) 33 [.int x1, .int x2, .int x3] sc ar lo ex (fun x => x = zjo x1 x2 x3) := by
  obtain ⟨ha1, ha8, hb1, hb8, hab, hS1, hS⟩ := id hW
  refine cp_of (M := an_X3_join) rfl (Nat.le_of_ble_eq_true rfl) ?_
  refine to_eq (fr' := (0, [(0, .int x1), (1, .int x2), (2, .int x3)], [], gh S a b sc ar lo, ex, 0, 0)) rfl ?_
  refine to_n 1 (fr' := (1, [(0, .int x1), (1, .int x2), (2, .int x3)], [.int x1], gh S a b sc ar lo, ex, 0, 0)) rfl ?_
  rcases Decidable.em (x1 = (-14)) with z1 | z1
  · refine to_eq (fr' := (1, [(0, .int x1), (1, .int x2), (2, .int x3)], [.int (-14)], gh S a b sc ar lo, ex, 0, 0)) (by rw [z1]) ?_
    refine to_n 1 (fr' := (82, [(0, .int x1), (1, .int x2), (2, .int x3)], [], gh S a b sc ar lo, ex, 0, 0)) rfl ?_
    refine to_n 1 (fr' := (83, [(0, .int x1), (1, .int x2), (2, .int x3)], [.int x2], gh S a b sc ar lo, ex, 0, 0)) rfl ?_
    refine to_if_eq (t := 94) rfl (fun q2 => ?_) (fun q2 => ?_)
    · refine to_n 1 (fr' := (95, [(0, .int x1), (1, .int x2), (2, .int x3)], [.int 0], gh S a b sc ar lo, ex, 0, 0)) rfl ?_
      exact to_rt (i := .ireturn) (tg := []) rfl rfl ⟨_, (by rw [z1, zjo_14]; exact (if_neg (fun w => w.1 q2)).symm), rfl⟩
    · refine to_n 1 (fr' := (87, [(0, .int x1), (1, .int x2), (2, .int x3)], [.int x3], gh S a b sc ar lo, ex, 0, 0)) rfl ?_
      refine to_if_eq (t := 94) rfl (fun q3 => ?_) (fun q3 => ?_)
      · refine to_n 1 (fr' := (95, [(0, .int x1), (1, .int x2), (2, .int x3)], [.int 0], gh S a b sc ar lo, ex, 0, 0)) rfl ?_
        exact to_rt (i := .ireturn) (tg := []) rfl rfl ⟨_, (by rw [z1, zjo_14]; exact (if_neg (fun w => w.2 q3)).symm), rfl⟩
      · refine to_n 2 (fr' := (95, [(0, .int x1), (1, .int x2), (2, .int x3)], [.int 1], gh S a b sc ar lo, ex, 0, 0)) rfl ?_
        exact to_rt (i := .ireturn) (tg := []) rfl rfl ⟨_, (by rw [z1, zjo_14]; exact (if_pos ⟨q2, q3⟩).symm), rfl⟩
  · rcases Decidable.em (x1 = (-11)) with z4 | z4
    · refine to_eq (fr' := (1, [(0, .int x1), (1, .int x2), (2, .int x3)], [.int (-11)], gh S a b sc ar lo, ex, 0, 0)) (by rw [z4]) ?_
      refine to_n 1 (fr' := (71, [(0, .int x1), (1, .int x2), (2, .int x3)], [], gh S a b sc ar lo, ex, 0, 0)) rfl ?_
      refine to_n 2 (fr' := (73, [(0, .int x1), (1, .int x2), (2, .int x3)], [.int x3, .int x2], gh S a b sc ar lo, ex, 0, 0)) rfl ?_
      refine to_ic_ne (t := 80) rfl (fun q5 => ?_) (fun q5 => ?_)
      · refine to_n 1 (fr' := (81, [(0, .int x1), (1, .int x2), (2, .int x3)], [.int 0], gh S a b sc ar lo, ex, 0, 0)) rfl ?_
        exact to_rt (i := .ireturn) (tg := []) rfl rfl ⟨_, (by rw [z4, zjo_11]; exact (if_neg q5).symm), rfl⟩
      · refine to_n 2 (fr' := (81, [(0, .int x1), (1, .int x2), (2, .int x3)], [.int 1], gh S a b sc ar lo, ex, 0, 0)) rfl ?_
        exact to_rt (i := .ireturn) (tg := []) rfl rfl ⟨_, (by rw [z4, zjo_11]; exact (if_pos q5).symm), rfl⟩
    · rcases Decidable.em (x1 = (-10)) with z6 | z6
      · refine to_eq (fr' := (1, [(0, .int x1), (1, .int x2), (2, .int x3)], [.int (-10)], gh S a b sc ar lo, ex, 0, 0)) (by rw [z6]) ?_
        refine to_n 1 (fr' := (60, [(0, .int x1), (1, .int x2), (2, .int x3)], [], gh S a b sc ar lo, ex, 0, 0)) rfl ?_
        refine to_n 2 (fr' := (62, [(0, .int x1), (1, .int x2), (2, .int x3)], [.int x3, .int x2], gh S a b sc ar lo, ex, 0, 0)) rfl ?_
        refine to_ic_ge (t := 69) rfl (fun q7 => ?_) (fun q7 => ?_)
        · refine to_n 1 (fr' := (70, [(0, .int x1), (1, .int x2), (2, .int x3)], [.int 0], gh S a b sc ar lo, ex, 0, 0)) rfl ?_
          exact to_rt (i := .ireturn) (tg := []) rfl rfl ⟨_, (by rw [z6, zjo_10]; exact (if_neg (Int32.not_lt.mpr q7)).symm), rfl⟩
        · refine to_n 2 (fr' := (70, [(0, .int x1), (1, .int x2), (2, .int x3)], [.int 1], gh S a b sc ar lo, ex, 0, 0)) rfl ?_
          exact to_rt (i := .ireturn) (tg := []) rfl rfl ⟨_, (by rw [z6, zjo_10]; exact (if_pos (Int32.not_le.mp q7)).symm), rfl⟩
      · rcases Decidable.em (x1 = (-9)) with z8 | z8
        · refine to_eq (fr' := (1, [(0, .int x1), (1, .int x2), (2, .int x3)], [.int (-9)], gh S a b sc ar lo, ex, 0, 0)) (by rw [z8]) ?_
          refine to_n 1 (fr' := (56, [(0, .int x1), (1, .int x2), (2, .int x3)], [], gh S a b sc ar lo, ex, 0, 0)) rfl ?_
          refine to_n 3 (fr' := (59, [(0, .int x1), (1, .int x2), (2, .int x3)], [.int (x2 * x3)], gh S a b sc ar lo, ex, 0, 0)) rfl ?_
          exact to_rt (i := .ireturn) (tg := []) rfl rfl ⟨_, (by rw [z8]; exact zjo_9.symm), rfl⟩
        · rcases Decidable.em (x1 = (-8)) with z9 | z9
          · refine to_eq (fr' := (1, [(0, .int x1), (1, .int x2), (2, .int x3)], [.int (-8)], gh S a b sc ar lo, ex, 0, 0)) (by rw [z9]) ?_
            refine to_n 1 (fr' := (52, [(0, .int x1), (1, .int x2), (2, .int x3)], [], gh S a b sc ar lo, ex, 0, 0)) rfl ?_
            refine to_n 3 (fr' := (55, [(0, .int x1), (1, .int x2), (2, .int x3)], [.int (x2 - x3)], gh S a b sc ar lo, ex, 0, 0)) rfl ?_
            exact to_rt (i := .ireturn) (tg := []) rfl rfl ⟨_, (by rw [z9]; exact zjo_8.symm), rfl⟩
          · rcases Decidable.em (x1 = (-7)) with z10 | z10
            · refine to_eq (fr' := (1, [(0, .int x1), (1, .int x2), (2, .int x3)], [.int (-7)], gh S a b sc ar lo, ex, 0, 0)) (by rw [z10]) ?_
              refine to_n 1 (fr' := (48, [(0, .int x1), (1, .int x2), (2, .int x3)], [], gh S a b sc ar lo, ex, 0, 0)) rfl ?_
              refine to_n 3 (fr' := (51, [(0, .int x1), (1, .int x2), (2, .int x3)], [.int (x2 + x3)], gh S a b sc ar lo, ex, 0, 0)) rfl ?_
              exact to_rt (i := .ireturn) (tg := []) rfl rfl ⟨_, (by rw [z10]; exact zjo_7.symm), rfl⟩
            · refine to_tbf (t := 96) (ms := [1, 4, 5, 6, 7, 8]) rfl rfl (by decide) rfl (by decide) (List.forall_mem_cons.mpr ⟨sw_ne z1 (by decide), (List.forall_mem_cons.mpr ⟨sw_ne z4 (by decide), (List.forall_mem_cons.mpr ⟨sw_ne z6 (by decide), (List.forall_mem_cons.mpr ⟨sw_ne z8 (by decide), (List.forall_mem_cons.mpr ⟨sw_ne z9 (by decide), (List.forall_mem_cons.mpr ⟨sw_ne z10 (by decide), (fun m h => absurd h List.not_mem_nil)⟩)⟩)⟩)⟩)⟩)⟩) ?_
              refine to_n 1 (fr' := (97, [(0, .int x1), (1, .int x2), (2, .int x3)], [.int x2], gh S a b sc ar lo, ex, 0, 0)) rfl ?_
              refine to_if_ne (t := 104) rfl (fun q11 => ?_) (fun q11 => ?_)
              · refine to_n 2 (fr' := (109, [(0, .int x1), (1, .int x2), (2, .int x3)], [.int 1], gh S a b sc ar lo, ex, 0, 0)) rfl ?_
                exact to_rt (i := .ireturn) (tg := []) rfl rfl ⟨_, (by rw [zjo_d z1 z4 z6 z8 z9 z10]; exact (if_pos (Or.inl q11)).symm), rfl⟩
              · refine to_n 1 (fr' := (101, [(0, .int x1), (1, .int x2), (2, .int x3)], [.int x3], gh S a b sc ar lo, ex, 0, 0)) rfl ?_
                refine to_if_eq (t := 108) rfl (fun q12 => ?_) (fun q12 => ?_)
                · refine to_n 1 (fr' := (109, [(0, .int x1), (1, .int x2), (2, .int x3)], [.int 0], gh S a b sc ar lo, ex, 0, 0)) rfl ?_
                  exact to_rt (i := .ireturn) (tg := []) rfl rfl ⟨_, (by rw [zjo_d z1 z4 z6 z8 z9 z10]; exact (if_neg (fun w => w.elim (fun u => u q11) (fun u => u q12))).symm), rfl⟩
                · refine to_n 2 (fr' := (109, [(0, .int x1), (1, .int x2), (2, .int x3)], [.int 1], gh S a b sc ar lo, ex, 0, 0)) rfl ?_
                  exact to_rt (i := .ireturn) (tg := []) rfl rfl ⟨_, (by rw [zjo_d z1 z4 z6 z8 z9 z10]; exact (if_pos (Or.inr q12)).symm), rfl⟩
set_option maxRecDepth 20000 in
theorem sf_X3_take {X : Nat × (Nat → Int32)} {S a b : Nat} {sc : Nat → Int32} {ar : Nat → Nat → Int32} {lo : Nat → Int64} {ex : Bool} (hW : Wd S a b) (hI : Iv S sc ar) (x1 : Int32) (t : Nat) (ht : t < 21) (et : sc 3304 = nI t) (d : Nat)  : cv X S a b (d + 2) 32 [.ref 33, .int x1] sc ar lo ex (fun sc' ar' => Iv S sc' ar' ∧ Fr [3300, 3301, 3304] [35] sc ar sc' ar' ∧ zjr (ar 34) x1 t sc sc' ar ar') := by
  obtain ⟨ha1, ha8, hb1, hb8, hab, hS1, hS⟩ := id hW
  refine cv_of (M := an_X3_take) rfl (Nat.le_of_ble_eq_true rfl) ?_
  have hF : Fr [3300, 3301, 3304] [35] sc ar sc ar := fr_0
  refine to_eq (fr' := (0, [(0, .ref 33), (1, .int x1)], [], gh S a b sc ar lo, ex, 0, 0)) rfl ?_
  refine to_n 5 (fr' := (6, [(0, .ref 33), (1, .int x1), (2, .int ((-20) - x1))], [.int x1], gh S a b sc ar lo, ex, 0, 0)) rfl ?_
  refine to_if_lt (t := 17) rfl (fun q1 => ?_) (fun q1 => ?_)
  · refine to_n 1 (fr' := (18, [(0, .ref 33), (1, .int x1), (2, .int ((-20) - x1))], [.int ((-20) - x1)], gh S a b sc ar lo, ex, 0, 0)) rfl ?_
    refine to_if_lt (t := 43) rfl (fun q2 => ?_) (fun q2 => ?_)
    · refine to_n 2 (fr' := (46, [(0, .ref 33), (1, .int x1), (2, .int ((-20) - x1))], [.int (-12), .int x1], gh S a b sc ar lo, ex, 0, 0)) rfl ?_
      refine to_ic_ne (t := 75) rfl (fun q4 => ?_) (fun q4 => ?_)
      · refine to_n 2 (fr' := (78, [(0, .ref 33), (1, .int x1), (2, .int ((-20) - x1))], [.int (-13), .int x1], gh S a b sc ar lo, ex, 0, 0)) rfl ?_
        refine to_ic_ne (t := 97) rfl (fun q5 => ?_) (fun q5 => ?_)
        · refine to_n 2 (fr' := (100, [(0, .ref 33), (1, .int x1), (2, .int ((-20) - x1))], [.int (-16), .int x1], gh S a b sc ar lo, ex, 0, 0)) rfl ?_
          refine to_ic_ne (t := 122) rfl (fun q6 => ?_) (fun q6 => ?_)
          · refine to_n 1 (fr' := (123, [(0, .ref 33), (1, .int x1), (2, .int ((-20) - x1))], [.ref 33], gh S a b sc ar lo, ex, 0, 0)) rfl ?_
            refine to_ci (q := 35) (M1 := an_X3_pop) (rest := []) rfl rfl (by decide) rfl ⟨_, rfl⟩ (sf_X3_pop hW hI t (by omega) et d) (fun x7 sc7 ar7 hx7 => ?_)
            obtain ⟨hI7, hG7, hx7⟩ := hx7
            have hF7 := fr_t hF hG7 (by decide) (by decide)
            obtain rfl : ar = ar7 := fr_nil hG7
            have hp7 := hx7
            obtain ⟨hv7, ht7⟩ := hp7
            refine to_eq (fr' := (126, [(0, .ref 33), (1, .int x1), (2, .int ((-20) - x1))], [.int x7], gh S a b sc7 ar lo, ex, 0, 0)) rfl ?_
            refine to_n 2 (fr' := (128, [(0, .ref 33), (1, .int x1), (2, .int ((-20) - x1)), (3, .int x7)], [.ref 33], gh S a b sc7 ar lo, ex, 0, 0)) rfl ?_
            refine to_ci (q := 35) (M1 := an_X3_pop) (rest := []) rfl rfl (by decide) rfl ⟨_, rfl⟩ (sf_X3_pop hW hI7 (t - 1) (by omega) ht7 d) (fun x8 sc8 ar8 hx8 => ?_)
            obtain ⟨hI8, hG8, hx8⟩ := hx8
            have hF8 := fr_t hF7 hG8 (by decide) (by decide)
            obtain rfl : ar = ar8 := fr_nil hG8
            have hp8 := hx8
            obtain ⟨hv8, ht8⟩ := hp8
            refine to_eq (fr' := (131, [(0, .ref 33), (1, .int x1), (2, .int ((-20) - x1)), (3, .int x7)], [.int x8], gh S a b sc8 ar lo, ex, 0, 0)) rfl ?_
            refine to_n 5 (fr' := (138, [(0, .ref 33), (1, .int x1), (2, .int ((-20) - x1)), (3, .int x7), (4, .int x8)], [.int x7, .int x8, .int x1, .ref 33], gh S a b sc8 ar lo, ex, 0, 0)) rfl ?_
            refine to_cp (q := 33) (M1 := an_X3_join) (rest := [.ref 33]) rfl rfl (by decide) rfl trivial (sf_X3_join hW hI8 x1 x8 x7 d) (fun x9 hx9 => ?_)
            have hp9 := hx9
            refine to_eq (fr' := (141, [(0, .ref 33), (1, .int x1), (2, .int ((-20) - x1)), (3, .int x7), (4, .int x8)], [.int x9, .ref 33], gh S a b sc8 ar lo, ex, 0, 0)) rfl ?_
            refine to_cv (q := 34) (M1 := an_X3_push) (rest := []) rfl rfl (by decide) rfl ⟨_, rfl⟩ (sf_X3_push hW hI8 x9 ((t - 1) - 1) (by omega) ht8 d) (fun sc10 ar10 hx10 => ?_)
            obtain ⟨hI10, hG10, hx10⟩ := hx10
            have hF10 := fr_t hF8 hG10 (by decide) (by decide)
            refine to_eq (fr' := (144, [(0, .ref 33), (1, .int x1), (2, .int ((-20) - x1)), (3, .int x7), (4, .int x8)], [], gh S a b sc10 ar10 lo, ex, 0, 0)) rfl ?_
            exact to_rt (i := .return_) (tg := []) rfl rfl ⟨_, _, ⟨hI10, hF10, (zjr_of (zt_two (Int32.not_le.mpr q1) (fun w => Int32.not_lt.mpr w.1 q2) q4 q5 q6) (by dsimp only; rw [← hv7, ← hv8, ← hp9]; exact hx10.1) (by dsimp only; rw [← hv7, ← hv8, ← hp9]; exact hx10.2) (show sc10 3300 = sc 3300 from ((hG10.1 3300 (by decide)).trans ((hG8.1 3300 (by decide)).trans ((hG7.1 3300 (by decide)).trans rfl)))) (show sc10 3301 = sc 3301 from ((hG10.1 3301 (by decide)).trans ((hG8.1 3301 (by decide)).trans ((hG7.1 3301 (by decide)).trans rfl)))))⟩, rfl⟩
          · refine to_n 2 (fr' := (105, [(0, .ref 33), (1, .int x1), (2, .int ((-20) - x1))], [.ref 33, .ref 33], gh S a b sc ar lo, ex, 0, 0)) rfl ?_
            refine to_ci (q := 35) (M1 := an_X3_pop) (rest := [.ref 33]) rfl rfl (by decide) rfl ⟨_, rfl⟩ (sf_X3_pop hW hI t (by omega) et d) (fun x11 sc11 ar11 hx11 => ?_)
            obtain ⟨hI11, hG11, hx11⟩ := hx11
            have hF11 := fr_t hF hG11 (by decide) (by decide)
            obtain rfl : ar = ar11 := fr_nil hG11
            have hp11 := hx11
            obtain ⟨hv11, ht11⟩ := hp11
            refine to_eq (fr' := (108, [(0, .ref 33), (1, .int x1), (2, .int ((-20) - x1))], [.int x11, .ref 33], gh S a b sc11 ar lo, ex, 0, 0)) rfl ?_
            refine to_if_ne (t := 115) rfl (fun q12 => ?_) (fun q12 => ?_)
            · refine to_n 1 (fr' := (116, [(0, .ref 33), (1, .int x1), (2, .int ((-20) - x1))], [.int 0, .ref 33], gh S a b sc11 ar lo, ex, 0, 0)) rfl ?_
              refine to_cv (q := 34) (M1 := an_X3_push) (rest := []) rfl rfl (by decide) rfl ⟨_, rfl⟩ (sf_X3_push hW hI11 0 (t - 1) (by omega) ht11 d) (fun sc13 ar13 hx13 => ?_)
              obtain ⟨hI13, hG13, hx13⟩ := hx13
              have hF13 := fr_t hF11 hG13 (by decide) (by decide)
              refine to_eq (fr' := (119, [(0, .ref 33), (1, .int x1), (2, .int ((-20) - x1))], [], gh S a b sc13 ar13 lo, ex, 0, 0)) rfl ?_
              refine to_n 1 (fr' := (144, [(0, .ref 33), (1, .int x1), (2, .int ((-20) - x1))], [], gh S a b sc13 ar13 lo, ex, 0, 0)) rfl ?_
              exact to_rt (i := .return_) (tg := []) rfl rfl ⟨_, _, ⟨hI13, hF13, (zjr_of (by rw [q6]; exact zt_not) (by dsimp only; rw [if_neg (fun e => q12 (hv11.trans e))]; exact hx13.1) (by dsimp only; rw [if_neg (fun e => q12 (hv11.trans e))]; exact hx13.2) (show sc13 3300 = sc 3300 from ((hG13.1 3300 (by decide)).trans ((hG11.1 3300 (by decide)).trans rfl))) (show sc13 3301 = sc 3301 from ((hG13.1 3301 (by decide)).trans ((hG11.1 3301 (by decide)).trans rfl))))⟩, rfl⟩
            · refine to_n 2 (fr' := (116, [(0, .ref 33), (1, .int x1), (2, .int ((-20) - x1))], [.int 1, .ref 33], gh S a b sc11 ar lo, ex, 0, 0)) rfl ?_
              refine to_cv (q := 34) (M1 := an_X3_push) (rest := []) rfl rfl (by decide) rfl ⟨_, rfl⟩ (sf_X3_push hW hI11 1 (t - 1) (by omega) ht11 d) (fun sc14 ar14 hx14 => ?_)
              obtain ⟨hI14, hG14, hx14⟩ := hx14
              have hF14 := fr_t hF11 hG14 (by decide) (by decide)
              refine to_eq (fr' := (119, [(0, .ref 33), (1, .int x1), (2, .int ((-20) - x1))], [], gh S a b sc14 ar14 lo, ex, 0, 0)) rfl ?_
              refine to_n 1 (fr' := (144, [(0, .ref 33), (1, .int x1), (2, .int ((-20) - x1))], [], gh S a b sc14 ar14 lo, ex, 0, 0)) rfl ?_
              exact to_rt (i := .return_) (tg := []) rfl rfl ⟨_, _, ⟨hI14, hF14, (zjr_of (by rw [q6]; exact zt_not) (by dsimp only; rw [if_pos (hv11.symm.trans q12)]; exact hx14.1) (by dsimp only; rw [if_pos (hv11.symm.trans q12)]; exact hx14.2) (show sc14 3300 = sc 3300 from ((hG14.1 3300 (by decide)).trans ((hG11.1 3300 (by decide)).trans rfl))) (show sc14 3301 = sc 3301 from ((hG14.1 3301 (by decide)).trans ((hG11.1 3301 (by decide)).trans rfl))))⟩, rfl⟩
        · refine to_n 2 (fr' := (83, [(0, .ref 33), (1, .int x1), (2, .int ((-20) - x1))], [.ref 33, .ref 33], gh S a b sc ar lo, ex, 0, 0)) rfl ?_
          refine to_getR (v := (sc 3301)) rfl rfl rfl rfl rfl ?_
          refine to_n 1 (fr' := (87, [(0, .ref 33), (1, .int x1), (2, .int ((-20) - x1))], [.ref 33, .int (sc 3301), .ref 33], gh S a b sc ar lo, ex, 0, 0)) rfl ?_
          refine to_ci (q := 35) (M1 := an_X3_pop) (rest := [.int (sc 3301), .ref 33]) rfl rfl (by decide) rfl ⟨_, rfl⟩ (sf_X3_pop hW hI t (by omega) et d) (fun x15 sc15 ar15 hx15 => ?_)
          obtain ⟨hI15, hG15, hx15⟩ := hx15
          have hF15 := fr_t hF hG15 (by decide) (by decide)
          obtain rfl : ar = ar15 := fr_nil hG15
          have hp15 := hx15
          obtain ⟨hv15, ht15⟩ := hp15
          refine to_eq (fr' := (90, [(0, .ref 33), (1, .int x1), (2, .int ((-20) - x1))], [.int x15, .int (sc 3301), .ref 33], gh S a b sc15 ar lo, ex, 0, 0)) rfl ?_
          refine to_n 1 (fr' := (91, [(0, .ref 33), (1, .int x1), (2, .int ((-20) - x1))], [.int ((sc 3301) + x15), .ref 33], gh S a b sc15 ar lo, ex, 0, 0)) rfl ?_
          refine to_putR (h' := gh S a b (upd sc15 3301 ((sc 3301) + x15)) ar lo) rfl rfl rfl (Nat.le_of_ble_eq_true rfl) rfl rfl ?_
          have hI16 := ip_3301 (v := ((sc 3301) + x15)) hI15 
          have hF16 := fr_s (k := 3301) (v := ((sc 3301) + x15)) hF15 (by decide)
          refine to_n 1 (fr' := (144, [(0, .ref 33), (1, .int x1), (2, .int ((-20) - x1))], [], gh S a b (upd sc15 3301 ((sc 3301) + x15)) ar lo, ex, 0, 0)) rfl ?_
          exact to_rt (i := .return_) (tg := []) rfl rfl ⟨_, _, ⟨hI16, hF16, (zjr_of (by rw [q5]; exact zt_pay) rfl (show (upd sc15 3301 ((sc 3301) + x15)) 3304 = _ from ht15) (show (upd sc15 3301 ((sc 3301) + x15)) 3300 = sc 3300 from ((hG15.1 3300 (by decide)).trans rfl)) (congrArg (fun z => sc 3301 + z) hv15))⟩, rfl⟩
      · refine to_n 2 (fr' := (51, [(0, .ref 33), (1, .int x1), (2, .int ((-20) - x1))], [.ref 33, .ref 33], gh S a b sc ar lo, ex, 0, 0)) rfl ?_
        refine to_ci (q := 35) (M1 := an_X3_pop) (rest := [.ref 33]) rfl rfl (by decide) rfl ⟨_, rfl⟩ (sf_X3_pop hW hI t (by omega) et d) (fun x17 sc17 ar17 hx17 => ?_)
        obtain ⟨hI17, hG17, hx17⟩ := hx17
        have hF17 := fr_t hF hG17 (by decide) (by decide)
        obtain rfl : ar = ar17 := fr_nil hG17
        have hp17 := hx17
        obtain ⟨hv17, ht17⟩ := hp17
        refine to_eq (fr' := (54, [(0, .ref 33), (1, .int x1), (2, .int ((-20) - x1))], [.int x17, .ref 33], gh S a b sc17 ar lo, ex, 0, 0)) rfl ?_
        refine to_if_ne (t := 64) rfl (fun q18 => ?_) (fun q18 => ?_)
        · refine to_n 2 (fr' := (69, [(0, .ref 33), (1, .int x1), (2, .int ((-20) - x1))], [.int 1, .ref 33], gh S a b sc17 ar lo, ex, 0, 0)) rfl ?_
          refine to_putR (h' := gh S a b (upd sc17 3300 1) ar lo) rfl rfl rfl (Nat.le_of_ble_eq_true rfl) rfl rfl ?_
          have hI19 := ip_3300 (v := 1) hI17 (rl_n (n := 1) (by omega))
          have hF19 := fr_s (k := 3300) (v := 1) hF17 (by decide)
          refine to_n 1 (fr' := (144, [(0, .ref 33), (1, .int x1), (2, .int ((-20) - x1))], [], gh S a b (upd sc17 3300 1) ar lo, ex, 0, 0)) rfl ?_
          exact to_rt (i := .return_) (tg := []) rfl rfl ⟨_, _, ⟨hI19, hF19, (zjr_of (by rw [q4]; exact zt_call) rfl (show (upd sc17 3300 1) 3304 = _ from ht17) (if_pos (Or.inl (fun e9 => q18 (hv17.trans e9)))).symm (show (upd sc17 3300 1) 3301 = sc 3301 from ((hG17.1 3301 (by decide)).trans rfl)))⟩, rfl⟩
        · refine to_n 1 (fr' := (58, [(0, .ref 33), (1, .int x1), (2, .int ((-20) - x1))], [.ref 33, .ref 33], gh S a b sc17 ar lo, ex, 0, 0)) rfl ?_
          refine to_getR (v := (sc17 3300)) rfl rfl rfl rfl rfl ?_
          refine to_if_eq (t := 68) rfl (fun q20 => ?_) (fun q20 => ?_)
          · refine to_n 1 (fr' := (69, [(0, .ref 33), (1, .int x1), (2, .int ((-20) - x1))], [.int 0, .ref 33], gh S a b sc17 ar lo, ex, 0, 0)) rfl ?_
            refine to_putR (h' := gh S a b (upd sc17 3300 0) ar lo) rfl rfl rfl (Nat.le_of_ble_eq_true rfl) rfl rfl ?_
            have hI21 := ip_3300 (v := 0) hI17 (rl_n (n := 0) (by omega))
            have hF21 := fr_s (k := 3300) (v := 0) hF17 (by decide)
            refine to_n 1 (fr' := (144, [(0, .ref 33), (1, .int x1), (2, .int ((-20) - x1))], [], gh S a b (upd sc17 3300 0) ar lo, ex, 0, 0)) rfl ?_
            exact to_rt (i := .return_) (tg := []) rfl rfl ⟨_, _, ⟨hI21, hF21, (zjr_of (by rw [q4]; exact zt_call) rfl (show (upd sc17 3300 0) 3304 = _ from ht17) (if_neg (c := ¬ zpop (ar 35) t = 0 ∨ ¬ sc 3300 = 0) (fun w => Or.elim w (fun u => u (hv17.symm.trans q18)) (fun u => u ((hG17.1 3300 (by decide)).symm.trans q20)))).symm (show (upd sc17 3300 0) 3301 = sc 3301 from ((hG17.1 3301 (by decide)).trans rfl)))⟩, rfl⟩
          · refine to_n 2 (fr' := (69, [(0, .ref 33), (1, .int x1), (2, .int ((-20) - x1))], [.int 1, .ref 33], gh S a b sc17 ar lo, ex, 0, 0)) rfl ?_
            refine to_putR (h' := gh S a b (upd sc17 3300 1) ar lo) rfl rfl rfl (Nat.le_of_ble_eq_true rfl) rfl rfl ?_
            have hI22 := ip_3300 (v := 1) hI17 (rl_n (n := 1) (by omega))
            have hF22 := fr_s (k := 3300) (v := 1) hF17 (by decide)
            refine to_n 1 (fr' := (144, [(0, .ref 33), (1, .int x1), (2, .int ((-20) - x1))], [], gh S a b (upd sc17 3300 1) ar lo, ex, 0, 0)) rfl ?_
            exact to_rt (i := .return_) (tg := []) rfl rfl ⟨_, _, ⟨hI22, hF22, (zjr_of (by rw [q4]; exact zt_call) rfl (show (upd sc17 3300 1) 3304 = _ from ht17) (if_pos (Or.inr (fun e9 => q20 ((hG17.1 3300 (by decide)).trans e9)))).symm (show (upd sc17 3300 1) 3301 = sc 3301 from ((hG17.1 3301 (by decide)).trans rfl)))⟩, rfl⟩
    · obtain ⟨n3, hn3, e3⟩ := nI_of q2
      rw [e3]
      refine to_eq (fr' := (21, [(0, .ref 33), (1, .int x1), (2, .int (nI n3))], [], gh S a b sc ar lo, ex, 0, 0)) rfl ?_
      refine to_n 2 (fr' := (23, [(0, .ref 33), (1, .int x1), (2, .int (nI n3))], [.ref 33, .int (nI n3)], gh S a b sc ar lo, ex, 0, 0)) rfl ?_
      refine to_get rfl rfl rfl rfl ?_
      refine to_len rfl (by decide) rfl (by decide) ?_
      refine to_eq (fr' := (27, [(0, .ref 33), (1, .int x1), (2, .int (nI n3))], [.int (nI 8), .int (nI n3)], gh S a b sc ar lo, ex, 0, 0)) rfl ?_
      refine to_nc_ge (t := 43) (x := n3) (y := 8) rfl (by omega) (by omega) (fun q23 => ?_) (fun q23 => ?_)
      · refine to_n 2 (fr' := (46, [(0, .ref 33), (1, .int x1), (2, .int (nI n3))], [.int (-12), .int x1], gh S a b sc ar lo, ex, 0, 0)) rfl ?_
        refine to_ic_ne (t := 75) rfl (fun q24 => ?_) (fun q24 => ?_)
        · refine to_n 2 (fr' := (78, [(0, .ref 33), (1, .int x1), (2, .int (nI n3))], [.int (-13), .int x1], gh S a b sc ar lo, ex, 0, 0)) rfl ?_
          refine to_ic_ne (t := 97) rfl (fun q25 => ?_) (fun q25 => ?_)
          · refine to_n 2 (fr' := (100, [(0, .ref 33), (1, .int x1), (2, .int (nI n3))], [.int (-16), .int x1], gh S a b sc ar lo, ex, 0, 0)) rfl ?_
            refine to_ic_ne (t := 122) rfl (fun q26 => ?_) (fun q26 => ?_)
            · refine to_n 1 (fr' := (123, [(0, .ref 33), (1, .int x1), (2, .int (nI n3))], [.ref 33], gh S a b sc ar lo, ex, 0, 0)) rfl ?_
              refine to_ci (q := 35) (M1 := an_X3_pop) (rest := []) rfl rfl (by decide) rfl ⟨_, rfl⟩ (sf_X3_pop hW hI t (by omega) et d) (fun x27 sc27 ar27 hx27 => ?_)
              obtain ⟨hI27, hG27, hx27⟩ := hx27
              have hF27 := fr_t hF hG27 (by decide) (by decide)
              obtain rfl : ar = ar27 := fr_nil hG27
              have hp27 := hx27
              obtain ⟨hv27, ht27⟩ := hp27
              refine to_eq (fr' := (126, [(0, .ref 33), (1, .int x1), (2, .int (nI n3))], [.int x27], gh S a b sc27 ar lo, ex, 0, 0)) rfl ?_
              refine to_n 2 (fr' := (128, [(0, .ref 33), (1, .int x1), (2, .int (nI n3)), (3, .int x27)], [.ref 33], gh S a b sc27 ar lo, ex, 0, 0)) rfl ?_
              refine to_ci (q := 35) (M1 := an_X3_pop) (rest := []) rfl rfl (by decide) rfl ⟨_, rfl⟩ (sf_X3_pop hW hI27 (t - 1) (by omega) ht27 d) (fun x28 sc28 ar28 hx28 => ?_)
              obtain ⟨hI28, hG28, hx28⟩ := hx28
              have hF28 := fr_t hF27 hG28 (by decide) (by decide)
              obtain rfl : ar = ar28 := fr_nil hG28
              have hp28 := hx28
              obtain ⟨hv28, ht28⟩ := hp28
              refine to_eq (fr' := (131, [(0, .ref 33), (1, .int x1), (2, .int (nI n3)), (3, .int x27)], [.int x28], gh S a b sc28 ar lo, ex, 0, 0)) rfl ?_
              refine to_n 5 (fr' := (138, [(0, .ref 33), (1, .int x1), (2, .int (nI n3)), (3, .int x27), (4, .int x28)], [.int x27, .int x28, .int x1, .ref 33], gh S a b sc28 ar lo, ex, 0, 0)) rfl ?_
              refine to_cp (q := 33) (M1 := an_X3_join) (rest := [.ref 33]) rfl rfl (by decide) rfl trivial (sf_X3_join hW hI28 x1 x28 x27 d) (fun x29 hx29 => ?_)
              have hp29 := hx29
              refine to_eq (fr' := (141, [(0, .ref 33), (1, .int x1), (2, .int (nI n3)), (3, .int x27), (4, .int x28)], [.int x29, .ref 33], gh S a b sc28 ar lo, ex, 0, 0)) rfl ?_
              refine to_cv (q := 34) (M1 := an_X3_push) (rest := []) rfl rfl (by decide) rfl ⟨_, rfl⟩ (sf_X3_push hW hI28 x29 ((t - 1) - 1) (by omega) ht28 d) (fun sc30 ar30 hx30 => ?_)
              obtain ⟨hI30, hG30, hx30⟩ := hx30
              have hF30 := fr_t hF28 hG30 (by decide) (by decide)
              refine to_eq (fr' := (144, [(0, .ref 33), (1, .int x1), (2, .int (nI n3)), (3, .int x27), (4, .int x28)], [], gh S a b sc30 ar30 lo, ex, 0, 0)) rfl ?_
              exact to_rt (i := .return_) (tg := []) rfl rfl ⟨_, _, ⟨hI30, hF30, (zjr_of (zt_two (Int32.not_le.mpr q1) (za_4 (by omega) (by omega) e3) q24 q25 q26) (by dsimp only; rw [← hv27, ← hv28, ← hp29]; exact hx30.1) (by dsimp only; rw [← hv27, ← hv28, ← hp29]; exact hx30.2) (show sc30 3300 = sc 3300 from ((hG30.1 3300 (by decide)).trans ((hG28.1 3300 (by decide)).trans ((hG27.1 3300 (by decide)).trans rfl)))) (show sc30 3301 = sc 3301 from ((hG30.1 3301 (by decide)).trans ((hG28.1 3301 (by decide)).trans ((hG27.1 3301 (by decide)).trans rfl)))))⟩, rfl⟩
            · refine to_n 2 (fr' := (105, [(0, .ref 33), (1, .int x1), (2, .int (nI n3))], [.ref 33, .ref 33], gh S a b sc ar lo, ex, 0, 0)) rfl ?_
              refine to_ci (q := 35) (M1 := an_X3_pop) (rest := [.ref 33]) rfl rfl (by decide) rfl ⟨_, rfl⟩ (sf_X3_pop hW hI t (by omega) et d) (fun x31 sc31 ar31 hx31 => ?_)
              obtain ⟨hI31, hG31, hx31⟩ := hx31
              have hF31 := fr_t hF hG31 (by decide) (by decide)
              obtain rfl : ar = ar31 := fr_nil hG31
              have hp31 := hx31
              obtain ⟨hv31, ht31⟩ := hp31
              refine to_eq (fr' := (108, [(0, .ref 33), (1, .int x1), (2, .int (nI n3))], [.int x31, .ref 33], gh S a b sc31 ar lo, ex, 0, 0)) rfl ?_
              refine to_if_ne (t := 115) rfl (fun q32 => ?_) (fun q32 => ?_)
              · refine to_n 1 (fr' := (116, [(0, .ref 33), (1, .int x1), (2, .int (nI n3))], [.int 0, .ref 33], gh S a b sc31 ar lo, ex, 0, 0)) rfl ?_
                refine to_cv (q := 34) (M1 := an_X3_push) (rest := []) rfl rfl (by decide) rfl ⟨_, rfl⟩ (sf_X3_push hW hI31 0 (t - 1) (by omega) ht31 d) (fun sc33 ar33 hx33 => ?_)
                obtain ⟨hI33, hG33, hx33⟩ := hx33
                have hF33 := fr_t hF31 hG33 (by decide) (by decide)
                refine to_eq (fr' := (119, [(0, .ref 33), (1, .int x1), (2, .int (nI n3))], [], gh S a b sc33 ar33 lo, ex, 0, 0)) rfl ?_
                refine to_n 1 (fr' := (144, [(0, .ref 33), (1, .int x1), (2, .int (nI n3))], [], gh S a b sc33 ar33 lo, ex, 0, 0)) rfl ?_
                exact to_rt (i := .return_) (tg := []) rfl rfl ⟨_, _, ⟨hI33, hF33, (zjr_of (by rw [q26]; exact zt_not) (by dsimp only; rw [if_neg (fun e => q32 (hv31.trans e))]; exact hx33.1) (by dsimp only; rw [if_neg (fun e => q32 (hv31.trans e))]; exact hx33.2) (show sc33 3300 = sc 3300 from ((hG33.1 3300 (by decide)).trans ((hG31.1 3300 (by decide)).trans rfl))) (show sc33 3301 = sc 3301 from ((hG33.1 3301 (by decide)).trans ((hG31.1 3301 (by decide)).trans rfl))))⟩, rfl⟩
              · refine to_n 2 (fr' := (116, [(0, .ref 33), (1, .int x1), (2, .int (nI n3))], [.int 1, .ref 33], gh S a b sc31 ar lo, ex, 0, 0)) rfl ?_
                refine to_cv (q := 34) (M1 := an_X3_push) (rest := []) rfl rfl (by decide) rfl ⟨_, rfl⟩ (sf_X3_push hW hI31 1 (t - 1) (by omega) ht31 d) (fun sc34 ar34 hx34 => ?_)
                obtain ⟨hI34, hG34, hx34⟩ := hx34
                have hF34 := fr_t hF31 hG34 (by decide) (by decide)
                refine to_eq (fr' := (119, [(0, .ref 33), (1, .int x1), (2, .int (nI n3))], [], gh S a b sc34 ar34 lo, ex, 0, 0)) rfl ?_
                refine to_n 1 (fr' := (144, [(0, .ref 33), (1, .int x1), (2, .int (nI n3))], [], gh S a b sc34 ar34 lo, ex, 0, 0)) rfl ?_
                exact to_rt (i := .return_) (tg := []) rfl rfl ⟨_, _, ⟨hI34, hF34, (zjr_of (by rw [q26]; exact zt_not) (by dsimp only; rw [if_pos (hv31.symm.trans q32)]; exact hx34.1) (by dsimp only; rw [if_pos (hv31.symm.trans q32)]; exact hx34.2) (show sc34 3300 = sc 3300 from ((hG34.1 3300 (by decide)).trans ((hG31.1 3300 (by decide)).trans rfl))) (show sc34 3301 = sc 3301 from ((hG34.1 3301 (by decide)).trans ((hG31.1 3301 (by decide)).trans rfl))))⟩, rfl⟩
          · refine to_n 2 (fr' := (83, [(0, .ref 33), (1, .int x1), (2, .int (nI n3))], [.ref 33, .ref 33], gh S a b sc ar lo, ex, 0, 0)) rfl ?_
            refine to_getR (v := (sc 3301)) rfl rfl rfl rfl rfl ?_
            refine to_n 1 (fr' := (87, [(0, .ref 33), (1, .int x1), (2, .int (nI n3))], [.ref 33, .int (sc 3301), .ref 33], gh S a b sc ar lo, ex, 0, 0)) rfl ?_
            refine to_ci (q := 35) (M1 := an_X3_pop) (rest := [.int (sc 3301), .ref 33]) rfl rfl (by decide) rfl ⟨_, rfl⟩ (sf_X3_pop hW hI t (by omega) et d) (fun x35 sc35 ar35 hx35 => ?_)
            obtain ⟨hI35, hG35, hx35⟩ := hx35
            have hF35 := fr_t hF hG35 (by decide) (by decide)
            obtain rfl : ar = ar35 := fr_nil hG35
            have hp35 := hx35
            obtain ⟨hv35, ht35⟩ := hp35
            refine to_eq (fr' := (90, [(0, .ref 33), (1, .int x1), (2, .int (nI n3))], [.int x35, .int (sc 3301), .ref 33], gh S a b sc35 ar lo, ex, 0, 0)) rfl ?_
            refine to_n 1 (fr' := (91, [(0, .ref 33), (1, .int x1), (2, .int (nI n3))], [.int ((sc 3301) + x35), .ref 33], gh S a b sc35 ar lo, ex, 0, 0)) rfl ?_
            refine to_putR (h' := gh S a b (upd sc35 3301 ((sc 3301) + x35)) ar lo) rfl rfl rfl (Nat.le_of_ble_eq_true rfl) rfl rfl ?_
            have hI36 := ip_3301 (v := ((sc 3301) + x35)) hI35 
            have hF36 := fr_s (k := 3301) (v := ((sc 3301) + x35)) hF35 (by decide)
            refine to_n 1 (fr' := (144, [(0, .ref 33), (1, .int x1), (2, .int (nI n3))], [], gh S a b (upd sc35 3301 ((sc 3301) + x35)) ar lo, ex, 0, 0)) rfl ?_
            exact to_rt (i := .return_) (tg := []) rfl rfl ⟨_, _, ⟨hI36, hF36, (zjr_of (by rw [q25]; exact zt_pay) rfl (show (upd sc35 3301 ((sc 3301) + x35)) 3304 = _ from ht35) (show (upd sc35 3301 ((sc 3301) + x35)) 3300 = sc 3300 from ((hG35.1 3300 (by decide)).trans rfl)) (congrArg (fun z => sc 3301 + z) hv35))⟩, rfl⟩
        · refine to_n 2 (fr' := (51, [(0, .ref 33), (1, .int x1), (2, .int (nI n3))], [.ref 33, .ref 33], gh S a b sc ar lo, ex, 0, 0)) rfl ?_
          refine to_ci (q := 35) (M1 := an_X3_pop) (rest := [.ref 33]) rfl rfl (by decide) rfl ⟨_, rfl⟩ (sf_X3_pop hW hI t (by omega) et d) (fun x37 sc37 ar37 hx37 => ?_)
          obtain ⟨hI37, hG37, hx37⟩ := hx37
          have hF37 := fr_t hF hG37 (by decide) (by decide)
          obtain rfl : ar = ar37 := fr_nil hG37
          have hp37 := hx37
          obtain ⟨hv37, ht37⟩ := hp37
          refine to_eq (fr' := (54, [(0, .ref 33), (1, .int x1), (2, .int (nI n3))], [.int x37, .ref 33], gh S a b sc37 ar lo, ex, 0, 0)) rfl ?_
          refine to_if_ne (t := 64) rfl (fun q38 => ?_) (fun q38 => ?_)
          · refine to_n 2 (fr' := (69, [(0, .ref 33), (1, .int x1), (2, .int (nI n3))], [.int 1, .ref 33], gh S a b sc37 ar lo, ex, 0, 0)) rfl ?_
            refine to_putR (h' := gh S a b (upd sc37 3300 1) ar lo) rfl rfl rfl (Nat.le_of_ble_eq_true rfl) rfl rfl ?_
            have hI39 := ip_3300 (v := 1) hI37 (rl_n (n := 1) (by omega))
            have hF39 := fr_s (k := 3300) (v := 1) hF37 (by decide)
            refine to_n 1 (fr' := (144, [(0, .ref 33), (1, .int x1), (2, .int (nI n3))], [], gh S a b (upd sc37 3300 1) ar lo, ex, 0, 0)) rfl ?_
            exact to_rt (i := .return_) (tg := []) rfl rfl ⟨_, _, ⟨hI39, hF39, (zjr_of (by rw [q24]; exact zt_call) rfl (show (upd sc37 3300 1) 3304 = _ from ht37) (if_pos (Or.inl (fun e9 => q38 (hv37.trans e9)))).symm (show (upd sc37 3300 1) 3301 = sc 3301 from ((hG37.1 3301 (by decide)).trans rfl)))⟩, rfl⟩
          · refine to_n 1 (fr' := (58, [(0, .ref 33), (1, .int x1), (2, .int (nI n3))], [.ref 33, .ref 33], gh S a b sc37 ar lo, ex, 0, 0)) rfl ?_
            refine to_getR (v := (sc37 3300)) rfl rfl rfl rfl rfl ?_
            refine to_if_eq (t := 68) rfl (fun q40 => ?_) (fun q40 => ?_)
            · refine to_n 1 (fr' := (69, [(0, .ref 33), (1, .int x1), (2, .int (nI n3))], [.int 0, .ref 33], gh S a b sc37 ar lo, ex, 0, 0)) rfl ?_
              refine to_putR (h' := gh S a b (upd sc37 3300 0) ar lo) rfl rfl rfl (Nat.le_of_ble_eq_true rfl) rfl rfl ?_
              have hI41 := ip_3300 (v := 0) hI37 (rl_n (n := 0) (by omega))
              have hF41 := fr_s (k := 3300) (v := 0) hF37 (by decide)
              refine to_n 1 (fr' := (144, [(0, .ref 33), (1, .int x1), (2, .int (nI n3))], [], gh S a b (upd sc37 3300 0) ar lo, ex, 0, 0)) rfl ?_
              exact to_rt (i := .return_) (tg := []) rfl rfl ⟨_, _, ⟨hI41, hF41, (zjr_of (by rw [q24]; exact zt_call) rfl (show (upd sc37 3300 0) 3304 = _ from ht37) (if_neg (c := ¬ zpop (ar 35) t = 0 ∨ ¬ sc 3300 = 0) (fun w => Or.elim w (fun u => u (hv37.symm.trans q38)) (fun u => u ((hG37.1 3300 (by decide)).symm.trans q40)))).symm (show (upd sc37 3300 0) 3301 = sc 3301 from ((hG37.1 3301 (by decide)).trans rfl)))⟩, rfl⟩
            · refine to_n 2 (fr' := (69, [(0, .ref 33), (1, .int x1), (2, .int (nI n3))], [.int 1, .ref 33], gh S a b sc37 ar lo, ex, 0, 0)) rfl ?_
              refine to_putR (h' := gh S a b (upd sc37 3300 1) ar lo) rfl rfl rfl (Nat.le_of_ble_eq_true rfl) rfl rfl ?_
              have hI42 := ip_3300 (v := 1) hI37 (rl_n (n := 1) (by omega))
              have hF42 := fr_s (k := 3300) (v := 1) hF37 (by decide)
              refine to_n 1 (fr' := (144, [(0, .ref 33), (1, .int x1), (2, .int (nI n3))], [], gh S a b (upd sc37 3300 1) ar lo, ex, 0, 0)) rfl ?_
              exact to_rt (i := .return_) (tg := []) rfl rfl ⟨_, _, ⟨hI42, hF42, (zjr_of (by rw [q24]; exact zt_call) rfl (show (upd sc37 3300 1) 3304 = _ from ht37) (if_pos (Or.inr (fun e9 => q40 ((hG37.1 3300 (by decide)).trans e9)))).symm (show (upd sc37 3300 1) 3301 = sc 3301 from ((hG37.1 3301 (by decide)).trans rfl)))⟩, rfl⟩
      · refine to_n 2 (fr' := (32, [(0, .ref 33), (1, .int x1), (2, .int (nI n3))], [.ref 33, .ref 33], gh S a b sc ar lo, ex, 0, 0)) rfl ?_
        refine to_get rfl rfl rfl rfl ?_
        refine to_n 1 (fr' := (36, [(0, .ref 33), (1, .int x1), (2, .int (nI n3))], [.int (nI n3), .ref 34, .ref 33], gh S a b sc ar lo, ex, 0, 0)) rfl ?_
        refine to_ialR (i := n3) (v := (ar 34 n3)) rfl (by decide) rfl (by omega) (by omega) (congrFun (hF.2 34 (by decide)) n3) ?_
        refine to_cv (q := 34) (M1 := an_X3_push) (rest := []) rfl rfl (by decide) rfl ⟨_, rfl⟩ (sf_X3_push hW hI (ar 34 n3) t (by omega) et d) (fun sc43 ar43 hx43 => ?_)
        obtain ⟨hI43, hG43, hx43⟩ := hx43
        have hF43 := fr_t hF hG43 (by decide) (by decide)
        refine to_eq (fr' := (40, [(0, .ref 33), (1, .int x1), (2, .int (nI n3))], [], gh S a b sc43 ar43 lo, ex, 0, 0)) rfl ?_
        refine to_n 1 (fr' := (144, [(0, .ref 33), (1, .int x1), (2, .int (nI n3))], [], gh S a b sc43 ar43 lo, ex, 0, 0)) rfl ?_
        exact to_rt (i := .return_) (tg := []) rfl rfl ⟨_, _, ⟨hI43, hF43, (zjr_of (zt_nam (Int32.not_le.mpr q1) (by omega) e3) hx43.1 hx43.2 (show sc43 3300 = sc 3300 from ((hG43.1 3300 (by decide)).trans rfl)) (show sc43 3301 = sc 3301 from ((hG43.1 3301 (by decide)).trans rfl)))⟩, rfl⟩
  · refine to_n 2 (fr' := (11, [(0, .ref 33), (1, .int x1), (2, .int ((-20) - x1))], [.int x1, .ref 33], gh S a b sc ar lo, ex, 0, 0)) rfl ?_
    refine to_cv (q := 34) (M1 := an_X3_push) (rest := []) rfl rfl (by decide) rfl ⟨_, rfl⟩ (sf_X3_push hW hI x1 t (by omega) et d) (fun sc44 ar44 hx44 => ?_)
    obtain ⟨hI44, hG44, hx44⟩ := hx44
    have hF44 := fr_t hF hG44 (by decide) (by decide)
    refine to_eq (fr' := (14, [(0, .ref 33), (1, .int x1), (2, .int ((-20) - x1))], [], gh S a b sc44 ar44 lo, ex, 0, 0)) rfl ?_
    refine to_n 1 (fr' := (144, [(0, .ref 33), (1, .int x1), (2, .int ((-20) - x1))], [], gh S a b sc44 ar44 lo, ex, 0, 0)) rfl ?_
    exact to_rt (i := .return_) (tg := []) rfl rfl ⟨_, _, ⟨hI44, hF44, (zjr_of (zt_num (Int32.not_lt.mp q1)) hx44.1 hx44.2 (show sc44 3300 = sc 3300 from ((hG44.1 3300 (by decide)).trans rfl)) (show sc44 3301 = sc 3301 from ((hG44.1 3301 (by decide)).trans rfl)))⟩, rfl⟩
set_option maxRecDepth 20000 in
theorem sf_X3_apply {X : Nat × (Nat → Int32)} {S a b : Nat} {sc : Nat → Int32} {ar : Nat → Nat → Int32} {lo : Nat → Int64} {ex : Bool} (hW : Wd S a b) (hI : Iv S sc ar) (l0 : Nat) (el0b : l0 < 7) (k1 : Nat) (hk1 : k1 < 6) (hkl : k1 < l0) (el0 : sc 2903 = nI l0) (d : Nat)  : cv X S a b (d + 3) 31 [.ref 33, .ref 29, .int (nI k1)] sc ar lo ex (fun sc' ar' => Iv S sc' ar' ∧ Fr [3300, 3301, 3304] [35] sc ar sc' ar' ∧ (sc' 3300 = (zrl (ar 34) (ar 30) (ar 31) (ar 35) k1).2.2.1 ∧ sc' 3301 = (zrl (ar 34) (ar 30) (ar 31) (ar 35) k1).2.2.2)) := by
  obtain ⟨ha1, ha8, hb1, hb8, hab, hS1, hS⟩ := id hW
  obtain ⟨ee, hee, eee⟩ := iv_a31 hI k1
  obtain ⟨bb, hbb, ebb⟩ := zbe_n (k := k1) (iv_a31 hI)
  refine cv_of (M := an_X3_apply) rfl (Nat.le_of_ble_eq_true rfl) ?_
  have hF : Fr [3300, 3301, 3304] [35] sc ar sc ar := fr_0
  refine to_eq (fr' := (0, [(0, .ref 33), (1, .ref 29), (2, .int (nI k1))], [], gh S a b sc ar lo, ex, 0, 0)) rfl ?_
  have c34 : ∀ m : Nat, ∀ (i : Nat) (tp : Nat) (sc1 : Nat → Int32) (ar1 : Nat → Nat → Int32), 2400 ≤ i + m → sc1 3304 = nI tp → tp < 21 → zrun (ar 34) (ar 30) (ee - i) i (ar1 35, tp, sc1 3300, sc1 3301) = zrun (ar 34) (ar 30) (ee - bb) bb (ar 35, 0, 0, 0) → i ≤ 2400 → Iv S sc1 ar1 → Fr [3300, 3301, 3304] [35] sc ar sc1 ar1 → ag_To X (d + 2) an_X3_apply (34, [(0, .ref 33), (1, .ref 29), (2, .int (nI k1)), (3, .int (nI i))], [], gh S a b sc1 ar1 lo, ex, 0, 0) (qv S a b lo ex (fun sc' ar' => Iv S sc' ar' ∧ Fr [3300, 3301, 3304] [35] sc ar sc' ar' ∧ (sc' 3300 = (zrl (ar 34) (ar 30) (ar 31) (ar 35) k1).2.2.1 ∧ sc' 3301 = (zrl (ar 34) (ar 30) (ar 31) (ar 35) k1).2.2.2))) := by
    intro m
    induction m with
    | zero =>
      intro i tp sc1 ar1 hm hc34_0 hc34_1 hc34_2 hc34_3 hI1 hF1
      refine to_n 2 (fr' := (36, [(0, .ref 33), (1, .ref 29), (2, .int (nI k1)), (3, .int (nI i))], [.ref 29, .int (nI i)], gh S a b sc1 ar1 lo, ex, 0, 0)) rfl ?_
      refine to_get rfl rfl rfl rfl ?_
      refine to_n 1 (fr' := (40, [(0, .ref 33), (1, .ref 29), (2, .int (nI k1)), (3, .int (nI i))], [.int (nI k1), .ref 31, .int (nI i)], gh S a b sc1 ar1 lo, ex, 0, 0)) rfl ?_
      refine to_ialR (i := k1) (v := (nI ee)) rfl (by decide) rfl (by omega) (by omega) ((congrFun (hF1.2 31 (by decide)) k1).trans eee) ?_
      refine to_nc_ge (t := 69) (x := i) (y := ee) rfl (by omega) (by omega) (fun q2 => ?_) (fun q2 => ?_)
      · exact to_rt (i := .return_) (tg := []) rfl rfl ⟨_, _, ⟨hI1, hF1, (zrl_e eee hee ebb hbb (by omega) hc34_2)⟩, rfl⟩
      · refine to_n 2 (fr' := (46, [(0, .ref 33), (1, .ref 29), (2, .int (nI k1)), (3, .int (nI i))], [.ref 29, .int (nI i)], gh S a b sc1 ar1 lo, ex, 0, 0)) rfl ?_
        refine to_get rfl rfl rfl rfl ?_
        refine to_len rfl (by decide) rfl (by decide) ?_
        refine to_eq (fr' := (50, [(0, .ref 33), (1, .ref 29), (2, .int (nI k1)), (3, .int (nI i))], [.int (nI 2400), .int (nI i)], gh S a b sc1 ar1 lo, ex, 0, 0)) rfl ?_
        refine to_nc_ge_T (t := 69) (x := i) (y := 2400) rfl (by omega) (by omega) (by omega) ?_
        exact to_rt (i := .return_) (tg := []) rfl rfl ⟨_, _, ⟨hI1, hF1, (zrl_e eee hee ebb hbb (by omega) hc34_2)⟩, rfl⟩
    | succ m ih =>
      intro i tp sc1 ar1 hm hc34_0 hc34_1 hc34_2 hc34_3 hI1 hF1
      refine to_n 2 (fr' := (36, [(0, .ref 33), (1, .ref 29), (2, .int (nI k1)), (3, .int (nI i))], [.ref 29, .int (nI i)], gh S a b sc1 ar1 lo, ex, 0, 0)) rfl ?_
      refine to_get rfl rfl rfl rfl ?_
      refine to_n 1 (fr' := (40, [(0, .ref 33), (1, .ref 29), (2, .int (nI k1)), (3, .int (nI i))], [.int (nI k1), .ref 31, .int (nI i)], gh S a b sc1 ar1 lo, ex, 0, 0)) rfl ?_
      refine to_ialR (i := k1) (v := (nI ee)) rfl (by decide) rfl (by omega) (by omega) ((congrFun (hF1.2 31 (by decide)) k1).trans eee) ?_
      refine to_nc_ge (t := 69) (x := i) (y := ee) rfl (by omega) (by omega) (fun q3 => ?_) (fun q3 => ?_)
      · exact to_rt (i := .return_) (tg := []) rfl rfl ⟨_, _, ⟨hI1, hF1, (zrl_e eee hee ebb hbb (by omega) hc34_2)⟩, rfl⟩
      · refine to_n 2 (fr' := (46, [(0, .ref 33), (1, .ref 29), (2, .int (nI k1)), (3, .int (nI i))], [.ref 29, .int (nI i)], gh S a b sc1 ar1 lo, ex, 0, 0)) rfl ?_
        refine to_get rfl rfl rfl rfl ?_
        refine to_len rfl (by decide) rfl (by decide) ?_
        refine to_eq (fr' := (50, [(0, .ref 33), (1, .ref 29), (2, .int (nI k1)), (3, .int (nI i))], [.int (nI 2400), .int (nI i)], gh S a b sc1 ar1 lo, ex, 0, 0)) rfl ?_
        refine to_nc_ge (t := 69) (x := i) (y := 2400) rfl (by omega) (by omega) (fun q4 => ?_) (fun q4 => ?_)
        · exact to_rt (i := .return_) (tg := []) rfl rfl ⟨_, _, ⟨hI1, hF1, (zrl_e eee hee ebb hbb (by omega) hc34_2)⟩, rfl⟩
        · refine to_n 2 (fr' := (55, [(0, .ref 33), (1, .ref 29), (2, .int (nI k1)), (3, .int (nI i))], [.ref 29, .ref 33], gh S a b sc1 ar1 lo, ex, 0, 0)) rfl ?_
          refine to_get rfl rfl rfl rfl ?_
          refine to_n 1 (fr' := (59, [(0, .ref 33), (1, .ref 29), (2, .int (nI k1)), (3, .int (nI i))], [.int (nI i), .ref 30, .ref 33], gh S a b sc1 ar1 lo, ex, 0, 0)) rfl ?_
          refine to_ialR (i := i) (v := (ar 30 i)) rfl (by decide) rfl (by omega) (by omega) (congrFun (hF1.2 30 (by decide)) i) ?_
          refine to_cv (q := 32) (M1 := an_X3_take) (rest := []) rfl rfl (by decide) rfl ⟨_, rfl⟩ (sf_X3_take hW hI1 (ar 30 i) tp (by omega) hc34_0 d) (fun sc5 ar5 hx5 => ?_)
          obtain ⟨hI5, hG5, hx5⟩ := hx5
          have hF5 := fr_t hF1 hG5 (by decide) (by decide)
          rw [hF1.2 34 (by decide)] at hx5
          obtain ⟨hz5, hy5, hw5, hv5⟩ := zjr_d hx5
          refine to_eq (fr' := (63, [(0, .ref 33), (1, .ref 29), (2, .int (nI k1)), (3, .int (nI i))], [], gh S a b sc5 ar5 lo, ex, 0, 0)) rfl ?_
          refine to_n 1 (fr' := (66, [(0, .ref 33), (1, .ref 29), (2, .int (nI k1)), (3, .int ((nI i) + 1))], [], gh S a b sc5 ar5 lo, ex, 0, 0)) rfl ?_
          rw [nI_1 i]
          refine to_n 1 (fr' := (34, [(0, .ref 33), (1, .ref 29), (2, .int (nI k1)), (3, .int (nI (i + 1)))], [], gh S a b sc5 ar5 lo, ex, 0, 0)) rfl ?_
          exact ih (i + 1) ((ztake (ar 34) (ar 30 i) (ar1 35, tp, sc1 3300, sc1 3301)).2.1) sc5 ar5 (by omega) (hy5) (ztake_t (show tp < 21 by omega)) (zap_s (by omega) hz5 hw5 hv5 hc34_2) (by omega) hI5 hF5
  refine to_n 2 (fr' := (2, [(0, .ref 33), (1, .ref 29), (2, .int (nI k1))], [.int 0, .ref 33], gh S a b sc ar lo, ex, 0, 0)) rfl ?_
  refine to_putR (h' := gh S a b (upd sc 3300 0) ar lo) rfl rfl rfl (Nat.le_of_ble_eq_true rfl) rfl rfl ?_
  have hI6 := ip_3300 (v := 0) hI (rl_n (n := 0) (by omega))
  have hF6 := fr_s (k := 3300) (v := 0) hF (by decide)
  refine to_n 2 (fr' := (7, [(0, .ref 33), (1, .ref 29), (2, .int (nI k1))], [.int 0, .ref 33], gh S a b (upd sc 3300 0) ar lo, ex, 0, 0)) rfl ?_
  refine to_putR (h' := gh S a b (upd (upd sc 3300 0) 3301 0) ar lo) rfl rfl rfl (Nat.le_of_ble_eq_true rfl) rfl rfl ?_
  have hI7 := ip_3301 (v := 0) hI6 
  have hF7 := fr_s (k := 3301) (v := 0) hF6 (by decide)
  refine to_n 2 (fr' := (12, [(0, .ref 33), (1, .ref 29), (2, .int (nI k1))], [.int 0, .ref 33], gh S a b (upd (upd sc 3300 0) 3301 0) ar lo, ex, 0, 0)) rfl ?_
  refine to_putR (h' := gh S a b (upd (upd (upd sc 3300 0) 3301 0) 3304 0) ar lo) rfl rfl rfl (Nat.le_of_ble_eq_true rfl) rfl rfl ?_
  have hI8 := ip_3304 (v := 0) hI7 (rl_n (n := 0) (by omega))
  have hF8 := fr_s (k := 3304) (v := 0) hF7 (by decide)
  refine to_n 1 (fr' := (16, [(0, .ref 33), (1, .ref 29), (2, .int (nI k1))], [.int (nI k1)], gh S a b (upd (upd (upd sc 3300 0) 3301 0) 3304 0) ar lo, ex, 0, 0)) rfl ?_
  refine to_nf_lt (x := k1) rfl (by omega) ?_
  refine to_n 2 (fr' := (21, [(0, .ref 33), (1, .ref 29), (2, .int (nI k1))], [.ref 29, .int (nI k1)], gh S a b (upd (upd (upd sc 3300 0) 3301 0) 3304 0) ar lo, ex, 0, 0)) rfl ?_
  refine to_getR (v := (nI l0)) rfl rfl rfl rfl ((hF8.1 2903 (by decide)).trans el0) ?_
  refine to_nc_lt_T (t := 28) (x := k1) (y := l0) rfl (by omega) (by omega) (by omega) ?_
  refine to_n 2 (fr' := (30, [(0, .ref 33), (1, .ref 29), (2, .int (nI k1))], [.int (nI k1), .ref 29], gh S a b (upd (upd (upd sc 3300 0) 3301 0) 3304 0) ar lo, ex, 0, 0)) rfl ?_
  refine to_cp (q := 38) (M1 := an_X4_begin) (rest := []) rfl rfl (by decide) rfl ⟨_, rfl⟩ (sf_X4_begin hW hI8 k1 (by omega) (d + 1)) (fun x9 hx9 => ?_)
  obtain ⟨hx9, hp9⟩ := hx9
  obtain ⟨n9, hn9, rfl⟩ := hx9
  refine to_eq (fr' := (33, [(0, .ref 33), (1, .ref 29), (2, .int (nI k1))], [.int (nI n9)], gh S a b (upd (upd (upd sc 3300 0) 3301 0) 3304 0) ar lo, ex, 0, 0)) rfl ?_
  refine to_n 1 (fr' := (34, [(0, .ref 33), (1, .ref 29), (2, .int (nI k1)), (3, .int (nI n9))], [], gh S a b (upd (upd (upd sc 3300 0) 3301 0) 3304 0) ar lo, ex, 0, 0)) rfl ?_
  exact c34 (2400 - n9) n9 0 (upd (upd (upd sc 3300 0) 3301 0) 3304 0) ar (by omega) (rfl) (by omega) (by have e9 : n9 = bb := (nI_eq (by omega) (by omega)).mp (hp9.trans ebb); rw [e9]; rfl) (by omega) hI8 hF8
