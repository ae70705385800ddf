/-! the reference's reader: tokens, room for codes, what the codes do to the stack -/
theorem tk_mono {C : Nat → Int32} : ∀ (n i t top : Nat), tk C n i t top → tk C (n + 1) i t top
  | 0, i, t, top, h => fun w => absurd w (Nat.not_lt.mpr h)
  | n + 1, i, t, top, h => fun w => by
    obtain ⟨h1, h2, h3, h4⟩ := h w
    exact ⟨fun e => ⟨(h1 e).1, (h1 e).2.1, tk_mono n _ _ _ (h1 e).2.2⟩, fun e e2 => ⟨(h2 e e2).1, tk_mono n _ _ _ (h2 e e2).2⟩, fun e e2 e3 => ⟨(h3 e e2 e3).1, tk_mono n _ _ _ (h3 e e2 e3).2⟩, fun e e2 e3 => ⟨(h4 e e2 e3).1, tk_mono n _ _ _ (h4 e e2 e3).2⟩⟩
theorem tk_le {C : Nat → Int32} {n i t top : Nat} (h : tk C n i t top) : ∀ k, tk C (n + k) i t top
  | 0 => h
  | k + 1 => tk_mono _ _ _ _ (tk_le h k)
/-- the codes from i to j leave one number more, with at most h of them above where it began -/
def seg (C : Nat → Int32) (i j h : Nat) : Prop := ∀ C' : Nat → Int32, (∀ x, i ≤ x → x < j → C' x = C x) → ∀ n t top, top + h ≤ 150 → j ≤ t → tk C' n j t (top + 1) → tk C' (n + (j - i)) i t top
theorem seg_ag {C D : Nat → Int32} {i j h k : Nat} (s : seg C i j h) (hD : ∀ x, x < k → D x = C x) (hj : j ≤ k) : seg D i j h := fun C' hC => s C' (fun x h1 h2 => (hC x h1 h2).trans (hD x (by omega)))
theorem seg_le {C : Nat → Int32} {i j h h' : Nat} (s : seg C i j h) (w : h ≤ h') : seg C i j h' := fun C' hC n t top ht => s C' hC n t top (by omega)
theorem seg_push {C : Nat → Int32} {i h : Nat} (hh : 1 ≤ h) (e : C i = 0) : seg C i (i + 1 + 1) h := by
  intro C' hC n t top ht hj k
  have e' := (hC i (Nat.le_refl _) (by omega)).trans e
  rw [show n + (i + 1 + 1 - i) = n + 1 + 1 by omega]
  refine tk_mono (n + 1) i t top (fun _ => ?_)
  exact ⟨fun _ => ⟨by omega, by omega, k⟩, fun w => absurd e' w, fun w => absurd e' w, fun w => absurd e' w⟩
theorem seg_name {C : Nat → Int32} {i h : Nat} {v : Int32} (hh : 1 ≤ h) (e : C i = v) (h0 : ¬ v = 0) (h1 : 20 ≤ v) : seg C i (i + 1) h := by
  intro C' hC n t top ht hj k
  have e' := (hC i (Nat.le_refl _) (by omega)).trans e
  rw [show n + (i + 1 - i) = n + 1 by omega]
  intro _
  rw [e']
  exact ⟨fun w => absurd w h0, fun _ _ => ⟨by omega, k⟩, fun _ w => absurd h1 w, fun _ w => absurd h1 w⟩
theorem seg_bin {C : Nat → Int32} {i j k h1 h2 h : Nat} {v : Int32} (s1 : seg C i j h1) (s2 : seg C j k h2) (e : C k = v) (a1 : ¬ v = 0) (a2 : ¬ 20 ≤ v) (a3 : ¬ v = 8) (hij : i ≤ j) (hjk : j ≤ k) (w1 : h1 ≤ h) (w2 : h2 + 1 ≤ h) : seg C i (k + 1) h := by
  intro C' hC n t top ht hj g
  have e' := (hC k (by omega) (by omega)).trans e
  have g1 : tk C' (n + 1) k t (top + 1 + 1) := by
    intro _
    rw [e']
    exact ⟨fun w => absurd w a1, fun _ w => absurd w a2, fun _ _ w => absurd w a3, fun _ _ _ => ⟨by omega, g⟩⟩
  have g2 := s2 C' (fun x y1 y2 => hC x (by omega) (by omega)) (n + 1) t (top + 1) (by omega) (by omega) g1
  have g3 := s1 C' (fun x y1 y2 => hC x (by omega) (by omega)) _ t top (by omega) (by omega) g2
  rw [show n + 1 + (k - j) + (j - i) = n + (k + 1 - i) by omega] at g3
  exact g3
theorem seg_not {C : Nat → Int32} {i j h : Nat} (s : seg C i j h) (e : C j = 8) (hij : i ≤ j) : seg C i (j + 1) h := by
  intro C' hC n t top ht hj g
  have e' := (hC j (by omega) (by omega)).trans e
  have g1 : tk C' (n + 1) j t (top + 1) := by
    intro _
    rw [e']
    exact ⟨fun w => absurd w (by decide), fun _ w => absurd w (by decide), fun _ _ _ => ⟨by omega, g⟩, fun _ _ w => absurd rfl w⟩
  have g2 := s C' (fun x y1 y2 => hC x (by omega) (by omega)) (n + 1) t top (by omega) (by omega) g1
  rw [show n + 1 + (j - i) = n + (j + 1 - i) by omega] at g2
  exact g2
theorem seg_tk {C : Nat → Int32} {i j h : Nat} (s : seg C i j h) (hh : h ≤ 150) (hij : i ≤ j) (hj : j - i ≤ 701) : tk C 701 i j 0 := by
  have g := s C (fun _ _ _ => rfl) 0 j 0 (by omega) (Nat.le_refl _) (show j ≤ j from Nat.le_refl _)
  have g2 := tk_le g (701 - (j - i))
  rw [show 0 + (j - i) + (701 - (j - i)) = 701 by omega] at g2
  exact g2
/-- where the token stands in the text -/
def Pz (sc : Nat → Int32) : Prop := ∃ B q r : Nat, sc 4939 = nI B ∧ sc 4935 = nI q ∧ sc 4940 = nI q ∧ sc 4936 = nI r ∧ B ≤ q ∧ q ≤ r ∧ r ≤ 400 ∧ (¬ sc 4937 = 0 → B < q)
theorem pz_fr {L A : List Nat} {sc sc' : Nat → Int32} {ar ar' : Nat → Nat → Int32} (h : Pz sc) (f : Fr L A sc ar sc' ar') (h1 : 4939 ∉ L) (h2 : 4935 ∉ L) (h3 : 4940 ∉ L) (h4 : 4936 ∉ L) (h5 : 4937 ∉ L) : Pz sc' := by
  obtain ⟨B, q, r, e1, e2, e3, e4, g1, g2, g3, g4⟩ := h
  exact ⟨B, q, r, (f.1 _ h1).trans e1, (f.1 _ h2).trans e2, (f.1 _ h3).trans e3, (f.1 _ h4).trans e4, g1, g2, g3, fun w => g4 (fun v => w ((f.1 _ h5).trans v))⟩
theorem iw_tok {n : Nat} {P : Prop} (hn : n < 2) (hp : nI n = 0 ∨ P) (q : ¬ n = 0) : P := by
  obtain rfl : n = 1 := by omega
  exact hp.resolve_left (by decide)
theorem tok_nz {x v : Int32} (h : x = v) (hv : ¬ v = 0) : ¬ x = 0 := fun w => hv (h.symm.trans w)
set_option maxRecDepth 20000 in
theorem sf_byteAt {X : Nat × (Nat → Int32)} {S a b : Nat} {sc : Nat → Int32} {ar : Nat → Nat → Int32} {lo : Nat → Int64} {ex : Bool} (hW : Wd S a b) (hI : Iv S sc ar) (k1 : Nat) (hk1 : k1 < 401) (r : Nat) (hr : r < 401) (er : sc 4936 = nI r) (d : Nat)  : cp X S a b (d + 1) 119 [.ref 49, .int (nI k1)] sc ar lo ex (fun x => ((x = -1 ∧ r ≤ k1) ∨ (k1 < r ∧ x = ar 67 k1))) := by
  obtain ⟨ha1, ha8, hb1, hb8, hab, hS1, hS⟩ := id hW
  refine cp_of (M := an_X10_byteAt) rfl (Nat.le_of_ble_eq_true rfl) ?_
  refine to_eq (fr' := (0, [(0, .ref 49), (1, .int (nI k1))], [], gh S a b sc ar lo, ex, 0, 0)) rfl ?_
  refine to_n 2 (fr' := (2, [(0, .ref 49), (1, .int (nI k1))], [.ref 49, .int (nI k1)], gh S a b sc ar lo, ex, 0, 0)) rfl ?_
  refine to_getR (v := (nI r)) rfl rfl rfl rfl er ?_
  refine to_nc_ge (t := 17) (x := k1) (y := r) rfl (by omega) (by omega) (fun q1 => ?_) (fun q1 => ?_)
  · refine to_n 1 (fr' := (18, [(0, .ref 49), (1, .int (nI k1))], [.int (-1)], gh S a b sc ar lo, ex, 0, 0)) rfl ?_
    exact to_rt (i := .ireturn) (tg := []) rfl rfl ⟨_, (Or.inl ⟨rfl, by omega⟩), rfl⟩
  · refine to_n 1 (fr' := (9, [(0, .ref 49), (1, .int (nI k1))], [.ref 49], gh S a b sc ar lo, ex, 0, 0)) rfl ?_
    refine to_get rfl rfl rfl rfl ?_
    refine to_n 1 (fr' := (13, [(0, .ref 49), (1, .int (nI k1))], [.int (nI k1), .ref 67], gh S a b sc ar lo, ex, 0, 0)) rfl ?_
    refine to_ialR (i := k1) (v := ((ar 67) k1)) rfl (by decide) rfl (by omega) (by omega) rfl ?_
    refine to_n 1 (fr' := (18, [(0, .ref 49), (1, .int (nI k1))], [.int ((ar 67) k1)], gh S a b sc ar lo, ex, 0, 0)) rfl ?_
    exact to_rt (i := .ireturn) (tg := []) rfl rfl ⟨_, (Or.inr ⟨by omega, rfl⟩), rfl⟩
set_option maxRecDepth 20000 in
theorem sf_isLetter {X : Nat × (Nat → Int32)} {S a b : Nat} {sc : Nat → Int32} {ar : Nat → Nat → Int32} {lo : Nat → Int64} {ex : Bool} (hW : Wd S a b) (hI : Iv S sc ar) (x1 : Int32) (d : Nat)  : cp X S a b (d + 1) 120 [.int x1] sc ar lo ex (fun x => ((x = 1 ∧ (97 ≤ x1 ∧ x1 ≤ 122)) ∨ (x = 0 ∧ ¬ (97 ≤ x1 ∧ x1 ≤ 122)))) := by
  obtain ⟨ha1, ha8, hb1, hb8, hab, hS1, hS⟩ := id hW
  refine cp_of (M := an_X10_isLetter) rfl (Nat.le_of_ble_eq_true rfl) ?_
  refine to_eq (fr' := (0, [(0, .int x1)], [], gh S a b sc ar lo, ex, 0, 0)) rfl ?_
  refine to_n 2 (fr' := (3, [(0, .int x1)], [.int 97, .int x1], gh S a b sc ar lo, ex, 0, 0)) rfl ?_
  refine to_ic_lt (t := 16) rfl (fun q1 => ?_) (fun q1 => ?_)
  · refine to_n 1 (fr' := (17, [(0, .int x1)], [.int 0], gh S a b sc ar lo, ex, 0, 0)) rfl ?_
    exact to_rt (i := .ireturn) (tg := []) rfl rfl ⟨_, (Or.inr ⟨rfl, fun w => Int32.not_lt.mpr w.1 q1⟩), rfl⟩
  · refine to_n 2 (fr' := (9, [(0, .int x1)], [.int 122, .int x1], gh S a b sc ar lo, ex, 0, 0)) rfl ?_
    refine to_ic_gt (t := 16) rfl (fun q2 => ?_) (fun q2 => ?_)
    · refine to_n 1 (fr' := (17, [(0, .int x1)], [.int 0], gh S a b sc ar lo, ex, 0, 0)) rfl ?_
      exact to_rt (i := .ireturn) (tg := []) rfl rfl ⟨_, (Or.inr ⟨rfl, fun w => Int32.not_lt.mpr w.2 q2⟩), rfl⟩
    · refine to_n 2 (fr' := (17, [(0, .int x1)], [.int 1], gh S a b sc ar lo, ex, 0, 0)) rfl ?_
      exact to_rt (i := .ireturn) (tg := []) rfl rfl ⟨_, (Or.inl ⟨rfl, Int32.not_lt.mp q1, Int32.not_lt.mp q2⟩), rfl⟩
set_option maxRecDepth 20000 in
theorem sf_isDigit {X : Nat × (Nat → Int32)} {S a b : Nat} {sc : Nat → Int32} {ar : Nat → Nat → Int32} {lo : Nat → Int64} {ex : Bool} (hW : Wd S a b) (hI : Iv S sc ar) (x1 : Int32) (d : Nat)  : cp X S a b (d + 1) 121 [.int x1] sc ar lo ex (fun x => ((x = 1 ∧ (48 ≤ x1 ∧ x1 ≤ 57)) ∨ (x = 0 ∧ ¬ (48 ≤ x1 ∧ x1 ≤ 57)))) := by
  obtain ⟨ha1, ha8, hb1, hb8, hab, hS1, hS⟩ := id hW
  refine cp_of (M := an_X10_isDigit) rfl (Nat.le_of_ble_eq_true rfl) ?_
  refine to_eq (fr' := (0, [(0, .int x1)], [], gh S a b sc ar lo, ex, 0, 0)) rfl ?_
  refine to_n 2 (fr' := (3, [(0, .int x1)], [.int 48, .int x1], gh S a b sc ar lo, ex, 0, 0)) rfl ?_
  refine to_ic_lt (t := 16) rfl (fun q1 => ?_) (fun q1 => ?_)
  · refine to_n 1 (fr' := (17, [(0, .int x1)], [.int 0], gh S a b sc ar lo, ex, 0, 0)) rfl ?_
    exact to_rt (i := .ireturn) (tg := []) rfl rfl ⟨_, (Or.inr ⟨rfl, fun w => Int32.not_lt.mpr w.1 q1⟩), rfl⟩
  · refine to_n 2 (fr' := (9, [(0, .int x1)], [.int 57, .int x1], gh S a b sc ar lo, ex, 0, 0)) rfl ?_
    refine to_ic_gt (t := 16) rfl (fun q2 => ?_) (fun q2 => ?_)
    · refine to_n 1 (fr' := (17, [(0, .int x1)], [.int 0], gh S a b sc ar lo, ex, 0, 0)) rfl ?_
      exact to_rt (i := .ireturn) (tg := []) rfl rfl ⟨_, (Or.inr ⟨rfl, fun w => Int32.not_lt.mpr w.2 q2⟩), rfl⟩
    · refine to_n 2 (fr' := (17, [(0, .int x1)], [.int 1], gh S a b sc ar lo, ex, 0, 0)) rfl ?_
      exact to_rt (i := .ireturn) (tg := []) rfl rfl ⟨_, (Or.inl ⟨rfl, Int32.not_lt.mp q1, Int32.not_lt.mp q2⟩), rfl⟩
set_option maxRecDepth 20000 in
theorem sf_X10_step {X : Nat × (Nat → Int32)} {S a b : Nat} {sc : Nat → Int32} {ar : Nat → Nat → Int32} {lo : Nat → Int64} {ex : Bool} (hW : Wd S a b) (hI : Iv S sc ar) (p r : Nat) (hpr : p ≤ r) (hr : r ≤ 400) (e1 : sc 4935 = nI p) (e2 : sc 4936 = nI r) (d : Nat)  : cv X S a b (d + 2) 122 [.ref 49] sc ar lo ex (fun sc' ar' => Iv S sc' ar' ∧ Fr [4935, 4937, 4938, 4939, 4940] [] sc ar sc' ar' ∧ (∃ B q : Nat, sc' 4939 = nI B ∧ sc' 4935 = nI q ∧ sc' 4940 = nI q ∧ p ≤ B ∧ B ≤ q ∧ q ≤ r ∧ (¬ sc' 4937 = 0 → B < q))) := by
  obtain ⟨ha1, ha8, hb1, hb8, hab, hS1, hS⟩ := id hW
  refine cv_of (M := an_X10_step) rfl (Nat.le_of_ble_eq_true rfl) ?_
  have hF : Fr [4935, 4937, 4938, 4939, 4940] [] sc ar sc ar := fr_0
  refine to_eq (fr' := (0, [(0, .ref 49)], [], gh S a b sc ar lo, ex, 0, 0)) rfl ?_
  have c240 : ∀ (B : Nat) (q : Nat) (sc1 : Nat → Int32) (ar1 : Nat → Nat → Int32), sc1 4939 = nI B → sc1 4935 = nI q → sc1 4936 = nI r → p ≤ B → B ≤ q → q ≤ r → (¬ sc1 4937 = 0 → B < q) → Iv S sc1 ar1 → Fr [4935, 4937, 4938, 4939, 4940] [] sc ar sc1 ar1 → ag_To X (d + 1) an_X10_step (240, [(0, .ref 49)], [], gh S a b sc1 ar1 lo, ex, 0, 0) (qv S a b lo ex (fun sc' ar' => Iv S sc' ar' ∧ Fr [4935, 4937, 4938, 4939, 4940] [] sc ar sc' ar' ∧ (∃ B q : Nat, sc' 4939 = nI B ∧ sc' 4935 = nI q ∧ sc' 4940 = nI q ∧ p ≤ B ∧ B ≤ q ∧ q ≤ r ∧ (¬ sc' 4937 = 0 → B < q)))) := by
    intro B q sc1 ar1 hc240_0 hc240_1 hc240_2 hc240_3 hc240_4 hc240_5 hc240_6 hI1 hF1
    refine to_n 2 (fr' := (242, [(0, .ref 49)], [.ref 49, .ref 49], gh S a b sc1 ar1 lo, ex, 0, 0)) rfl ?_
    refine to_getR (v := (nI q)) rfl rfl rfl rfl hc240_1 ?_
    refine to_putR (h' := gh S a b (upd sc1 4940 (nI q)) ar1 lo) rfl rfl rfl (Nat.le_of_ble_eq_true rfl) rfl rfl ?_
    have hI2 := ip_4940 (v := (nI q)) hI1 (rl_n (n := q) (by omega))
    have hF2 := fr_s (k := 4940) (v := (nI q)) hF1 (by decide)
    exact to_rt (i := .return_) (tg := []) rfl rfl ⟨_, _, ⟨hI2, hF2, ⟨B, q, hc240_0, hc240_1, rfl, by omega, by omega, by omega, hc240_6⟩⟩, rfl⟩
  have c81 : ∀ m : Nat, ∀ (y : Int32) (B : Nat) (q : Nat) (sc3 : Nat → Int32) (ar3 : Nat → Nat → Int32), q + m = r → sc3 4939 = nI B → sc3 4935 = nI q → sc3 4936 = nI r → p ≤ B → B ≤ q → B < r → (q = B → (97 ≤ ar3 67 q ∧ ar3 67 q ≤ 122)) → Iv S sc3 ar3 → Fr [4935, 4937, 4938, 4939, 4940] [] sc ar sc3 ar3 → ag_To X (d + 1) an_X10_step (81, [(0, .ref 49), (1, .int y)], [], gh S a b sc3 ar3 lo, ex, 0, 0) (qv S a b lo ex (fun sc' ar' => Iv S sc' ar' ∧ Fr [4935, 4937, 4938, 4939, 4940] [] sc ar sc' ar' ∧ (∃ B q : Nat, sc' 4939 = nI B ∧ sc' 4935 = nI q ∧ sc' 4940 = nI q ∧ p ≤ B ∧ B ≤ q ∧ q ≤ r ∧ (¬ sc' 4937 = 0 → B < q)))) := by
    intro m
    induction m with
    | zero =>
      intro y B q sc3 ar3 hm hc81_0 hc81_1 hc81_2 hc81_3 hc81_4 hc81_5 hc81_6 hI3 hF3
      refine to_n 2 (fr' := (83, [(0, .ref 49), (1, .int y)], [.ref 49, .ref 49], gh S a b sc3 ar3 lo, ex, 0, 0)) rfl ?_
      refine to_getR (v := (nI q)) rfl rfl rfl rfl hc81_1 ?_
      refine to_cp (q := 119) (M1 := an_X10_byteAt) (rest := []) rfl rfl (by decide) rfl ⟨_, rfl⟩ (sf_byteAt hW hI3 q (by omega) r (by omega) hc81_2 d) (fun x4 hx4 => ?_)
      rcases hx4 with ⟨rfl, w4⟩ | ⟨w4, rfl⟩
      · refine to_eq (fr' := (89, [(0, .ref 49), (1, .int y)], [.int (-1)], gh S a b sc3 ar3 lo, ex, 0, 0)) rfl ?_
        refine to_cp (q := 120) (M1 := an_X10_isLetter) (rest := []) rfl rfl (by decide) rfl trivial (sf_isLetter hW hI3 (-1) d) (fun x5 hx5 => ?_)
        rcases hx5 with ⟨rfl, w5⟩ | ⟨rfl, w5⟩
        · exact absurd w5.1 (by decide)
        · refine to_eq (fr' := (92, [(0, .ref 49), (1, .int y)], [.int 0], gh S a b sc3 ar3 lo, ex, 0, 0)) rfl ?_
          refine to_n 3 (fr' := (110, [(0, .ref 49), (1, .int y)], [.int 1, .ref 49], gh S a b sc3 ar3 lo, ex, 0, 0)) rfl ?_
          refine to_putR (h' := gh S a b (upd sc3 4937 1) ar3 lo) rfl rfl rfl (Nat.le_of_ble_eq_true rfl) rfl rfl ?_
          have hI6 := ip_4937 (v := 1) hI3 
          have hF6 := fr_s (k := 4937) (v := 1) hF3 (by decide)
          refine to_n 1 (fr' := (240, [(0, .ref 49), (1, .int y)], [], gh S a b (upd sc3 4937 1) ar3 lo, ex, 0, 0)) rfl ?_
          have hlt : B < q := Nat.lt_of_le_of_ne (by omega) (fun w => by first | omega | exact absurd (hc81_6 w.symm) w5)
          refine to_lv (lv := [(0, .ref 49)]) rfl ⟨rfl, trivial⟩ ?_
          exact c240 B q (upd sc3 4937 1) ar3 (hc81_0) (hc81_1) (hc81_2) (by omega) (by omega) (by omega) (fun _ => by omega) hI6 hF6
      · refine to_eq (fr' := (89, [(0, .ref 49), (1, .int y)], [.int (ar3 67 q)], gh S a b sc3 ar3 lo, ex, 0, 0)) rfl ?_
        refine to_cp (q := 120) (M1 := an_X10_isLetter) (rest := []) rfl rfl (by decide) rfl trivial (sf_isLetter hW hI3 (ar3 67 q) d) (fun x7 hx7 => ?_)
        rcases hx7 with ⟨rfl, w7⟩ | ⟨rfl, w7⟩
        · refine to_eq (fr' := (92, [(0, .ref 49), (1, .int y)], [.int 1], gh S a b sc3 ar3 lo, ex, 0, 0)) rfl ?_
          refine to_n 3 (fr' := (97, [(0, .ref 49), (1, .int y)], [.ref 49, .ref 49], gh S a b sc3 ar3 lo, ex, 0, 0)) rfl ?_
          refine to_getR (v := (nI q)) rfl rfl rfl rfl hc81_1 ?_
          refine to_n 1 (fr' := (101, [(0, .ref 49), (1, .int y)], [.int 1, .int (nI q), .ref 49], gh S a b sc3 ar3 lo, ex, 0, 0)) rfl ?_
          refine to_addN (x := q) (y := 1) rfl ?_
          refine to_putR (h' := gh S a b (upd sc3 4935 (nI (q + 1))) ar3 lo) rfl rfl rfl (Nat.le_of_ble_eq_true rfl) rfl rfl ?_
          have hI8 := ip_4935 (v := (nI (q + 1))) hI3 (rl_n (n := (q + 1)) (by omega))
          have hF8 := fr_s (k := 4935) (v := (nI (q + 1))) hF3 (by decide)
          refine to_n 1 (fr' := (81, [(0, .ref 49), (1, .int y)], [], gh S a b (upd sc3 4935 (nI (q + 1))) ar3 lo, ex, 0, 0)) rfl ?_
          exfalso
          omega
        · refine to_eq (fr' := (92, [(0, .ref 49), (1, .int y)], [.int 0], gh S a b sc3 ar3 lo, ex, 0, 0)) rfl ?_
          refine to_n 3 (fr' := (110, [(0, .ref 49), (1, .int y)], [.int 1, .ref 49], gh S a b sc3 ar3 lo, ex, 0, 0)) rfl ?_
          refine to_putR (h' := gh S a b (upd sc3 4937 1) ar3 lo) rfl rfl rfl (Nat.le_of_ble_eq_true rfl) rfl rfl ?_
          have hI9 := ip_4937 (v := 1) hI3 
          have hF9 := fr_s (k := 4937) (v := 1) hF3 (by decide)
          refine to_n 1 (fr' := (240, [(0, .ref 49), (1, .int y)], [], gh S a b (upd sc3 4937 1) ar3 lo, ex, 0, 0)) rfl ?_
          have hlt : B < q := Nat.lt_of_le_of_ne (by omega) (fun w => by first | omega | exact absurd (hc81_6 w.symm) w7)
          refine to_lv (lv := [(0, .ref 49)]) rfl ⟨rfl, trivial⟩ ?_
          exact c240 B q (upd sc3 4937 1) ar3 (hc81_0) (hc81_1) (hc81_2) (by omega) (by omega) (by omega) (fun _ => by omega) hI9 hF9
    | succ m ih =>
      intro y B q sc3 ar3 hm hc81_0 hc81_1 hc81_2 hc81_3 hc81_4 hc81_5 hc81_6 hI3 hF3
      refine to_n 2 (fr' := (83, [(0, .ref 49), (1, .int y)], [.ref 49, .ref 49], gh S a b sc3 ar3 lo, ex, 0, 0)) rfl ?_
      refine to_getR (v := (nI q)) rfl rfl rfl rfl hc81_1 ?_
      refine to_cp (q := 119) (M1 := an_X10_byteAt) (rest := []) rfl rfl (by decide) rfl ⟨_, rfl⟩ (sf_byteAt hW hI3 q (by omega) r (by omega) hc81_2 d) (fun x10 hx10 => ?_)
      rcases hx10 with ⟨rfl, w10⟩ | ⟨w10, rfl⟩
      · refine to_eq (fr' := (89, [(0, .ref 49), (1, .int y)], [.int (-1)], gh S a b sc3 ar3 lo, ex, 0, 0)) rfl ?_
        refine to_cp (q := 120) (M1 := an_X10_isLetter) (rest := []) rfl rfl (by decide) rfl trivial (sf_isLetter hW hI3 (-1) d) (fun x11 hx11 => ?_)
        rcases hx11 with ⟨rfl, w11⟩ | ⟨rfl, w11⟩
        · exact absurd w11.1 (by decide)
        · refine to_eq (fr' := (92, [(0, .ref 49), (1, .int y)], [.int 0], gh S a b sc3 ar3 lo, ex, 0, 0)) rfl ?_
          refine to_n 3 (fr' := (110, [(0, .ref 49), (1, .int y)], [.int 1, .ref 49], gh S a b sc3 ar3 lo, ex, 0, 0)) rfl ?_
          refine to_putR (h' := gh S a b (upd sc3 4937 1) ar3 lo) rfl rfl rfl (Nat.le_of_ble_eq_true rfl) rfl rfl ?_
          have hI12 := ip_4937 (v := 1) hI3 
          have hF12 := fr_s (k := 4937) (v := 1) hF3 (by decide)
          refine to_n 1 (fr' := (240, [(0, .ref 49), (1, .int y)], [], gh S a b (upd sc3 4937 1) ar3 lo, ex, 0, 0)) rfl ?_
          have hlt : B < q := Nat.lt_of_le_of_ne (by omega) (fun w => by first | omega | exact absurd (hc81_6 w.symm) w11)
          refine to_lv (lv := [(0, .ref 49)]) rfl ⟨rfl, trivial⟩ ?_
          exact c240 B q (upd sc3 4937 1) ar3 (hc81_0) (hc81_1) (hc81_2) (by omega) (by omega) (by omega) (fun _ => by omega) hI12 hF12
      · refine to_eq (fr' := (89, [(0, .ref 49), (1, .int y)], [.int (ar3 67 q)], gh S a b sc3 ar3 lo, ex, 0, 0)) rfl ?_
        refine to_cp (q := 120) (M1 := an_X10_isLetter) (rest := []) rfl rfl (by decide) rfl trivial (sf_isLetter hW hI3 (ar3 67 q) d) (fun x13 hx13 => ?_)
        rcases hx13 with ⟨rfl, w13⟩ | ⟨rfl, w13⟩
        · refine to_eq (fr' := (92, [(0, .ref 49), (1, .int y)], [.int 1], gh S a b sc3 ar3 lo, ex, 0, 0)) rfl ?_
          refine to_n 3 (fr' := (97, [(0, .ref 49), (1, .int y)], [.ref 49, .ref 49], gh S a b sc3 ar3 lo, ex, 0, 0)) rfl ?_
          refine to_getR (v := (nI q)) rfl rfl rfl rfl hc81_1 ?_
          refine to_n 1 (fr' := (101, [(0, .ref 49), (1, .int y)], [.int 1, .int (nI q), .ref 49], gh S a b sc3 ar3 lo, ex, 0, 0)) rfl ?_
          refine to_addN (x := q) (y := 1) rfl ?_
          refine to_putR (h' := gh S a b (upd sc3 4935 (nI (q + 1))) ar3 lo) rfl rfl rfl (Nat.le_of_ble_eq_true rfl) rfl rfl ?_
          have hI14 := ip_4935 (v := (nI (q + 1))) hI3 (rl_n (n := (q + 1)) (by omega))
          have hF14 := fr_s (k := 4935) (v := (nI (q + 1))) hF3 (by decide)
          refine to_n 1 (fr' := (81, [(0, .ref 49), (1, .int y)], [], gh S a b (upd sc3 4935 (nI (q + 1))) ar3 lo, ex, 0, 0)) rfl ?_
          exact ih y B (q + 1) (upd sc3 4935 (nI (q + 1))) ar3 (by omega) (hc81_0) (rfl) (hc81_2) (by omega) (by omega) (by omega) (fun w => absurd w (by omega)) hI14 hF14
        · refine to_eq (fr' := (92, [(0, .ref 49), (1, .int y)], [.int 0], gh S a b sc3 ar3 lo, ex, 0, 0)) rfl ?_
          refine to_n 3 (fr' := (110, [(0, .ref 49), (1, .int y)], [.int 1, .ref 49], gh S a b sc3 ar3 lo, ex, 0, 0)) rfl ?_
          refine to_putR (h' := gh S a b (upd sc3 4937 1) ar3 lo) rfl rfl rfl (Nat.le_of_ble_eq_true rfl) rfl rfl ?_
          have hI15 := ip_4937 (v := 1) hI3 
          have hF15 := fr_s (k := 4937) (v := 1) hF3 (by decide)
          refine to_n 1 (fr' := (240, [(0, .ref 49), (1, .int y)], [], gh S a b (upd sc3 4937 1) ar3 lo, ex, 0, 0)) rfl ?_
          have hlt : B < q := Nat.lt_of_le_of_ne (by omega) (fun w => by first | omega | exact absurd (hc81_6 w.symm) w13)
          refine to_lv (lv := [(0, .ref 49)]) rfl ⟨rfl, trivial⟩ ?_
          exact c240 B q (upd sc3 4937 1) ar3 (hc81_0) (hc81_1) (hc81_2) (by omega) (by omega) (by omega) (fun _ => by omega) hI15 hF15
  have c123 : ∀ m : Nat, ∀ (y : Int32) (B : Nat) (q : Nat) (sc16 : Nat → Int32) (ar16 : Nat → Nat → Int32), q + m = r → sc16 4939 = nI B → sc16 4935 = nI q → sc16 4936 = nI r → p ≤ B → B ≤ q → B < r → (q = B → (48 ≤ ar16 67 q ∧ ar16 67 q ≤ 57)) → Iv S sc16 ar16 → Fr [4935, 4937, 4938, 4939, 4940] [] sc ar sc16 ar16 → ag_To X (d + 1) an_X10_step (123, [(0, .ref 49), (1, .int y)], [], gh S a b sc16 ar16 lo, ex, 0, 0) (qv S a b lo ex (fun sc' ar' => Iv S sc' ar' ∧ Fr [4935, 4937, 4938, 4939, 4940] [] sc ar sc' ar' ∧ (∃ B q : Nat, sc' 4939 = nI B ∧ sc' 4935 = nI q ∧ sc' 4940 = nI q ∧ p ≤ B ∧ B ≤ q ∧ q ≤ r ∧ (¬ sc' 4937 = 0 → B < q)))) := by
    intro m
    induction m with
    | zero =>
      intro y B q sc16 ar16 hm hc123_0 hc123_1 hc123_2 hc123_3 hc123_4 hc123_5 hc123_6 hI16 hF16
      refine to_n 2 (fr' := (125, [(0, .ref 49), (1, .int y)], [.ref 49, .ref 49], gh S a b sc16 ar16 lo, ex, 0, 0)) rfl ?_
      refine to_getR (v := (nI q)) rfl rfl rfl rfl hc123_1 ?_
      refine to_cp (q := 119) (M1 := an_X10_byteAt) (rest := []) rfl rfl (by decide) rfl ⟨_, rfl⟩ (sf_byteAt hW hI16 q (by omega) r (by omega) hc123_2 d) (fun x17 hx17 => ?_)
      rcases hx17 with ⟨rfl, w17⟩ | ⟨w17, rfl⟩
      · refine to_eq (fr' := (131, [(0, .ref 49), (1, .int y)], [.int (-1)], gh S a b sc16 ar16 lo, ex, 0, 0)) rfl ?_
        refine to_cp (q := 121) (M1 := an_X10_isDigit) (rest := []) rfl rfl (by decide) rfl trivial (sf_isDigit hW hI16 (-1) d) (fun x18 hx18 => ?_)
        rcases hx18 with ⟨rfl, w18⟩ | ⟨rfl, w18⟩
        · exact absurd w18.1 (by decide)
        · refine to_eq (fr' := (134, [(0, .ref 49), (1, .int y)], [.int 0], gh S a b sc16 ar16 lo, ex, 0, 0)) rfl ?_
          refine to_n 3 (fr' := (152, [(0, .ref 49), (1, .int y)], [.int 2, .ref 49], gh S a b sc16 ar16 lo, ex, 0, 0)) rfl ?_
          refine to_putR (h' := gh S a b (upd sc16 4937 2) ar16 lo) rfl rfl rfl (Nat.le_of_ble_eq_true rfl) rfl rfl ?_
          have hI19 := ip_4937 (v := 2) hI16 
          have hF19 := fr_s (k := 4937) (v := 2) hF16 (by decide)
          refine to_n 1 (fr' := (240, [(0, .ref 49), (1, .int y)], [], gh S a b (upd sc16 4937 2) ar16 lo, ex, 0, 0)) rfl ?_
          have hlt : B < q := Nat.lt_of_le_of_ne (by omega) (fun w => by first | omega | exact absurd (hc123_6 w.symm) w18)
          refine to_lv (lv := [(0, .ref 49)]) rfl ⟨rfl, trivial⟩ ?_
          exact c240 B q (upd sc16 4937 2) ar16 (hc123_0) (hc123_1) (hc123_2) (by omega) (by omega) (by omega) (fun _ => by omega) hI19 hF19
      · refine to_eq (fr' := (131, [(0, .ref 49), (1, .int y)], [.int (ar16 67 q)], gh S a b sc16 ar16 lo, ex, 0, 0)) rfl ?_
        refine to_cp (q := 121) (M1 := an_X10_isDigit) (rest := []) rfl rfl (by decide) rfl trivial (sf_isDigit hW hI16 (ar16 67 q) d) (fun x20 hx20 => ?_)
        rcases hx20 with ⟨rfl, w20⟩ | ⟨rfl, w20⟩
        · refine to_eq (fr' := (134, [(0, .ref 49), (1, .int y)], [.int 1], gh S a b sc16 ar16 lo, ex, 0, 0)) rfl ?_
          refine to_n 3 (fr' := (139, [(0, .ref 49), (1, .int y)], [.ref 49, .ref 49], gh S a b sc16 ar16 lo, ex, 0, 0)) rfl ?_
          refine to_getR (v := (nI q)) rfl rfl rfl rfl hc123_1 ?_
          refine to_n 1 (fr' := (143, [(0, .ref 49), (1, .int y)], [.int 1, .int (nI q), .ref 49], gh S a b sc16 ar16 lo, ex, 0, 0)) rfl ?_
          refine to_addN (x := q) (y := 1) rfl ?_
          refine to_putR (h' := gh S a b (upd sc16 4935 (nI (q + 1))) ar16 lo) rfl rfl rfl (Nat.le_of_ble_eq_true rfl) rfl rfl ?_
          have hI21 := ip_4935 (v := (nI (q + 1))) hI16 (rl_n (n := (q + 1)) (by omega))
          have hF21 := fr_s (k := 4935) (v := (nI (q + 1))) hF16 (by decide)
          refine to_n 1 (fr' := (123, [(0, .ref 49), (1, .int y)], [], gh S a b (upd sc16 4935 (nI (q + 1))) ar16 lo, ex, 0, 0)) rfl ?_
          exfalso
          omega
        · refine to_eq (fr' := (134, [(0, .ref 49), (1, .int y)], [.int 0], gh S a b sc16 ar16 lo, ex, 0, 0)) rfl ?_
          refine to_n 3 (fr' := (152, [(0, .ref 49), (1, .int y)], [.int 2, .ref 49], gh S a b sc16 ar16 lo, ex, 0, 0)) rfl ?_
          refine to_putR (h' := gh S a b (upd sc16 4937 2) ar16 lo) rfl rfl rfl (Nat.le_of_ble_eq_true rfl) rfl rfl ?_
          have hI22 := ip_4937 (v := 2) hI16 
          have hF22 := fr_s (k := 4937) (v := 2) hF16 (by decide)
          refine to_n 1 (fr' := (240, [(0, .ref 49), (1, .int y)], [], gh S a b (upd sc16 4937 2) ar16 lo, ex, 0, 0)) rfl ?_
          have hlt : B < q := Nat.lt_of_le_of_ne (by omega) (fun w => by first | omega | exact absurd (hc123_6 w.symm) w20)
          refine to_lv (lv := [(0, .ref 49)]) rfl ⟨rfl, trivial⟩ ?_
          exact c240 B q (upd sc16 4937 2) ar16 (hc123_0) (hc123_1) (hc123_2) (by omega) (by omega) (by omega) (fun _ => by omega) hI22 hF22
    | succ m ih =>
      intro y B q sc16 ar16 hm hc123_0 hc123_1 hc123_2 hc123_3 hc123_4 hc123_5 hc123_6 hI16 hF16
      refine to_n 2 (fr' := (125, [(0, .ref 49), (1, .int y)], [.ref 49, .ref 49], gh S a b sc16 ar16 lo, ex, 0, 0)) rfl ?_
      refine to_getR (v := (nI q)) rfl rfl rfl rfl hc123_1 ?_
      refine to_cp (q := 119) (M1 := an_X10_byteAt) (rest := []) rfl rfl (by decide) rfl ⟨_, rfl⟩ (sf_byteAt hW hI16 q (by omega) r (by omega) hc123_2 d) (fun x23 hx23 => ?_)
      rcases hx23 with ⟨rfl, w23⟩ | ⟨w23, rfl⟩
      · refine to_eq (fr' := (131, [(0, .ref 49), (1, .int y)], [.int (-1)], gh S a b sc16 ar16 lo, ex, 0, 0)) rfl ?_
        refine to_cp (q := 121) (M1 := an_X10_isDigit) (rest := []) rfl rfl (by decide) rfl trivial (sf_isDigit hW hI16 (-1) d) (fun x24 hx24 => ?_)
        rcases hx24 with ⟨rfl, w24⟩ | ⟨rfl, w24⟩
        · exact absurd w24.1 (by decide)
        · refine to_eq (fr' := (134, [(0, .ref 49), (1, .int y)], [.int 0], gh S a b sc16 ar16 lo, ex, 0, 0)) rfl ?_
          refine to_n 3 (fr' := (152, [(0, .ref 49), (1, .int y)], [.int 2, .ref 49], gh S a b sc16 ar16 lo, ex, 0, 0)) rfl ?_
          refine to_putR (h' := gh S a b (upd sc16 4937 2) ar16 lo) rfl rfl rfl (Nat.le_of_ble_eq_true rfl) rfl rfl ?_
          have hI25 := ip_4937 (v := 2) hI16 
          have hF25 := fr_s (k := 4937) (v := 2) hF16 (by decide)
          refine to_n 1 (fr' := (240, [(0, .ref 49), (1, .int y)], [], gh S a b (upd sc16 4937 2) ar16 lo, ex, 0, 0)) rfl ?_
          have hlt : B < q := Nat.lt_of_le_of_ne (by omega) (fun w => by first | omega | exact absurd (hc123_6 w.symm) w24)
          refine to_lv (lv := [(0, .ref 49)]) rfl ⟨rfl, trivial⟩ ?_
          exact c240 B q (upd sc16 4937 2) ar16 (hc123_0) (hc123_1) (hc123_2) (by omega) (by omega) (by omega) (fun _ => by omega) hI25 hF25
      · refine to_eq (fr' := (131, [(0, .ref 49), (1, .int y)], [.int (ar16 67 q)], gh S a b sc16 ar16 lo, ex, 0, 0)) rfl ?_
        refine to_cp (q := 121) (M1 := an_X10_isDigit) (rest := []) rfl rfl (by decide) rfl trivial (sf_isDigit hW hI16 (ar16 67 q) d) (fun x26 hx26 => ?_)
        rcases hx26 with ⟨rfl, w26⟩ | ⟨rfl, w26⟩
        · refine to_eq (fr' := (134, [(0, .ref 49), (1, .int y)], [.int 1], gh S a b sc16 ar16 lo, ex, 0, 0)) rfl ?_
          refine to_n 3 (fr' := (139, [(0, .ref 49), (1, .int y)], [.ref 49, .ref 49], gh S a b sc16 ar16 lo, ex, 0, 0)) rfl ?_
          refine to_getR (v := (nI q)) rfl rfl rfl rfl hc123_1 ?_
          refine to_n 1 (fr' := (143, [(0, .ref 49), (1, .int y)], [.int 1, .int (nI q), .ref 49], gh S a b sc16 ar16 lo, ex, 0, 0)) rfl ?_
          refine to_addN (x := q) (y := 1) rfl ?_
          refine to_putR (h' := gh S a b (upd sc16 4935 (nI (q + 1))) ar16 lo) rfl rfl rfl (Nat.le_of_ble_eq_true rfl) rfl rfl ?_
          have hI27 := ip_4935 (v := (nI (q + 1))) hI16 (rl_n (n := (q + 1)) (by omega))
          have hF27 := fr_s (k := 4935) (v := (nI (q + 1))) hF16 (by decide)
          refine to_n 1 (fr' := (123, [(0, .ref 49), (1, .int y)], [], gh S a b (upd sc16 4935 (nI (q + 1))) ar16 lo, ex, 0, 0)) rfl ?_
          exact ih y B (q + 1) (upd sc16 4935 (nI (q + 1))) ar16 (by omega) (hc123_0) (rfl) (hc123_2) (by omega) (by omega) (by omega) (fun w => absurd w (by omega)) hI27 hF27
        · refine to_eq (fr' := (134, [(0, .ref 49), (1, .int y)], [.int 0], gh S a b sc16 ar16 lo, ex, 0, 0)) rfl ?_
          refine to_n 3 (fr' := (152, [(0, .ref 49), (1, .int y)], [.int 2, .ref 49], gh S a b sc16 ar16 lo, ex, 0, 0)) rfl ?_
          refine to_putR (h' := gh S a b (upd sc16 4937 2) ar16 lo) rfl rfl rfl (Nat.le_of_ble_eq_true rfl) rfl rfl ?_
          have hI28 := ip_4937 (v := 2) hI16 
          have hF28 := fr_s (k := 4937) (v := 2) hF16 (by decide)
          refine to_n 1 (fr' := (240, [(0, .ref 49), (1, .int y)], [], gh S a b (upd sc16 4937 2) ar16 lo, ex, 0, 0)) rfl ?_
          have hlt : B < q := Nat.lt_of_le_of_ne (by omega) (fun w => by first | omega | exact absurd (hc123_6 w.symm) w26)
          refine to_lv (lv := [(0, .ref 49)]) rfl ⟨rfl, trivial⟩ ?_
          exact c240 B q (upd sc16 4937 2) ar16 (hc123_0) (hc123_1) (hc123_2) (by omega) (by omega) (by omega) (fun _ => by omega) hI28 hF28
  have c0 : ∀ m : Nat, ∀ (q : Nat) (sc29 : Nat → Int32) (ar29 : Nat → Nat → Int32), q + m = r → sc29 4935 = nI q → sc29 4936 = nI r → p ≤ q → q ≤ r → Iv S sc29 ar29 → Fr [4935, 4937, 4938, 4939, 4940] [] sc ar sc29 ar29 → ag_To X (d + 1) an_X10_step (0, [(0, .ref 49)], [], gh S a b sc29 ar29 lo, ex, 0, 0) (qv S a b lo ex (fun sc' ar' => Iv S sc' ar' ∧ Fr [4935, 4937, 4938, 4939, 4940] [] sc ar sc' ar' ∧ (∃ B q : Nat, sc' 4939 = nI B ∧ sc' 4935 = nI q ∧ sc' 4940 = nI q ∧ p ≤ B ∧ B ≤ q ∧ q ≤ r ∧ (¬ sc' 4937 = 0 → B < q)))) := by
    intro m
    induction m with
    | zero =>
      intro q sc29 ar29 hm hc0_0 hc0_1 hc0_2 hc0_3 hI29 hF29
      refine to_n 2 (fr' := (2, [(0, .ref 49)], [.ref 49, .ref 49], gh S a b sc29 ar29 lo, ex, 0, 0)) rfl ?_
      refine to_getR (v := (nI q)) rfl rfl rfl rfl hc0_0 ?_
      refine to_cp (q := 119) (M1 := an_X10_byteAt) (rest := []) rfl rfl (by decide) rfl ⟨_, rfl⟩ (sf_byteAt hW hI29 q (by omega) r (by omega) hc0_1 d) (fun x30 hx30 => ?_)
      rcases hx30 with ⟨rfl, w30⟩ | ⟨w30, rfl⟩
      · refine to_eq (fr' := (8, [(0, .ref 49)], [.int (-1)], gh S a b sc29 ar29 lo, ex, 0, 0)) rfl ?_
        refine to_n 4 (fr' := (15, [(0, .ref 49)], [.ref 49, .ref 49], gh S a b sc29 ar29 lo, ex, 0, 0)) rfl ?_
        refine to_getR (v := (nI q)) rfl rfl rfl rfl hc0_0 ?_
        refine to_cp (q := 119) (M1 := an_X10_byteAt) (rest := []) rfl rfl (by decide) rfl ⟨_, rfl⟩ (sf_byteAt hW hI29 q (by omega) r (by omega) hc0_1 d) (fun x31 hx31 => ?_)
        rcases hx31 with ⟨rfl, w31⟩ | ⟨w31, rfl⟩
        · refine to_eq (fr' := (21, [(0, .ref 49)], [.int (-1)], gh S a b sc29 ar29 lo, ex, 0, 0)) rfl ?_
          refine to_n 4 (fr' := (41, [(0, .ref 49)], [.ref 49, .ref 49], gh S a b sc29 ar29 lo, ex, 0, 0)) rfl ?_
          refine to_getR (v := (nI q)) rfl rfl rfl rfl hc0_0 ?_
          refine to_putR (h' := gh S a b (upd sc29 4939 (nI q)) ar29 lo) rfl rfl rfl (Nat.le_of_ble_eq_true rfl) rfl rfl ?_
          have hI32 := ip_4939 (v := (nI q)) hI29 (rl_n (n := q) (by omega))
          have hF32 := fr_s (k := 4939) (v := (nI q)) hF29 (by decide)
          refine to_n 2 (fr' := (49, [(0, .ref 49)], [.int 0, .ref 49], gh S a b (upd sc29 4939 (nI q)) ar29 lo, ex, 0, 0)) rfl ?_
          refine to_putR (h' := gh S a b (upd (upd sc29 4939 (nI q)) 4938 0) ar29 lo) rfl rfl rfl (Nat.le_of_ble_eq_true rfl) rfl rfl ?_
          have hI33 := ip_4938 (v := 0) hI32 
          have hF33 := fr_s (k := 4938) (v := 0) hF32 (by decide)
          refine to_n 2 (fr' := (54, [(0, .ref 49)], [.ref 49, .ref 49], gh S a b (upd (upd sc29 4939 (nI q)) 4938 0) ar29 lo, ex, 0, 0)) rfl ?_
          refine to_getR (v := (nI q)) rfl rfl rfl rfl hc0_0 ?_
          refine to_cp (q := 119) (M1 := an_X10_byteAt) (rest := []) rfl rfl (by decide) rfl ⟨_, rfl⟩ (sf_byteAt hW hI33 q (by omega) r (by omega) hc0_1 d) (fun x34 hx34 => ?_)
          rcases hx34 with ⟨rfl, w34⟩ | ⟨w34, rfl⟩
          · refine to_eq (fr' := (60, [(0, .ref 49)], [.int (-1)], gh S a b (upd (upd sc29 4939 (nI q)) 4938 0) ar29 lo, ex, 0, 0)) rfl ?_
            refine to_n 6 (fr' := (68, [(0, .ref 49), (1, .int (-1))], [.int 0, .ref 49], gh S a b (upd (upd sc29 4939 (nI q)) 4938 0) ar29 lo, ex, 0, 0)) rfl ?_
            refine to_putR (h' := gh S a b (upd (upd (upd sc29 4939 (nI q)) 4938 0) 4937 0) ar29 lo) rfl rfl rfl (Nat.le_of_ble_eq_true rfl) rfl rfl ?_
            have hI35 := ip_4937 (v := 0) hI33 
            have hF35 := fr_s (k := 4937) (v := 0) hF33 (by decide)
            refine to_n 1 (fr' := (240, [(0, .ref 49), (1, .int (-1))], [], gh S a b (upd (upd (upd sc29 4939 (nI q)) 4938 0) 4937 0) ar29 lo, ex, 0, 0)) rfl ?_
            refine to_lv (lv := [(0, .ref 49)]) rfl ⟨rfl, trivial⟩ ?_
            exact c240 q q (upd (upd (upd sc29 4939 (nI q)) 4938 0) 4937 0) ar29 (rfl) (hc0_0) (hc0_1) (by omega) (by omega) (by omega) (fun w => absurd rfl w) hI35 hF35
          · refine to_eq (fr' := (60, [(0, .ref 49)], [.int (ar29 67 q)], gh S a b (upd (upd sc29 4939 (nI q)) 4938 0) ar29 lo, ex, 0, 0)) rfl ?_
            refine to_n 3 (fr' := (63, [(0, .ref 49), (1, .int (ar29 67 q))], [.int (-1), .int (ar29 67 q)], gh S a b (upd (upd sc29 4939 (nI q)) 4938 0) ar29 lo, ex, 0, 0)) rfl ?_
            refine to_ic_ne (t := 74) rfl (fun q36 => ?_) (fun q36 => ?_)
            · refine to_n 1 (fr' := (75, [(0, .ref 49), (1, .int (ar29 67 q))], [.int (ar29 67 q)], gh S a b (upd (upd sc29 4939 (nI q)) 4938 0) ar29 lo, ex, 0, 0)) rfl ?_
              refine to_cp (q := 120) (M1 := an_X10_isLetter) (rest := []) rfl rfl (by decide) rfl trivial (sf_isLetter hW hI33 (ar29 67 q) d) (fun x37 hx37 => ?_)
              rcases hx37 with ⟨rfl, w37⟩ | ⟨rfl, w37⟩
              · refine to_eq (fr' := (78, [(0, .ref 49), (1, .int (ar29 67 q))], [.int 1], gh S a b (upd (upd sc29 4939 (nI q)) 4938 0) ar29 lo, ex, 0, 0)) rfl ?_
                refine to_n 1 (fr' := (81, [(0, .ref 49), (1, .int (ar29 67 q))], [], gh S a b (upd (upd sc29 4939 (nI q)) 4938 0) ar29 lo, ex, 0, 0)) rfl ?_
                exact c81 (r - q) (ar29 67 q) q q (upd (upd sc29 4939 (nI q)) 4938 0) ar29 (by omega) (rfl) (hc0_0) (hc0_1) (by omega) (by omega) (by omega) (fun _ => w37) hI33 hF33
              · refine to_eq (fr' := (78, [(0, .ref 49), (1, .int (ar29 67 q))], [.int 0], gh S a b (upd (upd sc29 4939 (nI q)) 4938 0) ar29 lo, ex, 0, 0)) rfl ?_
                refine to_n 2 (fr' := (117, [(0, .ref 49), (1, .int (ar29 67 q))], [.int (ar29 67 q)], gh S a b (upd (upd sc29 4939 (nI q)) 4938 0) ar29 lo, ex, 0, 0)) rfl ?_
                refine to_cp (q := 121) (M1 := an_X10_isDigit) (rest := []) rfl rfl (by decide) rfl trivial (sf_isDigit hW hI33 (ar29 67 q) d) (fun x38 hx38 => ?_)
                rcases hx38 with ⟨rfl, w38⟩ | ⟨rfl, w38⟩
                · refine to_eq (fr' := (120, [(0, .ref 49), (1, .int (ar29 67 q))], [.int 1], gh S a b (upd (upd sc29 4939 (nI q)) 4938 0) ar29 lo, ex, 0, 0)) rfl ?_
                  refine to_n 1 (fr' := (123, [(0, .ref 49), (1, .int (ar29 67 q))], [], gh S a b (upd (upd sc29 4939 (nI q)) 4938 0) ar29 lo, ex, 0, 0)) rfl ?_
                  exact c123 (r - q) (ar29 67 q) q q (upd (upd sc29 4939 (nI q)) 4938 0) ar29 (by omega) (rfl) (hc0_0) (hc0_1) (by omega) (by omega) (by omega) (fun _ => w38) hI33 hF33
                · refine to_eq (fr' := (120, [(0, .ref 49), (1, .int (ar29 67 q))], [.int 0], gh S a b (upd (upd sc29 4939 (nI q)) 4938 0) ar29 lo, ex, 0, 0)) rfl ?_
                  refine to_n 3 (fr' := (160, [(0, .ref 49), (1, .int (ar29 67 q))], [.ref 49, .ref 49], gh S a b (upd (upd sc29 4939 (nI q)) 4938 0) ar29 lo, ex, 0, 0)) rfl ?_
                  refine to_getR (v := (nI q)) rfl rfl rfl rfl hc0_0 ?_
                  refine to_n 1 (fr' := (164, [(0, .ref 49), (1, .int (ar29 67 q))], [.int 1, .int (nI q), .ref 49], gh S a b (upd (upd sc29 4939 (nI q)) 4938 0) ar29 lo, ex, 0, 0)) rfl ?_
                  refine to_addN (x := q) (y := 1) rfl ?_
                  refine to_putR (h' := gh S a b (upd (upd (upd sc29 4939 (nI q)) 4938 0) 4935 (nI (q + 1))) ar29 lo) rfl rfl rfl (Nat.le_of_ble_eq_true rfl) rfl rfl ?_
                  have hI39 := ip_4935 (v := (nI (q + 1))) hI33 (rl_n (n := (q + 1)) (by omega))
                  have hF39 := fr_s (k := 4935) (v := (nI (q + 1))) hF33 (by decide)
                  refine to_n 2 (fr' := (171, [(0, .ref 49), (1, .int (ar29 67 q))], [.int 40, .int (ar29 67 q)], gh S a b (upd (upd (upd sc29 4939 (nI q)) 4938 0) 4935 (nI (q + 1))) ar29 lo, ex, 0, 0)) rfl ?_
                  refine to_ic_eq (t := 216) rfl (fun q40 => ?_) (fun q40 => ?_)
                  · refine to_n 8 (fr' := (232, [(0, .ref 49), (1, .int (ar29 67 q)), (2, .int 1)], [.int 3, .ref 49], gh S a b (upd (upd (upd sc29 4939 (nI q)) 4938 0) 4935 (nI (q + 1))) ar29 lo, ex, 0, 0)) rfl ?_
                    refine to_putR (h' := gh S a b (upd (upd (upd (upd sc29 4939 (nI q)) 4938 0) 4935 (nI (q + 1))) 4937 3) ar29 lo) rfl rfl rfl (Nat.le_of_ble_eq_true rfl) rfl rfl ?_
                    have hI41 := ip_4937 (v := 3) hI39 
                    have hF41 := fr_s (k := 4937) (v := 3) hF39 (by decide)
                    refine to_n 2 (fr' := (237, [(0, .ref 49), (1, .int (ar29 67 q)), (2, .int 1)], [.int (ar29 67 q), .ref 49], gh S a b (upd (upd (upd (upd sc29 4939 (nI q)) 4938 0) 4935 (nI (q + 1))) 4937 3) ar29 lo, ex, 0, 0)) rfl ?_
                    refine to_putR (h' := gh S a b (upd (upd (upd (upd (upd sc29 4939 (nI q)) 4938 0) 4935 (nI (q + 1))) 4937 3) 4938 (ar29 67 q)) ar29 lo) rfl rfl rfl (Nat.le_of_ble_eq_true rfl) rfl rfl ?_
                    have hI42 := ip_4938 (v := (ar29 67 q)) hI41 
                    have hF42 := fr_s (k := 4938) (v := (ar29 67 q)) hF41 (by decide)
                    refine to_lv (lv := [(0, .ref 49)]) rfl ⟨rfl, trivial⟩ ?_
                    exact c240 q (q + 1) (upd (upd (upd (upd (upd sc29 4939 (nI q)) 4938 0) 4935 (nI (q + 1))) 4937 3) 4938 (ar29 67 q)) ar29 (rfl) (rfl) (hc0_1) (by omega) (by omega) (by omega) (fun _ => by omega) hI42 hF42
                  · refine to_n 2 (fr' := (177, [(0, .ref 49), (1, .int (ar29 67 q))], [.int 41, .int (ar29 67 q)], gh S a b (upd (upd (upd sc29 4939 (nI q)) 4938 0) 4935 (nI (q + 1))) ar29 lo, ex, 0, 0)) rfl ?_
                    refine to_ic_eq (t := 216) rfl (fun q43 => ?_) (fun q43 => ?_)
                    · refine to_n 8 (fr' := (232, [(0, .ref 49), (1, .int (ar29 67 q)), (2, .int 1)], [.int 3, .ref 49], gh S a b (upd (upd (upd sc29 4939 (nI q)) 4938 0) 4935 (nI (q + 1))) ar29 lo, ex, 0, 0)) rfl ?_
                      refine to_putR (h' := gh S a b (upd (upd (upd (upd sc29 4939 (nI q)) 4938 0) 4935 (nI (q + 1))) 4937 3) ar29 lo) rfl rfl rfl (Nat.le_of_ble_eq_true rfl) rfl rfl ?_
                      have hI44 := ip_4937 (v := 3) hI39 
                      have hF44 := fr_s (k := 4937) (v := 3) hF39 (by decide)
                      refine to_n 2 (fr' := (237, [(0, .ref 49), (1, .int (ar29 67 q)), (2, .int 1)], [.int (ar29 67 q), .ref 49], gh S a b (upd (upd (upd (upd sc29 4939 (nI q)) 4938 0) 4935 (nI (q + 1))) 4937 3) ar29 lo, ex, 0, 0)) rfl ?_
                      refine to_putR (h' := gh S a b (upd (upd (upd (upd (upd sc29 4939 (nI q)) 4938 0) 4935 (nI (q + 1))) 4937 3) 4938 (ar29 67 q)) ar29 lo) rfl rfl rfl (Nat.le_of_ble_eq_true rfl) rfl rfl ?_
                      have hI45 := ip_4938 (v := (ar29 67 q)) hI44 
                      have hF45 := fr_s (k := 4938) (v := (ar29 67 q)) hF44 (by decide)
                      refine to_lv (lv := [(0, .ref 49)]) rfl ⟨rfl, trivial⟩ ?_
                      exact c240 q (q + 1) (upd (upd (upd (upd (upd sc29 4939 (nI q)) 4938 0) 4935 (nI (q + 1))) 4937 3) 4938 (ar29 67 q)) ar29 (rfl) (rfl) (hc0_1) (by omega) (by omega) (by omega) (fun _ => by omega) hI45 hF45
                    · refine to_n 2 (fr' := (183, [(0, .ref 49), (1, .int (ar29 67 q))], [.int 59, .int (ar29 67 q)], gh S a b (upd (upd (upd sc29 4939 (nI q)) 4938 0) 4935 (nI (q + 1))) ar29 lo, ex, 0, 0)) rfl ?_
                      refine to_ic_eq (t := 216) rfl (fun q46 => ?_) (fun q46 => ?_)
                      · refine to_n 8 (fr' := (232, [(0, .ref 49), (1, .int (ar29 67 q)), (2, .int 1)], [.int 3, .ref 49], gh S a b (upd (upd (upd sc29 4939 (nI q)) 4938 0) 4935 (nI (q + 1))) ar29 lo, ex, 0, 0)) rfl ?_
                        refine to_putR (h' := gh S a b (upd (upd (upd (upd sc29 4939 (nI q)) 4938 0) 4935 (nI (q + 1))) 4937 3) ar29 lo) rfl rfl rfl (Nat.le_of_ble_eq_true rfl) rfl rfl ?_
                        have hI47 := ip_4937 (v := 3) hI39 
                        have hF47 := fr_s (k := 4937) (v := 3) hF39 (by decide)
                        refine to_n 2 (fr' := (237, [(0, .ref 49), (1, .int (ar29 67 q)), (2, .int 1)], [.int (ar29 67 q), .ref 49], gh S a b (upd (upd (upd (upd sc29 4939 (nI q)) 4938 0) 4935 (nI (q + 1))) 4937 3) ar29 lo, ex, 0, 0)) rfl ?_
                        refine to_putR (h' := gh S a b (upd (upd (upd (upd (upd sc29 4939 (nI q)) 4938 0) 4935 (nI (q + 1))) 4937 3) 4938 (ar29 67 q)) ar29 lo) rfl rfl rfl (Nat.le_of_ble_eq_true rfl) rfl rfl ?_
                        have hI48 := ip_4938 (v := (ar29 67 q)) hI47 
                        have hF48 := fr_s (k := 4938) (v := (ar29 67 q)) hF47 (by decide)
                        refine to_lv (lv := [(0, .ref 49)]) rfl ⟨rfl, trivial⟩ ?_
                        exact c240 q (q + 1) (upd (upd (upd (upd (upd sc29 4939 (nI q)) 4938 0) 4935 (nI (q + 1))) 4937 3) 4938 (ar29 67 q)) ar29 (rfl) (rfl) (hc0_1) (by omega) (by omega) (by omega) (fun _ => by omega) hI48 hF48
                      · refine to_n 2 (fr' := (189, [(0, .ref 49), (1, .int (ar29 67 q))], [.int 43, .int (ar29 67 q)], gh S a b (upd (upd (upd sc29 4939 (nI q)) 4938 0) 4935 (nI (q + 1))) ar29 lo, ex, 0, 0)) rfl ?_
                        refine to_ic_eq (t := 216) rfl (fun q49 => ?_) (fun q49 => ?_)
                        · refine to_n 8 (fr' := (232, [(0, .ref 49), (1, .int (ar29 67 q)), (2, .int 1)], [.int 3, .ref 49], gh S a b (upd (upd (upd sc29 4939 (nI q)) 4938 0) 4935 (nI (q + 1))) ar29 lo, ex, 0, 0)) rfl ?_
                          refine to_putR (h' := gh S a b (upd (upd (upd (upd sc29 4939 (nI q)) 4938 0) 4935 (nI (q + 1))) 4937 3) ar29 lo) rfl rfl rfl (Nat.le_of_ble_eq_true rfl) rfl rfl ?_
                          have hI50 := ip_4937 (v := 3) hI39 
                          have hF50 := fr_s (k := 4937) (v := 3) hF39 (by decide)
                          refine to_n 2 (fr' := (237, [(0, .ref 49), (1, .int (ar29 67 q)), (2, .int 1)], [.int (ar29 67 q), .ref 49], gh S a b (upd (upd (upd (upd sc29 4939 (nI q)) 4938 0) 4935 (nI (q + 1))) 4937 3) ar29 lo, ex, 0, 0)) rfl ?_
                          refine to_putR (h' := gh S a b (upd (upd (upd (upd (upd sc29 4939 (nI q)) 4938 0) 4935 (nI (q + 1))) 4937 3) 4938 (ar29 67 q)) ar29 lo) rfl rfl rfl (Nat.le_of_ble_eq_true rfl) rfl rfl ?_
                          have hI51 := ip_4938 (v := (ar29 67 q)) hI50 
                          have hF51 := fr_s (k := 4938) (v := (ar29 67 q)) hF50 (by decide)
                          refine to_lv (lv := [(0, .ref 49)]) rfl ⟨rfl, trivial⟩ ?_
                          exact c240 q (q + 1) (upd (upd (upd (upd (upd sc29 4939 (nI q)) 4938 0) 4935 (nI (q + 1))) 4937 3) 4938 (ar29 67 q)) ar29 (rfl) (rfl) (hc0_1) (by omega) (by omega) (by omega) (fun _ => by omega) hI51 hF51
                        · refine to_n 2 (fr' := (195, [(0, .ref 49), (1, .int (ar29 67 q))], [.int 45, .int (ar29 67 q)], gh S a b (upd (upd (upd sc29 4939 (nI q)) 4938 0) 4935 (nI (q + 1))) ar29 lo, ex, 0, 0)) rfl ?_
                          refine to_ic_eq (t := 216) rfl (fun q52 => ?_) (fun q52 => ?_)
                          · refine to_n 8 (fr' := (232, [(0, .ref 49), (1, .int (ar29 67 q)), (2, .int 1)], [.int 3, .ref 49], gh S a b (upd (upd (upd sc29 4939 (nI q)) 4938 0) 4935 (nI (q + 1))) ar29 lo, ex, 0, 0)) rfl ?_
                            refine to_putR (h' := gh S a b (upd (upd (upd (upd sc29 4939 (nI q)) 4938 0) 4935 (nI (q + 1))) 4937 3) ar29 lo) rfl rfl rfl (Nat.le_of_ble_eq_true rfl) rfl rfl ?_
                            have hI53 := ip_4937 (v := 3) hI39 
                            have hF53 := fr_s (k := 4937) (v := 3) hF39 (by decide)
                            refine to_n 2 (fr' := (237, [(0, .ref 49), (1, .int (ar29 67 q)), (2, .int 1)], [.int (ar29 67 q), .ref 49], gh S a b (upd (upd (upd (upd sc29 4939 (nI q)) 4938 0) 4935 (nI (q + 1))) 4937 3) ar29 lo, ex, 0, 0)) rfl ?_
                            refine to_putR (h' := gh S a b (upd (upd (upd (upd (upd sc29 4939 (nI q)) 4938 0) 4935 (nI (q + 1))) 4937 3) 4938 (ar29 67 q)) ar29 lo) rfl rfl rfl (Nat.le_of_ble_eq_true rfl) rfl rfl ?_
                            have hI54 := ip_4938 (v := (ar29 67 q)) hI53 
                            have hF54 := fr_s (k := 4938) (v := (ar29 67 q)) hF53 (by decide)
                            refine to_lv (lv := [(0, .ref 49)]) rfl ⟨rfl, trivial⟩ ?_
                            exact c240 q (q + 1) (upd (upd (upd (upd (upd sc29 4939 (nI q)) 4938 0) 4935 (nI (q + 1))) 4937 3) 4938 (ar29 67 q)) ar29 (rfl) (rfl) (hc0_1) (by omega) (by omega) (by omega) (fun _ => by omega) hI54 hF54
                          · refine to_n 2 (fr' := (201, [(0, .ref 49), (1, .int (ar29 67 q))], [.int 42, .int (ar29 67 q)], gh S a b (upd (upd (upd sc29 4939 (nI q)) 4938 0) 4935 (nI (q + 1))) ar29 lo, ex, 0, 0)) rfl ?_
                            refine to_ic_eq (t := 216) rfl (fun q55 => ?_) (fun q55 => ?_)
                            · refine to_n 8 (fr' := (232, [(0, .ref 49), (1, .int (ar29 67 q)), (2, .int 1)], [.int 3, .ref 49], gh S a b (upd (upd (upd sc29 4939 (nI q)) 4938 0) 4935 (nI (q + 1))) ar29 lo, ex, 0, 0)) rfl ?_
                              refine to_putR (h' := gh S a b (upd (upd (upd (upd sc29 4939 (nI q)) 4938 0) 4935 (nI (q + 1))) 4937 3) ar29 lo) rfl rfl rfl (Nat.le_of_ble_eq_true rfl) rfl rfl ?_
                              have hI56 := ip_4937 (v := 3) hI39 
                              have hF56 := fr_s (k := 4937) (v := 3) hF39 (by decide)
                              refine to_n 2 (fr' := (237, [(0, .ref 49), (1, .int (ar29 67 q)), (2, .int 1)], [.int (ar29 67 q), .ref 49], gh S a b (upd (upd (upd (upd sc29 4939 (nI q)) 4938 0) 4935 (nI (q + 1))) 4937 3) ar29 lo, ex, 0, 0)) rfl ?_
                              refine to_putR (h' := gh S a b (upd (upd (upd (upd (upd sc29 4939 (nI q)) 4938 0) 4935 (nI (q + 1))) 4937 3) 4938 (ar29 67 q)) ar29 lo) rfl rfl rfl (Nat.le_of_ble_eq_true rfl) rfl rfl ?_
                              have hI57 := ip_4938 (v := (ar29 67 q)) hI56 
                              have hF57 := fr_s (k := 4938) (v := (ar29 67 q)) hF56 (by decide)
                              refine to_lv (lv := [(0, .ref 49)]) rfl ⟨rfl, trivial⟩ ?_
                              exact c240 q (q + 1) (upd (upd (upd (upd (upd sc29 4939 (nI q)) 4938 0) 4935 (nI (q + 1))) 4937 3) 4938 (ar29 67 q)) ar29 (rfl) (rfl) (hc0_1) (by omega) (by omega) (by omega) (fun _ => by omega) hI57 hF57
                            · refine to_n 2 (fr' := (207, [(0, .ref 49), (1, .int (ar29 67 q))], [.int 60, .int (ar29 67 q)], gh S a b (upd (upd (upd sc29 4939 (nI q)) 4938 0) 4935 (nI (q + 1))) ar29 lo, ex, 0, 0)) rfl ?_
                              refine to_ic_eq (t := 216) rfl (fun q58 => ?_) (fun q58 => ?_)
                              · refine to_n 8 (fr' := (232, [(0, .ref 49), (1, .int (ar29 67 q)), (2, .int 1)], [.int 3, .ref 49], gh S a b (upd (upd (upd sc29 4939 (nI q)) 4938 0) 4935 (nI (q + 1))) ar29 lo, ex, 0, 0)) rfl ?_
                                refine to_putR (h' := gh S a b (upd (upd (upd (upd sc29 4939 (nI q)) 4938 0) 4935 (nI (q + 1))) 4937 3) ar29 lo) rfl rfl rfl (Nat.le_of_ble_eq_true rfl) rfl rfl ?_
                                have hI59 := ip_4937 (v := 3) hI39 
                                have hF59 := fr_s (k := 4937) (v := 3) hF39 (by decide)
                                refine to_n 2 (fr' := (237, [(0, .ref 49), (1, .int (ar29 67 q)), (2, .int 1)], [.int (ar29 67 q), .ref 49], gh S a b (upd (upd (upd (upd sc29 4939 (nI q)) 4938 0) 4935 (nI (q + 1))) 4937 3) ar29 lo, ex, 0, 0)) rfl ?_
                                refine to_putR (h' := gh S a b (upd (upd (upd (upd (upd sc29 4939 (nI q)) 4938 0) 4935 (nI (q + 1))) 4937 3) 4938 (ar29 67 q)) ar29 lo) rfl rfl rfl (Nat.le_of_ble_eq_true rfl) rfl rfl ?_
                                have hI60 := ip_4938 (v := (ar29 67 q)) hI59 
                                have hF60 := fr_s (k := 4938) (v := (ar29 67 q)) hF59 (by decide)
                                refine to_lv (lv := [(0, .ref 49)]) rfl ⟨rfl, trivial⟩ ?_
                                exact c240 q (q + 1) (upd (upd (upd (upd (upd sc29 4939 (nI q)) 4938 0) 4935 (nI (q + 1))) 4937 3) 4938 (ar29 67 q)) ar29 (rfl) (rfl) (hc0_1) (by omega) (by omega) (by omega) (fun _ => by omega) hI60 hF60
                              · refine to_n 2 (fr' := (213, [(0, .ref 49), (1, .int (ar29 67 q))], [.int 61, .int (ar29 67 q)], gh S a b (upd (upd (upd sc29 4939 (nI q)) 4938 0) 4935 (nI (q + 1))) ar29 lo, ex, 0, 0)) rfl ?_
                                refine to_ic_ne (t := 220) rfl (fun q61 => ?_) (fun q61 => ?_)
                                · refine to_n 6 (fr' := (232, [(0, .ref 49), (1, .int (ar29 67 q)), (2, .int 0)], [.int 4, .ref 49], gh S a b (upd (upd (upd sc29 4939 (nI q)) 4938 0) 4935 (nI (q + 1))) ar29 lo, ex, 0, 0)) rfl ?_
                                  refine to_putR (h' := gh S a b (upd (upd (upd (upd sc29 4939 (nI q)) 4938 0) 4935 (nI (q + 1))) 4937 4) ar29 lo) rfl rfl rfl (Nat.le_of_ble_eq_true rfl) rfl rfl ?_
                                  have hI62 := ip_4937 (v := 4) hI39 
                                  have hF62 := fr_s (k := 4937) (v := 4) hF39 (by decide)
                                  refine to_n 2 (fr' := (237, [(0, .ref 49), (1, .int (ar29 67 q)), (2, .int 0)], [.int (ar29 67 q), .ref 49], gh S a b (upd (upd (upd (upd sc29 4939 (nI q)) 4938 0) 4935 (nI (q + 1))) 4937 4) ar29 lo, ex, 0, 0)) rfl ?_
                                  refine to_putR (h' := gh S a b (upd (upd (upd (upd (upd sc29 4939 (nI q)) 4938 0) 4935 (nI (q + 1))) 4937 4) 4938 (ar29 67 q)) ar29 lo) rfl rfl rfl (Nat.le_of_ble_eq_true rfl) rfl rfl ?_
                                  have hI63 := ip_4938 (v := (ar29 67 q)) hI62 
                                  have hF63 := fr_s (k := 4938) (v := (ar29 67 q)) hF62 (by decide)
                                  refine to_lv (lv := [(0, .ref 49)]) rfl ⟨rfl, trivial⟩ ?_
                                  exact c240 q (q + 1) (upd (upd (upd (upd (upd sc29 4939 (nI q)) 4938 0) 4935 (nI (q + 1))) 4937 4) 4938 (ar29 67 q)) ar29 (rfl) (rfl) (hc0_1) (by omega) (by omega) (by omega) (fun _ => by omega) hI63 hF63
                                · refine to_n 8 (fr' := (232, [(0, .ref 49), (1, .int (ar29 67 q)), (2, .int 1)], [.int 3, .ref 49], gh S a b (upd (upd (upd sc29 4939 (nI q)) 4938 0) 4935 (nI (q + 1))) ar29 lo, ex, 0, 0)) rfl ?_
                                  refine to_putR (h' := gh S a b (upd (upd (upd (upd sc29 4939 (nI q)) 4938 0) 4935 (nI (q + 1))) 4937 3) ar29 lo) rfl rfl rfl (Nat.le_of_ble_eq_true rfl) rfl rfl ?_
                                  have hI64 := ip_4937 (v := 3) hI39 
                                  have hF64 := fr_s (k := 4937) (v := 3) hF39 (by decide)
                                  refine to_n 2 (fr' := (237, [(0, .ref 49), (1, .int (ar29 67 q)), (2, .int 1)], [.int (ar29 67 q), .ref 49], gh S a b (upd (upd (upd (upd sc29 4939 (nI q)) 4938 0) 4935 (nI (q + 1))) 4937 3) ar29 lo, ex, 0, 0)) rfl ?_
                                  refine to_putR (h' := gh S a b (upd (upd (upd (upd (upd sc29 4939 (nI q)) 4938 0) 4935 (nI (q + 1))) 4937 3) 4938 (ar29 67 q)) ar29 lo) rfl rfl rfl (Nat.le_of_ble_eq_true rfl) rfl rfl ?_
                                  have hI65 := ip_4938 (v := (ar29 67 q)) hI64 
                                  have hF65 := fr_s (k := 4938) (v := (ar29 67 q)) hF64 (by decide)
                                  refine to_lv (lv := [(0, .ref 49)]) rfl ⟨rfl, trivial⟩ ?_
                                  exact c240 q (q + 1) (upd (upd (upd (upd (upd sc29 4939 (nI q)) 4938 0) 4935 (nI (q + 1))) 4937 3) 4938 (ar29 67 q)) ar29 (rfl) (rfl) (hc0_1) (by omega) (by omega) (by omega) (fun _ => by omega) hI65 hF65
            · refine to_n 2 (fr' := (68, [(0, .ref 49), (1, .int (ar29 67 q))], [.int 0, .ref 49], gh S a b (upd (upd sc29 4939 (nI q)) 4938 0) ar29 lo, ex, 0, 0)) rfl ?_
              refine to_putR (h' := gh S a b (upd (upd (upd sc29 4939 (nI q)) 4938 0) 4937 0) ar29 lo) rfl rfl rfl (Nat.le_of_ble_eq_true rfl) rfl rfl ?_
              have hI66 := ip_4937 (v := 0) hI33 
              have hF66 := fr_s (k := 4937) (v := 0) hF33 (by decide)
              refine to_n 1 (fr' := (240, [(0, .ref 49), (1, .int (ar29 67 q))], [], gh S a b (upd (upd (upd sc29 4939 (nI q)) 4938 0) 4937 0) ar29 lo, ex, 0, 0)) rfl ?_
              refine to_lv (lv := [(0, .ref 49)]) rfl ⟨rfl, trivial⟩ ?_
              exact c240 q q (upd (upd (upd sc29 4939 (nI q)) 4938 0) 4937 0) ar29 (rfl) (hc0_0) (hc0_1) (by omega) (by omega) (by omega) (fun w => absurd rfl w) hI66 hF66
        · refine to_eq (fr' := (21, [(0, .ref 49)], [.int (ar29 67 q)], gh S a b sc29 ar29 lo, ex, 0, 0)) rfl ?_
          refine to_n 1 (fr' := (23, [(0, .ref 49)], [.int 10, .int (ar29 67 q)], gh S a b sc29 ar29 lo, ex, 0, 0)) rfl ?_
          refine to_ic_ne (t := 39) rfl (fun q67 => ?_) (fun q67 => ?_)
          · refine to_n 2 (fr' := (41, [(0, .ref 49)], [.ref 49, .ref 49], gh S a b sc29 ar29 lo, ex, 0, 0)) rfl ?_
            refine to_getR (v := (nI q)) rfl rfl rfl rfl hc0_0 ?_
            refine to_putR (h' := gh S a b (upd sc29 4939 (nI q)) ar29 lo) rfl rfl rfl (Nat.le_of_ble_eq_true rfl) rfl rfl ?_
            have hI68 := ip_4939 (v := (nI q)) hI29 (rl_n (n := q) (by omega))
            have hF68 := fr_s (k := 4939) (v := (nI q)) hF29 (by decide)
            refine to_n 2 (fr' := (49, [(0, .ref 49)], [.int 0, .ref 49], gh S a b (upd sc29 4939 (nI q)) ar29 lo, ex, 0, 0)) rfl ?_
            refine to_putR (h' := gh S a b (upd (upd sc29 4939 (nI q)) 4938 0) ar29 lo) rfl rfl rfl (Nat.le_of_ble_eq_true rfl) rfl rfl ?_
            have hI69 := ip_4938 (v := 0) hI68 
            have hF69 := fr_s (k := 4938) (v := 0) hF68 (by decide)
            refine to_n 2 (fr' := (54, [(0, .ref 49)], [.ref 49, .ref 49], gh S a b (upd (upd sc29 4939 (nI q)) 4938 0) ar29 lo, ex, 0, 0)) rfl ?_
            refine to_getR (v := (nI q)) rfl rfl rfl rfl hc0_0 ?_
            refine to_cp (q := 119) (M1 := an_X10_byteAt) (rest := []) rfl rfl (by decide) rfl ⟨_, rfl⟩ (sf_byteAt hW hI69 q (by omega) r (by omega) hc0_1 d) (fun x70 hx70 => ?_)
            rcases hx70 with ⟨rfl, w70⟩ | ⟨w70, rfl⟩
            · refine to_eq (fr' := (60, [(0, .ref 49)], [.int (-1)], gh S a b (upd (upd sc29 4939 (nI q)) 4938 0) ar29 lo, ex, 0, 0)) rfl ?_
              refine to_n 6 (fr' := (68, [(0, .ref 49), (1, .int (-1))], [.int 0, .ref 49], gh S a b (upd (upd sc29 4939 (nI q)) 4938 0) ar29 lo, ex, 0, 0)) rfl ?_
              refine to_putR (h' := gh S a b (upd (upd (upd sc29 4939 (nI q)) 4938 0) 4937 0) ar29 lo) rfl rfl rfl (Nat.le_of_ble_eq_true rfl) rfl rfl ?_
              have hI71 := ip_4937 (v := 0) hI69 
              have hF71 := fr_s (k := 4937) (v := 0) hF69 (by decide)
              refine to_n 1 (fr' := (240, [(0, .ref 49), (1, .int (-1))], [], gh S a b (upd (upd (upd sc29 4939 (nI q)) 4938 0) 4937 0) ar29 lo, ex, 0, 0)) rfl ?_
              refine to_lv (lv := [(0, .ref 49)]) rfl ⟨rfl, trivial⟩ ?_
              exact c240 q q (upd (upd (upd sc29 4939 (nI q)) 4938 0) 4937 0) ar29 (rfl) (hc0_0) (hc0_1) (by omega) (by omega) (by omega) (fun w => absurd rfl w) hI71 hF71
            · refine to_eq (fr' := (60, [(0, .ref 49)], [.int (ar29 67 q)], gh S a b (upd (upd sc29 4939 (nI q)) 4938 0) ar29 lo, ex, 0, 0)) rfl ?_
              refine to_n 3 (fr' := (63, [(0, .ref 49), (1, .int (ar29 67 q))], [.int (-1), .int (ar29 67 q)], gh S a b (upd (upd sc29 4939 (nI q)) 4938 0) ar29 lo, ex, 0, 0)) rfl ?_
              refine to_ic_ne (t := 74) rfl (fun q72 => ?_) (fun q72 => ?_)
              · refine to_n 1 (fr' := (75, [(0, .ref 49), (1, .int (ar29 67 q))], [.int (ar29 67 q)], gh S a b (upd (upd sc29 4939 (nI q)) 4938 0) ar29 lo, ex, 0, 0)) rfl ?_
                refine to_cp (q := 120) (M1 := an_X10_isLetter) (rest := []) rfl rfl (by decide) rfl trivial (sf_isLetter hW hI69 (ar29 67 q) d) (fun x73 hx73 => ?_)
                rcases hx73 with ⟨rfl, w73⟩ | ⟨rfl, w73⟩
                · refine to_eq (fr' := (78, [(0, .ref 49), (1, .int (ar29 67 q))], [.int 1], gh S a b (upd (upd sc29 4939 (nI q)) 4938 0) ar29 lo, ex, 0, 0)) rfl ?_
                  refine to_n 1 (fr' := (81, [(0, .ref 49), (1, .int (ar29 67 q))], [], gh S a b (upd (upd sc29 4939 (nI q)) 4938 0) ar29 lo, ex, 0, 0)) rfl ?_
                  exact c81 (r - q) (ar29 67 q) q q (upd (upd sc29 4939 (nI q)) 4938 0) ar29 (by omega) (rfl) (hc0_0) (hc0_1) (by omega) (by omega) (by omega) (fun _ => w73) hI69 hF69
                · refine to_eq (fr' := (78, [(0, .ref 49), (1, .int (ar29 67 q))], [.int 0], gh S a b (upd (upd sc29 4939 (nI q)) 4938 0) ar29 lo, ex, 0, 0)) rfl ?_
                  refine to_n 2 (fr' := (117, [(0, .ref 49), (1, .int (ar29 67 q))], [.int (ar29 67 q)], gh S a b (upd (upd sc29 4939 (nI q)) 4938 0) ar29 lo, ex, 0, 0)) rfl ?_
                  refine to_cp (q := 121) (M1 := an_X10_isDigit) (rest := []) rfl rfl (by decide) rfl trivial (sf_isDigit hW hI69 (ar29 67 q) d) (fun x74 hx74 => ?_)
                  rcases hx74 with ⟨rfl, w74⟩ | ⟨rfl, w74⟩
                  · refine to_eq (fr' := (120, [(0, .ref 49), (1, .int (ar29 67 q))], [.int 1], gh S a b (upd (upd sc29 4939 (nI q)) 4938 0) ar29 lo, ex, 0, 0)) rfl ?_
                    refine to_n 1 (fr' := (123, [(0, .ref 49), (1, .int (ar29 67 q))], [], gh S a b (upd (upd sc29 4939 (nI q)) 4938 0) ar29 lo, ex, 0, 0)) rfl ?_
                    exact c123 (r - q) (ar29 67 q) q q (upd (upd sc29 4939 (nI q)) 4938 0) ar29 (by omega) (rfl) (hc0_0) (hc0_1) (by omega) (by omega) (by omega) (fun _ => w74) hI69 hF69
                  · refine to_eq (fr' := (120, [(0, .ref 49), (1, .int (ar29 67 q))], [.int 0], gh S a b (upd (upd sc29 4939 (nI q)) 4938 0) ar29 lo, ex, 0, 0)) rfl ?_
                    refine to_n 3 (fr' := (160, [(0, .ref 49), (1, .int (ar29 67 q))], [.ref 49, .ref 49], gh S a b (upd (upd sc29 4939 (nI q)) 4938 0) ar29 lo, ex, 0, 0)) rfl ?_
                    refine to_getR (v := (nI q)) rfl rfl rfl rfl hc0_0 ?_
                    refine to_n 1 (fr' := (164, [(0, .ref 49), (1, .int (ar29 67 q))], [.int 1, .int (nI q), .ref 49], gh S a b (upd (upd sc29 4939 (nI q)) 4938 0) ar29 lo, ex, 0, 0)) rfl ?_
                    refine to_addN (x := q) (y := 1) rfl ?_
                    refine to_putR (h' := gh S a b (upd (upd (upd sc29 4939 (nI q)) 4938 0) 4935 (nI (q + 1))) ar29 lo) rfl rfl rfl (Nat.le_of_ble_eq_true rfl) rfl rfl ?_
                    have hI75 := ip_4935 (v := (nI (q + 1))) hI69 (rl_n (n := (q + 1)) (by omega))
                    have hF75 := fr_s (k := 4935) (v := (nI (q + 1))) hF69 (by decide)
                    refine to_n 2 (fr' := (171, [(0, .ref 49), (1, .int (ar29 67 q))], [.int 40, .int (ar29 67 q)], gh S a b (upd (upd (upd sc29 4939 (nI q)) 4938 0) 4935 (nI (q + 1))) ar29 lo, ex, 0, 0)) rfl ?_
                    refine to_ic_eq (t := 216) rfl (fun q76 => ?_) (fun q76 => ?_)
                    · refine to_n 8 (fr' := (232, [(0, .ref 49), (1, .int (ar29 67 q)), (2, .int 1)], [.int 3, .ref 49], gh S a b (upd (upd (upd sc29 4939 (nI q)) 4938 0) 4935 (nI (q + 1))) ar29 lo, ex, 0, 0)) rfl ?_
                      refine to_putR (h' := gh S a b (upd (upd (upd (upd sc29 4939 (nI q)) 4938 0) 4935 (nI (q + 1))) 4937 3) ar29 lo) rfl rfl rfl (Nat.le_of_ble_eq_true rfl) rfl rfl ?_
                      have hI77 := ip_4937 (v := 3) hI75 
                      have hF77 := fr_s (k := 4937) (v := 3) hF75 (by decide)
                      refine to_n 2 (fr' := (237, [(0, .ref 49), (1, .int (ar29 67 q)), (2, .int 1)], [.int (ar29 67 q), .ref 49], gh S a b (upd (upd (upd (upd sc29 4939 (nI q)) 4938 0) 4935 (nI (q + 1))) 4937 3) ar29 lo, ex, 0, 0)) rfl ?_
                      refine to_putR (h' := gh S a b (upd (upd (upd (upd (upd sc29 4939 (nI q)) 4938 0) 4935 (nI (q + 1))) 4937 3) 4938 (ar29 67 q)) ar29 lo) rfl rfl rfl (Nat.le_of_ble_eq_true rfl) rfl rfl ?_
                      have hI78 := ip_4938 (v := (ar29 67 q)) hI77 
                      have hF78 := fr_s (k := 4938) (v := (ar29 67 q)) hF77 (by decide)
                      refine to_lv (lv := [(0, .ref 49)]) rfl ⟨rfl, trivial⟩ ?_
                      exact c240 q (q + 1) (upd (upd (upd (upd (upd sc29 4939 (nI q)) 4938 0) 4935 (nI (q + 1))) 4937 3) 4938 (ar29 67 q)) ar29 (rfl) (rfl) (hc0_1) (by omega) (by omega) (by omega) (fun _ => by omega) hI78 hF78
                    · refine to_n 2 (fr' := (177, [(0, .ref 49), (1, .int (ar29 67 q))], [.int 41, .int (ar29 67 q)], gh S a b (upd (upd (upd sc29 4939 (nI q)) 4938 0) 4935 (nI (q + 1))) ar29 lo, ex, 0, 0)) rfl ?_
                      refine to_ic_eq (t := 216) rfl (fun q79 => ?_) (fun q79 => ?_)
                      · refine to_n 8 (fr' := (232, [(0, .ref 49), (1, .int (ar29 67 q)), (2, .int 1)], [.int 3, .ref 49], gh S a b (upd (upd (upd sc29 4939 (nI q)) 4938 0) 4935 (nI (q + 1))) ar29 lo, ex, 0, 0)) rfl ?_
                        refine to_putR (h' := gh S a b (upd (upd (upd (upd sc29 4939 (nI q)) 4938 0) 4935 (nI (q + 1))) 4937 3) ar29 lo) rfl rfl rfl (Nat.le_of_ble_eq_true rfl) rfl rfl ?_
                        have hI80 := ip_4937 (v := 3) hI75 
                        have hF80 := fr_s (k := 4937) (v := 3) hF75 (by decide)
                        refine to_n 2 (fr' := (237, [(0, .ref 49), (1, .int (ar29 67 q)), (2, .int 1)], [.int (ar29 67 q), .ref 49], gh S a b (upd (upd (upd (upd sc29 4939 (nI q)) 4938 0) 4935 (nI (q + 1))) 4937 3) ar29 lo, ex, 0, 0)) rfl ?_
                        refine to_putR (h' := gh S a b (upd (upd (upd (upd (upd sc29 4939 (nI q)) 4938 0) 4935 (nI (q + 1))) 4937 3) 4938 (ar29 67 q)) ar29 lo) rfl rfl rfl (Nat.le_of_ble_eq_true rfl) rfl rfl ?_
                        have hI81 := ip_4938 (v := (ar29 67 q)) hI80 
                        have hF81 := fr_s (k := 4938) (v := (ar29 67 q)) hF80 (by decide)
                        refine to_lv (lv := [(0, .ref 49)]) rfl ⟨rfl, trivial⟩ ?_
                        exact c240 q (q + 1) (upd (upd (upd (upd (upd sc29 4939 (nI q)) 4938 0) 4935 (nI (q + 1))) 4937 3) 4938 (ar29 67 q)) ar29 (rfl) (rfl) (hc0_1) (by omega) (by omega) (by omega) (fun _ => by omega) hI81 hF81
                      · refine to_n 2 (fr' := (183, [(0, .ref 49), (1, .int (ar29 67 q))], [.int 59, .int (ar29 67 q)], gh S a b (upd (upd (upd sc29 4939 (nI q)) 4938 0) 4935 (nI (q + 1))) ar29 lo, ex, 0, 0)) rfl ?_
                        refine to_ic_eq (t := 216) rfl (fun q82 => ?_) (fun q82 => ?_)
                        · refine to_n 8 (fr' := (232, [(0, .ref 49), (1, .int (ar29 67 q)), (2, .int 1)], [.int 3, .ref 49], gh S a b (upd (upd (upd sc29 4939 (nI q)) 4938 0) 4935 (nI (q + 1))) ar29 lo, ex, 0, 0)) rfl ?_
                          refine to_putR (h' := gh S a b (upd (upd (upd (upd sc29 4939 (nI q)) 4938 0) 4935 (nI (q + 1))) 4937 3) ar29 lo) rfl rfl rfl (Nat.le_of_ble_eq_true rfl) rfl rfl ?_
                          have hI83 := ip_4937 (v := 3) hI75 
                          have hF83 := fr_s (k := 4937) (v := 3) hF75 (by decide)
                          refine to_n 2 (fr' := (237, [(0, .ref 49), (1, .int (ar29 67 q)), (2, .int 1)], [.int (ar29 67 q), .ref 49], gh S a b (upd (upd (upd (upd sc29 4939 (nI q)) 4938 0) 4935 (nI (q + 1))) 4937 3) ar29 lo, ex, 0, 0)) rfl ?_
                          refine to_putR (h' := gh S a b (upd (upd (upd (upd (upd sc29 4939 (nI q)) 4938 0) 4935 (nI (q + 1))) 4937 3) 4938 (ar29 67 q)) ar29 lo) rfl rfl rfl (Nat.le_of_ble_eq_true rfl) rfl rfl ?_
                          have hI84 := ip_4938 (v := (ar29 67 q)) hI83 
                          have hF84 := fr_s (k := 4938) (v := (ar29 67 q)) hF83 (by decide)
                          refine to_lv (lv := [(0, .ref 49)]) rfl ⟨rfl, trivial⟩ ?_
                          exact c240 q (q + 1) (upd (upd (upd (upd (upd sc29 4939 (nI q)) 4938 0) 4935 (nI (q + 1))) 4937 3) 4938 (ar29 67 q)) ar29 (rfl) (rfl) (hc0_1) (by omega) (by omega) (by omega) (fun _ => by omega) hI84 hF84
                        · refine to_n 2 (fr' := (189, [(0, .ref 49), (1, .int (ar29 67 q))], [.int 43, .int (ar29 67 q)], gh S a b (upd (upd (upd sc29 4939 (nI q)) 4938 0) 4935 (nI (q + 1))) ar29 lo, ex, 0, 0)) rfl ?_
                          refine to_ic_eq (t := 216) rfl (fun q85 => ?_) (fun q85 => ?_)
                          · refine to_n 8 (fr' := (232, [(0, .ref 49), (1, .int (ar29 67 q)), (2, .int 1)], [.int 3, .ref 49], gh S a b (upd (upd (upd sc29 4939 (nI q)) 4938 0) 4935 (nI (q + 1))) ar29 lo, ex, 0, 0)) rfl ?_
                            refine to_putR (h' := gh S a b (upd (upd (upd (upd sc29 4939 (nI q)) 4938 0) 4935 (nI (q + 1))) 4937 3) ar29 lo) rfl rfl rfl (Nat.le_of_ble_eq_true rfl) rfl rfl ?_
                            have hI86 := ip_4937 (v := 3) hI75 
                            have hF86 := fr_s (k := 4937) (v := 3) hF75 (by decide)
                            refine to_n 2 (fr' := (237, [(0, .ref 49), (1, .int (ar29 67 q)), (2, .int 1)], [.int (ar29 67 q), .ref 49], gh S a b (upd (upd (upd (upd sc29 4939 (nI q)) 4938 0) 4935 (nI (q + 1))) 4937 3) ar29 lo, ex, 0, 0)) rfl ?_
                            refine to_putR (h' := gh S a b (upd (upd (upd (upd (upd sc29 4939 (nI q)) 4938 0) 4935 (nI (q + 1))) 4937 3) 4938 (ar29 67 q)) ar29 lo) rfl rfl rfl (Nat.le_of_ble_eq_true rfl) rfl rfl ?_
                            have hI87 := ip_4938 (v := (ar29 67 q)) hI86 
                            have hF87 := fr_s (k := 4938) (v := (ar29 67 q)) hF86 (by decide)
                            refine to_lv (lv := [(0, .ref 49)]) rfl ⟨rfl, trivial⟩ ?_
                            exact c240 q (q + 1) (upd (upd (upd (upd (upd sc29 4939 (nI q)) 4938 0) 4935 (nI (q + 1))) 4937 3) 4938 (ar29 67 q)) ar29 (rfl) (rfl) (hc0_1) (by omega) (by omega) (by omega) (fun _ => by omega) hI87 hF87
                          · refine to_n 2 (fr' := (195, [(0, .ref 49), (1, .int (ar29 67 q))], [.int 45, .int (ar29 67 q)], gh S a b (upd (upd (upd sc29 4939 (nI q)) 4938 0) 4935 (nI (q + 1))) ar29 lo, ex, 0, 0)) rfl ?_
                            refine to_ic_eq (t := 216) rfl (fun q88 => ?_) (fun q88 => ?_)
                            · refine to_n 8 (fr' := (232, [(0, .ref 49), (1, .int (ar29 67 q)), (2, .int 1)], [.int 3, .ref 49], gh S a b (upd (upd (upd sc29 4939 (nI q)) 4938 0) 4935 (nI (q + 1))) ar29 lo, ex, 0, 0)) rfl ?_
                              refine to_putR (h' := gh S a b (upd (upd (upd (upd sc29 4939 (nI q)) 4938 0) 4935 (nI (q + 1))) 4937 3) ar29 lo) rfl rfl rfl (Nat.le_of_ble_eq_true rfl) rfl rfl ?_
                              have hI89 := ip_4937 (v := 3) hI75 
                              have hF89 := fr_s (k := 4937) (v := 3) hF75 (by decide)
                              refine to_n 2 (fr' := (237, [(0, .ref 49), (1, .int (ar29 67 q)), (2, .int 1)], [.int (ar29 67 q), .ref 49], gh S a b (upd (upd (upd (upd sc29 4939 (nI q)) 4938 0) 4935 (nI (q + 1))) 4937 3) ar29 lo, ex, 0, 0)) rfl ?_
                              refine to_putR (h' := gh S a b (upd (upd (upd (upd (upd sc29 4939 (nI q)) 4938 0) 4935 (nI (q + 1))) 4937 3) 4938 (ar29 67 q)) ar29 lo) rfl rfl rfl (Nat.le_of_ble_eq_true rfl) rfl rfl ?_
                              have hI90 := ip_4938 (v := (ar29 67 q)) hI89 
                              have hF90 := fr_s (k := 4938) (v := (ar29 67 q)) hF89 (by decide)
                              refine to_lv (lv := [(0, .ref 49)]) rfl ⟨rfl, trivial⟩ ?_
                              exact c240 q (q + 1) (upd (upd (upd (upd (upd sc29 4939 (nI q)) 4938 0) 4935 (nI (q + 1))) 4937 3) 4938 (ar29 67 q)) ar29 (rfl) (rfl) (hc0_1) (by omega) (by omega) (by omega) (fun _ => by omega) hI90 hF90
                            · refine to_n 2 (fr' := (201, [(0, .ref 49), (1, .int (ar29 67 q))], [.int 42, .int (ar29 67 q)], gh S a b (upd (upd (upd sc29 4939 (nI q)) 4938 0) 4935 (nI (q + 1))) ar29 lo, ex, 0, 0)) rfl ?_
                              refine to_ic_eq (t := 216) rfl (fun q91 => ?_) (fun q91 => ?_)
                              · refine to_n 8 (fr' := (232, [(0, .ref 49), (1, .int (ar29 67 q)), (2, .int 1)], [.int 3, .ref 49], gh S a b (upd (upd (upd sc29 4939 (nI q)) 4938 0) 4935 (nI (q + 1))) ar29 lo, ex, 0, 0)) rfl ?_
                                refine to_putR (h' := gh S a b (upd (upd (upd (upd sc29 4939 (nI q)) 4938 0) 4935 (nI (q + 1))) 4937 3) ar29 lo) rfl rfl rfl (Nat.le_of_ble_eq_true rfl) rfl rfl ?_
                                have hI92 := ip_4937 (v := 3) hI75 
                                have hF92 := fr_s (k := 4937) (v := 3) hF75 (by decide)
                                refine to_n 2 (fr' := (237, [(0, .ref 49), (1, .int (ar29 67 q)), (2, .int 1)], [.int (ar29 67 q), .ref 49], gh S a b (upd (upd (upd (upd sc29 4939 (nI q)) 4938 0) 4935 (nI (q + 1))) 4937 3) ar29 lo, ex, 0, 0)) rfl ?_
                                refine to_putR (h' := gh S a b (upd (upd (upd (upd (upd sc29 4939 (nI q)) 4938 0) 4935 (nI (q + 1))) 4937 3) 4938 (ar29 67 q)) ar29 lo) rfl rfl rfl (Nat.le_of_ble_eq_true rfl) rfl rfl ?_
                                have hI93 := ip_4938 (v := (ar29 67 q)) hI92 
                                have hF93 := fr_s (k := 4938) (v := (ar29 67 q)) hF92 (by decide)
                                refine to_lv (lv := [(0, .ref 49)]) rfl ⟨rfl, trivial⟩ ?_
                                exact c240 q (q + 1) (upd (upd (upd (upd (upd sc29 4939 (nI q)) 4938 0) 4935 (nI (q + 1))) 4937 3) 4938 (ar29 67 q)) ar29 (rfl) (rfl) (hc0_1) (by omega) (by omega) (by omega) (fun _ => by omega) hI93 hF93
                              · refine to_n 2 (fr' := (207, [(0, .ref 49), (1, .int (ar29 67 q))], [.int 60, .int (ar29 67 q)], gh S a b (upd (upd (upd sc29 4939 (nI q)) 4938 0) 4935 (nI (q + 1))) ar29 lo, ex, 0, 0)) rfl ?_
                                refine to_ic_eq (t := 216) rfl (fun q94 => ?_) (fun q94 => ?_)
                                · refine to_n 8 (fr' := (232, [(0, .ref 49), (1, .int (ar29 67 q)), (2, .int 1)], [.int 3, .ref 49], gh S a b (upd (upd (upd sc29 4939 (nI q)) 4938 0) 4935 (nI (q + 1))) ar29 lo, ex, 0, 0)) rfl ?_
                                  refine to_putR (h' := gh S a b (upd (upd (upd (upd sc29 4939 (nI q)) 4938 0) 4935 (nI (q + 1))) 4937 3) ar29 lo) rfl rfl rfl (Nat.le_of_ble_eq_true rfl) rfl rfl ?_
                                  have hI95 := ip_4937 (v := 3) hI75 
                                  have hF95 := fr_s (k := 4937) (v := 3) hF75 (by decide)
                                  refine to_n 2 (fr' := (237, [(0, .ref 49), (1, .int (ar29 67 q)), (2, .int 1)], [.int (ar29 67 q), .ref 49], gh S a b (upd (upd (upd (upd sc29 4939 (nI q)) 4938 0) 4935 (nI (q + 1))) 4937 3) ar29 lo, ex, 0, 0)) rfl ?_
                                  refine to_putR (h' := gh S a b (upd (upd (upd (upd (upd sc29 4939 (nI q)) 4938 0) 4935 (nI (q + 1))) 4937 3) 4938 (ar29 67 q)) ar29 lo) rfl rfl rfl (Nat.le_of_ble_eq_true rfl) rfl rfl ?_
                                  have hI96 := ip_4938 (v := (ar29 67 q)) hI95 
                                  have hF96 := fr_s (k := 4938) (v := (ar29 67 q)) hF95 (by decide)
                                  refine to_lv (lv := [(0, .ref 49)]) rfl ⟨rfl, trivial⟩ ?_
                                  exact c240 q (q + 1) (upd (upd (upd (upd (upd sc29 4939 (nI q)) 4938 0) 4935 (nI (q + 1))) 4937 3) 4938 (ar29 67 q)) ar29 (rfl) (rfl) (hc0_1) (by omega) (by omega) (by omega) (fun _ => by omega) hI96 hF96
                                · refine to_n 2 (fr' := (213, [(0, .ref 49), (1, .int (ar29 67 q))], [.int 61, .int (ar29 67 q)], gh S a b (upd (upd (upd sc29 4939 (nI q)) 4938 0) 4935 (nI (q + 1))) ar29 lo, ex, 0, 0)) rfl ?_
                                  refine to_ic_ne (t := 220) rfl (fun q97 => ?_) (fun q97 => ?_)
                                  · refine to_n 6 (fr' := (232, [(0, .ref 49), (1, .int (ar29 67 q)), (2, .int 0)], [.int 4, .ref 49], gh S a b (upd (upd (upd sc29 4939 (nI q)) 4938 0) 4935 (nI (q + 1))) ar29 lo, ex, 0, 0)) rfl ?_
                                    refine to_putR (h' := gh S a b (upd (upd (upd (upd sc29 4939 (nI q)) 4938 0) 4935 (nI (q + 1))) 4937 4) ar29 lo) rfl rfl rfl (Nat.le_of_ble_eq_true rfl) rfl rfl ?_
                                    have hI98 := ip_4937 (v := 4) hI75 
                                    have hF98 := fr_s (k := 4937) (v := 4) hF75 (by decide)
                                    refine to_n 2 (fr' := (237, [(0, .ref 49), (1, .int (ar29 67 q)), (2, .int 0)], [.int (ar29 67 q), .ref 49], gh S a b (upd (upd (upd (upd sc29 4939 (nI q)) 4938 0) 4935 (nI (q + 1))) 4937 4) ar29 lo, ex, 0, 0)) rfl ?_
                                    refine to_putR (h' := gh S a b (upd (upd (upd (upd (upd sc29 4939 (nI q)) 4938 0) 4935 (nI (q + 1))) 4937 4) 4938 (ar29 67 q)) ar29 lo) rfl rfl rfl (Nat.le_of_ble_eq_true rfl) rfl rfl ?_
                                    have hI99 := ip_4938 (v := (ar29 67 q)) hI98 
                                    have hF99 := fr_s (k := 4938) (v := (ar29 67 q)) hF98 (by decide)
                                    refine to_lv (lv := [(0, .ref 49)]) rfl ⟨rfl, trivial⟩ ?_
                                    exact c240 q (q + 1) (upd (upd (upd (upd (upd sc29 4939 (nI q)) 4938 0) 4935 (nI (q + 1))) 4937 4) 4938 (ar29 67 q)) ar29 (rfl) (rfl) (hc0_1) (by omega) (by omega) (by omega) (fun _ => by omega) hI99 hF99
                                  · refine to_n 8 (fr' := (232, [(0, .ref 49), (1, .int (ar29 67 q)), (2, .int 1)], [.int 3, .ref 49], gh S a b (upd (upd (upd sc29 4939 (nI q)) 4938 0) 4935 (nI (q + 1))) ar29 lo, ex, 0, 0)) rfl ?_
                                    refine to_putR (h' := gh S a b (upd (upd (upd (upd sc29 4939 (nI q)) 4938 0) 4935 (nI (q + 1))) 4937 3) ar29 lo) rfl rfl rfl (Nat.le_of_ble_eq_true rfl) rfl rfl ?_
                                    have hI100 := ip_4937 (v := 3) hI75 
                                    have hF100 := fr_s (k := 4937) (v := 3) hF75 (by decide)
                                    refine to_n 2 (fr' := (237, [(0, .ref 49), (1, .int (ar29 67 q)), (2, .int 1)], [.int (ar29 67 q), .ref 49], gh S a b (upd (upd (upd (upd sc29 4939 (nI q)) 4938 0) 4935 (nI (q + 1))) 4937 3) ar29 lo, ex, 0, 0)) rfl ?_
                                    refine to_putR (h' := gh S a b (upd (upd (upd (upd (upd sc29 4939 (nI q)) 4938 0) 4935 (nI (q + 1))) 4937 3) 4938 (ar29 67 q)) ar29 lo) rfl rfl rfl (Nat.le_of_ble_eq_true rfl) rfl rfl ?_
                                    have hI101 := ip_4938 (v := (ar29 67 q)) hI100 
                                    have hF101 := fr_s (k := 4938) (v := (ar29 67 q)) hF100 (by decide)
                                    refine to_lv (lv := [(0, .ref 49)]) rfl ⟨rfl, trivial⟩ ?_
                                    exact c240 q (q + 1) (upd (upd (upd (upd (upd sc29 4939 (nI q)) 4938 0) 4935 (nI (q + 1))) 4937 3) 4938 (ar29 67 q)) ar29 (rfl) (rfl) (hc0_1) (by omega) (by omega) (by omega) (fun _ => by omega) hI101 hF101
              · refine to_n 2 (fr' := (68, [(0, .ref 49), (1, .int (ar29 67 q))], [.int 0, .ref 49], gh S a b (upd (upd sc29 4939 (nI q)) 4938 0) ar29 lo, ex, 0, 0)) rfl ?_
                refine to_putR (h' := gh S a b (upd (upd (upd sc29 4939 (nI q)) 4938 0) 4937 0) ar29 lo) rfl rfl rfl (Nat.le_of_ble_eq_true rfl) rfl rfl ?_
                have hI102 := ip_4937 (v := 0) hI69 
                have hF102 := fr_s (k := 4937) (v := 0) hF69 (by decide)
                refine to_n 1 (fr' := (240, [(0, .ref 49), (1, .int (ar29 67 q))], [], gh S a b (upd (upd (upd sc29 4939 (nI q)) 4938 0) 4937 0) ar29 lo, ex, 0, 0)) rfl ?_
                refine to_lv (lv := [(0, .ref 49)]) rfl ⟨rfl, trivial⟩ ?_
                exact c240 q q (upd (upd (upd sc29 4939 (nI q)) 4938 0) 4937 0) ar29 (rfl) (hc0_0) (hc0_1) (by omega) (by omega) (by omega) (fun w => absurd rfl w) hI102 hF102
          · refine to_n 2 (fr' := (28, [(0, .ref 49)], [.ref 49, .ref 49], gh S a b sc29 ar29 lo, ex, 0, 0)) rfl ?_
            refine to_getR (v := (nI q)) rfl rfl rfl rfl hc0_0 ?_
            refine to_n 1 (fr' := (32, [(0, .ref 49)], [.int 1, .int (nI q), .ref 49], gh S a b sc29 ar29 lo, ex, 0, 0)) rfl ?_
            refine to_addN (x := q) (y := 1) rfl ?_
            refine to_putR (h' := gh S a b (upd sc29 4935 (nI (q + 1))) ar29 lo) rfl rfl rfl (Nat.le_of_ble_eq_true rfl) rfl rfl ?_
            have hI103 := ip_4935 (v := (nI (q + 1))) hI29 (rl_n (n := (q + 1)) (by omega))
            have hF103 := fr_s (k := 4935) (v := (nI (q + 1))) hF29 (by decide)
            refine to_n 1 (fr' := (0, [(0, .ref 49)], [], gh S a b (upd sc29 4935 (nI (q + 1))) ar29 lo, ex, 0, 0)) rfl ?_
            exfalso
            omega
      · refine to_eq (fr' := (8, [(0, .ref 49)], [.int (ar29 67 q)], gh S a b sc29 ar29 lo, ex, 0, 0)) rfl ?_
        refine to_n 1 (fr' := (10, [(0, .ref 49)], [.int 32, .int (ar29 67 q)], gh S a b sc29 ar29 lo, ex, 0, 0)) rfl ?_
        refine to_ic_eq (t := 26) rfl (fun q104 => ?_) (fun q104 => ?_)
        · refine to_n 2 (fr' := (28, [(0, .ref 49)], [.ref 49, .ref 49], gh S a b sc29 ar29 lo, ex, 0, 0)) rfl ?_
          refine to_getR (v := (nI q)) rfl rfl rfl rfl hc0_0 ?_
          refine to_n 1 (fr' := (32, [(0, .ref 49)], [.int 1, .int (nI q), .ref 49], gh S a b sc29 ar29 lo, ex, 0, 0)) rfl ?_
          refine to_addN (x := q) (y := 1) rfl ?_
          refine to_putR (h' := gh S a b (upd sc29 4935 (nI (q + 1))) ar29 lo) rfl rfl rfl (Nat.le_of_ble_eq_true rfl) rfl rfl ?_
          have hI105 := ip_4935 (v := (nI (q + 1))) hI29 (rl_n (n := (q + 1)) (by omega))
          have hF105 := fr_s (k := 4935) (v := (nI (q + 1))) hF29 (by decide)
          refine to_n 1 (fr' := (0, [(0, .ref 49)], [], gh S a b (upd sc29 4935 (nI (q + 1))) ar29 lo, ex, 0, 0)) rfl ?_
          exfalso
          omega
        · refine to_n 2 (fr' := (15, [(0, .ref 49)], [.ref 49, .ref 49], gh S a b sc29 ar29 lo, ex, 0, 0)) rfl ?_
          refine to_getR (v := (nI q)) rfl rfl rfl rfl hc0_0 ?_
          refine to_cp (q := 119) (M1 := an_X10_byteAt) (rest := []) rfl rfl (by decide) rfl ⟨_, rfl⟩ (sf_byteAt hW hI29 q (by omega) r (by omega) hc0_1 d) (fun x106 hx106 => ?_)
          rcases hx106 with ⟨rfl, w106⟩ | ⟨w106, rfl⟩
          · refine to_eq (fr' := (21, [(0, .ref 49)], [.int (-1)], gh S a b sc29 ar29 lo, ex, 0, 0)) rfl ?_
            refine to_n 4 (fr' := (41, [(0, .ref 49)], [.ref 49, .ref 49], gh S a b sc29 ar29 lo, ex, 0, 0)) rfl ?_
            refine to_getR (v := (nI q)) rfl rfl rfl rfl hc0_0 ?_
            refine to_putR (h' := gh S a b (upd sc29 4939 (nI q)) ar29 lo) rfl rfl rfl (Nat.le_of_ble_eq_true rfl) rfl rfl ?_
            have hI107 := ip_4939 (v := (nI q)) hI29 (rl_n (n := q) (by omega))
            have hF107 := fr_s (k := 4939) (v := (nI q)) hF29 (by decide)
            refine to_n 2 (fr' := (49, [(0, .ref 49)], [.int 0, .ref 49], gh S a b (upd sc29 4939 (nI q)) ar29 lo, ex, 0, 0)) rfl ?_
            refine to_putR (h' := gh S a b (upd (upd sc29 4939 (nI q)) 4938 0) ar29 lo) rfl rfl rfl (Nat.le_of_ble_eq_true rfl) rfl rfl ?_
            have hI108 := ip_4938 (v := 0) hI107 
            have hF108 := fr_s (k := 4938) (v := 0) hF107 (by decide)
            refine to_n 2 (fr' := (54, [(0, .ref 49)], [.ref 49, .ref 49], gh S a b (upd (upd sc29 4939 (nI q)) 4938 0) ar29 lo, ex, 0, 0)) rfl ?_
            refine to_getR (v := (nI q)) rfl rfl rfl rfl hc0_0 ?_
            refine to_cp (q := 119) (M1 := an_X10_byteAt) (rest := []) rfl rfl (by decide) rfl ⟨_, rfl⟩ (sf_byteAt hW hI108 q (by omega) r (by omega) hc0_1 d) (fun x109 hx109 => ?_)
            rcases hx109 with ⟨rfl, w109⟩ | ⟨w109, rfl⟩
            · refine to_eq (fr' := (60, [(0, .ref 49)], [.int (-1)], gh S a b (upd (upd sc29 4939 (nI q)) 4938 0) ar29 lo, ex, 0, 0)) rfl ?_
              refine to_n 6 (fr' := (68, [(0, .ref 49), (1, .int (-1))], [.int 0, .ref 49], gh S a b (upd (upd sc29 4939 (nI q)) 4938 0) ar29 lo, ex, 0, 0)) rfl ?_
              refine to_putR (h' := gh S a b (upd (upd (upd sc29 4939 (nI q)) 4938 0) 4937 0) ar29 lo) rfl rfl rfl (Nat.le_of_ble_eq_true rfl) rfl rfl ?_
              have hI110 := ip_4937 (v := 0) hI108 
              have hF110 := fr_s (k := 4937) (v := 0) hF108 (by decide)
              refine to_n 1 (fr' := (240, [(0, .ref 49), (1, .int (-1))], [], gh S a b (upd (upd (upd sc29 4939 (nI q)) 4938 0) 4937 0) ar29 lo, ex, 0, 0)) rfl ?_
              refine to_lv (lv := [(0, .ref 49)]) rfl ⟨rfl, trivial⟩ ?_
              exact c240 q q (upd (upd (upd sc29 4939 (nI q)) 4938 0) 4937 0) ar29 (rfl) (hc0_0) (hc0_1) (by omega) (by omega) (by omega) (fun w => absurd rfl w) hI110 hF110
            · refine to_eq (fr' := (60, [(0, .ref 49)], [.int (ar29 67 q)], gh S a b (upd (upd sc29 4939 (nI q)) 4938 0) ar29 lo, ex, 0, 0)) rfl ?_
              refine to_n 3 (fr' := (63, [(0, .ref 49), (1, .int (ar29 67 q))], [.int (-1), .int (ar29 67 q)], gh S a b (upd (upd sc29 4939 (nI q)) 4938 0) ar29 lo, ex, 0, 0)) rfl ?_
              refine to_ic_ne (t := 74) rfl (fun q111 => ?_) (fun q111 => ?_)
              · refine to_n 1 (fr' := (75, [(0, .ref 49), (1, .int (ar29 67 q))], [.int (ar29 67 q)], gh S a b (upd (upd sc29 4939 (nI q)) 4938 0) ar29 lo, ex, 0, 0)) rfl ?_
                refine to_cp (q := 120) (M1 := an_X10_isLetter) (rest := []) rfl rfl (by decide) rfl trivial (sf_isLetter hW hI108 (ar29 67 q) d) (fun x112 hx112 => ?_)
                rcases hx112 with ⟨rfl, w112⟩ | ⟨rfl, w112⟩
                · refine to_eq (fr' := (78, [(0, .ref 49), (1, .int (ar29 67 q))], [.int 1], gh S a b (upd (upd sc29 4939 (nI q)) 4938 0) ar29 lo, ex, 0, 0)) rfl ?_
                  refine to_n 1 (fr' := (81, [(0, .ref 49), (1, .int (ar29 67 q))], [], gh S a b (upd (upd sc29 4939 (nI q)) 4938 0) ar29 lo, ex, 0, 0)) rfl ?_
                  exact c81 (r - q) (ar29 67 q) q q (upd (upd sc29 4939 (nI q)) 4938 0) ar29 (by omega) (rfl) (hc0_0) (hc0_1) (by omega) (by omega) (by omega) (fun _ => w112) hI108 hF108
                · refine to_eq (fr' := (78, [(0, .ref 49), (1, .int (ar29 67 q))], [.int 0], gh S a b (upd (upd sc29 4939 (nI q)) 4938 0) ar29 lo, ex, 0, 0)) rfl ?_
                  refine to_n 2 (fr' := (117, [(0, .ref 49), (1, .int (ar29 67 q))], [.int (ar29 67 q)], gh S a b (upd (upd sc29 4939 (nI q)) 4938 0) ar29 lo, ex, 0, 0)) rfl ?_
                  refine to_cp (q := 121) (M1 := an_X10_isDigit) (rest := []) rfl rfl (by decide) rfl trivial (sf_isDigit hW hI108 (ar29 67 q) d) (fun x113 hx113 => ?_)
                  rcases hx113 with ⟨rfl, w113⟩ | ⟨rfl, w113⟩
                  · refine to_eq (fr' := (120, [(0, .ref 49), (1, .int (ar29 67 q))], [.int 1], gh S a b (upd (upd sc29 4939 (nI q)) 4938 0) ar29 lo, ex, 0, 0)) rfl ?_
                    refine to_n 1 (fr' := (123, [(0, .ref 49), (1, .int (ar29 67 q))], [], gh S a b (upd (upd sc29 4939 (nI q)) 4938 0) ar29 lo, ex, 0, 0)) rfl ?_
                    exact c123 (r - q) (ar29 67 q) q q (upd (upd sc29 4939 (nI q)) 4938 0) ar29 (by omega) (rfl) (hc0_0) (hc0_1) (by omega) (by omega) (by omega) (fun _ => w113) hI108 hF108
                  · refine to_eq (fr' := (120, [(0, .ref 49), (1, .int (ar29 67 q))], [.int 0], gh S a b (upd (upd sc29 4939 (nI q)) 4938 0) ar29 lo, ex, 0, 0)) rfl ?_
                    refine to_n 3 (fr' := (160, [(0, .ref 49), (1, .int (ar29 67 q))], [.ref 49, .ref 49], gh S a b (upd (upd sc29 4939 (nI q)) 4938 0) ar29 lo, ex, 0, 0)) rfl ?_
                    refine to_getR (v := (nI q)) rfl rfl rfl rfl hc0_0 ?_
                    refine to_n 1 (fr' := (164, [(0, .ref 49), (1, .int (ar29 67 q))], [.int 1, .int (nI q), .ref 49], gh S a b (upd (upd sc29 4939 (nI q)) 4938 0) ar29 lo, ex, 0, 0)) rfl ?_
                    refine to_addN (x := q) (y := 1) rfl ?_
                    refine to_putR (h' := gh S a b (upd (upd (upd sc29 4939 (nI q)) 4938 0) 4935 (nI (q + 1))) ar29 lo) rfl rfl rfl (Nat.le_of_ble_eq_true rfl) rfl rfl ?_
                    have hI114 := ip_4935 (v := (nI (q + 1))) hI108 (rl_n (n := (q + 1)) (by omega))
                    have hF114 := fr_s (k := 4935) (v := (nI (q + 1))) hF108 (by decide)
                    refine to_n 2 (fr' := (171, [(0, .ref 49), (1, .int (ar29 67 q))], [.int 40, .int (ar29 67 q)], gh S a b (upd (upd (upd sc29 4939 (nI q)) 4938 0) 4935 (nI (q + 1))) ar29 lo, ex, 0, 0)) rfl ?_
                    refine to_ic_eq (t := 216) rfl (fun q115 => ?_) (fun q115 => ?_)
                    · refine to_n 8 (fr' := (232, [(0, .ref 49), (1, .int (ar29 67 q)), (2, .int 1)], [.int 3, .ref 49], gh S a b (upd (upd (upd sc29 4939 (nI q)) 4938 0) 4935 (nI (q + 1))) ar29 lo, ex, 0, 0)) rfl ?_
                      refine to_putR (h' := gh S a b (upd (upd (upd (upd sc29 4939 (nI q)) 4938 0) 4935 (nI (q + 1))) 4937 3) ar29 lo) rfl rfl rfl (Nat.le_of_ble_eq_true rfl) rfl rfl ?_
                      have hI116 := ip_4937 (v := 3) hI114 
                      have hF116 := fr_s (k := 4937) (v := 3) hF114 (by decide)
                      refine to_n 2 (fr' := (237, [(0, .ref 49), (1, .int (ar29 67 q)), (2, .int 1)], [.int (ar29 67 q), .ref 49], gh S a b (upd (upd (upd (upd sc29 4939 (nI q)) 4938 0) 4935 (nI (q + 1))) 4937 3) ar29 lo, ex, 0, 0)) rfl ?_
                      refine to_putR (h' := gh S a b (upd (upd (upd (upd (upd sc29 4939 (nI q)) 4938 0) 4935 (nI (q + 1))) 4937 3) 4938 (ar29 67 q)) ar29 lo) rfl rfl rfl (Nat.le_of_ble_eq_true rfl) rfl rfl ?_
                      have hI117 := ip_4938 (v := (ar29 67 q)) hI116 
                      have hF117 := fr_s (k := 4938) (v := (ar29 67 q)) hF116 (by decide)
                      refine to_lv (lv := [(0, .ref 49)]) rfl ⟨rfl, trivial⟩ ?_
                      exact c240 q (q + 1) (upd (upd (upd (upd (upd sc29 4939 (nI q)) 4938 0) 4935 (nI (q + 1))) 4937 3) 4938 (ar29 67 q)) ar29 (rfl) (rfl) (hc0_1) (by omega) (by omega) (by omega) (fun _ => by omega) hI117 hF117
                    · refine to_n 2 (fr' := (177, [(0, .ref 49), (1, .int (ar29 67 q))], [.int 41, .int (ar29 67 q)], gh S a b (upd (upd (upd sc29 4939 (nI q)) 4938 0) 4935 (nI (q + 1))) ar29 lo, ex, 0, 0)) rfl ?_
                      refine to_ic_eq (t := 216) rfl (fun q118 => ?_) (fun q118 => ?_)
                      · refine to_n 8 (fr' := (232, [(0, .ref 49), (1, .int (ar29 67 q)), (2, .int 1)], [.int 3, .ref 49], gh S a b (upd (upd (upd sc29 4939 (nI q)) 4938 0) 4935 (nI (q + 1))) ar29 lo, ex, 0, 0)) rfl ?_
                        refine to_putR (h' := gh S a b (upd (upd (upd (upd sc29 4939 (nI q)) 4938 0) 4935 (nI (q + 1))) 4937 3) ar29 lo) rfl rfl rfl (Nat.le_of_ble_eq_true rfl) rfl rfl ?_
                        have hI119 := ip_4937 (v := 3) hI114 
                        have hF119 := fr_s (k := 4937) (v := 3) hF114 (by decide)
                        refine to_n 2 (fr' := (237, [(0, .ref 49), (1, .int (ar29 67 q)), (2, .int 1)], [.int (ar29 67 q), .ref 49], gh S a b (upd (upd (upd (upd sc29 4939 (nI q)) 4938 0) 4935 (nI (q + 1))) 4937 3) ar29 lo, ex, 0, 0)) rfl ?_
                        refine to_putR (h' := gh S a b (upd (upd (upd (upd (upd sc29 4939 (nI q)) 4938 0) 4935 (nI (q + 1))) 4937 3) 4938 (ar29 67 q)) ar29 lo) rfl rfl rfl (Nat.le_of_ble_eq_true rfl) rfl rfl ?_
                        have hI120 := ip_4938 (v := (ar29 67 q)) hI119 
                        have hF120 := fr_s (k := 4938) (v := (ar29 67 q)) hF119 (by decide)
                        refine to_lv (lv := [(0, .ref 49)]) rfl ⟨rfl, trivial⟩ ?_
                        exact c240 q (q + 1) (upd (upd (upd (upd (upd sc29 4939 (nI q)) 4938 0) 4935 (nI (q + 1))) 4937 3) 4938 (ar29 67 q)) ar29 (rfl) (rfl) (hc0_1) (by omega) (by omega) (by omega) (fun _ => by omega) hI120 hF120
                      · refine to_n 2 (fr' := (183, [(0, .ref 49), (1, .int (ar29 67 q))], [.int 59, .int (ar29 67 q)], gh S a b (upd (upd (upd sc29 4939 (nI q)) 4938 0) 4935 (nI (q + 1))) ar29 lo, ex, 0, 0)) rfl ?_
                        refine to_ic_eq (t := 216) rfl (fun q121 => ?_) (fun q121 => ?_)
                        · refine to_n 8 (fr' := (232, [(0, .ref 49), (1, .int (ar29 67 q)), (2, .int 1)], [.int 3, .ref 49], gh S a b (upd (upd (upd sc29 4939 (nI q)) 4938 0) 4935 (nI (q + 1))) ar29 lo, ex, 0, 0)) rfl ?_
                          refine to_putR (h' := gh S a b (upd (upd (upd (upd sc29 4939 (nI q)) 4938 0) 4935 (nI (q + 1))) 4937 3) ar29 lo) rfl rfl rfl (Nat.le_of_ble_eq_true rfl) rfl rfl ?_
                          have hI122 := ip_4937 (v := 3) hI114 
                          have hF122 := fr_s (k := 4937) (v := 3) hF114 (by decide)
                          refine to_n 2 (fr' := (237, [(0, .ref 49), (1, .int (ar29 67 q)), (2, .int 1)], [.int (ar29 67 q), .ref 49], gh S a b (upd (upd (upd (upd sc29 4939 (nI q)) 4938 0) 4935 (nI (q + 1))) 4937 3) ar29 lo, ex, 0, 0)) rfl ?_
                          refine to_putR (h' := gh S a b (upd (upd (upd (upd (upd sc29 4939 (nI q)) 4938 0) 4935 (nI (q + 1))) 4937 3) 4938 (ar29 67 q)) ar29 lo) rfl rfl rfl (Nat.le_of_ble_eq_true rfl) rfl rfl ?_
                          have hI123 := ip_4938 (v := (ar29 67 q)) hI122 
                          have hF123 := fr_s (k := 4938) (v := (ar29 67 q)) hF122 (by decide)
                          refine to_lv (lv := [(0, .ref 49)]) rfl ⟨rfl, trivial⟩ ?_
                          exact c240 q (q + 1) (upd (upd (upd (upd (upd sc29 4939 (nI q)) 4938 0) 4935 (nI (q + 1))) 4937 3) 4938 (ar29 67 q)) ar29 (rfl) (rfl) (hc0_1) (by omega) (by omega) (by omega) (fun _ => by omega) hI123 hF123
                        · refine to_n 2 (fr' := (189, [(0, .ref 49), (1, .int (ar29 67 q))], [.int 43, .int (ar29 67 q)], gh S a b (upd (upd (upd sc29 4939 (nI q)) 4938 0) 4935 (nI (q + 1))) ar29 lo, ex, 0, 0)) rfl ?_
                          refine to_ic_eq (t := 216) rfl (fun q124 => ?_) (fun q124 => ?_)
                          · refine to_n 8 (fr' := (232, [(0, .ref 49), (1, .int (ar29 67 q)), (2, .int 1)], [.int 3, .ref 49], gh S a b (upd (upd (upd sc29 4939 (nI q)) 4938 0) 4935 (nI (q + 1))) ar29 lo, ex, 0, 0)) rfl ?_
                            refine to_putR (h' := gh S a b (upd (upd (upd (upd sc29 4939 (nI q)) 4938 0) 4935 (nI (q + 1))) 4937 3) ar29 lo) rfl rfl rfl (Nat.le_of_ble_eq_true rfl) rfl rfl ?_
                            have hI125 := ip_4937 (v := 3) hI114 
                            have hF125 := fr_s (k := 4937) (v := 3) hF114 (by decide)
                            refine to_n 2 (fr' := (237, [(0, .ref 49), (1, .int (ar29 67 q)), (2, .int 1)], [.int (ar29 67 q), .ref 49], gh S a b (upd (upd (upd (upd sc29 4939 (nI q)) 4938 0) 4935 (nI (q + 1))) 4937 3) ar29 lo, ex, 0, 0)) rfl ?_
                            refine to_putR (h' := gh S a b (upd (upd (upd (upd (upd sc29 4939 (nI q)) 4938 0) 4935 (nI (q + 1))) 4937 3) 4938 (ar29 67 q)) ar29 lo) rfl rfl rfl (Nat.le_of_ble_eq_true rfl) rfl rfl ?_
                            have hI126 := ip_4938 (v := (ar29 67 q)) hI125 
                            have hF126 := fr_s (k := 4938) (v := (ar29 67 q)) hF125 (by decide)
                            refine to_lv (lv := [(0, .ref 49)]) rfl ⟨rfl, trivial⟩ ?_
                            exact c240 q (q + 1) (upd (upd (upd (upd (upd sc29 4939 (nI q)) 4938 0) 4935 (nI (q + 1))) 4937 3) 4938 (ar29 67 q)) ar29 (rfl) (rfl) (hc0_1) (by omega) (by omega) (by omega) (fun _ => by omega) hI126 hF126
                          · refine to_n 2 (fr' := (195, [(0, .ref 49), (1, .int (ar29 67 q))], [.int 45, .int (ar29 67 q)], gh S a b (upd (upd (upd sc29 4939 (nI q)) 4938 0) 4935 (nI (q + 1))) ar29 lo, ex, 0, 0)) rfl ?_
                            refine to_ic_eq (t := 216) rfl (fun q127 => ?_) (fun q127 => ?_)
                            · refine to_n 8 (fr' := (232, [(0, .ref 49), (1, .int (ar29 67 q)), (2, .int 1)], [.int 3, .ref 49], gh S a b (upd (upd (upd sc29 4939 (nI q)) 4938 0) 4935 (nI (q + 1))) ar29 lo, ex, 0, 0)) rfl ?_
                              refine to_putR (h' := gh S a b (upd (upd (upd (upd sc29 4939 (nI q)) 4938 0) 4935 (nI (q + 1))) 4937 3) ar29 lo) rfl rfl rfl (Nat.le_of_ble_eq_true rfl) rfl rfl ?_
                              have hI128 := ip_4937 (v := 3) hI114 
                              have hF128 := fr_s (k := 4937) (v := 3) hF114 (by decide)
                              refine to_n 2 (fr' := (237, [(0, .ref 49), (1, .int (ar29 67 q)), (2, .int 1)], [.int (ar29 67 q), .ref 49], gh S a b (upd (upd (upd (upd sc29 4939 (nI q)) 4938 0) 4935 (nI (q + 1))) 4937 3) ar29 lo, ex, 0, 0)) rfl ?_
                              refine to_putR (h' := gh S a b (upd (upd (upd (upd (upd sc29 4939 (nI q)) 4938 0) 4935 (nI (q + 1))) 4937 3) 4938 (ar29 67 q)) ar29 lo) rfl rfl rfl (Nat.le_of_ble_eq_true rfl) rfl rfl ?_
                              have hI129 := ip_4938 (v := (ar29 67 q)) hI128 
                              have hF129 := fr_s (k := 4938) (v := (ar29 67 q)) hF128 (by decide)
                              refine to_lv (lv := [(0, .ref 49)]) rfl ⟨rfl, trivial⟩ ?_
                              exact c240 q (q + 1) (upd (upd (upd (upd (upd sc29 4939 (nI q)) 4938 0) 4935 (nI (q + 1))) 4937 3) 4938 (ar29 67 q)) ar29 (rfl) (rfl) (hc0_1) (by omega) (by omega) (by omega) (fun _ => by omega) hI129 hF129
                            · refine to_n 2 (fr' := (201, [(0, .ref 49), (1, .int (ar29 67 q))], [.int 42, .int (ar29 67 q)], gh S a b (upd (upd (upd sc29 4939 (nI q)) 4938 0) 4935 (nI (q + 1))) ar29 lo, ex, 0, 0)) rfl ?_
                              refine to_ic_eq (t := 216) rfl (fun q130 => ?_) (fun q130 => ?_)
                              · refine to_n 8 (fr' := (232, [(0, .ref 49), (1, .int (ar29 67 q)), (2, .int 1)], [.int 3, .ref 49], gh S a b (upd (upd (upd sc29 4939 (nI q)) 4938 0) 4935 (nI (q + 1))) ar29 lo, ex, 0, 0)) rfl ?_
                                refine to_putR (h' := gh S a b (upd (upd (upd (upd sc29 4939 (nI q)) 4938 0) 4935 (nI (q + 1))) 4937 3) ar29 lo) rfl rfl rfl (Nat.le_of_ble_eq_true rfl) rfl rfl ?_
                                have hI131 := ip_4937 (v := 3) hI114 
                                have hF131 := fr_s (k := 4937) (v := 3) hF114 (by decide)
                                refine to_n 2 (fr' := (237, [(0, .ref 49), (1, .int (ar29 67 q)), (2, .int 1)], [.int (ar29 67 q), .ref 49], gh S a b (upd (upd (upd (upd sc29 4939 (nI q)) 4938 0) 4935 (nI (q + 1))) 4937 3) ar29 lo, ex, 0, 0)) rfl ?_
                                refine to_putR (h' := gh S a b (upd (upd (upd (upd (upd sc29 4939 (nI q)) 4938 0) 4935 (nI (q + 1))) 4937 3) 4938 (ar29 67 q)) ar29 lo) rfl rfl rfl (Nat.le_of_ble_eq_true rfl) rfl rfl ?_
                                have hI132 := ip_4938 (v := (ar29 67 q)) hI131 
                                have hF132 := fr_s (k := 4938) (v := (ar29 67 q)) hF131 (by decide)
                                refine to_lv (lv := [(0, .ref 49)]) rfl ⟨rfl, trivial⟩ ?_
                                exact c240 q (q + 1) (upd (upd (upd (upd (upd sc29 4939 (nI q)) 4938 0) 4935 (nI (q + 1))) 4937 3) 4938 (ar29 67 q)) ar29 (rfl) (rfl) (hc0_1) (by omega) (by omega) (by omega) (fun _ => by omega) hI132 hF132
                              · refine to_n 2 (fr' := (207, [(0, .ref 49), (1, .int (ar29 67 q))], [.int 60, .int (ar29 67 q)], gh S a b (upd (upd (upd sc29 4939 (nI q)) 4938 0) 4935 (nI (q + 1))) ar29 lo, ex, 0, 0)) rfl ?_
                                refine to_ic_eq (t := 216) rfl (fun q133 => ?_) (fun q133 => ?_)
                                · refine to_n 8 (fr' := (232, [(0, .ref 49), (1, .int (ar29 67 q)), (2, .int 1)], [.int 3, .ref 49], gh S a b (upd (upd (upd sc29 4939 (nI q)) 4938 0) 4935 (nI (q + 1))) ar29 lo, ex, 0, 0)) rfl ?_
                                  refine to_putR (h' := gh S a b (upd (upd (upd (upd sc29 4939 (nI q)) 4938 0) 4935 (nI (q + 1))) 4937 3) ar29 lo) rfl rfl rfl (Nat.le_of_ble_eq_true rfl) rfl rfl ?_
                                  have hI134 := ip_4937 (v := 3) hI114 
                                  have hF134 := fr_s (k := 4937) (v := 3) hF114 (by decide)
                                  refine to_n 2 (fr' := (237, [(0, .ref 49), (1, .int (ar29 67 q)), (2, .int 1)], [.int (ar29 67 q), .ref 49], gh S a b (upd (upd (upd (upd sc29 4939 (nI q)) 4938 0) 4935 (nI (q + 1))) 4937 3) ar29 lo, ex, 0, 0)) rfl ?_
                                  refine to_putR (h' := gh S a b (upd (upd (upd (upd (upd sc29 4939 (nI q)) 4938 0) 4935 (nI (q + 1))) 4937 3) 4938 (ar29 67 q)) ar29 lo) rfl rfl rfl (Nat.le_of_ble_eq_true rfl) rfl rfl ?_
                                  have hI135 := ip_4938 (v := (ar29 67 q)) hI134 
                                  have hF135 := fr_s (k := 4938) (v := (ar29 67 q)) hF134 (by decide)
                                  refine to_lv (lv := [(0, .ref 49)]) rfl ⟨rfl, trivial⟩ ?_
                                  exact c240 q (q + 1) (upd (upd (upd (upd (upd sc29 4939 (nI q)) 4938 0) 4935 (nI (q + 1))) 4937 3) 4938 (ar29 67 q)) ar29 (rfl) (rfl) (hc0_1) (by omega) (by omega) (by omega) (fun _ => by omega) hI135 hF135
                                · refine to_n 2 (fr' := (213, [(0, .ref 49), (1, .int (ar29 67 q))], [.int 61, .int (ar29 67 q)], gh S a b (upd (upd (upd sc29 4939 (nI q)) 4938 0) 4935 (nI (q + 1))) ar29 lo, ex, 0, 0)) rfl ?_
                                  refine to_ic_ne (t := 220) rfl (fun q136 => ?_) (fun q136 => ?_)
                                  · refine to_n 6 (fr' := (232, [(0, .ref 49), (1, .int (ar29 67 q)), (2, .int 0)], [.int 4, .ref 49], gh S a b (upd (upd (upd sc29 4939 (nI q)) 4938 0) 4935 (nI (q + 1))) ar29 lo, ex, 0, 0)) rfl ?_
                                    refine to_putR (h' := gh S a b (upd (upd (upd (upd sc29 4939 (nI q)) 4938 0) 4935 (nI (q + 1))) 4937 4) ar29 lo) rfl rfl rfl (Nat.le_of_ble_eq_true rfl) rfl rfl ?_
                                    have hI137 := ip_4937 (v := 4) hI114 
                                    have hF137 := fr_s (k := 4937) (v := 4) hF114 (by decide)
                                    refine to_n 2 (fr' := (237, [(0, .ref 49), (1, .int (ar29 67 q)), (2, .int 0)], [.int (ar29 67 q), .ref 49], gh S a b (upd (upd (upd (upd sc29 4939 (nI q)) 4938 0) 4935 (nI (q + 1))) 4937 4) ar29 lo, ex, 0, 0)) rfl ?_
                                    refine to_putR (h' := gh S a b (upd (upd (upd (upd (upd sc29 4939 (nI q)) 4938 0) 4935 (nI (q + 1))) 4937 4) 4938 (ar29 67 q)) ar29 lo) rfl rfl rfl (Nat.le_of_ble_eq_true rfl) rfl rfl ?_
                                    have hI138 := ip_4938 (v := (ar29 67 q)) hI137 
                                    have hF138 := fr_s (k := 4938) (v := (ar29 67 q)) hF137 (by decide)
                                    refine to_lv (lv := [(0, .ref 49)]) rfl ⟨rfl, trivial⟩ ?_
                                    exact c240 q (q + 1) (upd (upd (upd (upd (upd sc29 4939 (nI q)) 4938 0) 4935 (nI (q + 1))) 4937 4) 4938 (ar29 67 q)) ar29 (rfl) (rfl) (hc0_1) (by omega) (by omega) (by omega) (fun _ => by omega) hI138 hF138
                                  · refine to_n 8 (fr' := (232, [(0, .ref 49), (1, .int (ar29 67 q)), (2, .int 1)], [.int 3, .ref 49], gh S a b (upd (upd (upd sc29 4939 (nI q)) 4938 0) 4935 (nI (q + 1))) ar29 lo, ex, 0, 0)) rfl ?_
                                    refine to_putR (h' := gh S a b (upd (upd (upd (upd sc29 4939 (nI q)) 4938 0) 4935 (nI (q + 1))) 4937 3) ar29 lo) rfl rfl rfl (Nat.le_of_ble_eq_true rfl) rfl rfl ?_
                                    have hI139 := ip_4937 (v := 3) hI114 
                                    have hF139 := fr_s (k := 4937) (v := 3) hF114 (by decide)
                                    refine to_n 2 (fr' := (237, [(0, .ref 49), (1, .int (ar29 67 q)), (2, .int 1)], [.int (ar29 67 q), .ref 49], gh S a b (upd (upd (upd (upd sc29 4939 (nI q)) 4938 0) 4935 (nI (q + 1))) 4937 3) ar29 lo, ex, 0, 0)) rfl ?_
                                    refine to_putR (h' := gh S a b (upd (upd (upd (upd (upd sc29 4939 (nI q)) 4938 0) 4935 (nI (q + 1))) 4937 3) 4938 (ar29 67 q)) ar29 lo) rfl rfl rfl (Nat.le_of_ble_eq_true rfl) rfl rfl ?_
                                    have hI140 := ip_4938 (v := (ar29 67 q)) hI139 
                                    have hF140 := fr_s (k := 4938) (v := (ar29 67 q)) hF139 (by decide)
                                    refine to_lv (lv := [(0, .ref 49)]) rfl ⟨rfl, trivial⟩ ?_
                                    exact c240 q (q + 1) (upd (upd (upd (upd (upd sc29 4939 (nI q)) 4938 0) 4935 (nI (q + 1))) 4937 3) 4938 (ar29 67 q)) ar29 (rfl) (rfl) (hc0_1) (by omega) (by omega) (by omega) (fun _ => by omega) hI140 hF140
              · refine to_n 2 (fr' := (68, [(0, .ref 49), (1, .int (ar29 67 q))], [.int 0, .ref 49], gh S a b (upd (upd sc29 4939 (nI q)) 4938 0) ar29 lo, ex, 0, 0)) rfl ?_
                refine to_putR (h' := gh S a b (upd (upd (upd sc29 4939 (nI q)) 4938 0) 4937 0) ar29 lo) rfl rfl rfl (Nat.le_of_ble_eq_true rfl) rfl rfl ?_
                have hI141 := ip_4937 (v := 0) hI108 
                have hF141 := fr_s (k := 4937) (v := 0) hF108 (by decide)
                refine to_n 1 (fr' := (240, [(0, .ref 49), (1, .int (ar29 67 q))], [], gh S a b (upd (upd (upd sc29 4939 (nI q)) 4938 0) 4937 0) ar29 lo, ex, 0, 0)) rfl ?_
                refine to_lv (lv := [(0, .ref 49)]) rfl ⟨rfl, trivial⟩ ?_
                exact c240 q q (upd (upd (upd sc29 4939 (nI q)) 4938 0) 4937 0) ar29 (rfl) (hc0_0) (hc0_1) (by omega) (by omega) (by omega) (fun w => absurd rfl w) hI141 hF141
          · refine to_eq (fr' := (21, [(0, .ref 49)], [.int (ar29 67 q)], gh S a b sc29 ar29 lo, ex, 0, 0)) rfl ?_
            refine to_n 1 (fr' := (23, [(0, .ref 49)], [.int 10, .int (ar29 67 q)], gh S a b sc29 ar29 lo, ex, 0, 0)) rfl ?_
            refine to_ic_ne (t := 39) rfl (fun q142 => ?_) (fun q142 => ?_)
            · refine to_n 2 (fr' := (41, [(0, .ref 49)], [.ref 49, .ref 49], gh S a b sc29 ar29 lo, ex, 0, 0)) rfl ?_
              refine to_getR (v := (nI q)) rfl rfl rfl rfl hc0_0 ?_
              refine to_putR (h' := gh S a b (upd sc29 4939 (nI q)) ar29 lo) rfl rfl rfl (Nat.le_of_ble_eq_true rfl) rfl rfl ?_
              have hI143 := ip_4939 (v := (nI q)) hI29 (rl_n (n := q) (by omega))
              have hF143 := fr_s (k := 4939) (v := (nI q)) hF29 (by decide)
              refine to_n 2 (fr' := (49, [(0, .ref 49)], [.int 0, .ref 49], gh S a b (upd sc29 4939 (nI q)) ar29 lo, ex, 0, 0)) rfl ?_
              refine to_putR (h' := gh S a b (upd (upd sc29 4939 (nI q)) 4938 0) ar29 lo) rfl rfl rfl (Nat.le_of_ble_eq_true rfl) rfl rfl ?_
              have hI144 := ip_4938 (v := 0) hI143 
              have hF144 := fr_s (k := 4938) (v := 0) hF143 (by decide)
              refine to_n 2 (fr' := (54, [(0, .ref 49)], [.ref 49, .ref 49], gh S a b (upd (upd sc29 4939 (nI q)) 4938 0) ar29 lo, ex, 0, 0)) rfl ?_
              refine to_getR (v := (nI q)) rfl rfl rfl rfl hc0_0 ?_
              refine to_cp (q := 119) (M1 := an_X10_byteAt) (rest := []) rfl rfl (by decide) rfl ⟨_, rfl⟩ (sf_byteAt hW hI144 q (by omega) r (by omega) hc0_1 d) (fun x145 hx145 => ?_)
              rcases hx145 with ⟨rfl, w145⟩ | ⟨w145, rfl⟩
              · refine to_eq (fr' := (60, [(0, .ref 49)], [.int (-1)], gh S a b (upd (upd sc29 4939 (nI q)) 4938 0) ar29 lo, ex, 0, 0)) rfl ?_
                refine to_n 6 (fr' := (68, [(0, .ref 49), (1, .int (-1))], [.int 0, .ref 49], gh S a b (upd (upd sc29 4939 (nI q)) 4938 0) ar29 lo, ex, 0, 0)) rfl ?_
                refine to_putR (h' := gh S a b (upd (upd (upd sc29 4939 (nI q)) 4938 0) 4937 0) ar29 lo) rfl rfl rfl (Nat.le_of_ble_eq_true rfl) rfl rfl ?_
                have hI146 := ip_4937 (v := 0) hI144 
                have hF146 := fr_s (k := 4937) (v := 0) hF144 (by decide)
                refine to_n 1 (fr' := (240, [(0, .ref 49), (1, .int (-1))], [], gh S a b (upd (upd (upd sc29 4939 (nI q)) 4938 0) 4937 0) ar29 lo, ex, 0, 0)) rfl ?_
                refine to_lv (lv := [(0, .ref 49)]) rfl ⟨rfl, trivial⟩ ?_
                exact c240 q q (upd (upd (upd sc29 4939 (nI q)) 4938 0) 4937 0) ar29 (rfl) (hc0_0) (hc0_1) (by omega) (by omega) (by omega) (fun w => absurd rfl w) hI146 hF146
              · refine to_eq (fr' := (60, [(0, .ref 49)], [.int (ar29 67 q)], gh S a b (upd (upd sc29 4939 (nI q)) 4938 0) ar29 lo, ex, 0, 0)) rfl ?_
                refine to_n 3 (fr' := (63, [(0, .ref 49), (1, .int (ar29 67 q))], [.int (-1), .int (ar29 67 q)], gh S a b (upd (upd sc29 4939 (nI q)) 4938 0) ar29 lo, ex, 0, 0)) rfl ?_
                refine to_ic_ne (t := 74) rfl (fun q147 => ?_) (fun q147 => ?_)
                · refine to_n 1 (fr' := (75, [(0, .ref 49), (1, .int (ar29 67 q))], [.int (ar29 67 q)], gh S a b (upd (upd sc29 4939 (nI q)) 4938 0) ar29 lo, ex, 0, 0)) rfl ?_
                  refine to_cp (q := 120) (M1 := an_X10_isLetter) (rest := []) rfl rfl (by decide) rfl trivial (sf_isLetter hW hI144 (ar29 67 q) d) (fun x148 hx148 => ?_)
                  rcases hx148 with ⟨rfl, w148⟩ | ⟨rfl, w148⟩
                  · refine to_eq (fr' := (78, [(0, .ref 49), (1, .int (ar29 67 q))], [.int 1], gh S a b (upd (upd sc29 4939 (nI q)) 4938 0) ar29 lo, ex, 0, 0)) rfl ?_
                    refine to_n 1 (fr' := (81, [(0, .ref 49), (1, .int (ar29 67 q))], [], gh S a b (upd (upd sc29 4939 (nI q)) 4938 0) ar29 lo, ex, 0, 0)) rfl ?_
                    exact c81 (r - q) (ar29 67 q) q q (upd (upd sc29 4939 (nI q)) 4938 0) ar29 (by omega) (rfl) (hc0_0) (hc0_1) (by omega) (by omega) (by omega) (fun _ => w148) hI144 hF144
                  · refine to_eq (fr' := (78, [(0, .ref 49), (1, .int (ar29 67 q))], [.int 0], gh S a b (upd (upd sc29 4939 (nI q)) 4938 0) ar29 lo, ex, 0, 0)) rfl ?_
                    refine to_n 2 (fr' := (117, [(0, .ref 49), (1, .int (ar29 67 q))], [.int (ar29 67 q)], gh S a b (upd (upd sc29 4939 (nI q)) 4938 0) ar29 lo, ex, 0, 0)) rfl ?_
                    refine to_cp (q := 121) (M1 := an_X10_isDigit) (rest := []) rfl rfl (by decide) rfl trivial (sf_isDigit hW hI144 (ar29 67 q) d) (fun x149 hx149 => ?_)
                    rcases hx149 with ⟨rfl, w149⟩ | ⟨rfl, w149⟩
                    · refine to_eq (fr' := (120, [(0, .ref 49), (1, .int (ar29 67 q))], [.int 1], gh S a b (upd (upd sc29 4939 (nI q)) 4938 0) ar29 lo, ex, 0, 0)) rfl ?_
                      refine to_n 1 (fr' := (123, [(0, .ref 49), (1, .int (ar29 67 q))], [], gh S a b (upd (upd sc29 4939 (nI q)) 4938 0) ar29 lo, ex, 0, 0)) rfl ?_
                      exact c123 (r - q) (ar29 67 q) q q (upd (upd sc29 4939 (nI q)) 4938 0) ar29 (by omega) (rfl) (hc0_0) (hc0_1) (by omega) (by omega) (by omega) (fun _ => w149) hI144 hF144
                    · refine to_eq (fr' := (120, [(0, .ref 49), (1, .int (ar29 67 q))], [.int 0], gh S a b (upd (upd sc29 4939 (nI q)) 4938 0) ar29 lo, ex, 0, 0)) rfl ?_
                      refine to_n 3 (fr' := (160, [(0, .ref 49), (1, .int (ar29 67 q))], [.ref 49, .ref 49], gh S a b (upd (upd sc29 4939 (nI q)) 4938 0) ar29 lo, ex, 0, 0)) rfl ?_
                      refine to_getR (v := (nI q)) rfl rfl rfl rfl hc0_0 ?_
                      refine to_n 1 (fr' := (164, [(0, .ref 49), (1, .int (ar29 67 q))], [.int 1, .int (nI q), .ref 49], gh S a b (upd (upd sc29 4939 (nI q)) 4938 0) ar29 lo, ex, 0, 0)) rfl ?_
                      refine to_addN (x := q) (y := 1) rfl ?_
                      refine to_putR (h' := gh S a b (upd (upd (upd sc29 4939 (nI q)) 4938 0) 4935 (nI (q + 1))) ar29 lo) rfl rfl rfl (Nat.le_of_ble_eq_true rfl) rfl rfl ?_
                      have hI150 := ip_4935 (v := (nI (q + 1))) hI144 (rl_n (n := (q + 1)) (by omega))
                      have hF150 := fr_s (k := 4935) (v := (nI (q + 1))) hF144 (by decide)
                      refine to_n 2 (fr' := (171, [(0, .ref 49), (1, .int (ar29 67 q))], [.int 40, .int (ar29 67 q)], gh S a b (upd (upd (upd sc29 4939 (nI q)) 4938 0) 4935 (nI (q + 1))) ar29 lo, ex, 0, 0)) rfl ?_
                      refine to_ic_eq (t := 216) rfl (fun q151 => ?_) (fun q151 => ?_)
                      · refine to_n 8 (fr' := (232, [(0, .ref 49), (1, .int (ar29 67 q)), (2, .int 1)], [.int 3, .ref 49], gh S a b (upd (upd (upd sc29 4939 (nI q)) 4938 0) 4935 (nI (q + 1))) ar29 lo, ex, 0, 0)) rfl ?_
                        refine to_putR (h' := gh S a b (upd (upd (upd (upd sc29 4939 (nI q)) 4938 0) 4935 (nI (q + 1))) 4937 3) ar29 lo) rfl rfl rfl (Nat.le_of_ble_eq_true rfl) rfl rfl ?_
                        have hI152 := ip_4937 (v := 3) hI150 
                        have hF152 := fr_s (k := 4937) (v := 3) hF150 (by decide)
                        refine to_n 2 (fr' := (237, [(0, .ref 49), (1, .int (ar29 67 q)), (2, .int 1)], [.int (ar29 67 q), .ref 49], gh S a b (upd (upd (upd (upd sc29 4939 (nI q)) 4938 0) 4935 (nI (q + 1))) 4937 3) ar29 lo, ex, 0, 0)) rfl ?_
                        refine to_putR (h' := gh S a b (upd (upd (upd (upd (upd sc29 4939 (nI q)) 4938 0) 4935 (nI (q + 1))) 4937 3) 4938 (ar29 67 q)) ar29 lo) rfl rfl rfl (Nat.le_of_ble_eq_true rfl) rfl rfl ?_
                        have hI153 := ip_4938 (v := (ar29 67 q)) hI152 
                        have hF153 := fr_s (k := 4938) (v := (ar29 67 q)) hF152 (by decide)
                        refine to_lv (lv := [(0, .ref 49)]) rfl ⟨rfl, trivial⟩ ?_
                        exact c240 q (q + 1) (upd (upd (upd (upd (upd sc29 4939 (nI q)) 4938 0) 4935 (nI (q + 1))) 4937 3) 4938 (ar29 67 q)) ar29 (rfl) (rfl) (hc0_1) (by omega) (by omega) (by omega) (fun _ => by omega) hI153 hF153
                      · refine to_n 2 (fr' := (177, [(0, .ref 49), (1, .int (ar29 67 q))], [.int 41, .int (ar29 67 q)], gh S a b (upd (upd (upd sc29 4939 (nI q)) 4938 0) 4935 (nI (q + 1))) ar29 lo, ex, 0, 0)) rfl ?_
                        refine to_ic_eq (t := 216) rfl (fun q154 => ?_) (fun q154 => ?_)
                        · refine to_n 8 (fr' := (232, [(0, .ref 49), (1, .int (ar29 67 q)), (2, .int 1)], [.int 3, .ref 49], gh S a b (upd (upd (upd sc29 4939 (nI q)) 4938 0) 4935 (nI (q + 1))) ar29 lo, ex, 0, 0)) rfl ?_
                          refine to_putR (h' := gh S a b (upd (upd (upd (upd sc29 4939 (nI q)) 4938 0) 4935 (nI (q + 1))) 4937 3) ar29 lo) rfl rfl rfl (Nat.le_of_ble_eq_true rfl) rfl rfl ?_
                          have hI155 := ip_4937 (v := 3) hI150 
                          have hF155 := fr_s (k := 4937) (v := 3) hF150 (by decide)
                          refine to_n 2 (fr' := (237, [(0, .ref 49), (1, .int (ar29 67 q)), (2, .int 1)], [.int (ar29 67 q), .ref 49], gh S a b (upd (upd (upd (upd sc29 4939 (nI q)) 4938 0) 4935 (nI (q + 1))) 4937 3) ar29 lo, ex, 0, 0)) rfl ?_
                          refine to_putR (h' := gh S a b (upd (upd (upd (upd (upd sc29 4939 (nI q)) 4938 0) 4935 (nI (q + 1))) 4937 3) 4938 (ar29 67 q)) ar29 lo) rfl rfl rfl (Nat.le_of_ble_eq_true rfl) rfl rfl ?_
                          have hI156 := ip_4938 (v := (ar29 67 q)) hI155 
                          have hF156 := fr_s (k := 4938) (v := (ar29 67 q)) hF155 (by decide)
                          refine to_lv (lv := [(0, .ref 49)]) rfl ⟨rfl, trivial⟩ ?_
                          exact c240 q (q + 1) (upd (upd (upd (upd (upd sc29 4939 (nI q)) 4938 0) 4935 (nI (q + 1))) 4937 3) 4938 (ar29 67 q)) ar29 (rfl) (rfl) (hc0_1) (by omega) (by omega) (by omega) (fun _ => by omega) hI156 hF156
                        · refine to_n 2 (fr' := (183, [(0, .ref 49), (1, .int (ar29 67 q))], [.int 59, .int (ar29 67 q)], gh S a b (upd (upd (upd sc29 4939 (nI q)) 4938 0) 4935 (nI (q + 1))) ar29 lo, ex, 0, 0)) rfl ?_
                          refine to_ic_eq (t := 216) rfl (fun q157 => ?_) (fun q157 => ?_)
                          · refine to_n 8 (fr' := (232, [(0, .ref 49), (1, .int (ar29 67 q)), (2, .int 1)], [.int 3, .ref 49], gh S a b (upd (upd (upd sc29 4939 (nI q)) 4938 0) 4935 (nI (q + 1))) ar29 lo, ex, 0, 0)) rfl ?_
                            refine to_putR (h' := gh S a b (upd (upd (upd (upd sc29 4939 (nI q)) 4938 0) 4935 (nI (q + 1))) 4937 3) ar29 lo) rfl rfl rfl (Nat.le_of_ble_eq_true rfl) rfl rfl ?_
                            have hI158 := ip_4937 (v := 3) hI150 
                            have hF158 := fr_s (k := 4937) (v := 3) hF150 (by decide)
                            refine to_n 2 (fr' := (237, [(0, .ref 49), (1, .int (ar29 67 q)), (2, .int 1)], [.int (ar29 67 q), .ref 49], gh S a b (upd (upd (upd (upd sc29 4939 (nI q)) 4938 0) 4935 (nI (q + 1))) 4937 3) ar29 lo, ex, 0, 0)) rfl ?_
                            refine to_putR (h' := gh S a b (upd (upd (upd (upd (upd sc29 4939 (nI q)) 4938 0) 4935 (nI (q + 1))) 4937 3) 4938 (ar29 67 q)) ar29 lo) rfl rfl rfl (Nat.le_of_ble_eq_true rfl) rfl rfl ?_
                            have hI159 := ip_4938 (v := (ar29 67 q)) hI158 
                            have hF159 := fr_s (k := 4938) (v := (ar29 67 q)) hF158 (by decide)
                            refine to_lv (lv := [(0, .ref 49)]) rfl ⟨rfl, trivial⟩ ?_
                            exact c240 q (q + 1) (upd (upd (upd (upd (upd sc29 4939 (nI q)) 4938 0) 4935 (nI (q + 1))) 4937 3) 4938 (ar29 67 q)) ar29 (rfl) (rfl) (hc0_1) (by omega) (by omega) (by omega) (fun _ => by omega) hI159 hF159
                          · refine to_n 2 (fr' := (189, [(0, .ref 49), (1, .int (ar29 67 q))], [.int 43, .int (ar29 67 q)], gh S a b (upd (upd (upd sc29 4939 (nI q)) 4938 0) 4935 (nI (q + 1))) ar29 lo, ex, 0, 0)) rfl ?_
                            refine to_ic_eq (t := 216) rfl (fun q160 => ?_) (fun q160 => ?_)
                            · refine to_n 8 (fr' := (232, [(0, .ref 49), (1, .int (ar29 67 q)), (2, .int 1)], [.int 3, .ref 49], gh S a b (upd (upd (upd sc29 4939 (nI q)) 4938 0) 4935 (nI (q + 1))) ar29 lo, ex, 0, 0)) rfl ?_
                              refine to_putR (h' := gh S a b (upd (upd (upd (upd sc29 4939 (nI q)) 4938 0) 4935 (nI (q + 1))) 4937 3) ar29 lo) rfl rfl rfl (Nat.le_of_ble_eq_true rfl) rfl rfl ?_
                              have hI161 := ip_4937 (v := 3) hI150 
                              have hF161 := fr_s (k := 4937) (v := 3) hF150 (by decide)
                              refine to_n 2 (fr' := (237, [(0, .ref 49), (1, .int (ar29 67 q)), (2, .int 1)], [.int (ar29 67 q), .ref 49], gh S a b (upd (upd (upd (upd sc29 4939 (nI q)) 4938 0) 4935 (nI (q + 1))) 4937 3) ar29 lo, ex, 0, 0)) rfl ?_
                              refine to_putR (h' := gh S a b (upd (upd (upd (upd (upd sc29 4939 (nI q)) 4938 0) 4935 (nI (q + 1))) 4937 3) 4938 (ar29 67 q)) ar29 lo) rfl rfl rfl (Nat.le_of_ble_eq_true rfl) rfl rfl ?_
                              have hI162 := ip_4938 (v := (ar29 67 q)) hI161 
                              have hF162 := fr_s (k := 4938) (v := (ar29 67 q)) hF161 (by decide)
                              refine to_lv (lv := [(0, .ref 49)]) rfl ⟨rfl, trivial⟩ ?_
                              exact c240 q (q + 1) (upd (upd (upd (upd (upd sc29 4939 (nI q)) 4938 0) 4935 (nI (q + 1))) 4937 3) 4938 (ar29 67 q)) ar29 (rfl) (rfl) (hc0_1) (by omega) (by omega) (by omega) (fun _ => by omega) hI162 hF162
                            · refine to_n 2 (fr' := (195, [(0, .ref 49), (1, .int (ar29 67 q))], [.int 45, .int (ar29 67 q)], gh S a b (upd (upd (upd sc29 4939 (nI q)) 4938 0) 4935 (nI (q + 1))) ar29 lo, ex, 0, 0)) rfl ?_
                              refine to_ic_eq (t := 216) rfl (fun q163 => ?_) (fun q163 => ?_)
                              · refine to_n 8 (fr' := (232, [(0, .ref 49), (1, .int (ar29 67 q)), (2, .int 1)], [.int 3, .ref 49], gh S a b (upd (upd (upd sc29 4939 (nI q)) 4938 0) 4935 (nI (q + 1))) ar29 lo, ex, 0, 0)) rfl ?_
                                refine to_putR (h' := gh S a b (upd (upd (upd (upd sc29 4939 (nI q)) 4938 0) 4935 (nI (q + 1))) 4937 3) ar29 lo) rfl rfl rfl (Nat.le_of_ble_eq_true rfl) rfl rfl ?_
                                have hI164 := ip_4937 (v := 3) hI150 
                                have hF164 := fr_s (k := 4937) (v := 3) hF150 (by decide)
                                refine to_n 2 (fr' := (237, [(0, .ref 49), (1, .int (ar29 67 q)), (2, .int 1)], [.int (ar29 67 q), .ref 49], gh S a b (upd (upd (upd (upd sc29 4939 (nI q)) 4938 0) 4935 (nI (q + 1))) 4937 3) ar29 lo, ex, 0, 0)) rfl ?_
                                refine to_putR (h' := gh S a b (upd (upd (upd (upd (upd sc29 4939 (nI q)) 4938 0) 4935 (nI (q + 1))) 4937 3) 4938 (ar29 67 q)) ar29 lo) rfl rfl rfl (Nat.le_of_ble_eq_true rfl) rfl rfl ?_
                                have hI165 := ip_4938 (v := (ar29 67 q)) hI164 
                                have hF165 := fr_s (k := 4938) (v := (ar29 67 q)) hF164 (by decide)
                                refine to_lv (lv := [(0, .ref 49)]) rfl ⟨rfl, trivial⟩ ?_
                                exact c240 q (q + 1) (upd (upd (upd (upd (upd sc29 4939 (nI q)) 4938 0) 4935 (nI (q + 1))) 4937 3) 4938 (ar29 67 q)) ar29 (rfl) (rfl) (hc0_1) (by omega) (by omega) (by omega) (fun _ => by omega) hI165 hF165
                              · refine to_n 2 (fr' := (201, [(0, .ref 49), (1, .int (ar29 67 q))], [.int 42, .int (ar29 67 q)], gh S a b (upd (upd (upd sc29 4939 (nI q)) 4938 0) 4935 (nI (q + 1))) ar29 lo, ex, 0, 0)) rfl ?_
                                refine to_ic_eq (t := 216) rfl (fun q166 => ?_) (fun q166 => ?_)
                                · refine to_n 8 (fr' := (232, [(0, .ref 49), (1, .int (ar29 67 q)), (2, .int 1)], [.int 3, .ref 49], gh S a b (upd (upd (upd sc29 4939 (nI q)) 4938 0) 4935 (nI (q + 1))) ar29 lo, ex, 0, 0)) rfl ?_
                                  refine to_putR (h' := gh S a b (upd (upd (upd (upd sc29 4939 (nI q)) 4938 0) 4935 (nI (q + 1))) 4937 3) ar29 lo) rfl rfl rfl (Nat.le_of_ble_eq_true rfl) rfl rfl ?_
                                  have hI167 := ip_4937 (v := 3) hI150 
                                  have hF167 := fr_s (k := 4937) (v := 3) hF150 (by decide)
                                  refine to_n 2 (fr' := (237, [(0, .ref 49), (1, .int (ar29 67 q)), (2, .int 1)], [.int (ar29 67 q), .ref 49], gh S a b (upd (upd (upd (upd sc29 4939 (nI q)) 4938 0) 4935 (nI (q + 1))) 4937 3) ar29 lo, ex, 0, 0)) rfl ?_
                                  refine to_putR (h' := gh S a b (upd (upd (upd (upd (upd sc29 4939 (nI q)) 4938 0) 4935 (nI (q + 1))) 4937 3) 4938 (ar29 67 q)) ar29 lo) rfl rfl rfl (Nat.le_of_ble_eq_true rfl) rfl rfl ?_
                                  have hI168 := ip_4938 (v := (ar29 67 q)) hI167 
                                  have hF168 := fr_s (k := 4938) (v := (ar29 67 q)) hF167 (by decide)
                                  refine to_lv (lv := [(0, .ref 49)]) rfl ⟨rfl, trivial⟩ ?_
                                  exact c240 q (q + 1) (upd (upd (upd (upd (upd sc29 4939 (nI q)) 4938 0) 4935 (nI (q + 1))) 4937 3) 4938 (ar29 67 q)) ar29 (rfl) (rfl) (hc0_1) (by omega) (by omega) (by omega) (fun _ => by omega) hI168 hF168
                                · refine to_n 2 (fr' := (207, [(0, .ref 49), (1, .int (ar29 67 q))], [.int 60, .int (ar29 67 q)], gh S a b (upd (upd (upd sc29 4939 (nI q)) 4938 0) 4935 (nI (q + 1))) ar29 lo, ex, 0, 0)) rfl ?_
                                  refine to_ic_eq (t := 216) rfl (fun q169 => ?_) (fun q169 => ?_)
                                  · refine to_n 8 (fr' := (232, [(0, .ref 49), (1, .int (ar29 67 q)), (2, .int 1)], [.int 3, .ref 49], gh S a b (upd (upd (upd sc29 4939 (nI q)) 4938 0) 4935 (nI (q + 1))) ar29 lo, ex, 0, 0)) rfl ?_
                                    refine to_putR (h' := gh S a b (upd (upd (upd (upd sc29 4939 (nI q)) 4938 0) 4935 (nI (q + 1))) 4937 3) ar29 lo) rfl rfl rfl (Nat.le_of_ble_eq_true rfl) rfl rfl ?_
                                    have hI170 := ip_4937 (v := 3) hI150 
                                    have hF170 := fr_s (k := 4937) (v := 3) hF150 (by decide)
                                    refine to_n 2 (fr' := (237, [(0, .ref 49), (1, .int (ar29 67 q)), (2, .int 1)], [.int (ar29 67 q), .ref 49], gh S a b (upd (upd (upd (upd sc29 4939 (nI q)) 4938 0) 4935 (nI (q + 1))) 4937 3) ar29 lo, ex, 0, 0)) rfl ?_
                                    refine to_putR (h' := gh S a b (upd (upd (upd (upd (upd sc29 4939 (nI q)) 4938 0) 4935 (nI (q + 1))) 4937 3) 4938 (ar29 67 q)) ar29 lo) rfl rfl rfl (Nat.le_of_ble_eq_true rfl) rfl rfl ?_
                                    have hI171 := ip_4938 (v := (ar29 67 q)) hI170 
                                    have hF171 := fr_s (k := 4938) (v := (ar29 67 q)) hF170 (by decide)
                                    refine to_lv (lv := [(0, .ref 49)]) rfl ⟨rfl, trivial⟩ ?_
                                    exact c240 q (q + 1) (upd (upd (upd (upd (upd sc29 4939 (nI q)) 4938 0) 4935 (nI (q + 1))) 4937 3) 4938 (ar29 67 q)) ar29 (rfl) (rfl) (hc0_1) (by omega) (by omega) (by omega) (fun _ => by omega) hI171 hF171
                                  · refine to_n 2 (fr' := (213, [(0, .ref 49), (1, .int (ar29 67 q))], [.int 61, .int (ar29 67 q)], gh S a b (upd (upd (upd sc29 4939 (nI q)) 4938 0) 4935 (nI (q + 1))) ar29 lo, ex, 0, 0)) rfl ?_
                                    refine to_ic_ne (t := 220) rfl (fun q172 => ?_) (fun q172 => ?_)
                                    · refine to_n 6 (fr' := (232, [(0, .ref 49), (1, .int (ar29 67 q)), (2, .int 0)], [.int 4, .ref 49], gh S a b (upd (upd (upd sc29 4939 (nI q)) 4938 0) 4935 (nI (q + 1))) ar29 lo, ex, 0, 0)) rfl ?_
                                      refine to_putR (h' := gh S a b (upd (upd (upd (upd sc29 4939 (nI q)) 4938 0) 4935 (nI (q + 1))) 4937 4) ar29 lo) rfl rfl rfl (Nat.le_of_ble_eq_true rfl) rfl rfl ?_
                                      have hI173 := ip_4937 (v := 4) hI150 
                                      have hF173 := fr_s (k := 4937) (v := 4) hF150 (by decide)
                                      refine to_n 2 (fr' := (237, [(0, .ref 49), (1, .int (ar29 67 q)), (2, .int 0)], [.int (ar29 67 q), .ref 49], gh S a b (upd (upd (upd (upd sc29 4939 (nI q)) 4938 0) 4935 (nI (q + 1))) 4937 4) ar29 lo, ex, 0, 0)) rfl ?_
                                      refine to_putR (h' := gh S a b (upd (upd (upd (upd (upd sc29 4939 (nI q)) 4938 0) 4935 (nI (q + 1))) 4937 4) 4938 (ar29 67 q)) ar29 lo) rfl rfl rfl (Nat.le_of_ble_eq_true rfl) rfl rfl ?_
                                      have hI174 := ip_4938 (v := (ar29 67 q)) hI173 
                                      have hF174 := fr_s (k := 4938) (v := (ar29 67 q)) hF173 (by decide)
                                      refine to_lv (lv := [(0, .ref 49)]) rfl ⟨rfl, trivial⟩ ?_
                                      exact c240 q (q + 1) (upd (upd (upd (upd (upd sc29 4939 (nI q)) 4938 0) 4935 (nI (q + 1))) 4937 4) 4938 (ar29 67 q)) ar29 (rfl) (rfl) (hc0_1) (by omega) (by omega) (by omega) (fun _ => by omega) hI174 hF174
                                    · refine to_n 8 (fr' := (232, [(0, .ref 49), (1, .int (ar29 67 q)), (2, .int 1)], [.int 3, .ref 49], gh S a b (upd (upd (upd sc29 4939 (nI q)) 4938 0) 4935 (nI (q + 1))) ar29 lo, ex, 0, 0)) rfl ?_
                                      refine to_putR (h' := gh S a b (upd (upd (upd (upd sc29 4939 (nI q)) 4938 0) 4935 (nI (q + 1))) 4937 3) ar29 lo) rfl rfl rfl (Nat.le_of_ble_eq_true rfl) rfl rfl ?_
                                      have hI175 := ip_4937 (v := 3) hI150 
                                      have hF175 := fr_s (k := 4937) (v := 3) hF150 (by decide)
                                      refine to_n 2 (fr' := (237, [(0, .ref 49), (1, .int (ar29 67 q)), (2, .int 1)], [.int (ar29 67 q), .ref 49], gh S a b (upd (upd (upd (upd sc29 4939 (nI q)) 4938 0) 4935 (nI (q + 1))) 4937 3) ar29 lo, ex, 0, 0)) rfl ?_
                                      refine to_putR (h' := gh S a b (upd (upd (upd (upd (upd sc29 4939 (nI q)) 4938 0) 4935 (nI (q + 1))) 4937 3) 4938 (ar29 67 q)) ar29 lo) rfl rfl rfl (Nat.le_of_ble_eq_true rfl) rfl rfl ?_
                                      have hI176 := ip_4938 (v := (ar29 67 q)) hI175 
                                      have hF176 := fr_s (k := 4938) (v := (ar29 67 q)) hF175 (by decide)
                                      refine to_lv (lv := [(0, .ref 49)]) rfl ⟨rfl, trivial⟩ ?_
                                      exact c240 q (q + 1) (upd (upd (upd (upd (upd sc29 4939 (nI q)) 4938 0) 4935 (nI (q + 1))) 4937 3) 4938 (ar29 67 q)) ar29 (rfl) (rfl) (hc0_1) (by omega) (by omega) (by omega) (fun _ => by omega) hI176 hF176
                · refine to_n 2 (fr' := (68, [(0, .ref 49), (1, .int (ar29 67 q))], [.int 0, .ref 49], gh S a b (upd (upd sc29 4939 (nI q)) 4938 0) ar29 lo, ex, 0, 0)) rfl ?_
                  refine to_putR (h' := gh S a b (upd (upd (upd sc29 4939 (nI q)) 4938 0) 4937 0) ar29 lo) rfl rfl rfl (Nat.le_of_ble_eq_true rfl) rfl rfl ?_
                  have hI177 := ip_4937 (v := 0) hI144 
                  have hF177 := fr_s (k := 4937) (v := 0) hF144 (by decide)
                  refine to_n 1 (fr' := (240, [(0, .ref 49), (1, .int (ar29 67 q))], [], gh S a b (upd (upd (upd sc29 4939 (nI q)) 4938 0) 4937 0) ar29 lo, ex, 0, 0)) rfl ?_
                  refine to_lv (lv := [(0, .ref 49)]) rfl ⟨rfl, trivial⟩ ?_
                  exact c240 q q (upd (upd (upd sc29 4939 (nI q)) 4938 0) 4937 0) ar29 (rfl) (hc0_0) (hc0_1) (by omega) (by omega) (by omega) (fun w => absurd rfl w) hI177 hF177
            · refine to_n 2 (fr' := (28, [(0, .ref 49)], [.ref 49, .ref 49], gh S a b sc29 ar29 lo, ex, 0, 0)) rfl ?_
              refine to_getR (v := (nI q)) rfl rfl rfl rfl hc0_0 ?_
              refine to_n 1 (fr' := (32, [(0, .ref 49)], [.int 1, .int (nI q), .ref 49], gh S a b sc29 ar29 lo, ex, 0, 0)) rfl ?_
              refine to_addN (x := q) (y := 1) rfl ?_
              refine to_putR (h' := gh S a b (upd sc29 4935 (nI (q + 1))) ar29 lo) rfl rfl rfl (Nat.le_of_ble_eq_true rfl) rfl rfl ?_
              have hI178 := ip_4935 (v := (nI (q + 1))) hI29 (rl_n (n := (q + 1)) (by omega))
              have hF178 := fr_s (k := 4935) (v := (nI (q + 1))) hF29 (by decide)
              refine to_n 1 (fr' := (0, [(0, .ref 49)], [], gh S a b (upd sc29 4935 (nI (q + 1))) ar29 lo, ex, 0, 0)) rfl ?_
              exfalso
              omega
    | succ m ih =>
      intro q sc29 ar29 hm hc0_0 hc0_1 hc0_2 hc0_3 hI29 hF29
      refine to_n 2 (fr' := (2, [(0, .ref 49)], [.ref 49, .ref 49], gh S a b sc29 ar29 lo, ex, 0, 0)) rfl ?_
      refine to_getR (v := (nI q)) rfl rfl rfl rfl hc0_0 ?_
      refine to_cp (q := 119) (M1 := an_X10_byteAt) (rest := []) rfl rfl (by decide) rfl ⟨_, rfl⟩ (sf_byteAt hW hI29 q (by omega) r (by omega) hc0_1 d) (fun x179 hx179 => ?_)
      rcases hx179 with ⟨rfl, w179⟩ | ⟨w179, rfl⟩
      · refine to_eq (fr' := (8, [(0, .ref 49)], [.int (-1)], gh S a b sc29 ar29 lo, ex, 0, 0)) rfl ?_
        refine to_n 4 (fr' := (15, [(0, .ref 49)], [.ref 49, .ref 49], gh S a b sc29 ar29 lo, ex, 0, 0)) rfl ?_
        refine to_getR (v := (nI q)) rfl rfl rfl rfl hc0_0 ?_
        refine to_cp (q := 119) (M1 := an_X10_byteAt) (rest := []) rfl rfl (by decide) rfl ⟨_, rfl⟩ (sf_byteAt hW hI29 q (by omega) r (by omega) hc0_1 d) (fun x180 hx180 => ?_)
        rcases hx180 with ⟨rfl, w180⟩ | ⟨w180, rfl⟩
        · refine to_eq (fr' := (21, [(0, .ref 49)], [.int (-1)], gh S a b sc29 ar29 lo, ex, 0, 0)) rfl ?_
          refine to_n 4 (fr' := (41, [(0, .ref 49)], [.ref 49, .ref 49], gh S a b sc29 ar29 lo, ex, 0, 0)) rfl ?_
          refine to_getR (v := (nI q)) rfl rfl rfl rfl hc0_0 ?_
          refine to_putR (h' := gh S a b (upd sc29 4939 (nI q)) ar29 lo) rfl rfl rfl (Nat.le_of_ble_eq_true rfl) rfl rfl ?_
          have hI181 := ip_4939 (v := (nI q)) hI29 (rl_n (n := q) (by omega))
          have hF181 := fr_s (k := 4939) (v := (nI q)) hF29 (by decide)
          refine to_n 2 (fr' := (49, [(0, .ref 49)], [.int 0, .ref 49], gh S a b (upd sc29 4939 (nI q)) ar29 lo, ex, 0, 0)) rfl ?_
          refine to_putR (h' := gh S a b (upd (upd sc29 4939 (nI q)) 4938 0) ar29 lo) rfl rfl rfl (Nat.le_of_ble_eq_true rfl) rfl rfl ?_
          have hI182 := ip_4938 (v := 0) hI181 
          have hF182 := fr_s (k := 4938) (v := 0) hF181 (by decide)
          refine to_n 2 (fr' := (54, [(0, .ref 49)], [.ref 49, .ref 49], gh S a b (upd (upd sc29 4939 (nI q)) 4938 0) ar29 lo, ex, 0, 0)) rfl ?_
          refine to_getR (v := (nI q)) rfl rfl rfl rfl hc0_0 ?_
          refine to_cp (q := 119) (M1 := an_X10_byteAt) (rest := []) rfl rfl (by decide) rfl ⟨_, rfl⟩ (sf_byteAt hW hI182 q (by omega) r (by omega) hc0_1 d) (fun x183 hx183 => ?_)
          rcases hx183 with ⟨rfl, w183⟩ | ⟨w183, rfl⟩
          · refine to_eq (fr' := (60, [(0, .ref 49)], [.int (-1)], gh S a b (upd (upd sc29 4939 (nI q)) 4938 0) ar29 lo, ex, 0, 0)) rfl ?_
            refine to_n 6 (fr' := (68, [(0, .ref 49), (1, .int (-1))], [.int 0, .ref 49], gh S a b (upd (upd sc29 4939 (nI q)) 4938 0) ar29 lo, ex, 0, 0)) rfl ?_
            refine to_putR (h' := gh S a b (upd (upd (upd sc29 4939 (nI q)) 4938 0) 4937 0) ar29 lo) rfl rfl rfl (Nat.le_of_ble_eq_true rfl) rfl rfl ?_
            have hI184 := ip_4937 (v := 0) hI182 
            have hF184 := fr_s (k := 4937) (v := 0) hF182 (by decide)
            refine to_n 1 (fr' := (240, [(0, .ref 49), (1, .int (-1))], [], gh S a b (upd (upd (upd sc29 4939 (nI q)) 4938 0) 4937 0) ar29 lo, ex, 0, 0)) rfl ?_
            refine to_lv (lv := [(0, .ref 49)]) rfl ⟨rfl, trivial⟩ ?_
            exact c240 q q (upd (upd (upd sc29 4939 (nI q)) 4938 0) 4937 0) ar29 (rfl) (hc0_0) (hc0_1) (by omega) (by omega) (by omega) (fun w => absurd rfl w) hI184 hF184
          · refine to_eq (fr' := (60, [(0, .ref 49)], [.int (ar29 67 q)], gh S a b (upd (upd sc29 4939 (nI q)) 4938 0) ar29 lo, ex, 0, 0)) rfl ?_
            refine to_n 3 (fr' := (63, [(0, .ref 49), (1, .int (ar29 67 q))], [.int (-1), .int (ar29 67 q)], gh S a b (upd (upd sc29 4939 (nI q)) 4938 0) ar29 lo, ex, 0, 0)) rfl ?_
            refine to_ic_ne (t := 74) rfl (fun q185 => ?_) (fun q185 => ?_)
            · refine to_n 1 (fr' := (75, [(0, .ref 49), (1, .int (ar29 67 q))], [.int (ar29 67 q)], gh S a b (upd (upd sc29 4939 (nI q)) 4938 0) ar29 lo, ex, 0, 0)) rfl ?_
              refine to_cp (q := 120) (M1 := an_X10_isLetter) (rest := []) rfl rfl (by decide) rfl trivial (sf_isLetter hW hI182 (ar29 67 q) d) (fun x186 hx186 => ?_)
              rcases hx186 with ⟨rfl, w186⟩ | ⟨rfl, w186⟩
              · refine to_eq (fr' := (78, [(0, .ref 49), (1, .int (ar29 67 q))], [.int 1], gh S a b (upd (upd sc29 4939 (nI q)) 4938 0) ar29 lo, ex, 0, 0)) rfl ?_
                refine to_n 1 (fr' := (81, [(0, .ref 49), (1, .int (ar29 67 q))], [], gh S a b (upd (upd sc29 4939 (nI q)) 4938 0) ar29 lo, ex, 0, 0)) rfl ?_
                exact c81 (r - q) (ar29 67 q) q q (upd (upd sc29 4939 (nI q)) 4938 0) ar29 (by omega) (rfl) (hc0_0) (hc0_1) (by omega) (by omega) (by omega) (fun _ => w186) hI182 hF182
              · refine to_eq (fr' := (78, [(0, .ref 49), (1, .int (ar29 67 q))], [.int 0], gh S a b (upd (upd sc29 4939 (nI q)) 4938 0) ar29 lo, ex, 0, 0)) rfl ?_
                refine to_n 2 (fr' := (117, [(0, .ref 49), (1, .int (ar29 67 q))], [.int (ar29 67 q)], gh S a b (upd (upd sc29 4939 (nI q)) 4938 0) ar29 lo, ex, 0, 0)) rfl ?_
                refine to_cp (q := 121) (M1 := an_X10_isDigit) (rest := []) rfl rfl (by decide) rfl trivial (sf_isDigit hW hI182 (ar29 67 q) d) (fun x187 hx187 => ?_)
                rcases hx187 with ⟨rfl, w187⟩ | ⟨rfl, w187⟩
                · refine to_eq (fr' := (120, [(0, .ref 49), (1, .int (ar29 67 q))], [.int 1], gh S a b (upd (upd sc29 4939 (nI q)) 4938 0) ar29 lo, ex, 0, 0)) rfl ?_
                  refine to_n 1 (fr' := (123, [(0, .ref 49), (1, .int (ar29 67 q))], [], gh S a b (upd (upd sc29 4939 (nI q)) 4938 0) ar29 lo, ex, 0, 0)) rfl ?_
                  exact c123 (r - q) (ar29 67 q) q q (upd (upd sc29 4939 (nI q)) 4938 0) ar29 (by omega) (rfl) (hc0_0) (hc0_1) (by omega) (by omega) (by omega) (fun _ => w187) hI182 hF182
                · refine to_eq (fr' := (120, [(0, .ref 49), (1, .int (ar29 67 q))], [.int 0], gh S a b (upd (upd sc29 4939 (nI q)) 4938 0) ar29 lo, ex, 0, 0)) rfl ?_
                  refine to_n 3 (fr' := (160, [(0, .ref 49), (1, .int (ar29 67 q))], [.ref 49, .ref 49], gh S a b (upd (upd sc29 4939 (nI q)) 4938 0) ar29 lo, ex, 0, 0)) rfl ?_
                  refine to_getR (v := (nI q)) rfl rfl rfl rfl hc0_0 ?_
                  refine to_n 1 (fr' := (164, [(0, .ref 49), (1, .int (ar29 67 q))], [.int 1, .int (nI q), .ref 49], gh S a b (upd (upd sc29 4939 (nI q)) 4938 0) ar29 lo, ex, 0, 0)) rfl ?_
                  refine to_addN (x := q) (y := 1) rfl ?_
                  refine to_putR (h' := gh S a b (upd (upd (upd sc29 4939 (nI q)) 4938 0) 4935 (nI (q + 1))) ar29 lo) rfl rfl rfl (Nat.le_of_ble_eq_true rfl) rfl rfl ?_
                  have hI188 := ip_4935 (v := (nI (q + 1))) hI182 (rl_n (n := (q + 1)) (by omega))
                  have hF188 := fr_s (k := 4935) (v := (nI (q + 1))) hF182 (by decide)
                  refine to_n 2 (fr' := (171, [(0, .ref 49), (1, .int (ar29 67 q))], [.int 40, .int (ar29 67 q)], gh S a b (upd (upd (upd sc29 4939 (nI q)) 4938 0) 4935 (nI (q + 1))) ar29 lo, ex, 0, 0)) rfl ?_
                  refine to_ic_eq (t := 216) rfl (fun q189 => ?_) (fun q189 => ?_)
                  · refine to_n 8 (fr' := (232, [(0, .ref 49), (1, .int (ar29 67 q)), (2, .int 1)], [.int 3, .ref 49], gh S a b (upd (upd (upd sc29 4939 (nI q)) 4938 0) 4935 (nI (q + 1))) ar29 lo, ex, 0, 0)) rfl ?_
                    refine to_putR (h' := gh S a b (upd (upd (upd (upd sc29 4939 (nI q)) 4938 0) 4935 (nI (q + 1))) 4937 3) ar29 lo) rfl rfl rfl (Nat.le_of_ble_eq_true rfl) rfl rfl ?_
                    have hI190 := ip_4937 (v := 3) hI188 
                    have hF190 := fr_s (k := 4937) (v := 3) hF188 (by decide)
                    refine to_n 2 (fr' := (237, [(0, .ref 49), (1, .int (ar29 67 q)), (2, .int 1)], [.int (ar29 67 q), .ref 49], gh S a b (upd (upd (upd (upd sc29 4939 (nI q)) 4938 0) 4935 (nI (q + 1))) 4937 3) ar29 lo, ex, 0, 0)) rfl ?_
                    refine to_putR (h' := gh S a b (upd (upd (upd (upd (upd sc29 4939 (nI q)) 4938 0) 4935 (nI (q + 1))) 4937 3) 4938 (ar29 67 q)) ar29 lo) rfl rfl rfl (Nat.le_of_ble_eq_true rfl) rfl rfl ?_
                    have hI191 := ip_4938 (v := (ar29 67 q)) hI190 
                    have hF191 := fr_s (k := 4938) (v := (ar29 67 q)) hF190 (by decide)
                    refine to_lv (lv := [(0, .ref 49)]) rfl ⟨rfl, trivial⟩ ?_
                    exact c240 q (q + 1) (upd (upd (upd (upd (upd sc29 4939 (nI q)) 4938 0) 4935 (nI (q + 1))) 4937 3) 4938 (ar29 67 q)) ar29 (rfl) (rfl) (hc0_1) (by omega) (by omega) (by omega) (fun _ => by omega) hI191 hF191
                  · refine to_n 2 (fr' := (177, [(0, .ref 49), (1, .int (ar29 67 q))], [.int 41, .int (ar29 67 q)], gh S a b (upd (upd (upd sc29 4939 (nI q)) 4938 0) 4935 (nI (q + 1))) ar29 lo, ex, 0, 0)) rfl ?_
                    refine to_ic_eq (t := 216) rfl (fun q192 => ?_) (fun q192 => ?_)
                    · refine to_n 8 (fr' := (232, [(0, .ref 49), (1, .int (ar29 67 q)), (2, .int 1)], [.int 3, .ref 49], gh S a b (upd (upd (upd sc29 4939 (nI q)) 4938 0) 4935 (nI (q + 1))) ar29 lo, ex, 0, 0)) rfl ?_
                      refine to_putR (h' := gh S a b (upd (upd (upd (upd sc29 4939 (nI q)) 4938 0) 4935 (nI (q + 1))) 4937 3) ar29 lo) rfl rfl rfl (Nat.le_of_ble_eq_true rfl) rfl rfl ?_
                      have hI193 := ip_4937 (v := 3) hI188 
                      have hF193 := fr_s (k := 4937) (v := 3) hF188 (by decide)
                      refine to_n 2 (fr' := (237, [(0, .ref 49), (1, .int (ar29 67 q)), (2, .int 1)], [.int (ar29 67 q), .ref 49], gh S a b (upd (upd (upd (upd sc29 4939 (nI q)) 4938 0) 4935 (nI (q + 1))) 4937 3) ar29 lo, ex, 0, 0)) rfl ?_
                      refine to_putR (h' := gh S a b (upd (upd (upd (upd (upd sc29 4939 (nI q)) 4938 0) 4935 (nI (q + 1))) 4937 3) 4938 (ar29 67 q)) ar29 lo) rfl rfl rfl (Nat.le_of_ble_eq_true rfl) rfl rfl ?_
                      have hI194 := ip_4938 (v := (ar29 67 q)) hI193 
                      have hF194 := fr_s (k := 4938) (v := (ar29 67 q)) hF193 (by decide)
                      refine to_lv (lv := [(0, .ref 49)]) rfl ⟨rfl, trivial⟩ ?_
                      exact c240 q (q + 1) (upd (upd (upd (upd (upd sc29 4939 (nI q)) 4938 0) 4935 (nI (q + 1))) 4937 3) 4938 (ar29 67 q)) ar29 (rfl) (rfl) (hc0_1) (by omega) (by omega) (by omega) (fun _ => by omega) hI194 hF194
                    · refine to_n 2 (fr' := (183, [(0, .ref 49), (1, .int (ar29 67 q))], [.int 59, .int (ar29 67 q)], gh S a b (upd (upd (upd sc29 4939 (nI q)) 4938 0) 4935 (nI (q + 1))) ar29 lo, ex, 0, 0)) rfl ?_
                      refine to_ic_eq (t := 216) rfl (fun q195 => ?_) (fun q195 => ?_)
                      · refine to_n 8 (fr' := (232, [(0, .ref 49), (1, .int (ar29 67 q)), (2, .int 1)], [.int 3, .ref 49], gh S a b (upd (upd (upd sc29 4939 (nI q)) 4938 0) 4935 (nI (q + 1))) ar29 lo, ex, 0, 0)) rfl ?_
                        refine to_putR (h' := gh S a b (upd (upd (upd (upd sc29 4939 (nI q)) 4938 0) 4935 (nI (q + 1))) 4937 3) ar29 lo) rfl rfl rfl (Nat.le_of_ble_eq_true rfl) rfl rfl ?_
                        have hI196 := ip_4937 (v := 3) hI188 
                        have hF196 := fr_s (k := 4937) (v := 3) hF188 (by decide)
                        refine to_n 2 (fr' := (237, [(0, .ref 49), (1, .int (ar29 67 q)), (2, .int 1)], [.int (ar29 67 q), .ref 49], gh S a b (upd (upd (upd (upd sc29 4939 (nI q)) 4938 0) 4935 (nI (q + 1))) 4937 3) ar29 lo, ex, 0, 0)) rfl ?_
                        refine to_putR (h' := gh S a b (upd (upd (upd (upd (upd sc29 4939 (nI q)) 4938 0) 4935 (nI (q + 1))) 4937 3) 4938 (ar29 67 q)) ar29 lo) rfl rfl rfl (Nat.le_of_ble_eq_true rfl) rfl rfl ?_
                        have hI197 := ip_4938 (v := (ar29 67 q)) hI196 
                        have hF197 := fr_s (k := 4938) (v := (ar29 67 q)) hF196 (by decide)
                        refine to_lv (lv := [(0, .ref 49)]) rfl ⟨rfl, trivial⟩ ?_
                        exact c240 q (q + 1) (upd (upd (upd (upd (upd sc29 4939 (nI q)) 4938 0) 4935 (nI (q + 1))) 4937 3) 4938 (ar29 67 q)) ar29 (rfl) (rfl) (hc0_1) (by omega) (by omega) (by omega) (fun _ => by omega) hI197 hF197
                      · refine to_n 2 (fr' := (189, [(0, .ref 49), (1, .int (ar29 67 q))], [.int 43, .int (ar29 67 q)], gh S a b (upd (upd (upd sc29 4939 (nI q)) 4938 0) 4935 (nI (q + 1))) ar29 lo, ex, 0, 0)) rfl ?_
                        refine to_ic_eq (t := 216) rfl (fun q198 => ?_) (fun q198 => ?_)
                        · refine to_n 8 (fr' := (232, [(0, .ref 49), (1, .int (ar29 67 q)), (2, .int 1)], [.int 3, .ref 49], gh S a b (upd (upd (upd sc29 4939 (nI q)) 4938 0) 4935 (nI (q + 1))) ar29 lo, ex, 0, 0)) rfl ?_
                          refine to_putR (h' := gh S a b (upd (upd (upd (upd sc29 4939 (nI q)) 4938 0) 4935 (nI (q + 1))) 4937 3) ar29 lo) rfl rfl rfl (Nat.le_of_ble_eq_true rfl) rfl rfl ?_
                          have hI199 := ip_4937 (v := 3) hI188 
                          have hF199 := fr_s (k := 4937) (v := 3) hF188 (by decide)
                          refine to_n 2 (fr' := (237, [(0, .ref 49), (1, .int (ar29 67 q)), (2, .int 1)], [.int (ar29 67 q), .ref 49], gh S a b (upd (upd (upd (upd sc29 4939 (nI q)) 4938 0) 4935 (nI (q + 1))) 4937 3) ar29 lo, ex, 0, 0)) rfl ?_
                          refine to_putR (h' := gh S a b (upd (upd (upd (upd (upd sc29 4939 (nI q)) 4938 0) 4935 (nI (q + 1))) 4937 3) 4938 (ar29 67 q)) ar29 lo) rfl rfl rfl (Nat.le_of_ble_eq_true rfl) rfl rfl ?_
                          have hI200 := ip_4938 (v := (ar29 67 q)) hI199 
                          have hF200 := fr_s (k := 4938) (v := (ar29 67 q)) hF199 (by decide)
                          refine to_lv (lv := [(0, .ref 49)]) rfl ⟨rfl, trivial⟩ ?_
                          exact c240 q (q + 1) (upd (upd (upd (upd (upd sc29 4939 (nI q)) 4938 0) 4935 (nI (q + 1))) 4937 3) 4938 (ar29 67 q)) ar29 (rfl) (rfl) (hc0_1) (by omega) (by omega) (by omega) (fun _ => by omega) hI200 hF200
                        · refine to_n 2 (fr' := (195, [(0, .ref 49), (1, .int (ar29 67 q))], [.int 45, .int (ar29 67 q)], gh S a b (upd (upd (upd sc29 4939 (nI q)) 4938 0) 4935 (nI (q + 1))) ar29 lo, ex, 0, 0)) rfl ?_
                          refine to_ic_eq (t := 216) rfl (fun q201 => ?_) (fun q201 => ?_)
                          · refine to_n 8 (fr' := (232, [(0, .ref 49), (1, .int (ar29 67 q)), (2, .int 1)], [.int 3, .ref 49], gh S a b (upd (upd (upd sc29 4939 (nI q)) 4938 0) 4935 (nI (q + 1))) ar29 lo, ex, 0, 0)) rfl ?_
                            refine to_putR (h' := gh S a b (upd (upd (upd (upd sc29 4939 (nI q)) 4938 0) 4935 (nI (q + 1))) 4937 3) ar29 lo) rfl rfl rfl (Nat.le_of_ble_eq_true rfl) rfl rfl ?_
                            have hI202 := ip_4937 (v := 3) hI188 
                            have hF202 := fr_s (k := 4937) (v := 3) hF188 (by decide)
                            refine to_n 2 (fr' := (237, [(0, .ref 49), (1, .int (ar29 67 q)), (2, .int 1)], [.int (ar29 67 q), .ref 49], gh S a b (upd (upd (upd (upd sc29 4939 (nI q)) 4938 0) 4935 (nI (q + 1))) 4937 3) ar29 lo, ex, 0, 0)) rfl ?_
                            refine to_putR (h' := gh S a b (upd (upd (upd (upd (upd sc29 4939 (nI q)) 4938 0) 4935 (nI (q + 1))) 4937 3) 4938 (ar29 67 q)) ar29 lo) rfl rfl rfl (Nat.le_of_ble_eq_true rfl) rfl rfl ?_
                            have hI203 := ip_4938 (v := (ar29 67 q)) hI202 
                            have hF203 := fr_s (k := 4938) (v := (ar29 67 q)) hF202 (by decide)
                            refine to_lv (lv := [(0, .ref 49)]) rfl ⟨rfl, trivial⟩ ?_
                            exact c240 q (q + 1) (upd (upd (upd (upd (upd sc29 4939 (nI q)) 4938 0) 4935 (nI (q + 1))) 4937 3) 4938 (ar29 67 q)) ar29 (rfl) (rfl) (hc0_1) (by omega) (by omega) (by omega) (fun _ => by omega) hI203 hF203
                          · refine to_n 2 (fr' := (201, [(0, .ref 49), (1, .int (ar29 67 q))], [.int 42, .int (ar29 67 q)], gh S a b (upd (upd (upd sc29 4939 (nI q)) 4938 0) 4935 (nI (q + 1))) ar29 lo, ex, 0, 0)) rfl ?_
                            refine to_ic_eq (t := 216) rfl (fun q204 => ?_) (fun q204 => ?_)
                            · refine to_n 8 (fr' := (232, [(0, .ref 49), (1, .int (ar29 67 q)), (2, .int 1)], [.int 3, .ref 49], gh S a b (upd (upd (upd sc29 4939 (nI q)) 4938 0) 4935 (nI (q + 1))) ar29 lo, ex, 0, 0)) rfl ?_
                              refine to_putR (h' := gh S a b (upd (upd (upd (upd sc29 4939 (nI q)) 4938 0) 4935 (nI (q + 1))) 4937 3) ar29 lo) rfl rfl rfl (Nat.le_of_ble_eq_true rfl) rfl rfl ?_
                              have hI205 := ip_4937 (v := 3) hI188 
                              have hF205 := fr_s (k := 4937) (v := 3) hF188 (by decide)
                              refine to_n 2 (fr' := (237, [(0, .ref 49), (1, .int (ar29 67 q)), (2, .int 1)], [.int (ar29 67 q), .ref 49], gh S a b (upd (upd (upd (upd sc29 4939 (nI q)) 4938 0) 4935 (nI (q + 1))) 4937 3) ar29 lo, ex, 0, 0)) rfl ?_
                              refine to_putR (h' := gh S a b (upd (upd (upd (upd (upd sc29 4939 (nI q)) 4938 0) 4935 (nI (q + 1))) 4937 3) 4938 (ar29 67 q)) ar29 lo) rfl rfl rfl (Nat.le_of_ble_eq_true rfl) rfl rfl ?_
                              have hI206 := ip_4938 (v := (ar29 67 q)) hI205 
                              have hF206 := fr_s (k := 4938) (v := (ar29 67 q)) hF205 (by decide)
                              refine to_lv (lv := [(0, .ref 49)]) rfl ⟨rfl, trivial⟩ ?_
                              exact c240 q (q + 1) (upd (upd (upd (upd (upd sc29 4939 (nI q)) 4938 0) 4935 (nI (q + 1))) 4937 3) 4938 (ar29 67 q)) ar29 (rfl) (rfl) (hc0_1) (by omega) (by omega) (by omega) (fun _ => by omega) hI206 hF206
                            · refine to_n 2 (fr' := (207, [(0, .ref 49), (1, .int (ar29 67 q))], [.int 60, .int (ar29 67 q)], gh S a b (upd (upd (upd sc29 4939 (nI q)) 4938 0) 4935 (nI (q + 1))) ar29 lo, ex, 0, 0)) rfl ?_
                              refine to_ic_eq (t := 216) rfl (fun q207 => ?_) (fun q207 => ?_)
                              · refine to_n 8 (fr' := (232, [(0, .ref 49), (1, .int (ar29 67 q)), (2, .int 1)], [.int 3, .ref 49], gh S a b (upd (upd (upd sc29 4939 (nI q)) 4938 0) 4935 (nI (q + 1))) ar29 lo, ex, 0, 0)) rfl ?_
                                refine to_putR (h' := gh S a b (upd (upd (upd (upd sc29 4939 (nI q)) 4938 0) 4935 (nI (q + 1))) 4937 3) ar29 lo) rfl rfl rfl (Nat.le_of_ble_eq_true rfl) rfl rfl ?_
                                have hI208 := ip_4937 (v := 3) hI188 
                                have hF208 := fr_s (k := 4937) (v := 3) hF188 (by decide)
                                refine to_n 2 (fr' := (237, [(0, .ref 49), (1, .int (ar29 67 q)), (2, .int 1)], [.int (ar29 67 q), .ref 49], gh S a b (upd (upd (upd (upd sc29 4939 (nI q)) 4938 0) 4935 (nI (q + 1))) 4937 3) ar29 lo, ex, 0, 0)) rfl ?_
                                refine to_putR (h' := gh S a b (upd (upd (upd (upd (upd sc29 4939 (nI q)) 4938 0) 4935 (nI (q + 1))) 4937 3) 4938 (ar29 67 q)) ar29 lo) rfl rfl rfl (Nat.le_of_ble_eq_true rfl) rfl rfl ?_
                                have hI209 := ip_4938 (v := (ar29 67 q)) hI208 
                                have hF209 := fr_s (k := 4938) (v := (ar29 67 q)) hF208 (by decide)
                                refine to_lv (lv := [(0, .ref 49)]) rfl ⟨rfl, trivial⟩ ?_
                                exact c240 q (q + 1) (upd (upd (upd (upd (upd sc29 4939 (nI q)) 4938 0) 4935 (nI (q + 1))) 4937 3) 4938 (ar29 67 q)) ar29 (rfl) (rfl) (hc0_1) (by omega) (by omega) (by omega) (fun _ => by omega) hI209 hF209
                              · refine to_n 2 (fr' := (213, [(0, .ref 49), (1, .int (ar29 67 q))], [.int 61, .int (ar29 67 q)], gh S a b (upd (upd (upd sc29 4939 (nI q)) 4938 0) 4935 (nI (q + 1))) ar29 lo, ex, 0, 0)) rfl ?_
                                refine to_ic_ne (t := 220) rfl (fun q210 => ?_) (fun q210 => ?_)
                                · refine to_n 6 (fr' := (232, [(0, .ref 49), (1, .int (ar29 67 q)), (2, .int 0)], [.int 4, .ref 49], gh S a b (upd (upd (upd sc29 4939 (nI q)) 4938 0) 4935 (nI (q + 1))) ar29 lo, ex, 0, 0)) rfl ?_
                                  refine to_putR (h' := gh S a b (upd (upd (upd (upd sc29 4939 (nI q)) 4938 0) 4935 (nI (q + 1))) 4937 4) ar29 lo) rfl rfl rfl (Nat.le_of_ble_eq_true rfl) rfl rfl ?_
                                  have hI211 := ip_4937 (v := 4) hI188 
                                  have hF211 := fr_s (k := 4937) (v := 4) hF188 (by decide)
                                  refine to_n 2 (fr' := (237, [(0, .ref 49), (1, .int (ar29 67 q)), (2, .int 0)], [.int (ar29 67 q), .ref 49], gh S a b (upd (upd (upd (upd sc29 4939 (nI q)) 4938 0) 4935 (nI (q + 1))) 4937 4) ar29 lo, ex, 0, 0)) rfl ?_
                                  refine to_putR (h' := gh S a b (upd (upd (upd (upd (upd sc29 4939 (nI q)) 4938 0) 4935 (nI (q + 1))) 4937 4) 4938 (ar29 67 q)) ar29 lo) rfl rfl rfl (Nat.le_of_ble_eq_true rfl) rfl rfl ?_
                                  have hI212 := ip_4938 (v := (ar29 67 q)) hI211 
                                  have hF212 := fr_s (k := 4938) (v := (ar29 67 q)) hF211 (by decide)
                                  refine to_lv (lv := [(0, .ref 49)]) rfl ⟨rfl, trivial⟩ ?_
                                  exact c240 q (q + 1) (upd (upd (upd (upd (upd sc29 4939 (nI q)) 4938 0) 4935 (nI (q + 1))) 4937 4) 4938 (ar29 67 q)) ar29 (rfl) (rfl) (hc0_1) (by omega) (by omega) (by omega) (fun _ => by omega) hI212 hF212
                                · refine to_n 8 (fr' := (232, [(0, .ref 49), (1, .int (ar29 67 q)), (2, .int 1)], [.int 3, .ref 49], gh S a b (upd (upd (upd sc29 4939 (nI q)) 4938 0) 4935 (nI (q + 1))) ar29 lo, ex, 0, 0)) rfl ?_
                                  refine to_putR (h' := gh S a b (upd (upd (upd (upd sc29 4939 (nI q)) 4938 0) 4935 (nI (q + 1))) 4937 3) ar29 lo) rfl rfl rfl (Nat.le_of_ble_eq_true rfl) rfl rfl ?_
                                  have hI213 := ip_4937 (v := 3) hI188 
                                  have hF213 := fr_s (k := 4937) (v := 3) hF188 (by decide)
                                  refine to_n 2 (fr' := (237, [(0, .ref 49), (1, .int (ar29 67 q)), (2, .int 1)], [.int (ar29 67 q), .ref 49], gh S a b (upd (upd (upd (upd sc29 4939 (nI q)) 4938 0) 4935 (nI (q + 1))) 4937 3) ar29 lo, ex, 0, 0)) rfl ?_
                                  refine to_putR (h' := gh S a b (upd (upd (upd (upd (upd sc29 4939 (nI q)) 4938 0) 4935 (nI (q + 1))) 4937 3) 4938 (ar29 67 q)) ar29 lo) rfl rfl rfl (Nat.le_of_ble_eq_true rfl) rfl rfl ?_
                                  have hI214 := ip_4938 (v := (ar29 67 q)) hI213 
                                  have hF214 := fr_s (k := 4938) (v := (ar29 67 q)) hF213 (by decide)
                                  refine to_lv (lv := [(0, .ref 49)]) rfl ⟨rfl, trivial⟩ ?_
                                  exact c240 q (q + 1) (upd (upd (upd (upd (upd sc29 4939 (nI q)) 4938 0) 4935 (nI (q + 1))) 4937 3) 4938 (ar29 67 q)) ar29 (rfl) (rfl) (hc0_1) (by omega) (by omega) (by omega) (fun _ => by omega) hI214 hF214
            · refine to_n 2 (fr' := (68, [(0, .ref 49), (1, .int (ar29 67 q))], [.int 0, .ref 49], gh S a b (upd (upd sc29 4939 (nI q)) 4938 0) ar29 lo, ex, 0, 0)) rfl ?_
              refine to_putR (h' := gh S a b (upd (upd (upd sc29 4939 (nI q)) 4938 0) 4937 0) ar29 lo) rfl rfl rfl (Nat.le_of_ble_eq_true rfl) rfl rfl ?_
              have hI215 := ip_4937 (v := 0) hI182 
              have hF215 := fr_s (k := 4937) (v := 0) hF182 (by decide)
              refine to_n 1 (fr' := (240, [(0, .ref 49), (1, .int (ar29 67 q))], [], gh S a b (upd (upd (upd sc29 4939 (nI q)) 4938 0) 4937 0) ar29 lo, ex, 0, 0)) rfl ?_
              refine to_lv (lv := [(0, .ref 49)]) rfl ⟨rfl, trivial⟩ ?_
              exact c240 q q (upd (upd (upd sc29 4939 (nI q)) 4938 0) 4937 0) ar29 (rfl) (hc0_0) (hc0_1) (by omega) (by omega) (by omega) (fun w => absurd rfl w) hI215 hF215
        · refine to_eq (fr' := (21, [(0, .ref 49)], [.int (ar29 67 q)], gh S a b sc29 ar29 lo, ex, 0, 0)) rfl ?_
          refine to_n 1 (fr' := (23, [(0, .ref 49)], [.int 10, .int (ar29 67 q)], gh S a b sc29 ar29 lo, ex, 0, 0)) rfl ?_
          refine to_ic_ne (t := 39) rfl (fun q216 => ?_) (fun q216 => ?_)
          · refine to_n 2 (fr' := (41, [(0, .ref 49)], [.ref 49, .ref 49], gh S a b sc29 ar29 lo, ex, 0, 0)) rfl ?_
            refine to_getR (v := (nI q)) rfl rfl rfl rfl hc0_0 ?_
            refine to_putR (h' := gh S a b (upd sc29 4939 (nI q)) ar29 lo) rfl rfl rfl (Nat.le_of_ble_eq_true rfl) rfl rfl ?_
            have hI217 := ip_4939 (v := (nI q)) hI29 (rl_n (n := q) (by omega))
            have hF217 := fr_s (k := 4939) (v := (nI q)) hF29 (by decide)
            refine to_n 2 (fr' := (49, [(0, .ref 49)], [.int 0, .ref 49], gh S a b (upd sc29 4939 (nI q)) ar29 lo, ex, 0, 0)) rfl ?_
            refine to_putR (h' := gh S a b (upd (upd sc29 4939 (nI q)) 4938 0) ar29 lo) rfl rfl rfl (Nat.le_of_ble_eq_true rfl) rfl rfl ?_
            have hI218 := ip_4938 (v := 0) hI217 
            have hF218 := fr_s (k := 4938) (v := 0) hF217 (by decide)
            refine to_n 2 (fr' := (54, [(0, .ref 49)], [.ref 49, .ref 49], gh S a b (upd (upd sc29 4939 (nI q)) 4938 0) ar29 lo, ex, 0, 0)) rfl ?_
            refine to_getR (v := (nI q)) rfl rfl rfl rfl hc0_0 ?_
            refine to_cp (q := 119) (M1 := an_X10_byteAt) (rest := []) rfl rfl (by decide) rfl ⟨_, rfl⟩ (sf_byteAt hW hI218 q (by omega) r (by omega) hc0_1 d) (fun x219 hx219 => ?_)
            rcases hx219 with ⟨rfl, w219⟩ | ⟨w219, rfl⟩
            · refine to_eq (fr' := (60, [(0, .ref 49)], [.int (-1)], gh S a b (upd (upd sc29 4939 (nI q)) 4938 0) ar29 lo, ex, 0, 0)) rfl ?_
              refine to_n 6 (fr' := (68, [(0, .ref 49), (1, .int (-1))], [.int 0, .ref 49], gh S a b (upd (upd sc29 4939 (nI q)) 4938 0) ar29 lo, ex, 0, 0)) rfl ?_
              refine to_putR (h' := gh S a b (upd (upd (upd sc29 4939 (nI q)) 4938 0) 4937 0) ar29 lo) rfl rfl rfl (Nat.le_of_ble_eq_true rfl) rfl rfl ?_
              have hI220 := ip_4937 (v := 0) hI218 
              have hF220 := fr_s (k := 4937) (v := 0) hF218 (by decide)
              refine to_n 1 (fr' := (240, [(0, .ref 49), (1, .int (-1))], [], gh S a b (upd (upd (upd sc29 4939 (nI q)) 4938 0) 4937 0) ar29 lo, ex, 0, 0)) rfl ?_
              refine to_lv (lv := [(0, .ref 49)]) rfl ⟨rfl, trivial⟩ ?_
              exact c240 q q (upd (upd (upd sc29 4939 (nI q)) 4938 0) 4937 0) ar29 (rfl) (hc0_0) (hc0_1) (by omega) (by omega) (by omega) (fun w => absurd rfl w) hI220 hF220
            · refine to_eq (fr' := (60, [(0, .ref 49)], [.int (ar29 67 q)], gh S a b (upd (upd sc29 4939 (nI q)) 4938 0) ar29 lo, ex, 0, 0)) rfl ?_
              refine to_n 3 (fr' := (63, [(0, .ref 49), (1, .int (ar29 67 q))], [.int (-1), .int (ar29 67 q)], gh S a b (upd (upd sc29 4939 (nI q)) 4938 0) ar29 lo, ex, 0, 0)) rfl ?_
              refine to_ic_ne (t := 74) rfl (fun q221 => ?_) (fun q221 => ?_)
              · refine to_n 1 (fr' := (75, [(0, .ref 49), (1, .int (ar29 67 q))], [.int (ar29 67 q)], gh S a b (upd (upd sc29 4939 (nI q)) 4938 0) ar29 lo, ex, 0, 0)) rfl ?_
                refine to_cp (q := 120) (M1 := an_X10_isLetter) (rest := []) rfl rfl (by decide) rfl trivial (sf_isLetter hW hI218 (ar29 67 q) d) (fun x222 hx222 => ?_)
                rcases hx222 with ⟨rfl, w222⟩ | ⟨rfl, w222⟩
                · refine to_eq (fr' := (78, [(0, .ref 49), (1, .int (ar29 67 q))], [.int 1], gh S a b (upd (upd sc29 4939 (nI q)) 4938 0) ar29 lo, ex, 0, 0)) rfl ?_
                  refine to_n 1 (fr' := (81, [(0, .ref 49), (1, .int (ar29 67 q))], [], gh S a b (upd (upd sc29 4939 (nI q)) 4938 0) ar29 lo, ex, 0, 0)) rfl ?_
                  exact c81 (r - q) (ar29 67 q) q q (upd (upd sc29 4939 (nI q)) 4938 0) ar29 (by omega) (rfl) (hc0_0) (hc0_1) (by omega) (by omega) (by omega) (fun _ => w222) hI218 hF218
                · refine to_eq (fr' := (78, [(0, .ref 49), (1, .int (ar29 67 q))], [.int 0], gh S a b (upd (upd sc29 4939 (nI q)) 4938 0) ar29 lo, ex, 0, 0)) rfl ?_
                  refine to_n 2 (fr' := (117, [(0, .ref 49), (1, .int (ar29 67 q))], [.int (ar29 67 q)], gh S a b (upd (upd sc29 4939 (nI q)) 4938 0) ar29 lo, ex, 0, 0)) rfl ?_
                  refine to_cp (q := 121) (M1 := an_X10_isDigit) (rest := []) rfl rfl (by decide) rfl trivial (sf_isDigit hW hI218 (ar29 67 q) d) (fun x223 hx223 => ?_)
                  rcases hx223 with ⟨rfl, w223⟩ | ⟨rfl, w223⟩
                  · refine to_eq (fr' := (120, [(0, .ref 49), (1, .int (ar29 67 q))], [.int 1], gh S a b (upd (upd sc29 4939 (nI q)) 4938 0) ar29 lo, ex, 0, 0)) rfl ?_
                    refine to_n 1 (fr' := (123, [(0, .ref 49), (1, .int (ar29 67 q))], [], gh S a b (upd (upd sc29 4939 (nI q)) 4938 0) ar29 lo, ex, 0, 0)) rfl ?_
                    exact c123 (r - q) (ar29 67 q) q q (upd (upd sc29 4939 (nI q)) 4938 0) ar29 (by omega) (rfl) (hc0_0) (hc0_1) (by omega) (by omega) (by omega) (fun _ => w223) hI218 hF218
                  · refine to_eq (fr' := (120, [(0, .ref 49), (1, .int (ar29 67 q))], [.int 0], gh S a b (upd (upd sc29 4939 (nI q)) 4938 0) ar29 lo, ex, 0, 0)) rfl ?_
                    refine to_n 3 (fr' := (160, [(0, .ref 49), (1, .int (ar29 67 q))], [.ref 49, .ref 49], gh S a b (upd (upd sc29 4939 (nI q)) 4938 0) ar29 lo, ex, 0, 0)) rfl ?_
                    refine to_getR (v := (nI q)) rfl rfl rfl rfl hc0_0 ?_
                    refine to_n 1 (fr' := (164, [(0, .ref 49), (1, .int (ar29 67 q))], [.int 1, .int (nI q), .ref 49], gh S a b (upd (upd sc29 4939 (nI q)) 4938 0) ar29 lo, ex, 0, 0)) rfl ?_
                    refine to_addN (x := q) (y := 1) rfl ?_
                    refine to_putR (h' := gh S a b (upd (upd (upd sc29 4939 (nI q)) 4938 0) 4935 (nI (q + 1))) ar29 lo) rfl rfl rfl (Nat.le_of_ble_eq_true rfl) rfl rfl ?_
                    have hI224 := ip_4935 (v := (nI (q + 1))) hI218 (rl_n (n := (q + 1)) (by omega))
                    have hF224 := fr_s (k := 4935) (v := (nI (q + 1))) hF218 (by decide)
                    refine to_n 2 (fr' := (171, [(0, .ref 49), (1, .int (ar29 67 q))], [.int 40, .int (ar29 67 q)], gh S a b (upd (upd (upd sc29 4939 (nI q)) 4938 0) 4935 (nI (q + 1))) ar29 lo, ex, 0, 0)) rfl ?_
                    refine to_ic_eq (t := 216) rfl (fun q225 => ?_) (fun q225 => ?_)
                    · refine to_n 8 (fr' := (232, [(0, .ref 49), (1, .int (ar29 67 q)), (2, .int 1)], [.int 3, .ref 49], gh S a b (upd (upd (upd sc29 4939 (nI q)) 4938 0) 4935 (nI (q + 1))) ar29 lo, ex, 0, 0)) rfl ?_
                      refine to_putR (h' := gh S a b (upd (upd (upd (upd sc29 4939 (nI q)) 4938 0) 4935 (nI (q + 1))) 4937 3) ar29 lo) rfl rfl rfl (Nat.le_of_ble_eq_true rfl) rfl rfl ?_
                      have hI226 := ip_4937 (v := 3) hI224 
                      have hF226 := fr_s (k := 4937) (v := 3) hF224 (by decide)
                      refine to_n 2 (fr' := (237, [(0, .ref 49), (1, .int (ar29 67 q)), (2, .int 1)], [.int (ar29 67 q), .ref 49], gh S a b (upd (upd (upd (upd sc29 4939 (nI q)) 4938 0) 4935 (nI (q + 1))) 4937 3) ar29 lo, ex, 0, 0)) rfl ?_
                      refine to_putR (h' := gh S a b (upd (upd (upd (upd (upd sc29 4939 (nI q)) 4938 0) 4935 (nI (q + 1))) 4937 3) 4938 (ar29 67 q)) ar29 lo) rfl rfl rfl (Nat.le_of_ble_eq_true rfl) rfl rfl ?_
                      have hI227 := ip_4938 (v := (ar29 67 q)) hI226 
                      have hF227 := fr_s (k := 4938) (v := (ar29 67 q)) hF226 (by decide)
                      refine to_lv (lv := [(0, .ref 49)]) rfl ⟨rfl, trivial⟩ ?_
                      exact c240 q (q + 1) (upd (upd (upd (upd (upd sc29 4939 (nI q)) 4938 0) 4935 (nI (q + 1))) 4937 3) 4938 (ar29 67 q)) ar29 (rfl) (rfl) (hc0_1) (by omega) (by omega) (by omega) (fun _ => by omega) hI227 hF227
                    · refine to_n 2 (fr' := (177, [(0, .ref 49), (1, .int (ar29 67 q))], [.int 41, .int (ar29 67 q)], gh S a b (upd (upd (upd sc29 4939 (nI q)) 4938 0) 4935 (nI (q + 1))) ar29 lo, ex, 0, 0)) rfl ?_
                      refine to_ic_eq (t := 216) rfl (fun q228 => ?_) (fun q228 => ?_)
                      · refine to_n 8 (fr' := (232, [(0, .ref 49), (1, .int (ar29 67 q)), (2, .int 1)], [.int 3, .ref 49], gh S a b (upd (upd (upd sc29 4939 (nI q)) 4938 0) 4935 (nI (q + 1))) ar29 lo, ex, 0, 0)) rfl ?_
                        refine to_putR (h' := gh S a b (upd (upd (upd (upd sc29 4939 (nI q)) 4938 0) 4935 (nI (q + 1))) 4937 3) ar29 lo) rfl rfl rfl (Nat.le_of_ble_eq_true rfl) rfl rfl ?_
                        have hI229 := ip_4937 (v := 3) hI224 
                        have hF229 := fr_s (k := 4937) (v := 3) hF224 (by decide)
                        refine to_n 2 (fr' := (237, [(0, .ref 49), (1, .int (ar29 67 q)), (2, .int 1)], [.int (ar29 67 q), .ref 49], gh S a b (upd (upd (upd (upd sc29 4939 (nI q)) 4938 0) 4935 (nI (q + 1))) 4937 3) ar29 lo, ex, 0, 0)) rfl ?_
                        refine to_putR (h' := gh S a b (upd (upd (upd (upd (upd sc29 4939 (nI q)) 4938 0) 4935 (nI (q + 1))) 4937 3) 4938 (ar29 67 q)) ar29 lo) rfl rfl rfl (Nat.le_of_ble_eq_true rfl) rfl rfl ?_
                        have hI230 := ip_4938 (v := (ar29 67 q)) hI229 
                        have hF230 := fr_s (k := 4938) (v := (ar29 67 q)) hF229 (by decide)
                        refine to_lv (lv := [(0, .ref 49)]) rfl ⟨rfl, trivial⟩ ?_
                        exact c240 q (q + 1) (upd (upd (upd (upd (upd sc29 4939 (nI q)) 4938 0) 4935 (nI (q + 1))) 4937 3) 4938 (ar29 67 q)) ar29 (rfl) (rfl) (hc0_1) (by omega) (by omega) (by omega) (fun _ => by omega) hI230 hF230
                      · refine to_n 2 (fr' := (183, [(0, .ref 49), (1, .int (ar29 67 q))], [.int 59, .int (ar29 67 q)], gh S a b (upd (upd (upd sc29 4939 (nI q)) 4938 0) 4935 (nI (q + 1))) ar29 lo, ex, 0, 0)) rfl ?_
                        refine to_ic_eq (t := 216) rfl (fun q231 => ?_) (fun q231 => ?_)
                        · refine to_n 8 (fr' := (232, [(0, .ref 49), (1, .int (ar29 67 q)), (2, .int 1)], [.int 3, .ref 49], gh S a b (upd (upd (upd sc29 4939 (nI q)) 4938 0) 4935 (nI (q + 1))) ar29 lo, ex, 0, 0)) rfl ?_
                          refine to_putR (h' := gh S a b (upd (upd (upd (upd sc29 4939 (nI q)) 4938 0) 4935 (nI (q + 1))) 4937 3) ar29 lo) rfl rfl rfl (Nat.le_of_ble_eq_true rfl) rfl rfl ?_
                          have hI232 := ip_4937 (v := 3) hI224 
                          have hF232 := fr_s (k := 4937) (v := 3) hF224 (by decide)
                          refine to_n 2 (fr' := (237, [(0, .ref 49), (1, .int (ar29 67 q)), (2, .int 1)], [.int (ar29 67 q), .ref 49], gh S a b (upd (upd (upd (upd sc29 4939 (nI q)) 4938 0) 4935 (nI (q + 1))) 4937 3) ar29 lo, ex, 0, 0)) rfl ?_
                          refine to_putR (h' := gh S a b (upd (upd (upd (upd (upd sc29 4939 (nI q)) 4938 0) 4935 (nI (q + 1))) 4937 3) 4938 (ar29 67 q)) ar29 lo) rfl rfl rfl (Nat.le_of_ble_eq_true rfl) rfl rfl ?_
                          have hI233 := ip_4938 (v := (ar29 67 q)) hI232 
                          have hF233 := fr_s (k := 4938) (v := (ar29 67 q)) hF232 (by decide)
                          refine to_lv (lv := [(0, .ref 49)]) rfl ⟨rfl, trivial⟩ ?_
                          exact c240 q (q + 1) (upd (upd (upd (upd (upd sc29 4939 (nI q)) 4938 0) 4935 (nI (q + 1))) 4937 3) 4938 (ar29 67 q)) ar29 (rfl) (rfl) (hc0_1) (by omega) (by omega) (by omega) (fun _ => by omega) hI233 hF233
                        · refine to_n 2 (fr' := (189, [(0, .ref 49), (1, .int (ar29 67 q))], [.int 43, .int (ar29 67 q)], gh S a b (upd (upd (upd sc29 4939 (nI q)) 4938 0) 4935 (nI (q + 1))) ar29 lo, ex, 0, 0)) rfl ?_
                          refine to_ic_eq (t := 216) rfl (fun q234 => ?_) (fun q234 => ?_)
                          · refine to_n 8 (fr' := (232, [(0, .ref 49), (1, .int (ar29 67 q)), (2, .int 1)], [.int 3, .ref 49], gh S a b (upd (upd (upd sc29 4939 (nI q)) 4938 0) 4935 (nI (q + 1))) ar29 lo, ex, 0, 0)) rfl ?_
                            refine to_putR (h' := gh S a b (upd (upd (upd (upd sc29 4939 (nI q)) 4938 0) 4935 (nI (q + 1))) 4937 3) ar29 lo) rfl rfl rfl (Nat.le_of_ble_eq_true rfl) rfl rfl ?_
                            have hI235 := ip_4937 (v := 3) hI224 
                            have hF235 := fr_s (k := 4937) (v := 3) hF224 (by decide)
                            refine to_n 2 (fr' := (237, [(0, .ref 49), (1, .int (ar29 67 q)), (2, .int 1)], [.int (ar29 67 q), .ref 49], gh S a b (upd (upd (upd (upd sc29 4939 (nI q)) 4938 0) 4935 (nI (q + 1))) 4937 3) ar29 lo, ex, 0, 0)) rfl ?_
                            refine to_putR (h' := gh S a b (upd (upd (upd (upd (upd sc29 4939 (nI q)) 4938 0) 4935 (nI (q + 1))) 4937 3) 4938 (ar29 67 q)) ar29 lo) rfl rfl rfl (Nat.le_of_ble_eq_true rfl) rfl rfl ?_
                            have hI236 := ip_4938 (v := (ar29 67 q)) hI235 
                            have hF236 := fr_s (k := 4938) (v := (ar29 67 q)) hF235 (by decide)
                            refine to_lv (lv := [(0, .ref 49)]) rfl ⟨rfl, trivial⟩ ?_
                            exact c240 q (q + 1) (upd (upd (upd (upd (upd sc29 4939 (nI q)) 4938 0) 4935 (nI (q + 1))) 4937 3) 4938 (ar29 67 q)) ar29 (rfl) (rfl) (hc0_1) (by omega) (by omega) (by omega) (fun _ => by omega) hI236 hF236
                          · refine to_n 2 (fr' := (195, [(0, .ref 49), (1, .int (ar29 67 q))], [.int 45, .int (ar29 67 q)], gh S a b (upd (upd (upd sc29 4939 (nI q)) 4938 0) 4935 (nI (q + 1))) ar29 lo, ex, 0, 0)) rfl ?_
                            refine to_ic_eq (t := 216) rfl (fun q237 => ?_) (fun q237 => ?_)
                            · refine to_n 8 (fr' := (232, [(0, .ref 49), (1, .int (ar29 67 q)), (2, .int 1)], [.int 3, .ref 49], gh S a b (upd (upd (upd sc29 4939 (nI q)) 4938 0) 4935 (nI (q + 1))) ar29 lo, ex, 0, 0)) rfl ?_
                              refine to_putR (h' := gh S a b (upd (upd (upd (upd sc29 4939 (nI q)) 4938 0) 4935 (nI (q + 1))) 4937 3) ar29 lo) rfl rfl rfl (Nat.le_of_ble_eq_true rfl) rfl rfl ?_
                              have hI238 := ip_4937 (v := 3) hI224 
                              have hF238 := fr_s (k := 4937) (v := 3) hF224 (by decide)
                              refine to_n 2 (fr' := (237, [(0, .ref 49), (1, .int (ar29 67 q)), (2, .int 1)], [.int (ar29 67 q), .ref 49], gh S a b (upd (upd (upd (upd sc29 4939 (nI q)) 4938 0) 4935 (nI (q + 1))) 4937 3) ar29 lo, ex, 0, 0)) rfl ?_
                              refine to_putR (h' := gh S a b (upd (upd (upd (upd (upd sc29 4939 (nI q)) 4938 0) 4935 (nI (q + 1))) 4937 3) 4938 (ar29 67 q)) ar29 lo) rfl rfl rfl (Nat.le_of_ble_eq_true rfl) rfl rfl ?_
                              have hI239 := ip_4938 (v := (ar29 67 q)) hI238 
                              have hF239 := fr_s (k := 4938) (v := (ar29 67 q)) hF238 (by decide)
                              refine to_lv (lv := [(0, .ref 49)]) rfl ⟨rfl, trivial⟩ ?_
                              exact c240 q (q + 1) (upd (upd (upd (upd (upd sc29 4939 (nI q)) 4938 0) 4935 (nI (q + 1))) 4937 3) 4938 (ar29 67 q)) ar29 (rfl) (rfl) (hc0_1) (by omega) (by omega) (by omega) (fun _ => by omega) hI239 hF239
                            · refine to_n 2 (fr' := (201, [(0, .ref 49), (1, .int (ar29 67 q))], [.int 42, .int (ar29 67 q)], gh S a b (upd (upd (upd sc29 4939 (nI q)) 4938 0) 4935 (nI (q + 1))) ar29 lo, ex, 0, 0)) rfl ?_
                              refine to_ic_eq (t := 216) rfl (fun q240 => ?_) (fun q240 => ?_)
                              · refine to_n 8 (fr' := (232, [(0, .ref 49), (1, .int (ar29 67 q)), (2, .int 1)], [.int 3, .ref 49], gh S a b (upd (upd (upd sc29 4939 (nI q)) 4938 0) 4935 (nI (q + 1))) ar29 lo, ex, 0, 0)) rfl ?_
                                refine to_putR (h' := gh S a b (upd (upd (upd (upd sc29 4939 (nI q)) 4938 0) 4935 (nI (q + 1))) 4937 3) ar29 lo) rfl rfl rfl (Nat.le_of_ble_eq_true rfl) rfl rfl ?_
                                have hI241 := ip_4937 (v := 3) hI224 
                                have hF241 := fr_s (k := 4937) (v := 3) hF224 (by decide)
                                refine to_n 2 (fr' := (237, [(0, .ref 49), (1, .int (ar29 67 q)), (2, .int 1)], [.int (ar29 67 q), .ref 49], gh S a b (upd (upd (upd (upd sc29 4939 (nI q)) 4938 0) 4935 (nI (q + 1))) 4937 3) ar29 lo, ex, 0, 0)) rfl ?_
                                refine to_putR (h' := gh S a b (upd (upd (upd (upd (upd sc29 4939 (nI q)) 4938 0) 4935 (nI (q + 1))) 4937 3) 4938 (ar29 67 q)) ar29 lo) rfl rfl rfl (Nat.le_of_ble_eq_true rfl) rfl rfl ?_
                                have hI242 := ip_4938 (v := (ar29 67 q)) hI241 
                                have hF242 := fr_s (k := 4938) (v := (ar29 67 q)) hF241 (by decide)
                                refine to_lv (lv := [(0, .ref 49)]) rfl ⟨rfl, trivial⟩ ?_
                                exact c240 q (q + 1) (upd (upd (upd (upd (upd sc29 4939 (nI q)) 4938 0) 4935 (nI (q + 1))) 4937 3) 4938 (ar29 67 q)) ar29 (rfl) (rfl) (hc0_1) (by omega) (by omega) (by omega) (fun _ => by omega) hI242 hF242
                              · refine to_n 2 (fr' := (207, [(0, .ref 49), (1, .int (ar29 67 q))], [.int 60, .int (ar29 67 q)], gh S a b (upd (upd (upd sc29 4939 (nI q)) 4938 0) 4935 (nI (q + 1))) ar29 lo, ex, 0, 0)) rfl ?_
                                refine to_ic_eq (t := 216) rfl (fun q243 => ?_) (fun q243 => ?_)
                                · refine to_n 8 (fr' := (232, [(0, .ref 49), (1, .int (ar29 67 q)), (2, .int 1)], [.int 3, .ref 49], gh S a b (upd (upd (upd sc29 4939 (nI q)) 4938 0) 4935 (nI (q + 1))) ar29 lo, ex, 0, 0)) rfl ?_
                                  refine to_putR (h' := gh S a b (upd (upd (upd (upd sc29 4939 (nI q)) 4938 0) 4935 (nI (q + 1))) 4937 3) ar29 lo) rfl rfl rfl (Nat.le_of_ble_eq_true rfl) rfl rfl ?_
                                  have hI244 := ip_4937 (v := 3) hI224 
                                  have hF244 := fr_s (k := 4937) (v := 3) hF224 (by decide)
                                  refine to_n 2 (fr' := (237, [(0, .ref 49), (1, .int (ar29 67 q)), (2, .int 1)], [.int (ar29 67 q), .ref 49], gh S a b (upd (upd (upd (upd sc29 4939 (nI q)) 4938 0) 4935 (nI (q + 1))) 4937 3) ar29 lo, ex, 0, 0)) rfl ?_
                                  refine to_putR (h' := gh S a b (upd (upd (upd (upd (upd sc29 4939 (nI q)) 4938 0) 4935 (nI (q + 1))) 4937 3) 4938 (ar29 67 q)) ar29 lo) rfl rfl rfl (Nat.le_of_ble_eq_true rfl) rfl rfl ?_
                                  have hI245 := ip_4938 (v := (ar29 67 q)) hI244 
                                  have hF245 := fr_s (k := 4938) (v := (ar29 67 q)) hF244 (by decide)
                                  refine to_lv (lv := [(0, .ref 49)]) rfl ⟨rfl, trivial⟩ ?_
                                  exact c240 q (q + 1) (upd (upd (upd (upd (upd sc29 4939 (nI q)) 4938 0) 4935 (nI (q + 1))) 4937 3) 4938 (ar29 67 q)) ar29 (rfl) (rfl) (hc0_1) (by omega) (by omega) (by omega) (fun _ => by omega) hI245 hF245
                                · refine to_n 2 (fr' := (213, [(0, .ref 49), (1, .int (ar29 67 q))], [.int 61, .int (ar29 67 q)], gh S a b (upd (upd (upd sc29 4939 (nI q)) 4938 0) 4935 (nI (q + 1))) ar29 lo, ex, 0, 0)) rfl ?_
                                  refine to_ic_ne (t := 220) rfl (fun q246 => ?_) (fun q246 => ?_)
                                  · refine to_n 6 (fr' := (232, [(0, .ref 49), (1, .int (ar29 67 q)), (2, .int 0)], [.int 4, .ref 49], gh S a b (upd (upd (upd sc29 4939 (nI q)) 4938 0) 4935 (nI (q + 1))) ar29 lo, ex, 0, 0)) rfl ?_
                                    refine to_putR (h' := gh S a b (upd (upd (upd (upd sc29 4939 (nI q)) 4938 0) 4935 (nI (q + 1))) 4937 4) ar29 lo) rfl rfl rfl (Nat.le_of_ble_eq_true rfl) rfl rfl ?_
                                    have hI247 := ip_4937 (v := 4) hI224 
                                    have hF247 := fr_s (k := 4937) (v := 4) hF224 (by decide)
                                    refine to_n 2 (fr' := (237, [(0, .ref 49), (1, .int (ar29 67 q)), (2, .int 0)], [.int (ar29 67 q), .ref 49], gh S a b (upd (upd (upd (upd sc29 4939 (nI q)) 4938 0) 4935 (nI (q + 1))) 4937 4) ar29 lo, ex, 0, 0)) rfl ?_
                                    refine to_putR (h' := gh S a b (upd (upd (upd (upd (upd sc29 4939 (nI q)) 4938 0) 4935 (nI (q + 1))) 4937 4) 4938 (ar29 67 q)) ar29 lo) rfl rfl rfl (Nat.le_of_ble_eq_true rfl) rfl rfl ?_
                                    have hI248 := ip_4938 (v := (ar29 67 q)) hI247 
                                    have hF248 := fr_s (k := 4938) (v := (ar29 67 q)) hF247 (by decide)
                                    refine to_lv (lv := [(0, .ref 49)]) rfl ⟨rfl, trivial⟩ ?_
                                    exact c240 q (q + 1) (upd (upd (upd (upd (upd sc29 4939 (nI q)) 4938 0) 4935 (nI (q + 1))) 4937 4) 4938 (ar29 67 q)) ar29 (rfl) (rfl) (hc0_1) (by omega) (by omega) (by omega) (fun _ => by omega) hI248 hF248
                                  · refine to_n 8 (fr' := (232, [(0, .ref 49), (1, .int (ar29 67 q)), (2, .int 1)], [.int 3, .ref 49], gh S a b (upd (upd (upd sc29 4939 (nI q)) 4938 0) 4935 (nI (q + 1))) ar29 lo, ex, 0, 0)) rfl ?_
                                    refine to_putR (h' := gh S a b (upd (upd (upd (upd sc29 4939 (nI q)) 4938 0) 4935 (nI (q + 1))) 4937 3) ar29 lo) rfl rfl rfl (Nat.le_of_ble_eq_true rfl) rfl rfl ?_
                                    have hI249 := ip_4937 (v := 3) hI224 
                                    have hF249 := fr_s (k := 4937) (v := 3) hF224 (by decide)
                                    refine to_n 2 (fr' := (237, [(0, .ref 49), (1, .int (ar29 67 q)), (2, .int 1)], [.int (ar29 67 q), .ref 49], gh S a b (upd (upd (upd (upd sc29 4939 (nI q)) 4938 0) 4935 (nI (q + 1))) 4937 3) ar29 lo, ex, 0, 0)) rfl ?_
                                    refine to_putR (h' := gh S a b (upd (upd (upd (upd (upd sc29 4939 (nI q)) 4938 0) 4935 (nI (q + 1))) 4937 3) 4938 (ar29 67 q)) ar29 lo) rfl rfl rfl (Nat.le_of_ble_eq_true rfl) rfl rfl ?_
                                    have hI250 := ip_4938 (v := (ar29 67 q)) hI249 
                                    have hF250 := fr_s (k := 4938) (v := (ar29 67 q)) hF249 (by decide)
                                    refine to_lv (lv := [(0, .ref 49)]) rfl ⟨rfl, trivial⟩ ?_
                                    exact c240 q (q + 1) (upd (upd (upd (upd (upd sc29 4939 (nI q)) 4938 0) 4935 (nI (q + 1))) 4937 3) 4938 (ar29 67 q)) ar29 (rfl) (rfl) (hc0_1) (by omega) (by omega) (by omega) (fun _ => by omega) hI250 hF250
              · refine to_n 2 (fr' := (68, [(0, .ref 49), (1, .int (ar29 67 q))], [.int 0, .ref 49], gh S a b (upd (upd sc29 4939 (nI q)) 4938 0) ar29 lo, ex, 0, 0)) rfl ?_
                refine to_putR (h' := gh S a b (upd (upd (upd sc29 4939 (nI q)) 4938 0) 4937 0) ar29 lo) rfl rfl rfl (Nat.le_of_ble_eq_true rfl) rfl rfl ?_
                have hI251 := ip_4937 (v := 0) hI218 
                have hF251 := fr_s (k := 4937) (v := 0) hF218 (by decide)
                refine to_n 1 (fr' := (240, [(0, .ref 49), (1, .int (ar29 67 q))], [], gh S a b (upd (upd (upd sc29 4939 (nI q)) 4938 0) 4937 0) ar29 lo, ex, 0, 0)) rfl ?_
                refine to_lv (lv := [(0, .ref 49)]) rfl ⟨rfl, trivial⟩ ?_
                exact c240 q q (upd (upd (upd sc29 4939 (nI q)) 4938 0) 4937 0) ar29 (rfl) (hc0_0) (hc0_1) (by omega) (by omega) (by omega) (fun w => absurd rfl w) hI251 hF251
          · refine to_n 2 (fr' := (28, [(0, .ref 49)], [.ref 49, .ref 49], gh S a b sc29 ar29 lo, ex, 0, 0)) rfl ?_
            refine to_getR (v := (nI q)) rfl rfl rfl rfl hc0_0 ?_
            refine to_n 1 (fr' := (32, [(0, .ref 49)], [.int 1, .int (nI q), .ref 49], gh S a b sc29 ar29 lo, ex, 0, 0)) rfl ?_
            refine to_addN (x := q) (y := 1) rfl ?_
            refine to_putR (h' := gh S a b (upd sc29 4935 (nI (q + 1))) ar29 lo) rfl rfl rfl (Nat.le_of_ble_eq_true rfl) rfl rfl ?_
            have hI252 := ip_4935 (v := (nI (q + 1))) hI29 (rl_n (n := (q + 1)) (by omega))
            have hF252 := fr_s (k := 4935) (v := (nI (q + 1))) hF29 (by decide)
            refine to_n 1 (fr' := (0, [(0, .ref 49)], [], gh S a b (upd sc29 4935 (nI (q + 1))) ar29 lo, ex, 0, 0)) rfl ?_
            exact ih (q + 1) (upd sc29 4935 (nI (q + 1))) ar29 (by omega) (rfl) (hc0_1) (by omega) (by omega) hI252 hF252
      · refine to_eq (fr' := (8, [(0, .ref 49)], [.int (ar29 67 q)], gh S a b sc29 ar29 lo, ex, 0, 0)) rfl ?_
        refine to_n 1 (fr' := (10, [(0, .ref 49)], [.int 32, .int (ar29 67 q)], gh S a b sc29 ar29 lo, ex, 0, 0)) rfl ?_
        refine to_ic_eq (t := 26) rfl (fun q253 => ?_) (fun q253 => ?_)
        · refine to_n 2 (fr' := (28, [(0, .ref 49)], [.ref 49, .ref 49], gh S a b sc29 ar29 lo, ex, 0, 0)) rfl ?_
          refine to_getR (v := (nI q)) rfl rfl rfl rfl hc0_0 ?_
          refine to_n 1 (fr' := (32, [(0, .ref 49)], [.int 1, .int (nI q), .ref 49], gh S a b sc29 ar29 lo, ex, 0, 0)) rfl ?_
          refine to_addN (x := q) (y := 1) rfl ?_
          refine to_putR (h' := gh S a b (upd sc29 4935 (nI (q + 1))) ar29 lo) rfl rfl rfl (Nat.le_of_ble_eq_true rfl) rfl rfl ?_
          have hI254 := ip_4935 (v := (nI (q + 1))) hI29 (rl_n (n := (q + 1)) (by omega))
          have hF254 := fr_s (k := 4935) (v := (nI (q + 1))) hF29 (by decide)
          refine to_n 1 (fr' := (0, [(0, .ref 49)], [], gh S a b (upd sc29 4935 (nI (q + 1))) ar29 lo, ex, 0, 0)) rfl ?_
          exact ih (q + 1) (upd sc29 4935 (nI (q + 1))) ar29 (by omega) (rfl) (hc0_1) (by omega) (by omega) hI254 hF254
        · refine to_n 2 (fr' := (15, [(0, .ref 49)], [.ref 49, .ref 49], gh S a b sc29 ar29 lo, ex, 0, 0)) rfl ?_
          refine to_getR (v := (nI q)) rfl rfl rfl rfl hc0_0 ?_
          refine to_cp (q := 119) (M1 := an_X10_byteAt) (rest := []) rfl rfl (by decide) rfl ⟨_, rfl⟩ (sf_byteAt hW hI29 q (by omega) r (by omega) hc0_1 d) (fun x255 hx255 => ?_)
          rcases hx255 with ⟨rfl, w255⟩ | ⟨w255, rfl⟩
          · refine to_eq (fr' := (21, [(0, .ref 49)], [.int (-1)], gh S a b sc29 ar29 lo, ex, 0, 0)) rfl ?_
            refine to_n 4 (fr' := (41, [(0, .ref 49)], [.ref 49, .ref 49], gh S a b sc29 ar29 lo, ex, 0, 0)) rfl ?_
            refine to_getR (v := (nI q)) rfl rfl rfl rfl hc0_0 ?_
            refine to_putR (h' := gh S a b (upd sc29 4939 (nI q)) ar29 lo) rfl rfl rfl (Nat.le_of_ble_eq_true rfl) rfl rfl ?_
            have hI256 := ip_4939 (v := (nI q)) hI29 (rl_n (n := q) (by omega))
            have hF256 := fr_s (k := 4939) (v := (nI q)) hF29 (by decide)
            refine to_n 2 (fr' := (49, [(0, .ref 49)], [.int 0, .ref 49], gh S a b (upd sc29 4939 (nI q)) ar29 lo, ex, 0, 0)) rfl ?_
            refine to_putR (h' := gh S a b (upd (upd sc29 4939 (nI q)) 4938 0) ar29 lo) rfl rfl rfl (Nat.le_of_ble_eq_true rfl) rfl rfl ?_
            have hI257 := ip_4938 (v := 0) hI256 
            have hF257 := fr_s (k := 4938) (v := 0) hF256 (by decide)
            refine to_n 2 (fr' := (54, [(0, .ref 49)], [.ref 49, .ref 49], gh S a b (upd (upd sc29 4939 (nI q)) 4938 0) ar29 lo, ex, 0, 0)) rfl ?_
            refine to_getR (v := (nI q)) rfl rfl rfl rfl hc0_0 ?_
            refine to_cp (q := 119) (M1 := an_X10_byteAt) (rest := []) rfl rfl (by decide) rfl ⟨_, rfl⟩ (sf_byteAt hW hI257 q (by omega) r (by omega) hc0_1 d) (fun x258 hx258 => ?_)
            rcases hx258 with ⟨rfl, w258⟩ | ⟨w258, rfl⟩
            · refine to_eq (fr' := (60, [(0, .ref 49)], [.int (-1)], gh S a b (upd (upd sc29 4939 (nI q)) 4938 0) ar29 lo, ex, 0, 0)) rfl ?_
              refine to_n 6 (fr' := (68, [(0, .ref 49), (1, .int (-1))], [.int 0, .ref 49], gh S a b (upd (upd sc29 4939 (nI q)) 4938 0) ar29 lo, ex, 0, 0)) rfl ?_
              refine to_putR (h' := gh S a b (upd (upd (upd sc29 4939 (nI q)) 4938 0) 4937 0) ar29 lo) rfl rfl rfl (Nat.le_of_ble_eq_true rfl) rfl rfl ?_
              have hI259 := ip_4937 (v := 0) hI257 
              have hF259 := fr_s (k := 4937) (v := 0) hF257 (by decide)
              refine to_n 1 (fr' := (240, [(0, .ref 49), (1, .int (-1))], [], gh S a b (upd (upd (upd sc29 4939 (nI q)) 4938 0) 4937 0) ar29 lo, ex, 0, 0)) rfl ?_
              refine to_lv (lv := [(0, .ref 49)]) rfl ⟨rfl, trivial⟩ ?_
              exact c240 q q (upd (upd (upd sc29 4939 (nI q)) 4938 0) 4937 0) ar29 (rfl) (hc0_0) (hc0_1) (by omega) (by omega) (by omega) (fun w => absurd rfl w) hI259 hF259
            · refine to_eq (fr' := (60, [(0, .ref 49)], [.int (ar29 67 q)], gh S a b (upd (upd sc29 4939 (nI q)) 4938 0) ar29 lo, ex, 0, 0)) rfl ?_
              refine to_n 3 (fr' := (63, [(0, .ref 49), (1, .int (ar29 67 q))], [.int (-1), .int (ar29 67 q)], gh S a b (upd (upd sc29 4939 (nI q)) 4938 0) ar29 lo, ex, 0, 0)) rfl ?_
              refine to_ic_ne (t := 74) rfl (fun q260 => ?_) (fun q260 => ?_)
              · refine to_n 1 (fr' := (75, [(0, .ref 49), (1, .int (ar29 67 q))], [.int (ar29 67 q)], gh S a b (upd (upd sc29 4939 (nI q)) 4938 0) ar29 lo, ex, 0, 0)) rfl ?_
                refine to_cp (q := 120) (M1 := an_X10_isLetter) (rest := []) rfl rfl (by decide) rfl trivial (sf_isLetter hW hI257 (ar29 67 q) d) (fun x261 hx261 => ?_)
                rcases hx261 with ⟨rfl, w261⟩ | ⟨rfl, w261⟩
                · refine to_eq (fr' := (78, [(0, .ref 49), (1, .int (ar29 67 q))], [.int 1], gh S a b (upd (upd sc29 4939 (nI q)) 4938 0) ar29 lo, ex, 0, 0)) rfl ?_
                  refine to_n 1 (fr' := (81, [(0, .ref 49), (1, .int (ar29 67 q))], [], gh S a b (upd (upd sc29 4939 (nI q)) 4938 0) ar29 lo, ex, 0, 0)) rfl ?_
                  exact c81 (r - q) (ar29 67 q) q q (upd (upd sc29 4939 (nI q)) 4938 0) ar29 (by omega) (rfl) (hc0_0) (hc0_1) (by omega) (by omega) (by omega) (fun _ => w261) hI257 hF257
                · refine to_eq (fr' := (78, [(0, .ref 49), (1, .int (ar29 67 q))], [.int 0], gh S a b (upd (upd sc29 4939 (nI q)) 4938 0) ar29 lo, ex, 0, 0)) rfl ?_
                  refine to_n 2 (fr' := (117, [(0, .ref 49), (1, .int (ar29 67 q))], [.int (ar29 67 q)], gh S a b (upd (upd sc29 4939 (nI q)) 4938 0) ar29 lo, ex, 0, 0)) rfl ?_
                  refine to_cp (q := 121) (M1 := an_X10_isDigit) (rest := []) rfl rfl (by decide) rfl trivial (sf_isDigit hW hI257 (ar29 67 q) d) (fun x262 hx262 => ?_)
                  rcases hx262 with ⟨rfl, w262⟩ | ⟨rfl, w262⟩
                  · refine to_eq (fr' := (120, [(0, .ref 49), (1, .int (ar29 67 q))], [.int 1], gh S a b (upd (upd sc29 4939 (nI q)) 4938 0) ar29 lo, ex, 0, 0)) rfl ?_
                    refine to_n 1 (fr' := (123, [(0, .ref 49), (1, .int (ar29 67 q))], [], gh S a b (upd (upd sc29 4939 (nI q)) 4938 0) ar29 lo, ex, 0, 0)) rfl ?_
                    exact c123 (r - q) (ar29 67 q) q q (upd (upd sc29 4939 (nI q)) 4938 0) ar29 (by omega) (rfl) (hc0_0) (hc0_1) (by omega) (by omega) (by omega) (fun _ => w262) hI257 hF257
                  · refine to_eq (fr' := (120, [(0, .ref 49), (1, .int (ar29 67 q))], [.int 0], gh S a b (upd (upd sc29 4939 (nI q)) 4938 0) ar29 lo, ex, 0, 0)) rfl ?_
                    refine to_n 3 (fr' := (160, [(0, .ref 49), (1, .int (ar29 67 q))], [.ref 49, .ref 49], gh S a b (upd (upd sc29 4939 (nI q)) 4938 0) ar29 lo, ex, 0, 0)) rfl ?_
                    refine to_getR (v := (nI q)) rfl rfl rfl rfl hc0_0 ?_
                    refine to_n 1 (fr' := (164, [(0, .ref 49), (1, .int (ar29 67 q))], [.int 1, .int (nI q), .ref 49], gh S a b (upd (upd sc29 4939 (nI q)) 4938 0) ar29 lo, ex, 0, 0)) rfl ?_
                    refine to_addN (x := q) (y := 1) rfl ?_
                    refine to_putR (h' := gh S a b (upd (upd (upd sc29 4939 (nI q)) 4938 0) 4935 (nI (q + 1))) ar29 lo) rfl rfl rfl (Nat.le_of_ble_eq_true rfl) rfl rfl ?_
                    have hI263 := ip_4935 (v := (nI (q + 1))) hI257 (rl_n (n := (q + 1)) (by omega))
                    have hF263 := fr_s (k := 4935) (v := (nI (q + 1))) hF257 (by decide)
                    refine to_n 2 (fr' := (171, [(0, .ref 49), (1, .int (ar29 67 q))], [.int 40, .int (ar29 67 q)], gh S a b (upd (upd (upd sc29 4939 (nI q)) 4938 0) 4935 (nI (q + 1))) ar29 lo, ex, 0, 0)) rfl ?_
                    refine to_ic_eq (t := 216) rfl (fun q264 => ?_) (fun q264 => ?_)
                    · refine to_n 8 (fr' := (232, [(0, .ref 49), (1, .int (ar29 67 q)), (2, .int 1)], [.int 3, .ref 49], gh S a b (upd (upd (upd sc29 4939 (nI q)) 4938 0) 4935 (nI (q + 1))) ar29 lo, ex, 0, 0)) rfl ?_
                      refine to_putR (h' := gh S a b (upd (upd (upd (upd sc29 4939 (nI q)) 4938 0) 4935 (nI (q + 1))) 4937 3) ar29 lo) rfl rfl rfl (Nat.le_of_ble_eq_true rfl) rfl rfl ?_
                      have hI265 := ip_4937 (v := 3) hI263 
                      have hF265 := fr_s (k := 4937) (v := 3) hF263 (by decide)
                      refine to_n 2 (fr' := (237, [(0, .ref 49), (1, .int (ar29 67 q)), (2, .int 1)], [.int (ar29 67 q), .ref 49], gh S a b (upd (upd (upd (upd sc29 4939 (nI q)) 4938 0) 4935 (nI (q + 1))) 4937 3) ar29 lo, ex, 0, 0)) rfl ?_
                      refine to_putR (h' := gh S a b (upd (upd (upd (upd (upd sc29 4939 (nI q)) 4938 0) 4935 (nI (q + 1))) 4937 3) 4938 (ar29 67 q)) ar29 lo) rfl rfl rfl (Nat.le_of_ble_eq_true rfl) rfl rfl ?_
                      have hI266 := ip_4938 (v := (ar29 67 q)) hI265 
                      have hF266 := fr_s (k := 4938) (v := (ar29 67 q)) hF265 (by decide)
                      refine to_lv (lv := [(0, .ref 49)]) rfl ⟨rfl, trivial⟩ ?_
                      exact c240 q (q + 1) (upd (upd (upd (upd (upd sc29 4939 (nI q)) 4938 0) 4935 (nI (q + 1))) 4937 3) 4938 (ar29 67 q)) ar29 (rfl) (rfl) (hc0_1) (by omega) (by omega) (by omega) (fun _ => by omega) hI266 hF266
                    · refine to_n 2 (fr' := (177, [(0, .ref 49), (1, .int (ar29 67 q))], [.int 41, .int (ar29 67 q)], gh S a b (upd (upd (upd sc29 4939 (nI q)) 4938 0) 4935 (nI (q + 1))) ar29 lo, ex, 0, 0)) rfl ?_
                      refine to_ic_eq (t := 216) rfl (fun q267 => ?_) (fun q267 => ?_)
                      · refine to_n 8 (fr' := (232, [(0, .ref 49), (1, .int (ar29 67 q)), (2, .int 1)], [.int 3, .ref 49], gh S a b (upd (upd (upd sc29 4939 (nI q)) 4938 0) 4935 (nI (q + 1))) ar29 lo, ex, 0, 0)) rfl ?_
                        refine to_putR (h' := gh S a b (upd (upd (upd (upd sc29 4939 (nI q)) 4938 0) 4935 (nI (q + 1))) 4937 3) ar29 lo) rfl rfl rfl (Nat.le_of_ble_eq_true rfl) rfl rfl ?_
                        have hI268 := ip_4937 (v := 3) hI263 
                        have hF268 := fr_s (k := 4937) (v := 3) hF263 (by decide)
                        refine to_n 2 (fr' := (237, [(0, .ref 49), (1, .int (ar29 67 q)), (2, .int 1)], [.int (ar29 67 q), .ref 49], gh S a b (upd (upd (upd (upd sc29 4939 (nI q)) 4938 0) 4935 (nI (q + 1))) 4937 3) ar29 lo, ex, 0, 0)) rfl ?_
                        refine to_putR (h' := gh S a b (upd (upd (upd (upd (upd sc29 4939 (nI q)) 4938 0) 4935 (nI (q + 1))) 4937 3) 4938 (ar29 67 q)) ar29 lo) rfl rfl rfl (Nat.le_of_ble_eq_true rfl) rfl rfl ?_
                        have hI269 := ip_4938 (v := (ar29 67 q)) hI268 
                        have hF269 := fr_s (k := 4938) (v := (ar29 67 q)) hF268 (by decide)
                        refine to_lv (lv := [(0, .ref 49)]) rfl ⟨rfl, trivial⟩ ?_
                        exact c240 q (q + 1) (upd (upd (upd (upd (upd sc29 4939 (nI q)) 4938 0) 4935 (nI (q + 1))) 4937 3) 4938 (ar29 67 q)) ar29 (rfl) (rfl) (hc0_1) (by omega) (by omega) (by omega) (fun _ => by omega) hI269 hF269
                      · refine to_n 2 (fr' := (183, [(0, .ref 49), (1, .int (ar29 67 q))], [.int 59, .int (ar29 67 q)], gh S a b (upd (upd (upd sc29 4939 (nI q)) 4938 0) 4935 (nI (q + 1))) ar29 lo, ex, 0, 0)) rfl ?_
                        refine to_ic_eq (t := 216) rfl (fun q270 => ?_) (fun q270 => ?_)
                        · refine to_n 8 (fr' := (232, [(0, .ref 49), (1, .int (ar29 67 q)), (2, .int 1)], [.int 3, .ref 49], gh S a b (upd (upd (upd sc29 4939 (nI q)) 4938 0) 4935 (nI (q + 1))) ar29 lo, ex, 0, 0)) rfl ?_
                          refine to_putR (h' := gh S a b (upd (upd (upd (upd sc29 4939 (nI q)) 4938 0) 4935 (nI (q + 1))) 4937 3) ar29 lo) rfl rfl rfl (Nat.le_of_ble_eq_true rfl) rfl rfl ?_
                          have hI271 := ip_4937 (v := 3) hI263 
                          have hF271 := fr_s (k := 4937) (v := 3) hF263 (by decide)
                          refine to_n 2 (fr' := (237, [(0, .ref 49), (1, .int (ar29 67 q)), (2, .int 1)], [.int (ar29 67 q), .ref 49], gh S a b (upd (upd (upd (upd sc29 4939 (nI q)) 4938 0) 4935 (nI (q + 1))) 4937 3) ar29 lo, ex, 0, 0)) rfl ?_
                          refine to_putR (h' := gh S a b (upd (upd (upd (upd (upd sc29 4939 (nI q)) 4938 0) 4935 (nI (q + 1))) 4937 3) 4938 (ar29 67 q)) ar29 lo) rfl rfl rfl (Nat.le_of_ble_eq_true rfl) rfl rfl ?_
                          have hI272 := ip_4938 (v := (ar29 67 q)) hI271 
                          have hF272 := fr_s (k := 4938) (v := (ar29 67 q)) hF271 (by decide)
                          refine to_lv (lv := [(0, .ref 49)]) rfl ⟨rfl, trivial⟩ ?_
                          exact c240 q (q + 1) (upd (upd (upd (upd (upd sc29 4939 (nI q)) 4938 0) 4935 (nI (q + 1))) 4937 3) 4938 (ar29 67 q)) ar29 (rfl) (rfl) (hc0_1) (by omega) (by omega) (by omega) (fun _ => by omega) hI272 hF272
                        · refine to_n 2 (fr' := (189, [(0, .ref 49), (1, .int (ar29 67 q))], [.int 43, .int (ar29 67 q)], gh S a b (upd (upd (upd sc29 4939 (nI q)) 4938 0) 4935 (nI (q + 1))) ar29 lo, ex, 0, 0)) rfl ?_
                          refine to_ic_eq (t := 216) rfl (fun q273 => ?_) (fun q273 => ?_)
                          · refine to_n 8 (fr' := (232, [(0, .ref 49), (1, .int (ar29 67 q)), (2, .int 1)], [.int 3, .ref 49], gh S a b (upd (upd (upd sc29 4939 (nI q)) 4938 0) 4935 (nI (q + 1))) ar29 lo, ex, 0, 0)) rfl ?_
                            refine to_putR (h' := gh S a b (upd (upd (upd (upd sc29 4939 (nI q)) 4938 0) 4935 (nI (q + 1))) 4937 3) ar29 lo) rfl rfl rfl (Nat.le_of_ble_eq_true rfl) rfl rfl ?_
                            have hI274 := ip_4937 (v := 3) hI263 
                            have hF274 := fr_s (k := 4937) (v := 3) hF263 (by decide)
                            refine to_n 2 (fr' := (237, [(0, .ref 49), (1, .int (ar29 67 q)), (2, .int 1)], [.int (ar29 67 q), .ref 49], gh S a b (upd (upd (upd (upd sc29 4939 (nI q)) 4938 0) 4935 (nI (q + 1))) 4937 3) ar29 lo, ex, 0, 0)) rfl ?_
                            refine to_putR (h' := gh S a b (upd (upd (upd (upd (upd sc29 4939 (nI q)) 4938 0) 4935 (nI (q + 1))) 4937 3) 4938 (ar29 67 q)) ar29 lo) rfl rfl rfl (Nat.le_of_ble_eq_true rfl) rfl rfl ?_
                            have hI275 := ip_4938 (v := (ar29 67 q)) hI274 
                            have hF275 := fr_s (k := 4938) (v := (ar29 67 q)) hF274 (by decide)
                            refine to_lv (lv := [(0, .ref 49)]) rfl ⟨rfl, trivial⟩ ?_
                            exact c240 q (q + 1) (upd (upd (upd (upd (upd sc29 4939 (nI q)) 4938 0) 4935 (nI (q + 1))) 4937 3) 4938 (ar29 67 q)) ar29 (rfl) (rfl) (hc0_1) (by omega) (by omega) (by omega) (fun _ => by omega) hI275 hF275
                          · refine to_n 2 (fr' := (195, [(0, .ref 49), (1, .int (ar29 67 q))], [.int 45, .int (ar29 67 q)], gh S a b (upd (upd (upd sc29 4939 (nI q)) 4938 0) 4935 (nI (q + 1))) ar29 lo, ex, 0, 0)) rfl ?_
                            refine to_ic_eq (t := 216) rfl (fun q276 => ?_) (fun q276 => ?_)
                            · refine to_n 8 (fr' := (232, [(0, .ref 49), (1, .int (ar29 67 q)), (2, .int 1)], [.int 3, .ref 49], gh S a b (upd (upd (upd sc29 4939 (nI q)) 4938 0) 4935 (nI (q + 1))) ar29 lo, ex, 0, 0)) rfl ?_
                              refine to_putR (h' := gh S a b (upd (upd (upd (upd sc29 4939 (nI q)) 4938 0) 4935 (nI (q + 1))) 4937 3) ar29 lo) rfl rfl rfl (Nat.le_of_ble_eq_true rfl) rfl rfl ?_
                              have hI277 := ip_4937 (v := 3) hI263 
                              have hF277 := fr_s (k := 4937) (v := 3) hF263 (by decide)
                              refine to_n 2 (fr' := (237, [(0, .ref 49), (1, .int (ar29 67 q)), (2, .int 1)], [.int (ar29 67 q), .ref 49], gh S a b (upd (upd (upd (upd sc29 4939 (nI q)) 4938 0) 4935 (nI (q + 1))) 4937 3) ar29 lo, ex, 0, 0)) rfl ?_
                              refine to_putR (h' := gh S a b (upd (upd (upd (upd (upd sc29 4939 (nI q)) 4938 0) 4935 (nI (q + 1))) 4937 3) 4938 (ar29 67 q)) ar29 lo) rfl rfl rfl (Nat.le_of_ble_eq_true rfl) rfl rfl ?_
                              have hI278 := ip_4938 (v := (ar29 67 q)) hI277 
                              have hF278 := fr_s (k := 4938) (v := (ar29 67 q)) hF277 (by decide)
                              refine to_lv (lv := [(0, .ref 49)]) rfl ⟨rfl, trivial⟩ ?_
                              exact c240 q (q + 1) (upd (upd (upd (upd (upd sc29 4939 (nI q)) 4938 0) 4935 (nI (q + 1))) 4937 3) 4938 (ar29 67 q)) ar29 (rfl) (rfl) (hc0_1) (by omega) (by omega) (by omega) (fun _ => by omega) hI278 hF278
                            · refine to_n 2 (fr' := (201, [(0, .ref 49), (1, .int (ar29 67 q))], [.int 42, .int (ar29 67 q)], gh S a b (upd (upd (upd sc29 4939 (nI q)) 4938 0) 4935 (nI (q + 1))) ar29 lo, ex, 0, 0)) rfl ?_
                              refine to_ic_eq (t := 216) rfl (fun q279 => ?_) (fun q279 => ?_)
                              · refine to_n 8 (fr' := (232, [(0, .ref 49), (1, .int (ar29 67 q)), (2, .int 1)], [.int 3, .ref 49], gh S a b (upd (upd (upd sc29 4939 (nI q)) 4938 0) 4935 (nI (q + 1))) ar29 lo, ex, 0, 0)) rfl ?_
                                refine to_putR (h' := gh S a b (upd (upd (upd (upd sc29 4939 (nI q)) 4938 0) 4935 (nI (q + 1))) 4937 3) ar29 lo) rfl rfl rfl (Nat.le_of_ble_eq_true rfl) rfl rfl ?_
                                have hI280 := ip_4937 (v := 3) hI263 
                                have hF280 := fr_s (k := 4937) (v := 3) hF263 (by decide)
                                refine to_n 2 (fr' := (237, [(0, .ref 49), (1, .int (ar29 67 q)), (2, .int 1)], [.int (ar29 67 q), .ref 49], gh S a b (upd (upd (upd (upd sc29 4939 (nI q)) 4938 0) 4935 (nI (q + 1))) 4937 3) ar29 lo, ex, 0, 0)) rfl ?_
                                refine to_putR (h' := gh S a b (upd (upd (upd (upd (upd sc29 4939 (nI q)) 4938 0) 4935 (nI (q + 1))) 4937 3) 4938 (ar29 67 q)) ar29 lo) rfl rfl rfl (Nat.le_of_ble_eq_true rfl) rfl rfl ?_
                                have hI281 := ip_4938 (v := (ar29 67 q)) hI280 
                                have hF281 := fr_s (k := 4938) (v := (ar29 67 q)) hF280 (by decide)
                                refine to_lv (lv := [(0, .ref 49)]) rfl ⟨rfl, trivial⟩ ?_
                                exact c240 q (q + 1) (upd (upd (upd (upd (upd sc29 4939 (nI q)) 4938 0) 4935 (nI (q + 1))) 4937 3) 4938 (ar29 67 q)) ar29 (rfl) (rfl) (hc0_1) (by omega) (by omega) (by omega) (fun _ => by omega) hI281 hF281
                              · refine to_n 2 (fr' := (207, [(0, .ref 49), (1, .int (ar29 67 q))], [.int 60, .int (ar29 67 q)], gh S a b (upd (upd (upd sc29 4939 (nI q)) 4938 0) 4935 (nI (q + 1))) ar29 lo, ex, 0, 0)) rfl ?_
                                refine to_ic_eq (t := 216) rfl (fun q282 => ?_) (fun q282 => ?_)
                                · refine to_n 8 (fr' := (232, [(0, .ref 49), (1, .int (ar29 67 q)), (2, .int 1)], [.int 3, .ref 49], gh S a b (upd (upd (upd sc29 4939 (nI q)) 4938 0) 4935 (nI (q + 1))) ar29 lo, ex, 0, 0)) rfl ?_
                                  refine to_putR (h' := gh S a b (upd (upd (upd (upd sc29 4939 (nI q)) 4938 0) 4935 (nI (q + 1))) 4937 3) ar29 lo) rfl rfl rfl (Nat.le_of_ble_eq_true rfl) rfl rfl ?_
                                  have hI283 := ip_4937 (v := 3) hI263 
                                  have hF283 := fr_s (k := 4937) (v := 3) hF263 (by decide)
                                  refine to_n 2 (fr' := (237, [(0, .ref 49), (1, .int (ar29 67 q)), (2, .int 1)], [.int (ar29 67 q), .ref 49], gh S a b (upd (upd (upd (upd sc29 4939 (nI q)) 4938 0) 4935 (nI (q + 1))) 4937 3) ar29 lo, ex, 0, 0)) rfl ?_
                                  refine to_putR (h' := gh S a b (upd (upd (upd (upd (upd sc29 4939 (nI q)) 4938 0) 4935 (nI (q + 1))) 4937 3) 4938 (ar29 67 q)) ar29 lo) rfl rfl rfl (Nat.le_of_ble_eq_true rfl) rfl rfl ?_
                                  have hI284 := ip_4938 (v := (ar29 67 q)) hI283 
                                  have hF284 := fr_s (k := 4938) (v := (ar29 67 q)) hF283 (by decide)
                                  refine to_lv (lv := [(0, .ref 49)]) rfl ⟨rfl, trivial⟩ ?_
                                  exact c240 q (q + 1) (upd (upd (upd (upd (upd sc29 4939 (nI q)) 4938 0) 4935 (nI (q + 1))) 4937 3) 4938 (ar29 67 q)) ar29 (rfl) (rfl) (hc0_1) (by omega) (by omega) (by omega) (fun _ => by omega) hI284 hF284
                                · refine to_n 2 (fr' := (213, [(0, .ref 49), (1, .int (ar29 67 q))], [.int 61, .int (ar29 67 q)], gh S a b (upd (upd (upd sc29 4939 (nI q)) 4938 0) 4935 (nI (q + 1))) ar29 lo, ex, 0, 0)) rfl ?_
                                  refine to_ic_ne (t := 220) rfl (fun q285 => ?_) (fun q285 => ?_)
                                  · refine to_n 6 (fr' := (232, [(0, .ref 49), (1, .int (ar29 67 q)), (2, .int 0)], [.int 4, .ref 49], gh S a b (upd (upd (upd sc29 4939 (nI q)) 4938 0) 4935 (nI (q + 1))) ar29 lo, ex, 0, 0)) rfl ?_
                                    refine to_putR (h' := gh S a b (upd (upd (upd (upd sc29 4939 (nI q)) 4938 0) 4935 (nI (q + 1))) 4937 4) ar29 lo) rfl rfl rfl (Nat.le_of_ble_eq_true rfl) rfl rfl ?_
                                    have hI286 := ip_4937 (v := 4) hI263 
                                    have hF286 := fr_s (k := 4937) (v := 4) hF263 (by decide)
                                    refine to_n 2 (fr' := (237, [(0, .ref 49), (1, .int (ar29 67 q)), (2, .int 0)], [.int (ar29 67 q), .ref 49], gh S a b (upd (upd (upd (upd sc29 4939 (nI q)) 4938 0) 4935 (nI (q + 1))) 4937 4) ar29 lo, ex, 0, 0)) rfl ?_
                                    refine to_putR (h' := gh S a b (upd (upd (upd (upd (upd sc29 4939 (nI q)) 4938 0) 4935 (nI (q + 1))) 4937 4) 4938 (ar29 67 q)) ar29 lo) rfl rfl rfl (Nat.le_of_ble_eq_true rfl) rfl rfl ?_
                                    have hI287 := ip_4938 (v := (ar29 67 q)) hI286 
                                    have hF287 := fr_s (k := 4938) (v := (ar29 67 q)) hF286 (by decide)
                                    refine to_lv (lv := [(0, .ref 49)]) rfl ⟨rfl, trivial⟩ ?_
                                    exact c240 q (q + 1) (upd (upd (upd (upd (upd sc29 4939 (nI q)) 4938 0) 4935 (nI (q + 1))) 4937 4) 4938 (ar29 67 q)) ar29 (rfl) (rfl) (hc0_1) (by omega) (by omega) (by omega) (fun _ => by omega) hI287 hF287
                                  · refine to_n 8 (fr' := (232, [(0, .ref 49), (1, .int (ar29 67 q)), (2, .int 1)], [.int 3, .ref 49], gh S a b (upd (upd (upd sc29 4939 (nI q)) 4938 0) 4935 (nI (q + 1))) ar29 lo, ex, 0, 0)) rfl ?_
                                    refine to_putR (h' := gh S a b (upd (upd (upd (upd sc29 4939 (nI q)) 4938 0) 4935 (nI (q + 1))) 4937 3) ar29 lo) rfl rfl rfl (Nat.le_of_ble_eq_true rfl) rfl rfl ?_
                                    have hI288 := ip_4937 (v := 3) hI263 
                                    have hF288 := fr_s (k := 4937) (v := 3) hF263 (by decide)
                                    refine to_n 2 (fr' := (237, [(0, .ref 49), (1, .int (ar29 67 q)), (2, .int 1)], [.int (ar29 67 q), .ref 49], gh S a b (upd (upd (upd (upd sc29 4939 (nI q)) 4938 0) 4935 (nI (q + 1))) 4937 3) ar29 lo, ex, 0, 0)) rfl ?_
                                    refine to_putR (h' := gh S a b (upd (upd (upd (upd (upd sc29 4939 (nI q)) 4938 0) 4935 (nI (q + 1))) 4937 3) 4938 (ar29 67 q)) ar29 lo) rfl rfl rfl (Nat.le_of_ble_eq_true rfl) rfl rfl ?_
                                    have hI289 := ip_4938 (v := (ar29 67 q)) hI288 
                                    have hF289 := fr_s (k := 4938) (v := (ar29 67 q)) hF288 (by decide)
                                    refine to_lv (lv := [(0, .ref 49)]) rfl ⟨rfl, trivial⟩ ?_
                                    exact c240 q (q + 1) (upd (upd (upd (upd (upd sc29 4939 (nI q)) 4938 0) 4935 (nI (q + 1))) 4937 3) 4938 (ar29 67 q)) ar29 (rfl) (rfl) (hc0_1) (by omega) (by omega) (by omega) (fun _ => by omega) hI289 hF289
              · refine to_n 2 (fr' := (68, [(0, .ref 49), (1, .int (ar29 67 q))], [.int 0, .ref 49], gh S a b (upd (upd sc29 4939 (nI q)) 4938 0) ar29 lo, ex, 0, 0)) rfl ?_
                refine to_putR (h' := gh S a b (upd (upd (upd sc29 4939 (nI q)) 4938 0) 4937 0) ar29 lo) rfl rfl rfl (Nat.le_of_ble_eq_true rfl) rfl rfl ?_
                have hI290 := ip_4937 (v := 0) hI257 
                have hF290 := fr_s (k := 4937) (v := 0) hF257 (by decide)
                refine to_n 1 (fr' := (240, [(0, .ref 49), (1, .int (ar29 67 q))], [], gh S a b (upd (upd (upd sc29 4939 (nI q)) 4938 0) 4937 0) ar29 lo, ex, 0, 0)) rfl ?_
                refine to_lv (lv := [(0, .ref 49)]) rfl ⟨rfl, trivial⟩ ?_
                exact c240 q q (upd (upd (upd sc29 4939 (nI q)) 4938 0) 4937 0) ar29 (rfl) (hc0_0) (hc0_1) (by omega) (by omega) (by omega) (fun w => absurd rfl w) hI290 hF290
          · refine to_eq (fr' := (21, [(0, .ref 49)], [.int (ar29 67 q)], gh S a b sc29 ar29 lo, ex, 0, 0)) rfl ?_
            refine to_n 1 (fr' := (23, [(0, .ref 49)], [.int 10, .int (ar29 67 q)], gh S a b sc29 ar29 lo, ex, 0, 0)) rfl ?_
            refine to_ic_ne (t := 39) rfl (fun q291 => ?_) (fun q291 => ?_)
            · refine to_n 2 (fr' := (41, [(0, .ref 49)], [.ref 49, .ref 49], gh S a b sc29 ar29 lo, ex, 0, 0)) rfl ?_
              refine to_getR (v := (nI q)) rfl rfl rfl rfl hc0_0 ?_
              refine to_putR (h' := gh S a b (upd sc29 4939 (nI q)) ar29 lo) rfl rfl rfl (Nat.le_of_ble_eq_true rfl) rfl rfl ?_
              have hI292 := ip_4939 (v := (nI q)) hI29 (rl_n (n := q) (by omega))
              have hF292 := fr_s (k := 4939) (v := (nI q)) hF29 (by decide)
              refine to_n 2 (fr' := (49, [(0, .ref 49)], [.int 0, .ref 49], gh S a b (upd sc29 4939 (nI q)) ar29 lo, ex, 0, 0)) rfl ?_
              refine to_putR (h' := gh S a b (upd (upd sc29 4939 (nI q)) 4938 0) ar29 lo) rfl rfl rfl (Nat.le_of_ble_eq_true rfl) rfl rfl ?_
              have hI293 := ip_4938 (v := 0) hI292 
              have hF293 := fr_s (k := 4938) (v := 0) hF292 (by decide)
              refine to_n 2 (fr' := (54, [(0, .ref 49)], [.ref 49, .ref 49], gh S a b (upd (upd sc29 4939 (nI q)) 4938 0) ar29 lo, ex, 0, 0)) rfl ?_
              refine to_getR (v := (nI q)) rfl rfl rfl rfl hc0_0 ?_
              refine to_cp (q := 119) (M1 := an_X10_byteAt) (rest := []) rfl rfl (by decide) rfl ⟨_, rfl⟩ (sf_byteAt hW hI293 q (by omega) r (by omega) hc0_1 d) (fun x294 hx294 => ?_)
              rcases hx294 with ⟨rfl, w294⟩ | ⟨w294, rfl⟩
              · refine to_eq (fr' := (60, [(0, .ref 49)], [.int (-1)], gh S a b (upd (upd sc29 4939 (nI q)) 4938 0) ar29 lo, ex, 0, 0)) rfl ?_
                refine to_n 6 (fr' := (68, [(0, .ref 49), (1, .int (-1))], [.int 0, .ref 49], gh S a b (upd (upd sc29 4939 (nI q)) 4938 0) ar29 lo, ex, 0, 0)) rfl ?_
                refine to_putR (h' := gh S a b (upd (upd (upd sc29 4939 (nI q)) 4938 0) 4937 0) ar29 lo) rfl rfl rfl (Nat.le_of_ble_eq_true rfl) rfl rfl ?_
                have hI295 := ip_4937 (v := 0) hI293 
                have hF295 := fr_s (k := 4937) (v := 0) hF293 (by decide)
                refine to_n 1 (fr' := (240, [(0, .ref 49), (1, .int (-1))], [], gh S a b (upd (upd (upd sc29 4939 (nI q)) 4938 0) 4937 0) ar29 lo, ex, 0, 0)) rfl ?_
                refine to_lv (lv := [(0, .ref 49)]) rfl ⟨rfl, trivial⟩ ?_
                exact c240 q q (upd (upd (upd sc29 4939 (nI q)) 4938 0) 4937 0) ar29 (rfl) (hc0_0) (hc0_1) (by omega) (by omega) (by omega) (fun w => absurd rfl w) hI295 hF295
              · refine to_eq (fr' := (60, [(0, .ref 49)], [.int (ar29 67 q)], gh S a b (upd (upd sc29 4939 (nI q)) 4938 0) ar29 lo, ex, 0, 0)) rfl ?_
                refine to_n 3 (fr' := (63, [(0, .ref 49), (1, .int (ar29 67 q))], [.int (-1), .int (ar29 67 q)], gh S a b (upd (upd sc29 4939 (nI q)) 4938 0) ar29 lo, ex, 0, 0)) rfl ?_
                refine to_ic_ne (t := 74) rfl (fun q296 => ?_) (fun q296 => ?_)
                · refine to_n 1 (fr' := (75, [(0, .ref 49), (1, .int (ar29 67 q))], [.int (ar29 67 q)], gh S a b (upd (upd sc29 4939 (nI q)) 4938 0) ar29 lo, ex, 0, 0)) rfl ?_
                  refine to_cp (q := 120) (M1 := an_X10_isLetter) (rest := []) rfl rfl (by decide) rfl trivial (sf_isLetter hW hI293 (ar29 67 q) d) (fun x297 hx297 => ?_)
                  rcases hx297 with ⟨rfl, w297⟩ | ⟨rfl, w297⟩
                  · refine to_eq (fr' := (78, [(0, .ref 49), (1, .int (ar29 67 q))], [.int 1], gh S a b (upd (upd sc29 4939 (nI q)) 4938 0) ar29 lo, ex, 0, 0)) rfl ?_
                    refine to_n 1 (fr' := (81, [(0, .ref 49), (1, .int (ar29 67 q))], [], gh S a b (upd (upd sc29 4939 (nI q)) 4938 0) ar29 lo, ex, 0, 0)) rfl ?_
                    exact c81 (r - q) (ar29 67 q) q q (upd (upd sc29 4939 (nI q)) 4938 0) ar29 (by omega) (rfl) (hc0_0) (hc0_1) (by omega) (by omega) (by omega) (fun _ => w297) hI293 hF293
                  · refine to_eq (fr' := (78, [(0, .ref 49), (1, .int (ar29 67 q))], [.int 0], gh S a b (upd (upd sc29 4939 (nI q)) 4938 0) ar29 lo, ex, 0, 0)) rfl ?_
                    refine to_n 2 (fr' := (117, [(0, .ref 49), (1, .int (ar29 67 q))], [.int (ar29 67 q)], gh S a b (upd (upd sc29 4939 (nI q)) 4938 0) ar29 lo, ex, 0, 0)) rfl ?_
                    refine to_cp (q := 121) (M1 := an_X10_isDigit) (rest := []) rfl rfl (by decide) rfl trivial (sf_isDigit hW hI293 (ar29 67 q) d) (fun x298 hx298 => ?_)
                    rcases hx298 with ⟨rfl, w298⟩ | ⟨rfl, w298⟩
                    · refine to_eq (fr' := (120, [(0, .ref 49), (1, .int (ar29 67 q))], [.int 1], gh S a b (upd (upd sc29 4939 (nI q)) 4938 0) ar29 lo, ex, 0, 0)) rfl ?_
                      refine to_n 1 (fr' := (123, [(0, .ref 49), (1, .int (ar29 67 q))], [], gh S a b (upd (upd sc29 4939 (nI q)) 4938 0) ar29 lo, ex, 0, 0)) rfl ?_
                      exact c123 (r - q) (ar29 67 q) q q (upd (upd sc29 4939 (nI q)) 4938 0) ar29 (by omega) (rfl) (hc0_0) (hc0_1) (by omega) (by omega) (by omega) (fun _ => w298) hI293 hF293
                    · refine to_eq (fr' := (120, [(0, .ref 49), (1, .int (ar29 67 q))], [.int 0], gh S a b (upd (upd sc29 4939 (nI q)) 4938 0) ar29 lo, ex, 0, 0)) rfl ?_
                      refine to_n 3 (fr' := (160, [(0, .ref 49), (1, .int (ar29 67 q))], [.ref 49, .ref 49], gh S a b (upd (upd sc29 4939 (nI q)) 4938 0) ar29 lo, ex, 0, 0)) rfl ?_
                      refine to_getR (v := (nI q)) rfl rfl rfl rfl hc0_0 ?_
                      refine to_n 1 (fr' := (164, [(0, .ref 49), (1, .int (ar29 67 q))], [.int 1, .int (nI q), .ref 49], gh S a b (upd (upd sc29 4939 (nI q)) 4938 0) ar29 lo, ex, 0, 0)) rfl ?_
                      refine to_addN (x := q) (y := 1) rfl ?_
                      refine to_putR (h' := gh S a b (upd (upd (upd sc29 4939 (nI q)) 4938 0) 4935 (nI (q + 1))) ar29 lo) rfl rfl rfl (Nat.le_of_ble_eq_true rfl) rfl rfl ?_
                      have hI299 := ip_4935 (v := (nI (q + 1))) hI293 (rl_n (n := (q + 1)) (by omega))
                      have hF299 := fr_s (k := 4935) (v := (nI (q + 1))) hF293 (by decide)
                      refine to_n 2 (fr' := (171, [(0, .ref 49), (1, .int (ar29 67 q))], [.int 40, .int (ar29 67 q)], gh S a b (upd (upd (upd sc29 4939 (nI q)) 4938 0) 4935 (nI (q + 1))) ar29 lo, ex, 0, 0)) rfl ?_
                      refine to_ic_eq (t := 216) rfl (fun q300 => ?_) (fun q300 => ?_)
                      · refine to_n 8 (fr' := (232, [(0, .ref 49), (1, .int (ar29 67 q)), (2, .int 1)], [.int 3, .ref 49], gh S a b (upd (upd (upd sc29 4939 (nI q)) 4938 0) 4935 (nI (q + 1))) ar29 lo, ex, 0, 0)) rfl ?_
                        refine to_putR (h' := gh S a b (upd (upd (upd (upd sc29 4939 (nI q)) 4938 0) 4935 (nI (q + 1))) 4937 3) ar29 lo) rfl rfl rfl (Nat.le_of_ble_eq_true rfl) rfl rfl ?_
                        have hI301 := ip_4937 (v := 3) hI299 
                        have hF301 := fr_s (k := 4937) (v := 3) hF299 (by decide)
                        refine to_n 2 (fr' := (237, [(0, .ref 49), (1, .int (ar29 67 q)), (2, .int 1)], [.int (ar29 67 q), .ref 49], gh S a b (upd (upd (upd (upd sc29 4939 (nI q)) 4938 0) 4935 (nI (q + 1))) 4937 3) ar29 lo, ex, 0, 0)) rfl ?_
                        refine to_putR (h' := gh S a b (upd (upd (upd (upd (upd sc29 4939 (nI q)) 4938 0) 4935 (nI (q + 1))) 4937 3) 4938 (ar29 67 q)) ar29 lo) rfl rfl rfl (Nat.le_of_ble_eq_true rfl) rfl rfl ?_
                        have hI302 := ip_4938 (v := (ar29 67 q)) hI301 
                        have hF302 := fr_s (k := 4938) (v := (ar29 67 q)) hF301 (by decide)
                        refine to_lv (lv := [(0, .ref 49)]) rfl ⟨rfl, trivial⟩ ?_
                        exact c240 q (q + 1) (upd (upd (upd (upd (upd sc29 4939 (nI q)) 4938 0) 4935 (nI (q + 1))) 4937 3) 4938 (ar29 67 q)) ar29 (rfl) (rfl) (hc0_1) (by omega) (by omega) (by omega) (fun _ => by omega) hI302 hF302
                      · refine to_n 2 (fr' := (177, [(0, .ref 49), (1, .int (ar29 67 q))], [.int 41, .int (ar29 67 q)], gh S a b (upd (upd (upd sc29 4939 (nI q)) 4938 0) 4935 (nI (q + 1))) ar29 lo, ex, 0, 0)) rfl ?_
                        refine to_ic_eq (t := 216) rfl (fun q303 => ?_) (fun q303 => ?_)
                        · refine to_n 8 (fr' := (232, [(0, .ref 49), (1, .int (ar29 67 q)), (2, .int 1)], [.int 3, .ref 49], gh S a b (upd (upd (upd sc29 4939 (nI q)) 4938 0) 4935 (nI (q + 1))) ar29 lo, ex, 0, 0)) rfl ?_
                          refine to_putR (h' := gh S a b (upd (upd (upd (upd sc29 4939 (nI q)) 4938 0) 4935 (nI (q + 1))) 4937 3) ar29 lo) rfl rfl rfl (Nat.le_of_ble_eq_true rfl) rfl rfl ?_
                          have hI304 := ip_4937 (v := 3) hI299 
                          have hF304 := fr_s (k := 4937) (v := 3) hF299 (by decide)
                          refine to_n 2 (fr' := (237, [(0, .ref 49), (1, .int (ar29 67 q)), (2, .int 1)], [.int (ar29 67 q), .ref 49], gh S a b (upd (upd (upd (upd sc29 4939 (nI q)) 4938 0) 4935 (nI (q + 1))) 4937 3) ar29 lo, ex, 0, 0)) rfl ?_
                          refine to_putR (h' := gh S a b (upd (upd (upd (upd (upd sc29 4939 (nI q)) 4938 0) 4935 (nI (q + 1))) 4937 3) 4938 (ar29 67 q)) ar29 lo) rfl rfl rfl (Nat.le_of_ble_eq_true rfl) rfl rfl ?_
                          have hI305 := ip_4938 (v := (ar29 67 q)) hI304 
                          have hF305 := fr_s (k := 4938) (v := (ar29 67 q)) hF304 (by decide)
                          refine to_lv (lv := [(0, .ref 49)]) rfl ⟨rfl, trivial⟩ ?_
                          exact c240 q (q + 1) (upd (upd (upd (upd (upd sc29 4939 (nI q)) 4938 0) 4935 (nI (q + 1))) 4937 3) 4938 (ar29 67 q)) ar29 (rfl) (rfl) (hc0_1) (by omega) (by omega) (by omega) (fun _ => by omega) hI305 hF305
                        · refine to_n 2 (fr' := (183, [(0, .ref 49), (1, .int (ar29 67 q))], [.int 59, .int (ar29 67 q)], gh S a b (upd (upd (upd sc29 4939 (nI q)) 4938 0) 4935 (nI (q + 1))) ar29 lo, ex, 0, 0)) rfl ?_
                          refine to_ic_eq (t := 216) rfl (fun q306 => ?_) (fun q306 => ?_)
                          · refine to_n 8 (fr' := (232, [(0, .ref 49), (1, .int (ar29 67 q)), (2, .int 1)], [.int 3, .ref 49], gh S a b (upd (upd (upd sc29 4939 (nI q)) 4938 0) 4935 (nI (q + 1))) ar29 lo, ex, 0, 0)) rfl ?_
                            refine to_putR (h' := gh S a b (upd (upd (upd (upd sc29 4939 (nI q)) 4938 0) 4935 (nI (q + 1))) 4937 3) ar29 lo) rfl rfl rfl (Nat.le_of_ble_eq_true rfl) rfl rfl ?_
                            have hI307 := ip_4937 (v := 3) hI299 
                            have hF307 := fr_s (k := 4937) (v := 3) hF299 (by decide)
                            refine to_n 2 (fr' := (237, [(0, .ref 49), (1, .int (ar29 67 q)), (2, .int 1)], [.int (ar29 67 q), .ref 49], gh S a b (upd (upd (upd (upd sc29 4939 (nI q)) 4938 0) 4935 (nI (q + 1))) 4937 3) ar29 lo, ex, 0, 0)) rfl ?_
                            refine to_putR (h' := gh S a b (upd (upd (upd (upd (upd sc29 4939 (nI q)) 4938 0) 4935 (nI (q + 1))) 4937 3) 4938 (ar29 67 q)) ar29 lo) rfl rfl rfl (Nat.le_of_ble_eq_true rfl) rfl rfl ?_
                            have hI308 := ip_4938 (v := (ar29 67 q)) hI307 
                            have hF308 := fr_s (k := 4938) (v := (ar29 67 q)) hF307 (by decide)
                            refine to_lv (lv := [(0, .ref 49)]) rfl ⟨rfl, trivial⟩ ?_
                            exact c240 q (q + 1) (upd (upd (upd (upd (upd sc29 4939 (nI q)) 4938 0) 4935 (nI (q + 1))) 4937 3) 4938 (ar29 67 q)) ar29 (rfl) (rfl) (hc0_1) (by omega) (by omega) (by omega) (fun _ => by omega) hI308 hF308
                          · refine to_n 2 (fr' := (189, [(0, .ref 49), (1, .int (ar29 67 q))], [.int 43, .int (ar29 67 q)], gh S a b (upd (upd (upd sc29 4939 (nI q)) 4938 0) 4935 (nI (q + 1))) ar29 lo, ex, 0, 0)) rfl ?_
                            refine to_ic_eq (t := 216) rfl (fun q309 => ?_) (fun q309 => ?_)
                            · refine to_n 8 (fr' := (232, [(0, .ref 49), (1, .int (ar29 67 q)), (2, .int 1)], [.int 3, .ref 49], gh S a b (upd (upd (upd sc29 4939 (nI q)) 4938 0) 4935 (nI (q + 1))) ar29 lo, ex, 0, 0)) rfl ?_
                              refine to_putR (h' := gh S a b (upd (upd (upd (upd sc29 4939 (nI q)) 4938 0) 4935 (nI (q + 1))) 4937 3) ar29 lo) rfl rfl rfl (Nat.le_of_ble_eq_true rfl) rfl rfl ?_
                              have hI310 := ip_4937 (v := 3) hI299 
                              have hF310 := fr_s (k := 4937) (v := 3) hF299 (by decide)
                              refine to_n 2 (fr' := (237, [(0, .ref 49), (1, .int (ar29 67 q)), (2, .int 1)], [.int (ar29 67 q), .ref 49], gh S a b (upd (upd (upd (upd sc29 4939 (nI q)) 4938 0) 4935 (nI (q + 1))) 4937 3) ar29 lo, ex, 0, 0)) rfl ?_
                              refine to_putR (h' := gh S a b (upd (upd (upd (upd (upd sc29 4939 (nI q)) 4938 0) 4935 (nI (q + 1))) 4937 3) 4938 (ar29 67 q)) ar29 lo) rfl rfl rfl (Nat.le_of_ble_eq_true rfl) rfl rfl ?_
                              have hI311 := ip_4938 (v := (ar29 67 q)) hI310 
                              have hF311 := fr_s (k := 4938) (v := (ar29 67 q)) hF310 (by decide)
                              refine to_lv (lv := [(0, .ref 49)]) rfl ⟨rfl, trivial⟩ ?_
                              exact c240 q (q + 1) (upd (upd (upd (upd (upd sc29 4939 (nI q)) 4938 0) 4935 (nI (q + 1))) 4937 3) 4938 (ar29 67 q)) ar29 (rfl) (rfl) (hc0_1) (by omega) (by omega) (by omega) (fun _ => by omega) hI311 hF311
                            · refine to_n 2 (fr' := (195, [(0, .ref 49), (1, .int (ar29 67 q))], [.int 45, .int (ar29 67 q)], gh S a b (upd (upd (upd sc29 4939 (nI q)) 4938 0) 4935 (nI (q + 1))) ar29 lo, ex, 0, 0)) rfl ?_
                              refine to_ic_eq (t := 216) rfl (fun q312 => ?_) (fun q312 => ?_)
                              · refine to_n 8 (fr' := (232, [(0, .ref 49), (1, .int (ar29 67 q)), (2, .int 1)], [.int 3, .ref 49], gh S a b (upd (upd (upd sc29 4939 (nI q)) 4938 0) 4935 (nI (q + 1))) ar29 lo, ex, 0, 0)) rfl ?_
                                refine to_putR (h' := gh S a b (upd (upd (upd (upd sc29 4939 (nI q)) 4938 0) 4935 (nI (q + 1))) 4937 3) ar29 lo) rfl rfl rfl (Nat.le_of_ble_eq_true rfl) rfl rfl ?_
                                have hI313 := ip_4937 (v := 3) hI299 
                                have hF313 := fr_s (k := 4937) (v := 3) hF299 (by decide)
                                refine to_n 2 (fr' := (237, [(0, .ref 49), (1, .int (ar29 67 q)), (2, .int 1)], [.int (ar29 67 q), .ref 49], gh S a b (upd (upd (upd (upd sc29 4939 (nI q)) 4938 0) 4935 (nI (q + 1))) 4937 3) ar29 lo, ex, 0, 0)) rfl ?_
                                refine to_putR (h' := gh S a b (upd (upd (upd (upd (upd sc29 4939 (nI q)) 4938 0) 4935 (nI (q + 1))) 4937 3) 4938 (ar29 67 q)) ar29 lo) rfl rfl rfl (Nat.le_of_ble_eq_true rfl) rfl rfl ?_
                                have hI314 := ip_4938 (v := (ar29 67 q)) hI313 
                                have hF314 := fr_s (k := 4938) (v := (ar29 67 q)) hF313 (by decide)
                                refine to_lv (lv := [(0, .ref 49)]) rfl ⟨rfl, trivial⟩ ?_
                                exact c240 q (q + 1) (upd (upd (upd (upd (upd sc29 4939 (nI q)) 4938 0) 4935 (nI (q + 1))) 4937 3) 4938 (ar29 67 q)) ar29 (rfl) (rfl) (hc0_1) (by omega) (by omega) (by omega) (fun _ => by omega) hI314 hF314
                              · refine to_n 2 (fr' := (201, [(0, .ref 49), (1, .int (ar29 67 q))], [.int 42, .int (ar29 67 q)], gh S a b (upd (upd (upd sc29 4939 (nI q)) 4938 0) 4935 (nI (q + 1))) ar29 lo, ex, 0, 0)) rfl ?_
                                refine to_ic_eq (t := 216) rfl (fun q315 => ?_) (fun q315 => ?_)
                                · refine to_n 8 (fr' := (232, [(0, .ref 49), (1, .int (ar29 67 q)), (2, .int 1)], [.int 3, .ref 49], gh S a b (upd (upd (upd sc29 4939 (nI q)) 4938 0) 4935 (nI (q + 1))) ar29 lo, ex, 0, 0)) rfl ?_
                                  refine to_putR (h' := gh S a b (upd (upd (upd (upd sc29 4939 (nI q)) 4938 0) 4935 (nI (q + 1))) 4937 3) ar29 lo) rfl rfl rfl (Nat.le_of_ble_eq_true rfl) rfl rfl ?_
                                  have hI316 := ip_4937 (v := 3) hI299 
                                  have hF316 := fr_s (k := 4937) (v := 3) hF299 (by decide)
                                  refine to_n 2 (fr' := (237, [(0, .ref 49), (1, .int (ar29 67 q)), (2, .int 1)], [.int (ar29 67 q), .ref 49], gh S a b (upd (upd (upd (upd sc29 4939 (nI q)) 4938 0) 4935 (nI (q + 1))) 4937 3) ar29 lo, ex, 0, 0)) rfl ?_
                                  refine to_putR (h' := gh S a b (upd (upd (upd (upd (upd sc29 4939 (nI q)) 4938 0) 4935 (nI (q + 1))) 4937 3) 4938 (ar29 67 q)) ar29 lo) rfl rfl rfl (Nat.le_of_ble_eq_true rfl) rfl rfl ?_
                                  have hI317 := ip_4938 (v := (ar29 67 q)) hI316 
                                  have hF317 := fr_s (k := 4938) (v := (ar29 67 q)) hF316 (by decide)
                                  refine to_lv (lv := [(0, .ref 49)]) rfl ⟨rfl, trivial⟩ ?_
                                  exact c240 q (q + 1) (upd (upd (upd (upd (upd sc29 4939 (nI q)) 4938 0) 4935 (nI (q + 1))) 4937 3) 4938 (ar29 67 q)) ar29 (rfl) (rfl) (hc0_1) (by omega) (by omega) (by omega) (fun _ => by omega) hI317 hF317
                                · refine to_n 2 (fr' := (207, [(0, .ref 49), (1, .int (ar29 67 q))], [.int 60, .int (ar29 67 q)], gh S a b (upd (upd (upd sc29 4939 (nI q)) 4938 0) 4935 (nI (q + 1))) ar29 lo, ex, 0, 0)) rfl ?_
                                  refine to_ic_eq (t := 216) rfl (fun q318 => ?_) (fun q318 => ?_)
                                  · refine to_n 8 (fr' := (232, [(0, .ref 49), (1, .int (ar29 67 q)), (2, .int 1)], [.int 3, .ref 49], gh S a b (upd (upd (upd sc29 4939 (nI q)) 4938 0) 4935 (nI (q + 1))) ar29 lo, ex, 0, 0)) rfl ?_
                                    refine to_putR (h' := gh S a b (upd (upd (upd (upd sc29 4939 (nI q)) 4938 0) 4935 (nI (q + 1))) 4937 3) ar29 lo) rfl rfl rfl (Nat.le_of_ble_eq_true rfl) rfl rfl ?_
                                    have hI319 := ip_4937 (v := 3) hI299 
                                    have hF319 := fr_s (k := 4937) (v := 3) hF299 (by decide)
                                    refine to_n 2 (fr' := (237, [(0, .ref 49), (1, .int (ar29 67 q)), (2, .int 1)], [.int (ar29 67 q), .ref 49], gh S a b (upd (upd (upd (upd sc29 4939 (nI q)) 4938 0) 4935 (nI (q + 1))) 4937 3) ar29 lo, ex, 0, 0)) rfl ?_
                                    refine to_putR (h' := gh S a b (upd (upd (upd (upd (upd sc29 4939 (nI q)) 4938 0) 4935 (nI (q + 1))) 4937 3) 4938 (ar29 67 q)) ar29 lo) rfl rfl rfl (Nat.le_of_ble_eq_true rfl) rfl rfl ?_
                                    have hI320 := ip_4938 (v := (ar29 67 q)) hI319 
                                    have hF320 := fr_s (k := 4938) (v := (ar29 67 q)) hF319 (by decide)
                                    refine to_lv (lv := [(0, .ref 49)]) rfl ⟨rfl, trivial⟩ ?_
                                    exact c240 q (q + 1) (upd (upd (upd (upd (upd sc29 4939 (nI q)) 4938 0) 4935 (nI (q + 1))) 4937 3) 4938 (ar29 67 q)) ar29 (rfl) (rfl) (hc0_1) (by omega) (by omega) (by omega) (fun _ => by omega) hI320 hF320
                                  · refine to_n 2 (fr' := (213, [(0, .ref 49), (1, .int (ar29 67 q))], [.int 61, .int (ar29 67 q)], gh S a b (upd (upd (upd sc29 4939 (nI q)) 4938 0) 4935 (nI (q + 1))) ar29 lo, ex, 0, 0)) rfl ?_
                                    refine to_ic_ne (t := 220) rfl (fun q321 => ?_) (fun q321 => ?_)
                                    · refine to_n 6 (fr' := (232, [(0, .ref 49), (1, .int (ar29 67 q)), (2, .int 0)], [.int 4, .ref 49], gh S a b (upd (upd (upd sc29 4939 (nI q)) 4938 0) 4935 (nI (q + 1))) ar29 lo, ex, 0, 0)) rfl ?_
                                      refine to_putR (h' := gh S a b (upd (upd (upd (upd sc29 4939 (nI q)) 4938 0) 4935 (nI (q + 1))) 4937 4) ar29 lo) rfl rfl rfl (Nat.le_of_ble_eq_true rfl) rfl rfl ?_
                                      have hI322 := ip_4937 (v := 4) hI299 
                                      have hF322 := fr_s (k := 4937) (v := 4) hF299 (by decide)
                                      refine to_n 2 (fr' := (237, [(0, .ref 49), (1, .int (ar29 67 q)), (2, .int 0)], [.int (ar29 67 q), .ref 49], gh S a b (upd (upd (upd (upd sc29 4939 (nI q)) 4938 0) 4935 (nI (q + 1))) 4937 4) ar29 lo, ex, 0, 0)) rfl ?_
                                      refine to_putR (h' := gh S a b (upd (upd (upd (upd (upd sc29 4939 (nI q)) 4938 0) 4935 (nI (q + 1))) 4937 4) 4938 (ar29 67 q)) ar29 lo) rfl rfl rfl (Nat.le_of_ble_eq_true rfl) rfl rfl ?_
                                      have hI323 := ip_4938 (v := (ar29 67 q)) hI322 
                                      have hF323 := fr_s (k := 4938) (v := (ar29 67 q)) hF322 (by decide)
                                      refine to_lv (lv := [(0, .ref 49)]) rfl ⟨rfl, trivial⟩ ?_
                                      exact c240 q (q + 1) (upd (upd (upd (upd (upd sc29 4939 (nI q)) 4938 0) 4935 (nI (q + 1))) 4937 4) 4938 (ar29 67 q)) ar29 (rfl) (rfl) (hc0_1) (by omega) (by omega) (by omega) (fun _ => by omega) hI323 hF323
                                    · refine to_n 8 (fr' := (232, [(0, .ref 49), (1, .int (ar29 67 q)), (2, .int 1)], [.int 3, .ref 49], gh S a b (upd (upd (upd sc29 4939 (nI q)) 4938 0) 4935 (nI (q + 1))) ar29 lo, ex, 0, 0)) rfl ?_
                                      refine to_putR (h' := gh S a b (upd (upd (upd (upd sc29 4939 (nI q)) 4938 0) 4935 (nI (q + 1))) 4937 3) ar29 lo) rfl rfl rfl (Nat.le_of_ble_eq_true rfl) rfl rfl ?_
                                      have hI324 := ip_4937 (v := 3) hI299 
                                      have hF324 := fr_s (k := 4937) (v := 3) hF299 (by decide)
                                      refine to_n 2 (fr' := (237, [(0, .ref 49), (1, .int (ar29 67 q)), (2, .int 1)], [.int (ar29 67 q), .ref 49], gh S a b (upd (upd (upd (upd sc29 4939 (nI q)) 4938 0) 4935 (nI (q + 1))) 4937 3) ar29 lo, ex, 0, 0)) rfl ?_
                                      refine to_putR (h' := gh S a b (upd (upd (upd (upd (upd sc29 4939 (nI q)) 4938 0) 4935 (nI (q + 1))) 4937 3) 4938 (ar29 67 q)) ar29 lo) rfl rfl rfl (Nat.le_of_ble_eq_true rfl) rfl rfl ?_
                                      have hI325 := ip_4938 (v := (ar29 67 q)) hI324 
                                      have hF325 := fr_s (k := 4938) (v := (ar29 67 q)) hF324 (by decide)
                                      refine to_lv (lv := [(0, .ref 49)]) rfl ⟨rfl, trivial⟩ ?_
                                      exact c240 q (q + 1) (upd (upd (upd (upd (upd sc29 4939 (nI q)) 4938 0) 4935 (nI (q + 1))) 4937 3) 4938 (ar29 67 q)) ar29 (rfl) (rfl) (hc0_1) (by omega) (by omega) (by omega) (fun _ => by omega) hI325 hF325
                · refine to_n 2 (fr' := (68, [(0, .ref 49), (1, .int (ar29 67 q))], [.int 0, .ref 49], gh S a b (upd (upd sc29 4939 (nI q)) 4938 0) ar29 lo, ex, 0, 0)) rfl ?_
                  refine to_putR (h' := gh S a b (upd (upd (upd sc29 4939 (nI q)) 4938 0) 4937 0) ar29 lo) rfl rfl rfl (Nat.le_of_ble_eq_true rfl) rfl rfl ?_
                  have hI326 := ip_4937 (v := 0) hI293 
                  have hF326 := fr_s (k := 4937) (v := 0) hF293 (by decide)
                  refine to_n 1 (fr' := (240, [(0, .ref 49), (1, .int (ar29 67 q))], [], gh S a b (upd (upd (upd sc29 4939 (nI q)) 4938 0) 4937 0) ar29 lo, ex, 0, 0)) rfl ?_
                  refine to_lv (lv := [(0, .ref 49)]) rfl ⟨rfl, trivial⟩ ?_
                  exact c240 q q (upd (upd (upd sc29 4939 (nI q)) 4938 0) 4937 0) ar29 (rfl) (hc0_0) (hc0_1) (by omega) (by omega) (by omega) (fun w => absurd rfl w) hI326 hF326
            · refine to_n 2 (fr' := (28, [(0, .ref 49)], [.ref 49, .ref 49], gh S a b sc29 ar29 lo, ex, 0, 0)) rfl ?_
              refine to_getR (v := (nI q)) rfl rfl rfl rfl hc0_0 ?_
              refine to_n 1 (fr' := (32, [(0, .ref 49)], [.int 1, .int (nI q), .ref 49], gh S a b sc29 ar29 lo, ex, 0, 0)) rfl ?_
              refine to_addN (x := q) (y := 1) rfl ?_
              refine to_putR (h' := gh S a b (upd sc29 4935 (nI (q + 1))) ar29 lo) rfl rfl rfl (Nat.le_of_ble_eq_true rfl) rfl rfl ?_
              have hI327 := ip_4935 (v := (nI (q + 1))) hI29 (rl_n (n := (q + 1)) (by omega))
              have hF327 := fr_s (k := 4935) (v := (nI (q + 1))) hF29 (by decide)
              refine to_n 1 (fr' := (0, [(0, .ref 49)], [], gh S a b (upd sc29 4935 (nI (q + 1))) ar29 lo, ex, 0, 0)) rfl ?_
              exact ih (q + 1) (upd sc29 4935 (nI (q + 1))) ar29 (by omega) (rfl) (hc0_1) (by omega) (by omega) hI327 hF327
  exact c0 (r - p) p sc ar (by omega) (e1) (e2) (by omega) (by omega) hI hF
theorem st_next {X : Nat × (Nat → Int32)} {S a b : Nat} {sc : Nat → Int32} {ar : Nat → Nat → Int32} {lo : Nat → Int64} {ex : Bool} (hW : Wd S a b) (hI : Iv S sc ar) {B : Nat} (hB : sc 4939 = nI B) (hB4 : B ≤ 400) (hz : Pz sc) (ht : ¬ sc 4937 = 0) (d : Nat) : cv X S a b (d + 2) 122 [.ref 49] sc ar lo ex (fun sc' ar' => Iv S sc' ar' ∧ Fr [4935, 4937, 4938, 4939, 4940] [] sc ar sc' ar' ∧ Pz sc' ∧ ∃ B' : Nat, sc' 4939 = nI B' ∧ B + 1 ≤ B' ∧ B' ≤ 400) := by
  obtain ⟨B0, q, r, e1, e2, e3, e4, g1, g2, g3, g4⟩ := hz
  obtain rfl : B = B0 := (nI_eq (by omega) (by omega)).mp (hB.symm.trans e1)
  have hlt := g4 ht
  obtain ⟨sc', ar', ⟨k1, k2, B', q', v1, v2, v3, v4, v5, v6, v7⟩, e⟩ := sf_X10_step (X := X) (lo := lo) (ex := ex) hW hI q r (by omega) (by omega) e2 e4 d
  exact ⟨sc', ar', ⟨k1, k2, ⟨B', q', r, v1, v2, v3, (k2.1 4936 (by decide)).trans e4, v5, v6, g3, v7⟩, B', v1, by omega, by omega⟩, e⟩
set_option maxRecDepth 20000 in
theorem sf_X10_wrong {X : Nat × (Nat → Int32)} {S a b : Nat} {sc : Nat → Int32} {ar : Nat → Nat → Int32} {lo : Nat → Int64} {ex : Bool} (hW : Wd S a b) (hI : Iv S sc ar) (x1 : Int32) (d : Nat)  : cv X S a b (d + 1) 125 [.ref 49, .int x1] sc ar lo ex (fun sc' ar' => Iv S sc' ar' ∧ Fr [4941, 4942] [] sc ar sc' ar' ∧ (¬ x1 = 0 → ¬ sc' 4941 = 0)) := by
  obtain ⟨ha1, ha8, hb1, hb8, hab, hS1, hS⟩ := id hW
  refine cv_of (M := an_X10_wrong) rfl (Nat.le_of_ble_eq_true rfl) ?_
  have hF : Fr [4941, 4942] [] sc ar sc ar := fr_0
  refine to_eq (fr' := (0, [(0, .ref 49), (1, .int x1)], [], gh S a b sc ar lo, ex, 0, 0)) rfl ?_
  refine to_n 1 (fr' := (1, [(0, .ref 49), (1, .int x1)], [.ref 49], gh S a b sc ar lo, ex, 0, 0)) rfl ?_
  refine to_getR (v := (sc 4941)) rfl rfl rfl rfl rfl ?_
  refine to_if_eq (t := 8) rfl (fun q1 => ?_) (fun q1 => ?_)
  · refine to_n 2 (fr' := (10, [(0, .ref 49), (1, .int x1)], [.int x1, .ref 49], gh S a b sc ar lo, ex, 0, 0)) rfl ?_
    refine to_putR (h' := gh S a b (upd sc 4941 x1) ar lo) rfl rfl rfl (Nat.le_of_ble_eq_true rfl) rfl rfl ?_
    have hI2 := ip_4941 (v := x1) hI 
    have hF2 := fr_s (k := 4941) (v := x1) hF (by decide)
    refine to_n 2 (fr' := (15, [(0, .ref 49), (1, .int x1)], [.ref 49, .ref 49], gh S a b (upd sc 4941 x1) ar lo, ex, 0, 0)) rfl ?_
    obtain ⟨n3, hn3, e3⟩ := iv_s4939 hI2
    refine to_getR (v := (nI n3)) rfl rfl rfl rfl e3 ?_
    refine to_putR (h' := gh S a b (upd (upd sc 4941 x1) 4942 (nI n3)) ar lo) rfl rfl rfl (Nat.le_of_ble_eq_true rfl) rfl rfl ?_
    have hI4 := ip_4942 (v := (nI n3)) hI2 
    have hF4 := fr_s (k := 4942) (v := (nI n3)) hF2 (by decide)
    exact to_rt (i := .return_) (tg := []) rfl rfl ⟨_, _, ⟨hI4, hF4, (fun w => w)⟩, rfl⟩
  · exact to_rt (i := .return_) (tg := []) rfl rfl ⟨_, _, ⟨hI, hF, (fun _ => q1)⟩, rfl⟩
set_option maxRecDepth 20000 in
theorem em_ok {X : Nat × (Nat → Int32)} {S a b : Nat} {sc : Nat → Int32} {ar : Nat → Nat → Int32} {lo : Nat → Int64} {ex : Bool} (hW : Wd S a b) (hI : Iv S sc ar) (x1 : Int32) (l c : Nat) (hl : l < 6) (hc : c < 700) (eb : sc 4941 = 0) (el : sc 4907 = nI l) (ec : sc 4934 = nI c) (d : Nat)  : cv X S a b (d + 1) 126 [.ref 49, .int x1] sc ar lo ex (fun sc' ar' => Iv S sc' ar' ∧ Fr [4934] [71] sc ar sc' ar' ∧ (sc' = upd sc 4934 (nI (c + 1)) ∧ ar' = uA ar 71 (upd (ar 71) (700 * l + c) x1))) := by
  obtain ⟨ha1, ha8, hb1, hb8, hab, hS1, hS⟩ := id hW
  refine cv_of (M := an_X10_emit) rfl (Nat.le_of_ble_eq_true rfl) ?_
  have hF : Fr [4934] [71] sc ar sc ar := fr_0
  refine to_eq (fr' := (0, [(0, .ref 49), (1, .int x1)], [], gh S a b sc ar lo, ex, 0, 0)) rfl ?_
  refine to_n 1 (fr' := (1, [(0, .ref 49), (1, .int x1)], [.ref 49], gh S a b sc ar lo, ex, 0, 0)) rfl ?_
  refine to_getR (v := 0) rfl rfl rfl rfl eb ?_
  refine to_n 2 (fr' := (9, [(0, .ref 49), (1, .int x1)], [.ref 49], gh S a b sc ar lo, ex, 0, 0)) rfl ?_
  refine to_get rfl rfl rfl rfl ?_
  refine to_n 2 (fr' := (16, [(0, .ref 49), (1, .int x1)], [.ref 49, .int 700, .ref 71], gh S a b sc ar lo, ex, 0, 0)) rfl ?_
  refine to_getR (v := (nI l)) rfl rfl rfl rfl el ?_
  refine to_mulN (x := 700) (y := l) rfl ?_
  refine to_n 1 (fr' := (21, [(0, .ref 49), (1, .int x1)], [.ref 49, .int (nI (700 * l)), .ref 71], gh S a b sc ar lo, ex, 0, 0)) rfl ?_
  refine to_getR (v := (nI c)) rfl rfl rfl rfl ec ?_
  refine to_addN (x := (700 * l)) (y := c) rfl ?_
  refine to_n 1 (fr' := (26, [(0, .ref 49), (1, .int x1)], [.int x1, .int (nI ((700 * l) + c)), .ref 71], gh S a b sc ar lo, ex, 0, 0)) rfl ?_
  refine to_iasR (i := ((700 * l) + c)) (h' := gh S a b sc (uA ar 71 (upd (ar 71) ((700 * l) + c) x1)) lo) rfl rfl (by omega) (by omega) rfl ?_
  have hI1 := ia_71 (g := (upd (ar 71) ((700 * l) + c) x1)) hI
  have hF1 := fr_a (c := 71) (g := (upd (ar 71) ((700 * l) + c) x1)) hF (by decide)
  refine to_n 2 (fr' := (29, [(0, .ref 49), (1, .int x1)], [.ref 49, .ref 49], gh S a b sc (uA ar 71 (upd (ar 71) ((700 * l) + c) x1)) lo, ex, 0, 0)) rfl ?_
  refine to_getR (v := (nI c)) rfl rfl rfl rfl ec ?_
  refine to_n 1 (fr' := (33, [(0, .ref 49), (1, .int x1)], [.int 1, .int (nI c), .ref 49], gh S a b sc (uA ar 71 (upd (ar 71) ((700 * l) + c) x1)) lo, ex, 0, 0)) rfl ?_
  refine to_addN (x := c) (y := 1) rfl ?_
  refine to_putR (h' := gh S a b (upd sc 4934 (nI (c + 1))) (uA ar 71 (upd (ar 71) ((700 * l) + c) x1)) lo) rfl rfl rfl (Nat.le_of_ble_eq_true rfl) rfl rfl ?_
  have hI2 := ip_4934 (v := (nI (c + 1))) hI1 (rl_n (n := (c + 1)) (by omega))
  have hF2 := fr_s (k := 4934) (v := (nI (c + 1))) hF1 (by decide)
  exact to_rt (i := .return_) (tg := []) rfl rfl ⟨_, _, ⟨hI2, hF2, ⟨rfl, rfl⟩⟩, rfl⟩
theorem em_bad {X : Nat × (Nat → Int32)} {S a b : Nat} {sc : Nat → Int32} {ar : Nat → Nat → Int32} {lo : Nat → Int64} {ex : Bool} (x1 : Int32) (hb : ¬ sc 4941 = 0) (d : Nat) : ai_Ev an_ms an_lk X 35 (d + 1) 126 [.ref 49, .int x1] (gh S a b sc ar lo) ex (.inl (none, gh S a b sc ar lo, ex, 0, 0)) := by
  refine ev_to (M := an_X10_emit) rfl (Nat.le_of_ble_eq_true rfl) ?_
  refine to_n 1 (fr' := (1, [(0, .ref 49), (1, .int x1)], [.ref 49], gh S a b sc ar lo, ex, 0, 0)) rfl ?_
  refine to_getR (v := sc 4941) rfl rfl rfl rfl rfl ?_
  refine to_if_eq_F (t := 8) rfl hb ?_
  exact to_rt (i := .return_) (tg := []) rfl rfl rfl
