/-! the reference's reader: tokens, room for codes, what the codes do to the stack -/
theorem tk_mono {C : Nat → Int32} : ∀ (n i t top : Nat), tk C n i t top → tk C (n + 1) i t top
  | 0, i, t, top, h => fun w => absurd w (Nat.not_lt.mpr h)
  | n + 1, i, t, top, h => fun w => by
    obtain ⟨h1, h2, h3, h4⟩ := h w
    exact ⟨fun e => ⟨(h1 e).1, (h1 e).2.1, tk_mono n _ _ _ (h1 e).2.2⟩, fun e e2 => ⟨(h2 e e2).1, tk_mono n _ _ _ (h2 e e2).2⟩, fun e e2 e3 => ⟨(h3 e e2 e3).1, tk_mono n _ _ _ (h3 e e2 e3).2⟩, fun e e2 e3 => ⟨(h4 e e2 e3).1, tk_mono n _ _ _ (h4 e e2 e3).2⟩⟩
theorem tk_le {C : Nat → Int32} {n i t top : Nat} (h : tk C n i t top) : ∀ k, tk C (n + k) i t top
  | 0 => h
  | k + 1 => tk_mono _ _ _ _ (tk_le h k)
/-- the codes from i to j leave one number more, with at most h of them above where it began -/
def seg (C : Nat → Int32) (i j h : Nat) : Prop := ∀ C' : Nat → Int32, (∀ x, i ≤ x → x < j → C' x = C x) → ∀ n t top, top + h ≤ 150 → j ≤ t → tk C' n j t (top + 1) → tk C' (n + (j - i)) i t top
theorem seg_ag {C D : Nat → Int32} {i j h k : Nat} (s : seg C i j h) (hD : ∀ x, x < k → D x = C x) (hj : j ≤ k) : seg D i j h := fun C' hC => s C' (fun x h1 h2 => (hC x h1 h2).trans (hD x (by omega)))
theorem seg_le {C : Nat → Int32} {i j h h' : Nat} (s : seg C i j h) (w : h ≤ h') : seg C i j h' := fun C' hC n t top ht => s C' hC n t top (by omega)
theorem seg_push {C : Nat → Int32} {i h : Nat} (hh : 1 ≤ h) (e : C i = 0) : seg C i (i + 1 + 1) h := by
  intro C' hC n t top ht hj k
  have e' := (hC i (Nat.le_refl _) (by omega)).trans e
  rw [show n + (i + 1 + 1 - i) = n + 1 + 1 by omega]
  refine tk_mono (n + 1) i t top (fun _ => ?_)
  exact ⟨fun _ => ⟨by omega, by omega, k⟩, fun w => absurd e' w, fun w => absurd e' w, fun w => absurd e' w⟩
theorem seg_name {C : Nat → Int32} {i h : Nat} {v : Int32} (hh : 1 ≤ h) (e : C i = v) (h0 : ¬ v = 0) (h1 : 20 ≤ v) : seg C i (i + 1) h := by
  intro C' hC n t top ht hj k
  have e' := (hC i (Nat.le_refl _) (by omega)).trans e
  rw [show n + (i + 1 - i) = n + 1 by omega]
  intro _
  rw [e']
  exact ⟨fun w => absurd w h0, fun _ _ => ⟨by omega, k⟩, fun _ w => absurd h1 w, fun _ w => absurd h1 w⟩
theorem seg_bin {C : Nat → Int32} {i j k h1 h2 h : Nat} {v : Int32} (s1 : seg C i j h1) (s2 : seg C j k h2) (e : C k = v) (a1 : ¬ v = 0) (a2 : ¬ 20 ≤ v) (a3 : ¬ v = 8) (hij : i ≤ j) (hjk : j ≤ k) (w1 : h1 ≤ h) (w2 : h2 + 1 ≤ h) : seg C i (k + 1) h := by
  intro C' hC n t top ht hj g
  have e' := (hC k (by omega) (by omega)).trans e
  have g1 : tk C' (n + 1) k t (top + 1 + 1) := by
    intro _
    rw [e']
    exact ⟨fun w => absurd w a1, fun _ w => absurd w a2, fun _ _ w => absurd w a3, fun _ _ _ => ⟨by omega, g⟩⟩
  have g2 := s2 C' (fun x y1 y2 => hC x (by omega) (by omega)) (n + 1) t (top + 1) (by omega) (by omega) g1
  have g3 := s1 C' (fun x y1 y2 => hC x (by omega) (by omega)) _ t top (by omega) (by omega) g2
  rw [show n + 1 + (k - j) + (j - i) = n + (k + 1 - i) by omega] at g3
  exact g3
theorem seg_not {C : Nat → Int32} {i j h : Nat} (s : seg C i j h) (e : C j = 8) (hij : i ≤ j) : seg C i (j + 1) h := by
  intro C' hC n t top ht hj g
  have e' := (hC j (by omega) (by omega)).trans e
  have g1 : tk C' (n + 1) j t (top + 1) := by
    intro _
    rw [e']
    exact ⟨fun w => absurd w (by decide), fun _ w => absurd w (by decide), fun _ _ _ => ⟨by omega, g⟩, fun _ _ w => absurd rfl w⟩
  have g2 := s C' (fun x y1 y2 => hC x (by omega) (by omega)) (n + 1) t top (by omega) (by omega) g1
  rw [show n + 1 + (j - i) = n + (j + 1 - i) by omega] at g2
  exact g2
theorem seg_tk {C : Nat → Int32} {i j h : Nat} (s : seg C i j h) (hh : h ≤ 150) (hij : i ≤ j) (hj : j - i ≤ 701) : tk C 701 i j 0 := by
  have g := s C (fun _ _ _ => rfl) 0 j 0 (by omega) (Nat.le_refl _) (show j ≤ j from Nat.le_refl _)
  have g2 := tk_le g (701 - (j - i))
  rw [show 0 + (j - i) + (701 - (j - i)) = 701 by omega] at g2
  exact g2
/-- where the token stands in the text -/
def Pz (sc : Nat → Int32) : Prop := ∃ B q r : Nat, sc 4939 = nI B ∧ sc 4935 = nI q ∧ sc 4940 = nI q ∧ sc 4936 = nI r ∧ B ≤ q ∧ q ≤ r ∧ r ≤ 400 ∧ (¬ sc 4937 = 0 → B < q)
theorem pz_fr {L A : List Nat} {sc sc' : Nat → Int32} {ar ar' : Nat → Nat → Int32} (h : Pz sc) (f : Fr L A sc ar sc' ar') (h1 : 4939 ∉ L) (h2 : 4935 ∉ L) (h3 : 4940 ∉ L) (h4 : 4936 ∉ L) (h5 : 4937 ∉ L) : Pz sc' := by
  obtain ⟨B, q, r, e1, e2, e3, e4, g1, g2, g3, g4⟩ := h
  exact ⟨B, q, r, (f.1 _ h1).trans e1, (f.1 _ h2).trans e2, (f.1 _ h3).trans e3, (f.1 _ h4).trans e4, g1, g2, g3, fun w => g4 (fun v => w ((f.1 _ h5).trans v))⟩
theorem iw_tok {n : Nat} {P : Prop} (hn : n < 2) (hp : nI n = 0 ∨ P) (q : ¬ n = 0) : P := by
  obtain rfl : n = 1 := by omega
  exact hp.resolve_left (by decide)
theorem tok_nz {x v : Int32} (h : x = v) (hv : ¬ v = 0) : ¬ x = 0 := fun w => hv (h.symm.trans w)
set_option maxRecDepth 20000 in
theorem sf_byteAt {X : Nat × (Nat → Int32)} {S a b : Nat} {sc : Nat → Int32} {ar : Nat → Nat → Int32} {lo : Nat → Int64} {ex : Bool} (hW : Wd S a b) (hI : Iv S sc ar) (k1 : Nat) (hk1 : k1 < 401) (r : Nat) (hr : r < 401) (er : sc 4936 = nI r) (d : Nat)  : cp X S a b (d + 1) 119 [.ref 49, .int (nI k1)] sc ar lo ex (fun x => ((x = -1 ∧ r ≤ k1) ∨ (k1 < r ∧ x = ar 67 k1))) := by
  obtain ⟨ha1, ha8, hb1, hb8, hab, hS1, hS⟩ := id hW
  refine cp_of (M := an_X10_byteAt) rfl (Nat.le_of_ble_eq_true rfl) ?_
  refine to_eq (fr' := (0, [(0, .ref 49), (1, .int (nI k1))], [], gh S a b sc ar lo, ex, 0, 0)) rfl ?_
  refine to_n 2 (fr' := (2, [(0, .ref 49), (1, .int (nI k1))], [.ref 49, .int (nI k1)], gh S a b sc ar lo, ex, 0, 0)) rfl ?_
  refine to_getR (v := (nI r)) rfl rfl rfl rfl er ?_
  refine to_nc_ge (t := 17) (x := k1) (y := r) rfl (by omega) (by omega) (fun q1 => ?_) (fun q1 => ?_)
  · refine to_n 1 (fr' := (18, [(0, .ref 49), (1, .int (nI k1))], [.int (-1)], gh S a b sc ar lo, ex, 0, 0)) rfl ?_
    exact to_rt (i := .ireturn) (tg := []) rfl rfl ⟨_, (Or.inl ⟨rfl, by omega⟩), rfl⟩
  · refine to_n 1 (fr' := (9, [(0, .ref 49), (1, .int (nI k1))], [.ref 49], gh S a b sc ar lo, ex, 0, 0)) rfl ?_
    refine to_get rfl rfl rfl rfl ?_
    refine to_n 1 (fr' := (13, [(0, .ref 49), (1, .int (nI k1))], [.int (nI k1), .ref 67], gh S a b sc ar lo, ex, 0, 0)) rfl ?_
    refine to_ialR (i := k1) (v := ((ar 67) k1)) rfl (by decide) rfl (by omega) (by omega) rfl ?_
    refine to_n 1 (fr' := (18, [(0, .ref 49), (1, .int (nI k1))], [.int ((ar 67) k1)], gh S a b sc ar lo, ex, 0, 0)) rfl ?_
    exact to_rt (i := .ireturn) (tg := []) rfl rfl ⟨_, (Or.inr ⟨by omega, rfl⟩), rfl⟩
set_option maxRecDepth 20000 in
theorem sf_isLetter {X : Nat × (Nat → Int32)} {S a b : Nat} {sc : Nat → Int32} {ar : Nat → Nat → Int32} {lo : Nat → Int64} {ex : Bool} (hW : Wd S a b) (hI : Iv S sc ar) (x1 : Int32) (d : Nat)  : cp X S a b (d + 1) 120 [.int x1] sc ar lo ex (fun x => ((x = 1 ∧ (97 ≤ x1 ∧ x1 ≤ 122)) ∨ (x = 0 ∧ ¬ (97 ≤ x1 ∧ x1 ≤ 122)))) := by
  obtain ⟨ha1, ha8, hb1, hb8, hab, hS1, hS⟩ := id hW
  refine cp_of (M := an_X10_isLetter) rfl (Nat.le_of_ble_eq_true rfl) ?_
  refine to_eq (fr' := (0, [(0, .int x1)], [], gh S a b sc ar lo, ex, 0, 0)) rfl ?_
  refine to_n 2 (fr' := (3, [(0, .int x1)], [.int 97, .int x1], gh S a b sc ar lo, ex, 0, 0)) rfl ?_
  refine to_ic_lt (t := 16) rfl (fun q1 => ?_) (fun q1 => ?_)
  · refine to_n 1 (fr' := (17, [(0, .int x1)], [.int 0], gh S a b sc ar lo, ex, 0, 0)) rfl ?_
    exact to_rt (i := .ireturn) (tg := []) rfl rfl ⟨_, (Or.inr ⟨rfl, fun w => Int32.not_lt.mpr w.1 q1⟩), rfl⟩
  · refine to_n 2 (fr' := (9, [(0, .int x1)], [.int 122, .int x1], gh S a b sc ar lo, ex, 0, 0)) rfl ?_
    refine to_ic_gt (t := 16) rfl (fun q2 => ?_) (fun q2 => ?_)
    · refine to_n 1 (fr' := (17, [(0, .int x1)], [.int 0], gh S a b sc ar lo, ex, 0, 0)) rfl ?_
      exact to_rt (i := .ireturn) (tg := []) rfl rfl ⟨_, (Or.inr ⟨rfl, fun w => Int32.not_lt.mpr w.2 q2⟩), rfl⟩
    · refine to_n 2 (fr' := (17, [(0, .int x1)], [.int 1], gh S a b sc ar lo, ex, 0, 0)) rfl ?_
      exact to_rt (i := .ireturn) (tg := []) rfl rfl ⟨_, (Or.inl ⟨rfl, Int32.not_lt.mp q1, Int32.not_lt.mp q2⟩), rfl⟩
set_option maxRecDepth 20000 in
theorem sf_isDigit {X : Nat × (Nat → Int32)} {S a b : Nat} {sc : Nat → Int32} {ar : Nat → Nat → Int32} {lo : Nat → Int64} {ex : Bool} (hW : Wd S a b) (hI : Iv S sc ar) (x1 : Int32) (d : Nat)  : cp X S a b (d + 1) 121 [.int x1] sc ar lo ex (fun x => ((x = 1 ∧ (48 ≤ x1 ∧ x1 ≤ 57)) ∨ (x = 0 ∧ ¬ (48 ≤ x1 ∧ x1 ≤ 57)))) := by
  obtain ⟨ha1, ha8, hb1, hb8, hab, hS1, hS⟩ := id hW
  refine cp_of (M := an_X10_isDigit) rfl (Nat.le_of_ble_eq_true rfl) ?_
  refine to_eq (fr' := (0, [(0, .int x1)], [], gh S a b sc ar lo, ex, 0, 0)) rfl ?_
  refine to_n 2 (fr' := (3, [(0, .int x1)], [.int 48, .int x1], gh S a b sc ar lo, ex, 0, 0)) rfl ?_
  refine to_ic_lt (t := 16) rfl (fun q1 => ?_) (fun q1 => ?_)
  · refine to_n 1 (fr' := (17, [(0, .int x1)], [.int 0], gh S a b sc ar lo, ex, 0, 0)) rfl ?_
    exact to_rt (i := .ireturn) (tg := []) rfl rfl ⟨_, (Or.inr ⟨rfl, fun w => Int32.not_lt.mpr w.1 q1⟩), rfl⟩
  · refine to_n 2 (fr' := (9, [(0, .int x1)], [.int 57, .int x1], gh S a b sc ar lo, ex, 0, 0)) rfl ?_
    refine to_ic_gt (t := 16) rfl (fun q2 => ?_) (fun q2 => ?_)
    · refine to_n 1 (fr' := (17, [(0, .int x1)], [.int 0], gh S a b sc ar lo, ex, 0, 0)) rfl ?_
      exact to_rt (i := .ireturn) (tg := []) rfl rfl ⟨_, (Or.inr ⟨rfl, fun w => Int32.not_lt.mpr w.2 q2⟩), rfl⟩
    · refine to_n 2 (fr' := (17, [(0, .int x1)], [.int 1], gh S a b sc ar lo, ex, 0, 0)) rfl ?_
      exact to_rt (i := .ireturn) (tg := []) rfl rfl ⟨_, (Or.inl ⟨rfl, Int32.not_lt.mp q1, Int32.not_lt.mp q2⟩), rfl⟩
/-! the reference's token: what stands at B, up to q -/
def Tq (T : Nat → Int32) (r B q : Nat) (sc : Nat → Int32) : Prop := (sc 4937 = 0 ∧ B = r ∧ q = r) ∨ (sc 4937 = 1 ∧ B < r ∧ ilt (T B) ∧ rn_ ilt T r B q) ∨ (sc 4937 = 2 ∧ B < r ∧ ¬ ilt (T B) ∧ idg (T B) ∧ rn_ idg T r B q) ∨ (sc 4937 = 3 ∧ B < r ∧ ¬ ilt (T B) ∧ ¬ idg (T B) ∧ q = B + 1 ∧ sc 4938 = T B ∧ ¬ sgc (T B) = -2) ∨ (sc 4937 = 4 ∧ B < r ∧ ¬ ilt (T B) ∧ ¬ idg (T B) ∧ q = B + 1 ∧ sgc (T B) = -2)
set_option maxRecDepth 20000 in
theorem sf_X10_step {X : Nat × (Nat → Int32)} {S a b : Nat} {sc : Nat → Int32} {ar : Nat → Nat → Int32} {lo : Nat → Int64} {ex : Bool} (hW : Wd S a b) (hI : Iv S sc ar) (p r : Nat) (hpr : p ≤ r) (hr : r ≤ 400) (e1 : sc 4935 = nI p) (e2 : sc 4936 = nI r) (hne : ∀ t, t < r → ¬ ar 67 t = -1) (d : Nat)  : cv X S a b (d + 2) 122 [.ref 49] sc ar lo ex (fun sc' ar' => Iv S sc' ar' ∧ Fr [4935, 4937, 4938, 4939, 4940] [] sc ar sc' ar' ∧ (∃ B q : Nat, sc' 4939 = nI B ∧ sc' 4935 = nI q ∧ sc' 4940 = nI q ∧ p ≤ B ∧ B ≤ q ∧ q ≤ r ∧ (¬ sc' 4937 = 0 → B < q) ∧ rn_ isp (ar 67) r p B ∧ Tq (ar 67) r B q sc')) := by
  obtain ⟨ha1, ha8, hb1, hb8, hab, hS1, hS⟩ := id hW
  refine cv_of (M := an_X10_step) rfl (Nat.le_of_ble_eq_true rfl) ?_
  have hF : Fr [4935, 4937, 4938, 4939, 4940] [] sc ar sc ar := fr_0
  refine to_eq (fr' := (0, [(0, .ref 49)], [], gh S a b sc ar lo, ex, 0, 0)) rfl ?_
  have c240 : ∀ (B : Nat) (q : Nat) (sc1 : Nat → Int32) (ar1 : Nat → Nat → Int32), sc1 4939 = nI B → sc1 4935 = nI q → sc1 4936 = nI r → p ≤ B → B ≤ q → q ≤ r → (¬ sc1 4937 = 0 → B < q) → rn_ isp (ar 67) r p B → Tq (ar 67) r B q sc1 → Iv S sc1 ar1 → Fr [4935, 4937, 4938, 4939, 4940] [] sc ar sc1 ar1 → ag_To X (d + 1) an_X10_step (240, [(0, .ref 49)], [], gh S a b sc1 ar1 lo, ex, 0, 0) (qv S a b lo ex (fun sc' ar' => Iv S sc' ar' ∧ Fr [4935, 4937, 4938, 4939, 4940] [] sc ar sc' ar' ∧ (∃ B q : Nat, sc' 4939 = nI B ∧ sc' 4935 = nI q ∧ sc' 4940 = nI q ∧ p ≤ B ∧ B ≤ q ∧ q ≤ r ∧ (¬ sc' 4937 = 0 → B < q) ∧ rn_ isp (ar 67) r p B ∧ Tq (ar 67) r B q sc'))) := by
    intro B q sc1 ar1 hc240_0 hc240_1 hc240_2 hc240_3 hc240_4 hc240_5 hc240_6 hc240_7 hc240_8 hI1 hF1
    obtain rfl : ar = ar1 := fr_nil hF1
    refine to_n 2 (fr' := (242, [(0, .ref 49)], [.ref 49, .ref 49], gh S a b sc1 ar lo, ex, 0, 0)) rfl ?_
    refine to_getR (v := (nI q)) rfl rfl rfl rfl hc240_1 ?_
    refine to_putR (h' := gh S a b (upd sc1 4940 (nI q)) ar lo) rfl rfl rfl (Nat.le_of_ble_eq_true rfl) rfl rfl ?_
    have hI2 := ip_4940 (v := (nI q)) hI1 (rl_n (n := q) (by omega))
    have hF2 := fr_s (k := 4940) (v := (nI q)) hF1 (by decide)
    exact to_rt (i := .return_) (tg := []) rfl rfl ⟨_, _, ⟨hI2, hF2, ⟨B, q, hc240_0, hc240_1, rfl, by omega, by omega, by omega, hc240_6, hc240_7, hc240_8⟩⟩, rfl⟩
  have c81 : ∀ m : Nat, ∀ (y : Int32) (B : Nat) (q : Nat) (sc3 : Nat → Int32) (ar3 : Nat → Nat → Int32), q + m = r → sc3 4939 = nI B → sc3 4935 = nI q → sc3 4936 = nI r → p ≤ B → B ≤ q → B < r → q ≤ r → rn_ isp (ar 67) r p B → (∀ t, B ≤ t → t < q → ilt (ar 67 t)) → ilt (ar 67 B) → Iv S sc3 ar3 → Fr [4935, 4937, 4938, 4939, 4940] [] sc ar sc3 ar3 → ag_To X (d + 1) an_X10_step (81, [(0, .ref 49), (1, .int y)], [], gh S a b sc3 ar3 lo, ex, 0, 0) (qv S a b lo ex (fun sc' ar' => Iv S sc' ar' ∧ Fr [4935, 4937, 4938, 4939, 4940] [] sc ar sc' ar' ∧ (∃ B q : Nat, sc' 4939 = nI B ∧ sc' 4935 = nI q ∧ sc' 4940 = nI q ∧ p ≤ B ∧ B ≤ q ∧ q ≤ r ∧ (¬ sc' 4937 = 0 → B < q) ∧ rn_ isp (ar 67) r p B ∧ Tq (ar 67) r B q sc'))) := by
    intro m
    induction m with
    | zero =>
      intro y B q sc3 ar3 hm hc81_0 hc81_1 hc81_2 hc81_3 hc81_4 hc81_5 hc81_6 hc81_7 hc81_8 hc81_9 hI3 hF3
      obtain rfl : ar = ar3 := fr_nil hF3
      refine to_n 2 (fr' := (83, [(0, .ref 49), (1, .int y)], [.ref 49, .ref 49], gh S a b sc3 ar lo, ex, 0, 0)) rfl ?_
      refine to_getR (v := (nI q)) rfl rfl rfl rfl hc81_1 ?_
      refine to_cp (q := 119) (M1 := an_X10_byteAt) (rest := []) rfl rfl (by decide) rfl ⟨_, rfl⟩ (sf_byteAt hW hI3 q (by omega) r (by omega) hc81_2 d) (fun x4 hx4 => ?_)
      rcases hx4 with ⟨rfl, w4⟩ | ⟨w4, rfl⟩
      · refine to_eq (fr' := (89, [(0, .ref 49), (1, .int y)], [.int (-1)], gh S a b sc3 ar lo, ex, 0, 0)) rfl ?_
        refine to_cp (q := 120) (M1 := an_X10_isLetter) (rest := []) rfl rfl (by decide) rfl trivial (sf_isLetter hW hI3 (-1) d) (fun x5 hx5 => ?_)
        rcases hx5 with ⟨rfl, w5⟩ | ⟨rfl, w5⟩
        · exact absurd w5.1 (by decide)
        · refine to_eq (fr' := (92, [(0, .ref 49), (1, .int y)], [.int 0], gh S a b sc3 ar lo, ex, 0, 0)) rfl ?_
          refine to_n 3 (fr' := (110, [(0, .ref 49), (1, .int y)], [.int 1, .ref 49], gh S a b sc3 ar lo, ex, 0, 0)) rfl ?_
          refine to_putR (h' := gh S a b (upd sc3 4937 1) ar lo) rfl rfl rfl (Nat.le_of_ble_eq_true rfl) rfl rfl ?_
          have hI6 := ip_4937 (v := 1) hI3 
          have hF6 := fr_s (k := 4937) (v := 1) hF3 (by decide)
          refine to_n 1 (fr' := (240, [(0, .ref 49), (1, .int y)], [], gh S a b (upd sc3 4937 1) ar lo, ex, 0, 0)) rfl ?_
          have hlt : B < q := rn_lt (P := ilt) (T := ar 67) (n := r) ⟨by omega, by omega, hc81_8, (fun w => absurd w (by omega))⟩ (by omega) hc81_9
          refine to_lv (lv := [(0, .ref 49)]) rfl ⟨rfl, trivial⟩ ?_
          exact c240 B q (upd sc3 4937 1) ar (hc81_0) (hc81_1) (hc81_2) (by omega) (by omega) (by omega) (fun _ => by omega) hc81_7 (Or.inr (Or.inl ⟨rfl, by omega, hc81_9, ⟨by omega, by omega, hc81_8, (fun w => absurd w (by omega))⟩⟩)) hI6 hF6
      · refine to_eq (fr' := (89, [(0, .ref 49), (1, .int y)], [.int (ar 67 q)], gh S a b sc3 ar lo, ex, 0, 0)) rfl ?_
        refine to_cp (q := 120) (M1 := an_X10_isLetter) (rest := []) rfl rfl (by decide) rfl trivial (sf_isLetter hW hI3 (ar 67 q) d) (fun x7 hx7 => ?_)
        rcases hx7 with ⟨rfl, w7⟩ | ⟨rfl, w7⟩
        · refine to_eq (fr' := (92, [(0, .ref 49), (1, .int y)], [.int 1], gh S a b sc3 ar lo, ex, 0, 0)) rfl ?_
          refine to_n 3 (fr' := (97, [(0, .ref 49), (1, .int y)], [.ref 49, .ref 49], gh S a b sc3 ar lo, ex, 0, 0)) rfl ?_
          refine to_getR (v := (nI q)) rfl rfl rfl rfl hc81_1 ?_
          refine to_n 1 (fr' := (101, [(0, .ref 49), (1, .int y)], [.int 1, .int (nI q), .ref 49], gh S a b sc3 ar lo, ex, 0, 0)) rfl ?_
          refine to_addN (x := q) (y := 1) rfl ?_
          refine to_putR (h' := gh S a b (upd sc3 4935 (nI (q + 1))) ar lo) rfl rfl rfl (Nat.le_of_ble_eq_true rfl) rfl rfl ?_
          have hI8 := ip_4935 (v := (nI (q + 1))) hI3 (rl_n (n := (q + 1)) (by omega))
          have hF8 := fr_s (k := 4935) (v := (nI (q + 1))) hF3 (by decide)
          refine to_n 1 (fr' := (81, [(0, .ref 49), (1, .int y)], [], gh S a b (upd sc3 4935 (nI (q + 1))) ar lo, ex, 0, 0)) rfl ?_
          exfalso
          omega
        · refine to_eq (fr' := (92, [(0, .ref 49), (1, .int y)], [.int 0], gh S a b sc3 ar lo, ex, 0, 0)) rfl ?_
          refine to_n 3 (fr' := (110, [(0, .ref 49), (1, .int y)], [.int 1, .ref 49], gh S a b sc3 ar lo, ex, 0, 0)) rfl ?_
          refine to_putR (h' := gh S a b (upd sc3 4937 1) ar lo) rfl rfl rfl (Nat.le_of_ble_eq_true rfl) rfl rfl ?_
          have hI9 := ip_4937 (v := 1) hI3 
          have hF9 := fr_s (k := 4937) (v := 1) hF3 (by decide)
          refine to_n 1 (fr' := (240, [(0, .ref 49), (1, .int y)], [], gh S a b (upd sc3 4937 1) ar lo, ex, 0, 0)) rfl ?_
          have hlt : B < q := rn_lt (P := ilt) (T := ar 67) (n := r) ⟨by omega, by omega, hc81_8, (fun _ => w7)⟩ (by omega) hc81_9
          refine to_lv (lv := [(0, .ref 49)]) rfl ⟨rfl, trivial⟩ ?_
          exact c240 B q (upd sc3 4937 1) ar (hc81_0) (hc81_1) (hc81_2) (by omega) (by omega) (by omega) (fun _ => by omega) hc81_7 (Or.inr (Or.inl ⟨rfl, by omega, hc81_9, ⟨by omega, by omega, hc81_8, (fun _ => w7)⟩⟩)) hI9 hF9
    | succ m ih =>
      intro y B q sc3 ar3 hm hc81_0 hc81_1 hc81_2 hc81_3 hc81_4 hc81_5 hc81_6 hc81_7 hc81_8 hc81_9 hI3 hF3
      obtain rfl : ar = ar3 := fr_nil hF3
      refine to_n 2 (fr' := (83, [(0, .ref 49), (1, .int y)], [.ref 49, .ref 49], gh S a b sc3 ar lo, ex, 0, 0)) rfl ?_
      refine to_getR (v := (nI q)) rfl rfl rfl rfl hc81_1 ?_
      refine to_cp (q := 119) (M1 := an_X10_byteAt) (rest := []) rfl rfl (by decide) rfl ⟨_, rfl⟩ (sf_byteAt hW hI3 q (by omega) r (by omega) hc81_2 d) (fun x10 hx10 => ?_)
      rcases hx10 with ⟨rfl, w10⟩ | ⟨w10, rfl⟩
      · refine to_eq (fr' := (89, [(0, .ref 49), (1, .int y)], [.int (-1)], gh S a b sc3 ar lo, ex, 0, 0)) rfl ?_
        refine to_cp (q := 120) (M1 := an_X10_isLetter) (rest := []) rfl rfl (by decide) rfl trivial (sf_isLetter hW hI3 (-1) d) (fun x11 hx11 => ?_)
        rcases hx11 with ⟨rfl, w11⟩ | ⟨rfl, w11⟩
        · exact absurd w11.1 (by decide)
        · refine to_eq (fr' := (92, [(0, .ref 49), (1, .int y)], [.int 0], gh S a b sc3 ar lo, ex, 0, 0)) rfl ?_
          refine to_n 3 (fr' := (110, [(0, .ref 49), (1, .int y)], [.int 1, .ref 49], gh S a b sc3 ar lo, ex, 0, 0)) rfl ?_
          refine to_putR (h' := gh S a b (upd sc3 4937 1) ar lo) rfl rfl rfl (Nat.le_of_ble_eq_true rfl) rfl rfl ?_
          have hI12 := ip_4937 (v := 1) hI3 
          have hF12 := fr_s (k := 4937) (v := 1) hF3 (by decide)
          refine to_n 1 (fr' := (240, [(0, .ref 49), (1, .int y)], [], gh S a b (upd sc3 4937 1) ar lo, ex, 0, 0)) rfl ?_
          have hlt : B < q := rn_lt (P := ilt) (T := ar 67) (n := r) ⟨by omega, by omega, hc81_8, (fun w => absurd w (by omega))⟩ (by omega) hc81_9
          refine to_lv (lv := [(0, .ref 49)]) rfl ⟨rfl, trivial⟩ ?_
          exact c240 B q (upd sc3 4937 1) ar (hc81_0) (hc81_1) (hc81_2) (by omega) (by omega) (by omega) (fun _ => by omega) hc81_7 (Or.inr (Or.inl ⟨rfl, by omega, hc81_9, ⟨by omega, by omega, hc81_8, (fun w => absurd w (by omega))⟩⟩)) hI12 hF12
      · refine to_eq (fr' := (89, [(0, .ref 49), (1, .int y)], [.int (ar 67 q)], gh S a b sc3 ar lo, ex, 0, 0)) rfl ?_
        refine to_cp (q := 120) (M1 := an_X10_isLetter) (rest := []) rfl rfl (by decide) rfl trivial (sf_isLetter hW hI3 (ar 67 q) d) (fun x13 hx13 => ?_)
        rcases hx13 with ⟨rfl, w13⟩ | ⟨rfl, w13⟩
        · refine to_eq (fr' := (92, [(0, .ref 49), (1, .int y)], [.int 1], gh S a b sc3 ar lo, ex, 0, 0)) rfl ?_
          refine to_n 3 (fr' := (97, [(0, .ref 49), (1, .int y)], [.ref 49, .ref 49], gh S a b sc3 ar lo, ex, 0, 0)) rfl ?_
          refine to_getR (v := (nI q)) rfl rfl rfl rfl hc81_1 ?_
          refine to_n 1 (fr' := (101, [(0, .ref 49), (1, .int y)], [.int 1, .int (nI q), .ref 49], gh S a b sc3 ar lo, ex, 0, 0)) rfl ?_
          refine to_addN (x := q) (y := 1) rfl ?_
          refine to_putR (h' := gh S a b (upd sc3 4935 (nI (q + 1))) ar lo) rfl rfl rfl (Nat.le_of_ble_eq_true rfl) rfl rfl ?_
          have hI14 := ip_4935 (v := (nI (q + 1))) hI3 (rl_n (n := (q + 1)) (by omega))
          have hF14 := fr_s (k := 4935) (v := (nI (q + 1))) hF3 (by decide)
          refine to_n 1 (fr' := (81, [(0, .ref 49), (1, .int y)], [], gh S a b (upd sc3 4935 (nI (q + 1))) ar lo, ex, 0, 0)) rfl ?_
          exact ih y B (q + 1) (upd sc3 4935 (nI (q + 1))) ar (by omega) (hc81_0) (rfl) (hc81_2) (by omega) (by omega) (by omega) (by omega) hc81_7 (al_up2 hc81_8 w13) hc81_9 hI14 hF14
        · refine to_eq (fr' := (92, [(0, .ref 49), (1, .int y)], [.int 0], gh S a b sc3 ar lo, ex, 0, 0)) rfl ?_
          refine to_n 3 (fr' := (110, [(0, .ref 49), (1, .int y)], [.int 1, .ref 49], gh S a b sc3 ar lo, ex, 0, 0)) rfl ?_
          refine to_putR (h' := gh S a b (upd sc3 4937 1) ar lo) rfl rfl rfl (Nat.le_of_ble_eq_true rfl) rfl rfl ?_
          have hI15 := ip_4937 (v := 1) hI3 
          have hF15 := fr_s (k := 4937) (v := 1) hF3 (by decide)
          refine to_n 1 (fr' := (240, [(0, .ref 49), (1, .int y)], [], gh S a b (upd sc3 4937 1) ar lo, ex, 0, 0)) rfl ?_
          have hlt : B < q := rn_lt (P := ilt) (T := ar 67) (n := r) ⟨by omega, by omega, hc81_8, (fun _ => w13)⟩ (by omega) hc81_9
          refine to_lv (lv := [(0, .ref 49)]) rfl ⟨rfl, trivial⟩ ?_
          exact c240 B q (upd sc3 4937 1) ar (hc81_0) (hc81_1) (hc81_2) (by omega) (by omega) (by omega) (fun _ => by omega) hc81_7 (Or.inr (Or.inl ⟨rfl, by omega, hc81_9, ⟨by omega, by omega, hc81_8, (fun _ => w13)⟩⟩)) hI15 hF15
  have c123 : ∀ m : Nat, ∀ (y : Int32) (B : Nat) (q : Nat) (sc16 : Nat → Int32) (ar16 : Nat → Nat → Int32), q + m = r → sc16 4939 = nI B → sc16 4935 = nI q → sc16 4936 = nI r → p ≤ B → B ≤ q → B < r → q ≤ r → rn_ isp (ar 67) r p B → (∀ t, B ≤ t → t < q → idg (ar 67 t)) → idg (ar 67 B) → ¬ ilt (ar 67 B) → Iv S sc16 ar16 → Fr [4935, 4937, 4938, 4939, 4940] [] sc ar sc16 ar16 → ag_To X (d + 1) an_X10_step (123, [(0, .ref 49), (1, .int y)], [], gh S a b sc16 ar16 lo, ex, 0, 0) (qv S a b lo ex (fun sc' ar' => Iv S sc' ar' ∧ Fr [4935, 4937, 4938, 4939, 4940] [] sc ar sc' ar' ∧ (∃ B q : Nat, sc' 4939 = nI B ∧ sc' 4935 = nI q ∧ sc' 4940 = nI q ∧ p ≤ B ∧ B ≤ q ∧ q ≤ r ∧ (¬ sc' 4937 = 0 → B < q) ∧ rn_ isp (ar 67) r p B ∧ Tq (ar 67) r B q sc'))) := by
    intro m
    induction m with
    | zero =>
      intro y B q sc16 ar16 hm hc123_0 hc123_1 hc123_2 hc123_3 hc123_4 hc123_5 hc123_6 hc123_7 hc123_8 hc123_9 hc123_10 hI16 hF16
      obtain rfl : ar = ar16 := fr_nil hF16
      refine to_n 2 (fr' := (125, [(0, .ref 49), (1, .int y)], [.ref 49, .ref 49], gh S a b sc16 ar lo, ex, 0, 0)) rfl ?_
      refine to_getR (v := (nI q)) rfl rfl rfl rfl hc123_1 ?_
      refine to_cp (q := 119) (M1 := an_X10_byteAt) (rest := []) rfl rfl (by decide) rfl ⟨_, rfl⟩ (sf_byteAt hW hI16 q (by omega) r (by omega) hc123_2 d) (fun x17 hx17 => ?_)
      rcases hx17 with ⟨rfl, w17⟩ | ⟨w17, rfl⟩
      · refine to_eq (fr' := (131, [(0, .ref 49), (1, .int y)], [.int (-1)], gh S a b sc16 ar lo, ex, 0, 0)) rfl ?_
        refine to_cp (q := 121) (M1 := an_X10_isDigit) (rest := []) rfl rfl (by decide) rfl trivial (sf_isDigit hW hI16 (-1) d) (fun x18 hx18 => ?_)
        rcases hx18 with ⟨rfl, w18⟩ | ⟨rfl, w18⟩
        · exact absurd w18.1 (by decide)
        · refine to_eq (fr' := (134, [(0, .ref 49), (1, .int y)], [.int 0], gh S a b sc16 ar lo, ex, 0, 0)) rfl ?_
          refine to_n 3 (fr' := (152, [(0, .ref 49), (1, .int y)], [.int 2, .ref 49], gh S a b sc16 ar lo, ex, 0, 0)) rfl ?_
          refine to_putR (h' := gh S a b (upd sc16 4937 2) ar lo) rfl rfl rfl (Nat.le_of_ble_eq_true rfl) rfl rfl ?_
          have hI19 := ip_4937 (v := 2) hI16 
          have hF19 := fr_s (k := 4937) (v := 2) hF16 (by decide)
          refine to_n 1 (fr' := (240, [(0, .ref 49), (1, .int y)], [], gh S a b (upd sc16 4937 2) ar lo, ex, 0, 0)) rfl ?_
          have hlt : B < q := rn_lt (P := idg) (T := ar 67) (n := r) ⟨by omega, by omega, hc123_8, (fun w => absurd w (by omega))⟩ (by omega) hc123_9
          refine to_lv (lv := [(0, .ref 49)]) rfl ⟨rfl, trivial⟩ ?_
          exact c240 B q (upd sc16 4937 2) ar (hc123_0) (hc123_1) (hc123_2) (by omega) (by omega) (by omega) (fun _ => by omega) hc123_7 (Or.inr (Or.inr (Or.inl ⟨rfl, by omega, hc123_10, hc123_9, ⟨by omega, by omega, hc123_8, (fun w => absurd w (by omega))⟩⟩))) hI19 hF19
      · refine to_eq (fr' := (131, [(0, .ref 49), (1, .int y)], [.int (ar 67 q)], gh S a b sc16 ar lo, ex, 0, 0)) rfl ?_
        refine to_cp (q := 121) (M1 := an_X10_isDigit) (rest := []) rfl rfl (by decide) rfl trivial (sf_isDigit hW hI16 (ar 67 q) d) (fun x20 hx20 => ?_)
        rcases hx20 with ⟨rfl, w20⟩ | ⟨rfl, w20⟩
        · refine to_eq (fr' := (134, [(0, .ref 49), (1, .int y)], [.int 1], gh S a b sc16 ar lo, ex, 0, 0)) rfl ?_
          refine to_n 3 (fr' := (139, [(0, .ref 49), (1, .int y)], [.ref 49, .ref 49], gh S a b sc16 ar lo, ex, 0, 0)) rfl ?_
          refine to_getR (v := (nI q)) rfl rfl rfl rfl hc123_1 ?_
          refine to_n 1 (fr' := (143, [(0, .ref 49), (1, .int y)], [.int 1, .int (nI q), .ref 49], gh S a b sc16 ar lo, ex, 0, 0)) rfl ?_
          refine to_addN (x := q) (y := 1) rfl ?_
          refine to_putR (h' := gh S a b (upd sc16 4935 (nI (q + 1))) ar lo) rfl rfl rfl (Nat.le_of_ble_eq_true rfl) rfl rfl ?_
          have hI21 := ip_4935 (v := (nI (q + 1))) hI16 (rl_n (n := (q + 1)) (by omega))
          have hF21 := fr_s (k := 4935) (v := (nI (q + 1))) hF16 (by decide)
          refine to_n 1 (fr' := (123, [(0, .ref 49), (1, .int y)], [], gh S a b (upd sc16 4935 (nI (q + 1))) ar lo, ex, 0, 0)) rfl ?_
          exfalso
          omega
        · refine to_eq (fr' := (134, [(0, .ref 49), (1, .int y)], [.int 0], gh S a b sc16 ar lo, ex, 0, 0)) rfl ?_
          refine to_n 3 (fr' := (152, [(0, .ref 49), (1, .int y)], [.int 2, .ref 49], gh S a b sc16 ar lo, ex, 0, 0)) rfl ?_
          refine to_putR (h' := gh S a b (upd sc16 4937 2) ar lo) rfl rfl rfl (Nat.le_of_ble_eq_true rfl) rfl rfl ?_
          have hI22 := ip_4937 (v := 2) hI16 
          have hF22 := fr_s (k := 4937) (v := 2) hF16 (by decide)
          refine to_n 1 (fr' := (240, [(0, .ref 49), (1, .int y)], [], gh S a b (upd sc16 4937 2) ar lo, ex, 0, 0)) rfl ?_
          have hlt : B < q := rn_lt (P := idg) (T := ar 67) (n := r) ⟨by omega, by omega, hc123_8, (fun _ => w20)⟩ (by omega) hc123_9
          refine to_lv (lv := [(0, .ref 49)]) rfl ⟨rfl, trivial⟩ ?_
          exact c240 B q (upd sc16 4937 2) ar (hc123_0) (hc123_1) (hc123_2) (by omega) (by omega) (by omega) (fun _ => by omega) hc123_7 (Or.inr (Or.inr (Or.inl ⟨rfl, by omega, hc123_10, hc123_9, ⟨by omega, by omega, hc123_8, (fun _ => w20)⟩⟩))) hI22 hF22
    | succ m ih =>
      intro y B q sc16 ar16 hm hc123_0 hc123_1 hc123_2 hc123_3 hc123_4 hc123_5 hc123_6 hc123_7 hc123_8 hc123_9 hc123_10 hI16 hF16
      obtain rfl : ar = ar16 := fr_nil hF16
      refine to_n 2 (fr' := (125, [(0, .ref 49), (1, .int y)], [.ref 49, .ref 49], gh S a b sc16 ar lo, ex, 0, 0)) rfl ?_
      refine to_getR (v := (nI q)) rfl rfl rfl rfl hc123_1 ?_
      refine to_cp (q := 119) (M1 := an_X10_byteAt) (rest := []) rfl rfl (by decide) rfl ⟨_, rfl⟩ (sf_byteAt hW hI16 q (by omega) r (by omega) hc123_2 d) (fun x23 hx23 => ?_)
      rcases hx23 with ⟨rfl, w23⟩ | ⟨w23, rfl⟩
      · refine to_eq (fr' := (131, [(0, .ref 49), (1, .int y)], [.int (-1)], gh S a b sc16 ar lo, ex, 0, 0)) rfl ?_
        refine to_cp (q := 121) (M1 := an_X10_isDigit) (rest := []) rfl rfl (by decide) rfl trivial (sf_isDigit hW hI16 (-1) d) (fun x24 hx24 => ?_)
        rcases hx24 with ⟨rfl, w24⟩ | ⟨rfl, w24⟩
        · exact absurd w24.1 (by decide)
        · refine to_eq (fr' := (134, [(0, .ref 49), (1, .int y)], [.int 0], gh S a b sc16 ar lo, ex, 0, 0)) rfl ?_
          refine to_n 3 (fr' := (152, [(0, .ref 49), (1, .int y)], [.int 2, .ref 49], gh S a b sc16 ar lo, ex, 0, 0)) rfl ?_
          refine to_putR (h' := gh S a b (upd sc16 4937 2) ar lo) rfl rfl rfl (Nat.le_of_ble_eq_true rfl) rfl rfl ?_
          have hI25 := ip_4937 (v := 2) hI16 
          have hF25 := fr_s (k := 4937) (v := 2) hF16 (by decide)
          refine to_n 1 (fr' := (240, [(0, .ref 49), (1, .int y)], [], gh S a b (upd sc16 4937 2) ar lo, ex, 0, 0)) rfl ?_
          have hlt : B < q := rn_lt (P := idg) (T := ar 67) (n := r) ⟨by omega, by omega, hc123_8, (fun w => absurd w (by omega))⟩ (by omega) hc123_9
          refine to_lv (lv := [(0, .ref 49)]) rfl ⟨rfl, trivial⟩ ?_
          exact c240 B q (upd sc16 4937 2) ar (hc123_0) (hc123_1) (hc123_2) (by omega) (by omega) (by omega) (fun _ => by omega) hc123_7 (Or.inr (Or.inr (Or.inl ⟨rfl, by omega, hc123_10, hc123_9, ⟨by omega, by omega, hc123_8, (fun w => absurd w (by omega))⟩⟩))) hI25 hF25
      · refine to_eq (fr' := (131, [(0, .ref 49), (1, .int y)], [.int (ar 67 q)], gh S a b sc16 ar lo, ex, 0, 0)) rfl ?_
        refine to_cp (q := 121) (M1 := an_X10_isDigit) (rest := []) rfl rfl (by decide) rfl trivial (sf_isDigit hW hI16 (ar 67 q) d) (fun x26 hx26 => ?_)
        rcases hx26 with ⟨rfl, w26⟩ | ⟨rfl, w26⟩
        · refine to_eq (fr' := (134, [(0, .ref 49), (1, .int y)], [.int 1], gh S a b sc16 ar lo, ex, 0, 0)) rfl ?_
          refine to_n 3 (fr' := (139, [(0, .ref 49), (1, .int y)], [.ref 49, .ref 49], gh S a b sc16 ar lo, ex, 0, 0)) rfl ?_
          refine to_getR (v := (nI q)) rfl rfl rfl rfl hc123_1 ?_
          refine to_n 1 (fr' := (143, [(0, .ref 49), (1, .int y)], [.int 1, .int (nI q), .ref 49], gh S a b sc16 ar lo, ex, 0, 0)) rfl ?_
          refine to_addN (x := q) (y := 1) rfl ?_
          refine to_putR (h' := gh S a b (upd sc16 4935 (nI (q + 1))) ar lo) rfl rfl rfl (Nat.le_of_ble_eq_true rfl) rfl rfl ?_
          have hI27 := ip_4935 (v := (nI (q + 1))) hI16 (rl_n (n := (q + 1)) (by omega))
          have hF27 := fr_s (k := 4935) (v := (nI (q + 1))) hF16 (by decide)
          refine to_n 1 (fr' := (123, [(0, .ref 49), (1, .int y)], [], gh S a b (upd sc16 4935 (nI (q + 1))) ar lo, ex, 0, 0)) rfl ?_
          exact ih y B (q + 1) (upd sc16 4935 (nI (q + 1))) ar (by omega) (hc123_0) (rfl) (hc123_2) (by omega) (by omega) (by omega) (by omega) hc123_7 (al_up2 hc123_8 w26) hc123_9 hc123_10 hI27 hF27
        · refine to_eq (fr' := (134, [(0, .ref 49), (1, .int y)], [.int 0], gh S a b sc16 ar lo, ex, 0, 0)) rfl ?_
          refine to_n 3 (fr' := (152, [(0, .ref 49), (1, .int y)], [.int 2, .ref 49], gh S a b sc16 ar lo, ex, 0, 0)) rfl ?_
          refine to_putR (h' := gh S a b (upd sc16 4937 2) ar lo) rfl rfl rfl (Nat.le_of_ble_eq_true rfl) rfl rfl ?_
          have hI28 := ip_4937 (v := 2) hI16 
          have hF28 := fr_s (k := 4937) (v := 2) hF16 (by decide)
          refine to_n 1 (fr' := (240, [(0, .ref 49), (1, .int y)], [], gh S a b (upd sc16 4937 2) ar lo, ex, 0, 0)) rfl ?_
          have hlt : B < q := rn_lt (P := idg) (T := ar 67) (n := r) ⟨by omega, by omega, hc123_8, (fun _ => w26)⟩ (by omega) hc123_9
          refine to_lv (lv := [(0, .ref 49)]) rfl ⟨rfl, trivial⟩ ?_
          exact c240 B q (upd sc16 4937 2) ar (hc123_0) (hc123_1) (hc123_2) (by omega) (by omega) (by omega) (fun _ => by omega) hc123_7 (Or.inr (Or.inr (Or.inl ⟨rfl, by omega, hc123_10, hc123_9, ⟨by omega, by omega, hc123_8, (fun _ => w26)⟩⟩))) hI28 hF28
  have c39 : ∀ (q : Nat) (sc29 : Nat → Int32) (ar29 : Nat → Nat → Int32), sc29 4935 = nI q → sc29 4936 = nI r → rn_ isp (ar 67) r p q → Iv S sc29 ar29 → Fr [4935, 4937, 4938, 4939, 4940] [] sc ar sc29 ar29 → ag_To X (d + 1) an_X10_step (39, [(0, .ref 49)], [], gh S a b sc29 ar29 lo, ex, 0, 0) (qv S a b lo ex (fun sc' ar' => Iv S sc' ar' ∧ Fr [4935, 4937, 4938, 4939, 4940] [] sc ar sc' ar' ∧ (∃ B q : Nat, sc' 4939 = nI B ∧ sc' 4935 = nI q ∧ sc' 4940 = nI q ∧ p ≤ B ∧ B ≤ q ∧ q ≤ r ∧ (¬ sc' 4937 = 0 → B < q) ∧ rn_ isp (ar 67) r p B ∧ Tq (ar 67) r B q sc'))) := by
    intro q sc29 ar29 hc39_0 hc39_1 hc39_2 hI29 hF29
    obtain rfl : ar = ar29 := fr_nil hF29
    have hl39 := hc39_2.1
    have hr39 := hc39_2.2.1
    refine to_n 2 (fr' := (41, [(0, .ref 49)], [.ref 49, .ref 49], gh S a b sc29 ar lo, ex, 0, 0)) rfl ?_
    refine to_getR (v := (nI q)) rfl rfl rfl rfl hc39_0 ?_
    refine to_putR (h' := gh S a b (upd sc29 4939 (nI q)) ar lo) rfl rfl rfl (Nat.le_of_ble_eq_true rfl) rfl rfl ?_
    have hI30 := ip_4939 (v := (nI q)) hI29 (rl_n (n := q) (by omega))
    have hF30 := fr_s (k := 4939) (v := (nI q)) hF29 (by decide)
    refine to_n 2 (fr' := (49, [(0, .ref 49)], [.int 0, .ref 49], gh S a b (upd sc29 4939 (nI q)) ar lo, ex, 0, 0)) rfl ?_
    refine to_putR (h' := gh S a b (upd (upd sc29 4939 (nI q)) 4938 0) ar lo) rfl rfl rfl (Nat.le_of_ble_eq_true rfl) rfl rfl ?_
    have hI31 := ip_4938 (v := 0) hI30 
    have hF31 := fr_s (k := 4938) (v := 0) hF30 (by decide)
    refine to_n 2 (fr' := (54, [(0, .ref 49)], [.ref 49, .ref 49], gh S a b (upd (upd sc29 4939 (nI q)) 4938 0) ar lo, ex, 0, 0)) rfl ?_
    refine to_getR (v := (nI q)) rfl rfl rfl rfl hc39_0 ?_
    refine to_cp (q := 119) (M1 := an_X10_byteAt) (rest := []) rfl rfl (by decide) rfl ⟨_, rfl⟩ (sf_byteAt hW hI31 q (by omega) r (by omega) hc39_1 d) (fun x32 hx32 => ?_)
    rcases hx32 with ⟨rfl, w32⟩ | ⟨w32, rfl⟩
    · refine to_eq (fr' := (60, [(0, .ref 49)], [.int (-1)], gh S a b (upd (upd sc29 4939 (nI q)) 4938 0) ar lo, ex, 0, 0)) rfl ?_
      refine to_n 6 (fr' := (68, [(0, .ref 49), (1, .int (-1))], [.int 0, .ref 49], gh S a b (upd (upd sc29 4939 (nI q)) 4938 0) ar lo, ex, 0, 0)) rfl ?_
      refine to_putR (h' := gh S a b (upd (upd (upd sc29 4939 (nI q)) 4938 0) 4937 0) ar lo) rfl rfl rfl (Nat.le_of_ble_eq_true rfl) rfl rfl ?_
      have hI33 := ip_4937 (v := 0) hI31 
      have hF33 := fr_s (k := 4937) (v := 0) hF31 (by decide)
      refine to_n 1 (fr' := (240, [(0, .ref 49), (1, .int (-1))], [], gh S a b (upd (upd (upd sc29 4939 (nI q)) 4938 0) 4937 0) ar lo, ex, 0, 0)) rfl ?_
      refine to_lv (lv := [(0, .ref 49)]) rfl ⟨rfl, trivial⟩ ?_
      exact c240 q q (upd (upd (upd sc29 4939 (nI q)) 4938 0) 4937 0) ar (rfl) (hc39_0) (hc39_1) (by omega) (by omega) (by omega) (fun w => absurd rfl w) hc39_2 (Or.inl ⟨rfl, by omega, by omega⟩) hI33 hF33
    · refine to_eq (fr' := (60, [(0, .ref 49)], [.int (ar 67 q)], gh S a b (upd (upd sc29 4939 (nI q)) 4938 0) ar lo, ex, 0, 0)) rfl ?_
      refine to_n 3 (fr' := (63, [(0, .ref 49), (1, .int (ar 67 q))], [.int (-1), .int (ar 67 q)], gh S a b (upd (upd sc29 4939 (nI q)) 4938 0) ar lo, ex, 0, 0)) rfl ?_
      refine to_ic_ne_T (t := 74) rfl (hne q w32) ?_
      refine to_n 1 (fr' := (75, [(0, .ref 49), (1, .int (ar 67 q))], [.int (ar 67 q)], gh S a b (upd (upd sc29 4939 (nI q)) 4938 0) ar lo, ex, 0, 0)) rfl ?_
      refine to_cp (q := 120) (M1 := an_X10_isLetter) (rest := []) rfl rfl (by decide) rfl trivial (sf_isLetter hW hI31 (ar 67 q) d) (fun x34 hx34 => ?_)
      rcases hx34 with ⟨rfl, w34⟩ | ⟨rfl, w34⟩
      · refine to_eq (fr' := (78, [(0, .ref 49), (1, .int (ar 67 q))], [.int 1], gh S a b (upd (upd sc29 4939 (nI q)) 4938 0) ar lo, ex, 0, 0)) rfl ?_
        refine to_n 1 (fr' := (81, [(0, .ref 49), (1, .int (ar 67 q))], [], gh S a b (upd (upd sc29 4939 (nI q)) 4938 0) ar lo, ex, 0, 0)) rfl ?_
        exact c81 (r - q) (ar 67 q) q q (upd (upd sc29 4939 (nI q)) 4938 0) ar (by omega) (rfl) (hc39_0) (hc39_1) (by omega) (by omega) (by omega) (by omega) hc39_2 al_0 w34 hI31 hF31
      · refine to_eq (fr' := (78, [(0, .ref 49), (1, .int (ar 67 q))], [.int 0], gh S a b (upd (upd sc29 4939 (nI q)) 4938 0) ar lo, ex, 0, 0)) rfl ?_
        refine to_n 2 (fr' := (117, [(0, .ref 49), (1, .int (ar 67 q))], [.int (ar 67 q)], gh S a b (upd (upd sc29 4939 (nI q)) 4938 0) ar lo, ex, 0, 0)) rfl ?_
        refine to_cp (q := 121) (M1 := an_X10_isDigit) (rest := []) rfl rfl (by decide) rfl trivial (sf_isDigit hW hI31 (ar 67 q) d) (fun x35 hx35 => ?_)
        rcases hx35 with ⟨rfl, w35⟩ | ⟨rfl, w35⟩
        · refine to_eq (fr' := (120, [(0, .ref 49), (1, .int (ar 67 q))], [.int 1], gh S a b (upd (upd sc29 4939 (nI q)) 4938 0) ar lo, ex, 0, 0)) rfl ?_
          refine to_n 1 (fr' := (123, [(0, .ref 49), (1, .int (ar 67 q))], [], gh S a b (upd (upd sc29 4939 (nI q)) 4938 0) ar lo, ex, 0, 0)) rfl ?_
          exact c123 (r - q) (ar 67 q) q q (upd (upd sc29 4939 (nI q)) 4938 0) ar (by omega) (rfl) (hc39_0) (hc39_1) (by omega) (by omega) (by omega) (by omega) hc39_2 al_0 w35 w34 hI31 hF31
        · refine to_eq (fr' := (120, [(0, .ref 49), (1, .int (ar 67 q))], [.int 0], gh S a b (upd (upd sc29 4939 (nI q)) 4938 0) ar lo, ex, 0, 0)) rfl ?_
          refine to_n 3 (fr' := (160, [(0, .ref 49), (1, .int (ar 67 q))], [.ref 49, .ref 49], gh S a b (upd (upd sc29 4939 (nI q)) 4938 0) ar lo, ex, 0, 0)) rfl ?_
          refine to_getR (v := (nI q)) rfl rfl rfl rfl hc39_0 ?_
          refine to_n 1 (fr' := (164, [(0, .ref 49), (1, .int (ar 67 q))], [.int 1, .int (nI q), .ref 49], gh S a b (upd (upd sc29 4939 (nI q)) 4938 0) ar lo, ex, 0, 0)) rfl ?_
          refine to_addN (x := q) (y := 1) rfl ?_
          refine to_putR (h' := gh S a b (upd (upd (upd sc29 4939 (nI q)) 4938 0) 4935 (nI (q + 1))) ar lo) rfl rfl rfl (Nat.le_of_ble_eq_true rfl) rfl rfl ?_
          have hI36 := ip_4935 (v := (nI (q + 1))) hI31 (rl_n (n := (q + 1)) (by omega))
          have hF36 := fr_s (k := 4935) (v := (nI (q + 1))) hF31 (by decide)
          refine to_n 2 (fr' := (171, [(0, .ref 49), (1, .int (ar 67 q))], [.int 40, .int (ar 67 q)], gh S a b (upd (upd (upd sc29 4939 (nI q)) 4938 0) 4935 (nI (q + 1))) ar lo, ex, 0, 0)) rfl ?_
          refine to_ic_eq (t := 216) rfl (fun q37 => ?_) (fun q37 => ?_)
          · refine to_n 8 (fr' := (232, [(0, .ref 49), (1, .int (ar 67 q)), (2, .int 1)], [.int 3, .ref 49], gh S a b (upd (upd (upd sc29 4939 (nI q)) 4938 0) 4935 (nI (q + 1))) ar lo, ex, 0, 0)) rfl ?_
            refine to_putR (h' := gh S a b (upd (upd (upd (upd sc29 4939 (nI q)) 4938 0) 4935 (nI (q + 1))) 4937 3) ar lo) rfl rfl rfl (Nat.le_of_ble_eq_true rfl) rfl rfl ?_
            have hI38 := ip_4937 (v := 3) hI36 
            have hF38 := fr_s (k := 4937) (v := 3) hF36 (by decide)
            refine to_n 2 (fr' := (237, [(0, .ref 49), (1, .int (ar 67 q)), (2, .int 1)], [.int (ar 67 q), .ref 49], gh S a b (upd (upd (upd (upd sc29 4939 (nI q)) 4938 0) 4935 (nI (q + 1))) 4937 3) ar lo, ex, 0, 0)) rfl ?_
            refine to_putR (h' := gh S a b (upd (upd (upd (upd (upd sc29 4939 (nI q)) 4938 0) 4935 (nI (q + 1))) 4937 3) 4938 (ar 67 q)) ar lo) rfl rfl rfl (Nat.le_of_ble_eq_true rfl) rfl rfl ?_
            have hI39 := ip_4938 (v := (ar 67 q)) hI38 
            have hF39 := fr_s (k := 4938) (v := (ar 67 q)) hF38 (by decide)
            refine to_lv (lv := [(0, .ref 49)]) rfl ⟨rfl, trivial⟩ ?_
            exact c240 q (q + 1) (upd (upd (upd (upd (upd sc29 4939 (nI q)) 4938 0) 4935 (nI (q + 1))) 4937 3) 4938 (ar 67 q)) ar (rfl) (rfl) (hc39_1) (by omega) (by omega) (by omega) (fun _ => by omega) hc39_2 (Or.inr (Or.inr (Or.inr (Or.inl ⟨rfl, by omega, w34, w35, by omega, rfl, by rw [q37]; decide⟩)))) hI39 hF39
          · refine to_n 2 (fr' := (177, [(0, .ref 49), (1, .int (ar 67 q))], [.int 41, .int (ar 67 q)], gh S a b (upd (upd (upd sc29 4939 (nI q)) 4938 0) 4935 (nI (q + 1))) ar lo, ex, 0, 0)) rfl ?_
            refine to_ic_eq (t := 216) rfl (fun q40 => ?_) (fun q40 => ?_)
            · refine to_n 8 (fr' := (232, [(0, .ref 49), (1, .int (ar 67 q)), (2, .int 1)], [.int 3, .ref 49], gh S a b (upd (upd (upd sc29 4939 (nI q)) 4938 0) 4935 (nI (q + 1))) ar lo, ex, 0, 0)) rfl ?_
              refine to_putR (h' := gh S a b (upd (upd (upd (upd sc29 4939 (nI q)) 4938 0) 4935 (nI (q + 1))) 4937 3) ar lo) rfl rfl rfl (Nat.le_of_ble_eq_true rfl) rfl rfl ?_
              have hI41 := ip_4937 (v := 3) hI36 
              have hF41 := fr_s (k := 4937) (v := 3) hF36 (by decide)
              refine to_n 2 (fr' := (237, [(0, .ref 49), (1, .int (ar 67 q)), (2, .int 1)], [.int (ar 67 q), .ref 49], gh S a b (upd (upd (upd (upd sc29 4939 (nI q)) 4938 0) 4935 (nI (q + 1))) 4937 3) ar lo, ex, 0, 0)) rfl ?_
              refine to_putR (h' := gh S a b (upd (upd (upd (upd (upd sc29 4939 (nI q)) 4938 0) 4935 (nI (q + 1))) 4937 3) 4938 (ar 67 q)) ar lo) rfl rfl rfl (Nat.le_of_ble_eq_true rfl) rfl rfl ?_
              have hI42 := ip_4938 (v := (ar 67 q)) hI41 
              have hF42 := fr_s (k := 4938) (v := (ar 67 q)) hF41 (by decide)
              refine to_lv (lv := [(0, .ref 49)]) rfl ⟨rfl, trivial⟩ ?_
              exact c240 q (q + 1) (upd (upd (upd (upd (upd sc29 4939 (nI q)) 4938 0) 4935 (nI (q + 1))) 4937 3) 4938 (ar 67 q)) ar (rfl) (rfl) (hc39_1) (by omega) (by omega) (by omega) (fun _ => by omega) hc39_2 (Or.inr (Or.inr (Or.inr (Or.inl ⟨rfl, by omega, w34, w35, by omega, rfl, by rw [q40]; decide⟩)))) hI42 hF42
            · refine to_n 2 (fr' := (183, [(0, .ref 49), (1, .int (ar 67 q))], [.int 59, .int (ar 67 q)], gh S a b (upd (upd (upd sc29 4939 (nI q)) 4938 0) 4935 (nI (q + 1))) ar lo, ex, 0, 0)) rfl ?_
              refine to_ic_eq (t := 216) rfl (fun q43 => ?_) (fun q43 => ?_)
              · refine to_n 8 (fr' := (232, [(0, .ref 49), (1, .int (ar 67 q)), (2, .int 1)], [.int 3, .ref 49], gh S a b (upd (upd (upd sc29 4939 (nI q)) 4938 0) 4935 (nI (q + 1))) ar lo, ex, 0, 0)) rfl ?_
                refine to_putR (h' := gh S a b (upd (upd (upd (upd sc29 4939 (nI q)) 4938 0) 4935 (nI (q + 1))) 4937 3) ar lo) rfl rfl rfl (Nat.le_of_ble_eq_true rfl) rfl rfl ?_
                have hI44 := ip_4937 (v := 3) hI36 
                have hF44 := fr_s (k := 4937) (v := 3) hF36 (by decide)
                refine to_n 2 (fr' := (237, [(0, .ref 49), (1, .int (ar 67 q)), (2, .int 1)], [.int (ar 67 q), .ref 49], gh S a b (upd (upd (upd (upd sc29 4939 (nI q)) 4938 0) 4935 (nI (q + 1))) 4937 3) ar lo, ex, 0, 0)) rfl ?_
                refine to_putR (h' := gh S a b (upd (upd (upd (upd (upd sc29 4939 (nI q)) 4938 0) 4935 (nI (q + 1))) 4937 3) 4938 (ar 67 q)) ar lo) rfl rfl rfl (Nat.le_of_ble_eq_true rfl) rfl rfl ?_
                have hI45 := ip_4938 (v := (ar 67 q)) hI44 
                have hF45 := fr_s (k := 4938) (v := (ar 67 q)) hF44 (by decide)
                refine to_lv (lv := [(0, .ref 49)]) rfl ⟨rfl, trivial⟩ ?_
                exact c240 q (q + 1) (upd (upd (upd (upd (upd sc29 4939 (nI q)) 4938 0) 4935 (nI (q + 1))) 4937 3) 4938 (ar 67 q)) ar (rfl) (rfl) (hc39_1) (by omega) (by omega) (by omega) (fun _ => by omega) hc39_2 (Or.inr (Or.inr (Or.inr (Or.inl ⟨rfl, by omega, w34, w35, by omega, rfl, by rw [q43]; decide⟩)))) hI45 hF45
              · refine to_n 2 (fr' := (189, [(0, .ref 49), (1, .int (ar 67 q))], [.int 43, .int (ar 67 q)], gh S a b (upd (upd (upd sc29 4939 (nI q)) 4938 0) 4935 (nI (q + 1))) ar lo, ex, 0, 0)) rfl ?_
                refine to_ic_eq (t := 216) rfl (fun q46 => ?_) (fun q46 => ?_)
                · refine to_n 8 (fr' := (232, [(0, .ref 49), (1, .int (ar 67 q)), (2, .int 1)], [.int 3, .ref 49], gh S a b (upd (upd (upd sc29 4939 (nI q)) 4938 0) 4935 (nI (q + 1))) ar lo, ex, 0, 0)) rfl ?_
                  refine to_putR (h' := gh S a b (upd (upd (upd (upd sc29 4939 (nI q)) 4938 0) 4935 (nI (q + 1))) 4937 3) ar lo) rfl rfl rfl (Nat.le_of_ble_eq_true rfl) rfl rfl ?_
                  have hI47 := ip_4937 (v := 3) hI36 
                  have hF47 := fr_s (k := 4937) (v := 3) hF36 (by decide)
                  refine to_n 2 (fr' := (237, [(0, .ref 49), (1, .int (ar 67 q)), (2, .int 1)], [.int (ar 67 q), .ref 49], gh S a b (upd (upd (upd (upd sc29 4939 (nI q)) 4938 0) 4935 (nI (q + 1))) 4937 3) ar lo, ex, 0, 0)) rfl ?_
                  refine to_putR (h' := gh S a b (upd (upd (upd (upd (upd sc29 4939 (nI q)) 4938 0) 4935 (nI (q + 1))) 4937 3) 4938 (ar 67 q)) ar lo) rfl rfl rfl (Nat.le_of_ble_eq_true rfl) rfl rfl ?_
                  have hI48 := ip_4938 (v := (ar 67 q)) hI47 
                  have hF48 := fr_s (k := 4938) (v := (ar 67 q)) hF47 (by decide)
                  refine to_lv (lv := [(0, .ref 49)]) rfl ⟨rfl, trivial⟩ ?_
                  exact c240 q (q + 1) (upd (upd (upd (upd (upd sc29 4939 (nI q)) 4938 0) 4935 (nI (q + 1))) 4937 3) 4938 (ar 67 q)) ar (rfl) (rfl) (hc39_1) (by omega) (by omega) (by omega) (fun _ => by omega) hc39_2 (Or.inr (Or.inr (Or.inr (Or.inl ⟨rfl, by omega, w34, w35, by omega, rfl, by rw [q46]; decide⟩)))) hI48 hF48
                · refine to_n 2 (fr' := (195, [(0, .ref 49), (1, .int (ar 67 q))], [.int 45, .int (ar 67 q)], gh S a b (upd (upd (upd sc29 4939 (nI q)) 4938 0) 4935 (nI (q + 1))) ar lo, ex, 0, 0)) rfl ?_
                  refine to_ic_eq (t := 216) rfl (fun q49 => ?_) (fun q49 => ?_)
                  · refine to_n 8 (fr' := (232, [(0, .ref 49), (1, .int (ar 67 q)), (2, .int 1)], [.int 3, .ref 49], gh S a b (upd (upd (upd sc29 4939 (nI q)) 4938 0) 4935 (nI (q + 1))) ar lo, ex, 0, 0)) rfl ?_
                    refine to_putR (h' := gh S a b (upd (upd (upd (upd sc29 4939 (nI q)) 4938 0) 4935 (nI (q + 1))) 4937 3) ar lo) rfl rfl rfl (Nat.le_of_ble_eq_true rfl) rfl rfl ?_
                    have hI50 := ip_4937 (v := 3) hI36 
                    have hF50 := fr_s (k := 4937) (v := 3) hF36 (by decide)
                    refine to_n 2 (fr' := (237, [(0, .ref 49), (1, .int (ar 67 q)), (2, .int 1)], [.int (ar 67 q), .ref 49], gh S a b (upd (upd (upd (upd sc29 4939 (nI q)) 4938 0) 4935 (nI (q + 1))) 4937 3) ar lo, ex, 0, 0)) rfl ?_
                    refine to_putR (h' := gh S a b (upd (upd (upd (upd (upd sc29 4939 (nI q)) 4938 0) 4935 (nI (q + 1))) 4937 3) 4938 (ar 67 q)) ar lo) rfl rfl rfl (Nat.le_of_ble_eq_true rfl) rfl rfl ?_
                    have hI51 := ip_4938 (v := (ar 67 q)) hI50 
                    have hF51 := fr_s (k := 4938) (v := (ar 67 q)) hF50 (by decide)
                    refine to_lv (lv := [(0, .ref 49)]) rfl ⟨rfl, trivial⟩ ?_
                    exact c240 q (q + 1) (upd (upd (upd (upd (upd sc29 4939 (nI q)) 4938 0) 4935 (nI (q + 1))) 4937 3) 4938 (ar 67 q)) ar (rfl) (rfl) (hc39_1) (by omega) (by omega) (by omega) (fun _ => by omega) hc39_2 (Or.inr (Or.inr (Or.inr (Or.inl ⟨rfl, by omega, w34, w35, by omega, rfl, by rw [q49]; decide⟩)))) hI51 hF51
                  · refine to_n 2 (fr' := (201, [(0, .ref 49), (1, .int (ar 67 q))], [.int 42, .int (ar 67 q)], gh S a b (upd (upd (upd sc29 4939 (nI q)) 4938 0) 4935 (nI (q + 1))) ar lo, ex, 0, 0)) rfl ?_
                    refine to_ic_eq (t := 216) rfl (fun q52 => ?_) (fun q52 => ?_)
                    · refine to_n 8 (fr' := (232, [(0, .ref 49), (1, .int (ar 67 q)), (2, .int 1)], [.int 3, .ref 49], gh S a b (upd (upd (upd sc29 4939 (nI q)) 4938 0) 4935 (nI (q + 1))) ar lo, ex, 0, 0)) rfl ?_
                      refine to_putR (h' := gh S a b (upd (upd (upd (upd sc29 4939 (nI q)) 4938 0) 4935 (nI (q + 1))) 4937 3) ar lo) rfl rfl rfl (Nat.le_of_ble_eq_true rfl) rfl rfl ?_
                      have hI53 := ip_4937 (v := 3) hI36 
                      have hF53 := fr_s (k := 4937) (v := 3) hF36 (by decide)
                      refine to_n 2 (fr' := (237, [(0, .ref 49), (1, .int (ar 67 q)), (2, .int 1)], [.int (ar 67 q), .ref 49], gh S a b (upd (upd (upd (upd sc29 4939 (nI q)) 4938 0) 4935 (nI (q + 1))) 4937 3) ar lo, ex, 0, 0)) rfl ?_
                      refine to_putR (h' := gh S a b (upd (upd (upd (upd (upd sc29 4939 (nI q)) 4938 0) 4935 (nI (q + 1))) 4937 3) 4938 (ar 67 q)) ar lo) rfl rfl rfl (Nat.le_of_ble_eq_true rfl) rfl rfl ?_
                      have hI54 := ip_4938 (v := (ar 67 q)) hI53 
                      have hF54 := fr_s (k := 4938) (v := (ar 67 q)) hF53 (by decide)
                      refine to_lv (lv := [(0, .ref 49)]) rfl ⟨rfl, trivial⟩ ?_
                      exact c240 q (q + 1) (upd (upd (upd (upd (upd sc29 4939 (nI q)) 4938 0) 4935 (nI (q + 1))) 4937 3) 4938 (ar 67 q)) ar (rfl) (rfl) (hc39_1) (by omega) (by omega) (by omega) (fun _ => by omega) hc39_2 (Or.inr (Or.inr (Or.inr (Or.inl ⟨rfl, by omega, w34, w35, by omega, rfl, by rw [q52]; decide⟩)))) hI54 hF54
                    · refine to_n 2 (fr' := (207, [(0, .ref 49), (1, .int (ar 67 q))], [.int 60, .int (ar 67 q)], gh S a b (upd (upd (upd sc29 4939 (nI q)) 4938 0) 4935 (nI (q + 1))) ar lo, ex, 0, 0)) rfl ?_
                      refine to_ic_eq (t := 216) rfl (fun q55 => ?_) (fun q55 => ?_)
                      · refine to_n 8 (fr' := (232, [(0, .ref 49), (1, .int (ar 67 q)), (2, .int 1)], [.int 3, .ref 49], gh S a b (upd (upd (upd sc29 4939 (nI q)) 4938 0) 4935 (nI (q + 1))) ar lo, ex, 0, 0)) rfl ?_
                        refine to_putR (h' := gh S a b (upd (upd (upd (upd sc29 4939 (nI q)) 4938 0) 4935 (nI (q + 1))) 4937 3) ar lo) rfl rfl rfl (Nat.le_of_ble_eq_true rfl) rfl rfl ?_
                        have hI56 := ip_4937 (v := 3) hI36 
                        have hF56 := fr_s (k := 4937) (v := 3) hF36 (by decide)
                        refine to_n 2 (fr' := (237, [(0, .ref 49), (1, .int (ar 67 q)), (2, .int 1)], [.int (ar 67 q), .ref 49], gh S a b (upd (upd (upd (upd sc29 4939 (nI q)) 4938 0) 4935 (nI (q + 1))) 4937 3) ar lo, ex, 0, 0)) rfl ?_
                        refine to_putR (h' := gh S a b (upd (upd (upd (upd (upd sc29 4939 (nI q)) 4938 0) 4935 (nI (q + 1))) 4937 3) 4938 (ar 67 q)) ar lo) rfl rfl rfl (Nat.le_of_ble_eq_true rfl) rfl rfl ?_
                        have hI57 := ip_4938 (v := (ar 67 q)) hI56 
                        have hF57 := fr_s (k := 4938) (v := (ar 67 q)) hF56 (by decide)
                        refine to_lv (lv := [(0, .ref 49)]) rfl ⟨rfl, trivial⟩ ?_
                        exact c240 q (q + 1) (upd (upd (upd (upd (upd sc29 4939 (nI q)) 4938 0) 4935 (nI (q + 1))) 4937 3) 4938 (ar 67 q)) ar (rfl) (rfl) (hc39_1) (by omega) (by omega) (by omega) (fun _ => by omega) hc39_2 (Or.inr (Or.inr (Or.inr (Or.inl ⟨rfl, by omega, w34, w35, by omega, rfl, by rw [q55]; decide⟩)))) hI57 hF57
                      · refine to_n 2 (fr' := (213, [(0, .ref 49), (1, .int (ar 67 q))], [.int 61, .int (ar 67 q)], gh S a b (upd (upd (upd sc29 4939 (nI q)) 4938 0) 4935 (nI (q + 1))) ar lo, ex, 0, 0)) rfl ?_
                        refine to_ic_ne (t := 220) rfl (fun q58 => ?_) (fun q58 => ?_)
                        · refine to_n 6 (fr' := (232, [(0, .ref 49), (1, .int (ar 67 q)), (2, .int 0)], [.int 4, .ref 49], gh S a b (upd (upd (upd sc29 4939 (nI q)) 4938 0) 4935 (nI (q + 1))) ar lo, ex, 0, 0)) rfl ?_
                          refine to_putR (h' := gh S a b (upd (upd (upd (upd sc29 4939 (nI q)) 4938 0) 4935 (nI (q + 1))) 4937 4) ar lo) rfl rfl rfl (Nat.le_of_ble_eq_true rfl) rfl rfl ?_
                          have hI59 := ip_4937 (v := 4) hI36 
                          have hF59 := fr_s (k := 4937) (v := 4) hF36 (by decide)
                          refine to_n 2 (fr' := (237, [(0, .ref 49), (1, .int (ar 67 q)), (2, .int 0)], [.int (ar 67 q), .ref 49], gh S a b (upd (upd (upd (upd sc29 4939 (nI q)) 4938 0) 4935 (nI (q + 1))) 4937 4) ar lo, ex, 0, 0)) rfl ?_
                          refine to_putR (h' := gh S a b (upd (upd (upd (upd (upd sc29 4939 (nI q)) 4938 0) 4935 (nI (q + 1))) 4937 4) 4938 (ar 67 q)) ar lo) rfl rfl rfl (Nat.le_of_ble_eq_true rfl) rfl rfl ?_
                          have hI60 := ip_4938 (v := (ar 67 q)) hI59 
                          have hF60 := fr_s (k := 4938) (v := (ar 67 q)) hF59 (by decide)
                          refine to_lv (lv := [(0, .ref 49)]) rfl ⟨rfl, trivial⟩ ?_
                          exact c240 q (q + 1) (upd (upd (upd (upd (upd sc29 4939 (nI q)) 4938 0) 4935 (nI (q + 1))) 4937 4) 4938 (ar 67 q)) ar (rfl) (rfl) (hc39_1) (by omega) (by omega) (by omega) (fun _ => by omega) hc39_2 (Or.inr (Or.inr (Or.inr (Or.inr ⟨rfl, by omega, w34, w35, by omega, by simp only [sgc, if_neg q37, if_neg q40, if_neg q43, if_neg q46, if_neg q49, if_neg q52, if_neg q55, if_neg q58]⟩)))) hI60 hF60
                        · refine to_n 8 (fr' := (232, [(0, .ref 49), (1, .int (ar 67 q)), (2, .int 1)], [.int 3, .ref 49], gh S a b (upd (upd (upd sc29 4939 (nI q)) 4938 0) 4935 (nI (q + 1))) ar lo, ex, 0, 0)) rfl ?_
                          refine to_putR (h' := gh S a b (upd (upd (upd (upd sc29 4939 (nI q)) 4938 0) 4935 (nI (q + 1))) 4937 3) ar lo) rfl rfl rfl (Nat.le_of_ble_eq_true rfl) rfl rfl ?_
                          have hI61 := ip_4937 (v := 3) hI36 
                          have hF61 := fr_s (k := 4937) (v := 3) hF36 (by decide)
                          refine to_n 2 (fr' := (237, [(0, .ref 49), (1, .int (ar 67 q)), (2, .int 1)], [.int (ar 67 q), .ref 49], gh S a b (upd (upd (upd (upd sc29 4939 (nI q)) 4938 0) 4935 (nI (q + 1))) 4937 3) ar lo, ex, 0, 0)) rfl ?_
                          refine to_putR (h' := gh S a b (upd (upd (upd (upd (upd sc29 4939 (nI q)) 4938 0) 4935 (nI (q + 1))) 4937 3) 4938 (ar 67 q)) ar lo) rfl rfl rfl (Nat.le_of_ble_eq_true rfl) rfl rfl ?_
                          have hI62 := ip_4938 (v := (ar 67 q)) hI61 
                          have hF62 := fr_s (k := 4938) (v := (ar 67 q)) hF61 (by decide)
                          refine to_lv (lv := [(0, .ref 49)]) rfl ⟨rfl, trivial⟩ ?_
                          exact c240 q (q + 1) (upd (upd (upd (upd (upd sc29 4939 (nI q)) 4938 0) 4935 (nI (q + 1))) 4937 3) 4938 (ar 67 q)) ar (rfl) (rfl) (hc39_1) (by omega) (by omega) (by omega) (fun _ => by omega) hc39_2 (Or.inr (Or.inr (Or.inr (Or.inl ⟨rfl, by omega, w34, w35, by omega, rfl, by rw [q58]; decide⟩)))) hI62 hF62
  have c0 : ∀ m : Nat, ∀ (q : Nat) (sc63 : Nat → Int32) (ar63 : Nat → Nat → Int32), q + m = r → sc63 4935 = nI q → sc63 4936 = nI r → p ≤ q → q ≤ r → (∀ t, p ≤ t → t < q → isp (ar 67 t)) → Iv S sc63 ar63 → Fr [4935, 4937, 4938, 4939, 4940] [] sc ar sc63 ar63 → ag_To X (d + 1) an_X10_step (0, [(0, .ref 49)], [], gh S a b sc63 ar63 lo, ex, 0, 0) (qv S a b lo ex (fun sc' ar' => Iv S sc' ar' ∧ Fr [4935, 4937, 4938, 4939, 4940] [] sc ar sc' ar' ∧ (∃ B q : Nat, sc' 4939 = nI B ∧ sc' 4935 = nI q ∧ sc' 4940 = nI q ∧ p ≤ B ∧ B ≤ q ∧ q ≤ r ∧ (¬ sc' 4937 = 0 → B < q) ∧ rn_ isp (ar 67) r p B ∧ Tq (ar 67) r B q sc'))) := by
    intro m
    induction m with
    | zero =>
      intro q sc63 ar63 hm hc0_0 hc0_1 hc0_2 hc0_3 hc0_4 hI63 hF63
      obtain rfl : ar = ar63 := fr_nil hF63
      refine to_n 2 (fr' := (2, [(0, .ref 49)], [.ref 49, .ref 49], gh S a b sc63 ar lo, ex, 0, 0)) rfl ?_
      refine to_getR (v := (nI q)) rfl rfl rfl rfl hc0_0 ?_
      refine to_cp (q := 119) (M1 := an_X10_byteAt) (rest := []) rfl rfl (by decide) rfl ⟨_, rfl⟩ (sf_byteAt hW hI63 q (by omega) r (by omega) hc0_1 d) (fun x64 hx64 => ?_)
      rcases hx64 with ⟨rfl, w64⟩ | ⟨w64, rfl⟩
      · refine to_eq (fr' := (8, [(0, .ref 49)], [.int (-1)], gh S a b sc63 ar lo, ex, 0, 0)) rfl ?_
        refine to_n 4 (fr' := (15, [(0, .ref 49)], [.ref 49, .ref 49], gh S a b sc63 ar lo, ex, 0, 0)) rfl ?_
        refine to_getR (v := (nI q)) rfl rfl rfl rfl hc0_0 ?_
        refine to_cp (q := 119) (M1 := an_X10_byteAt) (rest := []) rfl rfl (by decide) rfl ⟨_, rfl⟩ (sf_byteAt hW hI63 q (by omega) r (by omega) hc0_1 d) (fun x65 hx65 => ?_)
        rcases hx65 with ⟨rfl, w65⟩ | ⟨w65, rfl⟩
        · refine to_eq (fr' := (21, [(0, .ref 49)], [.int (-1)], gh S a b sc63 ar lo, ex, 0, 0)) rfl ?_
          refine to_n 2 (fr' := (39, [(0, .ref 49)], [], gh S a b sc63 ar lo, ex, 0, 0)) rfl ?_
          exact c39 q sc63 ar (hc0_0) (hc0_1) ⟨by omega, by omega, hc0_4, (fun w => absurd w (by omega))⟩ hI63 hF63
        · refine to_eq (fr' := (21, [(0, .ref 49)], [.int (ar 67 q)], gh S a b sc63 ar lo, ex, 0, 0)) rfl ?_
          refine to_n 1 (fr' := (23, [(0, .ref 49)], [.int 10, .int (ar 67 q)], gh S a b sc63 ar lo, ex, 0, 0)) rfl ?_
          refine to_ic_ne (t := 39) rfl (fun q66 => ?_) (fun q66 => ?_)
          · exact c39 q sc63 ar (hc0_0) (hc0_1) ⟨by omega, by omega, hc0_4, (fun w => absurd w (by omega))⟩ hI63 hF63
          · refine to_n 2 (fr' := (28, [(0, .ref 49)], [.ref 49, .ref 49], gh S a b sc63 ar lo, ex, 0, 0)) rfl ?_
            refine to_getR (v := (nI q)) rfl rfl rfl rfl hc0_0 ?_
            refine to_n 1 (fr' := (32, [(0, .ref 49)], [.int 1, .int (nI q), .ref 49], gh S a b sc63 ar lo, ex, 0, 0)) rfl ?_
            refine to_addN (x := q) (y := 1) rfl ?_
            refine to_putR (h' := gh S a b (upd sc63 4935 (nI (q + 1))) ar lo) rfl rfl rfl (Nat.le_of_ble_eq_true rfl) rfl rfl ?_
            have hI67 := ip_4935 (v := (nI (q + 1))) hI63 (rl_n (n := (q + 1)) (by omega))
            have hF67 := fr_s (k := 4935) (v := (nI (q + 1))) hF63 (by decide)
            refine to_n 1 (fr' := (0, [(0, .ref 49)], [], gh S a b (upd sc63 4935 (nI (q + 1))) ar lo, ex, 0, 0)) rfl ?_
            exfalso
            omega
      · refine to_eq (fr' := (8, [(0, .ref 49)], [.int (ar 67 q)], gh S a b sc63 ar lo, ex, 0, 0)) rfl ?_
        refine to_n 1 (fr' := (10, [(0, .ref 49)], [.int 32, .int (ar 67 q)], gh S a b sc63 ar lo, ex, 0, 0)) rfl ?_
        refine to_ic_eq (t := 26) rfl (fun q68 => ?_) (fun q68 => ?_)
        · refine to_n 2 (fr' := (28, [(0, .ref 49)], [.ref 49, .ref 49], gh S a b sc63 ar lo, ex, 0, 0)) rfl ?_
          refine to_getR (v := (nI q)) rfl rfl rfl rfl hc0_0 ?_
          refine to_n 1 (fr' := (32, [(0, .ref 49)], [.int 1, .int (nI q), .ref 49], gh S a b sc63 ar lo, ex, 0, 0)) rfl ?_
          refine to_addN (x := q) (y := 1) rfl ?_
          refine to_putR (h' := gh S a b (upd sc63 4935 (nI (q + 1))) ar lo) rfl rfl rfl (Nat.le_of_ble_eq_true rfl) rfl rfl ?_
          have hI69 := ip_4935 (v := (nI (q + 1))) hI63 (rl_n (n := (q + 1)) (by omega))
          have hF69 := fr_s (k := 4935) (v := (nI (q + 1))) hF63 (by decide)
          refine to_n 1 (fr' := (0, [(0, .ref 49)], [], gh S a b (upd sc63 4935 (nI (q + 1))) ar lo, ex, 0, 0)) rfl ?_
          exfalso
          omega
        · refine to_n 2 (fr' := (15, [(0, .ref 49)], [.ref 49, .ref 49], gh S a b sc63 ar lo, ex, 0, 0)) rfl ?_
          refine to_getR (v := (nI q)) rfl rfl rfl rfl hc0_0 ?_
          refine to_cp (q := 119) (M1 := an_X10_byteAt) (rest := []) rfl rfl (by decide) rfl ⟨_, rfl⟩ (sf_byteAt hW hI63 q (by omega) r (by omega) hc0_1 d) (fun x70 hx70 => ?_)
          rcases hx70 with ⟨rfl, w70⟩ | ⟨w70, rfl⟩
          · refine to_eq (fr' := (21, [(0, .ref 49)], [.int (-1)], gh S a b sc63 ar lo, ex, 0, 0)) rfl ?_
            refine to_n 2 (fr' := (39, [(0, .ref 49)], [], gh S a b sc63 ar lo, ex, 0, 0)) rfl ?_
            exact c39 q sc63 ar (hc0_0) (hc0_1) ⟨by omega, by omega, hc0_4, (fun w => absurd w (by omega))⟩ hI63 hF63
          · refine to_eq (fr' := (21, [(0, .ref 49)], [.int (ar 67 q)], gh S a b sc63 ar lo, ex, 0, 0)) rfl ?_
            refine to_n 1 (fr' := (23, [(0, .ref 49)], [.int 10, .int (ar 67 q)], gh S a b sc63 ar lo, ex, 0, 0)) rfl ?_
            refine to_ic_ne (t := 39) rfl (fun q71 => ?_) (fun q71 => ?_)
            · exact c39 q sc63 ar (hc0_0) (hc0_1) ⟨by omega, by omega, hc0_4, (fun _ w => w.elim q68 q71)⟩ hI63 hF63
            · refine to_n 2 (fr' := (28, [(0, .ref 49)], [.ref 49, .ref 49], gh S a b sc63 ar lo, ex, 0, 0)) rfl ?_
              refine to_getR (v := (nI q)) rfl rfl rfl rfl hc0_0 ?_
              refine to_n 1 (fr' := (32, [(0, .ref 49)], [.int 1, .int (nI q), .ref 49], gh S a b sc63 ar lo, ex, 0, 0)) rfl ?_
              refine to_addN (x := q) (y := 1) rfl ?_
              refine to_putR (h' := gh S a b (upd sc63 4935 (nI (q + 1))) ar lo) rfl rfl rfl (Nat.le_of_ble_eq_true rfl) rfl rfl ?_
              have hI72 := ip_4935 (v := (nI (q + 1))) hI63 (rl_n (n := (q + 1)) (by omega))
              have hF72 := fr_s (k := 4935) (v := (nI (q + 1))) hF63 (by decide)
              refine to_n 1 (fr' := (0, [(0, .ref 49)], [], gh S a b (upd sc63 4935 (nI (q + 1))) ar lo, ex, 0, 0)) rfl ?_
              exfalso
              omega
    | succ m ih =>
      intro q sc63 ar63 hm hc0_0 hc0_1 hc0_2 hc0_3 hc0_4 hI63 hF63
      obtain rfl : ar = ar63 := fr_nil hF63
      refine to_n 2 (fr' := (2, [(0, .ref 49)], [.ref 49, .ref 49], gh S a b sc63 ar lo, ex, 0, 0)) rfl ?_
      refine to_getR (v := (nI q)) rfl rfl rfl rfl hc0_0 ?_
      refine to_cp (q := 119) (M1 := an_X10_byteAt) (rest := []) rfl rfl (by decide) rfl ⟨_, rfl⟩ (sf_byteAt hW hI63 q (by omega) r (by omega) hc0_1 d) (fun x73 hx73 => ?_)
      rcases hx73 with ⟨rfl, w73⟩ | ⟨w73, rfl⟩
      · refine to_eq (fr' := (8, [(0, .ref 49)], [.int (-1)], gh S a b sc63 ar lo, ex, 0, 0)) rfl ?_
        refine to_n 4 (fr' := (15, [(0, .ref 49)], [.ref 49, .ref 49], gh S a b sc63 ar lo, ex, 0, 0)) rfl ?_
        refine to_getR (v := (nI q)) rfl rfl rfl rfl hc0_0 ?_
        refine to_cp (q := 119) (M1 := an_X10_byteAt) (rest := []) rfl rfl (by decide) rfl ⟨_, rfl⟩ (sf_byteAt hW hI63 q (by omega) r (by omega) hc0_1 d) (fun x74 hx74 => ?_)
        rcases hx74 with ⟨rfl, w74⟩ | ⟨w74, rfl⟩
        · refine to_eq (fr' := (21, [(0, .ref 49)], [.int (-1)], gh S a b sc63 ar lo, ex, 0, 0)) rfl ?_
          refine to_n 2 (fr' := (39, [(0, .ref 49)], [], gh S a b sc63 ar lo, ex, 0, 0)) rfl ?_
          exact c39 q sc63 ar (hc0_0) (hc0_1) ⟨by omega, by omega, hc0_4, (fun w => absurd w (by omega))⟩ hI63 hF63
        · refine to_eq (fr' := (21, [(0, .ref 49)], [.int (ar 67 q)], gh S a b sc63 ar lo, ex, 0, 0)) rfl ?_
          refine to_n 1 (fr' := (23, [(0, .ref 49)], [.int 10, .int (ar 67 q)], gh S a b sc63 ar lo, ex, 0, 0)) rfl ?_
          refine to_ic_ne (t := 39) rfl (fun q75 => ?_) (fun q75 => ?_)
          · exact c39 q sc63 ar (hc0_0) (hc0_1) ⟨by omega, by omega, hc0_4, (fun w => absurd w (by omega))⟩ hI63 hF63
          · refine to_n 2 (fr' := (28, [(0, .ref 49)], [.ref 49, .ref 49], gh S a b sc63 ar lo, ex, 0, 0)) rfl ?_
            refine to_getR (v := (nI q)) rfl rfl rfl rfl hc0_0 ?_
            refine to_n 1 (fr' := (32, [(0, .ref 49)], [.int 1, .int (nI q), .ref 49], gh S a b sc63 ar lo, ex, 0, 0)) rfl ?_
            refine to_addN (x := q) (y := 1) rfl ?_
            refine to_putR (h' := gh S a b (upd sc63 4935 (nI (q + 1))) ar lo) rfl rfl rfl (Nat.le_of_ble_eq_true rfl) rfl rfl ?_
            have hI76 := ip_4935 (v := (nI (q + 1))) hI63 (rl_n (n := (q + 1)) (by omega))
            have hF76 := fr_s (k := 4935) (v := (nI (q + 1))) hF63 (by decide)
            refine to_n 1 (fr' := (0, [(0, .ref 49)], [], gh S a b (upd sc63 4935 (nI (q + 1))) ar lo, ex, 0, 0)) rfl ?_
            exact ih (q + 1) (upd sc63 4935 (nI (q + 1))) ar (by omega) (rfl) (hc0_1) (by omega) (by omega) (al_up2 hc0_4 (Or.inr q75)) hI76 hF76
      · refine to_eq (fr' := (8, [(0, .ref 49)], [.int (ar 67 q)], gh S a b sc63 ar lo, ex, 0, 0)) rfl ?_
        refine to_n 1 (fr' := (10, [(0, .ref 49)], [.int 32, .int (ar 67 q)], gh S a b sc63 ar lo, ex, 0, 0)) rfl ?_
        refine to_ic_eq (t := 26) rfl (fun q77 => ?_) (fun q77 => ?_)
        · refine to_n 2 (fr' := (28, [(0, .ref 49)], [.ref 49, .ref 49], gh S a b sc63 ar lo, ex, 0, 0)) rfl ?_
          refine to_getR (v := (nI q)) rfl rfl rfl rfl hc0_0 ?_
          refine to_n 1 (fr' := (32, [(0, .ref 49)], [.int 1, .int (nI q), .ref 49], gh S a b sc63 ar lo, ex, 0, 0)) rfl ?_
          refine to_addN (x := q) (y := 1) rfl ?_
          refine to_putR (h' := gh S a b (upd sc63 4935 (nI (q + 1))) ar lo) rfl rfl rfl (Nat.le_of_ble_eq_true rfl) rfl rfl ?_
          have hI78 := ip_4935 (v := (nI (q + 1))) hI63 (rl_n (n := (q + 1)) (by omega))
          have hF78 := fr_s (k := 4935) (v := (nI (q + 1))) hF63 (by decide)
          refine to_n 1 (fr' := (0, [(0, .ref 49)], [], gh S a b (upd sc63 4935 (nI (q + 1))) ar lo, ex, 0, 0)) rfl ?_
          exact ih (q + 1) (upd sc63 4935 (nI (q + 1))) ar (by omega) (rfl) (hc0_1) (by omega) (by omega) (al_up2 hc0_4 (Or.inl q77)) hI78 hF78
        · refine to_n 2 (fr' := (15, [(0, .ref 49)], [.ref 49, .ref 49], gh S a b sc63 ar lo, ex, 0, 0)) rfl ?_
          refine to_getR (v := (nI q)) rfl rfl rfl rfl hc0_0 ?_
          refine to_cp (q := 119) (M1 := an_X10_byteAt) (rest := []) rfl rfl (by decide) rfl ⟨_, rfl⟩ (sf_byteAt hW hI63 q (by omega) r (by omega) hc0_1 d) (fun x79 hx79 => ?_)
          rcases hx79 with ⟨rfl, w79⟩ | ⟨w79, rfl⟩
          · refine to_eq (fr' := (21, [(0, .ref 49)], [.int (-1)], gh S a b sc63 ar lo, ex, 0, 0)) rfl ?_
            refine to_n 2 (fr' := (39, [(0, .ref 49)], [], gh S a b sc63 ar lo, ex, 0, 0)) rfl ?_
            exact c39 q sc63 ar (hc0_0) (hc0_1) ⟨by omega, by omega, hc0_4, (fun w => absurd w (by omega))⟩ hI63 hF63
          · refine to_eq (fr' := (21, [(0, .ref 49)], [.int (ar 67 q)], gh S a b sc63 ar lo, ex, 0, 0)) rfl ?_
            refine to_n 1 (fr' := (23, [(0, .ref 49)], [.int 10, .int (ar 67 q)], gh S a b sc63 ar lo, ex, 0, 0)) rfl ?_
            refine to_ic_ne (t := 39) rfl (fun q80 => ?_) (fun q80 => ?_)
            · exact c39 q sc63 ar (hc0_0) (hc0_1) ⟨by omega, by omega, hc0_4, (fun _ w => w.elim q77 q80)⟩ hI63 hF63
            · refine to_n 2 (fr' := (28, [(0, .ref 49)], [.ref 49, .ref 49], gh S a b sc63 ar lo, ex, 0, 0)) rfl ?_
              refine to_getR (v := (nI q)) rfl rfl rfl rfl hc0_0 ?_
              refine to_n 1 (fr' := (32, [(0, .ref 49)], [.int 1, .int (nI q), .ref 49], gh S a b sc63 ar lo, ex, 0, 0)) rfl ?_
              refine to_addN (x := q) (y := 1) rfl ?_
              refine to_putR (h' := gh S a b (upd sc63 4935 (nI (q + 1))) ar lo) rfl rfl rfl (Nat.le_of_ble_eq_true rfl) rfl rfl ?_
              have hI81 := ip_4935 (v := (nI (q + 1))) hI63 (rl_n (n := (q + 1)) (by omega))
              have hF81 := fr_s (k := 4935) (v := (nI (q + 1))) hF63 (by decide)
              refine to_n 1 (fr' := (0, [(0, .ref 49)], [], gh S a b (upd sc63 4935 (nI (q + 1))) ar lo, ex, 0, 0)) rfl ?_
              exact ih (q + 1) (upd sc63 4935 (nI (q + 1))) ar (by omega) (rfl) (hc0_1) (by omega) (by omega) (al_up2 hc0_4 (Or.inr q80)) hI81 hF81
  exact c0 (r - p) p sc ar (by omega) (e1) (e2) (by omega) (by omega) al_0 hI hF
set_option maxRecDepth 20000 in
theorem sf_X10_wrong {X : Nat × (Nat → Int32)} {S a b : Nat} {sc : Nat → Int32} {ar : Nat → Nat → Int32} {lo : Nat → Int64} {ex : Bool} (hW : Wd S a b) (hI : Iv S sc ar) (x1 : Int32) (d : Nat)  : cv X S a b (d + 1) 125 [.ref 49, .int x1] sc ar lo ex (fun sc' ar' => Iv S sc' ar' ∧ Fr [4941, 4942] [] sc ar sc' ar' ∧ ((¬ x1 = 0 → ¬ sc' 4941 = 0) ∧ (sc 4941 = 0 → sc' 4942 = sc 4939))) := by
  obtain ⟨ha1, ha8, hb1, hb8, hab, hS1, hS⟩ := id hW
  refine cv_of (M := an_X10_wrong) rfl (Nat.le_of_ble_eq_true rfl) ?_
  have hF : Fr [4941, 4942] [] sc ar sc ar := fr_0
  refine to_eq (fr' := (0, [(0, .ref 49), (1, .int x1)], [], gh S a b sc ar lo, ex, 0, 0)) rfl ?_
  refine to_n 1 (fr' := (1, [(0, .ref 49), (1, .int x1)], [.ref 49], gh S a b sc ar lo, ex, 0, 0)) rfl ?_
  refine to_getR (v := (sc 4941)) rfl rfl rfl rfl rfl ?_
  refine to_if_eq (t := 8) rfl (fun q1 => ?_) (fun q1 => ?_)
  · refine to_n 2 (fr' := (10, [(0, .ref 49), (1, .int x1)], [.int x1, .ref 49], gh S a b sc ar lo, ex, 0, 0)) rfl ?_
    refine to_putR (h' := gh S a b (upd sc 4941 x1) ar lo) rfl rfl rfl (Nat.le_of_ble_eq_true rfl) rfl rfl ?_
    have hI2 := ip_4941 (v := x1) hI 
    have hF2 := fr_s (k := 4941) (v := x1) hF (by decide)
    refine to_n 2 (fr' := (15, [(0, .ref 49), (1, .int x1)], [.ref 49, .ref 49], gh S a b (upd sc 4941 x1) ar lo, ex, 0, 0)) rfl ?_
    obtain ⟨n3, hn3, e3⟩ := iv_s4939 hI2
    refine to_getR (v := (nI n3)) rfl rfl rfl rfl e3 ?_
    refine to_putR (h' := gh S a b (upd (upd sc 4941 x1) 4942 (nI n3)) ar lo) rfl rfl rfl (Nat.le_of_ble_eq_true rfl) rfl rfl ?_
    have hI4 := ip_4942 (v := (nI n3)) hI2 
    have hF4 := fr_s (k := 4942) (v := (nI n3)) hF2 (by decide)
    exact to_rt (i := .return_) (tg := []) rfl rfl ⟨_, _, ⟨hI4, hF4, ⟨fun w => w, fun _ => e3.symm⟩⟩, rfl⟩
  · exact to_rt (i := .return_) (tg := []) rfl rfl ⟨_, _, ⟨hI, hF, ⟨fun _ => q1, fun w => absurd w q1⟩⟩, rfl⟩
set_option maxRecDepth 20000 in
theorem em_ok {X : Nat × (Nat → Int32)} {S a b : Nat} {sc : Nat → Int32} {ar : Nat → Nat → Int32} {lo : Nat → Int64} {ex : Bool} (hW : Wd S a b) (hI : Iv S sc ar) (x1 : Int32) (l c : Nat) (hl : l < 6) (hc : c < 700) (eb : sc 4941 = 0) (el : sc 4907 = nI l) (ec : sc 4934 = nI c) (d : Nat)  : cv X S a b (d + 1) 126 [.ref 49, .int x1] sc ar lo ex (fun sc' ar' => Iv S sc' ar' ∧ Fr [4934] [71] sc ar sc' ar' ∧ (sc' = upd sc 4934 (nI (c + 1)) ∧ ar' = uA ar 71 (upd (ar 71) (700 * l + c) x1))) := by
  obtain ⟨ha1, ha8, hb1, hb8, hab, hS1, hS⟩ := id hW
  refine cv_of (M := an_X10_emit) rfl (Nat.le_of_ble_eq_true rfl) ?_
  have hF : Fr [4934] [71] sc ar sc ar := fr_0
  refine to_eq (fr' := (0, [(0, .ref 49), (1, .int x1)], [], gh S a b sc ar lo, ex, 0, 0)) rfl ?_
  refine to_n 1 (fr' := (1, [(0, .ref 49), (1, .int x1)], [.ref 49], gh S a b sc ar lo, ex, 0, 0)) rfl ?_
  refine to_getR (v := 0) rfl rfl rfl rfl eb ?_
  refine to_n 2 (fr' := (9, [(0, .ref 49), (1, .int x1)], [.ref 49], gh S a b sc ar lo, ex, 0, 0)) rfl ?_
  refine to_get rfl rfl rfl rfl ?_
  refine to_n 2 (fr' := (16, [(0, .ref 49), (1, .int x1)], [.ref 49, .int 700, .ref 71], gh S a b sc ar lo, ex, 0, 0)) rfl ?_
  refine to_getR (v := (nI l)) rfl rfl rfl rfl el ?_
  refine to_mulN (x := 700) (y := l) rfl ?_
  refine to_n 1 (fr' := (21, [(0, .ref 49), (1, .int x1)], [.ref 49, .int (nI (700 * l)), .ref 71], gh S a b sc ar lo, ex, 0, 0)) rfl ?_
  refine to_getR (v := (nI c)) rfl rfl rfl rfl ec ?_
  refine to_addN (x := (700 * l)) (y := c) rfl ?_
  refine to_n 1 (fr' := (26, [(0, .ref 49), (1, .int x1)], [.int x1, .int (nI ((700 * l) + c)), .ref 71], gh S a b sc ar lo, ex, 0, 0)) rfl ?_
  refine to_iasR (i := ((700 * l) + c)) (h' := gh S a b sc (uA ar 71 (upd (ar 71) ((700 * l) + c) x1)) lo) rfl rfl (by omega) (by omega) rfl ?_
  have hI1 := ia_71 (g := (upd (ar 71) ((700 * l) + c) x1)) hI
  have hF1 := fr_a (c := 71) (g := (upd (ar 71) ((700 * l) + c) x1)) hF (by decide)
  refine to_n 2 (fr' := (29, [(0, .ref 49), (1, .int x1)], [.ref 49, .ref 49], gh S a b sc (uA ar 71 (upd (ar 71) ((700 * l) + c) x1)) lo, ex, 0, 0)) rfl ?_
  refine to_getR (v := (nI c)) rfl rfl rfl rfl ec ?_
  refine to_n 1 (fr' := (33, [(0, .ref 49), (1, .int x1)], [.int 1, .int (nI c), .ref 49], gh S a b sc (uA ar 71 (upd (ar 71) ((700 * l) + c) x1)) lo, ex, 0, 0)) rfl ?_
  refine to_addN (x := c) (y := 1) rfl ?_
  refine to_putR (h' := gh S a b (upd sc 4934 (nI (c + 1))) (uA ar 71 (upd (ar 71) ((700 * l) + c) x1)) lo) rfl rfl rfl (Nat.le_of_ble_eq_true rfl) rfl rfl ?_
  have hI2 := ip_4934 (v := (nI (c + 1))) hI1 (rl_n (n := (c + 1)) (by omega))
  have hF2 := fr_s (k := 4934) (v := (nI (c + 1))) hF1 (by decide)
  exact to_rt (i := .return_) (tg := []) rfl rfl ⟨_, _, ⟨hI2, hF2, ⟨rfl, rfl⟩⟩, rfl⟩
theorem em_bad {X : Nat × (Nat → Int32)} {S a b : Nat} {sc : Nat → Int32} {ar : Nat → Nat → Int32} {lo : Nat → Int64} {ex : Bool} (x1 : Int32) (hb : ¬ sc 4941 = 0) (d : Nat) : ai_Ev an_ms an_lk X 35 (d + 1) 126 [.ref 49, .int x1] (gh S a b sc ar lo) ex (.inl (none, gh S a b sc ar lo, ex, 0, 0)) := by
  refine ev_to (M := an_X10_emit) rfl (Nat.le_of_ble_eq_true rfl) ?_
  refine to_n 1 (fr' := (1, [(0, .ref 49), (1, .int x1)], [.ref 49], gh S a b sc ar lo, ex, 0, 0)) rfl ?_
  refine to_getR (v := sc 4941) rfl rfl rfl rfl rfl ?_
  refine to_if_eq_F (t := 8) rfl hb ?_
  exact to_rt (i := .return_) (tg := []) rfl rfl rfl
