/-! THE FULL STATE: the ground of the city -/
def zab (x y : Nat) : Nat := (x - y) + (y - x)
/-- how far two cells are from each other -/
def zds (a i j : Nat) : Nat := zab (i % a) (j % a) + zab (i / a) (j / a)
/-- what is beside cell k: above, left, right, below -/
def znb (a b k s : Nat) : Int32 := if s = 0 then (if 0 < k / a then nI (k - a) else -1) else if s = 1 then (if 0 < k % a then nI (k - 1) else -1) else if s = 2 then (if k % a + 1 < a then nI (k + 1) else -1) else (if k / a + 1 < b then nI (k + a) else -1)
theorem zds_sym {a i j : Nat} : zds a i j = zds a j i := by
  unfold zds zab
  omega
theorem zds_lt {a b S i j : Nat} (ha1 : 1 ≤ a) (ha : a ≤ 8) (hb : b ≤ 8) (hab : a * b = S) (hi : i < S) (hj : j < S) : zds a i j < 16 := by
  have h1 := Nat.mod_lt i (show a > 0 by omega)
  have h2 := Nat.mod_lt j (show a > 0 by omega)
  have h3 : i / a < b := by
    rw [Nat.div_lt_iff_lt_mul (by omega), Nat.mul_comm]
    omega
  have h4 : j / a < b := by
    rw [Nat.div_lt_iff_lt_mul (by omega), Nat.mul_comm]
    omega
  unfold zds zab
  generalize i / a = x at *
  generalize j / a = y at *
  generalize i % a = z at *
  generalize j % a = w at *
  omega
theorem zdm {a x y : Nat} (hy : y < a) : (a * x + y) / a = x ∧ (a * x + y) % a = y := by
  constructor
  · rw [Nat.mul_add_div (by omega), Nat.div_eq_of_lt hy]
    rfl
  · rw [Nat.mul_add_mod, Nat.mod_eq_of_lt hy]
/-- one step to a side -/
theorem znb_ds {a b S k j s : Nat} (ha : 1 ≤ a) (hab : a * b = S) (hS : S ≤ 64) (hk : k < S) (hj : j < 1000) (hs : s < 4) (h : znb a b k s = nI j) : j < S ∧ zds a k j = 1 := by
  have e1 := Nat.div_add_mod k a
  have e2 := Nat.mod_lt k (show a > 0 by omega)
  have e3 : k / a < b := by
    rw [Nat.div_lt_iff_lt_mul (by omega), Nat.mul_comm]
    omega
  generalize hq : k / a = q at *
  generalize hr : k % a = r at *
  have n1 : ¬ (-1 : Int32) = nI j := fun e => nI_neg (n := j) (by omega) (by decide) e.symm
  have key : ∀ x y : Nat, y < a → x < b → j = a * x + y → zab q x + zab r y = 1 → j < S ∧ zds a k j = 1 := by
    intro x y hy hx e w
    have m1 : a * (x + 1) ≤ a * b := Nat.mul_le_mul_left a hx
    rw [Nat.mul_add, Nat.mul_one] at m1
    obtain ⟨d1, d2⟩ := zdm (x := x) hy
    rw [← e] at d1 d2
    refine ⟨by omega, ?_⟩
    unfold zds
    rw [hq, hr, d1, d2]
    omega
  unfold znb at h
  rw [hq, hr] at h
  split at h
  · split at h
    · have m1 : a * q = a * (q - 1) + a := by
        obtain ⟨p, rfl⟩ : ∃ p, q = p + 1 := ⟨q - 1, by omega⟩
        rw [Nat.mul_add, Nat.mul_one]
        rfl
      have := (nI_eq (by omega) (by omega)).mp h
      exact key (q - 1) r e2 (by omega) (by omega) (by unfold zab; omega)
    · exact absurd h n1
  · split at h
    · split at h
      · have := (nI_eq (by omega) (by omega)).mp h
        exact key q (r - 1) (by omega) e3 (by omega) (by unfold zab; omega)
      · exact absurd h n1
    · split at h
      · split at h
        · have := (nI_eq (by omega) (by omega)).mp h
          exact key q (r + 1) (by omega) e3 (by omega) (by unfold zab; omega)
        · exact absurd h n1
      · split at h
        · have m1 : a * (q + 1) = a * q + a := by rw [Nat.mul_add, Nat.mul_one]
          have m2 : a * (q + 2) ≤ a * b := Nat.mul_le_mul_left a (by omega)
          rw [Nat.mul_add] at m2
          have := (nI_eq (by omega) (by omega)).mp h
          exact key (q + 1) r e2 (by omega) (by omega) (by unfold zab; omega)
        · exact absurd h n1
theorem zds_nb {a b S k j : Nat} (ha : 1 ≤ a) (hab : a * b = S) (hk : k < S) (hj : j < S) (h : zds a k j = 1) : ∃ s, s < 4 ∧ znb a b k s = nI j := by
  have e1 := Nat.div_add_mod k a
  have e2 := Nat.mod_lt k (show a > 0 by omega)
  have f1 := Nat.div_add_mod j a
  have f2 := Nat.mod_lt j (show a > 0 by omega)
  have f3 : j / a < b := by
    rw [Nat.div_lt_iff_lt_mul (by omega), Nat.mul_comm]
    omega
  unfold zds at h
  unfold znb
  generalize k / a = q at *
  generalize k % a = r at *
  generalize j / a = q' at *
  generalize j % a = r' at *
  unfold zab at h
  by_cases hq : q = q'
  · subst hq
    by_cases hr : r' + 1 = r
    · refine ⟨1, by omega, ?_⟩
      rw [if_neg (by omega), if_pos rfl, if_pos (by omega)]
      exact congrArg nI (by omega)
    · refine ⟨2, by omega, ?_⟩
      rw [if_neg (by omega), if_neg (by omega), if_pos rfl, if_pos (by omega)]
      exact congrArg nI (by omega)
  · by_cases hq2 : q' + 1 = q
    · subst hq2
      rw [Nat.mul_add, Nat.mul_one] at e1
      refine ⟨0, by omega, ?_⟩
      rw [if_pos rfl, if_pos (by omega)]
      exact congrArg nI (by omega)
    · obtain rfl : q' = q + 1 := by omega
      rw [Nat.mul_add, Nat.mul_one] at f1
      refine ⟨3, by omega, ?_⟩
      rw [if_neg (by omega), if_neg (by omega), if_neg (by omega), if_pos (by omega)]
      exact congrArg nI (by omega)
/-- what is beside a cell, told rising -/
theorem znb_up {a b S k s t i j : Nat} (ha : 1 ≤ a) (hab : a * b = S) (hS : S ≤ 64) (hk : k < S) (hi : i < 1000) (hj : j < 1000) (hs : s < t) (ht : t < 4) (h1 : znb a b k s = nI i) (h2 : znb a b k t = nI j) : i < j := by
  have n1 : ¬ (-1 : Int32) = nI j := fun e => nI_neg (n := j) (by omega) (by decide) e.symm
  have n2 : ¬ (-1 : Int32) = nI i := fun e => nI_neg (n := i) (by omega) (by decide) e.symm
  have e1 := Nat.div_add_mod k a
  have e2 := Nat.mod_lt k (show a > 0 by omega)
  have e4 : 0 < k / a → a ≤ k := fun h => (Nat.div_pos_iff.mp h).2
  have v : ∀ x y : Nat, x < 1000 → y < 1000 → nI x = nI y → x = y := fun x y hx hy e => (nI_eq (by omega) (by omega)).mp e
  have ha2 : a ≤ 64 := by
    rcases Nat.eq_zero_or_pos b with rfl | hb
    · rw [Nat.mul_zero] at hab; omega
    · have := Nat.le_mul_of_pos_right a hb; omega
  unfold znb at h1 h2
  grind
/-! THE FULL STATE: the ways -/
/-- what steps to the goal must be: how many from each open cell; 1000 and more, or less than 0: none -/
def ZW (S a g : Nat) (st D : Nat → Int32) : Prop :=
  (∀ k d : Nat, k < S → d < 1000 → D k = nI d → ¬ k = g ∧ ¬ st k = 1) ∧
  (∀ k : Nat, k < S → ¬ k = g → ¬ st k = 1 → zds a k g = 1 → D k = nI 0) ∧
  (∀ k j d : Nat, k < S → j < S → d < 1000 → D k = nI d → zds a k j = 1 → ¬ j = g → ¬ st j = 1 → ∃ e : Nat, e ≤ d + 1 ∧ e < 1000 ∧ D j = nI e) ∧
  (∀ k : Nat, k < S → D k = nI 0 → zds a k g = 1) ∧
  (∀ k d : Nat, k < S → d + 1 < 1000 → D k = nI (d + 1) → ∃ j : Nat, j < S ∧ zds a j k = 1 ∧ D j = nI d)
theorem zn_in {d e : Nat} (hd : d < 1000) (he : e < 1000) (h : nI d = nI e) : d = e := (nI_eq (by omega) (by omega)).mp h
theorem ZW_le {S a g : Nat} {st D E : Nat → Int32} (h : ZW S a g st D) (h' : ZW S a g st E) : ∀ d : Nat, d < 1000 → ∀ k : Nat, k < S → D k = nI d → ∃ e : Nat, e ≤ d ∧ E k = nI e := by
  obtain ⟨h1, h2, h3, h4, h5⟩ := h
  obtain ⟨g1, g2, g3, g4, g5⟩ := h'
  intro d
  induction d with
  | zero =>
    intro hd k hk e
    exact ⟨0, Nat.le_refl _, g2 k hk (h1 k 0 hk hd e).1 (h1 k 0 hk hd e).2 (h4 k hk e)⟩
  | succ d ih =>
    intro hd k hk e
    obtain ⟨j, hj, hjk, ej⟩ := h5 k d hk hd e
    obtain ⟨x, hx, ex⟩ := ih (by omega) j hj ej
    obtain ⟨y, hy, _, ey⟩ := g3 j k x hj hk (by omega) ex hjk (h1 k _ hk hd e).1 (h1 k _ hk hd e).2
    exact ⟨y, by omega, ey⟩
theorem ZW_eq {S a g : Nat} {st D E : Nat → Int32} (h : ZW S a g st D) (h' : ZW S a g st E) {d k : Nat} (hd : d < 1000) (hk : k < S) (e : D k = nI d) : E k = nI d := by
  obtain ⟨x, hx, ex⟩ := ZW_le h h' d hd k hk e
  obtain ⟨y, hy, ey⟩ := ZW_le h' h x (by omega) k hk ex
  have := zn_in (by omega) (by omega) (ey.symm.trans e)
  obtain rfl : x = d := by omega
  exact ex
/-- how many of the first n have it -/
def zc (P : Nat → Bool) : Nat → Nat
  | 0 => 0
  | n + 1 => zc P n + if P n then 1 else 0
theorem zc_le (P : Nat → Bool) : ∀ n, zc P n ≤ n
  | 0 => Nat.le_refl _
  | n + 1 => by
    have := zc_le P n
    unfold zc
    split <;> omega
theorem zc_mono {P Q : Nat → Bool} (h : ∀ k, P k = true → Q k = true) : ∀ n, zc P n ≤ zc Q n
  | 0 => Nat.le_refl _
  | n + 1 => by
    have := zc_mono h n
    have := h n
    unfold zc
    grind
theorem zc_lt {P Q : Nat → Bool} (h : ∀ k, P k = true → Q k = true) {i : Nat} (hp : P i = false) (hq : Q i = true) : ∀ n, i < n → zc P n + 1 ≤ zc Q n
  | 0, hi => absurd hi (Nat.not_lt_zero _)
  | n + 1, hi => by
    have h0 := zc_mono h n
    have h1 := h n
    have h2 := fun w => zc_lt h hp hq n w
    unfold zc
    by_cases e : i = n
    · subst e
      grind
    · grind
/-- where some cell has d steps, d cells have less -/
theorem ZW_cnt {S : Nat} {D : Nat → Int32} {R : Nat → Nat → Prop} (h5 : ∀ k d : Nat, k < S → d + 1 < 1000 → D k = nI (d + 1) → ∃ j : Nat, j < S ∧ R j k ∧ D j = nI d) : ∀ d : Nat, d < 1000 → ∀ k : Nat, k < S → D k = nI d → d + 1 ≤ zc (fun j => decide (0 ≤ D j ∧ D j ≤ nI d)) S := by
  have le : ∀ x y : Nat, x < 1000 → y < 1000 → (nI x ≤ nI y ↔ x ≤ y) := by
    intro x y hx hy
    unfold nI
    rw [Int32.le_iff_toInt_le, Int32.toInt_ofNat_of_lt (by omega), Int32.toInt_ofNat_of_lt (by omega)]
    omega
  intro d
  induction d with
  | zero =>
    intro hd k hk e
    have := zc_lt (P := fun _ => false) (Q := fun j => decide (0 ≤ D j ∧ D j ≤ nI 0)) (fun _ w => by simp at w) (i := k) rfl (by simp only [e, decide_eq_true_eq]; exact ⟨by decide, by decide⟩) S hk
    omega
  | succ d ih =>
    intro hd k hk e
    obtain ⟨j, hj, _, ej⟩ := h5 k d hk hd e
    have h1 := ih (by omega) j hj ej
    have h2 := zc_lt (P := fun j => decide (0 ≤ D j ∧ D j ≤ nI d)) (Q := fun j => decide (0 ≤ D j ∧ D j ≤ nI (d + 1))) (fun x w => by
      simp only [decide_eq_true_eq] at w ⊢
      exact ⟨w.1, Int32.le_trans w.2 ((le d (d + 1) (by omega) (by omega)).mpr (by omega))⟩) (i := k) (by
      simp only [e, decide_eq_false_iff_not]
      intro w
      have := (le _ _ (by omega) (by omega)).mp w.2
      omega) (by
      simp only [e, decide_eq_true_eq]
      exact ⟨(le 0 (d + 1) (by omega) (by omega)).mpr (by omega), Int32.le_refl _⟩) S hk
    omega
theorem ZW_lt {S a g : Nat} {st D : Nat → Int32} (h : ZW S a g st D) {d k : Nat} (hd : d < 1000) (hk : k < S) (e : D k = nI d) : d < S := by
  have h1 := ZW_cnt (R := fun j k => zds a j k = 1) h.2.2.2.2 d hd k hk e
  have h2 := zc_le (fun j => decide (0 ≤ D j ∧ D j ≤ nI d)) S
  omega
/-- where a company goes: to what is beside its place with the fewest steps, the first of these; else it stays -/
def ZC (S a p : Nat) (D : Nat → Int32) (b d : Nat) : Prop := b < S ∧ d < 1000 ∧ zds a p b = 1 ∧ D b = nI d
def ZG (S a g : Nat) (st : Nat → Int32) (p p' : Nat) : Prop := ∃ D : Nat → Int32, ZW S a g st D ∧ ((∃ d : Nat, ZC S a p D p' d ∧ ∀ b e : Nat, ZC S a p D b e → d < e ∨ (d = e ∧ p' ≤ b)) ∨ (p' = p ∧ ∀ b e : Nat, ¬ ZC S a p D b e))
theorem ZC_eq {S a g p b d : Nat} {st D E : Nat → Int32} (h : ZW S a g st D) (h' : ZW S a g st E) (c : ZC S a p D b d) : ZC S a p E b d := ⟨c.1, c.2.1, c.2.2.1, ZW_eq h h' c.2.1 c.1 c.2.2.2⟩
theorem ZG_eq {S a g p p1 p2 : Nat} {st : Nat → Int32} (h : ZG S a g st p p1) (h' : ZG S a g st p p2) : p1 = p2 := by
  obtain ⟨D, w, h⟩ := h
  obtain ⟨E, v, h'⟩ := h'
  rcases h with ⟨d, c, m⟩ | ⟨e, m⟩
  · rcases h' with ⟨d', c', m'⟩ | ⟨e', m'⟩
    · have x1 := m _ _ (ZC_eq v w c')
      have x2 := m' _ _ (ZC_eq w v c)
      omega
    · exact absurd (ZC_eq w v c) (m' _ _)
  · rcases h' with ⟨d', c', m'⟩ | ⟨e', m'⟩
    · exact absurd (ZC_eq v w c') (m _ _)
    · rw [e, e']
/-- the same, as a function -/
noncomputable def zgo (S a g : Nat) (st : Nat → Int32) (p : Nat) : Nat := @Classical.epsilon Nat ⟨0⟩ (fun q => ZG S a g st p q)
theorem zgo_eq {S a g p q : Nat} {st : Nat → Int32} (h : ZG S a g st p q) : zgo S a g st p = q := ZG_eq (@Classical.epsilon_spec Nat (fun q => ZG S a g st p q) ⟨q, h⟩) h
/-! THE FULL STATE: the search of the class, in naturals; 1000: none -/
def zI (d : Nat) : Int32 := if d < 1000 then nI d else -1
theorem zI_n {d : Nat} (h : d < 1000) : zI d = nI d := if_pos h
theorem zI_no {d : Nat} (h : ¬ d < 1000) : zI d = -1 := if_neg h
theorem zI_m {d : Nat} : zI d = -1 ↔ ¬ d < 1000 := by
  unfold zI
  split
  · exact ⟨fun e => absurd e (nI_neg (by omega) (by decide)), fun w => absurd (by assumption) w⟩
  · exact ⟨fun _ => by assumption, fun _ => rfl⟩
theorem zI_eq {d e : Nat} (hd : d < 1000) : zI e = nI d ↔ e = d := by
  unfold zI
  split
  · exact nI_eq (by omega) (by omega)
  · exact ⟨fun w => absurd w.symm (nI_neg (by omega) (by decide)), fun w => by omega⟩
def znn (a b k s : Nat) : Nat := if s = 0 then (if 0 < k / a then k - a else 1000) else if s = 1 then (if 0 < k % a then k - 1 else 1000) else if s = 2 then (if k % a + 1 < a then k + 1 else 1000) else (if k / a + 1 < b then k + a else 1000)
theorem znb_nn {a b S k s : Nat} (ha : 1 ≤ a) (ha8 : a ≤ 8) (hk : k < S) (hS : S ≤ 64) : znb a b k s = zI (znn a b k s) := by
  unfold znb znn zI
  grind
/-- one side looked at -/
def zs1 (S g : Nat) (st : Nat → Int32) (c x : Nat) (t : (Nat → Nat) × (Nat → Nat) × Nat) : (Nat → Nat) × (Nat → Nat) × Nat := if x < S ∧ ¬ x = g ∧ ¬ t.1 x < 1000 ∧ ¬ st x = 1 then (fun k => if k = x then c else t.1 k, fun i => if i = t.2.2 then x else t.2.1 i, t.2.2 + 1) else t
def ZB (S a b g : Nat) (st : Nat → Int32) (D Q : Nat → Nat) (n h s : Nat) : Prop :=
  n = zc (fun k => decide (D k < 1000)) S ∧
  (∀ k, k < S → D k < 1000 → (¬ k = g ∧ ¬ st k = 1) ∧ ∃ i, i < n ∧ Q i = k) ∧
  (∀ i, i < n → Q i < S ∧ D (Q i) < 1000) ∧
  (∀ i j, i ≤ j → j < n → D (Q i) ≤ D (Q j)) ∧
  (∀ i t, (i < h ∨ (i = h ∧ t < s)) → i < n → t < 4 → znn a b (Q i) t < S → ¬ znn a b (Q i) t = g → ¬ st (znn a b (Q i) t) = 1 → D (znn a b (Q i) t) ≤ D (Q i) + 1) ∧
  (h < n → ∀ i, i < n → D (Q i) ≤ D (Q h) + 1) ∧
  (∀ k, k < S → ¬ k = g → ¬ st k = 1 → zds a k g = 1 → D k = 0) ∧
  (∀ k, k < S → D k = 0 → zds a k g = 1) ∧
  (∀ k d, k < S → d + 1 < 1000 → D k = d + 1 → ∃ j, j < S ∧ zds a j k = 1 ∧ D j = d)
theorem zc_put {D : Nat → Nat} {x c S : Nat} (hx : x < S) (hD : ¬ D x < 1000) (hc : c < 1000) : zc (fun k => decide ((if k = x then c else D k) < 1000)) S = zc (fun k => decide (D k < 1000)) S + 1 := by
  have key : ∀ n, zc (fun k => decide ((if k = x then c else D k) < 1000)) n = zc (fun k => decide (D k < 1000)) n + if x < n then 1 else 0 := by
    intro n
    induction n with
    | zero => simp [zc]
    | succ n ih =>
      unfold zc
      rw [ih]
      grind
  rw [key, if_pos hx]
theorem ZB_lt {S a b g : Nat} {st : Nat → Int32} {D Q : Nat → Nat} {n h s : Nat} (w : ZB S a b g st D Q n h s) (hS : S ≤ 64) {k : Nat} (hk : k < S) (hd : D k < 1000) : D k < S := by
  obtain ⟨w0, w1, w2, w3, w4, w5, w6, w7, w8⟩ := w
  have h1 := ZW_cnt (S := S) (D := fun k => zI (D k)) (R := fun j k => zds a j k = 1) (fun k d hk hd e => by
    obtain ⟨j, h1, h2, h3⟩ := w8 k d hk hd ((zI_eq hd).mp e)
    exact ⟨j, h1, h2, (zI_eq (by omega)).mpr h3⟩) (D k) hd k hk (zI_n hd)
  have h2 := zc_le (fun j => decide (0 ≤ zI (D j) ∧ zI (D j) ≤ nI (D k))) S
  omega
theorem ZB_step {S a b g : Nat} {st : Nat → Int32} {D Q : Nat → Nat} {n h s : Nat} (ha : 1 ≤ a) (ha8 : a ≤ 8) (hab : a * b = S) (hS : S ≤ 64) (w : ZB S a b g st D Q n h s) (hh : h < n) (hs : s < 4) : ZB S a b g st (zs1 S g st (D (Q h) + 1) (znn a b (Q h) s) (D, Q, n)).1 (zs1 S g st (D (Q h) + 1) (znn a b (Q h) s) (D, Q, n)).2.1 (zs1 S g st (D (Q h) + 1) (znn a b (Q h) s) (D, Q, n)).2.2 h (s + 1) := by
  have hc := ZB_lt w hS (w.2.2.1 h hh).1 (w.2.2.1 h hh).2
  obtain ⟨w0, w1, w2, w3, w4, w5, w6, w7, w8⟩ := w
  have hq := w2 h hh
  generalize hx : znn a b (Q h) s = x
  by_cases hp : x < S ∧ ¬ x = g ∧ ¬ D x < 1000 ∧ ¬ st x = 1
  · have e : zs1 S g st (D (Q h) + 1) x (D, Q, n) = (fun k => if k = x then D (Q h) + 1 else D k, fun i => if i = n then x else Q i, n + 1) := if_pos hp
    rw [e]
    show ZB S a b g st (fun k => if k = x then D (Q h) + 1 else D k) (fun i => if i = n then x else Q i) (n + 1) h (s + 1)
    obtain ⟨p1, p2, p3, p4⟩ := hp
    have hadj : zds a (Q h) x = 1 := (znb_ds ha hab hS hq.1 (show x < 1000 by omega) hs (by rw [znb_nn (S := S) ha ha8 hq.1 hS, hx, zI_n (by omega)])).2
    have hQx : ∀ i, i < n → ¬ Q i = x := fun i hi e => p3 (e ▸ (w2 i hi).2)
    refine ⟨?_, ?_, ?_, ?_, ?_, ?_, ?_, ?_, ?_⟩
    · rw [zc_put p1 p3 (by omega)]
      omega
    · intro k hk hd
      dsimp only at hd
      by_cases ek : k = x
      · subst ek
        exact ⟨⟨p2, p4⟩, n, by omega, if_pos rfl⟩
      · rw [if_neg ek] at hd
        obtain ⟨u1, i, u2, u3⟩ := w1 k hk hd
        exact ⟨u1, i, by omega, by dsimp only; rw [if_neg (by omega)]; exact u3⟩
    · intro i hi
      dsimp only
      by_cases ei : i = n
      · rw [if_pos ei, if_pos rfl]
        omega
      · rw [if_neg ei, if_neg (hQx i (by omega))]
        exact w2 i (by omega)
    · intro i j hij hj
      dsimp only
      by_cases ej : j = n
      · rw [if_pos ej, if_pos rfl]
        by_cases ei : i = n
        · rw [if_pos ei, if_pos rfl]
          omega
        · rw [if_neg ei, if_neg (hQx i (by omega))]
          exact w5 hh i (by omega)
      · rw [if_neg ej, if_neg (hQx j (by omega)), if_neg (show ¬ i = n by omega), if_neg (hQx i (by omega))]
        exact w3 i j hij (by omega)
    · intro i t hit hi ht
      dsimp only
      have ei : ¬ i = n := by omega
      rw [if_neg ei, if_neg (hQx i (by omega))]
      intro k1 k2 k3
      by_cases ez : znn a b (Q i) t = x
      · rw [if_pos ez]
        by_cases eh : i = h
        · subst eh
          omega
        · have := w4 i t (by omega) (by omega) ht k1 k2 k3
          rw [ez] at this
          omega
      · rw [if_neg ez]
        by_cases eh : i = h ∧ t = s
        · obtain ⟨rfl, rfl⟩ := eh
          exact absurd hx ez
        · exact w4 i t (by omega) (by omega) ht k1 k2 k3
    · intro _ i hi
      dsimp only
      rw [if_neg (show ¬ h = n by omega), if_neg (hQx h hh)]
      by_cases ei : i = n
      · rw [if_pos ei, if_pos rfl]
        omega
      · rw [if_neg ei, if_neg (hQx i (by omega))]
        exact w5 hh i (by omega)
    · intro k hk k1 k2 k3
      dsimp only
      have := w6 k hk k1 k2 k3
      rw [if_neg (fun e => by subst e; omega)]
      exact this
    · intro k hk
      dsimp only
      split
      · intro e
        omega
      · exact w7 k hk
    · intro k d hk hd
      dsimp only
      by_cases ek : k = x
      · subst ek
        rw [if_pos rfl]
        intro e
        refine ⟨Q h, hq.1, hadj, ?_⟩
        rw [if_neg (hQx h hh)]
        omega
      · rw [if_neg ek]
        intro e
        obtain ⟨j, j1, j2, j3⟩ := w8 k d hk hd e
        refine ⟨j, j1, j2, ?_⟩
        rw [if_neg (fun e => by subst e; omega)]
        exact j3
  · have e : zs1 S g st (D (Q h) + 1) x (D, Q, n) = (D, Q, n) := if_neg hp
    rw [e]
    show ZB S a b g st D Q n h (s + 1)
    refine ⟨w0, w1, w2, w3, ?_, w5, w6, w7, w8⟩
    intro i t hit hi ht k1 k2 k3
    by_cases eh : i = h ∧ t = s
    · obtain ⟨rfl, rfl⟩ := eh
      rw [hx] at k1 k2 k3 ⊢
      have p3 : D x < 1000 := Classical.byContradiction fun v => hp ⟨k1, k2, v, k3⟩
      obtain ⟨_, j, hj, ej⟩ := w1 x k1 p3
      have := w5 hh j hj
      rw [ej] at this
      exact this
    · exact w4 i t (by omega) hi ht k1 k2 k3
theorem ZB_next {S a b g : Nat} {st : Nat → Int32} {D Q : Nat → Nat} {n h : Nat} (w : ZB S a b g st D Q n h 4) : ZB S a b g st D Q n (h + 1) 0 := by
  obtain ⟨w0, w1, w2, w3, w4, w5, w6, w7, w8⟩ := w
  refine ⟨w0, w1, w2, w3, fun i t hit hi ht => w4 i t (by omega) hi ht, fun hh i hi => ?_, w6, w7, w8⟩
  have := w5 (by omega) i hi
  have := w3 h (h + 1) (by omega) hh
  omega
theorem ZB_end {S a b g : Nat} {st : Nat → Int32} {D Q : Nat → Nat} {n h : Nat} (ha : 1 ≤ a) (ha8 : a ≤ 8) (hab : a * b = S) (hS : S ≤ 64) (w : ZB S a b g st D Q n h 0) (hh : n ≤ h) : ZW S a g st (fun k => zI (D k)) := by
  have hlt := fun k hk => ZB_lt w hS (k := k) hk
  obtain ⟨w0, w1, w2, w3, w4, w5, w6, w7, w8⟩ := w
  refine ⟨?_, ?_, ?_, ?_, ?_⟩
  · intro k d hk hd e
    have := (zI_eq hd).mp e
    exact (w1 k hk (by omega)).1
  · intro k hk k1 k2 k3
    exact (zI_eq (by omega)).mpr (w6 k hk k1 k2 k3)
  · intro k j d hk hj hd e hkj j1 j2
    have e := (zI_eq hd).mp e
    obtain ⟨_, i, hi, ei⟩ := w1 k hk (by omega)
    obtain ⟨t, ht, et⟩ := zds_nb ha hab hk hj hkj
    rw [znb_nn (S := S) ha ha8 hk hS] at et
    have et := (zI_eq (show j < 1000 by omega)).mp et
    have := w4 i t (by omega) hi ht
    rw [ei, et] at this
    have := this hj j1 j2
    have hk2 := hlt k hk (by omega)
    exact ⟨D j, by omega, by omega, zI_n (by omega)⟩
  · intro k hk e
    exact w7 k hk ((zI_eq (by omega)).mp e)
  · intro k d hk hd e
    obtain ⟨j, j1, j2, j3⟩ := w8 k d hk hd ((zI_eq hd).mp e)
    exact ⟨j, j1, j2, (zI_eq (by omega)).mpr j3⟩
/-- the first look round: the goal's sides -/
def ZA (S a b g : Nat) (st : Nat → Int32) (D Q : Nat → Nat) (n s : Nat) : Prop :=
  n = zc (fun k => decide (D k < 1000)) S ∧
  (∀ k, k < S → D k < 1000 → (¬ k = g ∧ ¬ st k = 1) ∧ D k = 0 ∧ zds a k g = 1 ∧ ∃ i, i < n ∧ Q i = k) ∧
  (∀ i, i < n → Q i < S ∧ D (Q i) = 0) ∧
  (∀ t, t < s → znn a b g t < S → ¬ znn a b g t = g → ¬ st (znn a b g t) = 1 → D (znn a b g t) = 0)
theorem ZA_0 {S a b g : Nat} {st : Nat → Int32} {Q : Nat → Nat} : ZA S a b g st (fun _ => 1000) Q 0 0 := by
  refine ⟨?_, fun k hk w => absurd w (Nat.lt_irrefl _), fun i hi => absurd hi (Nat.not_lt_zero _), fun t ht => absurd ht (Nat.not_lt_zero _)⟩
  have : ∀ n, zc (fun _ => decide (1000 < 1000)) n = 0 := by
    intro n
    induction n with
    | zero => rfl
    | succ n ih => unfold zc; rw [ih]; rfl
  exact (this S).symm
theorem ZA_step {S a b g : Nat} {st : Nat → Int32} {D Q : Nat → Nat} {n s : Nat} (ha : 1 ≤ a) (ha8 : a ≤ 8) (hab : a * b = S) (hS : S ≤ 64) (hg : g < S) (w : ZA S a b g st D Q n s) (hs : s < 4) : ZA S a b g st (zs1 S g st 0 (znn a b g s) (D, Q, n)).1 (zs1 S g st 0 (znn a b g s) (D, Q, n)).2.1 (zs1 S g st 0 (znn a b g s) (D, Q, n)).2.2 (s + 1) := by
  obtain ⟨w0, w1, w2, w4⟩ := w
  generalize hx : znn a b g s = x
  by_cases hp : x < S ∧ ¬ x = g ∧ ¬ D x < 1000 ∧ ¬ st x = 1
  · have e : zs1 S g st 0 x (D, Q, n) = (fun k => if k = x then 0 else D k, fun i => if i = n then x else Q i, n + 1) := if_pos hp
    rw [e]
    show ZA S a b g st (fun k => if k = x then 0 else D k) (fun i => if i = n then x else Q i) (n + 1) (s + 1)
    obtain ⟨p1, p2, p3, p4⟩ := hp
    have hadj : zds a g x = 1 := (znb_ds ha hab hS hg (show x < 1000 by omega) hs (by rw [znb_nn (S := S) ha ha8 hg hS, hx, zI_n (by omega)])).2
    have hQx : ∀ i, i < n → ¬ Q i = x := fun i hi e => p3 (by have := (w2 i hi).2; rw [e] at this; omega)
    refine ⟨?_, ?_, ?_, ?_⟩
    · rw [zc_put p1 p3 (by omega)]
      omega
    · intro k hk
      dsimp only
      by_cases ek : k = x
      · subst ek
        rw [if_pos rfl]
        exact fun _ => ⟨⟨p2, p4⟩, rfl, zds_sym.trans hadj, n, by omega, if_pos rfl⟩
      · rw [if_neg ek]
        intro hd
        obtain ⟨u1, u4, u5, i, u2, u3⟩ := w1 k hk hd
        exact ⟨u1, u4, u5, i, by omega, by rw [if_neg (by omega)]; exact u3⟩
    · intro i hi
      dsimp only
      by_cases ei : i = n
      · rw [if_pos ei, if_pos rfl]
        omega
      · rw [if_neg ei, if_neg (hQx i (by omega))]
        exact w2 i (by omega)
    · intro t ht
      dsimp only
      by_cases ez : znn a b g t = x
      · rw [if_pos ez]
        exact fun _ _ _ => rfl
      · rw [if_neg ez]
        refine w4 t ?_
        by_cases et : t = s
        · subst et
          exact absurd hx ez
        · omega
  · have e : zs1 S g st 0 x (D, Q, n) = (D, Q, n) := if_neg hp
    rw [e]
    show ZA S a b g st D Q n (s + 1)
    refine ⟨w0, w1, w2, ?_⟩
    intro t ht k1 k2 k3
    by_cases et : t = s
    · subst et
      rw [hx] at k1 k2 k3 ⊢
      have p3 : D x < 1000 := Classical.byContradiction fun v => hp ⟨k1, k2, v, k3⟩
      exact (w1 x k1 p3).2.1
    · exact w4 t (by omega) k1 k2 k3
theorem ZA_end {S a b g : Nat} {st : Nat → Int32} {D Q : Nat → Nat} {n : Nat} (ha : 1 ≤ a) (ha8 : a ≤ 8) (hab : a * b = S) (hS : S ≤ 64) (hg : g < S) (w : ZA S a b g st D Q n 4) : ZB S a b g st D Q n 0 0 := by
  obtain ⟨w0, w1, w2, w4⟩ := w
  refine ⟨w0, fun k hk hd => ⟨(w1 k hk hd).1, (w1 k hk hd).2.2.2⟩, fun i hi => ⟨(w2 i hi).1, by have := (w2 i hi).2; omega⟩, fun i j hij hj => ?_, fun i t hit hi => by omega, fun hh i hi => ?_, fun k hk k1 k2 k3 => ?_, fun k hk e => (w1 k hk (by omega)).2.2.1, fun k d hk hd e => ?_⟩
  · have := (w2 i (by omega)).2
    omega
  · have := (w2 i (by omega)).2
    omega
  · obtain ⟨t, ht, et⟩ := zds_nb ha hab hg hk (zds_sym.trans k3)
    rw [znb_nn (S := S) ha ha8 hg hS] at et
    have et := (zI_eq (show k < 1000 by omega)).mp et
    have := w4 t ht
    rw [et] at this
    exact this hk k1 k2
  · have := (w1 k hk (by omega)).2.1
    omega
/-! THE FULL STATE: the search of the reference -/
def zwy (t : Nat) : Nat := if t = 0 then 0 else if t = 1 then 2 else if t = 2 then 3 else 1
theorem zwy_lt {t : Nat} : zwy t < 4 := by
  unfold zwy
  split
  · omega
  · split
    · omega
    · split <;> omega
theorem zwy_on {s : Nat} (h : s < 4) : ∃ t, t < 4 ∧ zwy t = s := by
  have : s = 0 ∨ s = 1 ∨ s = 2 ∨ s = 3 := by omega
  rcases this with rfl | rfl | rfl | rfl
  · exact ⟨0, by omega, rfl⟩
  · exact ⟨3, by omega, rfl⟩
  · exact ⟨1, by omega, rfl⟩
  · exact ⟨2, by omega, rfl⟩
def ZR (S a b g : Nat) (st : Nat → Int32) (D : Nat → Nat) (d k w : Nat) : Prop :=
  (∀ j, j < S → D j < 1000 → ¬ j = g ∧ ¬ st j = 1) ∧
  (∀ j, j < S → ¬ j = g → ¬ st j = 1 → zds a j g = 1 → D j = 0) ∧
  (∀ j, j < S → D j = 0 → zds a j g = 1) ∧
  (∀ j e, j < S → e + 1 < 1000 → D j = e + 1 → ∃ i, i < S ∧ zds a i j = 1 ∧ D i = e) ∧
  (∀ j t, j < S → t < 4 → (D j < d ∨ (D j = d ∧ (j < k ∨ (j = k ∧ t < w)))) → znn a b j (zwy t) < S → ¬ znn a b j (zwy t) = g → ¬ st (znn a b j (zwy t)) = 1 → D (znn a b j (zwy t)) ≤ D j + 1) ∧
  (∀ j, j < S → D j < 1000 → D j ≤ d + 1) ∧
  (∀ j, j < S → D j ≤ 1000)
theorem ZR_0 {S a b g : Nat} {st : Nat → Int32} {D : Nat → Nat} (h : ∀ k, k < S → ((¬ k = g ∧ ¬ st k = 1 ∧ zds a k g = 1) ∧ D k = 0) ∨ (¬ (¬ k = g ∧ ¬ st k = 1 ∧ zds a k g = 1) ∧ D k = 1000)) : ZR S a b g st D 0 0 0 := by
  refine ⟨fun j hj hd => ?_, fun j hj k1 k2 k3 => ?_, fun j hj e => ?_, fun j e hj he e2 => ?_, fun j t hj ht w => ?_, fun j hj hd => ?_, fun j hj => ?_⟩
  · rcases h j hj with ⟨w, _⟩ | ⟨_, w⟩
    · exact ⟨w.1, w.2.1⟩
    · omega
  · rcases h j hj with ⟨_, w⟩ | ⟨w, _⟩
    · exact w
    · exact absurd ⟨k1, k2, k3⟩ w
  · rcases h j hj with ⟨w, _⟩ | ⟨_, w⟩
    · exact w.2.2
    · omega
  · rcases h j hj with ⟨_, w⟩ | ⟨_, w⟩ <;> omega
  · omega
  · rcases h j hj with ⟨_, w⟩ | ⟨_, w⟩ <;> omega
  · rcases h j hj with ⟨_, w⟩ | ⟨_, w⟩ <;> omega
theorem ZR_put {S a b g : Nat} {st : Nat → Int32} {D : Nat → Nat} {d k w x : Nat} (ha : 1 ≤ a) (ha8 : a ≤ 8) (hab : a * b = S) (hS : S ≤ 64) (h : ZR S a b g st D d k w) (hd : d < S) (hk : k < S) (hw : w < 4) (hD : D k = d) (hx : znn a b k (zwy w) = x) (hxS : x < S) (h1 : ¬ x = g) (h2 : ¬ st x = 1) (h3 : D x = 1000) : ZR S a b g st (fun j => if j = x then d + 1 else D j) d k (w + 1) := by
  obtain ⟨r1, r2, r2', r3, r4, r5, r6⟩ := h
  have hadj : zds a k x = 1 := (znb_ds ha hab hS hk (show x < 1000 by omega) zwy_lt (by rw [znb_nn (S := S) ha ha8 hk hS, hx, zI_n (by omega)])).2
  have hkx : ¬ k = x := fun e => by subst e; omega
  refine ⟨fun j hj => ?_, fun j hj k1 k2 k3 => ?_, fun j hj => ?_, fun j e hj he => ?_, fun j t hj ht => ?_, fun j hj => ?_, fun j hj => ?_⟩
  · dsimp only
    split
    · rename_i e
      subst e
      exact fun _ => ⟨h1, h2⟩
    · exact r1 j hj
  · have := r2 j hj k1 k2 k3
    dsimp only
    rw [if_neg (fun e => by subst e; omega)]
    exact this
  · dsimp only
    split
    · intro e
      omega
    · exact r2' j hj
  · dsimp only
    by_cases ej : j = x
    · rw [if_pos ej]
      intro e2
      exact ⟨k, hk, ej ▸ hadj, by rw [if_neg hkx]; omega⟩
    · rw [if_neg ej]
      intro e2
      obtain ⟨i, i1, i2, i3⟩ := r3 j e hj he e2
      exact ⟨i, i1, i2, by rw [if_neg (fun w => by subst w; omega)]; exact i3⟩
  · dsimp only
    by_cases ej : j = x
    · rw [if_pos ej]
      intro v
      omega
    · rw [if_neg ej]
      intro v k1 k2 k3
      by_cases ez : znn a b j (zwy t) = x
      · rw [if_pos ez]
        by_cases eh : j = k
        · subst eh
          omega
        · have := r4 j t hj ht (by omega) k1 k2 k3
          rw [ez] at this
          omega
      · rw [if_neg ez]
        by_cases eh : j = k ∧ t = w
        · obtain ⟨rfl, rfl⟩ := eh
          exact absurd hx ez
        · exact r4 j t hj ht (by omega) k1 k2 k3
  · dsimp only
    split
    · intro _
      omega
    · exact r5 j hj
  · dsimp only
    split
    · omega
    · exact r6 j hj
theorem ZR_skip {S a b g : Nat} {st : Nat → Int32} {D : Nat → Nat} {d k w : Nat} (h : ZR S a b g st D d k w) (hk : k < S) (hD : D k = d) (h1 : ¬ (znn a b k (zwy w) < S ∧ ¬ znn a b k (zwy w) = g ∧ ¬ st (znn a b k (zwy w)) = 1 ∧ D (znn a b k (zwy w)) = 1000)) : ZR S a b g st D d k (w + 1) := by
  obtain ⟨r1, r2, r2', r3, r4, r5, r6⟩ := h
  refine ⟨r1, r2, r2', r3, fun j t hj ht v k1 k2 k3 => ?_, r5, r6⟩
  by_cases eh : j = k ∧ t = w
  · obtain ⟨rfl, rfl⟩ := eh
    have := r5 _ k1
    have := r6 _ k1
    by_cases e : D (znn a b j (zwy t)) = 1000
    · exact absurd ⟨k1, k2, k3, e⟩ h1
    · omega
  · exact r4 j t hj ht (by omega) k1 k2 k3
theorem ZR_cell {S a b g : Nat} {st : Nat → Int32} {D : Nat → Nat} {d k : Nat} (h : ZR S a b g st D d k 4) : ZR S a b g st D d (k + 1) 0 :=
  ⟨h.1, h.2.1, h.2.2.1, h.2.2.2.1, fun j t hj ht v => h.2.2.2.2.1 j t hj ht (by omega), h.2.2.2.2.2.1, h.2.2.2.2.2.2⟩
theorem ZR_pass {S a b g : Nat} {st : Nat → Int32} {D : Nat → Nat} {d k : Nat} (h : ZR S a b g st D d k 0) (hD : ¬ D k = d) : ZR S a b g st D d (k + 1) 0 :=
  ⟨h.1, h.2.1, h.2.2.1, h.2.2.2.1, fun j t hj ht v => h.2.2.2.2.1 j t hj ht (by
    by_cases e : j = k
    · subst e
      omega
    · omega), h.2.2.2.2.2.1, h.2.2.2.2.2.2⟩
theorem ZR_round {S a b g : Nat} {st : Nat → Int32} {D : Nat → Nat} {d : Nat} (h : ZR S a b g st D d S 0) : ZR S a b g st D (d + 1) 0 0 :=
  ⟨h.1, h.2.1, h.2.2.1, h.2.2.2.1, fun j t hj ht v => h.2.2.2.2.1 j t hj ht (by omega), fun j hj hd => by have := h.2.2.2.2.2.1 j hj hd; omega, h.2.2.2.2.2.2⟩
theorem ZR_end {S a b g : Nat} {st : Nat → Int32} {D : Nat → Nat} {E : Nat → Int32} (ha : 1 ≤ a) (ha8 : a ≤ 8) (hab : a * b = S) (hS : S ≤ 64) (h : ZR S a b g st D S 0 0) (hE : ∀ k, k < S → E k = nI (D k)) : ZW S a g st E := by
  obtain ⟨r1, r2, r2', r3, r4, r5, r6⟩ := h
  have ee : ∀ k e, k < S → e < 1000 → (E k = nI e ↔ D k = e) := fun k e hk he => by
    rw [hE k hk]
    have := r6 k hk
    exact nI_eq (by omega) (by omega)
  have h5 : ∀ k d : Nat, k < S → d + 1 < 1000 → E k = nI (d + 1) → ∃ j : Nat, j < S ∧ zds a j k = 1 ∧ E j = nI d := fun k d hk hd e => by
    obtain ⟨j, j1, j2, j3⟩ := r3 k d hk hd ((ee k _ hk hd).mp e)
    exact ⟨j, j1, j2, (ee j d j1 (by omega)).mpr j3⟩
  have hlt : ∀ k, k < S → D k < 1000 → D k < S := fun k hk hd => by
    have h1 := ZW_cnt (R := fun j k => zds a j k = 1) h5 (D k) hd k hk (hE k hk)
    have h2 := zc_le (fun j => decide (0 ≤ E j ∧ E j ≤ nI (D k))) S
    omega
  refine ⟨fun k d hk hd e => r1 k hk (by have := (ee k d hk hd).mp e; omega), fun k hk k1 k2 k3 => (ee k 0 hk (by omega)).mpr (r2 k hk k1 k2 k3), fun k j d hk hj hd e hkj j1 j2 => ?_, fun k hk e => r2' k hk ((ee k 0 hk (by omega)).mp e), h5⟩
  have e := (ee k d hk hd).mp e
  obtain ⟨s, hs, es⟩ := zds_nb ha hab hk hj hkj
  obtain ⟨t, ht, et⟩ := zwy_on hs
  rw [znb_nn (S := S) ha ha8 hk hS, ← et] at es
  have es := (zI_eq (show j < 1000 by omega)).mp es
  have hk2 := hlt k hk (by omega)
  have := r4 k t hk ht (by omega)
  rw [es] at this
  have := this hj j1 j2
  exact ⟨D j, by omega, by omega, hE j hj⟩
/-- which side is best, of the first s of four -/
def ZT (S a b p : Nat) (D : Nat → Int32) (o : Nat → Nat) (s y d : Nat) : Prop := (∃ t, t < s ∧ znb a b p (o t) = nI y) ∧ ZC S a p D y d ∧ ∀ t c e : Nat, t < s → znb a b p (o t) = nI c → ZC S a p D c e → d < e ∨ (d = e ∧ y ≤ c)
def ZN (S a b p : Nat) (D : Nat → Int32) (o : Nat → Nat) (s : Nat) : Prop := ∀ t c e : Nat, t < s → znb a b p (o t) = nI c → ¬ ZC S a p D c e
theorem ZC_in {S a p c d e : Nat} {D : Nat → Int32} (h : ZC S a p D c d) (g : ZC S a p D c e) : d = e := zn_in h.2.1 g.2.1 (h.2.2.2.symm.trans g.2.2.2)
theorem ZN_0 {S a b p : Nat} {D : Nat → Int32} {o : Nat → Nat} : ZN S a b p D o 0 := fun t c e h => absurd h (Nat.not_lt_zero _)
theorem ZN_no {S a b p s : Nat} {D : Nat → Int32} {o : Nat → Nat} (h : ZN S a b p D o s) (w : ∀ c e : Nat, znb a b p (o s) = nI c → ¬ ZC S a p D c e) : ZN S a b p D o (s + 1) := by
  intro t c e ht h1
  by_cases et : t = s
  · subst et
    exact w c e h1
  · exact h t c e (by omega) h1
theorem ZT_no {S a b p s y d : Nat} {D : Nat → Int32} {o : Nat → Nat} (h : ZT S a b p D o s y d) (w : ∀ c e : Nat, znb a b p (o s) = nI c → ¬ ZC S a p D c e) : ZT S a b p D o (s + 1) y d := by
  obtain ⟨⟨t0, h0, h1⟩, h2, h3⟩ := h
  refine ⟨⟨t0, by omega, h1⟩, h2, fun t c e ht k1 k2 => ?_⟩
  by_cases et : t = s
  · subst et
    exact absurd k2 (w c e k1)
  · exact h3 t c e (by omega) k1 k2
theorem ZN_yes {S a b p s c d : Nat} {D : Nat → Int32} {o : Nat → Nat} (hS : S ≤ 64) (h : ZN S a b p D o s) (w : znb a b p (o s) = nI c) (v : ZC S a p D c d) : ZT S a b p D o (s + 1) c d := by
  refine ⟨⟨s, by omega, w⟩, v, fun t x e ht k1 k2 => ?_⟩
  by_cases et : t = s
  · subst et
    obtain rfl : x = c := zn_in (by have := k2.1; omega) (by have := v.1; omega) (k1.symm.trans w)
    exact Or.inr ⟨ZC_in v k2, Nat.le_refl _⟩
  · exact absurd k2 (h t x e (by omega) k1)
theorem ZT_new {S a b p s y d c e : Nat} {D : Nat → Int32} {o : Nat → Nat} (hS : S ≤ 64) (h : ZT S a b p D o s y d) (w : znb a b p (o s) = nI c) (v : ZC S a p D c e) (l : e < d ∨ (e = d ∧ c < y)) : ZT S a b p D o (s + 1) c e := by
  obtain ⟨_, _, h3⟩ := h
  refine ⟨⟨s, by omega, w⟩, v, fun t x f ht k1 k2 => ?_⟩
  by_cases et : t = s
  · subst et
    obtain rfl : x = c := zn_in (by have := k2.1; omega) (by have := v.1; omega) (k1.symm.trans w)
    exact Or.inr ⟨ZC_in v k2, Nat.le_refl _⟩
  · have := h3 t x f (by omega) k1 k2
    omega
theorem ZT_old {S a b p s y d c e : Nat} {D : Nat → Int32} {o : Nat → Nat} (hS : S ≤ 64) (h : ZT S a b p D o s y d) (w : znb a b p (o s) = nI c) (v : ZC S a p D c e) (l : d < e ∨ (d = e ∧ y ≤ c)) : ZT S a b p D o (s + 1) y d := by
  obtain ⟨⟨t0, h0, h1⟩, h2, h3⟩ := h
  refine ⟨⟨t0, by omega, h1⟩, h2, fun t x f ht k1 k2 => ?_⟩
  by_cases et : t = s
  · subst et
    obtain rfl : x = c := zn_in (by have := k2.1; omega) (by have := v.1; omega) (k1.symm.trans w)
    have := ZC_in v k2
    omega
  · exact h3 t x f (by omega) k1 k2
theorem ZT_end {S a b p g y d : Nat} {D st : Nat → Int32} {o : Nat → Nat} (ha : 1 ≤ a) (hab : a * b = S) (hp : p < S) (ho : ∀ s, s < 4 → ∃ t, t < 4 ∧ o t = s) (hD : ZW S a g st D) (h : ZT S a b p D o 4 y d) : ZG S a g st p y := by
  refine ⟨D, hD, Or.inl ⟨d, h.2.1, fun c e v => ?_⟩⟩
  obtain ⟨s, hs, es⟩ := zds_nb ha hab hp v.1 v.2.2.1
  obtain ⟨t, ht, et⟩ := ho s hs
  exact h.2.2 t c e ht (et ▸ es) v
theorem ZN_end {S a b p g : Nat} {D st : Nat → Int32} {o : Nat → Nat} (ha : 1 ≤ a) (hab : a * b = S) (hp : p < S) (ho : ∀ s, s < 4 → ∃ t, t < 4 ∧ o t = s) (hD : ZW S a g st D) (h : ZN S a b p D o 4) : ZG S a g st p p := by
  refine ⟨D, hD, Or.inr ⟨rfl, fun c e v => ?_⟩⟩
  obtain ⟨s, hs, es⟩ := zds_nb ha hab hp v.1 v.2.2.1
  obtain ⟨t, ht, et⟩ := ho s hs
  exact h t c e ht (et ▸ es) v
/-! THE FULL STATE: what each method leaves, as functions of rows -/
def Gd (S a b : Nat) (ar : Nat → Nat → Int32) : Prop := (∀ k, k < S → ar 2 k = nI (k % a)) ∧ (∀ k, k < S → ar 3 k = nI (k / a)) ∧ (∀ k s, k < S → s < 4 → ar 4 (4 * k + s) = znb a b k s)
theorem gd_fr {L A : List Nat} {S a b : Nat} {sc sc' : Nat → Int32} {ar ar' : Nat → Nat → Int32} (h : Gd S a b ar) (f : Fr L A sc ar sc' ar') (h2 : 2 ∉ A) (h3 : 3 ∉ A) (h4 : 4 ∉ A) : Gd S a b ar' := by
  unfold Gd
  rw [f.2 2 h2, f.2 3 h3, f.2 4 h4]
  exact h
theorem sw_ne {x v : Int32} {z : Int} (h : ¬ x = v) (e : v.toInt = z) : ¬ x.toInt = z := fun w => h (Int32.toInt_inj.mp (w.trans e.symm))
theorem za_1 {m n : Nat} (hm : m < 1000) (hn : n < 1000) : (if 0 ≤ nI m - nI n then nI m - nI n else 0 - (nI m - nI n)) = nI (zab m n) := by
  unfold zab
  rcases Nat.le_total n m with h | h
  · rw [nI_subN h, if_pos (Int32.not_lt.mp (nI_pos (by omega)))]
    exact congrArg nI (by omega)
  · have e : 0 - (nI m - nI n) = nI n - nI m := by grind
    rw [e]
    rcases Nat.eq_or_lt_of_le h with rfl | h2
    · rw [Int32.sub_self, if_pos (by decide), Nat.sub_self]
      rfl
    · rw [if_neg, nI_subN h]
      · exact congrArg nI (by omega)
      · intro w
        have h3 : nI m - nI n = 0 - nI (n - m) := by rw [← nI_subN h]; grind
        rw [h3] at w
        have h4 : ¬ nI (n - m) = 0 := fun e => by
          have := (nI_eq (b := 0) (by omega) (by omega)).mp e
          omega
        have h5 : nI (n - m) ≤ nI 1000 := (nI_leI (b := 1000) (by omega) (by omega)).mpr (by omega)
        have h6 : nI 1000 = 1000 := rfl
        rw [h6] at h5
        have h7 := nI_pos (n := n - m) (by omega)
        generalize nI (n - m) = z at *
        grind
theorem zfar_c {S a b k1 k2 : Nat} {ar : Nat → Nat → Int32} (hW : Wd S a b) (hg : Gd S a b ar) (h1 : k1 < S) (h2 : k2 < S) : ((if 0 ≤ (ar 2 k1 - ar 2 k2) then (ar 2 k1 - ar 2 k2) else 0 - (ar 2 k1 - ar 2 k2)) + (if 0 ≤ (ar 3 k1 - ar 3 k2) then (ar 3 k1 - ar 3 k2) else 0 - (ar 3 k1 - ar 3 k2))) = nI (zds a k1 k2) := by
  obtain ⟨ha1, ha8, hb1, hb8, hab, hS1, hS⟩ := hW
  have e1 := Nat.mod_lt k1 (show a > 0 by omega)
  have e2 := Nat.mod_lt k2 (show a > 0 by omega)
  have e3 := Nat.div_le_self k1 a
  have e4 := Nat.div_le_self k2 a
  rw [hg.1 k1 h1, hg.1 k2 h2, hg.2.1 k1 h1, hg.2.1 k2 h2, za_1 (by omega) (by omega), za_1 (by omega) (by omega), nI_add]
  rfl
theorem zds_b {S a b k1 k2 : Nat} (hW : Wd S a b) (h1 : k1 < S) (h2 : k2 < S) : zds a k1 k2 < 16 := by
  obtain ⟨ha1, ha8, hb1, hb8, hab, hS1, hS⟩ := hW
  exact zds_lt ha1 ha8 hb8 hab h1 h2
/-- x is a cell that burns -/
def zbu (S : Nat) (st : Nat → Int32) (x : Int32) : Prop := ∃ n : Nat, n < S ∧ x = nI n ∧ st n = 1
theorem zbu_y {S n : Nat} {st : Nat → Int32} (h : n < S) (q : st n = 1) : zbu S st (nI n) := ⟨n, h, rfl, q⟩
theorem zbu_n {S n : Nat} {st : Nat → Int32} (h : n < S) (hS : S ≤ 64) (q : ¬ st n = 1) : ¬ zbu S st (nI n) := fun ⟨m, h1, h2, h3⟩ => by
  obtain rfl : n = m := (nI_eq (by omega) (by omega)).mp h2
  exact q h3
theorem zbu_o {S : Nat} {x : Int32} {st : Nat → Int32} (hS : S ≤ 64) (h : ¬ (0 ≤ x ∧ x < nI S)) : ¬ zbu S st x := fun ⟨m, h1, h2, h3⟩ => by
  subst h2
  exact h ⟨Int32.not_lt.mp (nI_pos (by omega)), (nI_ltI (by omega) (by omega)).mpr h1⟩
/-- how many of the first n are w -/
def zcn (f : Nat → Int32) (w : Int32) : Nat → Int32
  | 0 => 0
  | n + 1 => if f n = w then zcn f w n + 1 else zcn f w n
theorem zcn_y {f : Nat → Int32} {w y : Int32} {i : Nat} (h : y = zcn f w i) (q : f i = w) : y + 1 = zcn f w (i + 1) := by
  unfold zcn
  rw [if_pos q, h]
theorem zcn_n {f : Nat → Int32} {w y : Int32} {i : Nat} (h : y = zcn f w i) (q : ¬ f i = w) : y = zcn f w (i + 1) := by
  unfold zcn
  rw [if_neg q, h]
def zsm (f : Nat → Int32) : Nat → Int32
  | 0 => 0
  | n + 1 => zsm f n + f n
/-- a well is near -/
def zwl (S a : Nat) (du : Nat → Int32) (k : Nat) : Prop := ∃ j : Nat, j < S ∧ ¬ du j = 0 ∧ zds a j k ≤ 2
/-- the wind that blows from a side -/
def zwf (s : Nat) : Int32 := if s = 0 then 3 else if s = 1 then 2 else if s = 2 then 4 else 1
/-- the heat from the first s sides -/
noncomputable def zht (S : Nat) (wi : Int32) (st nb : Nat → Int32) : Nat → Int32
  | 0 => 0
  | s + 1 => @ite _ (zbu S st (nb s)) (Classical.propDecidable _) (if wi = zwf s then zht S wi st nb s + 4 else zht S wi st nb s + 2) (zht S wi st nb s)
theorem zht_4 {S s : Nat} {wi y : Int32} {st nb : Nat → Int32} (h : y = zht S wi st nb s) (q : zbu S st (nb s)) (w : wi = zwf s) : y + 4 = zht S wi st nb (s + 1) := by
  unfold zht
  rw [if_pos q, if_pos w, h]
theorem zht_2 {S s : Nat} {wi y : Int32} {st nb : Nat → Int32} (h : y = zht S wi st nb s) (q : zbu S st (nb s)) (w : ¬ wi = zwf s) : y + 2 = zht S wi st nb (s + 1) := by
  unfold zht
  rw [if_pos q, if_neg w, h]
theorem zht_0 {S s : Nat} {wi y : Int32} {st nb : Nat → Int32} (h : y = zht S wi st nb s) (q : ¬ zbu S st (nb s)) : y = zht S wi st nb (s + 1) := by
  unfold zht
  rw [if_neg q, h]
/-- a house is built -/
def zbd (k : Nat) (x1 x2 x : Int32) (st wo wa fu wm we du st' wo' wa' fu' wm' we' : Nat → Int32) : Prop := (x = 1 ∧ (du k = 0 ∧ ¬ st k = 0 ∧ ¬ st k = 1) ∧ st' = upd st k 0 ∧ wo' = upd wo k x1 ∧ wa' = upd wa k x2 ∧ fu' = upd fu k x1 ∧ wm' = upd wm k 0 ∧ we' = upd we k 0) ∨ (x = 0 ∧ ¬ (du k = 0 ∧ ¬ st k = 0 ∧ ¬ st k = 1) ∧ st' = st ∧ wo' = wo ∧ wa' = wa ∧ fu' = fu ∧ wm' = wm ∧ we' = we)
/-- what is changed cell by cell, up to i -/
def zpw (W f : Nat → Int32) (i : Nat) : Nat → Int32 := fun k => if k < i then W k else f k
theorem zpw_0 {W f : Nat → Int32} : f = zpw W f 0 := funext fun k => (if_neg (Nat.not_lt_zero k)).symm
theorem zpw_u {W f g : Nat → Int32} {i : Nat} {v : Int32} (h : g = zpw W f i) (e : v = W i) : upd g i v = zpw W f (i + 1) := by
  subst h
  funext k
  unfold upd zpw
  grind
theorem zpw_k {W f g : Nat → Int32} {i : Nat} (h : g = zpw W f i) (e : f i = W i) : g = zpw W f (i + 1) := by
  subst h
  funext k
  unfold zpw
  grind
theorem zpw_at {W f g : Nat → Int32} {i : Nat} (h : g = zpw W f i) : g i = f i := by
  subst h
  exact if_neg (Nat.lt_irrefl i)
/-- the warmth an hour later -/
noncomputable def zwm (S a b : Nat) (wi : Int32) (st wm : Nat → Int32) : Nat → Int32 := fun k => if st k = 0 then (if 0 < wm k + zht S wi st (znb a b k) 4 - 1 then wm k + zht S wi st (znb a b k) 4 - 1 else 0) else wm k
/-- which begin to burn -/
def zbg (st wm : Nat → Int32) (k : Nat) : Bool := decide (st k = 0 ∧ 5 ≤ wm k)
def zst (st wm : Nat → Int32) : Nat → Int32 := fun k => if zbg st wm k = true then 1 else st k
/-- the row of those that begin, rising -/
def zfs (P : Nat → Bool) (fr : Nat → Int32) (i c : Nat) : Prop := c = zc P i ∧ ∀ k, k < i → P k = true → fr (zc P k) = nI k
theorem zc_s {P : Nat → Bool} {n : Nat} : zc P (n + 1) = zc P n + if P n then 1 else 0 := rfl
theorem zc_lt' {P : Nat → Bool} {k : Nat} (h : P k = true) : ∀ i, k < i → zc P k < zc P i
  | 0, hi => absurd hi (Nat.not_lt_zero _)
  | i + 1, hi => by
    rw [zc_s]
    by_cases e : k = i
    · subst e
      rw [if_pos h]
      omega
    · have := zc_lt' h i (by omega)
      omega
theorem zfs_0 {P : Nat → Bool} {fr : Nat → Int32} : zfs P fr 0 0 := ⟨rfl, fun k hk => absurd hk (Nat.not_lt_zero _)⟩
theorem zfs_n {P : Nat → Bool} {fr : Nat → Int32} {i c : Nat} (h : zfs P fr i c) (q : P i = false) : zfs P fr (i + 1) c := by
  refine ⟨?_, fun k hk hp => h.2 k ?_ hp⟩
  · unfold zc
    rw [q]
    exact h.1
  · by_cases e : k = i
    · subst e
      rw [q] at hp
      cases hp
    · omega
theorem zfs_y {P : Nat → Bool} {fr : Nat → Int32} {i c : Nat} (h : zfs P fr i c) (q : P i = true) : zfs P (upd fr c (nI i)) (i + 1) (c + 1) := by
  refine ⟨?_, fun k hk hp => ?_⟩
  · unfold zc
    rw [if_pos q, h.1]
  · by_cases e : k = i
    · subst e
      rw [h.1]
      exact if_pos rfl
    · have h1 := zc_lt' hp i (by omega)
      have h2 := h.2 k (by omega) hp
      have h3 : ¬ zc P k = c := by rw [h.1]; omega
      exact (if_neg h3).trans h2
/-- the rows of warmth and states an hour later -/
noncomputable def zwr (S a b : Nat) (wi : Int32) (st wm : Nat → Int32) : Nat → Int32 := zpw (zwm S a b wi st wm) wm S
noncomputable def zsr (S a b : Nat) (wi : Int32) (st wm : Nat → Int32) : Nat → Int32 := zpw (zst st (zwr S a b wi st wm)) st S
noncomputable def zbr (S a b : Nat) (wi : Int32) (st wm : Nat → Int32) : Nat → Bool := zbg st (zwr S a b wi st wm)
def zwu (S a b : Nat) (wi : Int32) (st wm st' wm' fr' : Nat → Int32) (x : Int32) : Prop := wm' = zwr S a b wi st wm ∧ st' = zsr S a b wi st wm ∧ ∃ f : Nat, f ≤ S ∧ x = nI f ∧ zfs (zbr S a b wi st wm) fr' S f
theorem zwm_1 {L A : List Nat} {S a b i : Nat} {x : Int32} {sc sc1 : Nat → Int32} {ar ar1 : Nat → Nat → Int32} (hg : Gd S a b ar) (hF : Fr L A sc ar sc1 ar1) (h1 : 112 ∉ L) (h4 : 4 ∉ A) (e5 : ar1 5 = ar 5) (q : ar1 5 i = 0) (hi : i < S) (h : ar1 9 = zpw (zwm S a b (sc 112) (ar 5) (ar 9)) (ar 9) i) (hp : x = zht S (sc1 112) (ar1 5) (fun s => ar1 4 (4 * i + s)) 4) : (if 0 < ((ar1 9 i + x) - 1) then ((ar1 9 i + x) - 1) else 0) = zwm S a b (sc 112) (ar 5) (ar 9) i := by
  have k : ∀ s, s ≤ 4 → zht S (sc 112) (ar 5) (fun s => ar 4 (4 * i + s)) s = zht S (sc 112) (ar 5) (znb a b i) s := by
    intro s
    induction s with
    | zero => exact fun _ => rfl
    | succ s ih =>
      intro hs
      unfold zht
      rw [ih (by omega), hg.2.2 i s hi (by omega)]
  rw [hF.1 112 h1, e5, hF.2 4 h4, k 4 (Nat.le_refl _)] at hp
  rw [e5] at q
  rw [zpw_at h, hp]
  unfold zwm
  rw [if_pos q]
theorem zst_n {st wm : Nat → Int32} {k : Nat} (h : ¬ (st k = 0 ∧ 5 ≤ wm k)) : st k = zst st wm k := by
  unfold zst zbg
  rw [if_neg (by simpa using h)]
theorem zst_y {st wm : Nat → Int32} {k : Nat} (h : st k = 0 ∧ 5 ≤ wm k) : (1 : Int32) = zst st wm k := by
  unfold zst zbg
  rw [if_pos (by simpa using h)]
theorem zbg_n {st wm : Nat → Int32} {k : Nat} (h : ¬ (st k = 0 ∧ 5 ≤ wm k)) : zbg st wm k = false := by
  unfold zbg
  simpa using h
theorem zbg_y {st wm : Nat → Int32} {k : Nat} (h : st k = 0 ∧ 5 ≤ wm k) : zbg st wm k = true := by
  unfold zbg
  simpa using h
theorem to_tbf {X : Nat × (Nat → Int32)} {d : Nat} {M : ai_M} {Q : ai_O → Prop} {pc t : Nat} {lv : List (Nat × Value)} {st : List Value} {r : ai_H × Bool × Nat × Nat} {x : Int32} {df lo hi : Int} {offs : Array Int} {tg : List Nat} (ms : List Nat) (h1 : ai_as M.co pc = some (.tableswitch df lo hi offs, tg)) (hl : tg.length = (hi - lo).toNat + 2) (hlh : lo ≤ hi) (h0 : tg[0]? = some t) (hz : ∀ m, m < tg.length → m ∈ ms ∨ tg[m]? = some t) (hx : ∀ m, m ∈ ms → ¬ x.toInt = lo + (m : Int) - 1) (k : ag_To X d M (t, lv, st, r) Q) : ag_To X d M (pc, lv, .int x :: st, r) Q := by
  by_cases w : x.toInt < lo ∨ hi < x.toInt
  · refine to_of (fr' := (t, lv, st, r)) (fun o u => go_st h1 ?_ u) k
    simp only [ai_st, ai_tb]
    rw [if_pos w, h0]
  · have g0 : (x.toInt - lo).toNat + 1 < tg.length := by omega
    refine to_of (fr' := (t, lv, st, r)) (fun o u => go_st h1 ?_ u) k
    simp only [ai_st, ai_tb]
    rcases hz _ g0 with u | u
    · exact absurd (show x.toInt = lo + (((x.toInt - lo).toNat + 1 : Nat) : Int) - 1 by omega) (hx _ u)
    · rw [if_neg w, u]
theorem zwu_e {S a b i y : Nat} {wi : Int32} {st wm st' wm' fr' : Nat → Int32} (e : i = S) (hy : y ≤ S) (h1 : wm' = zwr S a b wi st wm) (h2 : st' = zpw (zst st (zwr S a b wi st wm)) st i) (h3 : zfs (zbr S a b wi st wm) fr' i y) : zwu S a b wi st wm st' wm' fr' (nI y) := by
  subst e
  exact ⟨h1, h2, y, hy, rfl, h3⟩
/-! THE FULL STATE: companies, laws in force, the judge -/
theorem fr_nil {L : List Nat} {s s1 : Nat → Int32} {r r1 : Nat → Nat → Int32} (h : Fr L [] s r s1 r1) : r = r1 := funext fun c => (h.2 c List.not_mem_nil).symm
/-- goals and pulls once what aims at x is forgotten -/
def fgl (n : Nat) (x : Int32) (go : Nat → Int32) : Nat → Int32 := fun c => if c < n ∧ go c = x then -1 else go c
def fgp (n : Nat) (x : Int32) (go pu : Nat → Int32) : Nat → Int32 := fun c => if c < n ∧ go c = x then 0 else pu c
theorem fgl_0 {x : Int32} {go : Nat → Int32} : go = fgl 0 x go := funext fun c => (if_neg (fun w => absurd w.1 (Nat.not_lt_zero c))).symm
theorem fgp_0 {x : Int32} {go pu : Nat → Int32} : pu = fgp 0 x go pu := funext fun c => (if_neg (fun w => absurd w.1 (Nat.not_lt_zero c))).symm
theorem fgl_at {i : Nat} {x : Int32} {go g : Nat → Int32} (h : g = fgl i x go) : g i = go i := by
  subst h
  exact if_neg (fun w => Nat.lt_irrefl _ w.1)
theorem fgl_y {i : Nat} {x : Int32} {go g : Nat → Int32} (h : g = fgl i x go) (q : g i = x) : upd g i (-1) = fgl (i + 1) x go := by
  have := fgl_at h
  subst h
  funext k
  unfold upd fgl
  grind
theorem fgp_y {i : Nat} {x : Int32} {go g pu p : Nat → Int32} (h : g = fgl i x go) (hp : p = fgp i x go pu) (q : g i = x) : upd p i 0 = fgp (i + 1) x go pu := by
  have := fgl_at h
  subst hp
  funext k
  unfold upd fgp
  grind
theorem fgl_n {i : Nat} {x : Int32} {go g : Nat → Int32} (h : g = fgl i x go) (q : ¬ g i = x) : g = fgl (i + 1) x go := by
  have := fgl_at h
  rw [this] at q
  subst h
  funext k
  unfold fgl
  grind
theorem fgp_n {i : Nat} {x : Int32} {go g pu p : Nat → Int32} (h : g = fgl i x go) (hp : p = fgp i x go pu) (q : ¬ g i = x) : p = fgp (i + 1) x go pu := by
  have := fgl_at h
  rw [this] at q
  subst hp
  funext k
  unfold fgp
  grind
/-- a company is told -/
def zen (k kp km kl kg : Nat) (x1 x2 x3 x : Int32) (sc sc' : Nat → Int32) (ar ar' : Nat → Nat → Int32) : Prop := (x = -1 ∧ sc' k = sc k ∧ ar' kp = ar kp ∧ ar' km = ar km ∧ ar' kl = ar kl ∧ ar' kg = ar kg) ∨ ∃ s : Nat, s < 8 ∧ sc k = nI s ∧ x = nI s ∧ sc' k = nI (s + 1) ∧ ar' kp = upd (ar kp) s x1 ∧ ar' km = upd (ar km) s x2 ∧ ar' kl = upd (ar kl) s x3 ∧ ar' kg = upd (ar kg) s (-1)
/-- the law in force: m laws more, from the l-th on, b the best so far -/
def fo (D : Nat → Int32) (dy : Int32) : Nat → Nat → Int32 → Int32
  | 0, _, b => b
  | m + 1, l, b => fo D dy m (l + 1) (if D l ≤ dy ∧ (b = -1 ∨ D b.toNatClampNeg ≤ D l) then nI l else b)
abbrev foX (sc : Nat → Int32) (ar : Nat → Nat → Int32) : Int32 := fo (ar 68) (sc 4904 / 24) (sc 4907).toNatClampNeg 0 (-1)
theorem fo_step {D : Nat → Int32} {dy b : Int32} {n i : Nat} (h : i < n) : fo D dy (n - i) i b = fo D dy (n - (i + 1)) (i + 1) (if D i ≤ dy ∧ (b = -1 ∨ D b.toNatClampNeg ≤ D i) then nI i else b) := by
  obtain ⟨m, hm⟩ : ∃ m, n - i = m + 1 := ⟨n - i - 1, by omega⟩
  rw [hm, show n - (i + 1) = m by omega]
  rfl
theorem fo_yes {D : Nat → Int32} {dy b : Int32} {n i : Nat} (h : i < n) (h1 : D i ≤ dy) (h2 : b = -1 ∨ D b.toNatClampNeg ≤ D i) : fo D dy (n - (i + 1)) (i + 1) (nI i) = fo D dy (n - i) i b := by
  rw [fo_step h, if_pos ⟨h1, h2⟩]
theorem fo_no {D : Nat → Int32} {dy b : Int32} {n i : Nat} (h : i < n) (h1 : ¬ (D i ≤ dy ∧ (b = -1 ∨ D b.toNatClampNeg ≤ D i))) : fo D dy (n - (i + 1)) (i + 1) b = fo D dy (n - i) i b := by
  rw [fo_step h, if_neg h1]
/-- where a law begins -/
def zbe (en : Nat → Int32) (l : Nat) : Int32 := if l = 0 then 0 else en (l - 1)
/-- the judge: the numbers that wait, how many, whether it is called, what is paid -/
def zpush (w : Nat → Int32) (t : Nat) (x : Int32) : (Nat → Int32) × Nat := if t < 20 then (upd w t x, t + 1) else (w, t)
def zpop (w : Nat → Int32) (t : Nat) : Int32 := if t = 0 then 0 else w (t - 1)
/-- what two numbers are joined to -/
def zjo (c x y : Int32) : Int32 := if c = -14 then (if ¬ x = 0 ∧ ¬ y = 0 then 1 else 0) else if c = -11 then (if x = y then 1 else 0) else if c = -10 then (if x < y then 1 else 0) else if c = -9 then x * y else if c = -8 then x - y else if c = -7 then x + y else (if ¬ x = 0 ∨ ¬ y = 0 then 1 else 0)
abbrev zJ : Type := (Nat → Int32) × Nat × Int32 × Int32
def ztake (kn : Nat → Int32) (c : Int32) (s : zJ) : zJ :=
  if 0 ≤ c then ((zpush s.1 s.2.1 c).1, (zpush s.1 s.2.1 c).2, s.2.2.1, s.2.2.2)
  else if 0 ≤ -20 - c ∧ -20 - c < 8 then ((zpush s.1 s.2.1 (kn (-20 - c).toNatClampNeg)).1, (zpush s.1 s.2.1 (kn (-20 - c).toNatClampNeg)).2, s.2.2.1, s.2.2.2)
  else if c = -12 then (s.1, s.2.1 - 1, (if ¬ zpop s.1 s.2.1 = 0 ∨ ¬ s.2.2.1 = 0 then 1 else 0), s.2.2.2)
  else if c = -13 then (s.1, s.2.1 - 1, s.2.2.1, s.2.2.2 + zpop s.1 s.2.1)
  else if c = -16 then ((zpush s.1 (s.2.1 - 1) (if zpop s.1 s.2.1 = 0 then 1 else 0)).1, (zpush s.1 (s.2.1 - 1) (if zpop s.1 s.2.1 = 0 then 1 else 0)).2, s.2.2.1, s.2.2.2)
  else ((zpush s.1 (s.2.1 - 1 - 1) (zjo c (zpop s.1 (s.2.1 - 1)) (zpop s.1 s.2.1))).1, (zpush s.1 (s.2.1 - 1 - 1) (zjo c (zpop s.1 (s.2.1 - 1)) (zpop s.1 s.2.1))).2, s.2.2.1, s.2.2.2)
def zrun (kn co : Nat → Int32) : Nat → Nat → zJ → zJ
  | 0, _, s => s
  | m + 1, i, s => zrun kn co m (i + 1) (ztake kn (co i) s)
/-- what one token leaves -/
def zjr (kn : Nat → Int32) (c : Int32) (t : Nat) (sc sc' : Nat → Int32) (ar ar' : Nat → Nat → Int32) : Prop := (ar' 35, sc' 3304, sc' 3300, sc' 3301) = ((ztake kn c (ar 35, t, sc 3300, sc 3301)).1, nI (ztake kn c (ar 35, t, sc 3300, sc 3301)).2.1, (ztake kn c (ar 35, t, sc 3300, sc 3301)).2.2.1, (ztake kn c (ar 35, t, sc 3300, sc 3301)).2.2.2)
theorem zpush_t {w : Nat → Int32} {t : Nat} {x : Int32} (h : t < 21) : (zpush w t x).2 < 21 := by
  unfold zpush
  split
  · show t + 1 < 21
    omega
  · exact h
theorem ztake_t {kn : Nat → Int32} {c : Int32} {s : zJ} (h : s.2.1 < 21) : (ztake kn c s).2.1 < 21 := by
  unfold ztake
  split
  · exact zpush_t h
  · split
    · exact zpush_t h
    · split
      · show s.2.1 - 1 < 21
        omega
      · split
        · show s.2.1 - 1 < 21
          omega
        · split
          · exact zpush_t (by omega)
          · exact zpush_t (by omega)
theorem zrun_s {kn co : Nat → Int32} {e i : Nat} {s : zJ} (h : i < e) : zrun kn co (e - i) i s = zrun kn co (e - (i + 1)) (i + 1) (ztake kn (co i) s) := by
  obtain ⟨m, hm⟩ : ∃ m, e - i = m + 1 := ⟨e - i - 1, by omega⟩
  rw [hm, show e - (i + 1) = m by omega]
  rfl
/-- what is said to the judge -/
def zln (kn : Nat → Int32) (x1 x2 : Int32) : Nat → Int32 := if 0 ≤ -20 - x1 ∧ -20 - x1 < 8 then upd kn (-20 - x1).toNatClampNeg x2 else kn
theorem za_3 {a b : Int32} {n : Nat} (h : n < 8) (e : a - b = nI n) : 0 ≤ a - b ∧ a - b < 8 := by
  rw [e]
  exact ⟨Int32.not_lt.mp (nI_pos (by omega)), (nI_ltI (b := 8) (by omega) (by omega)).mpr h⟩
theorem za_4 {x : Int32} {n : Nat} (h : ¬ n < 8) (hn : n < 2 ^ 31) (e : x = nI n) : ¬ (0 ≤ x ∧ x < 8) := by
  rw [e]
  exact fun w => h ((nI_ltI (b := 8) hn (by omega)).mp w.2)
theorem zjo_7 {x y : Int32} : zjo (-7) x y = x + y := rfl
theorem zjo_8 {x y : Int32} : zjo (-8) x y = x - y := rfl
theorem zjo_9 {x y : Int32} : zjo (-9) x y = x * y := rfl
theorem zjo_10 {x y : Int32} : zjo (-10) x y = if x < y then 1 else 0 := rfl
theorem zjo_11 {x y : Int32} : zjo (-11) x y = if x = y then 1 else 0 := rfl
theorem zjo_14 {x y : Int32} : zjo (-14) x y = if ¬ x = 0 ∧ ¬ y = 0 then 1 else 0 := rfl
theorem zjo_d {c x y : Int32} (h1 : ¬ c = -14) (h2 : ¬ c = -11) (h3 : ¬ c = -10) (h4 : ¬ c = -9) (h5 : ¬ c = -8) (h6 : ¬ c = -7) : zjo c x y = if ¬ x = 0 ∨ ¬ y = 0 then 1 else 0 := by
  unfold zjo
  rw [if_neg h1, if_neg h2, if_neg h3, if_neg h4, if_neg h5, if_neg h6]
theorem zt_num {kn : Nat → Int32} {c : Int32} {s : zJ} (h : 0 ≤ c) : ztake kn c s = ((zpush s.1 s.2.1 c).1, (zpush s.1 s.2.1 c).2, s.2.2.1, s.2.2.2) := if_pos h
theorem zt_nam {kn : Nat → Int32} {c : Int32} {s : zJ} {n : Nat} (h : ¬ 0 ≤ c) (hn : n < 8) (e : -20 - c = nI n) : ztake kn c s = ((zpush s.1 s.2.1 (kn n)).1, (zpush s.1 s.2.1 (kn n)).2, s.2.2.1, s.2.2.2) := by
  unfold ztake
  rw [if_neg h, if_pos (za_3 hn e), e, nI_clamp (by omega)]
theorem zt_call {kn : Nat → Int32} {s : zJ} : ztake kn (-12) s = (s.1, s.2.1 - 1, (if ¬ zpop s.1 s.2.1 = 0 ∨ ¬ s.2.2.1 = 0 then 1 else 0), s.2.2.2) := rfl
theorem zt_pay {kn : Nat → Int32} {s : zJ} : ztake kn (-13) s = (s.1, s.2.1 - 1, s.2.2.1, s.2.2.2 + zpop s.1 s.2.1) := rfl
theorem zt_not {kn : Nat → Int32} {s : zJ} : ztake kn (-16) s = ((zpush s.1 (s.2.1 - 1) (if zpop s.1 s.2.1 = 0 then 1 else 0)).1, (zpush s.1 (s.2.1 - 1) (if zpop s.1 s.2.1 = 0 then 1 else 0)).2, s.2.2.1, s.2.2.2) := rfl
theorem zt_two {kn : Nat → Int32} {c : Int32} {s : zJ} (h : ¬ 0 ≤ c) (h1 : ¬ (0 ≤ -20 - c ∧ -20 - c < 8)) (h2 : ¬ c = -12) (h3 : ¬ c = -13) (h4 : ¬ c = -16) : ztake kn c s = ((zpush s.1 (s.2.1 - 1 - 1) (zjo c (zpop s.1 (s.2.1 - 1)) (zpop s.1 s.2.1))).1, (zpush s.1 (s.2.1 - 1 - 1) (zjo c (zpop s.1 (s.2.1 - 1)) (zpop s.1 s.2.1))).2, s.2.2.1, s.2.2.2) := by
  unfold ztake
  rw [if_neg h, if_neg h1, if_neg h2, if_neg h3, if_neg h4]
theorem zjr_of {kn : Nat → Int32} {c : Int32} {t : Nat} {sc sc' : Nat → Int32} {ar ar' : Nat → Nat → Int32} {w : Nat → Int32} {t' : Nat} {x y : Int32} (e : ztake kn c (ar 35, t, sc 3300, sc 3301) = (w, t', x, y)) (h1 : ar' 35 = w) (h2 : sc' 3304 = nI t') (h3 : sc' 3300 = x) (h4 : sc' 3301 = y) : zjr kn c t sc sc' ar ar' := by
  unfold zjr
  rw [e, h1, h2, h3, h4]
theorem zjr_d {kn : Nat → Int32} {c : Int32} {t : Nat} {sc sc' : Nat → Int32} {ar ar' : Nat → Nat → Int32} (h : zjr kn c t sc sc' ar ar') : ar' 35 = (ztake kn c (ar 35, t, sc 3300, sc 3301)).1 ∧ sc' 3304 = nI (ztake kn c (ar 35, t, sc 3300, sc 3301)).2.1 ∧ sc' 3300 = (ztake kn c (ar 35, t, sc 3300, sc 3301)).2.2.1 ∧ sc' 3301 = (ztake kn c (ar 35, t, sc 3300, sc 3301)).2.2.2 := by
  unfold zjr at h
  simp only [Prod.mk.injEq] at h
  exact h
theorem zbe_n {k S : Nat} {ar : Nat → Int32} (h : ∀ j, rl (ar j) S) (hS : 1 ≤ S := by omega) : ∃ bb : Nat, bb < S ∧ zbe ar k = nI bb := by
  unfold zbe
  split
  · exact ⟨0, hS, rfl⟩
  · obtain ⟨n, h1, h2⟩ := h (k - 1)
    exact ⟨n, h1, h2⟩
theorem zap_s {kn co w w1 : Nat → Int32} {e i t : Nat} {x y x1 y1 : Int32} {R : zJ} (h : i < e) (h1 : w1 = (ztake kn (co i) (w, t, x, y)).1) (h2 : x1 = (ztake kn (co i) (w, t, x, y)).2.2.1) (h3 : y1 = (ztake kn (co i) (w, t, x, y)).2.2.2) (hR : zrun kn co (e - i) i (w, t, x, y) = R) : zrun kn co (e - (i + 1)) (i + 1) (w1, (ztake kn (co i) (w, t, x, y)).2.1, x1, y1) = R := by
  rw [zrun_s h] at hR
  rw [h1, h2, h3]
  exact hR
/-- what a law says, from where it begins to where it ends -/
def zrl (kn co en w : Nat → Int32) (k : Nat) : zJ := zrun kn co ((en k).toNatClampNeg - (zbe en k).toNatClampNeg) (zbe en k).toNatClampNeg (w, 0, 0, 0)
theorem zrl_e {kn co en w w1 : Nat → Int32} {k ee bb i t : Nat} {x y : Int32} (e1 : en k = nI ee) (h1 : ee < 2401) (e2 : zbe en k = nI bb) (h2 : bb < 2401) (hi : ee ≤ i) (h : zrun kn co (ee - i) i (w1, t, x, y) = zrun kn co (ee - bb) bb (w, 0, 0, 0)) : x = (zrl kn co en w k).2.2.1 ∧ y = (zrl kn co en w k).2.2.2 := by
  unfold zrl
  rw [e1, e2, nI_clamp (by omega), nI_clamp (by omega), ← h, show ee - i = 0 by omega]
  exact ⟨rfl, rfl⟩
/-! THE FULL STATE: the search of the class, over its rows -/
abbrev zT : Type := (Nat → Nat) × (Nat → Nat) × Nat
/-- the four sides of a cell, one after the other -/
def zsp (S a b g : Nat) (st : Nat → Int32) (c k : Nat) : Nat → zT → zT
  | 0, t => t
  | s + 1, t => zs1 S g st c (znn a b k s) (zsp S a b g st c k s t)
def ZSt (S : Nat) (t : zT) (sc : Nat → Int32) (ar : Nat → Nat → Int32) : Prop := (∀ k, k < S → ar 37 k = zI (t.1 k)) ∧ (∀ i, i < t.2.2 → ar 38 i = nI (t.2.1 i)) ∧ sc 3603 = nI t.2.2 ∧ t.2.2 = zc (fun k => decide (t.1 k < 1000)) S
theorem zsd {S a b k s n : Nat} {ar : Nat → Nat → Int32} (hW : Wd S a b) (hg : Gd S a b ar) (hk : k < S) (hs : s < 4) (hn : n < S) (e : ar 4 (4 * k + s) = nI n) : znn a b k s = n := by
  obtain ⟨ha1, ha8, hb1, hb8, hab, hS1, hS⟩ := hW
  rw [hg.2.2 k s hk hs, znb_nn (S := S) ha1 ha8 hk hS] at e
  exact (zI_eq (by omega)).mp e
theorem zsd0 {S a b k s : Nat} {ar : Nat → Nat → Int32} (hW : Wd S a b) (hg : Gd S a b ar) (hk : k < S) (hs : s < 4) (h : ¬ (0 ≤ ar 4 (4 * k + s) ∧ ar 4 (4 * k + s) < nI S)) : ¬ znn a b k s < S := by
  obtain ⟨ha1, ha8, hb1, hb8, hab, hS1, hS⟩ := hW
  intro w
  rw [hg.2.2 k s hk hs, znb_nn (S := S) ha1 ha8 hk hS, zI_n (by omega)] at h
  exact h ⟨Int32.not_lt.mp (nI_pos (by omega)), (nI_ltI (by omega) (by omega)).mpr w⟩
theorem zs1_no {S g c x : Nat} {st : Nat → Int32} {t : zT} {sc : Nat → Int32} {ar : Nat → Nat → Int32} (h : ZSt S t sc ar) (w : ¬ (x < S ∧ ¬ x = g ∧ ¬ t.1 x < 1000 ∧ ¬ st x = 1)) : ZSt S (zs1 S g st c x t) sc ar := by
  unfold zs1
  rw [if_neg w]
  exact h
theorem zs_set {S x : Nat} {t : zT} {sc : Nat → Int32} {ar : Nat → Nat → Int32} (h : ZSt S t sc ar) (hx : x < S) (q : ¬ ar 37 x = -1) : t.1 x < 1000 := by
  rw [h.1 x hx] at q
  exact Classical.byContradiction fun w => q (zI_no w)
theorem zs_un {S x : Nat} {t : zT} {sc : Nat → Int32} {ar : Nat → Nat → Int32} (h : ZSt S t sc ar) (hx : x < S) (q : ar 37 x = -1) : ¬ t.1 x < 1000 := by
  rw [h.1 x hx] at q
  exact zI_m.mp q
theorem zs_room {S x n : Nat} {t : zT} {sc : Nat → Int32} {ar : Nat → Nat → Int32} (hS : S ≤ 64) (h : ZSt S t sc ar) (hx : x < S) (q : ar 37 x = -1) (e : sc 3603 = nI n) (hn : n < 1000) : n < S ∧ n = t.2.2 := by
  have h1 := zs_un h hx q
  have h2 := zc_put (D := t.1) (c := 0) hx h1 (by omega)
  have h3 := zc_le (fun k => decide ((if k = x then 0 else t.1 k) < 1000)) S
  have h4 := h.2.2.2
  have h5 : n = t.2.2 := (nI_eq (by omega) (by omega)).mp (e.symm.trans h.2.2.1)
  omega
theorem zs1_put {S g c x n : Nat} {st : Nat → Int32} {t : zT} {sc : Nat → Int32} {ar : Nat → Nat → Int32} (hc : c < 1000) (h : ZSt S t sc ar) (hx : x < S) (h1 : ¬ x = g) (q : ar 37 x = -1) (h2 : ¬ st x = 1) (hn : n = t.2.2) : ZSt S (zs1 S g st c x t) (upd sc 3603 (nI (n + 1))) (uA (uA ar 37 (upd (ar 37) x (nI c))) 38 (upd (ar 38) n (nI x))) := by
  have h3 := zs_un h hx q
  have e : zs1 S g st c x t = (fun k => if k = x then c else t.1 k, fun i => if i = t.2.2 then x else t.2.1 i, t.2.2 + 1) := if_pos ⟨hx, h1, h3, h2⟩
  rw [e]
  subst hn
  refine ⟨fun k hk => ?_, fun i hi => ?_, rfl, ?_⟩
  · show upd (ar 37) x (nI c) k = zI (if k = x then c else t.1 k)
    unfold upd
    split
    · exact (zI_n hc).symm
    · exact h.1 k hk
  · show upd (ar 38) t.2.2 (nI x) i = nI (if i = t.2.2 then x else t.2.1 i)
    have hi : i < t.2.2 + 1 := hi
    unfold upd
    split
    · rfl
    · exact h.2.1 i (by omega)
  · show t.2.2 + 1 = zc (fun k => decide ((if k = x then c else t.1 k) < 1000)) S
    rw [zc_put hx h3 hc]
    rw [← h.2.2.2]
theorem zs_0 {S : Nat} {sc : Nat → Int32} {ar : Nat → Nat → Int32} {Q : Nat → Nat} (h : ∀ k, k < S → ar 37 k = -1) (e : sc 3603 = 0) : ZSt S (fun _ => 1000, Q, 0) sc ar := by
  refine ⟨h, fun i hi => absurd hi (Nat.not_lt_zero _), e, ?_⟩
  exact (ZA_0 (S := S) (a := 1) (b := 1) (g := 0) (st := fun _ => 0) (Q := Q)).1
theorem zsp_A {S a b g : Nat} {st : Nat → Int32} {Q : Nat → Nat} (hW : Wd S a b) (hg : g < S) : ∀ s, s ≤ 4 → ZA S a b g st (zsp S a b g st 0 g s (fun _ => 1000, Q, 0)).1 (zsp S a b g st 0 g s (fun _ => 1000, Q, 0)).2.1 (zsp S a b g st 0 g s (fun _ => 1000, Q, 0)).2.2 s
  | 0, _ => ZA_0
  | s + 1, h => by
    obtain ⟨ha1, ha8, hb1, hb8, hab, hS1, hS⟩ := id hW
    exact ZA_step ha1 ha8 hab hS hg (zsp_A hW hg s (by omega)) (by omega)
theorem zs1_keep {S g c x : Nat} {st : Nat → Int32} {t : zT} {y i : Nat} (hy : t.1 y < 1000) (hi : i < t.2.2) : (zs1 S g st c x t).1 y = t.1 y ∧ (zs1 S g st c x t).2.1 i = t.2.1 i ∧ i < (zs1 S g st c x t).2.2 := by
  unfold zs1
  split
  · rename_i w
    refine ⟨if_neg (fun e : y = x => w.2.2.1 (e ▸ hy)), if_neg (show ¬ i = t.2.2 by omega), ?_⟩
    show i < t.2.2 + 1
    omega
  · exact ⟨rfl, rfl, hi⟩
theorem zsp_B {S a b g h : Nat} {st : Nat → Int32} {t : zT} (hW : Wd S a b) (w : ZB S a b g st t.1 t.2.1 t.2.2 h 0) (hh : h < t.2.2) : ∀ s, s ≤ 4 → ZB S a b g st (zsp S a b g st (t.1 (t.2.1 h) + 1) (t.2.1 h) s t).1 (zsp S a b g st (t.1 (t.2.1 h) + 1) (t.2.1 h) s t).2.1 (zsp S a b g st (t.1 (t.2.1 h) + 1) (t.2.1 h) s t).2.2 h s ∧ (zsp S a b g st (t.1 (t.2.1 h) + 1) (t.2.1 h) s t).1 (t.2.1 h) = t.1 (t.2.1 h) ∧ (zsp S a b g st (t.1 (t.2.1 h) + 1) (t.2.1 h) s t).2.1 h = t.2.1 h ∧ h < (zsp S a b g st (t.1 (t.2.1 h) + 1) (t.2.1 h) s t).2.2
  | 0, _ => ⟨w, rfl, rfl, hh⟩
  | s + 1, hs => by
    obtain ⟨ha1, ha8, hb1, hb8, hab, hS1, hS⟩ := id hW
    obtain ⟨i1, i2, i3, i4⟩ := zsp_B hW w hh s (by omega)
    have k := zs1_keep (S := S) (g := g) (st := st) (c := t.1 (t.2.1 h) + 1) (x := znn a b (t.2.1 h) s) (t := zsp S a b g st (t.1 (t.2.1 h) + 1) (t.2.1 h) s t) (y := t.2.1 h) (i := h) (by rw [i2]; exact (w.2.2.1 h hh).2) i4
    have z := ZB_step ha1 ha8 hab hS i1 i4 (show s < 4 by omega)
    rw [i3, i2] at z
    exact ⟨z, k.1.trans i2, k.2.1.trans i3, k.2.2⟩
/-- the search has come to its i-th -/
def ZL (S a b g : Nat) (st : Nat → Int32) (i : Nat) (sc : Nat → Int32) (ar : Nat → Nat → Int32) : Prop := ∃ t : zT, ZSt S t sc ar ∧ ZB S a b g st t.1 t.2.1 t.2.2 i 0
/-- what the search leaves -/
def ZP (S a g : Nat) (st D : Nat → Int32) : Prop := ZW S a g st D ∧ ∀ k, k < S → rq (D k) 1000
theorem ZW_cg {S a g : Nat} {st D E : Nat → Int32} (h : ZW S a g st D) (e : ∀ k, k < S → E k = D k) : ZW S a g st E := by
  obtain ⟨h1, h2, h3, h4, h5⟩ := h
  refine ⟨fun k d hk hd w => h1 k d hk hd (e k hk ▸ w), fun k hk k1 k2 k3 => (e k hk).trans (h2 k hk k1 k2 k3), fun k j d hk hj hd w k1 k2 k3 => ?_, fun k hk w => h4 k hk (e k hk ▸ w), fun k d hk hd w => ?_⟩
  · obtain ⟨x, x1, x2, x3⟩ := h3 k j d hk hj hd (e k hk ▸ w) k1 k2 k3
    exact ⟨x, x1, x2, (e j hj).trans x3⟩
  · obtain ⟨j, j1, j2, j3⟩ := h5 k d hk hd (e k hk ▸ w)
    exact ⟨j, j1, j2, (e j j1).trans j3⟩
theorem zl_0 {S a b g : Nat} {st : Nat → Int32} {sc : Nat → Int32} {ar : Nat → Nat → Int32} {Q : Nat → Nat} (hW : Wd S a b) (hg : g < S) (h : ZSt S (zsp S a b g st 0 g 4 (fun _ => 1000, Q, 0)) sc ar) : ZL S a b g st 0 sc ar := by
  obtain ⟨ha1, ha8, hb1, hb8, hab, hS1, hS⟩ := id hW
  exact ⟨_, h, ZA_end ha1 ha8 hab hS hg (zsp_A hW hg 4 (Nat.le_refl _))⟩
theorem zl_s {S a b g i : Nat} {st : Nat → Int32} {t : zT} {sc : Nat → Int32} {ar : Nat → Nat → Int32} (hW : Wd S a b) (hB : ZB S a b g st t.1 t.2.1 t.2.2 i 0) (hi : i < t.2.2) (h : ZSt S (zsp S a b g st (t.1 (t.2.1 i) + 1) (t.2.1 i) 4 t) sc ar) : ZL S a b g st (i + 1) sc ar := ⟨_, h, ZB_next (zsp_B hW hB hi 4 (Nat.le_refl _)).1⟩
theorem zl_e {S a b g i n : Nat} {st : Nat → Int32} {sc : Nat → Int32} {ar : Nat → Nat → Int32} (hW : Wd S a b) (h : ZL S a b g st i sc ar) (e : sc 3603 = nI n) (hn : n < 1000) (hi : n ≤ i) : ZP S a g st (ar 37) := by
  obtain ⟨ha1, ha8, hb1, hb8, hab, hS1, hS⟩ := id hW
  obtain ⟨t, h1, h2⟩ := h
  have h0 := zc_le (fun k => decide (t.1 k < 1000)) S
  have h4 := h1.2.2.2
  have h5 : n = t.2.2 := (nI_eq (by omega) (by omega)).mp (e.symm.trans h1.2.2.1)
  refine ⟨ZW_cg (ZB_end ha1 ha8 hab hS h2 (by omega)) h1.1, fun k hk => ?_⟩
  rw [h1.1 k hk]
  unfold zI
  split
  · exact Or.inr ⟨_, by assumption, rfl⟩
  · exact Or.inl rfl
theorem zl_at {S a b g i n c : Nat} {st : Nat → Int32} {t : zT} {sc : Nat → Int32} {ar : Nat → Nat → Int32} (hS : S ≤ 64) (h1 : ZSt S t sc ar) (hB : ZB S a b g st t.1 t.2.1 t.2.2 i 0) (e : sc 3603 = nI n) (hn : n < 1000) (hi : i < n) (ec : ar 38 i = nI c) (hc : c < S) : i < t.2.2 ∧ t.2.1 i = c ∧ t.1 c < S ∧ ar 37 c = nI (t.1 c) := by
  have h0 := zc_le (fun k => decide (t.1 k < 1000)) S
  have h4 := h1.2.2.2
  have h5 : n = t.2.2 := (nI_eq (by omega) (by omega)).mp (e.symm.trans h1.2.2.1)
  have h6 : i < t.2.2 := by omega
  have h8 := hB.2.2.1 i h6
  have h7 : t.2.1 i = c := (nI_eq (by omega) (by omega)).mp ((h1.2.1 i h6).symm.trans ec)
  rw [h7] at h8
  exact ⟨h6, h7, ZB_lt hB hS hc h8.2, (h1.1 c hc).trans (zI_n h8.2)⟩
/-- the best side so far -/
def ZTN (S a b p : Nat) (D : Nat → Int32) (s y z : Nat) : Prop := (ZN S a b p D (fun t => t) s ∧ y = p ∧ z = S) ∨ ZT S a b p D (fun t => t) s y z
theorem zc_of {S a b p s n d : Nat} {ar : Nat → Nat → Int32} {D : Nat → Int32} (hW : Wd S a b) (hg : Gd S a b ar) (hp : p < S) (hs : s < 4) (hn : n < S) (hd : d < 1000) (e : ar 4 (4 * p + s) = nI n) (eD : D n = nI d) : znb a b p s = nI n ∧ ZC S a p D n d := by
  obtain ⟨ha1, ha8, hb1, hb8, hab, hS1, hS⟩ := id hW
  rw [hg.2.2 p s hp hs] at e
  exact ⟨e, hn, hd, (znb_ds ha1 hab hS hp (by omega) hs e).2, eD⟩
theorem zn_of {S a b p s : Nat} {ar : Nat → Nat → Int32} {D : Nat → Int32} (hW : Wd S a b) (hg : Gd S a b ar) (hp : p < S) (hs : s < 4) (w : ¬ (0 ≤ ar 4 (4 * p + s) ∧ ar 4 (4 * p + s) < nI S)) : ∀ c e : Nat, znb a b p s = nI c → ¬ ZC S a p D c e := by
  obtain ⟨ha1, ha8, hb1, hb8, hab, hS1, hS⟩ := id hW
  intro c e h1 h2
  rw [hg.2.2 p s hp hs, h1] at w
  have := h2.1
  exact w ⟨Int32.not_lt.mp (nI_pos (by omega)), (nI_ltI (by omega) (by omega)).mpr this⟩
theorem zn_of2 {S a b p s n : Nat} {ar : Nat → Nat → Int32} {D : Nat → Int32} (hW : Wd S a b) (hg : Gd S a b ar) (hp : p < S) (hs : s < 4) (hn : n < S) (e : ar 4 (4 * p + s) = nI n) (eD : D n = -1) : ∀ c e : Nat, znb a b p s = nI c → ¬ ZC S a p D c e := by
  obtain ⟨ha1, ha8, hb1, hb8, hab, hS1, hS⟩ := id hW
  intro c e' h1 h2
  rw [hg.2.2 p s hp hs] at e
  have := h2.1
  have h3 := h2.2.1
  obtain rfl : n = c := (nI_eq (by omega) (by omega)).mp (e.symm.trans h1)
  exact nI_neg (n := e') (by omega) (by decide) (h2.2.2.2.symm.trans eD)
theorem ztn_no {S a b p s y z : Nat} {D : Nat → Int32} (h : ZTN S a b p D s y z) (w : ∀ c e : Nat, znb a b p s = nI c → ¬ ZC S a p D c e) : ZTN S a b p D (s + 1) y z := h.imp (fun h => ⟨ZN_no h.1 w, h.2⟩) (fun h => ZT_no h w)
theorem ztn_y {S a b p g s y z n d : Nat} {st D : Nat → Int32} (hS : S ≤ 64) (hD : ZW S a g st D) (h : ZTN S a b p D s y z) (w : znb a b p s = nI n ∧ ZC S a p D n d) (l : d < z) : ZTN S a b p D (s + 1) n d := by
  rcases h with ⟨h, _⟩ | h
  · exact Or.inr (ZN_yes hS h w.1 w.2)
  · exact Or.inr (ZT_new hS h w.1 w.2 (Or.inl l))
theorem ztn_o {S a b p g s y z n d : Nat} {st D : Nat → Int32} (hW : Wd S a b) (hp : p < S) (hs : s < 4) (hD : ZW S a g st D) (h : ZTN S a b p D s y z) (w : znb a b p s = nI n ∧ ZC S a p D n d) (l : ¬ d < z) : ZTN S a b p D (s + 1) y z := by
  obtain ⟨ha1, ha8, hb1, hb8, hab, hS1, hS⟩ := id hW
  rcases h with ⟨h, e1, e2⟩ | h
  · have := ZW_lt hD w.2.2.1 w.2.1 w.2.2.2.2
    omega
  · refine Or.inr (ZT_old hS h w.1 w.2 ?_)
    obtain ⟨⟨t, h1, h2⟩, h3, _⟩ := h
    have := znb_up ha1 hab hS hp (by have := h3.1; omega) (by have := w.2.1; omega) h1 hs h2 w.1
    omega
theorem ztn_e {S a b p g y z : Nat} {st D : Nat → Int32} (hW : Wd S a b) (hp : p < S) (hD : ZW S a g st D) (h : ZTN S a b p D 4 y z) : nI y = nI (zgo S a g st p) := by
  obtain ⟨ha1, ha8, hb1, hb8, hab, hS1, hS⟩ := id hW
  have ho : ∀ s, s < 4 → ∃ t, t < 4 ∧ (fun t : Nat => t) t = s := fun s hs => ⟨s, hs, rfl⟩
  rcases h with ⟨h, rfl, _⟩ | h
  · rw [zgo_eq (ZN_end ha1 hab hp ho hD h)]
  · rw [zgo_eq (ZT_end ha1 hab hp ho hD h)]
/-! THE FULL STATE: the phases of an hour, as functions of rows -/
/-- the codes from i on can be run where t numbers wait -/
def zok (co : Nat → Int32) : Nat → Nat → Nat → Prop
  | 0, _, _ => True
  | m + 1, i, t => (0 ≤ co i ∨ (0 ≤ -20 - co i ∧ -20 - co i < 8) → t < 20 ∧ zok co m (i + 1) (t + 1)) ∧ (¬ (0 ≤ co i ∨ (0 ≤ -20 - co i ∧ -20 - co i < 8)) → (co i = -12 ∨ co i = -13 → 1 ≤ t ∧ zok co m (i + 1) (t - 1)) ∧ (co i = -16 → 1 ≤ t ∧ zok co m (i + 1) t) ∧ (¬ co i = -12 → ¬ co i = -13 → ¬ co i = -16 → 2 ≤ t ∧ zok co m (i + 1) (t - 1)))
theorem zrun_w {kn kn' co : Nat → Int32} (hk : ∀ i, i < 8 → kn i = kn' i) : ∀ (m i t : Nat) (w w' : Nat → Int32) (x y : Int32), t < 21 → zok co m i t → (∀ j, j < t → w j = w' j) → (zrun kn co m i (w, t, x, y)).2.2 = (zrun kn' co m i (w', t, x, y)).2.2
  | 0, _, _, _, _, _, _, _, _, _ => rfl
  | m + 1, i, t, w, w', x, y, ht, h, hw => by
    obtain ⟨h1, h2⟩ := h
    have up : ∀ (u u' : Nat → Int32) (q : Nat) (v : Int32), (∀ j, j < q → u j = u' j) → ∀ j, j < q + 1 → upd u q v j = upd u' q v j := by
      intro u u' q v hu j hj
      unfold upd
      split
      · rfl
      · exact hu j (by omega)
    unfold zrun
    by_cases a1 : 0 ≤ co i
    · obtain ⟨t1, z1⟩ := h1 (Or.inl a1)
      rw [zt_num a1, zt_num a1]
      simp only [zpush, if_pos t1]
      exact zrun_w hk m (i + 1) (t + 1) _ _ x y (by omega) z1 (up _ _ _ _ hw)
    · by_cases a2 : 0 ≤ -20 - co i ∧ -20 - co i < 8
      · obtain ⟨t1, z1⟩ := h1 (Or.inr a2)
        obtain ⟨n, hn, en⟩ := nI_of (Int32.not_lt.mpr a2.1)
        have hn8 : n < 8 := by
          have := a2.2
          rw [en] at this
          exact (nI_ltI (b := 8) hn (by omega)).mp this
        rw [zt_nam a1 hn8 en, zt_nam a1 hn8 en]
        simp only [zpush, if_pos t1]
        rw [hk n hn8]
        exact zrun_w hk m (i + 1) (t + 1) _ _ x y (by omega) z1 (up _ _ _ _ hw)
      · obtain ⟨b1, b2, b3⟩ := h2 (fun w => w.elim a1 a2)
        have pp : ∀ u, 1 ≤ u → u ≤ t → zpop w u = zpop w' u := by
          intro u hu hv
          unfold zpop
          rw [if_neg (by omega), if_neg (by omega)]
          exact hw (u - 1) (by omega)
        by_cases a3 : co i = -12
        · obtain ⟨t1, z1⟩ := b1 (Or.inl a3)
          rw [a3, zt_call, zt_call]
          simp only [pp t t1 (Nat.le_refl _)]
          exact zrun_w hk m (i + 1) (t - 1) _ _ _ _ (by omega) z1 (fun j hj => hw j (by omega))
        · by_cases a4 : co i = -13
          · obtain ⟨t1, z1⟩ := b1 (Or.inr a4)
            rw [a4, zt_pay, zt_pay]
            simp only [pp t t1 (Nat.le_refl _)]
            exact zrun_w hk m (i + 1) (t - 1) _ _ _ _ (by omega) z1 (fun j hj => hw j (by omega))
          · by_cases a5 : co i = -16
            · obtain ⟨t1, z1⟩ := b2 a5
              rw [a5, zt_not, zt_not]
              have t2 : t - 1 < 20 := by omega
              simp only [zpush, if_pos t2, pp t t1 (Nat.le_refl _)]
              have := zrun_w hk m (i + 1) t (upd w (t - 1) (if zpop w' t = 0 then 1 else 0)) (upd w' (t - 1) (if zpop w' t = 0 then 1 else 0)) x y ht z1 (fun j hj => up _ _ _ _ (fun j hj => hw j (by omega)) j (by omega))
              rw [show t - 1 + 1 = t by omega]
              exact this
            · obtain ⟨t1, z1⟩ := b3 a3 a4 a5
              rw [zt_two a1 a2 a3 a4 a5, zt_two a1 a2 a3 a4 a5]
              simp only [pp t (by omega) (Nat.le_refl _), pp (t - 1) (by omega) (by omega)]
              have t2 : t - 1 - 1 < 20 := by omega
              simp only [zpush, if_pos t2]
              have := zrun_w hk m (i + 1) (t - 1) (upd w (t - 1 - 1) (zjo (co i) (zpop w' (t - 1)) (zpop w' t))) (upd w' (t - 1 - 1) (zjo (co i) (zpop w' (t - 1)) (zpop w' t))) x y (by omega) z1 (fun j hj => up _ _ _ _ (fun j hj => hw j (by omega)) j (by omega))
              rw [show t - 1 - 1 + 1 = t - 1 by omega]
              exact this
/-- the laws that are told can be run -/
def zBk (l0 : Nat) (co en : Nat → Int32) : Prop := ∀ l, l < l0 → zok co ((en l).toNatClampNeg - (zbe en l).toNatClampNeg) (zbe en l).toNatClampNeg 0
/-- what law l says: whether it calls, what it pays -/
def zEv (kn co en : Nat → Int32) (l : Nat) : Int32 × Int32 := (zrl kn co en (fun _ => 0) l).2.2
theorem zEv_eq {kn kn' co en w : Nat → Int32} {l0 l : Nat} (hB : zBk l0 co en) (hl : l < l0) (hk : ∀ i, i < 8 → kn i = kn' i) : (zrl kn co en w l).2.2 = zEv kn' co en l := zrun_w hk _ _ 0 w (fun _ => 0) 0 0 (by omega) (hB l hl) (fun j hj => absurd hj (Nat.not_lt_zero _))
/-- what is known of company c and cell k -/
def zkw (a : Nat) (wa wo fu ow me pl : Nat → Int32) (h : Nat) (fi : Int32) (c k : Nat) : Nat → Int32 := fun i => if i = 0 then wa k else if i = 1 then wo k else if i = 2 then fu k else if i = 3 then ow c else if i = 4 then me c else if i = 5 then nI (zds a (pl c).toNatClampNeg k) else if i = 6 then nI (h % 24) else fi
def zin (kn : Nat → Int32) (v0 v1 v2 v3 v4 v5 v6 v7 : Int32) : Nat → Int32 := zln (zln (zln (zln (zln (zln (zln (zln kn (-20) v0) (-21) v1) (-22) v2) (-23) v3) (-24) v4) (-25) v5) (-26) v6) (-27) v7
theorem zin_at {kn : Nat → Int32} {a : Nat} {wa wo fu ow me pl : Nat → Int32} {h : Nat} {fi : Int32} {c k : Nat} : ∀ i, i < 8 → zin kn (wa k) (wo k) (fu k) (ow c) (me c) (nI (zds a (pl c).toNatClampNeg k)) (nI (h % 24)) fi i = zkw a wa wo fu ow me pl h fi c k i
  | 0, _ => rfl
  | 1, _ => rfl
  | 2, _ => rfl
  | 3, _ => rfl
  | 4, _ => rfl
  | 5, _ => rfl
  | 6, _ => rfl
  | 7, _ => rfl
  | n + 8, h => absurd h (by omega)
/-- whether company c is called to cell k -/
def zcal (x1 : Int32) (kn co en : Nat → Int32) (ow wa : Int32) : Bool := if x1 = -1 then decide (ow = wa) else decide (¬ (zEv kn co en x1.toNatClampNeg).1 = 0)
/-- what is paid -/
def zpf (S a l0 h : Nat) (wa wo ow me pl co en da : Nat → Int32) (st fu : Nat → Int32) (c k : Nat) : Int32 := if fo da (nI (h / 24)) l0 0 (-1) = -1 then 1 else (zEv (zkw a wa wo fu ow me pl h (zcn st 1 S) c k) co en (fo da (nI (h / 24)) l0 0 (-1)).toNatClampNeg).2
/-- the goals when the bell of cell k rings -/
def zrbW (a h : Nat) (x1 fi : Int32) (wa wo fu ow me pl co en : Nat → Int32) (k : Nat) (go : Nat → Int32) : Nat → Int32 := fun c => if go c = -1 ∧ zcal x1 (zkw a wa wo fu ow me pl h fi c k) co en (ow c) (wa k) = true then nI k else go c
def zit {α : Type} (f : Nat → α → α) : Nat → α → α
  | 0, s => s
  | n + 1, s => f n (zit f n s)
theorem zit_s {α : Type} {f : Nat → α → α} {i : Nat} {s t u : α} (h : t = zit f i s) (e : u = f i t) : u = zit f (i + 1) s := by
  rw [e, h]
  rfl
/-- where companies go -/
noncomputable def zgoW (S a : Nat) (st go pl : Nat → Int32) : Nat → Int32 := fun c => if go c = -1 ∨ zds a (pl c).toNatClampNeg (go c).toNatClampNeg = 1 then pl c else nI (zgo S a (go c).toNatClampNeg st (pl c).toNatClampNeg)
/-- the roof of cell k, company by company: roofs, quarrels -/
def zgr (a k : Nat) (go pl : Nat → Int32) (c : Nat) (s : (Nat → Int32) × (Nat → Int32)) : (Nat → Int32) × (Nat → Int32) := if go c = nI k ∧ zds a (pl c).toNatClampNeg k = 1 then (if s.1 k = -1 then (upd s.1 k (nI c), s.2) else (s.1, upd s.2 c (s.2 c + 1))) else s
def zgrs (a n : Nat) (st go pl : Nat → Int32) (k : Nat) (s : (Nat → Int32) × (Nat → Int32)) : (Nat → Int32) × (Nat → Int32) := if st k = 1 ∧ s.1 k = -1 then zit (zgr a k go pl) n s else s
/-- the work: states, fuel, wet, goals, pulls -/
abbrev zW5 : Type := (Nat → Int32) × (Nat → Int32) × (Nat → Int32) × (Nat → Int32) × (Nat → Int32)
def zpl (n g : Nat) (m : Int32) (s : zW5) : zW5 := if s.2.1 g - m < 1 then (upd s.1 g 3, upd (upd s.2.1 g (s.2.1 g - m)) g 0, s.2.2.1, fgl n (nI g) s.2.2.2.1, fgp n (nI g) s.2.2.2.1 s.2.2.2.2) else (s.1, upd s.2.1 g (s.2.1 g - m), s.2.2.1, s.2.2.2.1, s.2.2.2.2)
/-- how often the water comes -/
noncomputable def zwt (S a : Nat) (du : Nat → Int32) (m : Nat) : Int32 := @ite _ (zwl S a du m) (Classical.propDecidable _) 2 1
noncomputable def zwk (S a n : Nat) (me pl ro du : Nat → Int32) (c : Nat) (s : zW5) : zW5 := if s.2.2.2.1 c = -1 ∨ ¬ zds a (pl c).toNatClampNeg (s.2.2.2.1 c).toNatClampNeg = 1 then s else if ¬ s.2.2.2.2 c = 0 then zpl n (s.2.2.2.1 c).toNatClampNeg (me c) s else if ro (s.2.2.2.1 c).toNatClampNeg = nI c then (s.1, s.2.1, upd s.2.2.1 (s.2.2.2.1 c).toNatClampNeg (s.2.2.1 (s.2.2.2.1 c).toNatClampNeg + zwt S a du (pl c).toNatClampNeg * me c), s.2.2.2.1, s.2.2.2.2) else s
/-- the fire eats: states, fuel, warmth, wet, roofs, goals, pulls, pay, saved -/
abbrev zB9 : Type := (Nat → Int32) × (Nat → Int32) × (Nat → Int32) × (Nat → Int32) × (Nat → Int32) × (Nat → Int32) × (Nat → Int32) × (Nat → Int32) × (Nat → Int32)
def zpo (n : Nat) (pf : (Nat → Int32) → (Nat → Int32) → Nat → Nat → Int32) (k : Nat) : zB9 → zB9
  | (st, fu, wm, we, ro, go, pu, pa, sa) => (upd st k 0, fu, upd wm k 0, upd we k 0, upd ro k (-1), fgl n (nI k) go, fgp n (nI k) go pu, if 0 ≤ ro k ∧ ro k < nI n then upd pa (ro k).toNatClampNeg (pa (ro k).toNatClampNeg + pf (upd st k 0) fu (ro k).toNatClampNeg k) else pa, if 0 ≤ ro k ∧ ro k < nI n then upd sa (ro k).toNatClampNeg (sa (ro k).toNatClampNeg + 1) else sa)
def zbn (n : Nat) (pf : (Nat → Int32) → (Nat → Int32) → Nat → Nat → Int32) (k : Nat) : zB9 → zB9
  | (st, fu, wm, we, ro, go, pu, pa, sa) => if st k = 1 then (if 4 * fu k ≤ we k then zpo n pf k (st, fu, wm, we, ro, go, pu, pa, sa) else if fu k - 1 ≤ 0 then (upd st k 2, upd fu k (fu k - 1), wm, we, upd ro k (-1), fgl n (nI k) go, fgp n (nI k) go pu, pa, sa) else (st, upd fu k (fu k - 1), wm, we, ro, go, pu, pa, sa)) else (st, fu, wm, we, ro, go, pu, pa, sa)
/-- what aims at what begins to burn is forgotten, then the bells ring -/
def zfgA (n : Nat) (fr : Nat → Int32) : Nat → (Nat → Int32) × (Nat → Int32) → (Nat → Int32) × (Nat → Int32)
  | 0, s => s
  | i + 1, s => (fgl n (fr i) (zfgA n fr i s).1, fgp n (fr i) (zfgA n fr i s).1 (zfgA n fr i s).2)
def zrgA (a n h : Nat) (x1 fi : Int32) (wa wo fu ow me pl co en fr : Nat → Int32) : Nat → (Nat → Int32) → (Nat → Int32)
  | 0, go => go
  | i + 1, go => zpw (zrbW a h x1 fi wa wo fu ow me pl co en (fr i).toNatClampNeg (zrgA a n h x1 fi wa wo fu ow me pl co en fr i go)) (zrgA a n h x1 fi wa wo fu ow me pl co en fr i go) n
theorem zbk_fr {L A : List Nat} {l0 : Nat} {sc sc' : Nat → Int32} {ar ar' : Nat → Nat → Int32} (h : zBk l0 (ar 30) (ar 31)) (f : Fr L A sc ar sc' ar') (h2 : 30 ∉ A) (h3 : 31 ∉ A) : zBk l0 (ar' 30) (ar' 31) := by
  rw [f.2 30 h2, f.2 31 h3]
  exact h
theorem uA_s {ar : Nat → Nat → Int32} {c : Nat} {g : Nat → Int32} : uA ar c g c = g := if_pos rfl
theorem uA_n {ar : Nat → Nat → Int32} {c d : Nat} {g : Nat → Int32} (h : ¬ d = c) : uA ar c g d = ar d := if_neg h
theorem zpf_0 {S a l0 h : Nat} {wa wo ow me pl co en da st fu : Nat → Int32} {c k : Nat} (e : -1 = fo da (nI (h / 24)) l0 0 (-1)) : 1 = zpf S a l0 h wa wo ow me pl co en da st fu c k := by
  unfold zpf
  rw [if_pos e.symm]
theorem zpf_1 {S a l0 h n : Nat} {wa wo ow me pl co en da st fu kn w : Nat → Int32} {c k : Nat} {v : Int32} (e : nI n = fo da (nI (h / 24)) l0 0 (-1)) (hn : n < l0) (hl : l0 < 7) (hB : zBk l0 co en) (hk : kn = zin w (wa k) (wo k) (fu k) (ow c) (me c) (nI (zds a (pl c).toNatClampNeg k)) (nI (h % 24)) (zcn st 1 S)) (w' : Nat → Int32) (hv : v = (zrl kn co en w' n).2.2.2) : v = zpf S a l0 h wa wo ow me pl co en da st fu c k := by
  unfold zpf
  rw [if_neg (fun w => nI_neg (n := n) (by omega) (by decide) (e.trans w)), ← e, nI_clamp (by omega), hv]
  have := zEv_eq (w := w') (kn := kn) (kn' := zkw a wa wo fu ow me pl h (zcn st 1 S) c k) hB hn (fun i hi => by rw [hk]; exact zin_at i hi)
  exact congrArg (fun z => z.2) this
theorem zcal_0 {kn co en : Nat → Int32} {ow wa : Int32} : zcal (-1) kn co en ow wa = true ↔ ow = wa := by
  unfold zcal
  rw [if_pos rfl, decide_eq_true_eq]
theorem zcal_1 {a l0 h n : Nat} {wa wo ow me pl fu co en kn w : Nat → Int32} {c k : Nat} {v fi : Int32} (hn : n < l0) (hl : l0 < 7) (hB : zBk l0 co en) (hk : kn = zin w (wa k) (wo k) (fu k) (ow c) (me c) (nI (zds a (pl c).toNatClampNeg k)) (nI (h % 24)) fi) (w' : Nat → Int32) (hv : v = (zrl kn co en w' n).2.2.1) : zcal (nI n) (zkw a wa wo fu ow me pl h fi c k) co en (ow c) (wa k) = true ↔ ¬ v = 0 := by
  unfold zcal
  rw [if_neg (nI_neg (n := n) (by omega) (by decide)), decide_eq_true_eq, nI_clamp (by omega), hv]
  have := zEv_eq (w := w') (kn := kn) (kn' := zkw a wa wo fu ow me pl h fi c k) hB hn (fun i hi => by rw [hk]; exact zin_at i hi)
  rw [this]
theorem zdec {v : Int32} {n : Nat} {P : Prop} (hn : n < 2) (e : v = nI n) (h : P ↔ ¬ v = 0) : (nI n = 1 ∧ P) ∨ (nI n = 0 ∧ ¬ P) := by
  subst e
  have : n = 0 ∨ n = 1 := by omega
  rcases this with rfl | rfl
  · exact Or.inr ⟨rfl, fun w => h.mp w rfl⟩
  · exact Or.inl ⟨rfl, h.mpr (by decide)⟩
theorem zrb_y {a h : Nat} {x1 fi : Int32} {wa wo fu ow me pl co en go g : Nat → Int32} {k i n : Nat} (hh : g = zpw (zrbW a h x1 fi wa wo fu ow me pl co en k go) go i) (e : g i = -1) (w : zcal x1 (zkw a wa wo fu ow me pl h fi i k) co en (ow i) (wa k) = true) : upd g i (nI k) = zpw (zrbW a h x1 fi wa wo fu ow me pl co en k go) go (i + 1) := by
  rw [zpw_at hh] at e
  exact zpw_u hh (if_pos ⟨e, w⟩).symm
theorem zrb_n {a h : Nat} {x1 fi : Int32} {wa wo fu ow me pl co en go g : Nat → Int32} {k i : Nat} (hh : g = zpw (zrbW a h x1 fi wa wo fu ow me pl co en k go) go i) (w : ¬ (g i = -1 ∧ zcal x1 (zkw a wa wo fu ow me pl h fi i k) co en (ow i) (wa k) = true)) : g = zpw (zrbW a h x1 fi wa wo fu ow me pl co en k go) go (i + 1) := by
  rw [zpw_at hh] at w
  exact zpw_k hh (if_neg w).symm
theorem zpo_y {n c k : Nat} {pf : (Nat → Int32) → (Nat → Int32) → Nat → Nat → Int32} {st fu wm we ro go pu pa sa : Nat → Int32} (hc : c < n) (hn : n < 9) (e : ro k = nI c) : zpo n pf k (st, fu, wm, we, ro, go, pu, pa, sa) = (upd st k 0, fu, upd wm k 0, upd we k 0, upd ro k (-1), fgl n (nI k) go, fgp n (nI k) go pu, upd pa c (pa c + pf (upd st k 0) fu c k), upd sa c (sa c + 1)) := by
  have h : 0 ≤ ro k ∧ ro k < nI n := by
    rw [e]
    exact ⟨Int32.not_lt.mp (nI_pos (by omega)), (nI_ltI (by omega) (by omega)).mpr hc⟩
  unfold zpo
  dsimp only
  rw [if_pos h, if_pos h, e, nI_clamp (by omega)]
theorem zpo_n {n k : Nat} {pf : (Nat → Int32) → (Nat → Int32) → Nat → Nat → Int32} {st fu wm we ro go pu pa sa : Nat → Int32} (h : ¬ (0 ≤ ro k ∧ ro k < nI n)) : zpo n pf k (st, fu, wm, we, ro, go, pu, pa, sa) = (upd st k 0, fu, upd wm k 0, upd we k 0, upd ro k (-1), fgl n (nI k) go, fgp n (nI k) go pu, pa, sa) := by
  unfold zpo
  dsimp only
  rw [if_neg h, if_neg h]
theorem zfg_s {n i : Nat} {x : Int32} {fr g p g' p' : Nat → Int32} {s : (Nat → Int32) × (Nat → Int32)} (h : (g, p) = zfgA n fr i s) (e : fr i = x) (h1 : g' = fgl n x g) (h2 : p' = fgp n x g p) : (g', p') = zfgA n fr (i + 1) s := by
  subst e
  unfold zfgA
  rw [← h, h1, h2]
theorem zrg_s {a n h i m : Nat} {x1 fi : Int32} {wa wo fu ow me pl co en fr g g' go : Nat → Int32} (hh : g = zrgA a n h x1 fi wa wo fu ow me pl co en fr i go) (e : fr i = nI m) (hm : m < 64) (h1 : g' = zpw (zrbW a h x1 fi wa wo fu ow me pl co en m g) g n) : g' = zrgA a n h x1 fi wa wo fu ow me pl co en fr (i + 1) go := by
  unfold zrgA
  rw [← hh, e, nI_clamp (by omega), h1]
theorem zgr_1 {a n k c m : Nat} {go pl ro qu : Nat → Int32} (hc : go c = nI k) (hp : pl c = nI m) (hm : m < 64) (hd : zds a m k = 1) (q : ro k = -1) : (upd ro k (nI c), qu) = zgr a k go pl c (ro, qu) := by
  unfold zgr
  rw [if_pos ⟨hc, by rw [hp, nI_clamp (by omega)]; exact hd⟩]
  exact (if_pos q).symm
theorem zgr_2 {a n k c m : Nat} {go pl ro qu : Nat → Int32} (hc : go c = nI k) (hp : pl c = nI m) (hm : m < 64) (hd : zds a m k = 1) (q : ¬ ro k = -1) : (ro, upd qu c (qu c + 1)) = zgr a k go pl c (ro, qu) := by
  unfold zgr
  rw [if_pos ⟨hc, by rw [hp, nI_clamp (by omega)]; exact hd⟩]
  exact (if_neg q).symm
theorem zgr_0 {a k c : Nat} {go pl ro qu : Nat → Int32} (h : ¬ (go c = nI k ∧ zds a (pl c).toNatClampNeg k = 1)) : (ro, qu) = zgr a k go pl c (ro, qu) := by
  unfold zgr
  rw [if_neg h]
theorem zgr_d {a k c m : Nat} {go pl : Nat → Int32} (hp : pl c = nI m) (hm : m < 64) (hd : ¬ zds a m k = 1) : ¬ (go c = nI k ∧ zds a (pl c).toNatClampNeg k = 1) := fun w => hd (by have := w.2; rw [hp, nI_clamp (by omega)] at this; exact this)
theorem ni_ne {x : Int32} {m k : Nat} (e : x = nI m) (q : ¬ m = k) (hm : m < 1000) (hk : k < 1000) : ¬ x = nI k := fun w => q ((nI_eq (by omega) (by omega)).mp (e.symm.trans w))
theorem ni_m {x : Int32} {k : Nat} (e : x = -1) (hk : k < 1000) : ¬ x = nI k := fun w => nI_neg (n := k) (by omega) (by decide) (w.symm.trans e)
theorem zgw_0 {S a c : Nat} {st go pl : Nat → Int32} (h : go c = -1) : pl c = zgoW S a st go pl c := (if_pos (Or.inl h)).symm
theorem zgw_1 {S a c g m : Nat} {st go pl : Nat → Int32} (h : go c = nI g) (hp : pl c = nI m) (hg : g < 64) (hm : m < 64) (hd : zds a m g = 1) : pl c = zgoW S a st go pl c := (if_pos (Or.inr (by rw [h, hp, nI_clamp (by omega), nI_clamp (by omega)]; exact hd))).symm
theorem zgw_2 {S a c g m : Nat} {st go pl : Nat → Int32} (h : go c = nI g) (hp : pl c = nI m) (hg : g < 64) (hm : m < 64) (hd : ¬ zds a m g = 1) : nI (zgo S a g st m) = zgoW S a st go pl c := by
  unfold zgoW
  rw [if_neg, h, hp, nI_clamp (by omega), nI_clamp (by omega)]
  rintro (w | w)
  · exact nI_neg (n := g) (by omega) (by decide) (h.symm.trans w)
  · rw [h, hp, nI_clamp (by omega), nI_clamp (by omega)] at w
    exact hd w
theorem zbn_p {n k : Nat} {pf : (Nat → Int32) → (Nat → Int32) → Nat → Nat → Int32} {st fu wm we ro go pu pa sa : Nat → Int32} {u : zB9} (h : st k = 1) (q : 4 * fu k ≤ we k) (e : u = zpo n pf k (st, fu, wm, we, ro, go, pu, pa, sa)) : u = zbn n pf k (st, fu, wm, we, ro, go, pu, pa, sa) := by
  unfold zbn
  dsimp only
  rw [if_pos h, if_pos q, e]
theorem zbn_a {n k : Nat} {pf : (Nat → Int32) → (Nat → Int32) → Nat → Nat → Int32} {st fu wm we ro go pu pa sa : Nat → Int32} (h : st k = 1) (q : ¬ 4 * fu k ≤ we k) (e : upd fu k (fu k - 1) k ≤ 0) : (upd st k 2, upd fu k (fu k - 1), wm, we, upd ro k (-1), fgl n (nI k) go, fgp n (nI k) go pu, pa, sa) = zbn n pf k (st, fu, wm, we, ro, go, pu, pa, sa) := by
  have e : fu k - 1 ≤ 0 := by
    unfold upd at e
    rw [if_pos rfl] at e
    exact e
  unfold zbn
  dsimp only
  rw [if_pos h, if_neg q, if_pos e]
theorem zbn_g {n k : Nat} {pf : (Nat → Int32) → (Nat → Int32) → Nat → Nat → Int32} {st fu wm we ro go pu pa sa : Nat → Int32} (h : st k = 1) (q : ¬ 4 * fu k ≤ we k) (e : ¬ upd fu k (fu k - 1) k ≤ 0) : (st, upd fu k (fu k - 1), wm, we, ro, go, pu, pa, sa) = zbn n pf k (st, fu, wm, we, ro, go, pu, pa, sa) := by
  have e : ¬ fu k - 1 ≤ 0 := by
    unfold upd at e
    rw [if_pos rfl] at e
    exact e
  unfold zbn
  dsimp only
  rw [if_pos h, if_neg q, if_neg e]
theorem zbn_0 {n k : Nat} {pf : (Nat → Int32) → (Nat → Int32) → Nat → Nat → Int32} {st fu wm we ro go pu pa sa : Nat → Int32} (h : ¬ st k = 1) : (st, fu, wm, we, ro, go, pu, pa, sa) = zbn n pf k (st, fu, wm, we, ro, go, pu, pa, sa) := by
  unfold zbn
  dsimp only
  rw [if_neg h]
theorem zpl_1 {n g : Nat} {m : Int32} {st fu we go pu : Nat → Int32} (h : upd fu g (fu g - m) g < 1) : (upd st g 3, upd (upd fu g (fu g - m)) g 0, we, fgl n (nI g) go, fgp n (nI g) go pu) = zpl n g m (st, fu, we, go, pu) := by
  have e : fu g - m < 1 := by
    unfold upd at h
    rw [if_pos rfl] at h
    exact h
  exact (if_pos e).symm
theorem zpl_0 {n g : Nat} {m : Int32} {st fu we go pu : Nat → Int32} (h : ¬ upd fu g (fu g - m) g < 1) : (st, upd fu g (fu g - m), we, go, pu) = zpl n g m (st, fu, we, go, pu) := by
  have e : ¬ fu g - m < 1 := by
    unfold upd at h
    rw [if_pos rfl] at h
    exact h
  exact (if_neg e).symm
theorem zwk_0 {S a n c : Nat} {me pl ro du st fu we go pu : Nat → Int32} (h : go c = -1) : (st, fu, we, go, pu) = zwk S a n me pl ro du c (st, fu, we, go, pu) := (if_pos (Or.inl h)).symm
theorem zwk_1 {S a n c g m : Nat} {me pl ro du st fu we go pu : Nat → Int32} (h : go c = nI g) (hp : pl c = nI m) (hg : g < 64) (hm : m < 64) (hd : ¬ zds a m g = 1) : (st, fu, we, go, pu) = zwk S a n me pl ro du c (st, fu, we, go, pu) := (if_pos (Or.inr (show ¬ zds a (pl c).toNatClampNeg (go c).toNatClampNeg = 1 by rw [h, hp, nI_clamp (by omega), nI_clamp (by omega)]; exact hd))).symm
theorem zwk_x {S a n c g m : Nat} {me pl ro du st fu we go pu : Nat → Int32} (h : go c = nI g) (hp : pl c = nI m) (hg : g < 64) (hm : m < 64) (hd : zds a m g = 1) : zwk S a n me pl ro du c (st, fu, we, go, pu) = if ¬ pu c = 0 then zpl n g (me c) (st, fu, we, go, pu) else if ro g = nI c then (st, fu, upd we g (we g + zwt S a du m * me c), go, pu) else (st, fu, we, go, pu) := by
  have e1 : (go c).toNatClampNeg = g := by rw [h, nI_clamp (by omega)]
  have e2 : (pl c).toNatClampNeg = m := by rw [hp, nI_clamp (by omega)]
  unfold zwk
  dsimp only
  rw [if_neg]
  · simp only [e1, e2]
  · rintro (w | w)
    · exact nI_neg (n := g) (by omega) (by decide) (h.symm.trans w)
    · rw [e1, e2] at w
      exact w hd
theorem zwk_p {S a n c g m : Nat} {me pl ro du st fu we go pu : Nat → Int32} {u : zW5} (h : go c = nI g) (hp : pl c = nI m) (hg : g < 64) (hm : m < 64) (hd : zds a m g = 1) (q : ¬ pu c = 0) (e : u = zpl n g (me c) (st, fu, we, go, pu)) : u = zwk S a n me pl ro du c (st, fu, we, go, pu) := by
  rw [zwk_x h hp hg hm hd, if_pos q, e]
theorem zwk_n {S a n c g m : Nat} {me pl ro du st fu we go pu : Nat → Int32} (h : go c = nI g) (hp : pl c = nI m) (hg : g < 64) (hm : m < 64) (hd : zds a m g = 1) (q : pu c = 0) (r : ¬ ro g = nI c) : (st, fu, we, go, pu) = zwk S a n me pl ro du c (st, fu, we, go, pu) := by
  rw [zwk_x h hp hg hm hd, if_neg (fun w => w q), if_neg r]
theorem zwk_w {S a n c g m : Nat} {me pl ro du st fu we go pu : Nat → Int32} (h : go c = nI g) (hp : pl c = nI m) (hg : g < 64) (hm : m < 64) (hd : zds a m g = 1) (q : pu c = 0) (r : ro g = nI c) (w : zwl S a du m) : (st, fu, upd we g (we g + 2 * me c), go, pu) = zwk S a n me pl ro du c (st, fu, we, go, pu) := by
  rw [zwk_x h hp hg hm hd, if_neg (fun w => w q), if_pos r, show zwt S a du m = 2 from if_pos w]
theorem zwk_v {S a n c g m : Nat} {me pl ro du st fu we go pu : Nat → Int32} (h : go c = nI g) (hp : pl c = nI m) (hg : g < 64) (hm : m < 64) (hd : zds a m g = 1) (q : pu c = 0) (r : ro g = nI c) (w : ¬ zwl S a du m) : (st, fu, upd we g (we g + 1 * me c), go, pu) = zwk S a n me pl ro du c (st, fu, we, go, pu) := by
  rw [zwk_x h hp hg hm hd, if_neg (fun w => w q), if_pos r, show zwt S a du m = 1 from if_neg w]
theorem zgrs_y {a n k : Nat} {st go pl ro qu : Nat → Int32} {u : (Nat → Int32) × (Nat → Int32)} (h : st k = 1) (q : ro k = -1) (e : u = zit (zgr a k go pl) n (ro, qu)) : u = zgrs a n st go pl k (ro, qu) := by
  unfold zgrs
  rw [if_pos ⟨h, q⟩, e]
theorem zgrs_n {a n k : Nat} {st go pl ro qu : Nat → Int32} (h : ¬ (st k = 1 ∧ ro k = -1)) : (ro, qu) = zgrs a n st go pl k (ro, qu) := by
  unfold zgrs
  rw [if_neg h]
/-! THE FULL STATE: an hour, as a function of the rows that are seen -/
def zr (r : Nat) : Bool := decide ((5 ≤ r ∧ r ≤ 12) ∨ (14 ≤ r ∧ r ≤ 21))
def zV (ar : Nat → Nat → Int32) : Nat → Nat → Int32 := fun r => if zr r = true then ar r else fun _ => 0
theorem zV_ext {ar w : Nat → Nat → Int32} (h : ∀ r, zr r = true → ar r = w r) (h0 : ∀ r, zr r = false → w r = fun _ => 0) : zV ar = w := by
  funext r
  unfold zV
  cases hz : zr r with
  | true => rw [if_pos rfl, h r hz]
  | false => rw [if_neg (by decide), h0 r hz]
theorem zr_all {P : Nat → Prop} (h5 : P 5) (h6 : P 6) (h7 : P 7) (h8 : P 8) (h9 : P 9) (h10 : P 10) (h11 : P 11) (h12 : P 12) (h14 : P 14) (h15 : P 15) (h16 : P 16) (h17 : P 17) (h18 : P 18) (h19 : P 19) (h20 : P 20) (h21 : P 21) : ∀ r, zr r = true → P r := by
  intro r h
  unfold zr at h
  rw [decide_eq_true_eq] at h
  have : r = 5 ∨ r = 6 ∨ r = 7 ∨ r = 8 ∨ r = 9 ∨ r = 10 ∨ r = 11 ∨ r = 12 ∨ r = 14 ∨ r = 15 ∨ r = 16 ∨ r = 17 ∨ r = 18 ∨ r = 19 ∨ r = 20 ∨ r = 21 := by omega
  rcases this with rfl | rfl | rfl | rfl | rfl | rfl | rfl | rfl | rfl | rfl | rfl | rfl | rfl | rfl | rfl | rfl <;> assumption
def zv0 (v : Nat → Nat → Int32) : Prop := ∀ r, zr r = false → v r = fun _ => 0
theorem zv0_V {ar : Nat → Nat → Int32} : zv0 (zV ar) := fun r h => by
  unfold zV
  rw [h]
  rfl
theorem zv0_u {v : Nat → Nat → Int32} {c : Nat} {g : Nat → Int32} (h : zv0 v) (hc : zr c = true) : zv0 (uA v c g) := fun r hr => by
  unfold uA
  rw [if_neg (fun e => by rw [e, hc] at hr; cases hr)]
  exact h r hr
noncomputable def zvGo (S a n : Nat) (v : Nat → Nat → Int32) : Nat → Nat → Int32 := uA v 16 (zpw (zgoW S a (v 5) (v 17) (v 16)) (v 16) n)
def zRoT (S a n : Nat) (v : Nat → Nat → Int32) : (Nat → Int32) × (Nat → Int32) := zit (zgrs a n (v 5) (v 17) (v 16)) S (v 11, v 20)
def zvRo (S a n : Nat) (v : Nat → Nat → Int32) : Nat → Nat → Int32 := uA (uA v 11 (zRoT S a n v).1) 20 (zRoT S a n v).2
noncomputable def zWkT (S a n : Nat) (v : Nat → Nat → Int32) : zW5 := zit (zwk S a n (v 15) (v 16) (v 11) (v 12)) n (v 5, v 8, v 10, v 17, v 18)
noncomputable def zvWk (S a n : Nat) (v : Nat → Nat → Int32) : Nat → Nat → Int32 := uA (uA (uA (uA (uA v 5 (zWkT S a n v).1) 8 (zWkT S a n v).2.1) 10 (zWkT S a n v).2.2.1) 17 (zWkT S a n v).2.2.2.1) 18 (zWkT S a n v).2.2.2.2
def zBuT (S a n l0 h : Nat) (co en da : Nat → Int32) (v : Nat → Nat → Int32) : zB9 := zit (zbn n (zpf S a l0 h (v 7) (v 6) (v 14) (v 15) (v 16) co en da)) S (v 5, v 8, v 9, v 10, v 11, v 17, v 18, v 19, v 21)
def zvB9 (v : Nat → Nat → Int32) : zB9 → Nat → Nat → Int32
  | (st, fu, wm, we, ro, go, pu, pa, sa) => uA (uA (uA (uA (uA (uA (uA (uA (uA v 5 st) 8 fu) 9 wm) 10 we) 11 ro) 17 go) 18 pu) 19 pa) 21 sa
def zvBu (S a n l0 h : Nat) (co en da : Nat → Int32) (v : Nat → Nat → Int32) : Nat → Nat → Int32 := zvB9 v (zBuT S a n l0 h co en da v)
noncomputable def zvWa (S a b : Nat) (wi : Int32) (v : Nat → Nat → Int32) : Nat → Nat → Int32 := uA (uA v 5 (zsr S a b wi (v 5) (v 9))) 9 (zwr S a b wi (v 5) (v 9))
/-- the cells that begin to burn, rising: forgotten, then rung -/
def zfB (n : Nat) (P : Nat → Bool) : Nat → (Nat → Int32) × (Nat → Int32) → (Nat → Int32) × (Nat → Int32)
  | 0, s => s
  | k + 1, s => if P k = true then (fgl n (nI k) (zfB n P k s).1, fgp n (nI k) (zfB n P k s).1 (zfB n P k s).2) else zfB n P k s
def zrB (a n h : Nat) (x1 fi : Int32) (wa wo fu ow me pl co en : Nat → Int32) (P : Nat → Bool) : Nat → (Nat → Int32) → (Nat → Int32)
  | 0, go => go
  | k + 1, go => if P k = true then zpw (zrbW a h x1 fi wa wo fu ow me pl co en k (zrB a n h x1 fi wa wo fu ow me pl co en P k go)) (zrB a n h x1 fi wa wo fu ow me pl co en P k go) n else zrB a n h x1 fi wa wo fu ow me pl co en P k go
theorem zfB_eq {n : Nat} {P : Nat → Bool} {fr : Nat → Int32} {S f : Nat} {s : (Nat → Int32) × (Nat → Int32)} (h : zfs P fr S f) : ∀ i, i ≤ S → zfgA n fr (zc P i) s = zfB n P i s
  | 0, _ => rfl
  | i + 1, hi => by
    have ih := zfB_eq (n := n) (s := s) h i (by omega)
    rw [zc_s]
    unfold zfB
    by_cases hp : P i = true
    · rw [if_pos hp, if_pos hp]
      unfold zfgA
      rw [ih, h.2 i (by omega) hp]
    · rw [if_neg hp, if_neg hp]
      exact ih
theorem zrB_eq {a n h : Nat} {x1 fi : Int32} {wa wo fu ow me pl co en go : Nat → Int32} {P : Nat → Bool} {fr : Nat → Int32} {S f : Nat} (hS : S ≤ 64) (hf : zfs P fr S f) : ∀ i, i ≤ S → zrgA a n h x1 fi wa wo fu ow me pl co en fr (zc P i) go = zrB a n h x1 fi wa wo fu ow me pl co en P i go
  | 0, _ => rfl
  | i + 1, hi => by
    have ih := zrB_eq (a := a) (n := n) (h := h) (x1 := x1) (fi := fi) (wa := wa) (wo := wo) (fu := fu) (ow := ow) (me := me) (pl := pl) (co := co) (en := en) (go := go) hS hf i (by omega)
    rw [zc_s]
    unfold zrB
    by_cases hp : P i = true
    · rw [if_pos hp, if_pos hp]
      unfold zrgA
      rw [ih, hf.2 i (by omega) hp, nI_clamp (by omega)]
    · rw [if_neg hp, if_neg hp]
      exact ih
def zvRi (S a n l0 h : Nat) (co en da : Nat → Int32) (P : Nat → Bool) (v : Nat → Nat → Int32) : Nat → Nat → Int32 := uA (uA v 17 (zrB a n h (fo da (nI (h / 24)) l0 0 (-1)) (zcn (v 5) 1 S) (v 7) (v 6) (v 8) (v 14) (v 15) (v 16) co en P S (zfB n P S (v 17, v 18)).1)) 18 (zfB n P S (v 17, v 18)).2
/-- an hour -/
noncomputable def zvF (S a n l0 h : Nat) (co en da : Nat → Int32) (v : Nat → Nat → Int32) : Nat → Nat → Int32 := zvBu S a n l0 h co en da (zvWk S a n (zvRo S a n (zvGo S a n v)))
noncomputable def zvE (S a b n l0 h : Nat) (wi : Int32) (co en da : Nat → Int32) (v : Nat → Nat → Int32) : Nat → Nat → Int32 := zvRi S a n l0 h co en da (zbr S a b wi (v 5) (v 9)) (zvWa S a b wi v)
noncomputable def zvH (S a b n l0 h : Nat) (wi : Int32) (co en da : Nat → Int32) (v : Nat → Nat → Int32) : Nat → Nat → Int32 := zvE S a b n l0 h wi co en da (zvF S a n l0 h co en da v)
theorem zB9_5 {v : Nat → Nat → Int32} {t : zB9} : zvB9 v t 5 = t.1 ∧ zvB9 v t 8 = t.2.1 ∧ zvB9 v t 9 = t.2.2.1 ∧ zvB9 v t 10 = t.2.2.2.1 ∧ zvB9 v t 11 = t.2.2.2.2.1 ∧ zvB9 v t 17 = t.2.2.2.2.2.1 ∧ zvB9 v t 18 = t.2.2.2.2.2.2.1 ∧ zvB9 v t 19 = t.2.2.2.2.2.2.2.1 ∧ zvB9 v t 21 = t.2.2.2.2.2.2.2.2 := ⟨rfl, rfl, rfl, rfl, rfl, rfl, rfl, rfl, rfl⟩
theorem zB9_0 {v : Nat → Nat → Int32} {t : zB9} (h : zv0 v) : zv0 (zvB9 v t) := zv0_u (zv0_u (zv0_u (zv0_u (zv0_u (zv0_u (zv0_u (zv0_u (zv0_u h rfl) rfl) rfl) rfl) rfl) rfl) rfl) rfl) rfl
/-! THE FULL STATE: the reference's small methods -/
theorem znb_w0 {a b k : Nat} : znb a b k (zwy 0) = if 0 < k / a then nI (k - a) else -1 := rfl
theorem znb_w1 {a b k : Nat} : znb a b k (zwy 1) = if k % a + 1 < a then nI (k + 1) else -1 := rfl
theorem znb_w2 {a b k : Nat} : znb a b k (zwy 2) = if k / a + 1 < b then nI (k + a) else -1 := rfl
theorem znb_w3 {a b k : Nat} : znb a b k (zwy 3) = if 0 < k % a then nI (k - 1) else -1 := rfl
theorem zfar_r {S a b k1 k2 : Nat} (hW : Wd S a b) (h1 : k1 < S) (h2 : k2 < S) : ((if 0 ≤ (nI (k1 % a) - nI (k2 % a)) then (nI (k1 % a) - nI (k2 % a)) else 0 - (nI (k1 % a) - nI (k2 % a))) + (if 0 ≤ (nI (k1 / a) - nI (k2 / a)) then (nI (k1 / a) - nI (k2 / a)) else 0 - (nI (k1 / a) - nI (k2 / a)))) = nI (zds a k1 k2) := by
  obtain ⟨ha1, ha8, hb1, hb8, hab, hS1, hS⟩ := hW
  have e1 := Nat.mod_lt k1 (show a > 0 by omega)
  have e2 := Nat.mod_lt k2 (show a > 0 by omega)
  have e3 := Nat.div_le_self k1 a
  have e4 := Nat.div_le_self k2 a
  rw [za_1 (by omega) (by omega), za_1 (by omega) (by omega), nI_add]
  rfl
theorem zcn_0 {f : Nat → Int32} {w y : Int32} {i : Nat} (h : y = zcn f w i) (q : ¬ f i = w) : y + 0 = zcn f w (i + 1) := by
  rw [Int32.add_zero]
  exact zcn_n h q
/-- what two numbers are joined to, in the reference -/
def ztw (c x y : Int32) : Int32 := if c = 1 then x + y else if c = 2 then x - y else if c = 3 then x * y else if c = 4 then (if x < y then 1 else 0) else if c = 5 then (if x = y then 1 else 0) else if c = 6 then (if ¬ x = 0 ∧ ¬ y = 0 then 1 else 0) else (if ¬ x = 0 ∨ ¬ y = 0 then 1 else 0)
theorem ztw_d {c x y : Int32} (h1 : ¬ c = 1) (h2 : ¬ c = 2) (h3 : ¬ c = 3) (h4 : ¬ c = 4) (h5 : ¬ c = 5) (h6 : ¬ c = 6) : ztw c x y = if ¬ x = 0 ∨ ¬ y = 0 then 1 else 0 := by
  unfold ztw
  rw [if_neg h1, if_neg h2, if_neg h3, if_neg h4, if_neg h5, if_neg h6]
theorem ztw_4 {x y : Int32} : ztw 4 x y = if x < y then 1 else 0 := rfl
theorem ztw_5 {x y : Int32} : ztw 5 x y = if x = y then 1 else 0 := rfl
theorem ztw_6 {x y : Int32} : ztw 6 x y = if ¬ x = 0 ∧ ¬ y = 0 then 1 else 0 := rfl
def zvl (x v0 v1 v2 v3 v4 v5 v6 v7 : Int32) : Int32 := if x = 0 then v0 else if x = 1 then v1 else if x = 2 then v2 else if x = 3 then v3 else if x = 4 then v4 else if x = 5 then v5 else if x = 6 then v6 else v7
theorem zvl_d {x v0 v1 v2 v3 v4 v5 v6 v7 : Int32} (h0 : ¬ x = 0) (h1 : ¬ x = 1) (h2 : ¬ x = 2) (h3 : ¬ x = 3) (h4 : ¬ x = 4) (h5 : ¬ x = 5) (h6 : ¬ x = 6) : zvl x v0 v1 v2 v3 v4 v5 v6 v7 = v7 := by
  unfold zvl
  rw [if_neg h0, if_neg h1, if_neg h2, if_neg h3, if_neg h4, if_neg h5, if_neg h6]
theorem zvl_k {a : Nat} {wa wo fu ow me pl : Nat → Int32} {h : Nat} {fi : Int32} {c k : Nat} : ∀ i, i < 8 → zvl (nI i) (wa k) (wo k) (fu k) (ow c) (me c) (nI (zds a (pl c).toNatClampNeg k)) (nI (h % 24)) fi = zkw a wa wo fu ow me pl h fi c k i
  | 0, _ => rfl
  | 1, _ => rfl
  | 2, _ => rfl
  | 3, _ => rfl
  | 4, _ => rfl
  | 5, _ => rfl
  | 6, _ => rfl
  | 7, _ => rfl
  | n + 8, h => absurd h (by omega)
/-- goals once who pulls, or doesn't, at x has none -/
def zng (n : Nat) (x p : Int32) (go pu : Nat → Int32) : Nat → Int32 := fun c => if c < n ∧ go c = x ∧ pu c = p then -1 else go c
theorem zng_0 {x p : Int32} {go pu : Nat → Int32} : go = zng 0 x p go pu := funext fun c => (if_neg (fun w => absurd w.1 (Nat.not_lt_zero c))).symm
theorem zng_at {i : Nat} {x p : Int32} {go pu g : Nat → Int32} (h : g = zng i x p go pu) : g i = go i := by
  subst h
  exact if_neg (fun w => Nat.lt_irrefl _ w.1)
theorem zng_y {i : Nat} {x p : Int32} {go pu g : Nat → Int32} (h : g = zng i x p go pu) (q : g i = x) (r : pu i = p) : upd g i (-1) = zng (i + 1) x p go pu := by
  have := zng_at h
  subst h
  funext k
  unfold upd zng
  grind
theorem zng_n {i : Nat} {x p : Int32} {go pu g : Nat → Int32} (h : g = zng i x p go pu) (q : ¬ (g i = x ∧ pu i = p)) : g = zng (i + 1) x p go pu := by
  have := zng_at h
  rw [this] at q
  subst h
  funext k
  unfold zng
  grind
/-- the reference's search -/
def zD0 (a g : Nat) (st : Nat → Int32) (j : Nat) : Nat := if ¬ j = g ∧ ¬ st j = 1 ∧ zds a j g = 1 then 0 else 1000
def ZRr (S a b g : Nat) (st : Nat → Int32) (d k w : Nat) (E : Nat → Int32) : Prop := ∃ D : Nat → Nat, (∀ j, j < S → E j = nI (D j)) ∧ ZR S a b g st D d k w
theorem zrr_0 {S a b g i : Nat} {st E : Nat → Int32} (h : ∀ j, j < i → E j = nI (zD0 a g st j)) (e : i = S) : ZRr S a b g st 0 0 0 E := by
  subst e
  refine ⟨zD0 a g st, h, ZR_0 fun k hk => ?_⟩
  unfold zD0
  by_cases w : ¬ k = g ∧ ¬ st k = 1 ∧ zds a k g = 1
  · exact Or.inl ⟨w, if_pos w⟩
  · exact Or.inr ⟨w, if_neg w⟩
theorem zr0_s {a g i : Nat} {st E : Nat → Int32} {v : Int32} (h : ∀ j, j < i → E j = nI (zD0 a g st j)) (e : v = nI (zD0 a g st i)) : ∀ j, j < i + 1 → upd E i v j = nI (zD0 a g st j) := by
  intro j hj
  unfold upd
  split
  · rename_i w
    rw [w, e]
  · exact h j (by omega)
theorem zr0_y {a g i : Nat} {st : Nat → Int32} (h1 : ¬ i = g) (h2 : ¬ st i = 1) (h3 : zds a i g = 1) : (0 : Int32) = nI (zD0 a g st i) := by
  unfold zD0
  rw [if_pos ⟨h1, h2, h3⟩]
  rfl
theorem zr0_n {a g i : Nat} {st : Nat → Int32} (h : ¬ (¬ i = g ∧ ¬ st i = 1 ∧ zds a i g = 1)) : (1000 : Int32) = nI (zD0 a g st i) := by
  unfold zD0
  rw [if_neg h]
  rfl
theorem zrr_d {S a b g d k w j : Nat} {st E : Nat → Int32} (h : ZRr S a b g st d k w E) (hj : j < S) : ∃ e : Nat, e < 1001 ∧ E j = nI e := by
  obtain ⟨D, h1, h2⟩ := h
  exact ⟨D j, by have := h2.2.2.2.2.2.2 j hj; omega, h1 j hj⟩
theorem zrr_p {S a b g d k w x : Nat} {st E : Nat → Int32} (hW : Wd S a b) (h : ZRr S a b g st d k w E) (hd : d < S) (hk : k < S) (hw : w < 4) (hD : E k = nI d) (hx : znb a b k (zwy w) = nI x) (hxS : x < S) (h1 : ¬ x = g) (h2 : ¬ st x = 1) (h3 : E x = 1000) : ZRr S a b g st d k (w + 1) (upd E x (nI (d + 1))) := by
  obtain ⟨ha1, ha8, hb1, hb8, hab, hS1, hS⟩ := id hW
  obtain ⟨D, e, r⟩ := h
  have m := r.2.2.2.2.2.2
  have d1 : D k = d := (nI_eq (by have := m k hk; omega) (by omega)).mp ((e k hk).symm.trans hD)
  have d2 : D x = 1000 := (nI_eq (b := 1000) (by have := m x hxS; omega) (by omega)).mp ((e x hxS).symm.trans h3)
  rw [znb_nn (S := S) ha1 ha8 hk hS] at hx
  have hx := (zI_eq (show x < 1000 by omega)).mp hx
  refine ⟨fun j => if j = x then d + 1 else D j, fun j hj => ?_, ZR_put ha1 ha8 hab hS r hd hk hw d1 hx hxS h1 h2 d2⟩
  show upd E x (nI (d + 1)) j = nI (if j = x then d + 1 else D j)
  by_cases w : j = x
  · rw [if_pos w]
    exact if_pos w
  · rw [if_neg w]
    exact (if_neg w).trans (e j hj)
theorem zrr_s {S a b g d k w : Nat} {st E : Nat → Int32} (hW : Wd S a b) (h : ZRr S a b g st d k w E) (hd : d < S) (hk : k < S) (hD : E k = nI d) (hx : ∀ x : Nat, x < S → znb a b k (zwy w) = nI x → ¬ x = g → ¬ st x = 1 → E x = 1000 → False) : ZRr S a b g st d k (w + 1) E := by
  obtain ⟨ha1, ha8, hb1, hb8, hab, hS1, hS⟩ := id hW
  obtain ⟨D, e, r⟩ := h
  have m := r.2.2.2.2.2.2
  have d1 : D k = d := (nI_eq (by have := m k hk; omega) (by omega)).mp ((e k hk).symm.trans hD)
  refine ⟨D, e, ZR_skip r hk d1 fun v => ?_⟩
  refine hx _ v.1 ?_ v.2.1 v.2.2.1 ?_
  · rw [znb_nn (S := S) ha1 ha8 hk hS, zI_n (by omega)]
  · rw [e _ v.1, v.2.2.2]
    rfl
theorem zrr_c {S a b g d k : Nat} {st E : Nat → Int32} (h : ZRr S a b g st d k 4 E) : ZRr S a b g st d (k + 1) 0 E := by
  obtain ⟨D, e, r⟩ := h
  exact ⟨D, e, ZR_cell r⟩
theorem zrr_n {S a b g d k : Nat} {st E : Nat → Int32} (hS : S ≤ 64) (h : ZRr S a b g st d k 0 E) (hd : d < S) (hk : k < S) (q : ¬ E k = nI d) : ZRr S a b g st d (k + 1) 0 E := by
  obtain ⟨D, e, r⟩ := h
  exact ⟨D, e, ZR_pass r fun w => q (by rw [e k hk, w])⟩
theorem zrr_r {S a b g d : Nat} {st E : Nat → Int32} (h : ZRr S a b g st d S 0 E) : ZRr S a b g st (d + 1) 0 0 E := by
  obtain ⟨D, e, r⟩ := h
  exact ⟨D, e, ZR_round r⟩
theorem zrr_e {S a b g d : Nat} {st E : Nat → Int32} (hW : Wd S a b) (h : ZRr S a b g st d 0 0 E) (hd : d = S) : ZW S a g st E ∧ ∀ k, k < S → rl (E k) 1001 := by
  obtain ⟨ha1, ha8, hb1, hb8, hab, hS1, hS⟩ := id hW
  subst hd
  refine ⟨?_, fun k hk => zrr_d h hk⟩
  obtain ⟨D, e, r⟩ := h
  exact ZR_end ha1 ha8 hab hS r e
theorem upd_id {f : Nat → Int32} {i : Nat} : f = upd f i (f i) := funext fun k => by
  unfold upd
  split
  · rename_i w
    rw [w]
  · rfl
/-! THE FULL STATE: the reference's phases -/
def ZTM (S a b p : Nat) (D : Nat → Int32) (s : Nat) (y : Int32) : Prop := (y = -1 ∧ ZN S a b p D zwy s) ∨ ∃ n d : Nat, n < S ∧ y = nI n ∧ ZT S a b p D zwy s n d
theorem ztm_no {S a b p s : Nat} {D : Nat → Int32} {y : Int32} (h : ZTM S a b p D s y) (w : ∀ c e : Nat, znb a b p (zwy s) = nI c → ¬ ZC S a p D c e) : ZTM S a b p D (s + 1) y := by
  rcases h with ⟨h1, h2⟩ | ⟨n, d, h1, h2, h3⟩
  · exact Or.inl ⟨h1, ZN_no h2 w⟩
  · exact Or.inr ⟨n, d, h1, h2, ZT_no h3 w⟩
theorem zm_n1 {S a b p s : Nat} {D : Nat → Int32} (hS : S ≤ 64) (e : -1 = znb a b p (zwy s)) : ∀ c d : Nat, znb a b p (zwy s) = nI c → ¬ ZC S a p D c d := fun c d h w => nI_neg (n := c) (by have := w.1; omega) (by decide) (h.symm.trans e.symm)
theorem zm_n2 {S a b p g s n : Nat} {st D : Nat → Int32} (hS : S ≤ 64) (hD : ZW S a g st D) (hn : n < S) (e : nI n = znb a b p (zwy s)) (q : ¬ (¬ n = g ∧ ¬ st n = 1)) : ∀ c d : Nat, znb a b p (zwy s) = nI c → ¬ ZC S a p D c d := fun c d h w => by
  obtain rfl : n = c := (nI_eq (by omega) (by have := w.1; omega)).mp (e.trans h)
  exact q (hD.1 n d hn w.2.1 w.2.2.2)
theorem zm_n3 {S a b p s n m : Nat} {D : Nat → Int32} (hS : S ≤ 64) (hn : n < S) (e : nI n = znb a b p (zwy s)) (q : D n = nI m) (hm : m = 1000) : ∀ c d : Nat, znb a b p (zwy s) = nI c → ¬ ZC S a p D c d := fun c d h w => by
  obtain rfl : n = c := (nI_eq (by omega) (by have := w.1; omega)).mp (e.trans h)
  have h1 := w.2.1
  have := (nI_eq (by omega) (by omega)).mp (q.symm.trans w.2.2.2)
  omega
theorem zm_c {S a b p s n m : Nat} {D : Nat → Int32} (hW : Wd S a b) (hp : p < S) (hn : n < S) (e : nI n = znb a b p (zwy s)) (q : D n = nI m) (hm : m < 1000) : ZC S a p D n m := by
  obtain ⟨ha1, ha8, hb1, hb8, hab, hS1, hS⟩ := hW
  exact ⟨hn, hm, (znb_ds ha1 hab hS hp (by omega) zwy_lt e.symm).2, q⟩
theorem ztm_y {S a b p s n m : Nat} {D : Nat → Int32} (hS : S ≤ 64) (h : ZTM S a b p D s (-1)) (e : nI n = znb a b p (zwy s)) (c : ZC S a p D n m) : ZTM S a b p D (s + 1) (nI n) := by
  rcases h with ⟨_, h2⟩ | ⟨n', d, h1, h2, h3⟩
  · exact Or.inr ⟨n, m, c.1, rfl, ZN_yes hS h2 e.symm c⟩
  · exact absurd h2.symm (nI_neg (n := n') (by omega) (by decide))
theorem ztm_d {S a b p s y k : Nat} {D : Nat → Int32} (hS : S ≤ 64) (hy : y < S) (h : ZTM S a b p D s (nI y)) (e : D y = nI k) (hk : k < 1001) : ZT S a b p D zwy s y k := by
  rcases h with ⟨h1, _⟩ | ⟨n', d, h1, h2, h3⟩
  · exact absurd h1 (nI_neg (n := y) (by omega) (by decide))
  · obtain rfl : y = n' := (nI_eq (by omega) (by omega)).mp h2
    have := h3.2.1.2.1
    obtain rfl : k = d := (nI_eq (by omega) (by omega)).mp (e.symm.trans h3.2.1.2.2.2)
    exact h3
theorem ztm_n {S a b p s y k n m : Nat} {D : Nat → Int32} (hS : S ≤ 64) (hy : y < S) (h : ZTM S a b p D s (nI y)) (ey : D y = nI k) (hk : k < 1001) (e : nI n = znb a b p (zwy s)) (c : ZC S a p D n m) (l : m < k ∨ (m = k ∧ n < y)) : ZTM S a b p D (s + 1) (nI n) := Or.inr ⟨n, m, c.1, rfl, ZT_new hS (ztm_d hS hy h ey hk) e.symm c l⟩
theorem ztm_o {S a b p s y k n m : Nat} {D : Nat → Int32} (hS : S ≤ 64) (hy : y < S) (h : ZTM S a b p D s (nI y)) (ey : D y = nI k) (hk : k < 1001) (e : nI n = znb a b p (zwy s)) (c : ZC S a p D n m) (l : k < m ∨ (k = m ∧ y ≤ n)) : ZTM S a b p D (s + 1) (nI y) := Or.inr ⟨y, k, hy, rfl, ZT_old hS (ztm_d hS hy h ey hk) e.symm c l⟩
theorem ztm_e {S a b p g : Nat} {st D : Nat → Int32} {y : Int32} (hW : Wd S a b) (hp : p < S) (hD : ZW S a g st D) (h : ZTM S a b p D 4 y) : (y = -1 ∧ zgo S a g st p = p) ∨ (¬ y = -1 ∧ y = nI (zgo S a g st p)) := by
  obtain ⟨ha1, ha8, hb1, hb8, hab, hS1, hS⟩ := id hW
  rcases h with ⟨h1, h2⟩ | ⟨n, d, h1, h2, h3⟩
  · exact Or.inl ⟨h1, zgo_eq (ZN_end ha1 hab hp (fun s hs => zwy_on hs) hD h2)⟩
  · refine Or.inr ⟨fun w => nI_neg (n := n) (by omega) (by decide) (h2.symm.trans w), ?_⟩
    rw [h2, zgo_eq (ZT_end ha1 hab hp (fun s hs => zwy_on hs) hD h3)]
theorem zgo_a {S a b k g p : Nat} {st go pl D f : Nat → Int32} (hW : Wd S a b) (hg : g < S) (hp : p < S) (e1 : go k = nI g) (e2 : pl k = nI p) (hd : ¬ zds a p g = 1) (hD : ZW S a g st D) (h : ZTM S a b p D 4 (-1)) (ef : f = pl) : f = upd pl k (zgoW S a st go pl k) := by
  have hS : S ≤ 64 := hW.2.2.2.2.2.2
  rcases ztm_e hW hp hD h with ⟨_, h2⟩ | ⟨h1, _⟩
  · rw [← zgw_2 e1 e2 (by omega) (by omega) hd, h2, ← e2, ef]
    exact upd_id
  · exact absurd rfl h1
theorem zgo_b {S a b k g p y : Nat} {st go pl D f : Nat → Int32} (hW : Wd S a b) (hg : g < S) (hp : p < S) (hy : y < S) (e1 : go k = nI g) (e2 : pl k = nI p) (hd : ¬ zds a p g = 1) (hD : ZW S a g st D) (h : ZTM S a b p D 4 (nI y)) (ef : f = pl) : upd f k (nI y) = upd pl k (zgoW S a st go pl k) := by
  have hS : S ≤ 64 := hW.2.2.2.2.2.2
  rcases ztm_e hW hp hD h with ⟨h1, _⟩ | ⟨_, h2⟩
  · exact absurd h1 (nI_neg (n := y) (by omega) (by decide))
  · rw [← zgw_2 e1 e2 (by omega) (by omega) hd, ← h2, ef]
/-- the roof of cell k in the reference: roofs, quarrels, all quarrels -/
abbrev zR3 : Type := (Nat → Int32) × (Nat → Int32) × Int32
def zgR (a k : Nat) (go pl pu : Nat → Int32) (c : Nat) (s : zR3) : zR3 := if go c = nI k ∧ pu c = 0 ∧ zds a (pl c).toNatClampNeg k = 1 then (if s.1 k = -1 then (upd s.1 k (nI c), s.2.1, s.2.2) else (s.1, upd s.2.1 c (s.2.1 c + 1), s.2.2 + 1)) else s
def zgRs (a n : Nat) (st go pl pu : Nat → Int32) (k : Nat) (s : zR3) : zR3 := if st k = 1 ∧ s.1 k = -1 then zit (zgR a k go pl pu) n s else s
theorem zgR_0 {a k c : Nat} {go pl pu ro qu : Nat → Int32} {t : Int32} (h : ¬ (go c = nI k ∧ pu c = 0 ∧ zds a (pl c).toNatClampNeg k = 1)) : (ro, qu, t) = zgR a k go pl pu c (ro, qu, t) := (if_neg h).symm
theorem zgR_d {a k c m : Nat} {go pl pu : Nat → Int32} (hp : pl c = nI m) (hm : m < 64) (hd : ¬ zds a m k = 1) : ¬ (go c = nI k ∧ pu c = 0 ∧ zds a (pl c).toNatClampNeg k = 1) := fun w => hd (by have := w.2.2; rw [hp, nI_clamp (by omega)] at this; exact this)
theorem zgR_1 {a k c m : Nat} {go pl pu ro qu : Nat → Int32} {t : Int32} (hc : go c = nI k) (hu : pu c = 0) (hp : pl c = nI m) (hm : m < 64) (hd : zds a m k = 1) (q : ro k = -1) : (upd ro k (nI c), qu, t) = zgR a k go pl pu c (ro, qu, t) := by
  unfold zgR
  rw [if_pos ⟨hc, hu, by rw [hp, nI_clamp (by omega)]; exact hd⟩]
  exact (if_pos q).symm
theorem zgR_2 {a k c m : Nat} {go pl pu ro qu : Nat → Int32} {t : Int32} (hc : go c = nI k) (hu : pu c = 0) (hp : pl c = nI m) (hm : m < 64) (hd : zds a m k = 1) (q : ¬ ro k = -1) : (ro, upd qu c (qu c + 1), t + 1) = zgR a k go pl pu c (ro, qu, t) := by
  unfold zgR
  rw [if_pos ⟨hc, hu, by rw [hp, nI_clamp (by omega)]; exact hd⟩]
  exact (if_neg q).symm
theorem zgRs_n {a n k : Nat} {st go pl pu ro qu : Nat → Int32} {t : Int32} (h : ¬ (st k = 1 ∧ ro k = -1)) : (ro, qu, t) = zgRs a n st go pl pu k (ro, qu, t) := (if_neg h).symm
theorem zgRs_y {a n k : Nat} {st go pl pu ro qu : Nat → Int32} {t : Int32} {u : zR3} (h : st k = 1) (q : ro k = -1) (e : u = zit (zgR a k go pl pu) n (ro, qu, t)) : u = zgRs a n st go pl pu k (ro, qu, t) := by
  unfold zgRs
  rw [if_pos ⟨h, q⟩, e]
/-- the work in the reference: states, fuel, wet, goals -/
abbrev zW4 : Type := (Nat → Int32) × (Nat → Int32) × (Nat → Int32) × (Nat → Int32)
def zpR (n g : Nat) (m : Int32) (pu : Nat → Int32) : zW4 → zW4
  | (st, fu, we, go) => if fu g - m < 1 then (upd st g 3, upd (upd fu g (fu g - m)) g 0, we, zng n (nI g) 1 go pu) else (st, upd fu g (fu g - m), we, go)
noncomputable def zwR (S a n : Nat) (me pl ro du pu : Nat → Int32) (c : Nat) : zW4 → zW4
  | (st, fu, we, go) => if go c = -1 ∨ ¬ zds a (pl c).toNatClampNeg (go c).toNatClampNeg = 1 then (st, fu, we, go) else if ¬ pu c = 0 then zpR n (go c).toNatClampNeg (me c) pu (st, fu, we, go) else if ro (go c).toNatClampNeg = nI c then (st, fu, upd we (go c).toNatClampNeg (we (go c).toNatClampNeg + zwt S a du (pl c).toNatClampNeg * me c), go) else (st, fu, we, go)
theorem zwR_0 {S a n c : Nat} {me pl ro du pu st fu we go : Nat → Int32} (h : go c = -1) : (st, fu, we, go) = zwR S a n me pl ro du pu c (st, fu, we, go) := (if_pos (Or.inl h)).symm
theorem zwR_1 {S a n c g m : Nat} {me pl ro du pu st fu we go : Nat → Int32} (h : go c = nI g) (hp : pl c = nI m) (hg : g < 64) (hm : m < 64) (hd : ¬ zds a m g = 1) : (st, fu, we, go) = zwR S a n me pl ro du pu c (st, fu, we, go) := (if_pos (Or.inr (show ¬ zds a (pl c).toNatClampNeg (go c).toNatClampNeg = 1 by rw [h, hp, nI_clamp (by omega), nI_clamp (by omega)]; exact hd))).symm
theorem zwR_x {S a n c g m : Nat} {me pl ro du pu st fu we go : Nat → Int32} (h : go c = nI g) (hp : pl c = nI m) (hg : g < 64) (hm : m < 64) (hd : zds a m g = 1) : zwR S a n me pl ro du pu c (st, fu, we, go) = if ¬ pu c = 0 then zpR n g (me c) pu (st, fu, we, go) else if ro g = nI c then (st, fu, upd we g (we g + zwt S a du m * me c), go) else (st, fu, we, go) := by
  have e1 : (go c).toNatClampNeg = g := by rw [h, nI_clamp (by omega)]
  have e2 : (pl c).toNatClampNeg = m := by rw [hp, nI_clamp (by omega)]
  unfold zwR
  dsimp only
  rw [if_neg]
  · simp only [e1, e2]
  · rintro (w | w)
    · exact nI_neg (n := g) (by omega) (by decide) (h.symm.trans w)
    · rw [e1, e2] at w
      exact w hd
theorem zwR_n {S a n c g m : Nat} {me pl ro du pu st fu we go : Nat → Int32} (h : go c = nI g) (hp : pl c = nI m) (hg : g < 64) (hm : m < 64) (hd : zds a m g = 1) (q : pu c = 0) (r : ¬ ro g = nI c) : (st, fu, we, go) = zwR S a n me pl ro du pu c (st, fu, we, go) := by
  rw [zwR_x h hp hg hm hd, if_neg (fun w => w q), if_neg r]
theorem zwR_w {S a n c g m : Nat} {me pl ro du pu st fu we go : Nat → Int32} (h : go c = nI g) (hp : pl c = nI m) (hg : g < 64) (hm : m < 64) (hd : zds a m g = 1) (q : pu c = 0) (r : ro g = nI c) (w : zwl S a du m) : (st, fu, upd we g (we g + 2 * me c), go) = zwR S a n me pl ro du pu c (st, fu, we, go) := by
  rw [zwR_x h hp hg hm hd, if_neg (fun w => w q), if_pos r, show zwt S a du m = 2 from if_pos w]
theorem zwR_v {S a n c g m : Nat} {me pl ro du pu st fu we go : Nat → Int32} (h : go c = nI g) (hp : pl c = nI m) (hg : g < 64) (hm : m < 64) (hd : zds a m g = 1) (q : pu c = 0) (r : ro g = nI c) (w : ¬ zwl S a du m) : (st, fu, upd we g (we g + me c), go) = zwR S a n me pl ro du pu c (st, fu, we, go) := by
  rw [zwR_x h hp hg hm hd, if_neg (fun w => w q), if_pos r, show zwt S a du m = 1 from if_neg w, Int32.one_mul]
theorem zwR_p {S a n c g m : Nat} {me pl ro du pu st fu we go : Nat → Int32} (h : go c = nI g) (hp : pl c = nI m) (hg : g < 64) (hm : m < 64) (hd : zds a m g = 1) (q : ¬ pu c = 0) (l : upd fu g (fu g - me c) g < 1) : (upd st g 3, upd (upd fu g (fu g - me c)) g 0, we, zng n (nI g) 1 go pu) = zwR S a n me pl ro du pu c (st, fu, we, go) := by
  have e : fu g - me c < 1 := by
    unfold upd at l
    rw [if_pos rfl] at l
    exact l
  rw [zwR_x h hp hg hm hd, if_pos q]
  exact (if_pos e).symm
theorem zwR_q {S a n c g m : Nat} {me pl ro du pu st fu we go : Nat → Int32} (h : go c = nI g) (hp : pl c = nI m) (hg : g < 64) (hm : m < 64) (hd : zds a m g = 1) (q : ¬ pu c = 0) (l : ¬ upd fu g (fu g - me c) g < 1) : (st, upd fu g (fu g - me c), we, go) = zwR S a n me pl ro du pu c (st, fu, we, go) := by
  have e : ¬ fu g - me c < 1 := by
    unfold upd at l
    rw [if_pos rfl] at l
    exact l
  rw [zwR_x h hp hg hm hd, if_pos q]
  exact (if_neg e).symm
/-- the heat, in the reference's order of sides -/
noncomputable def zhr (S a b : Nat) (wi : Int32) (st : Nat → Int32) (k : Nat) : Nat → Int32
  | 0 => 0
  | s + 1 => @ite _ (zbu S st (znb a b k (zwy s))) (Classical.propDecidable _) (if wi = zwf (zwy s) then zhr S a b wi st k s + 4 else zhr S a b wi st k s + 2) (zhr S a b wi st k s)
noncomputable def zh1 (S a b : Nat) (wi : Int32) (st : Nat → Int32) (k s : Nat) : Int32 := @ite _ (zbu S st (znb a b k s)) (Classical.propDecidable _) (if wi = zwf s then 4 else 2) 0
theorem zhr_s {S a b k s : Nat} {wi : Int32} {st : Nat → Int32} : zhr S a b wi st k (s + 1) = zhr S a b wi st k s + zh1 S a b wi st k (zwy s) := by
  have e : zhr S a b wi st k (s + 1) = @ite _ (zbu S st (znb a b k (zwy s))) (Classical.propDecidable _) (if wi = zwf (zwy s) then zhr S a b wi st k s + 4 else zhr S a b wi st k s + 2) (zhr S a b wi st k s) := rfl
  rw [e]
  generalize zhr S a b wi st k s = y
  unfold zh1
  by_cases q : zbu S st (znb a b k (zwy s))
  · rw [if_pos q, if_pos q]
    split <;> rfl
  · rw [if_neg q, if_neg q, Int32.add_zero]
theorem zht_s {S a b k s : Nat} {wi : Int32} {st : Nat → Int32} : zht S wi st (znb a b k) (s + 1) = zht S wi st (znb a b k) s + zh1 S a b wi st k s := by
  have e : zht S wi st (znb a b k) (s + 1) = @ite _ (zbu S st (znb a b k s)) (Classical.propDecidable _) (if wi = zwf s then zht S wi st (znb a b k) s + 4 else zht S wi st (znb a b k) s + 2) (zht S wi st (znb a b k) s) := rfl
  rw [e]
  generalize zht S wi st (znb a b k) s = y
  unfold zh1
  by_cases q : zbu S st (znb a b k s)
  · rw [if_pos q, if_pos q]
    split <;> rfl
  · rw [if_neg q, if_neg q, Int32.add_zero]
theorem zhr_eq {S a b k : Nat} {wi : Int32} {st : Nat → Int32} : zhr S a b wi st k 4 = zht S wi st (znb a b k) 4 := by
  rw [zhr_s, zhr_s, zhr_s, zhr_s, zht_s, zht_s, zht_s, zht_s]
  show (((0 + zh1 S a b wi st k 0) + zh1 S a b wi st k 2) + zh1 S a b wi st k 3) + zh1 S a b wi st k 1 = (((0 + zh1 S a b wi st k 0) + zh1 S a b wi st k 1) + zh1 S a b wi st k 2) + zh1 S a b wi st k 3
  generalize zh1 S a b wi st k 0 = x0
  generalize zh1 S a b wi st k 1 = x1
  generalize zh1 S a b wi st k 2 = x2
  generalize zh1 S a b wi st k 3 = x3
  grind
theorem zhr_n {S a b k s : Nat} {wi x v : Int32} {st : Nat → Int32} (h : v = x + zhr S a b wi st k s) (q : ¬ zbu S st (znb a b k (zwy s))) : v = x + zhr S a b wi st k (s + 1) := by
  rw [h, zhr_s]
  unfold zh1
  rw [if_neg q, Int32.add_zero]
theorem zhr_4 {S a b k s : Nat} {wi x v : Int32} {st : Nat → Int32} (h : v = x + zhr S a b wi st k s) (q : zbu S st (znb a b k (zwy s))) (w : wi = zwf (zwy s)) : v + 2 + 2 = x + zhr S a b wi st k (s + 1) := by
  rw [h, zhr_s]
  unfold zh1
  rw [if_pos q, if_pos w]
  grind
theorem zhr_2 {S a b k s : Nat} {wi x v : Int32} {st : Nat → Int32} (h : v = x + zhr S a b wi st k s) (q : zbu S st (znb a b k (zwy s))) (w : ¬ wi = zwf (zwy s)) : v + 2 = x + zhr S a b wi st k (s + 1) := by
  rw [h, zhr_s]
  unfold zh1
  rw [if_pos q, if_neg w]
  grind
theorem zwf_w {w : Nat} (h : w < 4) : zwf (zwy w) = if w < 2 then nI (w + 2 + 1) else nI (w - 2 + 1) := by
  have : w = 0 ∨ w = 1 ∨ w = 2 ∨ w = 3 := by omega
  rcases this with rfl | rfl | rfl | rfl <;> rfl
theorem zbu_e {S n : Nat} {st : Nat → Int32} {x : Int32} (hn : n < S) (e : nI n = x) (q : st n = 1) : zbu S st x := e ▸ zbu_y hn q
theorem zbu_f {S n : Nat} {st : Nat → Int32} {x : Int32} (hS : S ≤ 64) (hn : n < S) (e : nI n = x) (q : ¬ st n = 1) : ¬ zbu S st x := e ▸ zbu_n hn hS q
theorem zbu_m {S : Nat} {st : Nat → Int32} {x : Int32} (hS : S ≤ 64) (e : -1 = x) : ¬ zbu S st x := fun ⟨m, h1, h2, _⟩ => nI_neg (n := m) (by omega) (by decide) (h2.symm.trans e.symm)
theorem zal_u {P : Nat → Int32 → Prop} {f : Nat → Int32} {i : Nat} {v : Int32} (h : ∀ j, j < i → P j (f j)) (hv : P i v) : ∀ j, j < i + 1 → P j (upd f i v j) := by
  intro j hj
  unfold upd
  split
  · rename_i w
    rw [w]
    exact hv
  · exact h j (by omega)
theorem zal_v {P : Nat → Int32 → Prop} {f : Nat → Int32} {i : Nat} {v : Int32} (h : ∀ j, j < i → P j (f j)) : ∀ j, j < i → P j (upd f i v j) := by
  intro j hj
  unfold upd
  rw [if_neg (by omega)]
  exact h j hj
theorem zwm_n {S a b k : Nat} {wi : Int32} {st wm : Nat → Int32} (h : ¬ st k = 0) : wm k = zwm S a b wi st wm k := (if_neg h).symm
theorem zwm_y {S a b k : Nat} {wi v : Int32} {st wm : Nat → Int32} (h : st k = 0) (e : v = wm k + zhr S a b wi st k 4) : (if 0 < (v - 1) then (v - 1) else 0) = zwm S a b wi st wm k := by
  unfold zwm
  rw [if_pos h, e, zhr_eq]
def zbI (P : Nat → Bool) (k : Nat) : Int32 := if P k = true then 1 else 0
theorem zbI_y {P : Nat → Bool} {k : Nat} (h : P k = true) : (1 : Int32) = zbI P k := (if_pos h).symm
theorem zbI_n {P : Nat → Bool} {k : Nat} (h : P k = false) : (0 : Int32) = zbI P k := (if_neg (by rw [h]; decide)).symm
theorem zwr_at {S a b k : Nat} {wi : Int32} {st wm : Nat → Int32} (h : k < S) : zwr S a b wi st wm k = zwm S a b wi st wm k := if_pos h
theorem zsb_n {st wm : Nat → Int32} {k : Nat} (h : zbI (zbg st wm) k = 0) : st k = zst st wm k := by
  unfold zbI at h
  unfold zst
  by_cases w : zbg st wm k = true
  · rw [if_pos w] at h
    cases h
  · rw [if_neg w]
theorem zsb_y {st wm : Nat → Int32} {k : Nat} (h : ¬ zbI (zbg st wm) k = 0) : (1 : Int32) = zst st wm k := by
  unfold zbI at h
  unfold zst
  by_cases w : zbg st wm k = true
  · rw [if_pos w]
  · rw [if_neg w] at h
    exact absurd rfl h
/-! THE FULL STATE: the reference's laws, run -/
def zto (kn : Int32 → Int32) (C : Nat → Int32) : Nat → Nat → Nat → (Nat → Int32) × Nat → (Nat → Int32) × Nat
  | 0, _, _, s => s
  | m + 1, i, t, s => if i < t then (if C i = 0 then zto kn C m (i + 2) t (upd s.1 s.2 (C (i + 1)), s.2 + 1) else if 20 ≤ C i then zto kn C m (i + 1) t (upd s.1 s.2 (kn (C i - 20)), s.2 + 1) else if C i = 8 then zto kn C m (i + 1) t (upd s.1 (s.2 - 1) (if s.1 (s.2 - 1) = 0 then 1 else 0), s.2) else zto kn C m (i + 1) t (upd s.1 (s.2 - 1 - 1) (ztw (C i) (s.1 (s.2 - 1 - 1)) (s.1 (s.2 - 1))), s.2 - 1)) else s
theorem zto_e {kn : Int32 → Int32} {C : Nat → Int32} {m i t : Nat} {s : (Nat → Int32) × Nat} (h : t ≤ i) : zto kn C m i t s = s := by
  cases m with
  | zero => rfl
  | succ m => exact if_neg (by omega)
theorem zto_0 {kn : Int32 → Int32} {C st : Nat → Int32} {m i t top : Nat} {R : (Nat → Int32) × Nat} (h : i < t) (q : C i = 0) (e : zto kn C (m + 1) i t (st, top) = R) : zto kn C m (i + 1 + 1) t (upd st top (C (i + 1)), top + 1) = R := by
  rw [← e]
  show _ = if i < t then _ else _
  rw [if_pos h, if_pos q]
theorem zto_1 {kn : Int32 → Int32} {C st : Nat → Int32} {m i t top : Nat} {v : Int32} {R : (Nat → Int32) × Nat} (h : i < t) (q : ¬ C i = 0) (q2 : 20 ≤ C i) (hv : v = kn (C i - 20)) (e : zto kn C (m + 1) i t (st, top) = R) : zto kn C m (i + 1) t (upd st top v, top + 1) = R := by
  rw [← e, hv]
  show _ = if i < t then _ else _
  rw [if_pos h, if_neg q, if_pos q2]
theorem zto_2 {kn : Int32 → Int32} {C st : Nat → Int32} {m i t top : Nat} {v : Int32} {R : (Nat → Int32) × Nat} (h : i < t) (q : ¬ C i = 0) (q2 : ¬ 20 ≤ C i) (q3 : C i = 8) (hv : v = if st (top - 1) = 0 then 1 else 0) (e : zto kn C (m + 1) i t (st, top) = R) : zto kn C m (i + 1) t (upd st (top - 1) v, top) = R := by
  rw [← e, hv]
  show _ = if i < t then _ else _
  rw [if_pos h, if_neg q, if_neg q2, if_pos q3]
theorem zto_3 {kn : Int32 → Int32} {C st : Nat → Int32} {m i t top : Nat} {v : Int32} {R : (Nat → Int32) × Nat} (h : i < t) (q : ¬ C i = 0) (q2 : ¬ 20 ≤ C i) (q3 : ¬ C i = 8) (hv : v = ztw (C i) (st (top - 1 - 1)) (st (top - 1))) (e : zto kn C (m + 1) i t (st, top) = R) : zto kn C m (i + 1) t (upd st (top - 1 - 1) v, top - 1) = R := by
  rw [← e, hv]
  show _ = if i < t then _ else _
  rw [if_pos h, if_neg q, if_neg q2, if_neg q3]
/-- what the codes from i to j say, of every company and cell -/
def dsR (C : Nat → Int32) (i j : Nat) (V : (Int32 → Int32) → Int32) : Prop := ∀ (kn : Int32 → Int32) (st : Nat → Int32), ∃ st' : Nat → Int32, zto kn C 701 i j (st, 0) = (st', 1) ∧ st' 0 = V kn
def zev (kn : Int32 → Int32) (C : Nat → Int32) (i j : Nat) : Int32 := (zto kn C 701 i j (fun _ => 0, 0)).1 0
theorem zev_eq {C : Nat → Int32} {i j : Nat} {V : (Int32 → Int32) → Int32} (h : dsR C i j V) {kn : Int32 → Int32} {st : Nat → Int32} : (zto kn C 701 i j (st, 0)).1 0 = zev kn C i j := by
  obtain ⟨s1, e1, v1⟩ := h kn st
  obtain ⟨s2, e2, v2⟩ := h kn (fun _ => 0)
  unfold zev
  rw [e1, e2]
  exact v1.trans v2.symm
/-- the rules of law l, the first r of them, who pay or who call: what they come to -/
def zrul (kn : Int32 → Int32) (C R P : Nat → Int32) (l : Nat) (pay : Int32) : Nat → Int32
  | 0 => 0
  | r + 1 => if P (12 * l + r) = pay then (if ¬ pay = 0 then zrul kn C R P l pay r + zev kn C (700 * l + (R (13 * l + r)).toNatClampNeg) (700 * l + (R (13 * l + r + 1)).toNatClampNeg) else if ¬ zev kn C (700 * l + (R (13 * l + r)).toNatClampNeg) (700 * l + (R (13 * l + r + 1)).toNatClampNeg) = 0 then 1 else zrul kn C R P l pay r) else zrul kn C R P l pay r
/-- every rule of every law says something -/
def LD (n : Nat) (M R C : Nat → Int32) : Prop := ∀ l r : Nat, l < n → r < (M l).toNatClampNeg → ∃ V, dsR C (700 * l + (R (13 * l + r)).toNatClampNeg) (700 * l + (R (13 * l + r + 1)).toNatClampNeg) V
theorem ld_fr {L A : List Nat} {n : Nat} {sc sc' : Nat → Int32} {ar ar' : Nat → Nat → Int32} (h : LD n (ar 69) (ar 70) (ar 71)) (f : Fr L A sc ar sc' ar') (h2 : 69 ∉ A) (h3 : 70 ∉ A) (h4 : 71 ∉ A) : LD n (ar' 69) (ar' 70) (ar' 71) := by
  rw [f.2 69 h2, f.2 70 h3, f.2 71 h4]
  exact h
theorem zrul_no {kn : Int32 → Int32} {C R P : Nat → Int32} {l r : Nat} {pay y : Int32} (h : y = zrul kn C R P l pay r) (q : ¬ P (12 * l + r) = pay) : y = zrul kn C R P l pay (r + 1) := by
  rw [h]
  show _ = if _ then _ else _
  rw [if_neg q]
theorem zrul_v {n : Nat} {kn : Int32 → Int32} {C R M st : Nat → Int32} {l r m f g : Nat} {v : Int32} (hD : LD n M R C) (hl : l < n) (em : M l = nI m) (hm : m < 13) (hr : r < m) (ef : R (13 * l + r) = nI f) (hf : f < 701) (eg : R (13 * l + r + 1) = nI g) (hg : g < 701) (hv : v = (zto kn C 701 (700 * l + f) (700 * l + g) (st, 0)).1 0) : v = zev kn C (700 * l + (R (13 * l + r)).toNatClampNeg) (700 * l + (R (13 * l + r + 1)).toNatClampNeg) := by
  obtain ⟨V, h⟩ := hD l r hl (by rw [em, nI_clamp (by omega)]; exact hr)
  rw [← zev_eq h (st := st), ef, eg, nI_clamp (by omega), nI_clamp (by omega)]
  exact hv
theorem zrul_p {kn : Int32 → Int32} {C R P : Nat → Int32} {l r : Nat} {pay y v : Int32} (h : y = zrul kn C R P l pay r) (q : P (12 * l + r) = pay) (w : ¬ pay = 0) (hv : v = zev kn C (700 * l + (R (13 * l + r)).toNatClampNeg) (700 * l + (R (13 * l + r + 1)).toNatClampNeg)) : y + v = zrul kn C R P l pay (r + 1) := by
  show _ = if _ then _ else _
  rw [if_pos q, if_pos w, h, hv]
theorem zrul_1 {kn : Int32 → Int32} {C R P : Nat → Int32} {l r : Nat} {pay y v : Int32} (h : y = zrul kn C R P l pay r) (q : P (12 * l + r) = pay) (w : pay = 0) (hv : v = zev kn C (700 * l + (R (13 * l + r)).toNatClampNeg) (700 * l + (R (13 * l + r + 1)).toNatClampNeg)) (u : ¬ v = 0) : 1 = zrul kn C R P l pay (r + 1) := by
  show _ = if _ then _ else _
  rw [if_pos q, if_neg (fun z => z w), ← hv, if_pos u]
theorem zrul_y {kn : Int32 → Int32} {C R P : Nat → Int32} {l r : Nat} {pay y v : Int32} (h : y = zrul kn C R P l pay r) (q : P (12 * l + r) = pay) (w : pay = 0) (hv : v = zev kn C (700 * l + (R (13 * l + r)).toNatClampNeg) (700 * l + (R (13 * l + r + 1)).toNatClampNeg)) (u : v = 0) : y = zrul kn C R P l pay (r + 1) := by
  show _ = if _ then _ else _
  rw [if_pos q, if_neg (fun z => z w), ← hv, if_neg (fun z => z u), h]
theorem foX_eq {sc : Nat → Int32} {ar : Nat → Nat → Int32} {h l0 : Nat} (e1 : sc 4904 = nI h) (h1 : h < 2401) (e2 : sc 4907 = nI l0) (h2 : l0 < 7) : foX sc ar = fo (ar 68) (nI (h / 24)) l0 0 (-1) := by
  have e : (nI h / 24 : Int32) = nI (h / 24) := pk_div (a := h) (d := 24) (by omega) (by omega) (by omega)
  unfold foX
  rw [e1, e2, nI_clamp (by omega), e]
/-- whether the reference calls company c to cell k -/
def zcR (x1 : Int32) (kn : Int32 → Int32) (C R P M : Nat → Int32) (ow wa : Int32) : Bool := if x1 = -1 then decide (ow = wa) else decide (¬ zrul kn C R P x1.toNatClampNeg 0 (M x1.toNatClampNeg).toNatClampNeg = 0)
def zpR1 (x1 : Int32) (kn : Int32 → Int32) (C R P M : Nat → Int32) : Int32 := if x1 = -1 then 1 else zrul kn C R P x1.toNatClampNeg 1 (M x1.toNatClampNeg).toNatClampNeg
theorem zcR_0 {x1 : Int32} {kn : Int32 → Int32} {C R P M : Nat → Int32} {ow wa : Int32} (h : x1 = -1) : zcR x1 kn C R P M ow wa = true ↔ ow = wa := by
  unfold zcR
  rw [if_pos h, decide_eq_true_eq]
theorem zcR_1 {x1 v : Int32} {kn : Int32 → Int32} {C R P M : Nat → Int32} {ow wa : Int32} (h : ¬ x1 = -1) (hv : v = zrul kn C R P x1.toNatClampNeg 0 (M x1.toNatClampNeg).toNatClampNeg) : zcR x1 kn C R P M ow wa = true ↔ ¬ v = 0 := by
  unfold zcR
  rw [if_neg h, decide_eq_true_eq, hv]
def zvk (a : Nat) (wa wo fu ow me pl : Nat → Int32) (h : Nat) (fi : Int32) (c k : Nat) : Int32 → Int32 := fun x => zvl x (wa k) (wo k) (fu k) (ow c) (me c) (nI (zds a (pl c).toNatClampNeg k)) (nI (h % 24)) fi
/-- goals and pulls when the reference's bell of cell k rings -/
def zrW (a h : Nat) (x1 fi : Int32) (wa wo fu ow me pl C R P M : Nat → Int32) (k : Nat) (go : Nat → Int32) : Nat → Int32 := fun c => if go c = -1 ∧ zcR x1 (zvk a wa wo fu ow me pl h fi c k) C R P M (ow c) (wa k) = true then nI k else go c
def zrP (a h : Nat) (x1 fi : Int32) (wa wo fu ow me pl C R P M : Nat → Int32) (k : Nat) (go pu : Nat → Int32) : Nat → Int32 := fun c => if go c = -1 ∧ zcR x1 (zvk a wa wo fu ow me pl h fi c k) C R P M (ow c) (wa k) = true then 0 else pu c
/-- the fire eats, in the reference: states, fuel, warmth, wet, roofs, goals, pay, put out -/
abbrev zB8 : Type := (Nat → Int32) × (Nat → Int32) × (Nat → Int32) × (Nat → Int32) × (Nat → Int32) × (Nat → Int32) × (Nat → Int32) × (Nat → Int32)
def zbR (n : Nat) (pu : Nat → Int32) (pf : (Nat → Int32) → (Nat → Int32) → Nat → Nat → Int32) (k : Nat) : zB8 → zB8
  | (st, fu, wm, we, ro, go, pa, sa) => if 4 * fu k ≤ we k then (upd st k 0, fu, upd wm k 0, upd we k 0, upd ro k (-1), zng n (nI k) 0 go pu, if ro k = -1 then pa else upd pa (ro k).toNatClampNeg (pa (ro k).toNatClampNeg + pf (upd st k 0) fu (ro k).toNatClampNeg k), if ro k = -1 then sa else upd sa (ro k).toNatClampNeg (sa (ro k).toNatClampNeg + 1)) else if fu k - 1 ≤ 0 then (upd st k 2, upd fu k (fu k - 1), wm, we, upd ro k (-1), zng n (nI k) 0 go pu, pa, sa) else (st, upd fu k (fu k - 1), wm, we, ro, go, pa, sa)
theorem zbR_p {n k c : Nat} {pf : (Nat → Int32) → (Nat → Int32) → Nat → Nat → Int32} {st fu wm we ro go pa sa pu : Nat → Int32} (q : 4 * fu k ≤ we k) (e : ro k = nI c) (hc : c < 8) : (upd st k 0, fu, upd wm k 0, upd we k 0, upd ro k (-1), zng n (nI k) 0 go pu, upd pa c (pa c + pf (upd st k 0) fu c k), upd sa c (sa c + 1)) = zbR n pu pf k (st, fu, wm, we, ro, go, pa, sa) := by
  have h : ¬ ro k = -1 := fun w => nI_neg (n := c) (by omega) (by decide) (e.symm.trans w)
  unfold zbR
  dsimp only
  rw [if_pos q, if_neg h, if_neg h, e, nI_clamp (by omega)]
theorem zbR_n {n k : Nat} {pf : (Nat → Int32) → (Nat → Int32) → Nat → Nat → Int32} {st fu wm we ro go pa sa pu : Nat → Int32} (q : 4 * fu k ≤ we k) (h : ro k = -1) : (upd st k 0, fu, upd wm k 0, upd we k 0, upd ro k (-1), zng n (nI k) 0 go pu, pa, sa) = zbR n pu pf k (st, fu, wm, we, ro, go, pa, sa) := by
  unfold zbR
  dsimp only
  rw [if_pos q, if_pos h, if_pos h]
theorem zbR_a {n k : Nat} {pf : (Nat → Int32) → (Nat → Int32) → Nat → Nat → Int32} {st fu wm we ro go pa sa pu : Nat → Int32} (q : ¬ 4 * fu k ≤ we k) (e : upd fu k (fu k - 1) k ≤ 0) : (upd st k 2, upd fu k (fu k - 1), wm, we, upd ro k (-1), zng n (nI k) 0 go pu, pa, sa) = zbR n pu pf k (st, fu, wm, we, ro, go, pa, sa) := by
  have e : fu k - 1 ≤ 0 := by
    unfold upd at e
    rw [if_pos rfl] at e
    exact e
  unfold zbR
  dsimp only
  rw [if_neg q, if_pos e]
theorem zbR_g {n k : Nat} {pf : (Nat → Int32) → (Nat → Int32) → Nat → Nat → Int32} {st fu wm we ro go pa sa pu : Nat → Int32} (q : ¬ 4 * fu k ≤ we k) (e : ¬ upd fu k (fu k - 1) k ≤ 0) : (st, upd fu k (fu k - 1), wm, we, ro, go, pa, sa) = zbR n pu pf k (st, fu, wm, we, ro, go, pa, sa) := by
  have e : ¬ fu k - 1 ≤ 0 := by
    unfold upd at e
    rw [if_pos rfl] at e
    exact e
  unfold zbR
  dsimp only
  rw [if_neg q, if_neg e]
theorem zw_y {g go : Nat → Int32} {W : Nat → Int32} {i : Nat} {v : Int32} {Q : Prop} [Decidable Q] (hW : W i = if go i = -1 ∧ Q then v else go i) (hh : g = zpw W go i) (e : g i = -1) (w : Q) : upd g i v = zpw W go (i + 1) := by
  rw [zpw_at hh] at e
  exact zpw_u hh (by rw [hW, if_pos ⟨e, w⟩])
theorem zw_n {g go : Nat → Int32} {W : Nat → Int32} {i : Nat} {v : Int32} {Q : Prop} [Decidable Q] (hW : W i = if go i = -1 ∧ Q then v else go i) (hh : g = zpw W go i) (w : ¬ (g i = -1 ∧ Q)) : g = zpw W go (i + 1) := by
  rw [zpw_at hh] at w
  exact zpw_k hh (by rw [hW, if_neg w])
/-! THE FULL STATE: class and reference side by side -/
/-- what holds between states, roofs, goals and pulls -/
def ZJ (S n : Nat) (st ro go pu : Nat → Int32) : Prop :=
  (∀ c g : Nat, c < n → g < S → go c = nI g → (¬ pu c = 0 → st g = 0) ∧ (pu c = 0 → st g = 1)) ∧
  (∀ h c : Nat, c < 8 → ro h = nI c → h < S ∧ c < n ∧ st h = 1 ∧ go c = nI h ∧ pu c = 0) ∧
  (∀ c : Nat, pu c = 0 ∨ pu c = 1)
/-- the class's pulls p, the reference's q -/
def ZQ (n : Nat) (go p q : Nat → Int32) : Prop := (∀ c : Nat, p c = if c < n ∧ ¬ go c = -1 then q c else 0) ∧ ∀ c : Nat, q c = 0 ∨ q c = 1
theorem zq_at {n c : Nat} {go p q : Nat → Int32} (h : ZQ n go p q) (hc : c < n) (hg : ¬ go c = -1) : p c = q c := by
  rw [h.1 c, if_pos ⟨hc, hg⟩]
theorem nI_m1 {n : Nat} (h : n < 1000) : ¬ nI n = -1 := nI_neg (by omega) (by decide)
theorem nI_i {m n : Nat} (hm : m < 1000) (hn : n < 1000) (e : nI m = nI n) : m = n := (nI_eq (by omega) (by omega)).mp e
/-- the roofs of one cell -/
theorem zsim_r1 {S a n k : Nat} {st go pl p q : Nat → Int32} (hS : S ≤ 64) (hk : k < S) (hst : st k = 1) (hq : ZQ n go p q) (hJ1 : ∀ c g : Nat, c < n → g < S → go c = nI g → (¬ p c = 0 → st g = 0) ∧ (p c = 0 → st g = 1)) (ro qu : Nat → Int32) (t : Int32) : ∀ i, i ≤ n → ((zit (zgR a k go pl q) i (ro, qu, t)).1, (zit (zgR a k go pl q) i (ro, qu, t)).2.1) = zit (zgr a k go pl) i (ro, qu)
  | 0, _ => rfl
  | i + 1, hi => by
    have ih := zsim_r1 (a := a) (pl := pl) hS hk hst hq hJ1 ro qu t i (by omega)
    show ((zgR a k go pl q i (zit (zgR a k go pl q) i (ro, qu, t))).1, (zgR a k go pl q i (zit (zgR a k go pl q) i (ro, qu, t))).2.1) = zgr a k go pl i (zit (zgr a k go pl) i (ro, qu))
    rw [← ih]
    generalize zit (zgR a k go pl q) i (ro, qu, t) = s
    obtain ⟨s1, s2, s3⟩ := s
    unfold zgR zgr
    dsimp only
    by_cases h1 : go i = nI k
    · have hm := nI_m1 (show k < 1000 by omega)
      have hp : p i = q i := zq_at hq (by omega) (by rw [h1]; exact hm)
      have hz : q i = 0 := by
        rw [← hp]
        have := (hJ1 i k (by omega) hk h1).1
        rw [hst] at this
        exact Classical.byContradiction fun u => absurd (this u) (by decide)
      by_cases h2 : zds a (pl i).toNatClampNeg k = 1
      · rw [if_pos (show go i = nI k ∧ q i = 0 ∧ zds a (pl i).toNatClampNeg k = 1 from ⟨h1, hz, h2⟩), if_pos (show go i = nI k ∧ zds a (pl i).toNatClampNeg k = 1 from ⟨h1, h2⟩)]
        by_cases h3 : s1 k = -1
        · rw [if_pos h3, if_pos h3]
        · rw [if_neg h3, if_neg h3]
      · rw [if_neg (show ¬ (go i = nI k ∧ q i = 0 ∧ zds a (pl i).toNatClampNeg k = 1) from fun w => h2 w.2.2), if_neg (show ¬ (go i = nI k ∧ zds a (pl i).toNatClampNeg k = 1) from fun w => h2 w.2)]
    · rw [if_neg (show ¬ (go i = nI k ∧ q i = 0 ∧ zds a (pl i).toNatClampNeg k = 1) from fun w => h1 w.1), if_neg (show ¬ (go i = nI k ∧ zds a (pl i).toNatClampNeg k = 1) from fun w => h1 w.1)]
theorem zsim_ro {S a n : Nat} {st go pl p q : Nat → Int32} (hS : S ≤ 64) (hq : ZQ n go p q) (hJ1 : ∀ c g : Nat, c < n → g < S → go c = nI g → (¬ p c = 0 → st g = 0) ∧ (p c = 0 → st g = 1)) (ro qu : Nat → Int32) (t : Int32) : ∀ i, i ≤ S → ((zit (zgRs a n st go pl q) i (ro, qu, t)).1, (zit (zgRs a n st go pl q) i (ro, qu, t)).2.1) = zit (zgrs a n st go pl) i (ro, qu)
  | 0, _ => rfl
  | i + 1, hi => by
    have ih := zsim_ro (a := a) (pl := pl) hS hq hJ1 ro qu t i (by omega)
    show ((zgRs a n st go pl q i (zit (zgRs a n st go pl q) i (ro, qu, t))).1, (zgRs a n st go pl q i (zit (zgRs a n st go pl q) i (ro, qu, t))).2.1) = zgrs a n st go pl i (zit (zgrs a n st go pl) i (ro, qu))
    rw [← ih]
    generalize zit (zgRs a n st go pl q) i (ro, qu, t) = s
    unfold zgRs zgrs
    by_cases h1 : st i = 1 ∧ s.1 i = -1
    · rw [if_pos h1, if_pos h1]
      exact zsim_r1 hS (by omega) h1.1 hq hJ1 s.1 s.2.1 s.2.2 n (Nat.le_refl _)
    · rw [if_neg h1, if_neg h1]
/-- roofs keep what holds -/
theorem zj_r1 {S a n k : Nat} {st go pl p : Nat → Int32} (hS : S ≤ 64) (hn : n < 9) (hk : k < S) (hst : st k = 1) (ro qu : Nat → Int32) (hJ : ZJ S n st ro go p) : ∀ i, i ≤ n → ZJ S n st (zit (zgr a k go pl) i (ro, qu)).1 go p
  | 0, _ => hJ
  | i + 1, hi => by
    have ih := zj_r1 (a := a) (pl := pl) hS hn hk hst ro qu hJ i (by omega)
    show ZJ S n st (zgr a k go pl i (zit (zgr a k go pl) i (ro, qu))).1 go p
    generalize zit (zgr a k go pl) i (ro, qu) = s at *
    unfold zgr
    by_cases h1 : go i = nI k ∧ zds a (pl i).toNatClampNeg k = 1
    · rw [if_pos h1]
      by_cases h3 : s.1 k = -1
      · rw [if_pos h3]
        refine ⟨ih.1, fun h c hc e => ?_, ih.2.2⟩
        have e : upd s.1 k (nI i) h = nI c := e
        unfold upd at e
        by_cases eh : h = k
        · rw [if_pos eh] at e
          obtain rfl : i = c := nI_i (by omega) (by omega) e
          subst eh
          refine ⟨hk, by omega, hst, h1.1, ?_⟩
          have := (ih.1 i h (by omega) hk h1.1).1
          rw [hst] at this
          exact Classical.byContradiction fun u => absurd (this u) (by decide)
        · rw [if_neg eh] at e
          exact ih.2.1 h c hc e
      · rw [if_neg h3]
        exact ih
    · rw [if_neg h1]
      exact ih
theorem zj_ro {S a n : Nat} {st go pl p : Nat → Int32} (hS : S ≤ 64) (hn : n < 9) (ro qu : Nat → Int32) (hJ : ZJ S n st ro go p) : ∀ i, i ≤ S → ZJ S n st (zit (zgrs a n st go pl) i (ro, qu)).1 go p
  | 0, _ => hJ
  | i + 1, hi => by
    have ih := zj_ro (a := a) (pl := pl) hS hn ro qu hJ i (by omega)
    show ZJ S n st (zgrs a n st go pl i (zit (zgrs a n st go pl) i (ro, qu))).1 go p
    generalize zit (zgrs a n st go pl) i (ro, qu) = s at *
    unfold zgrs
    by_cases h1 : st i = 1 ∧ s.1 i = -1
    · rw [if_pos h1]
      exact zj_r1 hS hn (by omega) h1.1 s.1 s.2 ih n (Nat.le_refl _)
    · rw [if_neg h1]
      exact ih
theorem fz_1 {n g : Nat} {b : Int32} {go q : Nat → Int32} (h : ∀ c, c < n → go c = nI g → q c = b) : fgl n (nI g) go = zng n (nI g) b go q := by
  funext c
  unfold fgl zng
  by_cases h1 : c < n ∧ go c = nI g
  · rw [if_pos h1, if_pos ⟨h1.1, h1.2, h c h1.1 h1.2⟩]
  · rw [if_neg h1, if_neg (fun w => h1 ⟨w.1, w.2.1⟩)]
theorem fz_2 {n g : Nat} {go p q : Nat → Int32} (h : ZQ n go p q) : ZQ n (fgl n (nI g) go) (fgp n (nI g) go p) q := by
  refine ⟨fun c => ?_, h.2⟩
  have := h.1 c
  unfold fgl fgp
  by_cases h1 : c < n ∧ go c = nI g
  · rw [if_pos h1, if_pos h1, if_neg (fun w => w.2 rfl)]
  · rw [if_neg h1, if_neg h1]
    exact this
theorem zj_fg {S n g : Nat} {v : Int32} {st ro ro' go p : Nat → Int32} (hS : S ≤ 64) (hg : g < S) (hJ : ZJ S n st ro go p) (hr : ∀ h c : Nat, c < 8 → ro' h = nI c → ¬ h = g ∧ ro h = nI c) : ZJ S n (upd st g v) ro' (fgl n (nI g) go) (fgp n (nI g) go p) := by
  obtain ⟨h1, h2, h3⟩ := hJ
  have hm := nI_m1 (show g < 1000 by omega)
  refine ⟨fun c k hc hk e => ?_, fun h c hc e => ?_, fun c => ?_⟩
  · unfold fgl at e
    unfold fgp
    by_cases w : c < n ∧ go c = nI g
    · rw [if_pos w] at e
      exact absurd e.symm (nI_m1 (by omega))
    · rw [if_neg w] at e
      rw [if_neg w]
      have hne : ¬ k = g := fun e2 => w ⟨hc, e2 ▸ e⟩
      unfold upd
      rw [if_neg hne]
      exact h1 c k hc hk e
  · obtain ⟨a1, a2⟩ := hr h c hc e
    obtain ⟨b1, b2, b3, b4, b5⟩ := h2 h c hc a2
    have w : ¬ (c < n ∧ go c = nI g) := fun w => a1 (nI_i (by omega) (by omega) (b4.symm.trans w.2))
    unfold upd fgl fgp
    rw [if_neg a1, if_neg w, if_neg w]
    exact ⟨b1, b2, b3, b4, b5⟩
  · unfold fgp
    split
    · exact Or.inl rfl
    · exact h3 c
theorem rq_fg {S n : Nat} {x : Int32} {go : Nat → Int32} (h : ∀ c, rq (go c) S) : ∀ c, rq (fgl n x go c) S := by
  intro c
  unfold fgl
  split
  · exact Or.inl rfl
  · exact h c
/-- the work side by side -/
def ZWS (S n : Nat) (ro q : Nat → Int32) (s : zW5) (u : zW4) : Prop := s.1 = u.1 ∧ s.2.1 = u.2.1 ∧ s.2.2.1 = u.2.2.1 ∧ s.2.2.2.1 = u.2.2.2 ∧ ZQ n u.2.2.2 s.2.2.2.2 q ∧ ZJ S n u.1 ro u.2.2.2 s.2.2.2.2 ∧ ∀ c, rq (u.2.2.2 c) S
theorem zwk_z {S a n c g : Nat} {me pl ro du st fu we go pu : Nat → Int32} (h : go c = nI g) (hg : g < 64) (hd : zds a (pl c).toNatClampNeg g = 1) : zwk S a n me pl ro du c (st, fu, we, go, pu) = if ¬ pu c = 0 then zpl n g (me c) (st, fu, we, go, pu) else if ro g = nI c then (st, fu, upd we g (we g + zwt S a du (pl c).toNatClampNeg * me c), go, pu) else (st, fu, we, go, pu) := by
  have e1 : (go c).toNatClampNeg = g := by rw [h, nI_clamp (by omega)]
  unfold zwk
  dsimp only
  rw [if_neg]
  · simp only [e1]
  · rintro (w | w)
    · exact nI_neg (n := g) (by omega) (by decide) (h.symm.trans w)
    · rw [e1] at w
      exact w hd
theorem zwR_z {S a n c g : Nat} {me pl ro du pu st fu we go : Nat → Int32} (h : go c = nI g) (hg : g < 64) (hd : zds a (pl c).toNatClampNeg g = 1) : zwR S a n me pl ro du pu c (st, fu, we, go) = if ¬ pu c = 0 then zpR n g (me c) pu (st, fu, we, go) else if ro g = nI c then (st, fu, upd we g (we g + zwt S a du (pl c).toNatClampNeg * me c), go) else (st, fu, we, go) := by
  have e1 : (go c).toNatClampNeg = g := by rw [h, nI_clamp (by omega)]
  unfold zwR
  dsimp only
  rw [if_neg]
  · simp only [e1]
  · rintro (w | w)
    · exact nI_neg (n := g) (by omega) (by decide) (h.symm.trans w)
    · rw [e1] at w
      exact w hd
theorem zws_1 {S a n c : Nat} {me pl ro du q : Nat → Int32} {s : zW5} {u : zW4} (hS : S ≤ 64) (hc : c < n) (h : ZWS S n ro q s u) : ZWS S n ro q (zwk S a n me pl ro du c s) (zwR S a n me pl ro du q c u) := by
  obtain ⟨st, fu, we, go, p⟩ := s
  obtain ⟨st', fu', we', go'⟩ := u
  obtain ⟨e1, e2, e3, e4, hq, hJ, hr⟩ := h
  obtain rfl : st = st' := e1
  obtain rfl : fu = fu' := e2
  obtain rfl : we = we' := e3
  obtain rfl : go = go' := e4
  have hq : ZQ n go p q := hq
  have hJ : ZJ S n st ro go p := hJ
  have hr : ∀ c, rq (go c) S := hr
  rcases hr c with h1 | ⟨g, hg, h1⟩
  · rw [← zwk_0 h1, ← zwR_0 h1]
    exact ⟨rfl, rfl, rfl, rfl, hq, hJ, hr⟩
  · have hp : p c = q c := zq_at hq hc (by rw [h1]; exact nI_m1 (by omega))
    by_cases h2 : zds a (pl c).toNatClampNeg g = 1
    · rw [zwk_z h1 (by omega) h2, zwR_z h1 (by omega) h2, hp]
      by_cases h3 : q c = 0
      · rw [if_neg (show ¬ ¬ q c = 0 from fun w => w h3), if_neg (show ¬ ¬ q c = 0 from fun w => w h3)]
        by_cases h4 : ro g = nI c
        · rw [if_pos h4, if_pos h4]
          exact ⟨rfl, rfl, rfl, rfl, hq, hJ, hr⟩
        · rw [if_neg h4, if_neg h4]
          exact ⟨rfl, rfl, rfl, rfl, hq, hJ, hr⟩
      · rw [if_pos h3, if_pos h3]
        have hst : st g = 0 := (hJ.1 c g hc hg h1).1 (by rw [hp]; exact h3)
        unfold zpl zpR
        dsimp only
        by_cases h5 : fu g - me c < 1
        · rw [if_pos h5, if_pos h5]
          have f1 : fgl n (nI g) go = zng n (nI g) 1 go q := fz_1 (fun c' hc' e => by
            have hp' : p c' = q c' := zq_at hq hc' (by rw [e]; exact nI_m1 (by omega))
            have := (hJ.1 c' g hc' hg e).2
            rw [hst] at this
            rcases hq.2 c' with w | w
            · exact absurd (this (hp'.trans w)) (by decide)
            · exact w)
          refine ⟨rfl, rfl, rfl, f1, ?_, ?_, ?_⟩
          · show ZQ n (zng n (nI g) 1 go q) _ q
            rw [← f1]
            exact fz_2 hq
          · show ZJ S n _ ro (zng n (nI g) 1 go q) _
            rw [← f1]
            exact zj_fg hS hg hJ (fun h c' hc' e => ⟨fun eh => by
              subst eh
              have := (hJ.2.1 h c' hc' e).2.2.1
              rw [hst] at this
              exact absurd this (by decide), e⟩)
          · show ∀ c, rq (zng n (nI g) 1 go q c) S
            rw [← f1]
            exact rq_fg hr
        · rw [if_neg h5, if_neg h5]
          exact ⟨rfl, rfl, rfl, rfl, hq, hJ, hr⟩
    · unfold zwk zwR
      dsimp only
      have e1 : (go c).toNatClampNeg = g := by rw [h1, nI_clamp (by omega)]
      rw [if_pos (show go c = -1 ∨ ¬ zds a (pl c).toNatClampNeg (go c).toNatClampNeg = 1 from Or.inr (by rw [e1]; exact h2)), if_pos (show go c = -1 ∨ ¬ zds a (pl c).toNatClampNeg (go c).toNatClampNeg = 1 from Or.inr (by rw [e1]; exact h2))]
      exact ⟨rfl, rfl, rfl, rfl, hq, hJ, hr⟩
theorem zws_all {S a n : Nat} {me pl ro du q : Nat → Int32} {s : zW5} {u : zW4} (hS : S ≤ 64) (h : ZWS S n ro q s u) : ∀ i, i ≤ n → ZWS S n ro q (zit (zwk S a n me pl ro du) i s) (zit (zwR S a n me pl ro du q) i u)
  | 0, _ => h
  | i + 1, hi => zws_1 hS (by omega) (zws_all hS h i (by omega))
/-- the fire side by side -/
def ZBS (S n : Nat) (q : Nat → Int32) : zB9 → zB8 → Prop
  | (st, fu, wm, we, ro, go, p, pa, sa), (st', fu', wm', we', ro', go', pa', sa') => st = st' ∧ fu = fu' ∧ wm = wm' ∧ we = we' ∧ ro = ro' ∧ go = go' ∧ pa = pa' ∧ sa = sa' ∧ ZQ n go p q ∧ ZJ S n st ro go p ∧ (∀ c, rq (go c) S) ∧ ∀ h, rq (ro h) 8
def zbRs (n : Nat) (q : Nat → Int32) (pf : (Nat → Int32) → (Nat → Int32) → Nat → Nat → Int32) (k : Nat) (u : zB8) : zB8 := if u.1 k = 1 then zbR n q pf k u else u
theorem zbs_1 {S n k : Nat} {q : Nat → Int32} {pf pg : (Nat → Int32) → (Nat → Int32) → Nat → Nat → Int32} {s : zB9} {u : zB8} (hS : S ≤ 64) (hn : n < 9) (hk : k < S) (hpf : ∀ st fu c, c < n → pf st fu c k = pg st fu c k) (h : ZBS S n q s u) : ZBS S n q (zbn n pf k s) (zbRs n q pg k u) := by
  obtain ⟨st, fu, wm, we, ro, go, p, pa, sa⟩ := s
  obtain ⟨st', fu', wm', we', ro', go', pa', sa'⟩ := u
  obtain ⟨rfl, rfl, rfl, rfl, rfl, rfl, rfl, rfl, hq, hJ, hr, hro⟩ := h
  by_cases h1 : st k = 1
  · have f1 : fgl n (nI k) go = zng n (nI k) 0 go q := fz_1 (fun c' hc' e => by
      have hp' : p c' = q c' := zq_at hq hc' (by rw [e]; exact nI_m1 (by omega))
      have := (hJ.1 c' k hc' hk e).1
      rw [h1] at this
      rw [← hp']
      exact Classical.byContradiction fun u => absurd (this u) (by decide))
    have hr' : ∀ h c : Nat, c < 8 → upd ro k (-1) h = nI c → ¬ h = k ∧ ro h = nI c := fun h c hc e => by
      unfold upd at e
      by_cases eh : h = k
      · rw [if_pos eh] at e
        exact absurd e.symm (nI_m1 (by omega))
      · rw [if_neg eh] at e
        exact ⟨eh, e⟩
    have hro' : ∀ h, rq (upd ro k (-1) h) 8 := fun h => by
      unfold upd
      split
      · exact Or.inl rfl
      · exact hro h
    have ez : zbRs n q pg k (st, fu, wm, we, ro, go, pa, sa) = zbR n q pg k (st, fu, wm, we, ro, go, pa, sa) := if_pos h1
    rw [ez]
    by_cases h2 : 4 * fu k ≤ we k
    · rcases hro k with h3 | ⟨c, hc, h3⟩
      · rw [← zbR_n h2 h3, ← zbn_p (n := n) (pf := pf) h1 h2 rfl, zpo_n (fun w => by rw [h3] at w; exact absurd w.1 (by decide)), ← f1]
        exact ⟨rfl, rfl, rfl, rfl, rfl, rfl, rfl, rfl, fz_2 hq, zj_fg hS hk hJ hr', rq_fg hr, hro'⟩
      · have hcn := (hJ.2.1 k c hc h3).2.1
        rw [← zbR_p (c := c) h2 h3 hc, ← zbn_p (n := n) (pf := pf) h1 h2 rfl, zpo_y hcn hn h3, ← f1, hpf _ _ c hcn]
        exact ⟨rfl, rfl, rfl, rfl, rfl, rfl, rfl, rfl, fz_2 hq, zj_fg hS hk hJ hr', rq_fg hr, hro'⟩
    · by_cases h4 : upd fu k (fu k - 1) k ≤ 0
      · rw [← zbR_a h2 h4, ← zbn_a h1 h2 h4, ← f1]
        exact ⟨rfl, rfl, rfl, rfl, rfl, rfl, rfl, rfl, fz_2 hq, zj_fg hS hk hJ hr', rq_fg hr, hro'⟩
      · rw [← zbR_g h2 h4, ← zbn_g h1 h2 h4]
        exact ⟨rfl, rfl, rfl, rfl, rfl, rfl, rfl, rfl, hq, hJ, hr, hro⟩
  · have ez : zbRs n q pg k (st, fu, wm, we, ro, go, pa, sa) = (st, fu, wm, we, ro, go, pa, sa) := if_neg h1
    rw [ez, ← zbn_0 h1]
    exact ⟨rfl, rfl, rfl, rfl, rfl, rfl, rfl, rfl, hq, hJ, hr, hro⟩
theorem zbs_all {S n : Nat} {q : Nat → Int32} {pf pg : (Nat → Int32) → (Nat → Int32) → Nat → Nat → Int32} {s : zB9} {u : zB8} (hS : S ≤ 64) (hn : n < 9) (hpf : ∀ st fu c k, c < n → k < S → pf st fu c k = pg st fu c k) (h : ZBS S n q s u) : ∀ i, i ≤ S → ZBS S n q (zit (zbn n pf) i s) (zit (zbRs n q pg) i u)
  | 0, _ => h
  | i + 1, hi => zbs_1 hS hn (by omega) (fun st fu c hc => hpf st fu c i hc (by omega)) (zbs_all hS hn hpf h i (by omega))
/-- the beginnings side by side: what begins to burn is forgotten -/
def zfR (n : Nat) (q : Nat → Int32) (P : Nat → Bool) : Nat → (Nat → Int32) → (Nat → Int32)
  | 0, go => go
  | k + 1, go => if P k = true then zng n (nI k) 1 (zfR n q P k go) q else zfR n q P k go
theorem zfs_all {S n : Nat} {P : Nat → Bool} {go p q : Nat → Int32} (hS : S ≤ 64) (hq : ZQ n go p q) (hr : ∀ c, rq (go c) S) (hP : ∀ c k, c < n → k < S → P k = true → go c = nI k → ¬ p c = 0) : ∀ i, i ≤ S → (zfB n P i (go, p)).1 = zfR n q P i go ∧ ZQ n (zfB n P i (go, p)).1 (zfB n P i (go, p)).2 q ∧ (∀ c, rq ((zfB n P i (go, p)).1 c) S) ∧ (∀ c, c < n → ∀ k, k < S → (zfB n P i (go, p)).1 c = nI k → go c = nI k ∧ (zfB n P i (go, p)).2 c = p c ∧ (k < i → ¬ P k = true)) ∧ (∀ c k, c < n → k < S → go c = nI k → (P k = true → ¬ k < i) → (zfB n P i (go, p)).1 c = nI k ∧ (zfB n P i (go, p)).2 c = p c)
  | 0, _ => ⟨rfl, hq, hr, fun c _ k _ e => ⟨e, rfl, fun h => absurd h (Nat.not_lt_zero _)⟩, fun c k _ _ e _ => ⟨e, rfl⟩⟩
  | i + 1, hi => by
    obtain ⟨h1, h2, h3, h4, h5⟩ := zfs_all hS hq hr hP i (by omega)
    unfold zfB zfR
    by_cases hp : P i = true
    · rw [if_pos hp, if_pos hp]
      generalize hG : (zfB n P i (go, p)).1 = G at *
      generalize hH : (zfB n P i (go, p)).2 = H at *
      have f1 : fgl n (nI i) G = zng n (nI i) 1 G q := fz_1 (fun c hc e => by
        obtain ⟨a1, a2, _⟩ := h4 c hc i (by omega) e
        have b1 := hP c i hc (by omega) hp a1
        have b2 : H c = q c := zq_at h2 hc (by rw [e]; exact nI_m1 (by omega))
        rcases hq.2 c with w | w
        · exact absurd (a2.symm.trans (b2.trans w)) b1
        · exact w)
      refine ⟨by rw [← h1]; exact f1, fz_2 h2, rq_fg h3, fun c hc k hk e => ?_, fun c k hc hk e hn => ?_⟩
      · replace e : fgl n (nI i) G c = nI k := e
        unfold fgl at e
        by_cases w : c < n ∧ G c = nI i
        · rw [if_pos w] at e
          exact absurd e.symm (nI_m1 (by omega))
        · rw [if_neg w] at e
          obtain ⟨a1, a2, a3⟩ := h4 c hc k hk e
          refine ⟨a1, ?_, fun hlt => ?_⟩
          · show fgp n (nI i) G H c = p c
            unfold fgp
            rw [if_neg w]
            exact a2
          · by_cases ek : k = i
            · subst ek
              exact absurd ⟨hc, e⟩ w
            · exact a3 (by omega)
      · have hki : ¬ k = i := fun ek => by subst ek; exact hn hp (by omega)
        obtain ⟨a1, a2⟩ := h5 c k hc hk e (fun w => by have := hn w; omega)
        have w : ¬ (c < n ∧ G c = nI i) := fun w => hki (nI_i (by omega) (by omega) (a1.symm.trans w.2))
        show fgl n (nI i) G c = nI k ∧ fgp n (nI i) G H c = p c
        unfold fgl fgp
        rw [if_neg w, if_neg w]
        exact ⟨a1, a2⟩
    · rw [if_neg hp, if_neg hp]
      refine ⟨h1, h2, h3, fun c hc k hk e => ?_, fun c k hc hk e hn => ?_⟩
      · obtain ⟨a1, a2, a3⟩ := h4 c hc k hk e
        refine ⟨a1, a2, fun hlt => ?_⟩
        by_cases ek : k = i
        · subst ek
          exact hp
        · exact a3 (by omega)
      · refine h5 c k hc hk e (fun w => ?_)
        have := hn w
        omega
/-- one bell side by side -/
theorem zrs_1 {S n k : Nat} {st ro go p q : Nat → Int32} {A B : Nat → Bool} {W : (Nat → Int32) → Nat → Int32} (hS : S ≤ 64) (hk : k < S) (hst : st k = 1) (hAB : ∀ c, c < n → A c = B c) (hq : ZQ n go p q) (hJ : ZJ S n st ro go p) (hr : ∀ c, rq (go c) S) : zpw (fun c => if go c = -1 ∧ A c = true then nI k else go c) go n = zpw (fun c => if go c = -1 ∧ B c = true then nI k else go c) go n ∧ ZQ n (zpw (fun c => if go c = -1 ∧ A c = true then nI k else go c) go n) p (zpw (fun c => if go c = -1 ∧ B c = true then 0 else q c) q n) ∧ ZJ S n st ro (zpw (fun c => if go c = -1 ∧ A c = true then nI k else go c) go n) p ∧ ∀ c, rq (zpw (fun c => if go c = -1 ∧ A c = true then nI k else go c) go n c) S := by
  have hm := nI_m1 (show k < 1000 by omega)
  have e0 : zpw (fun c => if go c = -1 ∧ A c = true then nI k else go c) go n = zpw (fun c => if go c = -1 ∧ B c = true then nI k else go c) go n := by
    funext c
    unfold zpw
    by_cases hc : c < n
    · rw [if_pos hc, if_pos hc]
      dsimp only
      rw [hAB c hc]
    · rw [if_neg hc, if_neg hc]
  refine ⟨e0, ⟨fun c => ?_, fun c => ?_⟩, ⟨fun c g hc hg e => ?_, fun h c hc e => ?_, hJ.2.2⟩, fun c => ?_⟩
  · have h1 := hq.1 c
    have h2 := hAB c
    unfold zpw
    dsimp only
    grind
  · unfold zpw
    split
    · dsimp only
      split
      · exact Or.inl rfl
      · exact hq.2 c
    · exact hq.2 c
  · unfold zpw at e
    rw [if_pos hc] at e
    dsimp only at e
    by_cases hx : go c = -1 ∧ A c = true
    · rw [if_pos hx] at e
      obtain rfl : k = g := nI_i (by omega) (by omega) e
      have h1 := hq.1 c
      rw [if_neg (fun w => w.2 hx.1)] at h1
      exact ⟨fun w => absurd h1 w, fun _ => hst⟩
    · rw [if_neg hx] at e
      exact hJ.1 c g hc hg e
  · obtain ⟨a1, a2, a3, a4, a5⟩ := hJ.2.1 h c hc e
    refine ⟨a1, a2, a3, ?_, a5⟩
    unfold zpw
    rw [if_pos a2]
    dsimp only
    rw [if_neg (fun w => nI_m1 (show h < 1000 by omega) (a4.symm.trans w.1))]
    exact a4
  · unfold zpw
    split
    · dsimp only
      split
      · exact Or.inr ⟨k, hk, rfl⟩
      · exact hr c
    · exact hr c
/-! THE FULL STATE: the reference's hour, as a function of its rows, numbered as the class's -/
def zVr (ar : Nat → Nat → Int32) : Nat → Nat → Int32 := fun r => if r = 5 then ar 51 else if r = 6 then ar 52 else if r = 7 then ar 53 else if r = 8 then ar 54 else if r = 9 then ar 55 else if r = 10 then ar 56 else if r = 11 then ar 57 else if r = 12 then ar 58 else if r = 14 then ar 59 else if r = 15 then ar 60 else if r = 16 then ar 61 else if r = 17 then ar 62 else if r = 18 then ar 66 else if r = 19 then ar 63 else if r = 20 then ar 64 else if r = 21 then ar 65 else fun _ => 0
theorem zv0_r {ar : Nat → Nat → Int32} : zv0 (zVr ar) := fun r h => by
  unfold zr at h
  rw [decide_eq_false_iff_not] at h
  unfold zVr
  rw [if_neg (by omega), if_neg (by omega), if_neg (by omega), if_neg (by omega), if_neg (by omega), if_neg (by omega), if_neg (by omega), if_neg (by omega), if_neg (by omega), if_neg (by omega), if_neg (by omega), if_neg (by omega), if_neg (by omega), if_neg (by omega), if_neg (by omega), if_neg (by omega)]
theorem zVr_ext {ar w : Nat → Nat → Int32} (h : ∀ r, zr r = true → zVr ar r = w r) (h0 : zv0 w) : zVr ar = w := by
  funext r
  cases hz : zr r with
  | true => exact h r hz
  | false => rw [zv0_r r hz, h0 r hz]
def wRoT (S a n m : Nat) (t : Int32) (w : Nat → Nat → Int32) : zR3 := zit (zgRs a n (w 5) (w 17) (w 16) (w 18)) m (w 11, w 20, t)
def wRo (S a n : Nat) (t : Int32) (w : Nat → Nat → Int32) : Nat → Nat → Int32 := uA (uA w 11 (wRoT S a n S t w).1) 20 (wRoT S a n S t w).2.1
noncomputable def wWkT (S a n m : Nat) (w : Nat → Nat → Int32) : zW4 := zit (zwR S a n (w 15) (w 16) (w 11) (w 12) (w 18)) m (w 5, w 8, w 10, w 17)
def wW4 (w : Nat → Nat → Int32) : zW4 → Nat → Nat → Int32
  | (st, fu, we, go) => uA (uA (uA (uA w 5 st) 8 fu) 10 we) 17 go
noncomputable def wWk (S a n m : Nat) (w : Nat → Nat → Int32) : Nat → Nat → Int32 := wW4 w (wWkT S a n m w)
def wPf (S a l0 h : Nat) (da C R P M : Nat → Int32) (w : Nat → Nat → Int32) : (Nat → Int32) → (Nat → Int32) → Nat → Nat → Int32 := fun st fu c k => zpR1 (fo da (nI (h / 24)) l0 0 (-1)) (zvk a (w 7) (w 6) fu (w 14) (w 15) (w 16) h (zcn st 1 S) c k) C R P M
def wBuT (S a n l0 h m : Nat) (da C R P M : Nat → Int32) (w : Nat → Nat → Int32) : zB8 := zit (zbRs n (w 18) (wPf S a l0 h da C R P M w)) m (w 5, w 8, w 9, w 10, w 11, w 17, w 19, w 21)
def wB8 (w : Nat → Nat → Int32) : zB8 → Nat → Nat → Int32
  | (st, fu, wm, we, ro, go, pa, sa) => uA (uA (uA (uA (uA (uA (uA (uA w 5 st) 8 fu) 9 wm) 10 we) 11 ro) 17 go) 19 pa) 21 sa
def wBu (S a n l0 h m : Nat) (da C R P M : Nat → Int32) (w : Nat → Nat → Int32) : Nat → Nat → Int32 := wB8 w (wBuT S a n l0 h m da C R P M w)
def wFg (n m : Nat) (P : Nat → Bool) (w : Nat → Nat → Int32) : Nat → Nat → Int32 := uA w 17 (zfR n (w 18) P m (w 17))
/-- the reference's bells, one after the other -/
def wRiT (S a n l0 h : Nat) (da C R P M : Nat → Int32) (B : Nat → Bool) (w : Nat → Nat → Int32) : Nat → (Nat → Int32) × (Nat → Int32)
  | 0 => (w 17, w 18)
  | k + 1 => if B k = true then (zpw (zrW a h (fo da (nI (h / 24)) l0 0 (-1)) (zcn (w 5) 1 S) (w 7) (w 6) (w 8) (w 14) (w 15) (w 16) C R P M k (wRiT S a n l0 h da C R P M B w k).1) (wRiT S a n l0 h da C R P M B w k).1 n, zpw (zrP a h (fo da (nI (h / 24)) l0 0 (-1)) (zcn (w 5) 1 S) (w 7) (w 6) (w 8) (w 14) (w 15) (w 16) C R P M k (wRiT S a n l0 h da C R P M B w k).1 (wRiT S a n l0 h da C R P M B w k).2) (wRiT S a n l0 h da C R P M B w k).2 n) else wRiT S a n l0 h da C R P M B w k
def wRi (S a n l0 h m : Nat) (da C R P M : Nat → Int32) (B : Nat → Bool) (w : Nat → Nat → Int32) : Nat → Nat → Int32 := uA (uA w 17 (wRiT S a n l0 h da C R P M B w m).1) 18 (wRiT S a n l0 h da C R P M B w m).2
/-- the reference's hour -/
noncomputable def wF (S a n l0 h : Nat) (t : Int32) (da C R P M : Nat → Int32) (w : Nat → Nat → Int32) : Nat → Nat → Int32 := wBu S a n l0 h S da C R P M (wWk S a n n (wRo S a n t (zvGo S a n w)))
noncomputable def wE (S a b n l0 h : Nat) (wi : Int32) (da C R P M : Nat → Int32) (w : Nat → Nat → Int32) : Nat → Nat → Int32 := wRi S a n l0 h S da C R P M (zbr S a b wi (w 5) (w 9)) (wFg n S (zbr S a b wi (w 5) (w 9)) (zvWa S a b wi w))
noncomputable def wH (S a b n l0 h : Nat) (wi t : Int32) (da C R P M : Nat → Int32) (w : Nat → Nat → Int32) : Nat → Nat → Int32 := wE S a b n l0 h wi da C R P M (wF S a n l0 h t da C R P M w)
noncomputable def wHt (S a n : Nat) (t : Int32) (w : Nat → Nat → Int32) : Int32 := (wRoT S a n S t (zvGo S a n w)).2.2
/-- class and reference side by side -/
def ZS (S n : Nat) (v w : Nat → Nat → Int32) : Prop := (∀ r, ¬ r = 18 → v r = w r) ∧ ZQ n (v 17) (v 18) (w 18) ∧ ZJ S n (v 5) (v 11) (v 17) (v 18) ∧ (∀ c, rq (v 17 c) S) ∧ ∀ h, rq (v 11 h) 8
/-- the laws say the same in both -/
def ZLaw (S l0 : Nat) (co en C R P M : Nat → Int32) : Prop := ∀ (l : Nat), l < l0 → ∀ (kn : Nat → Int32) (kx : Int32 → Int32), (∀ i, i < 8 → kx (nI i) = kn i) → ((zEv kn co en l).1 = 0 ↔ zrul kx C R P l 0 (M l).toNatClampNeg = 0) ∧ (zEv kn co en l).2 = zrul kx C R P l 1 (M l).toNatClampNeg
theorem fo_rq {D : Nat → Int32} {dy : Int32} : ∀ (m l : Nat) (b : Int32), rq b l → rq (fo D dy m l b) (l + m)
  | 0, l, b, h => h
  | m + 1, l, b, h => by
    have := fo_rq (D := D) (dy := dy) m (l + 1) (if D l ≤ dy ∧ (b = -1 ∨ D b.toNatClampNeg ≤ D l) then nI l else b) (by
      split
      · exact Or.inr ⟨l, by omega, rfl⟩
      · rcases h with h | ⟨x, h1, h2⟩
        · exact Or.inl h
        · exact Or.inr ⟨x, by omega, h2⟩)
    rw [show l + (m + 1) = l + 1 + m by omega]
    exact this
theorem zlaw_c {S a l0 h : Nat} {co en C R P M da : Nat → Int32} {wa wo fu ow me pl : Nat → Int32} {fi : Int32} {c k : Nat} (hl : l0 < 7) (hL : ZLaw S l0 co en C R P M) : zcal (fo da (nI (h / 24)) l0 0 (-1)) (zkw a wa wo fu ow me pl h fi c k) co en (ow c) (wa k) = zcR (fo da (nI (h / 24)) l0 0 (-1)) (zvk a wa wo fu ow me pl h fi c k) C R P M (ow c) (wa k) := by
  have hr := fo_rq (D := da) (dy := nI (h / 24)) l0 0 (-1) (Or.inl rfl)
  generalize fo da (nI (h / 24)) l0 0 (-1) = x at *
  unfold zcal zcR
  rcases hr with rfl | ⟨n, hn, rfl⟩
  · rw [if_pos rfl, if_pos rfl]
  · have hm := nI_m1 (show n < 1000 by omega)
    rw [if_neg hm, if_neg hm, nI_clamp (by omega)]
    have := (hL n (by omega) (zkw a wa wo fu ow me pl h fi c k) (zvk a wa wo fu ow me pl h fi c k) (fun i hi => zvl_k i hi)).1
    simp only [this]
theorem zlaw_p {S a l0 h : Nat} {co en C R P M da : Nat → Int32} {w : Nat → Nat → Int32} {st fu : Nat → Int32} {c k : Nat} (hl : l0 < 7) (hL : ZLaw S l0 co en C R P M) : zpf S a l0 h (w 7) (w 6) (w 14) (w 15) (w 16) co en da st fu c k = wPf S a l0 h da C R P M w st fu c k := by
  have hr := fo_rq (D := da) (dy := nI (h / 24)) l0 0 (-1) (Or.inl rfl)
  unfold zpf wPf zpR1
  generalize fo da (nI (h / 24)) l0 0 (-1) = x at *
  rcases hr with rfl | ⟨n, hn, rfl⟩
  · rw [if_pos rfl, if_pos rfl]
  · have hm := nI_m1 (show n < 1000 by omega)
    rw [if_neg hm, if_neg hm, nI_clamp (by omega)]
    exact (hL n (by omega) _ (zvk a (w 7) (w 6) fu (w 14) (w 15) (w 16) h (zcn st 1 S) c k) (fun i hi => zvl_k i hi)).2
/-! THE FULL STATE: an hour side by side -/
theorem zs_go {S a n : Nat} {v w : Nat → Nat → Int32} (h : ZS S n v w) : ZS S n (zvGo S a n v) (zvGo S a n w) := by
  obtain ⟨h1, h2⟩ := h
  refine ⟨fun r hr => ?_, h2⟩
  unfold zvGo
  rw [h1 5 (by decide), h1 17 (by decide), h1 16 (by decide)]
  unfold uA
  split
  · rfl
  · exact h1 r hr
theorem rq_r1 {S a n k : Nat} {go pl : Nat → Int32} (hn : n < 9) (s : (Nat → Int32) × (Nat → Int32)) (h : ∀ x, rq (s.1 x) 8) : ∀ i, i ≤ n → ∀ x, rq ((zit (zgr a k go pl) i s).1 x) 8
  | 0, _ => h
  | i + 1, hi => by
    have ih := rq_r1 (S := S) (a := a) (k := k) (go := go) (pl := pl) hn s h i (by omega)
    intro x
    show rq ((zgr a k go pl i (zit (zgr a k go pl) i s)).1 x) 8
    generalize zit (zgr a k go pl) i s = u at *
    unfold zgr
    split
    · split
      · show rq (upd u.1 k (nI i) x) 8
        unfold upd
        split
        · exact Or.inr ⟨i, by omega, rfl⟩
        · exact ih x
      · exact ih x
    · exact ih x
theorem rq_ro {S a n : Nat} {st go pl : Nat → Int32} (hn : n < 9) (s : (Nat → Int32) × (Nat → Int32)) (h : ∀ x, rq (s.1 x) 8) : ∀ i, ∀ x, rq ((zit (zgrs a n st go pl) i s).1 x) 8
  | 0 => h
  | i + 1 => by
    have ih := rq_ro (S := S) (a := a) (st := st) (go := go) (pl := pl) hn s h i
    intro x
    show rq ((zgrs a n st go pl i (zit (zgrs a n st go pl) i s)).1 x) 8
    generalize zit (zgrs a n st go pl) i s = u at *
    unfold zgrs
    split
    · exact rq_r1 (S := S) hn u ih n (Nat.le_refl _) x
    · exact ih x
theorem zs_ro {S a n : Nat} {t : Int32} {v w : Nat → Nat → Int32} (hS : S ≤ 64) (hn : n < 9) (h : ZS S n v w) : ZS S n (zvRo S a n v) (wRo S a n t w) := by
  obtain ⟨h1, h2, h3, h4, h5⟩ := h
  have e := zsim_ro (a := a) (pl := v 16) hS h2 h3.1 (v 11) (v 20) t S (Nat.le_refl _)
  have eT : zRoT S a n v = ((wRoT S a n S t w).1, (wRoT S a n S t w).2.1) := by
    unfold zRoT wRoT
    rw [← h1 5 (by decide), ← h1 17 (by decide), ← h1 16 (by decide), ← h1 11 (by decide), ← h1 20 (by decide)]
    exact e.symm
  refine ⟨fun r hr => ?_, h2, ?_, h4, ?_⟩
  · unfold zvRo wRo
    rw [eT]
    unfold uA
    split
    · rfl
    · split
      · rfl
      · exact h1 r hr
  · exact zj_ro hS hn (v 11) (v 20) h3 S (Nat.le_refl _)
  · exact rq_ro (S := S) hn (v 11, v 20) h5 S
theorem zs_wk {S a n : Nat} {v w : Nat → Nat → Int32} (hS : S ≤ 64) (h : ZS S n v w) : ZS S n (zvWk S a n v) (wWk S a n n w) := by
  obtain ⟨h1, h2, h3, h4, h5⟩ := h
  have h0 : ZWS S n (v 11) (w 18) (v 5, v 8, v 10, v 17, v 18) (w 5, w 8, w 10, w 17) := by
    refine ⟨h1 5 (by decide), h1 8 (by decide), h1 10 (by decide), h1 17 (by decide), ?_, ?_, ?_⟩
    · show ZQ n (w 17) (v 18) (w 18)
      rw [← h1 17 (by decide)]
      exact h2
    · show ZJ S n (w 5) (v 11) (w 17) (v 18)
      rw [← h1 17 (by decide), ← h1 5 (by decide)]
      exact h3
    · show ∀ c, rq (w 17 c) S
      rw [← h1 17 (by decide)]
      exact h4
  have e := zws_all (a := a) (me := v 15) (pl := v 16) (du := v 12) hS h0 n (Nat.le_refl _)
  unfold zvWk wWk
  have e1 : zWkT S a n v = zit (zwk S a n (v 15) (v 16) (v 11) (v 12)) n (v 5, v 8, v 10, v 17, v 18) := rfl
  have e2 : wWkT S a n n w = zit (zwR S a n (v 15) (v 16) (v 11) (v 12) (w 18)) n (w 5, w 8, w 10, w 17) := by
    unfold wWkT
    rw [h1 15 (by decide), h1 16 (by decide), h1 11 (by decide), h1 12 (by decide)]
  rw [← e1, ← e2] at e
  generalize zWkT S a n v = s at *
  generalize wWkT S a n n w = u at *
  obtain ⟨st, fu, we, go, p⟩ := s
  obtain ⟨st', fu', we', go'⟩ := u
  obtain ⟨f1, f2, f3, f4, f5, f6, f7⟩ := e
  obtain rfl : st = st' := f1
  obtain rfl : fu = fu' := f2
  obtain rfl : we = we' := f3
  obtain rfl : go = go' := f4
  refine ⟨fun r hr => ?_, f5, f6, f7, h5⟩
  unfold wW4
  dsimp only
  unfold uA
  rw [if_neg hr]
  split
  · rfl
  · split
    · rfl
    · split
      · rfl
      · split
        · rfl
        · exact h1 r hr
theorem zs_bu {S a n l0 h : Nat} {co en da C R P M : Nat → Int32} {v w : Nat → Nat → Int32} (hS : S ≤ 64) (hn : n < 9) (hl : l0 < 7) (hL : ZLaw S l0 co en C R P M) (hs : ZS S n v w) : ZS S n (zvBu S a n l0 h co en da v) (wBu S a n l0 h S da C R P M w) := by
  obtain ⟨h1, h2, h3, h4, h5⟩ := hs
  have h0 : ZBS S n (w 18) (v 5, v 8, v 9, v 10, v 11, v 17, v 18, v 19, v 21) (w 5, w 8, w 9, w 10, w 11, w 17, w 19, w 21) := ⟨h1 5 (by decide), h1 8 (by decide), h1 9 (by decide), h1 10 (by decide), h1 11 (by decide), h1 17 (by decide), h1 19 (by decide), h1 21 (by decide), h2, h3, h4, h5⟩
  have e := zbs_all (pf := zpf S a l0 h (v 7) (v 6) (v 14) (v 15) (v 16) co en da) (pg := wPf S a l0 h da C R P M w) hS hn (fun st fu c k _ _ => by
    rw [h1 7 (by decide), h1 6 (by decide), h1 14 (by decide), h1 15 (by decide), h1 16 (by decide)]
    exact zlaw_p hl hL) h0 S (Nat.le_refl _)
  unfold zvBu wBu
  have e1 : zBuT S a n l0 h co en da v = zit (zbn n (zpf S a l0 h (v 7) (v 6) (v 14) (v 15) (v 16) co en da)) S (v 5, v 8, v 9, v 10, v 11, v 17, v 18, v 19, v 21) := rfl
  have e2 : wBuT S a n l0 h S da C R P M w = zit (zbRs n (w 18) (wPf S a l0 h da C R P M w)) S (w 5, w 8, w 9, w 10, w 11, w 17, w 19, w 21) := rfl
  rw [← e1, ← e2] at e
  generalize zBuT S a n l0 h co en da v = s at *
  generalize wBuT S a n l0 h S da C R P M w = u at *
  obtain ⟨st, fu, wm, we, ro, go, p, pa, sa⟩ := s
  obtain ⟨st', fu', wm', we', ro', go', pa', sa'⟩ := u
  obtain ⟨rfl, rfl, rfl, rfl, rfl, rfl, rfl, rfl, f5, f6, f7, f8⟩ := e
  refine ⟨fun r hr => ?_, f5, f6, f7, f8⟩
  unfold zvB9 wB8
  dsimp only
  unfold uA
  rw [if_neg hr]
  split
  · rfl
  · split
    · rfl
    · split
      · rfl
      · split
        · rfl
        · split
          · rfl
          · split
            · rfl
            · split
              · rfl
              · split
                · rfl
                · exact h1 r hr
/-! THE FULL STATE: beginnings and bells side by side -/
theorem zsr_at {S a b k : Nat} {wi : Int32} {st wm : Nat → Int32} (hk : k < S) : zsr S a b wi st wm k = if zbr S a b wi st wm k = true then 1 else st k := if_pos hk
theorem zbr_0 {S a b k : Nat} {wi : Int32} {st wm : Nat → Int32} (h : zbr S a b wi st wm k = true) : st k = 0 := by
  unfold zbr zbg at h
  rw [decide_eq_true_eq] at h
  exact h.1
theorem zbell {S a n h : Nat} {x1 fi : Int32} {co en C R P M : Nat → Int32} {wa wo fu ow me pl : Nat → Int32} {B : Nat → Bool} {st ro G H Q : Nat → Int32} (hS : S ≤ 64) (hst : ∀ k, k < S → B k = true → st k = 1) (hc : ∀ c k, zcal x1 (zkw a wa wo fu ow me pl h fi c k) co en (ow c) (wa k) = zcR x1 (zvk a wa wo fu ow me pl h fi c k) C R P M (ow c) (wa k)) (T : Nat → (Nat → Int32) × (Nat → Int32)) (hT0 : T 0 = (G, Q)) (hTs : ∀ k, T (k + 1) = if B k = true then (zpw (zrW a h x1 fi wa wo fu ow me pl C R P M k (T k).1) (T k).1 n, zpw (zrP a h x1 fi wa wo fu ow me pl C R P M k (T k).1 (T k).2) (T k).2 n) else T k) (hq : ZQ n G H Q) (hJ : ZJ S n st ro G H) (hr : ∀ c, rq (G c) S) : ∀ i, i ≤ S → zrB a n h x1 fi wa wo fu ow me pl co en B i G = (T i).1 ∧ ZQ n (T i).1 H (T i).2 ∧ ZJ S n st ro (T i).1 H ∧ ∀ c, rq ((T i).1 c) S
  | 0, _ => by
    rw [hT0]
    exact ⟨rfl, hq, hJ, hr⟩
  | i + 1, hi => by
    obtain ⟨h1, h2, h3, h4⟩ := zbell hS hst hc T hT0 hTs hq hJ hr i (by omega)
    unfold zrB
    rw [hTs]
    by_cases hb : B i = true
    · rw [if_pos hb, if_pos hb, h1]
      have z := zrs_1 (W := fun f => f) (A := fun c => zcal x1 (zkw a wa wo fu ow me pl h fi c i) co en (ow c) (wa i)) (B := fun c => zcR x1 (zvk a wa wo fu ow me pl h fi c i) C R P M (ow c) (wa i)) hS (show i < S by omega) (hst i (by omega) hb) (fun c _ => hc c i) h2 h3 h4
      obtain ⟨z1, z2, z3, z4⟩ := z
      refine ⟨z1, ?_, ?_, ?_⟩
      · show ZQ n (zpw (zrW a h x1 fi wa wo fu ow me pl C R P M i (T i).1) (T i).1 n) H _
        rw [show zpw (zrW a h x1 fi wa wo fu ow me pl C R P M i (T i).1) (T i).1 n = _ from z1.symm]
        exact z2
      · show ZJ S n st ro (zpw (zrW a h x1 fi wa wo fu ow me pl C R P M i (T i).1) (T i).1 n) H
        rw [show zpw (zrW a h x1 fi wa wo fu ow me pl C R P M i (T i).1) (T i).1 n = _ from z1.symm]
        exact z3
      · show ∀ c, rq (zpw (zrW a h x1 fi wa wo fu ow me pl C R P M i (T i).1) (T i).1 n c) S
        rw [show zpw (zrW a h x1 fi wa wo fu ow me pl C R P M i (T i).1) (T i).1 n = _ from z1.symm]
        exact z4
    · rw [if_neg hb, if_neg hb]
      exact ⟨h1, h2, h3, h4⟩
theorem zs_we {S a b n l0 h : Nat} {wi : Int32} {co en da C R P M : Nat → Int32} {v w : Nat → Nat → Int32} (hS : S ≤ 64) (hl : l0 < 7) (hL : ZLaw S l0 co en C R P M) (hs : ZS S n v w) : ZS S n (zvE S a b n l0 h wi co en da v) (wE S a b n l0 h wi da C R P M w) := by
  obtain ⟨h1, h2, h3, h4, h5⟩ := hs
  have e5 := h1 5 (by decide)
  have e9 := h1 9 (by decide)
  have e17 := h1 17 (by decide)
  obtain ⟨B, hB⟩ : ∃ B, B = zbr S a b wi (v 5) (v 9) := ⟨_, rfl⟩
  have hf := zfs_all (P := B) hS h2 h4 (fun c k hc hk hp e hz => by
    have := (h3.1 c k hc hk e).2 hz
    rw [hB] at hp
    rw [zbr_0 hp] at this
    exact absurd this (by decide)) S (Nat.le_refl _)
  obtain ⟨f1, f2, f3, f4, f5⟩ := hf
  generalize hG : (zfB n B S (v 17, v 18)).1 = G at *
  generalize hH : (zfB n B S (v 17, v 18)).2 = H at *
  have hst : ∀ k, k < S → B k = true → zsr S a b wi (v 5) (v 9) k = 1 := fun k hk hp => by
    rw [zsr_at hk, ← hB, if_pos hp]
  have hJ : ZJ S n (zsr S a b wi (v 5) (v 9)) (v 11) G H := by
    refine ⟨fun c g hc hg e => ?_, fun x c hc e => ?_, fun c => ?_⟩
    · obtain ⟨a1, a2, a3⟩ := f4 c hc g hg e
      rw [zsr_at hg, ← hB, if_neg (a3 hg), a2]
      exact h3.1 c g hc hg a1
    · obtain ⟨a1, a2, a3, a4, a5⟩ := h3.2.1 x c hc e
      have hn : ¬ B x = true := fun hp => by
        rw [hB] at hp
        rw [zbr_0 hp] at a3
        exact absurd a3 (by decide)
      obtain ⟨b1, b2⟩ := f5 c x a2 a1 a4 (fun hp => absurd hp hn)
      refine ⟨a1, a2, ?_, b1, b2.trans a5⟩
      rw [zsr_at a1, ← hB, if_neg hn]
      exact a3
    · have := f2.1 c
      rw [this]
      split
      · exact f2.2 c
      · exact Or.inl rfl
  have hb := zbell (a := a) (h := h) (x1 := fo da (nI (h / 24)) l0 0 (-1)) (fi := zcn (zsr S a b wi (v 5) (v 9)) 1 S) (co := co) (en := en) (C := C) (R := R) (P := P) (M := M) (wa := v 7) (wo := v 6) (fu := v 8) (ow := v 14) (me := v 15) (pl := v 16) (Q := w 18) hS hst (fun c k => zlaw_c hl hL) (wRiT S a n l0 h da C R P M B (wFg n S B (zvWa S a b wi w))) (by
    show (zfR n (w 18) B S (w 17), w 18) = (G, w 18)
    rw [f1, e17]) (fun k => by
    have r7 := h1 7 (by decide)
    have r6 := h1 6 (by decide)
    have r8 := h1 8 (by decide)
    have r14 := h1 14 (by decide)
    have r15 := h1 15 (by decide)
    have r16 := h1 16 (by decide)
    rw [r7, r6, r8, r14, r15, r16, e5, e9]
    rfl) f2 hJ f3 S (Nat.le_refl _)
  obtain ⟨b1, b2, b3, b4⟩ := hb
  have ew : wE S a b n l0 h wi da C R P M w = wRi S a n l0 h S da C R P M B (wFg n S B (zvWa S a b wi w)) := by
    unfold wE
    rw [hB, e5, e9]
  have ev : zvE S a b n l0 h wi co en da v = zvRi S a n l0 h co en da B (zvWa S a b wi v) := by
    unfold zvE
    rw [hB]
  rw [ev, ew]
  have g17 : zvRi S a n l0 h co en da B (zvWa S a b wi v) 17 = (wRiT S a n l0 h da C R P M B (wFg n S B (zvWa S a b wi w)) S).1 := by
    rw [← b1, ← hG]
    rfl
  have g18 : zvRi S a n l0 h co en da B (zvWa S a b wi v) 18 = H := hH
  refine ⟨fun r hr => ?_, ?_, ?_, ?_, h5⟩
  · by_cases r17 : r = 17
    · subst r17
      rw [g17]
      rfl
    · unfold zvRi wRi wFg zvWa uA
      rw [if_neg hr, if_neg hr, if_neg r17, if_neg r17, if_neg r17, e5, e9]
      split
      · rfl
      · split
        · rfl
        · exact h1 r hr
  · rw [g17, g18]
    exact b2
  · rw [g17, g18]
    exact b3
  · rw [g17]
    exact b4
theorem zs_H {S a b n l0 h : Nat} {wi t : Int32} {co en da C R P M : Nat → Int32} {v w : Nat → Nat → Int32} (hS : S ≤ 64) (hn : n < 9) (hl : l0 < 7) (hL : ZLaw S l0 co en C R P M) (hs : ZS S n v w) : ZS S n (zvH S a b n l0 h wi co en da v) (wH S a b n l0 h wi t da C R P M w) := zs_we hS hl hL (zs_bu hS hn hl hL (zs_wk hS (zs_ro hS hn (zs_go hs))))
/-! THE FULL STATE: what the public methods leave -/
noncomputable def zHs (S a b n l0 h0 : Nat) (wi : Int32) (co en da : Nat → Int32) : Nat → (Nat → Nat → Int32) → Nat → Nat → Int32
  | 0, v => v
  | i + 1, v => zvH S a b n l0 (h0 + i) wi co en da (zHs S a b n l0 h0 wi co en da i v)
/-- a house is told -/
def zho (n : Nat) (x2 x3 x : Int32) (st wo wa fu wm we du st' wo' wa' fu' wm' we' : Nat → Int32) : Prop := (((1 ≤ x2 ∧ x2 ≤ 9) ∧ 0 ≤ x3 ∧ x3 ≤ 7) ∧ zbd n x2 x3 x st wo wa fu wm we du st' wo' wa' fu' wm' we') ∨ (¬ ((1 ≤ x2 ∧ x2 ≤ 9) ∧ 0 ≤ x3 ∧ x3 ≤ 7) ∧ x = 0 ∧ st' = st ∧ wo' = wo ∧ wa' = wa ∧ fu' = fu ∧ wm' = wm ∧ we' = we)
def zwe (n : Nat) (k x : Int32) (st du du' : Nat → Int32) : Prop := (x = 1 ∧ (st n = -1 ∧ ¬ du n = k) ∧ du' = upd du n k) ∨ (x = 0 ∧ ¬ (st n = -1 ∧ ¬ du n = k) ∧ du' = du)
/-- a company is sent, or told to pull -/
def zor (c k : Nat) (d x : Int32) (st ro go pu ro' go' pu' : Nat → Int32) : Prop := (x = 1 ∧ (st k = d ∧ ¬ go c = nI k) ∧ ro' = (if ¬ go c = -1 ∧ ro (go c).toNatClampNeg = nI c then upd ro (go c).toNatClampNeg (-1) else ro) ∧ go' = upd go c (nI k) ∧ pu' = upd pu c (if d = 0 then 1 else 0)) ∨ (x = 0 ∧ ¬ (st k = d ∧ ¬ go c = nI k) ∧ ro' = ro ∧ go' = go ∧ pu' = pu)
/-- what is asked of a cell, of a company -/
def zce (w : Int32) (st wo wa fu wm we ro du : Int32) : Int32 := if w = 0 then st else if w = 1 then wo else if w = 2 then wa else if w = 3 then fu else if w = 4 then wm else if w = 5 then we else if w = 6 then ro else (if ¬ du = 0 then 1 else 0)
theorem zwe_b {k n : Nat} {du : Nat → Int32} (h : k < 2) : upd du n (vp_nar .boolean (nI k)) = upd du n (nI k) := by
  have : k = 0 ∨ k = 1 := by omega
  rcases this with rfl | rfl <;> rfl
def zli (a n h k : Nat) (x1 fi : Int32) (wa wo fu ow me pl co en go pu go' pu' : Nat → Int32) : Prop := go' = zpw (zrbW a h x1 fi wa wo fu ow me pl co en k (fgl n (nI k) go)) (fgl n (nI k) go) n ∧ pu' = fgp n (nI k) go pu
theorem zli_of {a n h k : Nat} {x1 fi : Int32} {wa wo fu ow me pl co en go pu go' pu' fr : Nat → Int32} (hk : k < 64) (h1 : go' = zrgA a n h x1 fi wa wo fu ow me pl co en fr 1 (zfgA n fr 1 (go, pu)).1) (h2 : pu' = (zfgA n fr 1 (go, pu)).2) (e : fr 0 = nI k) : zli a n h k x1 fi wa wo fu ow me pl co en go pu go' pu' := by
  unfold zrgA zrgA zfgA zfgA at h1
  unfold zfgA zfgA at h2
  rw [e] at h1 h2
  rw [nI_clamp (by omega)] at h1
  exact ⟨h1, h2⟩
theorem zor_u {c : Nat} {d : Int32} {pu : Nat → Int32} (h : d = 0) : upd pu c (vp_nar .boolean 1) = upd pu c (if d = 0 then 1 else 0) := by
  rw [if_pos h]
  rfl
theorem zor_v {c : Nat} {d : Int32} {pu : Nat → Int32} (h : ¬ d = 0) : upd pu c (vp_nar .boolean 0) = upd pu c (if d = 0 then 1 else 0) := by
  rw [if_neg h]
  rfl
theorem zor_m {c : Nat} {ro go : Nat → Int32} (e : go c = -1) : ro = if ¬ go c = -1 ∧ ro (go c).toNatClampNeg = nI c then upd ro (go c).toNatClampNeg (-1) else ro := (if_neg (fun w => w.1 e)).symm
theorem zor_y {c m : Nat} {ro go : Nat → Int32} (e : go c = nI m) (hm : m < 64) (q : ro m = nI c) : upd ro m (-1) = if ¬ go c = -1 ∧ ro (go c).toNatClampNeg = nI c then upd ro (go c).toNatClampNeg (-1) else ro := by
  have e1 : (go c).toNatClampNeg = m := by rw [e, nI_clamp (by omega)]
  rw [if_pos ⟨fun w => nI_m1 (show m < 1000 by omega) (e.symm.trans w), by rw [e1]; exact q⟩, e1]
theorem zor_n {c m : Nat} {ro go : Nat → Int32} (e : go c = nI m) (hm : m < 64) (q : ¬ ro m = nI c) : ro = if ¬ go c = -1 ∧ ro (go c).toNatClampNeg = nI c then upd ro (go c).toNatClampNeg (-1) else ro := by
  have e1 : (go c).toNatClampNeg = m := by rw [e, nI_clamp (by omega)]
  exact (if_neg (fun w => q (by have := w.2; rw [e1] at this; exact this))).symm
def zno (x : Int32) (m : Nat) : Prop := ∀ j : Nat, j < m → ¬ x = nI j
theorem zno_n {x : Int32} {m j : Nat} (e : x = nI j) (h : j < m) : ¬ zno x m := fun w => w j h e
theorem zno_8 {x : Int32} (h0 : ¬ x = 0) (h1 : ¬ x = 1) (h2 : ¬ x = 2) (h3 : ¬ x = 3) (h4 : ¬ x = 4) (h5 : ¬ x = 5) (h6 : ¬ x = 6) (h7 : ¬ x = 7) : zno x 8
  | 0, _ => h0
  | 1, _ => h1
  | 2, _ => h2
  | 3, _ => h3
  | 4, _ => h4
  | 5, _ => h5
  | 6, _ => h6
  | 7, _ => h7
  | n + 8, h => absurd h (by omega)
theorem zno_10 {x : Int32} (h0 : ¬ x = 0) (h1 : ¬ x = 1) (h2 : ¬ x = 2) (h3 : ¬ x = 3) (h4 : ¬ x = 4) (h5 : ¬ x = 5) (h6 : ¬ x = 6) (h7 : ¬ x = 7) (h8 : ¬ x = 8) (h9 : ¬ x = 9) : zno x 10
  | 0, _ => h0
  | 1, _ => h1
  | 2, _ => h2
  | 3, _ => h3
  | 4, _ => h4
  | 5, _ => h5
  | 6, _ => h6
  | 7, _ => h7
  | 8, _ => h8
  | 9, _ => h9
  | n + 10, h => absurd h (by omega)
def zof (w ow me pl go pu pa qu sa : Int32) : Int32 := if w = 0 then ow else if w = 1 then me else if w = 2 then pl else if w = 3 then go else if w = 4 then (if ¬ pu = 0 then 1 else 0) else if w = 5 then pa else if w = 6 then qu else sa
def zct (w v0 v1 v2 v3 v4 v5 v6 v7 v8 v9 : Int32) : Int32 := if w = 0 then v0 else if w = 1 then v1 else if w = 2 then v2 else if w = 3 then v3 else if w = 4 then v4 else if w = 5 then v5 else if w = 6 then v6 else if w = 7 then v7 else if w = 8 then v8 else v9
theorem zho_0 {n : Nat} {x2 x3 : Int32} {st wo wa fu wm we du : Nat → Int32} (h : ¬ (du n = 0 ∧ ¬ st n = 0 ∧ ¬ st n = 1)) : zho n x2 x3 0 st wo wa fu wm we du st wo wa fu wm we := by
  by_cases w : (1 ≤ x2 ∧ x2 ≤ 9) ∧ 0 ≤ x3 ∧ x3 ≤ 7
  · exact Or.inl ⟨w, Or.inr ⟨rfl, h, rfl, rfl, rfl, rfl, rfl, rfl⟩⟩
  · exact Or.inr ⟨w, rfl, rfl, rfl, rfl, rfl, rfl, rfl⟩
def zar (c k : Nat) (d q x : Int32) (st ro go pu ro' go' pu' : Nat → Int32) : Prop := (x = 1 ∧ (st k = d ∧ ¬ (go c = nI k ∧ pu c = q)) ∧ ro' = fgl 64 (nI c) ro ∧ go' = upd go c (nI k) ∧ pu' = upd pu c q) ∨ (x = 0 ∧ ¬ (st k = d ∧ ¬ (go c = nI k ∧ pu c = q)) ∧ ro' = ro ∧ go' = go ∧ pu' = pu)
/-! THE FULL STATE: all quarrels -/
theorem zsm_o {f : Nat → Int32} {c : Nat} {v : Int32} : ∀ n, n ≤ c → zsm (upd f c v) n = zsm f n
  | 0, _ => rfl
  | n + 1, h => by
    unfold zsm
    rw [zsm_o n (by omega)]
    unfold upd
    rw [if_neg (show ¬ n = c by omega)]
theorem zsm_u {f : Nat → Int32} {c : Nat} : ∀ n, c < n → zsm (upd f c (f c + 1)) n = zsm f n + 1
  | 0, h => absurd h (Nat.not_lt_zero _)
  | n + 1, h => by
    have e1 : zsm (upd f c (f c + 1)) (n + 1) = zsm (upd f c (f c + 1)) n + upd f c (f c + 1) n := rfl
    have e2 : zsm f (n + 1) = zsm f n + f n := rfl
    rw [e1, e2]
    by_cases e : n = c
    · subst e
      rw [zsm_o n (Nat.le_refl _)]
      unfold upd
      rw [if_pos rfl]
      grind
    · rw [zsm_u n (by omega)]
      unfold upd
      rw [if_neg e]
      grind
theorem zsm_r1 {a n k : Nat} {go pl q : Nat → Int32} (s : zR3) : ∀ i, i ≤ n → zsm (zit (zgR a k go pl q) i s).2.1 n - (zit (zgR a k go pl q) i s).2.2 = zsm s.2.1 n - s.2.2
  | 0, _ => rfl
  | i + 1, hi => by
    rw [← zsm_r1 (a := a) (k := k) (go := go) (pl := pl) (q := q) s i (by omega)]
    show zsm (zgR a k go pl q i (zit (zgR a k go pl q) i s)).2.1 n - (zgR a k go pl q i (zit (zgR a k go pl q) i s)).2.2 = _
    generalize zit (zgR a k go pl q) i s = u
    unfold zgR
    split
    · split
      · rfl
      · show zsm (upd u.2.1 i (u.2.1 i + 1)) n - (u.2.2 + 1) = _
        rw [zsm_u n (by omega)]
        grind
    · rfl
theorem zsm_ro {a n : Nat} {st go pl q : Nat → Int32} (s : zR3) : ∀ i, zsm (zit (zgRs a n st go pl q) i s).2.1 n - (zit (zgRs a n st go pl q) i s).2.2 = zsm s.2.1 n - s.2.2
  | 0 => rfl
  | i + 1 => by
    rw [← zsm_ro (a := a) (n := n) (st := st) (go := go) (pl := pl) (q := q) s i]
    show zsm (zgRs a n st go pl q i (zit (zgRs a n st go pl q) i s)).2.1 n - (zgRs a n st go pl q i (zit (zgRs a n st go pl q) i s)).2.2 = _
    generalize zit (zgRs a n st go pl q) i s = u
    unfold zgRs
    split
    · exact zsm_r1 u n (Nat.le_refl _)
    · rfl
/-- the reference's count of quarrels is the sum of the row -/
theorem zsm_Ro {S a n : Nat} {t : Int32} {w : Nat → Nat → Int32} (h : t = zsm (w 20) n) : (wRoT S a n S t w).2.2 = zsm (wRo S a n t w 20) n := by
  have e := zsm_ro (a := a) (n := n) (st := w 5) (go := w 17) (pl := w 16) (q := w 18) (w 11, w 20, t) S
  have e2 : wRo S a n t w 20 = (wRoT S a n S t w).2.1 := rfl
  rw [e2]
  unfold wRoT
  generalize zit (zgRs a n (w 5) (w 17) (w 16) (w 18)) S (w 11, w 20, t) = u at *
  have e3 : zsm u.2.1 n - u.2.2 = zsm (w 20) n - t := e
  rw [h] at e3
  generalize zsm u.2.1 n = x at *
  generalize zsm (w 20) n = y at *
  generalize u.2.2 = z at *
  grind
/-- the hours of the reference, one after the other -/
noncomputable def wHs (S a b n l0 h0 : Nat) (wi : Int32) (da C R P M : Nat → Int32) : Nat → (Nat → Nat → Int32) × Int32 → (Nat → Nat → Int32) × Int32
  | 0, s => s
  | i + 1, s => (wH S a b n l0 (h0 + i) wi (wHs S a b n l0 h0 wi da C R P M i s).2 da C R P M (wHs S a b n l0 h0 wi da C R P M i s).1, wHt S a n (wHs S a b n l0 h0 wi da C R P M i s).2 (wHs S a b n l0 h0 wi da C R P M i s).1)
theorem zs_Hs {S a b n l0 h0 : Nat} {wi : Int32} {co en da C R P M : Nat → Int32} {v : Nat → Nat → Int32} {s : (Nat → Nat → Int32) × Int32} (hS : S ≤ 64) (hn : n < 9) (hl : l0 < 7) (hL : ZLaw S l0 co en C R P M) (hs : ZS S n v s.1) : ∀ i, ZS S n (zHs S a b n l0 h0 wi co en da i v) (wHs S a b n l0 h0 wi da C R P M i s).1
  | 0 => hs
  | i + 1 => zs_H hS hn hl hL (zs_Hs hS hn hl hL hs i)
theorem wB8_20 {w : Nat → Nat → Int32} (t : zB8) : wB8 w t 20 = w 20 := by
  obtain ⟨a1, a2, a3, a4, a5, a6, a7, a8⟩ := t
  rfl
theorem wW4_20 {w : Nat → Nat → Int32} (t : zW4) : wW4 w t 20 = w 20 := by
  obtain ⟨a1, a2, a3, a4⟩ := t
  rfl
theorem wH_20 {S a b n l0 h : Nat} {wi t : Int32} {da C R P M : Nat → Int32} {w : Nat → Nat → Int32} : wH S a b n l0 h wi t da C R P M w 20 = wRo S a n t (zvGo S a n w) 20 := by
  have e1 : wH S a b n l0 h wi t da C R P M w 20 = wF S a n l0 h t da C R P M w 20 := rfl
  rw [e1]
  unfold wF wBu wWk
  rw [wB8_20, wW4_20]
theorem zsm_H {S a b n l0 h : Nat} {wi t : Int32} {da C R P M : Nat → Int32} {w : Nat → Nat → Int32} (e : t = zsm (w 20) n) : wHt S a n t w = zsm (wH S a b n l0 h wi t da C R P M w 20) n := by
  rw [wH_20]
  exact zsm_Ro (w := zvGo S a n w) e
theorem zsm_Hs {S a b n l0 h0 : Nat} {wi : Int32} {da C R P M : Nat → Int32} {s : (Nat → Nat → Int32) × Int32} (e : s.2 = zsm (s.1 20) n) : ∀ i, (wHs S a b n l0 h0 wi da C R P M i s).2 = zsm ((wHs S a b n l0 h0 wi da C R P M i s).1 20) n
  | 0 => e
  | i + 1 => zsm_H (b := b) (l0 := l0) (h := h0 + i) (wi := wi) (da := da) (C := C) (R := R) (P := P) (M := M) (zsm_Hs e i)
/-- light side by side -/
theorem zs_li {S a n h k : Nat} {x1 fi : Int32} {co en C R P M : Nat → Int32} {v w : Nat → Nat → Int32} {go' pu' : Nat → Int32} (hS : S ≤ 64) (hk : k < S) (hs : ZS S n v w) (h0 : v 5 k = 0) (hc : ∀ c k, zcal x1 (zkw a (v 7) (v 6) (v 8) (v 14) (v 15) (v 16) h fi c k) co en (v 14 c) (v 7 k) = zcR x1 (zvk a (v 7) (v 6) (v 8) (v 14) (v 15) (v 16) h fi c k) C R P M (v 14 c) (v 7 k)) (hl : zli a n h k x1 fi (v 7) (v 6) (v 8) (v 14) (v 15) (v 16) co en (v 17) (v 18) go' pu') : go' = zpw (zrW a h x1 fi (v 7) (v 6) (v 8) (v 14) (v 15) (v 16) C R P M k (zng n (nI k) 1 (v 17) (w 18))) (zng n (nI k) 1 (v 17) (w 18)) n ∧ ZS S n (uA (uA (uA v 5 (upd (v 5) k 1)) 17 go') 18 pu') (uA (uA (uA w 5 (upd (w 5) k 1)) 17 go') 18 (zpw (zrP a h x1 fi (v 7) (v 6) (v 8) (v 14) (v 15) (v 16) C R P M k (zng n (nI k) 1 (v 17) (w 18)) (w 18)) (w 18) n)) := by
  obtain ⟨h1, h2, h3, h4, h5⟩ := hs
  obtain ⟨l1, l2⟩ := hl
  have f1 : fgl n (nI k) (v 17) = zng n (nI k) 1 (v 17) (w 18) := fz_1 (fun c hcn e => by
    have hp : v 18 c = w 18 c := zq_at h2 hcn (by rw [e]; exact nI_m1 (by omega))
    have := (h3.1 c k hcn hk e).2
    rw [h0] at this
    rcases h2.2 c with u | u
    · exact absurd (this (hp.trans u)) (by decide)
    · exact u)
  have hJ : ZJ S n (upd (v 5) k 1) (v 11) (fgl n (nI k) (v 17)) (fgp n (nI k) (v 17) (v 18)) := zj_fg hS hk h3 (fun x c hc e => ⟨fun ex => by
    subst ex
    have := (h3.2.1 x c hc e).2.2.1
    rw [h0] at this
    exact absurd this (by decide), e⟩)
  have z := zrs_1 (W := fun f => f) (A := fun c => zcal x1 (zkw a (v 7) (v 6) (v 8) (v 14) (v 15) (v 16) h fi c k) co en (v 14 c) (v 7 k)) (B := fun c => zcR x1 (zvk a (v 7) (v 6) (v 8) (v 14) (v 15) (v 16) h fi c k) C R P M (v 14 c) (v 7 k)) hS hk (show upd (v 5) k 1 k = 1 from if_pos rfl) (fun c _ => hc c k) (fz_2 h2) hJ (rq_fg h4)
  obtain ⟨z1, z2, z3, z4⟩ := z
  have l1' : go' = zpw (fun c => if fgl n (nI k) (v 17) c = -1 ∧ zcal x1 (zkw a (v 7) (v 6) (v 8) (v 14) (v 15) (v 16) h fi c k) co en (v 14 c) (v 7 k) = true then nI k else fgl n (nI k) (v 17) c) (fgl n (nI k) (v 17)) n := l1
  have y1 := l1'.trans z1
  rw [← l1', ← l2] at z2 z3
  rw [← l1'] at z4
  refine ⟨?_, fun r hr => ?_, ?_, ?_, ?_, h5⟩
  · rw [← f1]
    exact y1
  · unfold uA
    rw [if_neg hr, if_neg hr]
    split
    · rfl
    · split
      · rw [h1 5 (by decide)]
      · exact h1 r hr
  · show ZQ n go' pu' _
    rw [← f1]
    exact z2
  · exact z3
  · exact z4
/-! THE FULL STATE: send and pull side by side -/
theorem zs_or {S n c k : Nat} {d q x y : Int32} {v w : Nat → Nat → Int32} {ro' go' pu' ro1 go1 pu1 : Nat → Int32} (hS : S ≤ 64) (hn : n < 9) (hc : c < n) (hk : k < S) (hd : (d = 1 ∧ q = 0) ∨ (d = 0 ∧ q = 1)) (hs : ZS S n v w) (h : zor c k d x (v 5) (v 11) (v 17) (v 18) ro' go' pu') (g : zar c k d q y (w 5) (w 11) (w 17) (w 18) ro1 go1 pu1) : y = x ∧ ro1 = ro' ∧ go1 = go' ∧ ZS S n (uA (uA (uA v 11 ro') 17 go') 18 pu') (uA (uA (uA w 11 ro1) 17 go1) 18 pu1) := by
  obtain ⟨h1, h2, h3, h4, h5⟩ := hs
  have e5 := h1 5 (by decide)
  have e11 := h1 11 (by decide)
  have e17 := h1 17 (by decide)
  rw [← e5, ← e11, ← e17] at g
  have hq : (if d = 0 then (1 : Int32) else 0) = q := by
    rcases hd with ⟨rfl, rfl⟩ | ⟨rfl, rfl⟩ <;> rfl
  have key : (v 5 k = d ∧ ¬ v 17 c = nI k) ↔ (v 5 k = d ∧ ¬ (v 17 c = nI k ∧ w 18 c = q)) := by
    constructor
    · exact fun u => ⟨u.1, fun z => u.2 z.1⟩
    · refine fun u => ⟨u.1, fun z => u.2 ⟨z, ?_⟩⟩
      have hp : v 18 c = w 18 c := zq_at h2 hc (by rw [z]; exact nI_m1 (by omega))
      have j := h3.1 c k hc hk z
      rw [hp, u.1] at j
      rcases hd with ⟨rfl, rfl⟩ | ⟨rfl, rfl⟩
      · exact Classical.byContradiction fun t => absurd (j.1 t) (by decide)
      · rcases h2.2 c with t | t
        · exact absurd (j.2 t) (by decide)
        · exact t
  rcases h with ⟨x1, x2, x3, x4, x5⟩ | ⟨x1, x2, x3, x4, x5⟩
  · rcases g with ⟨y1, y2, y3, y4, y5⟩ | ⟨y1, y2, y3, y4, y5⟩
    · have er : fgl 64 (nI c) (v 11) = if ¬ v 17 c = -1 ∧ v 11 (v 17 c).toNatClampNeg = nI c then upd (v 11) (v 17 c).toNatClampNeg (-1) else v 11 := by
        funext z
        have hj := h3.2.1 z c (by omega)
        unfold fgl
        by_cases hz : z < 64 ∧ v 11 z = nI c
        · obtain ⟨a1, a2, a3, a4, a5⟩ := hj hz.2
          have ez : (v 17 c).toNatClampNeg = z := by rw [a4, nI_clamp (by omega)]
          rw [if_pos hz, if_pos ⟨by rw [a4]; exact nI_m1 (by omega), by rw [ez]; exact hz.2⟩, ez]
          exact (if_pos rfl).symm
        · rw [if_neg hz]
          split
          · rename_i u
            have hne : ¬ z = (v 17 c).toNatClampNeg := fun e => hz ⟨by
              have := (h3.2.1 _ c (by omega) u.2).1
              omega, e ▸ u.2⟩
            exact (if_neg hne).symm
          · rfl
      have ero : ro1 = ro' := by rw [y3, x3, er]
      have ego : go1 = go' := by rw [y4, x4]
      refine ⟨y1.trans x1.symm, ero, ego, fun r hr => ?_, ⟨fun z => ?_, fun z => ?_⟩, ⟨fun c' g' hc' hg' e => ?_, fun z c' hc' e => ?_, fun z => ?_⟩, fun z => ?_, fun z => ?_⟩
      · unfold uA
        rw [if_neg hr, if_neg hr, ero, ego]
        split
        · rfl
        · split
          · rfl
          · exact h1 r hr
      · show pu' z = if z < n ∧ ¬ go' z = -1 then pu1 z else 0
        have := h2.1 z
        have hm := nI_m1 (show k < 1000 by omega)
        rw [x5, x4, y5, hq]
        unfold upd
        grind
      · show pu1 z = 0 ∨ pu1 z = 1
        rw [y5]
        unfold upd
        split
        · rcases hd with ⟨_, e⟩ | ⟨_, e⟩
          · exact Or.inl e
          · exact Or.inr e
        · exact h2.2 z
      · have e : go' c' = nI g' := e
        show (¬ pu' c' = 0 → v 5 g' = 0) ∧ (pu' c' = 0 → v 5 g' = 1)
        rw [x5, hq]
        rw [x4] at e
        unfold upd at e ⊢
        by_cases ec : c' = c
        · rw [if_pos ec] at e ⊢
          obtain rfl : k = g' := nI_i (by omega) (by omega) e
          rw [x2.1]
          rcases hd with ⟨rfl, rfl⟩ | ⟨rfl, rfl⟩
          · exact ⟨fun t => absurd rfl t, fun _ => rfl⟩
          · exact ⟨fun _ => rfl, fun t => absurd t (by decide)⟩
        · rw [if_neg ec] at e ⊢
          exact h3.1 c' g' hc' hg' e
      · have e : ro' z = nI c' := e
        rw [x3, ← er] at e
        unfold fgl at e
        by_cases hz : z < 64 ∧ v 11 z = nI c
        · rw [if_pos hz] at e
          exact absurd e.symm (nI_m1 (by omega))
        · rw [if_neg hz] at e
          obtain ⟨a1, a2, a3, a4, a5⟩ := h3.2.1 z c' hc' e
          have hne : ¬ c' = c := fun t => hz ⟨by omega, t ▸ e⟩
          refine ⟨a1, a2, a3, ?_, ?_⟩
          · show go' c' = nI z
            rw [x4]
            exact (if_neg hne).trans a4
          · show pu' c' = 0
            rw [x5]
            exact (if_neg hne).trans a5
      · show pu' z = 0 ∨ pu' z = 1
        rw [x5, hq]
        unfold upd
        split
        · rcases hd with ⟨_, e⟩ | ⟨_, e⟩
          · exact Or.inl e
          · exact Or.inr e
        · exact h3.2.2 z
      · show rq (go' z) S
        rw [x4]
        unfold upd
        split
        · exact Or.inr ⟨k, hk, rfl⟩
        · exact h4 z
      · show rq (ro' z) 8
        rw [x3, ← er]
        unfold fgl
        split
        · exact Or.inl rfl
        · exact h5 z
    · exact absurd (key.mp x2) y2
  · rcases g with ⟨y1, y2, y3, y4, y5⟩ | ⟨y1, y2, y3, y4, y5⟩
    · exact absurd (key.mpr y2) x2
    · refine ⟨y1.trans x1.symm, y3.trans x3.symm, y4.trans x4.symm, ?_⟩
      have ev : uA (uA (uA v 11 ro') 17 go') 18 pu' = v := by
        rw [x3, x4, x5]
        funext r
        unfold uA
        grind
      have ew : uA (uA (uA w 11 ro1) 17 go1) 18 pu1 = w := by
        rw [y3, y4, y5, e11, e17]
        funext r
        unfold uA
        grind
      rw [ev, ew]
      exact ⟨h1, h2, h3, h4, h5⟩
/-! THE FULL STATE: house and company side by side -/
theorem zs_st {S n k : Nat} {v w : Nat → Nat → Int32} (hS : S ≤ 64) (hk : k < S) (hs : ZS S n v w) (h0 : ¬ v 5 k = 0 ∧ ¬ v 5 k = 1) {f6 f7 f8 f9 f10 : Nat → Int32} : ZS S n (uA (uA (uA (uA (uA (uA v 5 (upd (v 5) k 0)) 6 f6) 7 f7) 8 f8) 9 f9) 10 f10) (uA (uA (uA (uA (uA (uA w 5 (upd (w 5) k 0)) 6 f6) 7 f7) 8 f8) 9 f9) 10 f10) := by
  obtain ⟨h1, h2, h3, h4, h5⟩ := hs
  refine ⟨fun r hr => ?_, h2, ⟨fun c g hc hg e => ?_, fun z c hc e => ?_, h3.2.2⟩, h4, h5⟩
  · unfold uA
    rw [h1 5 (by decide)]
    split
    · rfl
    · split
      · rfl
      · split
        · rfl
        · split
          · rfl
          · split
            · rfl
            · split
              · rfl
              · exact h1 r hr
  · have j := h3.1 c g hc hg e
    have hne : ¬ g = k := fun t => by
      subst t
      by_cases u : v 18 c = 0
      · exact h0.2 (j.2 u)
      · exact h0.1 (j.1 u)
    show (¬ v 18 c = 0 → upd (v 5) k 0 g = 0) ∧ (v 18 c = 0 → upd (v 5) k 0 g = 1)
    unfold upd
    rw [if_neg hne]
    exact j
  · obtain ⟨a1, a2, a3, a4, a5⟩ := h3.2.1 z c hc e
    refine ⟨a1, a2, ?_, a4, a5⟩
    show upd (v 5) k 0 z = 1
    unfold upd
    rw [if_neg (fun t : z = k => h0.2 (t ▸ a3))]
    exact a3
theorem zs_co {S s : Nat} {x1 x2 x3 : Int32} {v w : Nat → Nat → Int32} (hS : S ≤ 64) (h8 : s < 8) (hs : ZS S s v w) : ZS S (s + 1) (uA (uA (uA (uA v 14 (upd (v 14) s x1)) 15 (upd (v 15) s x2)) 16 (upd (v 16) s x3)) 17 (upd (v 17) s (-1))) (uA (uA (uA (uA w 14 (upd (w 14) s x1)) 15 (upd (w 15) s x2)) 16 (upd (w 16) s x3)) 17 (upd (w 17) s (-1))) := by
  obtain ⟨h1, h2, h3, h4, h5⟩ := hs
  refine ⟨fun r hr => ?_, ⟨fun c => ?_, h2.2⟩, ⟨fun c g hc hg e => ?_, fun z c hc e => ?_, h3.2.2⟩, fun c => ?_, h5⟩
  · unfold uA
    rw [h1 14 (by decide), h1 15 (by decide), h1 16 (by decide), h1 17 (by decide)]
    split
    · rfl
    · split
      · rfl
      · split
        · rfl
        · split
          · rfl
          · exact h1 r hr
  · show v 18 c = if c < s + 1 ∧ ¬ upd (v 17) s (-1) c = -1 then w 18 c else 0
    have := h2.1 c
    unfold upd
    grind
  · have e : upd (v 17) s (-1) c = nI g := e
    unfold upd at e
    by_cases ec : c = s
    · rw [if_pos ec] at e
      exact absurd e.symm (nI_m1 (by omega))
    · rw [if_neg ec] at e
      exact h3.1 c g (by omega) hg e
  · obtain ⟨a1, a2, a3, a4, a5⟩ := h3.2.1 z c hc e
    refine ⟨a1, by omega, a3, ?_, a5⟩
    show upd (v 17) s (-1) c = nI z
    unfold upd
    rw [if_neg (show ¬ c = s by omega)]
    exact a4
  · show rq (upd (v 17) s (-1) c) S
    unfold upd
    split
    · exact Or.inl rfl
    · exact h4 c
/-! THE FULL STATE: the reference's hours, step by step -/
theorem zgoW_at {S a i : Nat} {st go pl f : Nat → Int32} (h : f i = pl i) : zgoW S a st go f i = zgoW S a st go pl i := by
  unfold zgoW
  simp only [h]
theorem wgo_s {S a i : Nat} {st go pl f : Nat → Int32} (h : f = zpw (zgoW S a st go pl) pl i) : upd f i (zgoW S a st go f i) = zpw (zgoW S a st go pl) pl (i + 1) := by
  rw [zgoW_at (zpw_at h)]
  exact zpw_u h rfl
theorem zbRs_y {n k : Nat} {q : Nat → Int32} {pf : (Nat → Int32) → (Nat → Int32) → Nat → Nat → Int32} {u r : zB8} (h : u.1 k = 1) (e : r = zbR n q pf k u) : r = zbRs n q pf k u := by
  rw [e]
  exact (if_pos h).symm
theorem zbRs_n {n k : Nat} {q : Nat → Int32} {pf : (Nat → Int32) → (Nat → Int32) → Nat → Nat → Int32} {u : zB8} (h : ¬ u.1 k = 1) : u = zbRs n q pf k u := (if_neg h).symm
theorem zfR_y {n k : Nat} {q go g r : Nat → Int32} {P : Nat → Bool} (h : P k = true) (hg : g = zfR n q P k go) (e : r = zng n (nI k) 1 g q) : r = zfR n q P (k + 1) go := by
  unfold zfR
  rw [if_pos h, ← hg, e]
theorem zfR_n {n k : Nat} {q go g : Nat → Int32} {P : Nat → Bool} (h : ¬ P k = true) (hg : g = zfR n q P k go) : g = zfR n q P (k + 1) go := by
  unfold zfR
  rw [if_neg h, ← hg]
theorem zbI_t {P : Nat → Bool} {k : Nat} (h : ¬ zbI P k = 0) : P k = true := Classical.byContradiction fun w => h (if_neg w)
theorem zbI_f {P : Nat → Bool} {k : Nat} (h : zbI P k = 0) : ¬ P k = true := fun w => by
  unfold zbI at h
  rw [if_pos w] at h
  cases h
/-! THE FULL STATE: the reference's hours over its view -/
theorem uA_uA {w : Nat → Nat → Int32} {c : Nat} {f g : Nat → Int32} : uA (uA w c f) c g = uA w c g := by
  funext r
  unfold uA
  split
  · rfl
  · rfl
theorem uA_id {w : Nat → Nat → Int32} {c : Nat} {f : Nat → Int32} (h : f = w c) : uA w c f = w := by
  funext r
  unfold uA
  split
  · rename_i e
    rw [h, e]
  · rfl
theorem wgo_0 {S a : Nat} {w : Nat → Nat → Int32} : w = zvGo S a 0 w := (uA_id zpw_0.symm).symm
theorem wgo_v {S a i : Nat} {w1 w0 : Nat → Nat → Int32} (h : w1 = zvGo S a i w0) : uA w1 16 (upd (w1 16) i (zgoW S a (w1 5) (w1 17) (w1 16) i)) = zvGo S a (i + 1) w0 := by
  subst h
  have e := wgo_s (S := S) (a := a) (i := i) (st := w0 5) (go := w0 17) (pl := w0 16) (f := zpw (zgoW S a (w0 5) (w0 17) (w0 16)) (w0 16) i) rfl
  show uA (uA w0 16 _) 16 (upd (zpw (zgoW S a (w0 5) (w0 17) (w0 16)) (w0 16) i) i (zgoW S a (w0 5) (w0 17) (zpw (zgoW S a (w0 5) (w0 17) (w0 16)) (w0 16) i) i)) = _
  rw [e, uA_uA]
  rfl
theorem wW4_W4 {w : Nat → Nat → Int32} {t u : zW4} : wW4 (wW4 w t) u = wW4 w u := by
  obtain ⟨a1, a2, a3, a4⟩ := t
  obtain ⟨b1, b2, b3, b4⟩ := u
  funext r
  unfold wW4 uA
  grind
theorem wW4_id {w : Nat → Nat → Int32} : wW4 w (w 5, w 8, w 10, w 17) = w := by
  funext r
  unfold wW4 uA
  grind
theorem wW4_g {w : Nat → Nat → Int32} (t : zW4) : (wW4 w t 5, wW4 w t 8, wW4 w t 10, wW4 w t 17) = t ∧ wW4 w t 15 = w 15 ∧ wW4 w t 16 = w 16 ∧ wW4 w t 11 = w 11 ∧ wW4 w t 12 = w 12 ∧ wW4 w t 18 = w 18 := by
  obtain ⟨a1, a2, a3, a4⟩ := t
  exact ⟨rfl, rfl, rfl, rfl, rfl, rfl⟩
theorem wwk_0 {S a n : Nat} {w : Nat → Nat → Int32} : w = wWk S a n 0 w := wW4_id.symm
theorem wwk_v {S a n i : Nat} {w1 w0 : Nat → Nat → Int32} (h : w1 = wWk S a n i w0) : wW4 w1 (zwR S a n (w1 15) (w1 16) (w1 11) (w1 12) (w1 18) i (w1 5, w1 8, w1 10, w1 17)) = wWk S a n (i + 1) w0 := by
  obtain ⟨e1, e2, e3, e4, e5, e6⟩ := wW4_g (w := w0) (wWkT S a n i w0)
  rw [h]
  unfold wWk
  rw [e1, e2, e3, e4, e5, e6, wW4_W4]
  rfl
theorem wW4_0 {v : Nat → Nat → Int32} {t : zW4} (h : zv0 v) : zv0 (wW4 v t) := by
  obtain ⟨a1, a2, a3, a4⟩ := t
  exact zv0_u (zv0_u (zv0_u (zv0_u h rfl) rfl) rfl) rfl
theorem wB8_B8 {w : Nat → Nat → Int32} {t u : zB8} : wB8 (wB8 w t) u = wB8 w u := by
  obtain ⟨a1, a2, a3, a4, a5, a6, a7, a8⟩ := t
  obtain ⟨b1, b2, b3, b4, b5, b6, b7, b8⟩ := u
  funext r
  unfold wB8 uA
  grind
theorem wB8_id {w : Nat → Nat → Int32} : wB8 w (w 5, w 8, w 9, w 10, w 11, w 17, w 19, w 21) = w := by
  funext r
  unfold wB8 uA
  grind
theorem wB8_g {w : Nat → Nat → Int32} (t : zB8) : (wB8 w t 5, wB8 w t 8, wB8 w t 9, wB8 w t 10, wB8 w t 11, wB8 w t 17, wB8 w t 19, wB8 w t 21) = t ∧ wB8 w t 18 = w 18 ∧ wB8 w t 7 = w 7 ∧ wB8 w t 6 = w 6 ∧ wB8 w t 14 = w 14 ∧ wB8 w t 15 = w 15 ∧ wB8 w t 16 = w 16 ∧ wB8 w t 5 = t.1 := by
  obtain ⟨a1, a2, a3, a4, a5, a6, a7, a8⟩ := t
  exact ⟨rfl, rfl, rfl, rfl, rfl, rfl, rfl, rfl⟩
theorem wB8_0 {v : Nat → Nat → Int32} {t : zB8} (h : zv0 v) : zv0 (wB8 v t) := by
  obtain ⟨a1, a2, a3, a4, a5, a6, a7, a8⟩ := t
  exact zv0_u (zv0_u (zv0_u (zv0_u (zv0_u (zv0_u (zv0_u (zv0_u h rfl) rfl) rfl) rfl) rfl) rfl) rfl) rfl
theorem wbu_0 {S a n l0 h : Nat} {da C R P M : Nat → Int32} {w : Nat → Nat → Int32} : w = wBu S a n l0 h 0 da C R P M w := wB8_id.symm
theorem wbu_y {S a n l0 h i : Nat} {da C R P M : Nat → Int32} {w1 w0 : Nat → Nat → Int32} (e : w1 = wBu S a n l0 h i da C R P M w0) (h1 : w1 5 i = 1) : wB8 w1 (zbR n (w1 18) (wPf S a l0 h da C R P M w1) i (w1 5, w1 8, w1 9, w1 10, w1 11, w1 17, w1 19, w1 21)) = wBu S a n l0 h (i + 1) da C R P M w0 := by
  obtain ⟨e1, e2, e3, e4, e5, e6, e7, e8⟩ := wB8_g (w := w0) (wBuT S a n l0 h i da C R P M w0)
  have ep : wPf S a l0 h da C R P M w1 = wPf S a l0 h da C R P M w0 := by
    rw [e]
    unfold wBu wPf
    rw [e3, e4, e5, e6, e7]
  rw [ep]
  rw [e] at h1 ⊢
  unfold wBu at h1 ⊢
  rw [e8] at h1
  rw [e1, e2, wB8_B8]
  have e9 := zbRs_y (n := n) (q := w0 18) (pf := wPf S a l0 h da C R P M w0) h1 rfl
  rw [e9]
  rfl
theorem wbu_n {S a n l0 h i : Nat} {da C R P M : Nat → Int32} {w1 w0 : Nat → Nat → Int32} (e : w1 = wBu S a n l0 h i da C R P M w0) (h1 : ¬ w1 5 i = 1) : w1 = wBu S a n l0 h (i + 1) da C R P M w0 := by
  obtain ⟨e1, e2, e3, e4, e5, e6, e7, e8⟩ := wB8_g (w := w0) (wBuT S a n l0 h i da C R P M w0)
  rw [e] at h1 ⊢
  unfold wBu at h1 ⊢
  rw [e8] at h1
  have e9 := zbRs_n (n := n) (q := w0 18) (pf := wPf S a l0 h da C R P M w0) h1
  exact congrArg (wB8 w0) e9
theorem wfg_0 {n : Nat} {P : Nat → Bool} {w : Nat → Nat → Int32} : w = wFg n 0 P w := (uA_id rfl).symm
theorem wfg_y {n i : Nat} {P : Nat → Bool} {w1 w0 : Nat → Nat → Int32} (h : w1 = wFg n i P w0) (hp : P i = true) : uA w1 17 (zng n (nI i) 1 (w1 17) (w1 18)) = wFg n (i + 1) P w0 := by
  subst h
  have e := zfR_y (n := n) (q := w0 18) (go := w0 17) hp rfl rfl
  show uA (uA w0 17 _) 17 (zng n (nI i) 1 (zfR n (w0 18) P i (w0 17)) (w0 18)) = _
  rw [uA_uA, e]
  rfl
theorem wfg_n {n i : Nat} {P : Nat → Bool} {w1 w0 : Nat → Nat → Int32} (h : w1 = wFg n i P w0) (hp : ¬ P i = true) : w1 = wFg n (i + 1) P w0 := by
  subst h
  have e := zfR_n (n := n) (q := w0 18) (go := w0 17) hp rfl
  unfold wFg
  rw [← e]
theorem wri_0 {S a n l0 h : Nat} {da C R P M : Nat → Int32} {B : Nat → Bool} {w : Nat → Nat → Int32} : w = wRi S a n l0 h 0 da C R P M B w := by
  show w = uA (uA w 17 (w 17)) 18 (w 18)
  rw [uA_id (w := w) (c := 17) rfl, uA_id rfl]
def wRf (S a n l0 h k : Nat) (da C R P M : Nat → Int32) (w : Nat → Nat → Int32) : Nat → Nat → Int32 := uA (uA w 17 (zpw (zrW a h (fo da (nI (h / 24)) l0 0 (-1)) (zcn (w 5) 1 S) (w 7) (w 6) (w 8) (w 14) (w 15) (w 16) C R P M k (w 17)) (w 17) n)) 18 (zpw (zrP a h (fo da (nI (h / 24)) l0 0 (-1)) (zcn (w 5) 1 S) (w 7) (w 6) (w 8) (w 14) (w 15) (w 16) C R P M k (w 17) (w 18)) (w 18) n)
theorem uA_4 {w : Nat → Nat → Int32} {f g p q : Nat → Int32} : uA (uA (uA (uA w 17 f) 18 g) 17 p) 18 q = uA (uA w 17 p) 18 q := by
  funext r
  unfold uA
  grind
theorem wri_y {S a n l0 h i : Nat} {da C R P M : Nat → Int32} {B : Nat → Bool} {w1 w0 : Nat → Nat → Int32} (e : w1 = wRi S a n l0 h i da C R P M B w0) (hb : B i = true) : wRf S a n l0 h i da C R P M w1 = wRi S a n l0 h (i + 1) da C R P M B w0 := by
  subst e
  have e1 : wRf S a n l0 h i da C R P M (wRi S a n l0 h i da C R P M B w0) = uA (uA (uA (uA w0 17 (wRiT S a n l0 h da C R P M B w0 i).1) 18 (wRiT S a n l0 h da C R P M B w0 i).2) 17 (zpw (zrW a h (fo da (nI (h / 24)) l0 0 (-1)) (zcn (w0 5) 1 S) (w0 7) (w0 6) (w0 8) (w0 14) (w0 15) (w0 16) C R P M i (wRiT S a n l0 h da C R P M B w0 i).1) (wRiT S a n l0 h da C R P M B w0 i).1 n)) 18 (zpw (zrP a h (fo da (nI (h / 24)) l0 0 (-1)) (zcn (w0 5) 1 S) (w0 7) (w0 6) (w0 8) (w0 14) (w0 15) (w0 16) C R P M i (wRiT S a n l0 h da C R P M B w0 i).1 (wRiT S a n l0 h da C R P M B w0 i).2) (wRiT S a n l0 h da C R P M B w0 i).2 n) := rfl
  have e2 : wRiT S a n l0 h da C R P M B w0 (i + 1) = (zpw (zrW a h (fo da (nI (h / 24)) l0 0 (-1)) (zcn (w0 5) 1 S) (w0 7) (w0 6) (w0 8) (w0 14) (w0 15) (w0 16) C R P M i (wRiT S a n l0 h da C R P M B w0 i).1) (wRiT S a n l0 h da C R P M B w0 i).1 n, zpw (zrP a h (fo da (nI (h / 24)) l0 0 (-1)) (zcn (w0 5) 1 S) (w0 7) (w0 6) (w0 8) (w0 14) (w0 15) (w0 16) C R P M i (wRiT S a n l0 h da C R P M B w0 i).1 (wRiT S a n l0 h da C R P M B w0 i).2) (wRiT S a n l0 h da C R P M B w0 i).2 n) := if_pos hb
  rw [e1, uA_4]
  unfold wRi
  rw [e2]
theorem wri_n {S a n l0 h i : Nat} {da C R P M : Nat → Int32} {B : Nat → Bool} {w1 w0 : Nat → Nat → Int32} (e : w1 = wRi S a n l0 h i da C R P M B w0) (hb : ¬ B i = true) : w1 = wRi S a n l0 h (i + 1) da C R P M B w0 := by
  subst e
  have e2 : wRiT S a n l0 h da C R P M B w0 (i + 1) = wRiT S a n l0 h da C R P M B w0 i := if_neg hb
  unfold wRi
  rw [e2]
theorem whs_s {S a b n l0 h0 i : Nat} {wi t0 t1 : Int32} {da C R P M : Nat → Int32} {w0 w1 : Nat → Nat → Int32} {s : (Nat → Nat → Int32) × Int32} (h : (w0, t0) = wHs S a b n l0 h0 wi da C R P M i s) (h1 : w1 = wH S a b n l0 (h0 + i) wi t0 da C R P M w0) (h2 : t1 = wHt S a n t0 w0) : (w1, t1) = wHs S a b n l0 h0 wi da C R P M (i + 1) s := by
  show _ = (wH S a b n l0 (h0 + i) wi (wHs S a b n l0 h0 wi da C R P M i s).2 da C R P M (wHs S a b n l0 h0 wi da C R P M i s).1, wHt S a n (wHs S a b n l0 h0 wi da C R P M i s).2 (wHs S a b n l0 h0 wi da C R P M i s).1)
  rw [← h, h1, h2]
/-! THE FULL STATE: what stretches of codes say, in the class and in the reference -/
abbrev zVal : Type := (Nat → Int32) → Int32
theorem zrun_add {kn co : Nat → Int32} : ∀ (m n i : Nat) (s : zJ), zrun kn co (m + n) i s = zrun kn co n (i + m) (zrun kn co m i s)
  | 0, n, i, s => by
    rw [Nat.zero_add]
    rfl
  | m + 1, n, i, s => by
    rw [show m + 1 + n = (m + n) + 1 by omega]
    show zrun kn co (m + n) (i + 1) (ztake kn (co i) s) = zrun kn co n (i + (m + 1)) (zrun kn co m (i + 1) (ztake kn (co i) s))
    rw [zrun_add m n (i + 1), show i + 1 + m = i + (m + 1) by omega]
theorem zrun_ag {kn co co' : Nat → Int32} : ∀ (m i : Nat) (s : zJ), (∀ x, i ≤ x → x < i + m → co' x = co x) → zrun kn co' m i s = zrun kn co m i s
  | 0, _, _, _ => rfl
  | m + 1, i, s, h => by
    show zrun kn co' m (i + 1) (ztake kn (co' i) s) = zrun kn co m (i + 1) (ztake kn (co i) s)
    rw [h i (Nat.le_refl _) (by omega)]
    exact zrun_ag m (i + 1) _ (fun x a b => h x (by omega) (by omega))
theorem zok_ag {co co' : Nat → Int32} : ∀ (m i t : Nat), (∀ x, i ≤ x → x < i + m → co' x = co x) → zok co m i t → zok co' m i t
  | 0, _, _, _, _ => trivial
  | m + 1, i, t, h, g => by
    have e := h i (Nat.le_refl _) (by omega)
    have r := fun t => zok_ag m (i + 1) t (fun x a b => h x (by omega) (by omega))
    obtain ⟨g1, g2⟩ := g
    unfold zok
    rw [e]
    refine ⟨fun w => ⟨(g1 w).1, r _ (g1 w).2⟩, fun w => ?_⟩
    obtain ⟨a1, a2, a3⟩ := g2 w
    exact ⟨fun v => ⟨(a1 v).1, r _ (a1 v).2⟩, fun v => ⟨(a2 v).1, r _ (a2 v).2⟩, fun v1 v2 v3 => ⟨(a3 v1 v2 v3).1, r _ (a3 v1 v2 v3).2⟩⟩
theorem zrun_sh {kn co : Nat → Int32} {b : Nat} : ∀ (m i : Nat) (s : zJ), zrun kn (fun x => co (x + b)) m i s = zrun kn co m (i + b) s
  | 0, _, _ => rfl
  | m + 1, i, s => by
    show zrun kn (fun x => co (x + b)) m (i + 1) (ztake kn (co (i + b)) s) = zrun kn co m (i + b + 1) (ztake kn (co (i + b)) s)
    rw [zrun_sh m (i + 1), show i + 1 + b = i + b + 1 by omega]
theorem zok_sh {co : Nat → Int32} {b : Nat} : ∀ (m i t : Nat), zok (fun x => co (x + b)) m i t → zok co m (i + b) t
  | 0, _, _, _ => trivial
  | m + 1, i, t, g => by
    obtain ⟨g1, g2⟩ := g
    have r : ∀ t, zok (fun x => co (x + b)) m (i + 1) t → zok co m (i + b + 1) t := fun t h => by
      have := zok_sh m (i + 1) t h
      rw [show i + 1 + b = i + b + 1 by omega] at this
      exact this
    refine ⟨fun w => ⟨(g1 w).1, r _ (g1 w).2⟩, fun w => ?_⟩
    obtain ⟨a1, a2, a3⟩ := g2 w
    exact ⟨fun v => ⟨(a1 v).1, r _ (a1 v).2⟩, fun v => ⟨(a2 v).1, r _ (a2 v).2⟩, fun v1 v2 v3 => ⟨(a3 v1 v2 v3).1, r _ (a3 v1 v2 v3).2⟩⟩
/-- the class's codes from i to j leave one number more, V -/
def zsC (co : Nat → Int32) (i j h : Nat) (V : zVal) : Prop := i ≤ j ∧ ∀ co' : Nat → Int32, (∀ x, i ≤ x → x < j → co' x = co x) → (∀ n t, t + h ≤ 20 → zok co' n j (t + 1) → zok co' (j - i + n) i t) ∧ ∀ (kn w : Nat → Int32) (t : Nat) (x y : Int32), t + h ≤ 20 → ∃ w' : Nat → Int32, zrun kn co' (j - i) i (w, t, x, y) = (w', t + 1, x, y) ∧ w' t = V kn ∧ ∀ q, q < t → w' q = w q
theorem zsC_ag {co co' : Nat → Int32} {i j h k : Nat} {V : zVal} (s : zsC co i j h V) (hD : ∀ x, x < k → co' x = co x) (hj : j ≤ k) : zsC co' i j h V := ⟨s.1, fun c hc => s.2 c (fun x a b => (hc x a b).trans (hD x (by omega)))⟩
theorem zsC_le {co : Nat → Int32} {i j h h' : Nat} {V : zVal} (s : zsC co i j h V) (w : h ≤ h') : zsC co i j h' V := ⟨s.1, fun c hc => ⟨fun n t ht => (s.2 c hc).1 n t (by omega), fun kn w t x y ht => (s.2 c hc).2 kn w t x y (by omega)⟩⟩
theorem zsC_v {co : Nat → Int32} {i j h : Nat} {V V' : zVal} (s : zsC co i j h V) (e : V' = V) : zsC co i j h V' := e ▸ s
theorem zsC_fr {L A : List Nat} {sc sc' : Nat → Int32} {ar ar' : Nat → Nat → Int32} {i j h : Nat} {V : zVal} (s : zsC (ar 25) i j h V) (f : Fr L A sc ar sc' ar') (hA : 25 ∉ A) : zsC (ar' 25) i j h V := f.2 25 hA ▸ s
theorem zsC_num {co : Nat → Int32} {i h : Nat} {v : Int32} (hh : 1 ≤ h) (e : co i = v) (h0 : 0 ≤ v) : zsC co i (i + 1) h (fun _ => v) := by
  refine ⟨by omega, fun c hc => ⟨fun n t ht g => ?_, fun kn w t x y ht => ?_⟩⟩
  · have e' := (hc i (Nat.le_refl _) (by omega)).trans e
    rw [show i + 1 - i + n = n + 1 by omega]
    refine ⟨fun _ => ⟨by omega, g⟩, fun w => absurd (Or.inl (by rw [e']; exact h0)) w⟩
  · have e' := (hc i (Nat.le_refl _) (by omega)).trans e
    rw [show i + 1 - i = 0 + 1 by omega]
    show ∃ w', ztake kn (c i) (w, t, x, y) = (w', t + 1, x, y) ∧ _
    have ht2 : t < 20 := by omega
    rw [e', zt_num h0]
    simp only [zpush, if_pos ht2]
    refine ⟨upd w t v, rfl, if_pos rfl, fun q hq => if_neg (by omega)⟩
theorem zsC_nam {co : Nat → Int32} {i h n : Nat} {v : Int32} (hh : 1 ≤ h) (e : co i = v) (h0 : ¬ 0 ≤ v) (hn : n < 8) (en : -20 - v = nI n) : zsC co i (i + 1) h (fun kn => kn n) := by
  refine ⟨by omega, fun c hc => ⟨fun m t ht g => ?_, fun kn w t x y ht => ?_⟩⟩
  · have e' := (hc i (Nat.le_refl _) (by omega)).trans e
    rw [show i + 1 - i + m = m + 1 by omega]
    refine ⟨fun _ => ⟨by omega, g⟩, fun w => absurd (Or.inr (by rw [e']; exact za_3 hn en)) w⟩
  · have e' := (hc i (Nat.le_refl _) (by omega)).trans e
    rw [show i + 1 - i = 0 + 1 by omega]
    show ∃ w', ztake kn (c i) (w, t, x, y) = (w', t + 1, x, y) ∧ _
    have ht2 : t < 20 := by omega
    rw [e', zt_nam h0 hn en]
    simp only [zpush, if_pos ht2]
    refine ⟨upd w t (kn n), rfl, if_pos rfl, fun q hq => if_neg (by omega)⟩
def zJn (c : Int32) (a b : zVal) : zVal := fun kn => zjo c (a kn) (b kn)
def zNo (a : zVal) : zVal := fun kn => if a kn = 0 then 1 else 0
def zj7 (v : Int32) : Prop := ¬ 0 ≤ v ∧ ¬ (0 ≤ -20 - v ∧ -20 - v < 8) ∧ ¬ v = -12 ∧ ¬ v = -13 ∧ ¬ v = -16
theorem zj7_s {v : Int32} (h : v ∈ ([-7, -8, -9] : List Int32)) : zj7 v := by
  simp only [List.mem_cons, List.not_mem_nil, or_false] at h
  unfold zj7
  rcases h with rfl | rfl | rfl <;> decide
theorem zj7_e {v : Int32} (h : v ∈ ([-14, -15] : List Int32)) : zj7 v := by
  simp only [List.mem_cons, List.not_mem_nil, or_false] at h
  unfold zj7
  rcases h with rfl | rfl <;> decide
theorem zj7_t {v : Int32} (h : v = -10 ∨ v = -11) : zj7 v := by
  unfold zj7
  rcases h with rfl | rfl <;> decide
theorem zsC_bin {co : Nat → Int32} {i j k h1 h2 h : Nat} {v : Int32} {V1 V2 : zVal} (s1 : zsC co i j h1 V1) (s2 : zsC co j k h2 V2) (e : co k = v) (hv : zj7 v) (w1 : h1 ≤ h) (w2 : h2 + 1 ≤ h) : zsC co i (k + 1) h (zJn v V1 V2) := by
  obtain ⟨a0, a1⟩ := s1
  obtain ⟨b0, b1⟩ := s2
  obtain ⟨v1, v2, v3, v4, v5⟩ := hv
  refine ⟨by omega, fun c hc => ?_⟩
  obtain ⟨p1, p2⟩ := a1 c (fun x y z => hc x (by omega) (by omega))
  obtain ⟨q1, q2⟩ := b1 c (fun x y z => hc x (by omega) (by omega))
  have e' := (hc k (by omega) (by omega)).trans e
  refine ⟨fun n t ht g => ?_, fun kn w t x y ht => ?_⟩
  · have g1 : zok c (n + 1) k (t + 1 + 1) := by
      unfold zok
      rw [e']
      exact ⟨fun w => absurd w (fun w => w.elim v1 v2), fun _ => ⟨fun w => absurd w (fun w => w.elim v3 v4), fun w => absurd w v5, fun _ _ _ => ⟨by omega, by rw [show t + 1 + 1 - 1 = t + 1 by omega]; exact g⟩⟩⟩
    have g2 := q1 (n + 1) (t + 1) (by omega) g1
    have g3 := p1 (k - j + (n + 1)) t (by omega) g2
    rw [show j - i + (k - j + (n + 1)) = k + 1 - i + n by omega] at g3
    exact g3
  · obtain ⟨wa, r1, r2, r3⟩ := p2 kn w t x y (by omega)
    obtain ⟨wb, t1, t2, t3⟩ := q2 kn wa (t + 1) x y (by omega)
    rw [show k + 1 - i = (j - i) + ((k - j) + 1) by omega, zrun_add, r1, show i + (j - i) = j by omega, zrun_add, t1, show j + (k - j) = k by omega]
    show ∃ w', ztake kn (c k) (wb, t + 1 + 1, x, y) = (w', t + 1, x, y) ∧ _
    have ht2 : t + 1 + 1 - 1 - 1 < 20 := by omega
    rw [e', zt_two v1 v2 v3 v4 v5]
    simp only [zpush, if_pos ht2]
    have e1 : zpop wb (t + 1 + 1) = V2 kn := by
      unfold zpop
      rw [if_neg (by omega), show t + 1 + 1 - 1 = t + 1 by omega]
      exact t2
    have e2 : zpop wb (t + 1 + 1 - 1) = V1 kn := by
      unfold zpop
      rw [if_neg (by omega), show t + 1 + 1 - 1 - 1 = t by omega, t3 t (by omega)]
      exact r2
    rw [e1, e2, show t + 1 + 1 - 1 - 1 = t by omega]
    exact ⟨_, rfl, if_pos rfl, fun q hq => (if_neg (by omega)).trans ((t3 q (by omega)).trans (r3 q hq))⟩
theorem zsC_not {co : Nat → Int32} {i k h : Nat} {V : zVal} (s : zsC co i k h V) (hh : 1 ≤ h) (e : co k = -16) : zsC co i (k + 1) h (zNo V) := by
  obtain ⟨a0, a1⟩ := s
  refine ⟨by omega, fun c hc => ?_⟩
  obtain ⟨p1, p2⟩ := a1 c (fun x y z => hc x (by omega) (by omega))
  have e' := (hc k (by omega) (by omega)).trans e
  refine ⟨fun n t ht g => ?_, fun kn w t x y ht => ?_⟩
  · have g1 : zok c (n + 1) k (t + 1) := by
      unfold zok
      rw [e']
      exact ⟨fun w => absurd w (by decide), fun _ => ⟨fun w => absurd w (by decide), fun _ => ⟨by omega, g⟩, fun _ _ w => absurd rfl w⟩⟩
    have g3 := p1 (n + 1) t (by omega) g1
    rw [show k - i + (n + 1) = k + 1 - i + n by omega] at g3
    exact g3
  · obtain ⟨wa, r1, r2, r3⟩ := p2 kn w t x y (by omega)
    rw [show k + 1 - i = (k - i) + 1 by omega, zrun_add, r1, show i + (k - i) = k by omega]
    show ∃ w', ztake kn (c k) (wa, t + 1, x, y) = (w', t + 1, x, y) ∧ _
    have ht2 : t + 1 - 1 < 20 := by omega
    rw [e', zt_not]
    simp only [zpush, if_pos ht2]
    have e1 : zpop wa (t + 1) = V kn := by
      unfold zpop
      rw [if_neg (by omega), show t + 1 - 1 = t by omega]
      exact r2
    rw [e1, show t + 1 - 1 = t by omega]
    exact ⟨_, rfl, if_pos rfl, fun q hq => (if_neg (by omega)).trans (r3 q hq)⟩
/-- the rules so far: codes that leave nothing, and what they come to -/
abbrev zLaw2 : Type := (Nat → Int32) → Int32 × Int32 → Int32 × Int32
def zrs (c v : Int32) (s : Int32 × Int32) : Int32 × Int32 := if c = -12 then (if ¬ v = 0 ∨ ¬ s.1 = 0 then 1 else 0, s.2) else (s.1, s.2 + v)
def sgR (co : Nat → Int32) (i j : Nat) (G : zLaw2) : Prop := i ≤ j ∧ ∀ co' : Nat → Int32, (∀ x, i ≤ x → x < j → co' x = co x) → (∀ n, zok co' n j 0 → zok co' (j - i + n) i 0) ∧ ∀ (kn w : Nat → Int32) (s : Int32 × Int32), ∃ w' : Nat → Int32, zrun kn co' (j - i) i (w, 0, s.1, s.2) = (w', 0, (G kn s).1, (G kn s).2)
theorem sgR_0 {co : Nat → Int32} {i : Nat} : sgR co i i (fun _ s => s) := ⟨Nat.le_refl _, fun c _ => ⟨fun n g => by rw [Nat.sub_self, Nat.zero_add]; exact g, fun kn w s => ⟨w, by rw [Nat.sub_self]; rfl⟩⟩⟩
theorem sgR_ag {co co' : Nat → Int32} {i j k : Nat} {G : zLaw2} (s : sgR co i j G) (hD : ∀ x, x < k → co' x = co x) (hj : j ≤ k) : sgR co' i j G := ⟨s.1, fun c hc => s.2 c (fun x a b => (hc x a b).trans (hD x (by omega)))⟩
theorem sgR_up {co : Nat → Int32} {i j k h : Nat} {v : Int32} {G : zLaw2} {V : zVal} (s1 : sgR co i j G) (s2 : zsC co j k h V) (hh : h ≤ 20) (e : co k = v) (hv : v = -12 ∨ v = -13) : sgR co i (k + 1) (fun kn s => zrs v (V kn) (G kn s)) := by
  obtain ⟨a0, a1⟩ := s1
  obtain ⟨b0, b1⟩ := s2
  refine ⟨by omega, fun c hc => ?_⟩
  obtain ⟨p1, p2⟩ := a1 c (fun x y z => hc x (by omega) (by omega))
  obtain ⟨q1, q2⟩ := b1 c (fun x y z => hc x (by omega) (by omega))
  have e' := (hc k (by omega) (by omega)).trans e
  refine ⟨fun n g => ?_, fun kn w s => ?_⟩
  · have g1 : zok c (n + 1) k (0 + 1) := by
      unfold zok
      rw [e']
      refine ⟨fun w => absurd w (by rcases hv with rfl | rfl <;> decide), fun _ => ⟨fun _ => ⟨by omega, g⟩, fun w => absurd w (by rcases hv with rfl | rfl <;> decide), fun w1 w2 _ => absurd hv (fun w => w.elim w1 w2)⟩⟩
    have g2 := q1 (n + 1) 0 (by omega) g1
    have g3 := p1 (k - j + (n + 1)) g2
    rw [show j - i + (k - j + (n + 1)) = k + 1 - i + n by omega] at g3
    exact g3
  · obtain ⟨wa, r1⟩ := p2 kn w s
    obtain ⟨wb, t1, t2, t3⟩ := q2 kn wa 0 (G kn s).1 (G kn s).2 (by omega)
    rw [show k + 1 - i = (j - i) + ((k - j) + 1) by omega, zrun_add, r1, show i + (j - i) = j by omega, zrun_add, t1, show j + (k - j) = k by omega]
    show ∃ w', ztake kn (c k) (wb, 0 + 1, (G kn s).1, (G kn s).2) = (w', 0, _, _)
    have e1 : zpop wb (0 + 1) = V kn := t2
    rw [e']
    rcases hv with rfl | rfl
    · rw [zt_call]
      simp only [e1]
      exact ⟨wb, rfl⟩
    · rw [zt_pay]
      simp only [e1]
      exact ⟨wb, rfl⟩
theorem sgR_v {co : Nat → Int32} {i j : Nat} {G G' : zLaw2} (s : sgR co i j G) (e : G' = G) : sgR co i j G' := e ▸ s
/-- a whole law, at its place in the book -/
theorem sgR_en {co en co' : Nat → Int32} {l b c : Nat} {G : zLaw2} (s : sgR co 0 c G) (hb : zbe en l = nI b) (he : en l = nI (b + c)) (hbc : b + c < 2401) (hc : ∀ x, x < c → co' (b + x) = co x) : zok co' ((en l).toNatClampNeg - (zbe en l).toNatClampNeg) (zbe en l).toNatClampNeg 0 ∧ ∀ kn, zEv kn co' en l = G kn (0, 0) := by
  obtain ⟨p1, p2⟩ := s.2 (fun x => co' (x + b)) (fun x _ h => by rw [← hc x h, Nat.add_comm])
  unfold zEv zrl
  rw [hb, he, nI_clamp (by omega), nI_clamp (by omega), show b + c - b = c - 0 + 0 by omega]
  have z := zok_sh (c - 0 + 0) 0 0 (p1 0 trivial)
  rw [Nat.zero_add] at z
  refine ⟨z, fun kn => ?_⟩
  obtain ⟨w', r⟩ := p2 kn (fun _ => 0) (0, 0)
  rw [Nat.add_zero]
  rw [zrun_sh, Nat.zero_add] at r
  rw [r]
/-! THE FULL STATE: what stretches of the reference's codes say -/
theorem zto_1s {kn : Int32 → Int32} {C : Nat → Int32} {m i t : Nat} {s : (Nat → Int32) × Nat} (h : i < t) : zto kn C (m + 1) i t s = (if C i = 0 then zto kn C m (i + 2) t (upd s.1 s.2 (C (i + 1)), s.2 + 1) else if 20 ≤ C i then zto kn C m (i + 1) t (upd s.1 s.2 (kn (C i - 20)), s.2 + 1) else if C i = 8 then zto kn C m (i + 1) t (upd s.1 (s.2 - 1) (if s.1 (s.2 - 1) = 0 then 1 else 0), s.2) else zto kn C m (i + 1) t (upd s.1 (s.2 - 1 - 1) (ztw (C i) (s.1 (s.2 - 1 - 1)) (s.1 (s.2 - 1))), s.2 - 1)) := if_pos h
theorem zto_fu {kn : Int32 → Int32} {C : Nat → Int32} {t : Nat} : ∀ (m m' i : Nat) (s : (Nat → Int32) × Nat), t - i ≤ m → t - i ≤ m' → zto kn C m i t s = zto kn C m' i t s
  | 0, m', i, s, h, h' => by rw [zto_e (by omega), zto_e (by omega)]
  | m + 1, 0, i, s, h, h' => by rw [zto_e (by omega), zto_e (by omega)]
  | m + 1, m' + 1, i, s, h, h' => by
    by_cases u : i < t
    · rw [zto_1s u, zto_1s u]
      split
      · exact zto_fu m m' _ _ (by omega) (by omega)
      · split
        · exact zto_fu m m' _ _ (by omega) (by omega)
        · split
          · exact zto_fu m m' _ _ (by omega) (by omega)
          · exact zto_fu m m' _ _ (by omega) (by omega)
    · rw [zto_e (by omega), zto_e (by omega)]
/-- the reference's codes from i to j leave one number more -/
def zVr2 (V : zVal) (kn : Int32 → Int32) : Int32 := V (fun i => kn (nI i))
def sgr (C : Nat → Int32) (i j : Nat) (V : zVal) : Prop := i ≤ j ∧ ∀ C' : Nat → Int32, (∀ x, i ≤ x → x < j → C' x = C x) → ∀ (kn : Int32 → Int32) (st : Nat → Int32) (top t m : Nat), j ≤ t → t - i ≤ m → ∃ st' : Nat → Int32, zto kn C' m i t (st, top) = zto kn C' m j t (st', top + 1) ∧ st' top = zVr2 V kn ∧ ∀ q, q < top → st' q = st q
theorem sgr_ag {C D : Nat → Int32} {i j k : Nat} {V : zVal} (s : sgr C i j V) (hD : ∀ x, x < k → D x = C x) (hj : j ≤ k) : sgr D i j V := ⟨s.1, fun c hc => s.2 c (fun x a b => (hc x a b).trans (hD x (by omega)))⟩
theorem sgr_v {C : Nat → Int32} {i j : Nat} {V V' : zVal} (s : sgr C i j V) (e : V' = V) : sgr C i j V' := e ▸ s
theorem sgr_st {L A : List Nat} {sc sc' : Nat → Int32} {ar ar' : Nat → Nat → Int32} {i j : Nat} {V : zVal} (s : sgr (ar 71) i j V) (f : Fr L A sc ar sc' ar') (hA : 71 ∉ A) : sgr (ar' 71) i j V := f.2 71 hA ▸ s
theorem sgr_push {C : Nat → Int32} {i : Nat} {v : Int32} (e : C i = 0) (e1 : C (i + 1) = v) : sgr C i (i + 1 + 1) (fun _ => v) := by
  refine ⟨by omega, fun c hc kn st top t m hj hm => ?_⟩
  have a0 := (hc i (by omega) (by omega)).trans e
  have a1 := (hc (i + 1) (by omega) (by omega)).trans e1
  obtain ⟨m', rfl⟩ : ∃ m', m = m' + 1 := ⟨m - 1, by omega⟩
  rw [zto_1s (by omega), if_pos a0, a1]
  exact ⟨upd st top v, zto_fu _ _ _ _ (by omega) (by omega), if_pos rfl, fun q hq => if_neg (by omega)⟩
theorem sgr_name {C : Nat → Int32} {i n : Nat} {v : Int32} (e : C i = v) (h0 : ¬ v = 0) (h1 : 20 ≤ v) (en : v - 20 = nI n) : sgr C i (i + 1) (fun kn => kn n) := by
  refine ⟨by omega, fun c hc kn st top t m hj hm => ?_⟩
  have a0 := (hc i (by omega) (by omega)).trans e
  obtain ⟨m', rfl⟩ : ∃ m', m = m' + 1 := ⟨m - 1, by omega⟩
  rw [zto_1s (by omega), a0, if_neg h0, if_pos h1, en]
  exact ⟨upd st top (kn (nI n)), zto_fu _ _ _ _ (by omega) (by omega), if_pos rfl, fun q hq => if_neg (by omega)⟩
theorem sgr_not {C : Nat → Int32} {i j : Nat} {V : zVal} (s : sgr C i j V) (e : C j = 8) : sgr C i (j + 1) (zNo V) := by
  obtain ⟨s0, s1⟩ := s
  refine ⟨by omega, fun c hc kn st top t m hj hm => ?_⟩
  have a0 := (hc j (by omega) (by omega)).trans e
  obtain ⟨st', r1, r2, r3⟩ := s1 c (fun x a b => hc x a (by omega)) kn st top t m (by omega) hm
  rw [r1]
  obtain ⟨m', rfl⟩ : ∃ m', m = m' + 1 := ⟨m - 1, by omega⟩
  rw [zto_1s (by omega), a0, if_neg (by decide), if_neg (by decide), if_pos rfl]
  refine ⟨upd st' top (if st' top = 0 then 1 else 0), zto_fu _ _ _ _ (by omega) (by omega), ?_, fun q hq => (if_neg (by omega)).trans (r3 q hq)⟩
  show upd st' top _ top = _
  rw [show upd st' top (if st' top = 0 then 1 else 0) top = (if st' top = 0 then 1 else 0) from if_pos rfl, r2]
  rfl
theorem sgr_bin {C : Nat → Int32} {i j k : Nat} {v c : Int32} {V1 V2 : zVal} (s1 : sgr C i j V1) (s2 : sgr C j k V2) (e : C k = v) (a1 : ¬ v = 0) (a2 : ¬ 20 ≤ v) (a3 : ¬ v = 8) (hz : ∀ x y, ztw v x y = zjo c x y) : sgr C i (k + 1) (zJn c V1 V2) := by
  obtain ⟨p0, p1⟩ := s1
  obtain ⟨q0, q1⟩ := s2
  refine ⟨by omega, fun C' hc kn st top t m hj hm => ?_⟩
  have a0 := (hc k (by omega) (by omega)).trans e
  obtain ⟨sa, r1, r2, r3⟩ := p1 C' (fun x a b => hc x a (by omega)) kn st top t m (by omega) hm
  obtain ⟨sb, t1, t2, t3⟩ := q1 C' (fun x a b => hc x (by omega) (by omega)) kn sa (top + 1) t m (by omega) (by omega)
  rw [r1, t1]
  obtain ⟨m', rfl⟩ : ∃ m', m = m' + 1 := ⟨m - 1, by omega⟩
  rw [zto_1s (by omega), a0, if_neg a1, if_neg a2, if_neg a3]
  refine ⟨upd sb top (zjo c (zVr2 V1 kn) (zVr2 V2 kn)), ?_, if_pos rfl, fun q hq => (if_neg (by omega)).trans ((t3 q (by omega)).trans (r3 q hq))⟩
  show zto kn C' m' (k + 1) t (upd sb (top + 1 + 1 - 1 - 1) (ztw v (sb (top + 1 + 1 - 1 - 1)) (sb (top + 1 + 1 - 1))), top + 1 + 1 - 1) = _
  rw [show top + 1 + 1 - 1 - 1 = top by omega, show top + 1 + 1 - 1 = top + 1 by omega, t2, t3 top (by omega), r2, hz]
  exact zto_fu _ _ _ _ (by omega) (by omega)
theorem sgr_ds {C : Nat → Int32} {i j : Nat} {V : zVal} (s : sgr C i j V) (h : j - i ≤ 701) : dsR C i j (zVr2 V) := by
  intro kn st
  obtain ⟨st', r1, r2, r3⟩ := s.2 C (fun _ _ _ => rfl) kn st 0 j 701 (Nat.le_refl _) (by omega)
  refine ⟨st', ?_, r2⟩
  rw [r1, zto_e (Nat.le_refl _)]
theorem sgr_ev {C : Nat → Int32} {i j : Nat} {V : zVal} (s : sgr C i j V) (h : j - i ≤ 701) (kn : Int32 → Int32) : zev kn C i j = zVr2 V kn := by
  obtain ⟨st', r1, r2⟩ := sgr_ds s h kn (fun _ => 0)
  unfold zev
  rw [r1]
  exact r2
/-! THE FULL STATE: the rules of a law, in the reference -/
def zfd (ts : Nat → Int32) (Vs : Nat → zVal) (kn : Nat → Int32) : Nat → Int32 × Int32
  | 0 => (0, 0)
  | r + 1 => zrs (ts r) (Vs r kn) (zfd ts Vs kn r)
theorem zfd_ag {ts ts' : Nat → Int32} {Vs Vs' : Nat → zVal} {kn : Nat → Int32} : ∀ n, (∀ r, r < n → ts' r = ts r ∧ Vs' r = Vs r) → zfd ts' Vs' kn n = zfd ts Vs kn n
  | 0, _ => rfl
  | n + 1, h => by
    show zrs (ts' n) (Vs' n kn) (zfd ts' Vs' kn n) = zrs (ts n) (Vs n kn) (zfd ts Vs kn n)
    rw [zfd_ag n (fun r hr => h r (by omega)), (h n (by omega)).1, (h n (by omega)).2]
theorem zfd_01 {ts : Nat → Int32} {Vs : Nat → zVal} {kn : Nat → Int32} : ∀ n, (zfd ts Vs kn n).1 = 0 ∨ (zfd ts Vs kn n).1 = 1
  | 0 => Or.inl rfl
  | n + 1 => by
    show (zrs (ts n) (Vs n kn) (zfd ts Vs kn n)).1 = 0 ∨ (zrs (ts n) (Vs n kn) (zfd ts Vs kn n)).1 = 1
    unfold zrs
    split
    · show (if _ then (1 : Int32) else 0) = 0 ∨ (if _ then (1 : Int32) else 0) = 1
      split
      · exact Or.inr rfl
      · exact Or.inl rfl
    · exact zfd_01 n
/-- every rule of every law says something, whatever comes behind it -/
def LDs (n : Nat) (M R C : Nat → Int32) : Prop := ∀ l r : Nat, l < n → r < (M l).toNatClampNeg → (M l).toNatClampNeg ≤ 12 ∧ (R (13 * l + r + 1)).toNatClampNeg ≤ 700 ∧ ∃ V, sgr C (700 * l + (R (13 * l + r)).toNatClampNeg) (700 * l + (R (13 * l + r + 1)).toNatClampNeg) V
theorem ld_s {n : Nat} {M R C : Nat → Int32} (h : LDs n M R C) : LD n M R C := fun l r hl hr => by
  obtain ⟨_, a, V, s⟩ := h l r hl hr
  exact ⟨_, sgr_ds s (by omega)⟩
/-- the rules that law l has in the reference, and what they come to -/
theorem zrul_fd {C R P : Nat → Int32} {l n : Nat} {F : Nat → Nat} {ts : Nat → Int32} {Vs : Nat → zVal} (hF : ∀ r, r ≤ n → F r ≤ 700 ∧ R (13 * l + r) = nI (F r)) (hs : ∀ r, r < n → sgr C (700 * l + F r) (700 * l + F (r + 1)) (Vs r) ∧ ((ts r = -12 ∧ P (12 * l + r) = 0) ∨ (ts r = -13 ∧ P (12 * l + r) = 1))) (kx : Int32 → Int32) : ∀ r, r ≤ n → zrul kx C R P l 0 r = (zfd ts Vs (fun i => kx (nI i)) r).1 ∧ zrul kx C R P l 1 r = (zfd ts Vs (fun i => kx (nI i)) r).2
  | 0, _ => ⟨rfl, rfl⟩
  | r + 1, hr => by
    obtain ⟨i1, i2⟩ := zrul_fd hF hs kx r (by omega)
    obtain ⟨s1, s2⟩ := hs r (by omega)
    obtain ⟨f1, f2⟩ := hF r (by omega)
    obtain ⟨g1, g2⟩ := hF (r + 1) (by omega)
    have g2' : R (13 * l + r + 1) = nI (F (r + 1)) := g2
    have ev : zev kx C (700 * l + (R (13 * l + r)).toNatClampNeg) (700 * l + (R (13 * l + r + 1)).toNatClampNeg) = Vs r (fun i => kx (nI i)) := by
      rw [f2, g2', nI_clamp (by omega), nI_clamp (by omega)]
      exact sgr_ev s1 (by omega) kx
    have h01 := zfd_01 (ts := ts) (Vs := Vs) (kn := fun i => kx (nI i)) r
    show (if P (12 * l + r) = 0 then (if ¬ (0 : Int32) = 0 then _ else if ¬ zev kx C _ _ = 0 then (1 : Int32) else zrul kx C R P l 0 r) else zrul kx C R P l 0 r) = (zrs (ts r) (Vs r (fun i => kx (nI i))) (zfd ts Vs (fun i => kx (nI i)) r)).1 ∧ (if P (12 * l + r) = 1 then (if ¬ (1 : Int32) = 0 then zrul kx C R P l 1 r + zev kx C _ _ else _) else zrul kx C R P l 1 r) = (zrs (ts r) (Vs r (fun i => kx (nI i))) (zfd ts Vs (fun i => kx (nI i)) r)).2
    rw [ev, i1, i2]
    generalize zfd ts Vs (fun i => kx (nI i)) r = u at *
    generalize Vs r (fun i => kx (nI i)) = v at *
    clear i1 i2 ev
    rcases s2 with ⟨t1, t2⟩ | ⟨t1, t2⟩
    · rw [t1, t2]
      simp only [zrs, if_true, not_true_eq_false, if_false]
      rcases h01 with h | h <;> grind
    · rw [t1, t2]
      simp only [zrs]
      grind
/-! THE FULL STATE: beyond the city's cells the rows don't matter -/
def zag (S : Nat) (f g : Nat → Int32) : Prop := ∀ k, k < S → f k = g k
theorem zag_r {S : Nat} {f : Nat → Int32} : zag S f f := fun _ _ => rfl
theorem zag_s {S : Nat} {f g : Nat → Int32} (h : zag S f g) : zag S g f := fun k hk => (h k hk).symm
theorem zag_u {S k : Nat} {f g : Nat → Int32} {x y : Int32} (h : zag S f g) (e : x = y) : zag S (upd f k x) (upd g k y) := fun j hj => by
  unfold upd
  split
  · exact e
  · exact h j hj
theorem zcn_ag {S : Nat} {f g : Nat → Int32} {w : Int32} (h : zag S f g) : ∀ m, m ≤ S → zcn f w m = zcn g w m
  | 0, _ => rfl
  | m + 1, hm => by
    unfold zcn
    rw [h m (by omega), zcn_ag h m (by omega)]
theorem zit_rel {α : Type} {f g : Nat → α → α} {Q : α → α → Prop} {s u : α} (h0 : Q s u) : ∀ m, (∀ i s u, i < m → Q s u → Q (f i s) (g i u)) → Q (zit f m s) (zit g m u)
  | 0, _ => h0
  | m + 1, h => h m _ _ (by omega) (zit_rel h0 m (fun i s u hi => h i s u (by omega)))
theorem zw_ag {S a g : Nat} {st st' D : Nat → Int32} (h : zag S st st') (w : ZW S a g st D) : ZW S a g st' D := by
  obtain ⟨h1, h2, h3, h4, h5⟩ := w
  exact ⟨fun k d hk hd e => by rw [← h k hk]; exact h1 k d hk hd e, fun k hk e1 e2 e3 => h2 k hk e1 (by rw [h k hk]; exact e2) e3, fun k j d hk hj hd e1 e2 e3 e4 => h3 k j d hk hj hd e1 e2 e3 (by rw [h j hj]; exact e4), h4, h5⟩
theorem zgo_ag {S a g p : Nat} {st st' : Nat → Int32} (h : zag S st st') : zgo S a g st p = zgo S a g st' p := by
  have e : (fun q => ZG S a g st p q) = fun q => ZG S a g st' p q := by
    funext q
    refine propext ⟨fun w => ?_, fun w => ?_⟩
    · obtain ⟨D, w1, w2⟩ := w
      exact ⟨D, zw_ag h w1, w2⟩
    · obtain ⟨D, w1, w2⟩ := w
      exact ⟨D, zw_ag (zag_s h) w1, w2⟩
  unfold zgo
  rw [e]
theorem zgoW_ag {S a : Nat} {st st' go pl : Nat → Int32} (h : zag S st st') : zgoW S a st go pl = zgoW S a st' go pl := by
  funext c
  unfold zgoW
  rw [zgo_ag h]
/-- two views that tell the same of the city's cells and of all companies -/
def WA (S : Nat) (w w' : Nat → Nat → Int32) : Prop := ∀ r, (5 ≤ r ∧ r ≤ 12 → zag S (w r) (w' r)) ∧ (¬ (5 ≤ r ∧ r ≤ 12) → w r = w' r)
theorem WA_r {S : Nat} {w : Nat → Nat → Int32} : WA S w w := fun r => ⟨fun _ => zag_r, fun _ => rfl⟩
theorem WA_u1 {S c : Nat} {w w' : Nat → Nat → Int32} {f g : Nat → Int32} (h : WA S w w') (hc : 5 ≤ c ∧ c ≤ 12) (e : zag S f g) : WA S (uA w c f) (uA w' c g) := fun r => by
  unfold uA
  by_cases u : r = c
  · rw [if_pos u, if_pos u]
    exact ⟨fun _ => e, fun w => absurd (u ▸ hc) w⟩
  · rw [if_neg u, if_neg u]
    exact h r
theorem WA_u2 {S c : Nat} {w w' : Nat → Nat → Int32} {f g : Nat → Int32} (h : WA S w w') (hc : ¬ (5 ≤ c ∧ c ≤ 12)) (e : f = g) : WA S (uA w c f) (uA w' c g) := fun r => by
  unfold uA
  by_cases u : r = c
  · rw [if_pos u, if_pos u]
    exact ⟨fun w => absurd (u ▸ w) hc, fun _ => e⟩
  · rw [if_neg u, if_neg u]
    exact h r
section WAS
variable {S a b n l0 h : Nat} {wi t : Int32} {da C R P M : Nat → Int32} {w w' : Nat → Nat → Int32}
theorem wa_go (H : WA S w w') : WA S (zvGo S a n w) (zvGo S a n w') := by
  unfold zvGo
  rw [(H 17).2 (by decide), (H 16).2 (by decide), zgoW_ag ((H 5).1 (by decide))]
  exact WA_u2 H (by decide) rfl
def R3 (S : Nat) (s u : zR3) : Prop := zag S s.1 u.1 ∧ s.2 = u.2
theorem zgR_ag {k c : Nat} {go pl q : Nat → Int32} {s u : zR3} (hk : k < S) (H : R3 S s u) : R3 S (zgR a k go pl q c s) (zgR a k go pl q c u) := by
  obtain ⟨h1, h2⟩ := H
  unfold zgR
  rw [h1 k hk, h2]
  split
  · split
    · exact ⟨zag_u h1 rfl, rfl⟩
    · exact ⟨h1, rfl⟩
  · exact ⟨h1, h2⟩
theorem zgRs_ag {k : Nat} {st st' go pl q : Nat → Int32} {s u : zR3} (hk : k < S) (hst : zag S st st') (H : R3 S s u) : R3 S (zgRs a n st go pl q k s) (zgRs a n st' go pl q k u) := by
  unfold zgRs
  rw [hst k hk, H.1 k hk]
  split
  · exact zit_rel H n (fun i s u _ h => zgR_ag hk h)
  · exact H
theorem wa_roT (H : WA S w w') : R3 S (wRoT S a n S t w) (wRoT S a n S t w') := by
  unfold wRoT
  rw [(H 17).2 (by decide), (H 16).2 (by decide), (H 18).2 (by decide), (H 20).2 (by decide)]
  exact zit_rel ⟨(H 11).1 (by decide), rfl⟩ S (fun i s u hi h => zgRs_ag hi ((H 5).1 (by decide)) h)
theorem wa_ro (H : WA S w w') : WA S (wRo S a n t w) (wRo S a n t w') := by
  obtain ⟨h1, h2⟩ := wa_roT (a := a) (n := n) (t := t) H
  unfold wRo
  rw [h2]
  exact WA_u2 (WA_u1 H (by decide) h1) (by decide) rfl
theorem zwt_ag {m : Nat} {du du' : Nat → Int32} (hd : zag S du du') : zwt S a du m = zwt S a du' m := by
  have e : zwl S a du m = zwl S a du' m := by
    unfold zwl
    refine propext ⟨fun w => ?_, fun w => ?_⟩
    · obtain ⟨k, w1, w2⟩ := w
      refine ⟨k, w1, ?_⟩
      rw [← hd k w1]
      exact w2
    · obtain ⟨k, w1, w2⟩ := w
      refine ⟨k, w1, ?_⟩
      rw [hd k w1]
      exact w2
  unfold zwt
  rw [e]
def R4 (S : Nat) (s u : zW4) : Prop := zag S s.1 u.1 ∧ zag S s.2.1 u.2.1 ∧ zag S s.2.2.1 u.2.2.1 ∧ s.2.2.2 = u.2.2.2 ∧ ∀ c, rq (s.2.2.2 c) S
theorem zwR_ag {c : Nat} {me pl ro ro' du du' pu : Nat → Int32} {s u : zW4} (hS : S ≤ 64) (hro : zag S ro ro') (hdu : zag S du du') (H : R4 S s u) : R4 S (zwR S a n me pl ro du pu c s) (zwR S a n me pl ro' du' pu c u) := by
  obtain ⟨st, fu, we, go⟩ := s
  obtain ⟨st', fu', we', go'⟩ := u
  obtain ⟨h1, h2, h3, h4, h5⟩ := H
  have h4' : go = go' := h4
  subst h4'
  have h5' : ∀ c, rq (go c) S := h5
  unfold zwR
  dsimp only
  by_cases q : go c = -1 ∨ ¬ zds a (pl c).toNatClampNeg (go c).toNatClampNeg = 1
  · rw [if_pos q, if_pos q]
    exact ⟨h1, h2, h3, rfl, h5⟩
  · rw [if_neg q, if_neg q]
    have hg : (go c).toNatClampNeg < S := by
      rcases h5' c with e | ⟨m, hm, e⟩
      · exact absurd (Or.inl e) q
      · rw [e, nI_clamp (by omega)]
        exact hm
    have f2 : fu (go c).toNatClampNeg = fu' (go c).toNatClampNeg := h2 _ hg
    have f3 : we (go c).toNatClampNeg = we' (go c).toNatClampNeg := h3 _ hg
    rw [hro _ hg, zwt_ag hdu, f3]
    split
    · unfold zpR
      dsimp only
      rw [f2]
      split
      · refine ⟨zag_u h1 rfl, zag_u (zag_u h2 rfl) rfl, h3, rfl, fun c' => ?_⟩
        show rq (zng n (nI (go c).toNatClampNeg) 1 go pu c') S
        unfold zng
        split
        · exact Or.inl rfl
        · exact h5' c'
      · exact ⟨h1, zag_u h2 rfl, h3, rfl, h5⟩
    · split
      · exact ⟨h1, h2, zag_u h3 rfl, rfl, h5⟩
      · exact ⟨h1, h2, h3, rfl, h5⟩
theorem wa_wk (hS : S ≤ 64) (hr : ∀ c, rq (w 17 c) S) (H : WA S w w') : WA S (wWk S a n n w) (wWk S a n n w') := by
  have z : R4 S (wWkT S a n n w) (wWkT S a n n w') := by
    unfold wWkT
    rw [(H 15).2 (by decide), (H 16).2 (by decide), (H 18).2 (by decide)]
    exact zit_rel (Q := R4 S) ⟨(H 5).1 (by decide), (H 8).1 (by decide), (H 10).1 (by decide), (H 17).2 (by decide), hr⟩ n (fun i s u _ h => zwR_ag hS ((H 11).1 (by decide)) ((H 12).1 (by decide)) h)
  unfold wWk
  generalize wWkT S a n n w = s at *
  generalize wWkT S a n n w' = u at *
  obtain ⟨s1, s2, s3, s4⟩ := s
  obtain ⟨u1, u2, u3, u4⟩ := u
  obtain ⟨h1, h2, h3, h4, h5⟩ := z
  exact WA_u2 (WA_u1 (WA_u1 (WA_u1 H (by decide) h1) (by decide) h2) (by decide) h3) (by decide) h4
def R8 (S : Nat) (s u : zB8) : Prop := zag S s.1 u.1 ∧ zag S s.2.1 u.2.1 ∧ zag S s.2.2.1 u.2.2.1 ∧ zag S s.2.2.2.1 u.2.2.2.1 ∧ zag S s.2.2.2.2.1 u.2.2.2.2.1 ∧ s.2.2.2.2.2 = u.2.2.2.2.2
theorem wPf_ag {st st' fu fu' : Nat → Int32} {c k : Nat} (hk : k < S) (H : WA S w w') (h1 : zag S st st') (h2 : zag S fu fu') : wPf S a l0 h da C R P M w st fu c k = wPf S a l0 h da C R P M w' st' fu' c k := by
  unfold wPf
  have e : zvk a (w 7) (w 6) fu (w 14) (w 15) (w 16) h (zcn st 1 S) c k = zvk a (w' 7) (w' 6) fu' (w' 14) (w' 15) (w' 16) h (zcn st' 1 S) c k := by
    unfold zvk
    rw [(H 7).1 (by decide) k hk, (H 6).1 (by decide) k hk, h2 k hk, (H 14).2 (by decide), (H 15).2 (by decide), (H 16).2 (by decide), zcn_ag h1 S (Nat.le_refl _)]
  rw [e]
theorem zbRs_ag {k : Nat} {q : Nat → Int32} {s u : zB8} (hk : k < S) (H : WA S w w') (h0 : R8 S s u) : R8 S (zbRs n q (wPf S a l0 h da C R P M w) k s) (zbRs n q (wPf S a l0 h da C R P M w') k u) := by
  obtain ⟨st, fu, wm, we, ro, go, pa, sa⟩ := s
  obtain ⟨st', fu', wm', we', ro', go', pa', sa'⟩ := u
  obtain ⟨h1, h2, h3, h4, h5, h6⟩ := h0
  have h6' : (go, pa, sa) = (go', pa', sa') := h6
  simp only [Prod.mk.injEq] at h6'
  obtain ⟨rfl, rfl, rfl⟩ := h6'
  have g1 : st k = st' k := h1 k hk
  have g2 : fu k = fu' k := h2 k hk
  have g4 : we k = we' k := h4 k hk
  have g5 : ro k = ro' k := h5 k hk
  unfold zbRs
  show R8 S (if st k = 1 then _ else _) (if st' k = 1 then _ else _)
  rw [g1]
  split
  · unfold zbR
    dsimp only
    rw [g2, g4, g5]
    split
    · refine ⟨zag_u h1 rfl, h2, zag_u h3 rfl, zag_u h4 rfl, zag_u h5 rfl, ?_⟩
      show (_, _, _) = (_, _, _)
      rw [wPf_ag hk H (zag_u h1 rfl) h2]
    · split
      · exact ⟨zag_u h1 rfl, zag_u h2 rfl, h3, h4, zag_u h5 rfl, rfl⟩
      · exact ⟨h1, zag_u h2 rfl, h3, h4, h5, rfl⟩
  · exact ⟨h1, h2, h3, h4, h5, rfl⟩
theorem wa_bu (H : WA S w w') : WA S (wBu S a n l0 h S da C R P M w) (wBu S a n l0 h S da C R P M w') := by
  have z : R8 S (wBuT S a n l0 h S da C R P M w) (wBuT S a n l0 h S da C R P M w') := by
    unfold wBuT
    rw [(H 18).2 (by decide)]
    refine zit_rel (Q := R8 S) ⟨(H 5).1 (by decide), (H 8).1 (by decide), (H 9).1 (by decide), (H 10).1 (by decide), (H 11).1 (by decide), ?_⟩ S (fun i s u hi h => zbRs_ag hi H h)
    show (w 17, w 19, w 21) = (w' 17, w' 19, w' 21)
    rw [(H 17).2 (by decide), (H 19).2 (by decide), (H 21).2 (by decide)]
  unfold wBu
  generalize wBuT S a n l0 h S da C R P M w = s at *
  generalize wBuT S a n l0 h S da C R P M w' = u at *
  obtain ⟨s1, s2, s3, s4, s5, s6, s7, s8⟩ := s
  obtain ⟨u1, u2, u3, u4, u5, u6, u7, u8⟩ := u
  obtain ⟨h1, h2, h3, h4, h5, h6⟩ := z
  have h6' : (s6, s7, s8) = (u6, u7, u8) := h6
  simp only [Prod.mk.injEq] at h6'
  obtain ⟨e6, e7, e8⟩ := h6'
  exact WA_u2 (WA_u2 (WA_u2 (WA_u1 (WA_u1 (WA_u1 (WA_u1 (WA_u1 H (by decide) h1) (by decide) h2) (by decide) h3) (by decide) h4) (by decide) h5) (by decide) e6) (by decide) e7) (by decide) e8
theorem zbu_ag {st st' : Nat → Int32} {x : Int32} (h1 : zag S st st') : zbu S st x = zbu S st' x := by
  refine propext ⟨fun w => ?_, fun w => ?_⟩
  · obtain ⟨m, w1, w2, w3⟩ := w
    exact ⟨m, w1, w2, (h1 m w1).symm.trans w3⟩
  · obtain ⟨m, w1, w2, w3⟩ := w
    exact ⟨m, w1, w2, (h1 m w1).trans w3⟩
theorem zht_ag {st st' nb : Nat → Int32} (h1 : zag S st st') : ∀ s, zht S wi st nb s = zht S wi st' nb s
  | 0 => rfl
  | s + 1 => by
    unfold zht
    rw [zht_ag h1 s, zbu_ag h1]
theorem zwr_ag {st st' wm wm' : Nat → Int32} (h1 : zag S st st') (h2 : zag S wm wm') : zag S (zwr S a b wi st wm) (zwr S a b wi st' wm') := fun k hk => by
  unfold zwr zpw zwm
  rw [if_pos hk, if_pos hk, h1 k hk, h2 k hk, zht_ag h1]
theorem zbr_ag {st st' wm wm' : Nat → Int32} (h1 : zag S st st') (h2 : zag S wm wm') {k : Nat} (hk : k < S) : zbr S a b wi st wm k = zbr S a b wi st' wm' k := by
  unfold zbr zbg
  rw [h1 k hk, zwr_ag (a := a) (b := b) (wi := wi) h1 h2 k hk]
theorem wa_wa (H : WA S w w') : WA S (zvWa S a b wi w) (zvWa S a b wi w') := by
  have z := zwr_ag (a := a) (b := b) (wi := wi) ((H 5).1 (by decide)) ((H 9).1 (by decide))
  refine WA_u1 (WA_u1 H (by decide) (fun k hk => ?_)) (by decide) z
  unfold zsr zpw zst zbg
  rw [if_pos hk, if_pos hk, (H 5).1 (by decide) k hk, z k hk]
theorem zfR_ag {q go : Nat → Int32} {A B : Nat → Bool} : ∀ m, (∀ k, k < m → A k = B k) → zfR n q A m go = zfR n q B m go
  | 0, _ => rfl
  | m + 1, hm => by
    unfold zfR
    rw [zfR_ag m (fun k hk => hm k (by omega)), hm m (by omega)]
theorem wa_fg {A B : Nat → Bool} (hAB : ∀ k, k < S → A k = B k) (H : WA S w w') : WA S (wFg n S A w) (wFg n S B w') := by
  unfold wFg
  rw [(H 17).2 (by decide), (H 18).2 (by decide), zfR_ag S hAB]
  exact WA_u2 H (by decide) rfl
theorem zrW_ag {k : Nat} {go : Nat → Int32} (hk : k < S) (H : WA S w w') : zrW a h (fo da (nI (h / 24)) l0 0 (-1)) (zcn (w 5) 1 S) (w 7) (w 6) (w 8) (w 14) (w 15) (w 16) C R P M k go = zrW a h (fo da (nI (h / 24)) l0 0 (-1)) (zcn (w' 5) 1 S) (w' 7) (w' 6) (w' 8) (w' 14) (w' 15) (w' 16) C R P M k go := by
  funext c
  unfold zrW zvk
  rw [(H 7).1 (by decide) k hk, (H 6).1 (by decide) k hk, (H 8).1 (by decide) k hk, (H 14).2 (by decide), (H 15).2 (by decide), (H 16).2 (by decide), zcn_ag ((H 5).1 (by decide)) S (Nat.le_refl _)]
theorem zrP_ag {k : Nat} {go pu : Nat → Int32} (hk : k < S) (H : WA S w w') : zrP a h (fo da (nI (h / 24)) l0 0 (-1)) (zcn (w 5) 1 S) (w 7) (w 6) (w 8) (w 14) (w 15) (w 16) C R P M k go pu = zrP a h (fo da (nI (h / 24)) l0 0 (-1)) (zcn (w' 5) 1 S) (w' 7) (w' 6) (w' 8) (w' 14) (w' 15) (w' 16) C R P M k go pu := by
  funext c
  unfold zrP zvk
  rw [(H 7).1 (by decide) k hk, (H 6).1 (by decide) k hk, (H 8).1 (by decide) k hk, (H 14).2 (by decide), (H 15).2 (by decide), (H 16).2 (by decide), zcn_ag ((H 5).1 (by decide)) S (Nat.le_refl _)]
theorem wRiT_ag {A B : Nat → Bool} (hAB : ∀ k, k < S → A k = B k) (H : WA S w w') : ∀ m, m ≤ S → wRiT S a n l0 h da C R P M A w m = wRiT S a n l0 h da C R P M B w' m
  | 0, _ => by
    unfold wRiT
    rw [(H 17).2 (by decide), (H 18).2 (by decide)]
  | m + 1, hm => by
    unfold wRiT
    rw [wRiT_ag hAB H m (by omega), hAB m (by omega), zrW_ag (k := m) (by omega) H, zrP_ag (k := m) (by omega) H]
theorem wa_ri {A B : Nat → Bool} (hAB : ∀ k, k < S → A k = B k) (H : WA S w w') : WA S (wRi S a n l0 h S da C R P M A w) (wRi S a n l0 h S da C R P M B w') := by
  unfold wRi
  rw [wRiT_ag hAB H S (Nat.le_refl _)]
  exact WA_u2 (WA_u2 H (by decide) rfl) (by decide) rfl
theorem wa_H (hS : S ≤ 64) (hr : ∀ c, rq (w 17 c) S) (H : WA S w w') : WA S (wH S a b n l0 h wi t da C R P M w) (wH S a b n l0 h wi t da C R P M w') := by
  have h1 : WA S (wF S a n l0 h t da C R P M w) (wF S a n l0 h t da C R P M w') := wa_bu (wa_wk hS hr (wa_ro (wa_go H)))
  have e : ∀ k, k < S → zbr S a b wi (wF S a n l0 h t da C R P M w 5) (wF S a n l0 h t da C R P M w 9) k = zbr S a b wi (wF S a n l0 h t da C R P M w' 5) (wF S a n l0 h t da C R P M w' 9) k := fun k hk => zbr_ag ((h1 5).1 (by decide)) ((h1 9).1 (by decide)) hk
  exact wa_ri e (wa_fg e (wa_wa h1))
theorem wa_Ht (H : WA S w w') : wHt S a n t w = wHt S a n t w' := congrArg Prod.snd (wa_roT (a := a) (n := n) (t := t) (wa_go (a := a) (n := n) H)).2
end WAS
/-- the hours, where the reference's rows are as they are -/
theorem zs_Hs2 {S a b n l0 h0 : Nat} {wi t : Int32} {co en da C R P M : Nat → Int32} {v w w' : Nat → Nat → Int32} (hS : S ≤ 64) (hn : n < 9) (hl : l0 < 7) (hL : ZLaw S l0 co en C R P M) (hs : ZS S n v w) (H : WA S w w') : ∀ i, ZS S n (zHs S a b n l0 h0 wi co en da i v) (wHs S a b n l0 h0 wi da C R P M i (w, t)).1 ∧ WA S (wHs S a b n l0 h0 wi da C R P M i (w, t)).1 (wHs S a b n l0 h0 wi da C R P M i (w', t)).1 ∧ (wHs S a b n l0 h0 wi da C R P M i (w, t)).2 = (wHs S a b n l0 h0 wi da C R P M i (w', t)).2
  | 0 => ⟨hs, H, rfl⟩
  | i + 1 => by
    obtain ⟨a1, a2, a3⟩ := zs_Hs2 (h0 := h0) (wi := wi) (t := t) (da := da) hS hn hl hL hs H i
    have hr : ∀ c, rq ((wHs S a b n l0 h0 wi da C R P M i (w, t)).1 17 c) S := fun c => by
      rw [← a1.1 17 (by decide)]
      exact a1.2.2.2.1 c
    refine ⟨zs_H hS hn hl hL a1, ?_, ?_⟩
    · have z := wa_H (a := a) (b := b) (n := n) (l0 := l0) (h := h0 + i) (wi := wi) (t := (wHs S a b n l0 h0 wi da C R P M i (w, t)).2) (da := da) (C := C) (R := R) (P := P) (M := M) hS hr a2
      rw [a3] at z
      show WA S (wH S a b n l0 (h0 + i) wi (wHs S a b n l0 h0 wi da C R P M i (w, t)).2 da C R P M (wHs S a b n l0 h0 wi da C R P M i (w, t)).1) _
      rw [a3]
      exact z
    · show wHt S a n (wHs S a b n l0 h0 wi da C R P M i (w, t)).2 (wHs S a b n l0 h0 wi da C R P M i (w, t)).1 = wHt S a n (wHs S a b n l0 h0 wi da C R P M i (w', t)).2 (wHs S a b n l0 h0 wi da C R P M i (w', t)).1
      rw [a3]
      exact wa_Ht a2
/-! THE FULL STATE: beyond the cells, in the class -/
section WAC
variable {S a b n l0 h : Nat} {wi : Int32} {co en da : Nat → Int32} {v v' : Nat → Nat → Int32}
def C2 (S : Nat) (s u : (Nat → Int32) × (Nat → Int32)) : Prop := zag S s.1 u.1 ∧ s.2 = u.2
theorem zgr_ag {k c : Nat} {go pl : Nat → Int32} {s u : (Nat → Int32) × (Nat → Int32)} (hk : k < S) (H : C2 S s u) : C2 S (zgr a k go pl c s) (zgr a k go pl c u) := by
  obtain ⟨h1, h2⟩ := H
  unfold zgr
  rw [h1 k hk, h2]
  split
  · split
    · exact ⟨zag_u h1 rfl, rfl⟩
    · exact ⟨h1, rfl⟩
  · exact ⟨h1, h2⟩
theorem zgrs_ag {k : Nat} {st st' go pl : Nat → Int32} {s u : (Nat → Int32) × (Nat → Int32)} (hk : k < S) (hst : zag S st st') (H : C2 S s u) : C2 S (zgrs a n st go pl k s) (zgrs a n st' go pl k u) := by
  unfold zgrs
  rw [hst k hk, H.1 k hk]
  split
  · exact zit_rel H n (fun i s u _ h => zgr_ag hk h)
  · exact H
theorem va_ro (H : WA S v v') : WA S (zvRo S a n v) (zvRo S a n v') := by
  have z : C2 S (zRoT S a n v) (zRoT S a n v') := by
    unfold zRoT
    rw [(H 17).2 (by decide), (H 16).2 (by decide), (H 20).2 (by decide)]
    exact zit_rel ⟨(H 11).1 (by decide), rfl⟩ S (fun i s u hi h => zgrs_ag hi ((H 5).1 (by decide)) h)
  unfold zvRo
  rw [z.2]
  exact WA_u2 (WA_u1 H (by decide) z.1) (by decide) rfl
theorem zpl_e {g : Nat} {m : Int32} {st fu we go pu : Nat → Int32} : zpl n g m (st, fu, we, go, pu) = if fu g - m < 1 then (upd st g 3, upd (upd fu g (fu g - m)) g 0, we, fgl n (nI g) go, fgp n (nI g) go pu) else (st, upd fu g (fu g - m), we, go, pu) := rfl
def C5 (S : Nat) (s u : zW5) : Prop := zag S s.1 u.1 ∧ zag S s.2.1 u.2.1 ∧ zag S s.2.2.1 u.2.2.1 ∧ s.2.2.2 = u.2.2.2 ∧ ∀ c, rq (s.2.2.2.1 c) S
theorem zwk_ag {c : Nat} {me pl ro ro' du du' : Nat → Int32} {s u : zW5} (hS : S ≤ 64) (hro : zag S ro ro') (hdu : zag S du du') (H : C5 S s u) : C5 S (zwk S a n me pl ro du c s) (zwk S a n me pl ro' du' c u) := by
  obtain ⟨st, fu, we, go, pu⟩ := s
  obtain ⟨st', fu', we', go', pu'⟩ := u
  obtain ⟨h1, h2, h3, h4, h5⟩ := H
  have h4' : (go, pu) = (go', pu') := h4
  simp only [Prod.mk.injEq] at h4'
  obtain ⟨rfl, rfl⟩ := h4'
  have h5' : ∀ c, rq (go c) S := h5
  unfold zwk
  dsimp only
  by_cases q : go c = -1 ∨ ¬ zds a (pl c).toNatClampNeg (go c).toNatClampNeg = 1
  · rw [if_pos q, if_pos q]
    exact ⟨h1, h2, h3, rfl, h5⟩
  · rw [if_neg q, if_neg q]
    have hg : (go c).toNatClampNeg < S := by
      rcases h5' c with e | ⟨m, hm, e⟩
      · exact absurd (Or.inl e) q
      · rw [e, nI_clamp (by omega)]
        exact hm
    have f2 : fu (go c).toNatClampNeg = fu' (go c).toNatClampNeg := h2 _ hg
    have f3 : we (go c).toNatClampNeg = we' (go c).toNatClampNeg := h3 _ hg
    rw [hro _ hg, zwt_ag hdu, f3]
    split
    · rw [zpl_e, zpl_e, f2]
      split
      · refine ⟨zag_u h1 rfl, zag_u (zag_u h2 rfl) rfl, h3, rfl, fun c' => ?_⟩
        show rq (fgl n (nI (go c).toNatClampNeg) go c') S
        unfold fgl
        split
        · exact Or.inl rfl
        · exact h5' c'
      · exact ⟨h1, zag_u h2 rfl, h3, rfl, h5⟩
    · split
      · exact ⟨h1, h2, zag_u h3 rfl, rfl, h5⟩
      · exact ⟨h1, h2, h3, rfl, h5⟩
theorem va_wk (hS : S ≤ 64) (hr : ∀ c, rq (v 17 c) S) (H : WA S v v') : WA S (zvWk S a n v) (zvWk S a n v') := by
  have z : C5 S (zWkT S a n v) (zWkT S a n v') := by
    unfold zWkT
    rw [(H 15).2 (by decide), (H 16).2 (by decide)]
    refine zit_rel (Q := C5 S) ⟨(H 5).1 (by decide), (H 8).1 (by decide), (H 10).1 (by decide), ?_, hr⟩ n (fun i s u _ h => zwk_ag hS ((H 11).1 (by decide)) ((H 12).1 (by decide)) h)
    show (v 17, v 18) = (v' 17, v' 18)
    rw [(H 17).2 (by decide), (H 18).2 (by decide)]
  obtain ⟨h1, h2, h3, h4, h5⟩ := z
  unfold zvWk
  exact WA_u2 (WA_u2 (WA_u1 (WA_u1 (WA_u1 H (by decide) h1) (by decide) h2) (by decide) h3) (by decide) (congrArg Prod.fst h4)) (by decide) (congrArg Prod.snd h4)
def C9 (S : Nat) (s u : zB9) : Prop := zag S s.1 u.1 ∧ zag S s.2.1 u.2.1 ∧ zag S s.2.2.1 u.2.2.1 ∧ zag S s.2.2.2.1 u.2.2.2.1 ∧ zag S s.2.2.2.2.1 u.2.2.2.2.1 ∧ s.2.2.2.2.2 = u.2.2.2.2.2
theorem zkw_ag {wa wo fu wa' wo' fu' ow me pl : Nat → Int32} {fi : Int32} {c k : Nat} (hk : k < S) (h1 : zag S wa wa') (h2 : zag S wo wo') (h3 : zag S fu fu') : zkw a wa wo fu ow me pl h fi c k = zkw a wa' wo' fu' ow me pl h fi c k := by
  unfold zkw
  rw [h1 k hk, h2 k hk, h3 k hk]
theorem zpf_ag {st st' fu fu' : Nat → Int32} {c k : Nat} (hk : k < S) (H : WA S v v') (h1 : zag S st st') (h2 : zag S fu fu') : zpf S a l0 h (v 7) (v 6) (v 14) (v 15) (v 16) co en da st fu c k = zpf S a l0 h (v' 7) (v' 6) (v' 14) (v' 15) (v' 16) co en da st' fu' c k := by
  unfold zpf
  rw [(H 14).2 (by decide), (H 15).2 (by decide), (H 16).2 (by decide), zcn_ag h1 S (Nat.le_refl _), zkw_ag hk ((H 7).1 (by decide)) ((H 6).1 (by decide)) h2]
theorem zbn_ag {k : Nat} {s u : zB9} (hk : k < S) (H : WA S v v') (h0 : C9 S s u) : C9 S (zbn n (zpf S a l0 h (v 7) (v 6) (v 14) (v 15) (v 16) co en da) k s) (zbn n (zpf S a l0 h (v' 7) (v' 6) (v' 14) (v' 15) (v' 16) co en da) k u) := by
  obtain ⟨st, fu, wm, we, ro, go, pu, pa, sa⟩ := s
  obtain ⟨st', fu', wm', we', ro', go', pu', pa', sa'⟩ := u
  obtain ⟨h1, h2, h3, h4, h5, h6⟩ := h0
  have h6' : (go, pu, pa, sa) = (go', pu', pa', sa') := h6
  simp only [Prod.mk.injEq] at h6'
  obtain ⟨rfl, rfl, rfl, rfl⟩ := h6'
  have g1 : st k = st' k := h1 k hk
  have g2 : fu k = fu' k := h2 k hk
  have g4 : we k = we' k := h4 k hk
  have g5 : ro k = ro' k := h5 k hk
  unfold zbn zpo
  dsimp only
  rw [g1, g2, g4, g5]
  split
  · split
    · refine ⟨zag_u h1 rfl, h2, zag_u h3 rfl, zag_u h4 rfl, zag_u h5 rfl, ?_⟩
      show (_, _, _, _) = (_, _, _, _)
      rw [zpf_ag hk H (zag_u h1 rfl) h2]
    · split
      · exact ⟨zag_u h1 rfl, zag_u h2 rfl, h3, h4, zag_u h5 rfl, rfl⟩
      · exact ⟨h1, zag_u h2 rfl, h3, h4, h5, rfl⟩
  · exact ⟨h1, h2, h3, h4, h5, rfl⟩
theorem va_bu (H : WA S v v') : WA S (zvBu S a n l0 h co en da v) (zvBu S a n l0 h co en da v') := by
  have z : C9 S (zBuT S a n l0 h co en da v) (zBuT S a n l0 h co en da v') := by
    unfold zBuT
    refine zit_rel (Q := C9 S) ⟨(H 5).1 (by decide), (H 8).1 (by decide), (H 9).1 (by decide), (H 10).1 (by decide), (H 11).1 (by decide), ?_⟩ S (fun i s u hi h => zbn_ag hi H h)
    show (v 17, v 18, v 19, v 21) = (v' 17, v' 18, v' 19, v' 21)
    rw [(H 17).2 (by decide), (H 18).2 (by decide), (H 19).2 (by decide), (H 21).2 (by decide)]
  unfold zvBu
  generalize zBuT S a n l0 h co en da v = s at *
  generalize zBuT S a n l0 h co en da v' = u at *
  obtain ⟨s1, s2, s3, s4, s5, s6, s9, s7, s8⟩ := s
  obtain ⟨u1, u2, u3, u4, u5, u6, u9, u7, u8⟩ := u
  obtain ⟨h1, h2, h3, h4, h5, h6⟩ := z
  have h6' : (s6, s9, s7, s8) = (u6, u9, u7, u8) := h6
  simp only [Prod.mk.injEq] at h6'
  obtain ⟨e6, e9, e7, e8⟩ := h6'
  exact WA_u2 (WA_u2 (WA_u2 (WA_u2 (WA_u1 (WA_u1 (WA_u1 (WA_u1 (WA_u1 H (by decide) h1) (by decide) h2) (by decide) h3) (by decide) h4) (by decide) h5) (by decide) e6) (by decide) e9) (by decide) e7) (by decide) e8
theorem zfB_ag {A B : Nat → Bool} {s : (Nat → Int32) × (Nat → Int32)} : ∀ m, (∀ k, k < m → A k = B k) → zfB n A m s = zfB n B m s
  | 0, _ => rfl
  | m + 1, hm => by
    unfold zfB
    rw [zfB_ag m (fun k hk => hm k (by omega)), hm m (by omega)]
theorem zrbW_ag {k : Nat} {x1 : Int32} {go : Nat → Int32} (hk : k < S) (H : WA S v v') : zrbW a h x1 (zcn (v 5) 1 S) (v 7) (v 6) (v 8) (v 14) (v 15) (v 16) co en k go = zrbW a h x1 (zcn (v' 5) 1 S) (v' 7) (v' 6) (v' 8) (v' 14) (v' 15) (v' 16) co en k go := by
  funext c
  unfold zrbW
  rw [(H 14).2 (by decide), (H 15).2 (by decide), (H 16).2 (by decide), zcn_ag ((H 5).1 (by decide)) S (Nat.le_refl _), zkw_ag hk ((H 7).1 (by decide)) ((H 6).1 (by decide)) ((H 8).1 (by decide)), (H 7).1 (by decide) k hk]
theorem zrB_ag {A B : Nat → Bool} {x1 : Int32} {go : Nat → Int32} (hAB : ∀ k, k < S → A k = B k) (H : WA S v v') : ∀ m, m ≤ S → zrB a n h x1 (zcn (v 5) 1 S) (v 7) (v 6) (v 8) (v 14) (v 15) (v 16) co en A m go = zrB a n h x1 (zcn (v' 5) 1 S) (v' 7) (v' 6) (v' 8) (v' 14) (v' 15) (v' 16) co en B m go
  | 0, _ => rfl
  | m + 1, hm => by
    unfold zrB
    rw [zrB_ag hAB H m (by omega), hAB m (by omega), zrbW_ag (k := m) (by omega) H]
theorem va_ri {A B : Nat → Bool} (hAB : ∀ k, k < S → A k = B k) (H : WA S v v') : WA S (zvRi S a n l0 h co en da A v) (zvRi S a n l0 h co en da B v') := by
  unfold zvRi
  rw [zrB_ag hAB H S (Nat.le_refl _), (H 17).2 (by decide), (H 18).2 (by decide), zfB_ag S hAB]
  exact WA_u2 (WA_u2 H (by decide) rfl) (by decide) rfl
theorem va_H (hS : S ≤ 64) (hr : ∀ c, rq (v 17 c) S) (H : WA S v v') : WA S (zvH S a b n l0 h wi co en da v) (zvH S a b n l0 h wi co en da v') := by
  have h1 : WA S (zvF S a n l0 h co en da v) (zvF S a n l0 h co en da v') := va_bu (va_wk hS hr (va_ro (wa_go H)))
  have e : ∀ k, k < S → zbr S a b wi (zvF S a n l0 h co en da v 5) (zvF S a n l0 h co en da v 9) k = zbr S a b wi (zvF S a n l0 h co en da v' 5) (zvF S a n l0 h co en da v' 9) k := fun k hk => zbr_ag ((h1 5).1 (by decide)) ((h1 9).1 (by decide)) hk
  exact va_ri e (wa_wa h1)
theorem va_Hs {h0 : Nat} {w : Nat → Nat → Int32} {t : Int32} {C R P M : Nat → Int32} (hS : S ≤ 64) (hn : n < 9) (hl : l0 < 7) (hL : ZLaw S l0 co en C R P M) (hs : ZS S n v w) (H : WA S v v') : ∀ i, WA S (zHs S a b n l0 h0 wi co en da i v) (zHs S a b n l0 h0 wi co en da i v')
  | 0 => H
  | i + 1 => va_H hS (zs_Hs (s := (w, t)) hS hn hl hL hs i).2.2.2.1 (va_Hs (t := t) hS hn hl hL hs H i)
end WAC
