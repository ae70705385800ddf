theorem al_up {P : Nat → Prop} {j : Nat} (h : ∀ t, t < j → P t) (w : P j) : ∀ t, t < j + 1 → P t := fun t ht => by
  rcases Nat.lt_or_eq_of_le (Nat.le_of_lt_succ ht) with u | u
  · exact h t u
  · exact u ▸ w
theorem al_up2 {P : Nat → Prop} {i j : Nat} (h : ∀ t, i ≤ t → t < j → P t) (w : P j) : ∀ t, i ≤ t → t < j + 1 → P t := fun t hi ht => by
  rcases Nat.lt_or_eq_of_le (Nat.le_of_lt_succ ht) with u | u
  · exact h t hi u
  · exact u ▸ w
theorem al_0 {P : Nat → Prop} {i : Nat} : ∀ t, i ≤ t → t < i → P t := fun t a b => absurd a (by omega)
theorem or_t {n : Nat} {A : Prop} (h : (nI n = 1 ∧ A) ∨ (nI n = 0 ∧ ¬ A)) (e : ¬ n = 0) (hn : n < 2) : A := by
  obtain rfl : n = 1 := by omega
  rcases h with ⟨_, w⟩ | ⟨h, _⟩
  · exact w
  · exact absurd h (by decide)
theorem or_f {n : Nat} {A : Prop} (h : (nI n = 1 ∧ A) ∨ (nI n = 0 ∧ ¬ A)) (e : n = 0) : ¬ A := by
  subst e
  rcases h with ⟨h, _⟩ | ⟨_, w⟩
  · exact absurd h (by decide)
  · exact w
/-! TEXTS: bytes, runs of them, words, tokens -/
def isp (c : Int32) : Prop := c = 32 ∨ c = 10
def ilt (c : Int32) : Prop := 97 ≤ c ∧ c ≤ 122
def idg (c : Int32) : Prop := 48 ≤ c ∧ c ≤ 57
/-- from p on, up to q, all bytes are P; q is the text's end or is none -/
def rn_ (P : Int32 → Prop) (T : Nat → Int32) (n p q : Nat) : Prop := p ≤ q ∧ q ≤ n ∧ (∀ k, p ≤ k → k < q → P (T k)) ∧ (q < n → ¬ P (T q))
theorem rn_eq {P : Int32 → Prop} {T : Nat → Int32} {n p q q' : Nat} (h : rn_ P T n p q) (g : rn_ P T n p q') : q = q' := by
  obtain ⟨h1, h2, h3, h4⟩ := h
  obtain ⟨g1, g2, g3, g4⟩ := g
  rcases Nat.lt_trichotomy q q' with w | w | w
  · exact absurd (g3 q h1 w) (h4 (by omega))
  · exact w
  · exact absurd (h3 q' g1 w) (g4 (by omega))
theorem rn_0 {P : Int32 → Prop} {T : Nat → Int32} {n p : Nat} (h : p ≤ n) (w : p < n → ¬ P (T p)) : rn_ P T n p p := ⟨Nat.le_refl _, h, fun k a b => absurd a (by omega), w⟩
theorem rn_lt {P : Int32 → Prop} {T : Nat → Int32} {n p q : Nat} (h : rn_ P T n p q) (hp : p < n) (w : P (T p)) : p < q := by
  obtain ⟨h1, h2, h3, h4⟩ := h
  rcases Nat.lt_or_ge p q with u | u
  · exact u
  · obtain rfl : p = q := by omega
    exact absurd w (h4 hp)
def wd_ (T : Nat → Int32) (p e i : Nat) : Prop := p + (ai_tx i).length = e ∧ ∀ k, k < (ai_tx i).length → T (p + k) = (ai_tx i).getD k 0
def sgc (c : Int32) : Int32 := if c = 40 then -4 else if c = 41 then -5 else if c = 59 then -6 else if c = 43 then -7 else if c = 45 then -8 else if c = 42 then -9 else if c = 60 then -10 else if c = 61 then -11 else -2
def wcd : List (Nat × Int32) := [(3, -12), (4, -13), (5, -14), (6, -15), (7, -16), (8, -20), (9, -21), (10, -22), (11, -23), (12, -24), (13, -25), (14, -26), (15, -27)]
def Wc (T : Nat → Int32) (p e : Nat) (c : Int32) : Prop := (∀ x, x ∈ wcd → (wd_ T p e x.1 ↔ c = x.2)) ∧ (c = -17 ∨ ∃ x, x ∈ wcd ∧ c = x.2)
def nv_ (T : Nat → Int32) (p : Nat) : Nat → Int32
  | 0 => 0
  | k + 1 => 10 * nv_ T p k + T (p + k) - 48
def TokAt (T : Nat → Int32) (n p : Nat) (c : Int32) (e : Nat) : Prop := (ilt (T p) ∧ rn_ ilt T n p e ∧ Wc T p e c) ∨ (¬ ilt (T p) ∧ idg (T p) ∧ rn_ idg T n p e ∧ ((5 < e - p ∧ c = -3) ∨ (e - p ≤ 5 ∧ c = nv_ T p (e - p)))) ∨ (¬ ilt (T p) ∧ ¬ idg (T p) ∧ e = p + 1 ∧ c = sgc (T p))
theorem ta_lt {T : Nat → Int32} {n p e : Nat} {c : Int32} (h : TokAt T n p c e) (hp : p < n) : p < e ∧ e ≤ n := by
  rcases h with ⟨h1, h2, _⟩ | ⟨_, h1, h2, _⟩ | ⟨_, _, rfl, _⟩
  · exact ⟨rn_lt h2 hp h1, h2.2.1⟩
  · exact ⟨rn_lt h2 hp h1, h2.2.1⟩
  · exact ⟨by omega, by omega⟩
/-- i tokens are read, up to e; R and P hold them and their places -/
def Sp (T : Nat → Int32) (n : Nat) (R P : Nat → Int32) (i e : Nat) : Prop := ∃ pl g : Nat → Nat, g 0 = 0 ∧ g i = e ∧ i ≤ e ∧ e ≤ n ∧ ∀ j, j < i → P j = nI (pl j) ∧ pl j < n ∧ rn_ isp T n (g j) (pl j) ∧ TokAt T n (pl j) (R j) (g (j + 1))
/-- a text's tokens: tk, the places pl, sz of them with the end -/
def Sm (T : Nat → Int32) (n : Nat) (tk : Nat → Int32) (pl g : Nat → Nat) (sz : Nat) : Prop := 1 ≤ sz ∧ sz ≤ 401 ∧ g 0 = 0 ∧ (∀ j, j + 1 < sz → pl j < n ∧ rn_ isp T n (g j) (pl j) ∧ TokAt T n (pl j) (tk j) (g (j + 1))) ∧ pl (sz - 1) = n ∧ rn_ isp T n (g (sz - 1)) n ∧ tk (sz - 1) = -1
theorem sp_0 {T : Nat → Int32} {n : Nat} {R P : Nat → Int32} : Sp T n R P 0 0 := ⟨fun _ => 0, fun _ => 0, rfl, rfl, Nat.le_refl _, Nat.zero_le _, fun j h => absurd h (Nat.not_lt_zero _)⟩
theorem sp_up {T : Nat → Int32} {n : Nat} {R P R' P' : Nat → Int32} {i e p e' : Nat} {c : Int32} (h : Sp T n R P i e) (h1 : rn_ isp T n e p) (hp : p < n) (ht : TokAt T n p c e') (hR : R' = upd R i c) (hP : P' = upd P i (nI p)) : Sp T n R' P' (i + 1) e' := by
  obtain ⟨pl, g, g0, gi, hi, he, hj⟩ := h
  obtain ⟨l1, l2⟩ := ta_lt ht hp
  have l3 := h1.1
  refine ⟨fun j => if j = i then p else pl j, fun j => if j = i + 1 then e' else g j, ?_, if_pos rfl, by omega, l2, fun j hji => ?_⟩
  · show (if 0 = i + 1 then e' else g 0) = 0
    rw [if_neg (by omega)]
    exact g0
  · subst hR
    subst hP
    show upd P i (nI p) j = nI (if j = i then p else pl j) ∧ (if j = i then p else pl j) < n ∧ rn_ isp T n (if j = i + 1 then e' else g j) (if j = i then p else pl j) ∧ TokAt T n (if j = i then p else pl j) (upd R i c j) (if j + 1 = i + 1 then e' else g (j + 1))
    by_cases u : j = i
    · subst u
      rw [if_pos rfl, if_pos rfl, if_neg (show ¬ j = j + 1 by omega), gi, ug_eq, ug_eq]
      exact ⟨rfl, hp, h1, ht⟩
    · rw [if_neg u, if_neg (show ¬ j = i + 1 by omega), if_neg (show ¬ j + 1 = i + 1 by omega), ug_ne u, ug_ne u]
      exact hj j (by omega)
theorem sp_end {T : Nat → Int32} {n : Nat} {R P R' P' : Nat → Int32} {i e : Nat} (h : Sp T n R P i e) (h1 : rn_ isp T n e n) (hi : i ≤ 400) (hR : R' = upd R i (-1)) (hP : P' = upd P i (nI n)) : ∃ pl g : Nat → Nat, Sm T n R' pl g (i + 1) ∧ ∀ j, j < i + 1 → P' j = nI (pl j) := by
  obtain ⟨pl, g, g0, gi, hie, he, hj⟩ := h
  subst hR
  subst hP
  refine ⟨fun j => if j = i then n else pl j, g, ⟨by omega, by omega, g0, fun j hji => ?_, ?_, ?_, ?_⟩, fun j hji => ?_⟩
  · show (if j = i then n else pl j) < n ∧ rn_ isp T n (g j) (if j = i then n else pl j) ∧ TokAt T n (if j = i then n else pl j) (upd R i (-1) j) (g (j + 1))
    rw [if_neg (show ¬ j = i by omega), ug_ne (show ¬ j = i by omega)]
    exact (hj j (by omega)).2
  · show (if i + 1 - 1 = i then n else pl (i + 1 - 1)) = n
    exact if_pos (by omega)
  · show rn_ isp T n (g (i + 1 - 1)) n
    rw [show i + 1 - 1 = i by omega, gi]
    exact h1
  · show upd R i (-1) (i + 1 - 1) = -1
    rw [show i + 1 - 1 = i by omega]
    exact ug_eq
  · show upd P i (nI n) j = nI (if j = i then n else pl j)
    by_cases u : j = i
    · subst u
      rw [if_pos rfl]
      exact ug_eq
    · rw [if_neg u, ug_ne u]
      exact (hj j (by omega)).1
/-! the words are told apart -/
theorem tx_ne : ∀ x, x ∈ wcd → ∀ y, y ∈ wcd → x.1 ≠ y.1 → ai_tx x.1 ≠ ai_tx y.1 := by decide +kernel
theorem wd_tx {T : Nat → Int32} {p e i j : Nat} (h : wd_ T p e i) (g : wd_ T p e j) : ai_tx i = ai_tx j := by
  obtain ⟨h1, h2⟩ := h
  obtain ⟨g1, g2⟩ := g
  refine List.ext_getElem (by omega) (fun k a b => ?_)
  have u := (h2 k a).symm.trans (g2 k b)
  have u2 : ((ai_tx i)[k]?).getD 0 = ((ai_tx j)[k]?).getD 0 := u
  rw [List.getElem?_eq_getElem a, List.getElem?_eq_getElem b] at u2
  exact u2
theorem tx_eq2 : ∀ x, x ∈ wcd → ∀ y, y ∈ wcd → ¬ x.2 = y.2 → ¬ x.1 = y.1 := by decide +kernel
theorem wc_inj : ∀ x, x ∈ wcd → ∀ y, y ∈ wcd → x.2 = y.2 → x.1 = y.1 := by decide +kernel
theorem wc_17 : ∀ x, x ∈ wcd → ¬ (-17 : Int32) = x.2 := by decide +kernel
theorem wc_hit {T : Nat → Int32} {p e : Nat} {x : Nat × Int32} (hx : x ∈ wcd) (h : wd_ T p e x.1) : Wc T p e x.2 := by
  refine ⟨fun y hy => ⟨fun w => ?_, fun w => ?_⟩, Or.inr ⟨x, hx, rfl⟩⟩
  · by_cases u : x.1 = y.1
    · by_cases v : x.2 = y.2
      · exact v
      · exact absurd u (fun z => tx_eq2 x hx y hy v z)
    · exact absurd (wd_tx h w) (tx_ne x hx y hy u)
  · rw [← wc_inj x hx y hy w]
    exact h
theorem wc_none {T : Nat → Int32} {p e : Nat} (h : ∀ x, x ∈ wcd → ¬ wd_ T p e x.1) : Wc T p e (-17) := ⟨fun y hy => ⟨fun w => absurd w (h y hy), fun w => absurd w (wc_17 y hy)⟩, Or.inl rfl⟩
theorem kw_5 {P : Nat → Prop} (a3 : ¬ P 3) (a4 : ¬ P 4) (a5 : ¬ P 5) (a6 : ¬ P 6) (a7 : ¬ P 7) : ∀ y, y ∈ wcd.take 5 → ¬ P y.1 := by
  intro y hy
  simp only [wcd, List.take, List.mem_cons, List.not_mem_nil, or_false] at hy
  rcases hy with rfl | rfl | rfl | rfl | rfl <;> assumption
theorem kw_8 {P : Nat → Prop} (a3 : ¬ P 8) (a4 : ¬ P 9) (a5 : ¬ P 10) (a6 : ¬ P 11) (a7 : ¬ P 12) (a8 : ¬ P 13) (a9 : ¬ P 14) (a10 : ¬ P 15) : ∀ y, y ∈ wcd.drop 5 → ¬ P y.1 := by
  intro y hy
  simp only [wcd, List.drop, List.mem_cons, List.not_mem_nil, or_false] at hy
  rcases hy with rfl | rfl | rfl | rfl | rfl | rfl | rfl | rfl <;> assumption
theorem wc_cut : ∀ y, y ∈ wcd → y ∈ wcd.take 5 ∨ y ∈ wcd.drop 5 := by decide +kernel
theorem wc_t : ∀ y, y ∈ wcd.take 5 → y ∈ wcd := fun _ h => List.mem_of_mem_take h
theorem wc_d : ∀ y, y ∈ wcd.drop 5 → y ∈ wcd := fun _ h => List.mem_of_mem_drop h
def Kw (l : List (Nat × Int32)) (T : Nat → Int32) (p e : Nat) (x : Int32) : Prop := (∃ y, y ∈ l ∧ wd_ T p e y.1 ∧ x = y.2) ∨ ((∀ y, y ∈ l → ¬ wd_ T p e y.1) ∧ x = -17)
theorem kw_ne {T : Nat → Int32} {p e : Nat} {x : Int32} (h : Kw (wcd.take 5) T p e x) (w : ¬ x = -17) : Wc T p e x := by
  rcases h with ⟨y, hy, h1, rfl⟩ | ⟨_, h⟩
  · exact wc_hit (wc_t y hy) h1
  · exact absurd h w
theorem kw_all {T : Nat → Int32} {p e : Nat} {x z : Int32} (h : Kw (wcd.take 5) T p e x) (w : x = -17) (g : Kw (wcd.drop 5) T p e z) : Wc T p e z := by
  have h' : ∀ y, y ∈ wcd.take 5 → ¬ wd_ T p e y.1 := by
    rcases h with ⟨y, hy, h1, h2⟩ | ⟨h, _⟩
    · exact absurd (w.symm.trans h2) (wc_17 y (wc_t y hy))
    · exact h
  rcases g with ⟨y, hy, h1, rfl⟩ | ⟨g, rfl⟩
  · exact wc_hit (wc_d y hy) h1
  · exact wc_none (fun y hy => (wc_cut y hy).elim (h' y) (g y))
theorem nv_up {T : Nat → Int32} {k p : Nat} {y : Int32} (h : y = nv_ T k (min (p - k) 5)) (hk : k ≤ p) (w : p - k < 5) : 10 * y + T p - 48 = nv_ T k (min (p + 1 - k) 5) := by
  rw [show min (p + 1 - k) 5 = (p - k) + 1 by omega, nv_, show k + (p - k) = p by omega, h, show min (p - k) 5 = p - k by omega]
theorem nv_on {T : Nat → Int32} {k p : Nat} {y : Int32} (h : y = nv_ T k (min (p - k) 5)) (w : 5 ≤ p - k) : y = nv_ T k (min (p + 1 - k) 5) := by
  rw [show min (p + 1 - k) 5 = 5 by omega]
  rw [show min (p - k) 5 = 5 by omega] at h
  exact h
theorem nv_at {T : Nat → Int32} {k p : Nat} {y : Int32} (h : y = nv_ T k (min (p - k) 5)) (w : p - k ≤ 5) : y = nv_ T k (p - k) := by
  rw [show min (p - k) 5 = p - k by omega] at h
  exact h
set_option maxRecDepth 20000 in
theorem sf_X7_letterAt {X : Nat × (Nat → Int32)} {S a b : Nat} {sc : Nat → Int32} {ar : Nat → Nat → Int32} {lo : Nat → Int64} {ex : Bool} (hW : Wd S a b) (hI : Iv S sc ar) (k1 : Nat) (hk1 : k1 < 400) (d : Nat)  : cp X S a b (d + 1) 60 [.ref 26, .int (nI k1)] sc ar lo ex (fun x => rl x 2 ∧ ((x = 1 ∧ ilt (ar 23 k1)) ∨ (x = 0 ∧ ¬ ilt (ar 23 k1)))) := by
  obtain ⟨ha1, ha8, hb1, hb8, hab, hS1, hS⟩ := id hW
  refine cp_of (M := an_X7_letterAt) rfl (Nat.le_of_ble_eq_true rfl) ?_
  refine to_eq (fr' := (0, [(0, .ref 26), (1, .int (nI k1))], [], gh S a b sc ar lo, ex, 0, 0)) rfl ?_
  refine to_n 1 (fr' := (1, [(0, .ref 26), (1, .int (nI k1))], [.ref 26], gh S a b sc ar lo, ex, 0, 0)) rfl ?_
  refine to_get rfl rfl rfl rfl ?_
  refine to_n 1 (fr' := (5, [(0, .ref 26), (1, .int (nI k1))], [.int (nI k1), .ref 23], gh S a b sc ar lo, ex, 0, 0)) rfl ?_
  refine to_balR (i := k1) (v := ((ar 23) k1)) rfl rfl (by omega) (by omega) rfl ?_
  refine to_n 1 (fr' := (8, [(0, .ref 26), (1, .int (nI k1))], [.int 97, .int ((ar 23) k1)], gh S a b sc ar lo, ex, 0, 0)) rfl ?_
  refine to_ic_lt (t := 26) rfl (fun q1 => ?_) (fun q1 => ?_)
  · refine to_n 1 (fr' := (27, [(0, .ref 26), (1, .int (nI k1))], [.int 0], gh S a b sc ar lo, ex, 0, 0)) rfl ?_
    exact to_rt (i := .ireturn) (tg := []) rfl rfl ⟨_, ⟨rl_n (n := 0) (by omega), (Or.inr ⟨rfl, fun w => Int32.not_lt.mpr w.1 q1⟩)⟩, rfl⟩
  · refine to_n 1 (fr' := (12, [(0, .ref 26), (1, .int (nI k1))], [.ref 26], gh S a b sc ar lo, ex, 0, 0)) rfl ?_
    refine to_get rfl rfl rfl rfl ?_
    refine to_n 1 (fr' := (16, [(0, .ref 26), (1, .int (nI k1))], [.int (nI k1), .ref 23], gh S a b sc ar lo, ex, 0, 0)) rfl ?_
    refine to_balR (i := k1) (v := ((ar 23) k1)) rfl rfl (by omega) (by omega) rfl ?_
    refine to_n 1 (fr' := (19, [(0, .ref 26), (1, .int (nI k1))], [.int 122, .int ((ar 23) k1)], gh S a b sc ar lo, ex, 0, 0)) rfl ?_
    refine to_ic_gt (t := 26) rfl (fun q2 => ?_) (fun q2 => ?_)
    · refine to_n 1 (fr' := (27, [(0, .ref 26), (1, .int (nI k1))], [.int 0], gh S a b sc ar lo, ex, 0, 0)) rfl ?_
      exact to_rt (i := .ireturn) (tg := []) rfl rfl ⟨_, ⟨rl_n (n := 0) (by omega), (Or.inr ⟨rfl, fun w => Int32.not_lt.mpr w.2 q2⟩)⟩, rfl⟩
    · refine to_n 2 (fr' := (27, [(0, .ref 26), (1, .int (nI k1))], [.int 1], gh S a b sc ar lo, ex, 0, 0)) rfl ?_
      exact to_rt (i := .ireturn) (tg := []) rfl rfl ⟨_, ⟨rl_n (n := 1) (by omega), (Or.inl ⟨rfl, Int32.not_lt.mp q1, Int32.not_lt.mp q2⟩)⟩, rfl⟩
set_option maxRecDepth 20000 in
theorem sf_X7_digitAt {X : Nat × (Nat → Int32)} {S a b : Nat} {sc : Nat → Int32} {ar : Nat → Nat → Int32} {lo : Nat → Int64} {ex : Bool} (hW : Wd S a b) (hI : Iv S sc ar) (k1 : Nat) (hk1 : k1 < 400) (d : Nat)  : cp X S a b (d + 1) 61 [.ref 26, .int (nI k1)] sc ar lo ex (fun x => rl x 2 ∧ ((x = 1 ∧ idg (ar 23 k1)) ∨ (x = 0 ∧ ¬ idg (ar 23 k1)))) := by
  obtain ⟨ha1, ha8, hb1, hb8, hab, hS1, hS⟩ := id hW
  refine cp_of (M := an_X7_digitAt) rfl (Nat.le_of_ble_eq_true rfl) ?_
  refine to_eq (fr' := (0, [(0, .ref 26), (1, .int (nI k1))], [], gh S a b sc ar lo, ex, 0, 0)) rfl ?_
  refine to_n 1 (fr' := (1, [(0, .ref 26), (1, .int (nI k1))], [.ref 26], gh S a b sc ar lo, ex, 0, 0)) rfl ?_
  refine to_get rfl rfl rfl rfl ?_
  refine to_n 1 (fr' := (5, [(0, .ref 26), (1, .int (nI k1))], [.int (nI k1), .ref 23], gh S a b sc ar lo, ex, 0, 0)) rfl ?_
  refine to_balR (i := k1) (v := ((ar 23) k1)) rfl rfl (by omega) (by omega) rfl ?_
  refine to_n 1 (fr' := (8, [(0, .ref 26), (1, .int (nI k1))], [.int 48, .int ((ar 23) k1)], gh S a b sc ar lo, ex, 0, 0)) rfl ?_
  refine to_ic_lt (t := 26) rfl (fun q1 => ?_) (fun q1 => ?_)
  · refine to_n 1 (fr' := (27, [(0, .ref 26), (1, .int (nI k1))], [.int 0], gh S a b sc ar lo, ex, 0, 0)) rfl ?_
    exact to_rt (i := .ireturn) (tg := []) rfl rfl ⟨_, ⟨rl_n (n := 0) (by omega), (Or.inr ⟨rfl, fun w => Int32.not_lt.mpr w.1 q1⟩)⟩, rfl⟩
  · refine to_n 1 (fr' := (12, [(0, .ref 26), (1, .int (nI k1))], [.ref 26], gh S a b sc ar lo, ex, 0, 0)) rfl ?_
    refine to_get rfl rfl rfl rfl ?_
    refine to_n 1 (fr' := (16, [(0, .ref 26), (1, .int (nI k1))], [.int (nI k1), .ref 23], gh S a b sc ar lo, ex, 0, 0)) rfl ?_
    refine to_balR (i := k1) (v := ((ar 23) k1)) rfl rfl (by omega) (by omega) rfl ?_
    refine to_n 1 (fr' := (19, [(0, .ref 26), (1, .int (nI k1))], [.int 57, .int ((ar 23) k1)], gh S a b sc ar lo, ex, 0, 0)) rfl ?_
    refine to_ic_gt (t := 26) rfl (fun q2 => ?_) (fun q2 => ?_)
    · refine to_n 1 (fr' := (27, [(0, .ref 26), (1, .int (nI k1))], [.int 0], gh S a b sc ar lo, ex, 0, 0)) rfl ?_
      exact to_rt (i := .ireturn) (tg := []) rfl rfl ⟨_, ⟨rl_n (n := 0) (by omega), (Or.inr ⟨rfl, fun w => Int32.not_lt.mpr w.2 q2⟩)⟩, rfl⟩
    · refine to_n 2 (fr' := (27, [(0, .ref 26), (1, .int (nI k1))], [.int 1], gh S a b sc ar lo, ex, 0, 0)) rfl ?_
      exact to_rt (i := .ireturn) (tg := []) rfl rfl ⟨_, ⟨rl_n (n := 1) (by omega), (Or.inl ⟨rfl, Int32.not_lt.mp q1, Int32.not_lt.mp q2⟩)⟩, rfl⟩
theorem to_tbd {X : Nat × (Nat → Int32)} {d : Nat} {M : ai_M} {Q : ai_O → Prop} {pc t : Nat} {lv : List (Nat × Value)} {st : List Value} {r : ai_H × Bool × Nat × Nat} {x : Int32} {df lo hi : Int} {offs : Array Int} {tg : List Nat} (ms : List Nat) (h1 : ai_as M.co pc = some (.tableswitch df lo hi offs, tg)) (hl : tg.length = (hi - lo).toNat + 2) (hlh : lo ≤ hi) (h0 : tg[0]? = some t) (hz : ∀ m, m < tg.length → m ∈ ms ∨ tg[m]? = some t) (hx : ∀ m, m ∈ ms → ¬ x.toInt = lo + (m : Int) - 1) (k : ag_To X d M (t, lv, st, r) Q) : ag_To X d M (pc, lv, .int x :: st, r) Q := by
  by_cases w : x.toInt < lo ∨ hi < x.toInt
  · refine to_of (fr' := (t, lv, st, r)) (fun o u => go_st h1 ?_ u) k
    simp only [ai_st, ai_tb]
    rw [if_pos w, h0]
  · have g0 : (x.toInt - lo).toNat + 1 < tg.length := by omega
    refine to_of (fr' := (t, lv, st, r)) (fun o u => go_st h1 ?_ u) k
    simp only [ai_st, ai_tb]
    rcases hz _ g0 with u | u
    · exact absurd (show x.toInt = lo + (((x.toInt - lo).toNat + 1 : Nat) : Int) - 1 by omega) (hx _ u)
    · rw [if_neg w, u]
set_option maxRecDepth 20000 in
theorem sf_signAt {X : Nat × (Nat → Int32)} {S a b : Nat} {sc : Nat → Int32} {ar : Nat → Nat → Int32} {lo : Nat → Int64} {ex : Bool} (hW : Wd S a b) (hI : Iv S sc ar) (k1 : Nat) (hk1 : k1 < 400) (d : Nat) : cp X S a b (d + 1) 67 [.ref 26, .int (nI k1)] sc ar lo ex (fun x => x = sgc (ar 23 k1)) := by
  refine cp_of (M := an_X7_signAt) rfl (Nat.le_of_ble_eq_true rfl) ?_
  refine to_n 1 (fr' := (1, [(0, .ref 26), (1, .int (nI k1))], [.ref 26], gh S a b sc ar lo, ex, 0, 0)) rfl ?_
  refine to_get rfl rfl rfl rfl ?_
  refine to_n 1 (fr' := (5, [(0, .ref 26), (1, .int (nI k1))], [.int (nI k1), .ref 23], gh S a b sc ar lo, ex, 0, 0)) rfl ?_
  refine to_balR (i := k1) (v := (ar 23 k1)) rfl rfl (by omega) (by omega) rfl ?_
  obtain ⟨c, hc⟩ : ∃ c, c = ar 23 k1 := ⟨_, rfl⟩
  rw [← hc]
  by_cases c0 : c = 40
  · refine to_n 2 (fr' := (110, [(0, .ref 26), (1, .int (nI k1))], [.int (-4)], gh S a b sc ar lo, ex, 0, 0)) (by rw [c0]; rfl) ?_
    exact to_rt (i := .ireturn) (tg := []) rfl rfl ⟨_, by rw [c0]; rfl, rfl⟩
  by_cases c1 : c = 41
  · refine to_n 2 (fr' := (113, [(0, .ref 26), (1, .int (nI k1))], [.int (-5)], gh S a b sc ar lo, ex, 0, 0)) (by rw [c1]; rfl) ?_
    exact to_rt (i := .ireturn) (tg := []) rfl rfl ⟨_, by rw [c1]; rfl, rfl⟩
  by_cases c2 : c = 59
  · refine to_n 2 (fr' := (116, [(0, .ref 26), (1, .int (nI k1))], [.int (-6)], gh S a b sc ar lo, ex, 0, 0)) (by rw [c2]; rfl) ?_
    exact to_rt (i := .ireturn) (tg := []) rfl rfl ⟨_, by rw [c2]; rfl, rfl⟩
  by_cases c3 : c = 43
  · refine to_n 2 (fr' := (119, [(0, .ref 26), (1, .int (nI k1))], [.int (-7)], gh S a b sc ar lo, ex, 0, 0)) (by rw [c3]; rfl) ?_
    exact to_rt (i := .ireturn) (tg := []) rfl rfl ⟨_, by rw [c3]; rfl, rfl⟩
  by_cases c4 : c = 45
  · refine to_n 2 (fr' := (122, [(0, .ref 26), (1, .int (nI k1))], [.int (-8)], gh S a b sc ar lo, ex, 0, 0)) (by rw [c4]; rfl) ?_
    exact to_rt (i := .ireturn) (tg := []) rfl rfl ⟨_, by rw [c4]; rfl, rfl⟩
  by_cases c5 : c = 42
  · refine to_n 2 (fr' := (125, [(0, .ref 26), (1, .int (nI k1))], [.int (-9)], gh S a b sc ar lo, ex, 0, 0)) (by rw [c5]; rfl) ?_
    exact to_rt (i := .ireturn) (tg := []) rfl rfl ⟨_, by rw [c5]; rfl, rfl⟩
  by_cases c6 : c = 60
  · refine to_n 2 (fr' := (128, [(0, .ref 26), (1, .int (nI k1))], [.int (-10)], gh S a b sc ar lo, ex, 0, 0)) (by rw [c6]; rfl) ?_
    exact to_rt (i := .ireturn) (tg := []) rfl rfl ⟨_, by rw [c6]; rfl, rfl⟩
  by_cases c7 : c = 61
  · refine to_n 2 (fr' := (131, [(0, .ref 26), (1, .int (nI k1))], [.int (-11)], gh S a b sc ar lo, ex, 0, 0)) (by rw [c7]; rfl) ?_
    exact to_rt (i := .ireturn) (tg := []) rfl rfl ⟨_, by rw [c7]; rfl, rfl⟩
  refine to_tbd (t := 132) [1, 2, 3, 4, 6, 20, 21, 22] rfl rfl (by decide) rfl (by decide) (fun m hm e => ?_) ?_
  · simp only [List.mem_cons, List.not_mem_nil, or_false] at hm
    rcases hm with rfl | rfl | rfl | rfl | rfl | rfl | rfl | rfl
    · exact c0 (Int32.toInt_inj.mp (e.trans (by decide)))
    · exact c1 (Int32.toInt_inj.mp (e.trans (by decide)))
    · exact c5 (Int32.toInt_inj.mp (e.trans (by decide)))
    · exact c3 (Int32.toInt_inj.mp (e.trans (by decide)))
    · exact c4 (Int32.toInt_inj.mp (e.trans (by decide)))
    · exact c2 (Int32.toInt_inj.mp (e.trans (by decide)))
    · exact c6 (Int32.toInt_inj.mp (e.trans (by decide)))
    · exact c7 (Int32.toInt_inj.mp (e.trans (by decide)))
  · refine to_n 1 (fr' := (134, [(0, .ref 26), (1, .int (nI k1))], [.int (-2)], gh S a b sc ar lo, ex, 0, 0)) rfl ?_
    refine to_rt (i := .ireturn) (tg := []) rfl rfl ⟨_, ?_, rfl⟩
    simp only [sgc, if_neg c0, if_neg c1, if_neg c2, if_neg c3, if_neg c4, if_neg c5, if_neg c6, if_neg c7]
set_option maxRecDepth 20000 in
theorem sf_X7_wordIs {X : Nat × (Nat → Int32)} {S a b : Nat} {sc : Nat → Int32} {ar : Nat → Nat → Int32} {lo : Nat → Int64} {ex : Bool} (hW : Wd S a b) (hI : Iv S sc ar) (i : Nat) (hi : i < 35) (k1 : Nat) (hk1 : k1 < 401) (e0 : Nat) (he0 : k1 ≤ e0 ∧ e0 ≤ 400) (ee : sc 2605 = nI e0) (d : Nat)  : cp X S a b (d + 1) 66 [.ref 26, .ref (1000001 + i), .int (nI k1)] sc ar lo ex (fun x => rl x 2 ∧ ((x = 1 ∧ wd_ (ar 23) k1 e0 i) ∨ (x = 0 ∧ ¬ wd_ (ar 23) k1 e0 i))) := by
  obtain ⟨ha1, ha8, hb1, hb8, hab, hS1, hS⟩ := id hW
  have hlen := vs_txl i hi
  refine cp_of (M := an_X7_wordIs) rfl (Nat.le_of_ble_eq_true rfl) ?_
  refine to_eq (fr' := (0, [(0, .ref 26), (1, .ref (1000001 + i)), (2, .int (nI k1))], [], gh S a b sc ar lo, ex, 0, 0)) rfl ?_
  have c17 : ∀ m : Nat, ∀ (j : Nat) , j + m = (ai_tx i).length → k1 + (ai_tx i).length ≤ 400 → (∀ t, t < j → ar 23 (k1 + t) = (ai_tx i).getD t 0) → k1 + (ai_tx i).length = e0 → ag_To X d an_X7_wordIs (17, [(0, .ref 26), (1, .ref (1000001 + i)), (2, .int (nI k1)), (3, .int (nI j))], [], gh S a b sc ar lo, ex, 0, 0) (qp S a b sc ar lo ex (fun x => rl x 2 ∧ ((x = 1 ∧ wd_ (ar 23) k1 e0 i) ∨ (x = 0 ∧ ¬ wd_ (ar 23) k1 e0 i)))) := by
    intro m
    induction m with
    | zero =>
      intro j hm hc17_0 hc17_1 hc17_2
      refine to_n 2 (fr' := (19, [(0, .ref 26), (1, .ref (1000001 + i)), (2, .int (nI k1)), (3, .int (nI j))], [.ref (1000001 + i), .int (nI j)], gh S a b sc ar lo, ex, 0, 0)) rfl ?_
      refine to_slen (i := i) rfl rfl (by omega) (Nat.le_of_ble_eq_true rfl) ?_
      refine to_nc_ge_T (t := 49) (x := j) (y := ((ai_tx i).length)) rfl (by omega) (by omega) (by omega) ?_
      refine to_n 1 (fr' := (50, [(0, .ref 26), (1, .ref (1000001 + i)), (2, .int (nI k1)), (3, .int (nI j))], [.int 1], gh S a b sc ar lo, ex, 0, 0)) rfl ?_
      exact to_rt (i := .ireturn) (tg := []) rfl rfl ⟨_, ⟨rl_n (n := 1) (by omega), (Or.inl ⟨rfl, by omega, fun t ht => hc17_1 t (by omega)⟩)⟩, rfl⟩
    | succ m ih =>
      intro j hm hc17_0 hc17_1 hc17_2
      refine to_n 2 (fr' := (19, [(0, .ref 26), (1, .ref (1000001 + i)), (2, .int (nI k1)), (3, .int (nI j))], [.ref (1000001 + i), .int (nI j)], gh S a b sc ar lo, ex, 0, 0)) rfl ?_
      refine to_slen (i := i) rfl rfl (by omega) (Nat.le_of_ble_eq_true rfl) ?_
      refine to_nc_ge_F (t := 49) (x := j) (y := ((ai_tx i).length)) rfl (by omega) (by omega) (by omega) ?_
      refine to_n 1 (fr' := (26, [(0, .ref 26), (1, .ref (1000001 + i)), (2, .int (nI k1)), (3, .int (nI j))], [.ref 26], gh S a b sc ar lo, ex, 0, 0)) rfl ?_
      refine to_get rfl rfl rfl rfl ?_
      refine to_n 2 (fr' := (31, [(0, .ref 26), (1, .ref (1000001 + i)), (2, .int (nI k1)), (3, .int (nI j))], [.int (nI j), .int (nI k1), .ref 23], gh S a b sc ar lo, ex, 0, 0)) rfl ?_
      refine to_addN (x := k1) (y := j) rfl ?_
      refine to_balR (i := (k1 + j)) (v := ((ar 23) (k1 + j))) rfl rfl (by omega) (by omega) rfl ?_
      refine to_n 2 (fr' := (35, [(0, .ref 26), (1, .ref (1000001 + i)), (2, .int (nI k1)), (3, .int (nI j))], [.int (nI j), .ref (1000001 + i), .int ((ar 23) (k1 + j))], gh S a b sc ar lo, ex, 0, 0)) rfl ?_
      refine to_schr (i := i) (j := j) rfl rfl (by omega) (by omega) (Nat.le_of_ble_eq_true rfl) ?_
      refine to_ic_eq (t := 43) rfl (fun q2 => ?_) (fun q2 => ?_)
      · refine to_n 1 (fr' := (46, [(0, .ref 26), (1, .ref (1000001 + i)), (2, .int (nI k1)), (3, .int ((nI j) + 1))], [], gh S a b sc ar lo, ex, 0, 0)) rfl ?_
        rw [nI_1 j]
        refine to_n 1 (fr' := (17, [(0, .ref 26), (1, .ref (1000001 + i)), (2, .int (nI k1)), (3, .int (nI (j + 1)))], [], gh S a b sc ar lo, ex, 0, 0)) rfl ?_
        exact ih (j + 1) (by omega) (by omega) (al_up hc17_1 q2) (by omega)
      · refine to_n 1 (fr' := (42, [(0, .ref 26), (1, .ref (1000001 + i)), (2, .int (nI k1)), (3, .int (nI j))], [.int 0], gh S a b sc ar lo, ex, 0, 0)) rfl ?_
        exact to_rt (i := .ireturn) (tg := []) rfl rfl ⟨_, ⟨rl_n (n := 0) (by omega), (Or.inr ⟨rfl, fun w => q2 (w.2 j (by omega))⟩)⟩, rfl⟩
  refine to_n 1 (fr' := (1, [(0, .ref 26), (1, .ref (1000001 + i)), (2, .int (nI k1))], [.ref (1000001 + i)], gh S a b sc ar lo, ex, 0, 0)) rfl ?_
  refine to_slen (i := i) rfl rfl (by omega) (Nat.le_of_ble_eq_true rfl) ?_
  refine to_n 1 (fr' := (5, [(0, .ref 26), (1, .ref (1000001 + i)), (2, .int (nI k1))], [.ref 26, .int (nI ((ai_tx i).length))], gh S a b sc ar lo, ex, 0, 0)) rfl ?_
  refine to_getR (v := (nI e0)) rfl rfl rfl rfl ee ?_
  refine to_n 1 (fr' := (9, [(0, .ref 26), (1, .ref (1000001 + i)), (2, .int (nI k1))], [.int (nI k1), .int (nI e0), .int (nI ((ai_tx i).length))], gh S a b sc ar lo, ex, 0, 0)) rfl ?_
  refine to_subN (x := e0) (y := k1) rfl (by omega) ?_
  refine to_nc_eq (t := 15) (x := ((ai_tx i).length)) (y := (e0 - k1)) rfl (by omega) (by omega) (fun q3 => ?_) (fun q3 => ?_)
  · refine to_n 2 (fr' := (17, [(0, .ref 26), (1, .ref (1000001 + i)), (2, .int (nI k1)), (3, .int 0)], [], gh S a b sc ar lo, ex, 0, 0)) rfl ?_
    exact c17 ((ai_tx i).length - 0) 0 (by omega) (by omega) (fun t ht => absurd ht (Nat.not_lt_zero _)) (by omega)
  · refine to_n 1 (fr' := (14, [(0, .ref 26), (1, .ref (1000001 + i)), (2, .int (nI k1))], [.int 0], gh S a b sc ar lo, ex, 0, 0)) rfl ?_
    exact to_rt (i := .ireturn) (tg := []) rfl rfl ⟨_, ⟨rl_n (n := 0) (by omega), (Or.inr ⟨rfl, fun w => by have := w.1; omega⟩)⟩, rfl⟩
set_option maxRecDepth 20000 in
theorem sf_X7_keyword {X : Nat × (Nat → Int32)} {S a b : Nat} {sc : Nat → Int32} {ar : Nat → Nat → Int32} {lo : Nat → Int64} {ex : Bool} (hW : Wd S a b) (hI : Iv S sc ar) (k1 : Nat) (hk1 : k1 < 401) (e0 : Nat) (he0 : k1 ≤ e0 ∧ e0 ≤ 400) (ee : sc 2605 = nI e0) (d : Nat)  : cp X S a b (d + 2) 64 [.ref 26, .int (nI k1)] sc ar lo ex (fun x => Kw (wcd.take 5) (ar 23) k1 e0 x) := by
  obtain ⟨ha1, ha8, hb1, hb8, hab, hS1, hS⟩ := id hW
  refine cp_of (M := an_X7_keyword) rfl (Nat.le_of_ble_eq_true rfl) ?_
  refine to_eq (fr' := (0, [(0, .ref 26), (1, .int (nI k1))], [], gh S a b sc ar lo, ex, 0, 0)) rfl ?_
  refine to_n 3 (fr' := (4, [(0, .ref 26), (1, .int (nI k1))], [.int (nI k1), .ref 1000004, .ref 26], gh S a b sc ar lo, ex, 0, 0)) rfl ?_
  refine to_cp (q := 66) (M1 := an_X7_wordIs) (rest := []) rfl rfl (by decide) rfl ⟨_, rfl⟩ (sf_X7_wordIs hW hI 3 (by omega) k1 (by omega) e0 (by omega) ee d) (fun x1 hx1 => ?_)
  obtain ⟨hx1, hp1⟩ := hx1
  obtain ⟨n1, hn1, rfl⟩ := hx1
  refine to_eq (fr' := (7, [(0, .ref 26), (1, .int (nI k1))], [.int (nI n1)], gh S a b sc ar lo, ex, 0, 0)) rfl ?_
  refine to_nf_eq (t := 13) (x := n1) rfl (by omega) (fun q2 => ?_) (fun q2 => ?_)
  · refine to_n 3 (fr' := (17, [(0, .ref 26), (1, .int (nI k1))], [.int (nI k1), .ref 1000005, .ref 26], gh S a b sc ar lo, ex, 0, 0)) rfl ?_
    refine to_cp (q := 66) (M1 := an_X7_wordIs) (rest := []) rfl rfl (by decide) rfl ⟨_, rfl⟩ (sf_X7_wordIs hW hI 4 (by omega) k1 (by omega) e0 (by omega) ee d) (fun x3 hx3 => ?_)
    obtain ⟨hx3, hp3⟩ := hx3
    obtain ⟨n3, hn3, rfl⟩ := hx3
    refine to_eq (fr' := (20, [(0, .ref 26), (1, .int (nI k1))], [.int (nI n3)], gh S a b sc ar lo, ex, 0, 0)) rfl ?_
    refine to_nf_eq (t := 26) (x := n3) rfl (by omega) (fun q4 => ?_) (fun q4 => ?_)
    · refine to_n 3 (fr' := (30, [(0, .ref 26), (1, .int (nI k1))], [.int (nI k1), .ref 1000006, .ref 26], gh S a b sc ar lo, ex, 0, 0)) rfl ?_
      refine to_cp (q := 66) (M1 := an_X7_wordIs) (rest := []) rfl rfl (by decide) rfl ⟨_, rfl⟩ (sf_X7_wordIs hW hI 5 (by omega) k1 (by omega) e0 (by omega) ee d) (fun x5 hx5 => ?_)
      obtain ⟨hx5, hp5⟩ := hx5
      obtain ⟨n5, hn5, rfl⟩ := hx5
      refine to_eq (fr' := (33, [(0, .ref 26), (1, .int (nI k1))], [.int (nI n5)], gh S a b sc ar lo, ex, 0, 0)) rfl ?_
      refine to_nf_eq (t := 39) (x := n5) rfl (by omega) (fun q6 => ?_) (fun q6 => ?_)
      · refine to_n 3 (fr' := (43, [(0, .ref 26), (1, .int (nI k1))], [.int (nI k1), .ref 1000007, .ref 26], gh S a b sc ar lo, ex, 0, 0)) rfl ?_
        refine to_cp (q := 66) (M1 := an_X7_wordIs) (rest := []) rfl rfl (by decide) rfl ⟨_, rfl⟩ (sf_X7_wordIs hW hI 6 (by omega) k1 (by omega) e0 (by omega) ee d) (fun x7 hx7 => ?_)
        obtain ⟨hx7, hp7⟩ := hx7
        obtain ⟨n7, hn7, rfl⟩ := hx7
        refine to_eq (fr' := (46, [(0, .ref 26), (1, .int (nI k1))], [.int (nI n7)], gh S a b sc ar lo, ex, 0, 0)) rfl ?_
        refine to_nf_eq (t := 52) (x := n7) rfl (by omega) (fun q8 => ?_) (fun q8 => ?_)
        · refine to_n 3 (fr' := (56, [(0, .ref 26), (1, .int (nI k1))], [.int (nI k1), .ref 1000008, .ref 26], gh S a b sc ar lo, ex, 0, 0)) rfl ?_
          refine to_cp (q := 66) (M1 := an_X7_wordIs) (rest := []) rfl rfl (by decide) rfl ⟨_, rfl⟩ (sf_X7_wordIs hW hI 7 (by omega) k1 (by omega) e0 (by omega) ee d) (fun x9 hx9 => ?_)
          obtain ⟨hx9, hp9⟩ := hx9
          obtain ⟨n9, hn9, rfl⟩ := hx9
          refine to_eq (fr' := (59, [(0, .ref 26), (1, .int (nI k1))], [.int (nI n9)], gh S a b sc ar lo, ex, 0, 0)) rfl ?_
          refine to_nf_eq (t := 67) (x := n9) rfl (by omega) (fun q10 => ?_) (fun q10 => ?_)
          · refine to_n 1 (fr' := (69, [(0, .ref 26), (1, .int (nI k1))], [.int (-17)], gh S a b sc ar lo, ex, 0, 0)) rfl ?_
            exact to_rt (i := .ireturn) (tg := []) rfl rfl ⟨_, (Or.inr ⟨kw_5 (P := wd_ (ar 23) k1 e0) (or_f hp1 q2) (or_f hp3 q4) (or_f hp5 q6) (or_f hp7 q8) (or_f hp9 q10), rfl⟩), rfl⟩
          · refine to_n 2 (fr' := (69, [(0, .ref 26), (1, .int (nI k1))], [.int (-16)], gh S a b sc ar lo, ex, 0, 0)) rfl ?_
            exact to_rt (i := .ireturn) (tg := []) rfl rfl ⟨_, (Or.inl ⟨(7, (-16)), by decide, or_t hp9 q10 hn9, rfl⟩), rfl⟩
        · refine to_n 1 (fr' := (51, [(0, .ref 26), (1, .int (nI k1))], [.int (-15)], gh S a b sc ar lo, ex, 0, 0)) rfl ?_
          exact to_rt (i := .ireturn) (tg := []) rfl rfl ⟨_, (Or.inl ⟨(6, (-15)), by decide, or_t hp7 q8 hn7, rfl⟩), rfl⟩
      · refine to_n 1 (fr' := (38, [(0, .ref 26), (1, .int (nI k1))], [.int (-14)], gh S a b sc ar lo, ex, 0, 0)) rfl ?_
        exact to_rt (i := .ireturn) (tg := []) rfl rfl ⟨_, (Or.inl ⟨(5, (-14)), by decide, or_t hp5 q6 hn5, rfl⟩), rfl⟩
    · refine to_n 1 (fr' := (25, [(0, .ref 26), (1, .int (nI k1))], [.int (-13)], gh S a b sc ar lo, ex, 0, 0)) rfl ?_
      exact to_rt (i := .ireturn) (tg := []) rfl rfl ⟨_, (Or.inl ⟨(4, (-13)), by decide, or_t hp3 q4 hn3, rfl⟩), rfl⟩
  · refine to_n 1 (fr' := (12, [(0, .ref 26), (1, .int (nI k1))], [.int (-12)], gh S a b sc ar lo, ex, 0, 0)) rfl ?_
    exact to_rt (i := .ireturn) (tg := []) rfl rfl ⟨_, (Or.inl ⟨(3, (-12)), by decide, or_t hp1 q2 hn1, rfl⟩), rfl⟩
set_option maxRecDepth 20000 in
theorem sf_X7_nameWord {X : Nat × (Nat → Int32)} {S a b : Nat} {sc : Nat → Int32} {ar : Nat → Nat → Int32} {lo : Nat → Int64} {ex : Bool} (hW : Wd S a b) (hI : Iv S sc ar) (k1 : Nat) (hk1 : k1 < 401) (e0 : Nat) (he0 : k1 ≤ e0 ∧ e0 ≤ 400) (ee : sc 2605 = nI e0) (d : Nat)  : cp X S a b (d + 2) 65 [.ref 26, .int (nI k1)] sc ar lo ex (fun x => Kw (wcd.drop 5) (ar 23) k1 e0 x) := by
  obtain ⟨ha1, ha8, hb1, hb8, hab, hS1, hS⟩ := id hW
  refine cp_of (M := an_X7_nameWord) rfl (Nat.le_of_ble_eq_true rfl) ?_
  refine to_eq (fr' := (0, [(0, .ref 26), (1, .int (nI k1))], [], gh S a b sc ar lo, ex, 0, 0)) rfl ?_
  refine to_n 3 (fr' := (4, [(0, .ref 26), (1, .int (nI k1))], [.int (nI k1), .ref 1000009, .ref 26], gh S a b sc ar lo, ex, 0, 0)) rfl ?_
  refine to_cp (q := 66) (M1 := an_X7_wordIs) (rest := []) rfl rfl (by decide) rfl ⟨_, rfl⟩ (sf_X7_wordIs hW hI 8 (by omega) k1 (by omega) e0 (by omega) ee d) (fun x1 hx1 => ?_)
  obtain ⟨hx1, hp1⟩ := hx1
  obtain ⟨n1, hn1, rfl⟩ := hx1
  refine to_eq (fr' := (7, [(0, .ref 26), (1, .int (nI k1))], [.int (nI n1)], gh S a b sc ar lo, ex, 0, 0)) rfl ?_
  refine to_nf_eq (t := 13) (x := n1) rfl (by omega) (fun q2 => ?_) (fun q2 => ?_)
  · refine to_n 3 (fr' := (17, [(0, .ref 26), (1, .int (nI k1))], [.int (nI k1), .ref 1000010, .ref 26], gh S a b sc ar lo, ex, 0, 0)) rfl ?_
    refine to_cp (q := 66) (M1 := an_X7_wordIs) (rest := []) rfl rfl (by decide) rfl ⟨_, rfl⟩ (sf_X7_wordIs hW hI 9 (by omega) k1 (by omega) e0 (by omega) ee d) (fun x3 hx3 => ?_)
    obtain ⟨hx3, hp3⟩ := hx3
    obtain ⟨n3, hn3, rfl⟩ := hx3
    refine to_eq (fr' := (20, [(0, .ref 26), (1, .int (nI k1))], [.int (nI n3)], gh S a b sc ar lo, ex, 0, 0)) rfl ?_
    refine to_nf_eq (t := 26) (x := n3) rfl (by omega) (fun q4 => ?_) (fun q4 => ?_)
    · refine to_n 3 (fr' := (30, [(0, .ref 26), (1, .int (nI k1))], [.int (nI k1), .ref 1000011, .ref 26], gh S a b sc ar lo, ex, 0, 0)) rfl ?_
      refine to_cp (q := 66) (M1 := an_X7_wordIs) (rest := []) rfl rfl (by decide) rfl ⟨_, rfl⟩ (sf_X7_wordIs hW hI 10 (by omega) k1 (by omega) e0 (by omega) ee d) (fun x5 hx5 => ?_)
      obtain ⟨hx5, hp5⟩ := hx5
      obtain ⟨n5, hn5, rfl⟩ := hx5
      refine to_eq (fr' := (33, [(0, .ref 26), (1, .int (nI k1))], [.int (nI n5)], gh S a b sc ar lo, ex, 0, 0)) rfl ?_
      refine to_nf_eq (t := 39) (x := n5) rfl (by omega) (fun q6 => ?_) (fun q6 => ?_)
      · refine to_n 3 (fr' := (43, [(0, .ref 26), (1, .int (nI k1))], [.int (nI k1), .ref 1000012, .ref 26], gh S a b sc ar lo, ex, 0, 0)) rfl ?_
        refine to_cp (q := 66) (M1 := an_X7_wordIs) (rest := []) rfl rfl (by decide) rfl ⟨_, rfl⟩ (sf_X7_wordIs hW hI 11 (by omega) k1 (by omega) e0 (by omega) ee d) (fun x7 hx7 => ?_)
        obtain ⟨hx7, hp7⟩ := hx7
        obtain ⟨n7, hn7, rfl⟩ := hx7
        refine to_eq (fr' := (46, [(0, .ref 26), (1, .int (nI k1))], [.int (nI n7)], gh S a b sc ar lo, ex, 0, 0)) rfl ?_
        refine to_nf_eq (t := 52) (x := n7) rfl (by omega) (fun q8 => ?_) (fun q8 => ?_)
        · refine to_n 3 (fr' := (56, [(0, .ref 26), (1, .int (nI k1))], [.int (nI k1), .ref 1000013, .ref 26], gh S a b sc ar lo, ex, 0, 0)) rfl ?_
          refine to_cp (q := 66) (M1 := an_X7_wordIs) (rest := []) rfl rfl (by decide) rfl ⟨_, rfl⟩ (sf_X7_wordIs hW hI 12 (by omega) k1 (by omega) e0 (by omega) ee d) (fun x9 hx9 => ?_)
          obtain ⟨hx9, hp9⟩ := hx9
          obtain ⟨n9, hn9, rfl⟩ := hx9
          refine to_eq (fr' := (59, [(0, .ref 26), (1, .int (nI k1))], [.int (nI n9)], gh S a b sc ar lo, ex, 0, 0)) rfl ?_
          refine to_nf_eq (t := 65) (x := n9) rfl (by omega) (fun q10 => ?_) (fun q10 => ?_)
          · refine to_n 3 (fr' := (69, [(0, .ref 26), (1, .int (nI k1))], [.int (nI k1), .ref 1000014, .ref 26], gh S a b sc ar lo, ex, 0, 0)) rfl ?_
            refine to_cp (q := 66) (M1 := an_X7_wordIs) (rest := []) rfl rfl (by decide) rfl ⟨_, rfl⟩ (sf_X7_wordIs hW hI 13 (by omega) k1 (by omega) e0 (by omega) ee d) (fun x11 hx11 => ?_)
            obtain ⟨hx11, hp11⟩ := hx11
            obtain ⟨n11, hn11, rfl⟩ := hx11
            refine to_eq (fr' := (72, [(0, .ref 26), (1, .int (nI k1))], [.int (nI n11)], gh S a b sc ar lo, ex, 0, 0)) rfl ?_
            refine to_nf_eq (t := 78) (x := n11) rfl (by omega) (fun q12 => ?_) (fun q12 => ?_)
            · refine to_n 3 (fr' := (82, [(0, .ref 26), (1, .int (nI k1))], [.int (nI k1), .ref 1000015, .ref 26], gh S a b sc ar lo, ex, 0, 0)) rfl ?_
              refine to_cp (q := 66) (M1 := an_X7_wordIs) (rest := []) rfl rfl (by decide) rfl ⟨_, rfl⟩ (sf_X7_wordIs hW hI 14 (by omega) k1 (by omega) e0 (by omega) ee d) (fun x13 hx13 => ?_)
              obtain ⟨hx13, hp13⟩ := hx13
              obtain ⟨n13, hn13, rfl⟩ := hx13
              refine to_eq (fr' := (85, [(0, .ref 26), (1, .int (nI k1))], [.int (nI n13)], gh S a b sc ar lo, ex, 0, 0)) rfl ?_
              refine to_nf_eq (t := 91) (x := n13) rfl (by omega) (fun q14 => ?_) (fun q14 => ?_)
              · refine to_n 3 (fr' := (95, [(0, .ref 26), (1, .int (nI k1))], [.int (nI k1), .ref 1000016, .ref 26], gh S a b sc ar lo, ex, 0, 0)) rfl ?_
                refine to_cp (q := 66) (M1 := an_X7_wordIs) (rest := []) rfl rfl (by decide) rfl ⟨_, rfl⟩ (sf_X7_wordIs hW hI 15 (by omega) k1 (by omega) e0 (by omega) ee d) (fun x15 hx15 => ?_)
                obtain ⟨hx15, hp15⟩ := hx15
                obtain ⟨n15, hn15, rfl⟩ := hx15
                refine to_eq (fr' := (98, [(0, .ref 26), (1, .int (nI k1))], [.int (nI n15)], gh S a b sc ar lo, ex, 0, 0)) rfl ?_
                refine to_nf_eq (t := 106) (x := n15) rfl (by omega) (fun q16 => ?_) (fun q16 => ?_)
                · refine to_n 1 (fr' := (108, [(0, .ref 26), (1, .int (nI k1))], [.int (-17)], gh S a b sc ar lo, ex, 0, 0)) rfl ?_
                  exact to_rt (i := .ireturn) (tg := []) rfl rfl ⟨_, (Or.inr ⟨kw_8 (P := wd_ (ar 23) k1 e0) (or_f hp1 q2) (or_f hp3 q4) (or_f hp5 q6) (or_f hp7 q8) (or_f hp9 q10) (or_f hp11 q12) (or_f hp13 q14) (or_f hp15 q16), rfl⟩), rfl⟩
                · refine to_n 2 (fr' := (108, [(0, .ref 26), (1, .int (nI k1))], [.int (-27)], gh S a b sc ar lo, ex, 0, 0)) rfl ?_
                  exact to_rt (i := .ireturn) (tg := []) rfl rfl ⟨_, (Or.inl ⟨(15, (-27)), by decide, or_t hp15 q16 hn15, rfl⟩), rfl⟩
              · refine to_n 1 (fr' := (90, [(0, .ref 26), (1, .int (nI k1))], [.int (-26)], gh S a b sc ar lo, ex, 0, 0)) rfl ?_
                exact to_rt (i := .ireturn) (tg := []) rfl rfl ⟨_, (Or.inl ⟨(14, (-26)), by decide, or_t hp13 q14 hn13, rfl⟩), rfl⟩
            · refine to_n 1 (fr' := (77, [(0, .ref 26), (1, .int (nI k1))], [.int (-25)], gh S a b sc ar lo, ex, 0, 0)) rfl ?_
              exact to_rt (i := .ireturn) (tg := []) rfl rfl ⟨_, (Or.inl ⟨(13, (-25)), by decide, or_t hp11 q12 hn11, rfl⟩), rfl⟩
          · refine to_n 1 (fr' := (64, [(0, .ref 26), (1, .int (nI k1))], [.int (-24)], gh S a b sc ar lo, ex, 0, 0)) rfl ?_
            exact to_rt (i := .ireturn) (tg := []) rfl rfl ⟨_, (Or.inl ⟨(12, (-24)), by decide, or_t hp9 q10 hn9, rfl⟩), rfl⟩
        · refine to_n 1 (fr' := (51, [(0, .ref 26), (1, .int (nI k1))], [.int (-23)], gh S a b sc ar lo, ex, 0, 0)) rfl ?_
          exact to_rt (i := .ireturn) (tg := []) rfl rfl ⟨_, (Or.inl ⟨(11, (-23)), by decide, or_t hp7 q8 hn7, rfl⟩), rfl⟩
      · refine to_n 1 (fr' := (38, [(0, .ref 26), (1, .int (nI k1))], [.int (-22)], gh S a b sc ar lo, ex, 0, 0)) rfl ?_
        exact to_rt (i := .ireturn) (tg := []) rfl rfl ⟨_, (Or.inl ⟨(10, (-22)), by decide, or_t hp5 q6 hn5, rfl⟩), rfl⟩
    · refine to_n 1 (fr' := (25, [(0, .ref 26), (1, .int (nI k1))], [.int (-21)], gh S a b sc ar lo, ex, 0, 0)) rfl ?_
      exact to_rt (i := .ireturn) (tg := []) rfl rfl ⟨_, (Or.inl ⟨(9, (-21)), by decide, or_t hp3 q4 hn3, rfl⟩), rfl⟩
  · refine to_n 1 (fr' := (12, [(0, .ref 26), (1, .int (nI k1))], [.int (-20)], gh S a b sc ar lo, ex, 0, 0)) rfl ?_
    exact to_rt (i := .ireturn) (tg := []) rfl rfl ⟨_, (Or.inl ⟨(8, (-20)), by decide, or_t hp1 q2 hn1, rfl⟩), rfl⟩
set_option maxRecDepth 20000 in
theorem sf_X7_takeWord {X : Nat × (Nat → Int32)} {S a b : Nat} {sc : Nat → Int32} {ar : Nat → Nat → Int32} {lo : Nat → Int64} {ex : Bool} (hW : Wd S a b) (hI : Iv S sc ar) (k1 : Nat) (hk1 : k1 < 400) (n : Nat) (hn : k1 < n ∧ n ≤ 400) (en : sc 2604 = nI n) (es : sc 2605 = nI k1) (d : Nat)  : ci X S a b (d + 3) 63 [.ref 26, .int (nI k1)] sc ar lo ex (fun x sc' ar' => Iv S sc' ar' ∧ Fr [2605] [] sc ar sc' ar' ∧ (∃ e : Nat, sc' 2605 = nI e ∧ rn_ ilt (ar 23) n k1 e ∧ Wc (ar 23) k1 e x)) := by
  obtain ⟨ha1, ha8, hb1, hb8, hab, hS1, hS⟩ := id hW
  refine ci_of (M := an_X7_takeWord) rfl (Nat.le_of_ble_eq_true rfl) ?_
  have hF : Fr [2605] [] sc ar sc ar := fr_0
  refine to_eq (fr' := (0, [(0, .ref 26), (1, .int (nI k1))], [], gh S a b sc ar lo, ex, 0, 0)) rfl ?_
  have c35 : ∀ (p : Nat) (sc1 : Nat → Int32) (ar1 : Nat → Nat → Int32), sc1 2605 = nI p → rn_ ilt (ar 23) n k1 p → Iv S sc1 ar1 → Fr [2605] [] sc ar sc1 ar1 → ag_To X (d + 2) an_X7_takeWord (35, [(0, .ref 26), (1, .int (nI k1))], [], gh S a b sc1 ar1 lo, ex, 0, 0) (qi S a b lo ex (fun x sc' ar' => Iv S sc' ar' ∧ Fr [2605] [] sc ar sc' ar' ∧ (∃ e : Nat, sc' 2605 = nI e ∧ rn_ ilt (ar 23) n k1 e ∧ Wc (ar 23) k1 e x))) := by
    intro p sc1 ar1 hc35_0 hc35_1 hI1 hF1
    obtain rfl : ar = ar1 := fr_nil hF1
    have hrl := hc35_1.1
    have hrr := hc35_1.2.1
    refine to_n 2 (fr' := (37, [(0, .ref 26), (1, .int (nI k1))], [.int (nI k1), .ref 26], gh S a b sc1 ar lo, ex, 0, 0)) rfl ?_
    refine to_cp (q := 64) (M1 := an_X7_keyword) (rest := []) rfl rfl (by decide) rfl ⟨_, rfl⟩ (sf_X7_keyword hW hI1 k1 (by omega) p (by omega) hc35_0 d) (fun x2 hx2 => ?_)
    have hp2 := hx2
    refine to_eq (fr' := (40, [(0, .ref 26), (1, .int (nI k1))], [.int x2], gh S a b sc1 ar lo, ex, 0, 0)) rfl ?_
    refine to_n 3 (fr' := (44, [(0, .ref 26), (1, .int (nI k1)), (2, .int x2)], [.int (-17), .int x2], gh S a b sc1 ar lo, ex, 0, 0)) rfl ?_
    refine to_ic_ne (t := 55) rfl (fun q3 => ?_) (fun q3 => ?_)
    · refine to_n 1 (fr' := (56, [(0, .ref 26), (1, .int (nI k1)), (2, .int x2)], [.int x2], gh S a b sc1 ar lo, ex, 0, 0)) rfl ?_
      exact to_rt (i := .ireturn) (tg := []) rfl rfl ⟨_, _, _, ⟨hI1, hF1, ⟨p, hc35_0, hc35_1, kw_ne hp2 q3⟩⟩, rfl⟩
    · refine to_n 2 (fr' := (49, [(0, .ref 26), (1, .int (nI k1)), (2, .int x2)], [.int (nI k1), .ref 26], gh S a b sc1 ar lo, ex, 0, 0)) rfl ?_
      refine to_cp (q := 65) (M1 := an_X7_nameWord) (rest := []) rfl rfl (by decide) rfl ⟨_, rfl⟩ (sf_X7_nameWord hW hI1 k1 (by omega) p (by omega) hc35_0 d) (fun x4 hx4 => ?_)
      have hp4 := hx4
      refine to_eq (fr' := (52, [(0, .ref 26), (1, .int (nI k1)), (2, .int x2)], [.int x4], gh S a b sc1 ar lo, ex, 0, 0)) rfl ?_
      refine to_n 1 (fr' := (56, [(0, .ref 26), (1, .int (nI k1)), (2, .int x2)], [.int x4], gh S a b sc1 ar lo, ex, 0, 0)) rfl ?_
      exact to_rt (i := .ireturn) (tg := []) rfl rfl ⟨_, _, _, ⟨hI1, hF1, ⟨p, hc35_0, hc35_1, kw_all hp2 q3 hp4⟩⟩, rfl⟩
  have c0 : ∀ m : Nat, ∀ (p : Nat) (sc5 : Nat → Int32) (ar5 : Nat → Nat → Int32), n ≤ p + m → sc5 2605 = nI p → sc5 2604 = nI n → k1 ≤ p → p ≤ n → (∀ t, k1 ≤ t → t < p → ilt (ar 23 t)) → p ≤ n → Iv S sc5 ar5 → Fr [2605] [] sc ar sc5 ar5 → ag_To X (d + 2) an_X7_takeWord (0, [(0, .ref 26), (1, .int (nI k1))], [], gh S a b sc5 ar5 lo, ex, 0, 0) (qi S a b lo ex (fun x sc' ar' => Iv S sc' ar' ∧ Fr [2605] [] sc ar sc' ar' ∧ (∃ e : Nat, sc' 2605 = nI e ∧ rn_ ilt (ar 23) n k1 e ∧ Wc (ar 23) k1 e x))) := by
    intro m
    induction m with
    | zero =>
      intro p sc5 ar5 hm hc0_0 hc0_1 hc0_2 hc0_3 hc0_4 hc0_5 hI5 hF5
      obtain rfl : ar = ar5 := fr_nil hF5
      refine to_n 1 (fr' := (1, [(0, .ref 26), (1, .int (nI k1))], [.ref 26], gh S a b sc5 ar lo, ex, 0, 0)) rfl ?_
      refine to_getR (v := (nI p)) rfl rfl rfl rfl hc0_0 ?_
      refine to_n 1 (fr' := (5, [(0, .ref 26), (1, .int (nI k1))], [.ref 26, .int (nI p)], gh S a b sc5 ar lo, ex, 0, 0)) rfl ?_
      refine to_getR (v := (nI n)) rfl rfl rfl rfl hc0_1 ?_
      refine to_nc_ge_T (t := 35) (x := p) (y := n) rfl (by omega) (by omega) (by omega) ?_
      exact c35 p sc5 ar (hc0_0) ⟨by omega, by omega, hc0_4, (fun w => absurd w (by omega))⟩ hI5 hF5
    | succ m ih =>
      intro p sc5 ar5 hm hc0_0 hc0_1 hc0_2 hc0_3 hc0_4 hc0_5 hI5 hF5
      obtain rfl : ar = ar5 := fr_nil hF5
      refine to_n 1 (fr' := (1, [(0, .ref 26), (1, .int (nI k1))], [.ref 26], gh S a b sc5 ar lo, ex, 0, 0)) rfl ?_
      refine to_getR (v := (nI p)) rfl rfl rfl rfl hc0_0 ?_
      refine to_n 1 (fr' := (5, [(0, .ref 26), (1, .int (nI k1))], [.ref 26, .int (nI p)], gh S a b sc5 ar lo, ex, 0, 0)) rfl ?_
      refine to_getR (v := (nI n)) rfl rfl rfl rfl hc0_1 ?_
      refine to_nc_ge (t := 35) (x := p) (y := n) rfl (by omega) (by omega) (fun q6 => ?_) (fun q6 => ?_)
      · exact c35 p sc5 ar (hc0_0) ⟨by omega, by omega, hc0_4, (fun w => absurd w (by omega))⟩ hI5 hF5
      · refine to_n 2 (fr' := (13, [(0, .ref 26), (1, .int (nI k1))], [.ref 26, .ref 26], gh S a b sc5 ar lo, ex, 0, 0)) rfl ?_
        refine to_getR (v := (nI p)) rfl rfl rfl rfl hc0_0 ?_
        refine to_cp (q := 60) (M1 := an_X7_letterAt) (rest := []) rfl rfl (by decide) rfl ⟨_, rfl⟩ (sf_X7_letterAt hW hI5 p (by omega) (d + 1)) (fun x7 hx7 => ?_)
        obtain ⟨hx7, hp7⟩ := hx7
        obtain ⟨n7, hn7, rfl⟩ := hx7
        refine to_eq (fr' := (19, [(0, .ref 26), (1, .int (nI k1))], [.int (nI n7)], gh S a b sc5 ar lo, ex, 0, 0)) rfl ?_
        refine to_nf_eq (t := 35) (x := n7) rfl (by omega) (fun q8 => ?_) (fun q8 => ?_)
        · exact c35 p sc5 ar (hc0_0) ⟨by omega, by omega, hc0_4, (fun _ => or_f hp7 q8)⟩ hI5 hF5
        · refine to_n 2 (fr' := (24, [(0, .ref 26), (1, .int (nI k1))], [.ref 26, .ref 26], gh S a b sc5 ar lo, ex, 0, 0)) rfl ?_
          refine to_getR (v := (nI p)) rfl rfl rfl rfl hc0_0 ?_
          refine to_n 1 (fr' := (28, [(0, .ref 26), (1, .int (nI k1))], [.int 1, .int (nI p), .ref 26], gh S a b sc5 ar lo, ex, 0, 0)) rfl ?_
          refine to_addN (x := p) (y := 1) rfl ?_
          refine to_putR (h' := gh S a b (upd sc5 2605 (nI (p + 1))) ar lo) rfl rfl rfl (Nat.le_of_ble_eq_true rfl) rfl rfl ?_
          have hI9 := ip_2605 (v := (nI (p + 1))) hI5 (rl_n (n := (p + 1)) (by omega))
          have hF9 := fr_s (k := 2605) (v := (nI (p + 1))) hF5 (by decide)
          refine to_n 1 (fr' := (0, [(0, .ref 26), (1, .int (nI k1))], [], gh S a b (upd sc5 2605 (nI (p + 1))) ar lo, ex, 0, 0)) rfl ?_
          exact ih (p + 1) (upd sc5 2605 (nI (p + 1))) ar (by omega) (rfl) (hc0_1) (by omega) (by omega) (al_up2 hc0_4 (or_t hp7 q8 hn7)) (by omega) hI9 hF9
  exact c0 (n - k1) k1 sc ar (by omega) (es) (en) (by omega) (by omega) al_0 (by omega) hI hF
set_option maxRecDepth 20000 in
theorem sf_X7_takeNumber {X : Nat × (Nat → Int32)} {S a b : Nat} {sc : Nat → Int32} {ar : Nat → Nat → Int32} {lo : Nat → Int64} {ex : Bool} (hW : Wd S a b) (hI : Iv S sc ar) (k1 : Nat) (hk1 : k1 < 400) (n : Nat) (hn : k1 < n ∧ n ≤ 400) (en : sc 2604 = nI n) (es : sc 2605 = nI k1) (d : Nat)  : ci X S a b (d + 2) 62 [.ref 26, .int (nI k1)] sc ar lo ex (fun x sc' ar' => Iv S sc' ar' ∧ Fr [2605] [] sc ar sc' ar' ∧ (∃ e : Nat, sc' 2605 = nI e ∧ rn_ idg (ar 23) n k1 e ∧ ((5 < e - k1 ∧ x = -3) ∨ (e - k1 ≤ 5 ∧ x = nv_ (ar 23) k1 (e - k1))))) := by
  obtain ⟨ha1, ha8, hb1, hb8, hab, hS1, hS⟩ := id hW
  refine ci_of (M := an_X7_takeNumber) rfl (Nat.le_of_ble_eq_true rfl) ?_
  have hF : Fr [2605] [] sc ar sc ar := fr_0
  refine to_eq (fr' := (0, [(0, .ref 26), (1, .int (nI k1))], [], gh S a b sc ar lo, ex, 0, 0)) rfl ?_
  have c2 : ∀ m : Nat, ∀ (y : Int32) (p : Nat) (sc1 : Nat → Int32) (ar1 : Nat → Nat → Int32), n ≤ p + m → sc1 2605 = nI p → sc1 2604 = nI n → k1 ≤ p → p ≤ n → (∀ t, k1 ≤ t → t < p → idg (ar 23 t)) → y = nv_ (ar 23) k1 (min (p - k1) 5) → p ≤ n → Iv S sc1 ar1 → Fr [2605] [] sc ar sc1 ar1 → ag_To X (d + 1) an_X7_takeNumber (2, [(0, .ref 26), (1, .int (nI k1)), (2, .int y)], [], gh S a b sc1 ar1 lo, ex, 0, 0) (qi S a b lo ex (fun x sc' ar' => Iv S sc' ar' ∧ Fr [2605] [] sc ar sc' ar' ∧ (∃ e : Nat, sc' 2605 = nI e ∧ rn_ idg (ar 23) n k1 e ∧ ((5 < e - k1 ∧ x = -3) ∨ (e - k1 ≤ 5 ∧ x = nv_ (ar 23) k1 (e - k1)))))) := by
    intro m
    induction m with
    | zero =>
      intro y p sc1 ar1 hm hc2_0 hc2_1 hc2_2 hc2_3 hc2_4 hc2_5 hc2_6 hI1 hF1
      obtain rfl : ar = ar1 := fr_nil hF1
      refine to_n 1 (fr' := (3, [(0, .ref 26), (1, .int (nI k1)), (2, .int y)], [.ref 26], gh S a b sc1 ar lo, ex, 0, 0)) rfl ?_
      refine to_getR (v := (nI p)) rfl rfl rfl rfl hc2_0 ?_
      refine to_n 1 (fr' := (7, [(0, .ref 26), (1, .int (nI k1)), (2, .int y)], [.ref 26, .int (nI p)], gh S a b sc1 ar lo, ex, 0, 0)) rfl ?_
      refine to_getR (v := (nI n)) rfl rfl rfl rfl hc2_1 ?_
      refine to_nc_ge_T (t := 65) (x := p) (y := n) rfl (by omega) (by omega) (by omega) ?_
      refine to_n 1 (fr' := (66, [(0, .ref 26), (1, .int (nI k1)), (2, .int y)], [.ref 26], gh S a b sc1 ar lo, ex, 0, 0)) rfl ?_
      refine to_getR (v := (nI p)) rfl rfl rfl rfl hc2_0 ?_
      refine to_n 1 (fr' := (70, [(0, .ref 26), (1, .int (nI k1)), (2, .int y)], [.int (nI k1), .int (nI p)], gh S a b sc1 ar lo, ex, 0, 0)) rfl ?_
      refine to_subN (x := p) (y := k1) rfl (by omega) ?_
      refine to_n 1 (fr' := (72, [(0, .ref 26), (1, .int (nI k1)), (2, .int y)], [.int 5, .int (nI (p - k1))], gh S a b sc1 ar lo, ex, 0, 0)) rfl ?_
      refine to_nc_le (t := 80) (x := (p - k1)) (y := 5) rfl (by omega) (by omega) (fun q2 => ?_) (fun q2 => ?_)
      · refine to_n 1 (fr' := (81, [(0, .ref 26), (1, .int (nI k1)), (2, .int y)], [.int y], gh S a b sc1 ar lo, ex, 0, 0)) rfl ?_
        exact to_rt (i := .ireturn) (tg := []) rfl rfl ⟨_, _, _, ⟨hI1, hF1, ⟨p, hc2_0, ⟨by omega, by omega, hc2_4, (fun w => absurd w (by omega))⟩, Or.inr ⟨by omega, nv_at hc2_5 (by omega)⟩⟩⟩, rfl⟩
      · refine to_n 2 (fr' := (81, [(0, .ref 26), (1, .int (nI k1)), (2, .int y)], [.int (-3)], gh S a b sc1 ar lo, ex, 0, 0)) rfl ?_
        exact to_rt (i := .ireturn) (tg := []) rfl rfl ⟨_, _, _, ⟨hI1, hF1, ⟨p, hc2_0, ⟨by omega, by omega, hc2_4, (fun w => absurd w (by omega))⟩, Or.inl ⟨by omega, rfl⟩⟩⟩, rfl⟩
    | succ m ih =>
      intro y p sc1 ar1 hm hc2_0 hc2_1 hc2_2 hc2_3 hc2_4 hc2_5 hc2_6 hI1 hF1
      obtain rfl : ar = ar1 := fr_nil hF1
      refine to_n 1 (fr' := (3, [(0, .ref 26), (1, .int (nI k1)), (2, .int y)], [.ref 26], gh S a b sc1 ar lo, ex, 0, 0)) rfl ?_
      refine to_getR (v := (nI p)) rfl rfl rfl rfl hc2_0 ?_
      refine to_n 1 (fr' := (7, [(0, .ref 26), (1, .int (nI k1)), (2, .int y)], [.ref 26, .int (nI p)], gh S a b sc1 ar lo, ex, 0, 0)) rfl ?_
      refine to_getR (v := (nI n)) rfl rfl rfl rfl hc2_1 ?_
      refine to_nc_ge (t := 65) (x := p) (y := n) rfl (by omega) (by omega) (fun q3 => ?_) (fun q3 => ?_)
      · refine to_n 1 (fr' := (66, [(0, .ref 26), (1, .int (nI k1)), (2, .int y)], [.ref 26], gh S a b sc1 ar lo, ex, 0, 0)) rfl ?_
        refine to_getR (v := (nI p)) rfl rfl rfl rfl hc2_0 ?_
        refine to_n 1 (fr' := (70, [(0, .ref 26), (1, .int (nI k1)), (2, .int y)], [.int (nI k1), .int (nI p)], gh S a b sc1 ar lo, ex, 0, 0)) rfl ?_
        refine to_subN (x := p) (y := k1) rfl (by omega) ?_
        refine to_n 1 (fr' := (72, [(0, .ref 26), (1, .int (nI k1)), (2, .int y)], [.int 5, .int (nI (p - k1))], gh S a b sc1 ar lo, ex, 0, 0)) rfl ?_
        refine to_nc_le (t := 80) (x := (p - k1)) (y := 5) rfl (by omega) (by omega) (fun q4 => ?_) (fun q4 => ?_)
        · refine to_n 1 (fr' := (81, [(0, .ref 26), (1, .int (nI k1)), (2, .int y)], [.int y], gh S a b sc1 ar lo, ex, 0, 0)) rfl ?_
          exact to_rt (i := .ireturn) (tg := []) rfl rfl ⟨_, _, _, ⟨hI1, hF1, ⟨p, hc2_0, ⟨by omega, by omega, hc2_4, (fun w => absurd w (by omega))⟩, Or.inr ⟨by omega, nv_at hc2_5 (by omega)⟩⟩⟩, rfl⟩
        · refine to_n 2 (fr' := (81, [(0, .ref 26), (1, .int (nI k1)), (2, .int y)], [.int (-3)], gh S a b sc1 ar lo, ex, 0, 0)) rfl ?_
          exact to_rt (i := .ireturn) (tg := []) rfl rfl ⟨_, _, _, ⟨hI1, hF1, ⟨p, hc2_0, ⟨by omega, by omega, hc2_4, (fun w => absurd w (by omega))⟩, Or.inl ⟨by omega, rfl⟩⟩⟩, rfl⟩
      · refine to_n 2 (fr' := (15, [(0, .ref 26), (1, .int (nI k1)), (2, .int y)], [.ref 26, .ref 26], gh S a b sc1 ar lo, ex, 0, 0)) rfl ?_
        refine to_getR (v := (nI p)) rfl rfl rfl rfl hc2_0 ?_
        refine to_cp (q := 61) (M1 := an_X7_digitAt) (rest := []) rfl rfl (by decide) rfl ⟨_, rfl⟩ (sf_X7_digitAt hW hI1 p (by omega) d) (fun x5 hx5 => ?_)
        obtain ⟨hx5, hp5⟩ := hx5
        obtain ⟨n5, hn5, rfl⟩ := hx5
        refine to_eq (fr' := (21, [(0, .ref 26), (1, .int (nI k1)), (2, .int y)], [.int (nI n5)], gh S a b sc1 ar lo, ex, 0, 0)) rfl ?_
        refine to_nf_eq (t := 65) (x := n5) rfl (by omega) (fun q6 => ?_) (fun q6 => ?_)
        · refine to_n 1 (fr' := (66, [(0, .ref 26), (1, .int (nI k1)), (2, .int y)], [.ref 26], gh S a b sc1 ar lo, ex, 0, 0)) rfl ?_
          refine to_getR (v := (nI p)) rfl rfl rfl rfl hc2_0 ?_
          refine to_n 1 (fr' := (70, [(0, .ref 26), (1, .int (nI k1)), (2, .int y)], [.int (nI k1), .int (nI p)], gh S a b sc1 ar lo, ex, 0, 0)) rfl ?_
          refine to_subN (x := p) (y := k1) rfl (by omega) ?_
          refine to_n 1 (fr' := (72, [(0, .ref 26), (1, .int (nI k1)), (2, .int y)], [.int 5, .int (nI (p - k1))], gh S a b sc1 ar lo, ex, 0, 0)) rfl ?_
          refine to_nc_le (t := 80) (x := (p - k1)) (y := 5) rfl (by omega) (by omega) (fun q7 => ?_) (fun q7 => ?_)
          · refine to_n 1 (fr' := (81, [(0, .ref 26), (1, .int (nI k1)), (2, .int y)], [.int y], gh S a b sc1 ar lo, ex, 0, 0)) rfl ?_
            exact to_rt (i := .ireturn) (tg := []) rfl rfl ⟨_, _, _, ⟨hI1, hF1, ⟨p, hc2_0, ⟨by omega, by omega, hc2_4, (fun _ => or_f hp5 q6)⟩, Or.inr ⟨by omega, nv_at hc2_5 (by omega)⟩⟩⟩, rfl⟩
          · refine to_n 2 (fr' := (81, [(0, .ref 26), (1, .int (nI k1)), (2, .int y)], [.int (-3)], gh S a b sc1 ar lo, ex, 0, 0)) rfl ?_
            exact to_rt (i := .ireturn) (tg := []) rfl rfl ⟨_, _, _, ⟨hI1, hF1, ⟨p, hc2_0, ⟨by omega, by omega, hc2_4, (fun _ => or_f hp5 q6)⟩, Or.inl ⟨by omega, rfl⟩⟩⟩, rfl⟩
        · refine to_n 1 (fr' := (25, [(0, .ref 26), (1, .int (nI k1)), (2, .int y)], [.ref 26], gh S a b sc1 ar lo, ex, 0, 0)) rfl ?_
          refine to_getR (v := (nI p)) rfl rfl rfl rfl hc2_0 ?_
          refine to_n 1 (fr' := (29, [(0, .ref 26), (1, .int (nI k1)), (2, .int y)], [.int (nI k1), .int (nI p)], gh S a b sc1 ar lo, ex, 0, 0)) rfl ?_
          refine to_subN (x := p) (y := k1) rfl (by omega) ?_
          refine to_n 1 (fr' := (31, [(0, .ref 26), (1, .int (nI k1)), (2, .int y)], [.int 5, .int (nI (p - k1))], gh S a b sc1 ar lo, ex, 0, 0)) rfl ?_
          refine to_nc_ge (t := 52) (x := (p - k1)) (y := 5) rfl (by omega) (by omega) (fun q8 => ?_) (fun q8 => ?_)
          · refine to_n 2 (fr' := (54, [(0, .ref 26), (1, .int (nI k1)), (2, .int y)], [.ref 26, .ref 26], gh S a b sc1 ar lo, ex, 0, 0)) rfl ?_
            refine to_getR (v := (nI p)) rfl rfl rfl rfl hc2_0 ?_
            refine to_n 1 (fr' := (58, [(0, .ref 26), (1, .int (nI k1)), (2, .int y)], [.int 1, .int (nI p), .ref 26], gh S a b sc1 ar lo, ex, 0, 0)) rfl ?_
            refine to_addN (x := p) (y := 1) rfl ?_
            refine to_putR (h' := gh S a b (upd sc1 2605 (nI (p + 1))) ar lo) rfl rfl rfl (Nat.le_of_ble_eq_true rfl) rfl rfl ?_
            have hI9 := ip_2605 (v := (nI (p + 1))) hI1 (rl_n (n := (p + 1)) (by omega))
            have hF9 := fr_s (k := 2605) (v := (nI (p + 1))) hF1 (by decide)
            refine to_n 1 (fr' := (2, [(0, .ref 26), (1, .int (nI k1)), (2, .int y)], [], gh S a b (upd sc1 2605 (nI (p + 1))) ar lo, ex, 0, 0)) rfl ?_
            exact ih y (p + 1) (upd sc1 2605 (nI (p + 1))) ar (by omega) (rfl) (hc2_1) (by omega) (by omega) (al_up2 hc2_4 (or_t hp5 q6 hn5)) (nv_on hc2_5 (by omega)) (by omega) hI9 hF9
          · refine to_n 4 (fr' := (39, [(0, .ref 26), (1, .int (nI k1)), (2, .int y)], [.ref 26, .int (10 * y)], gh S a b sc1 ar lo, ex, 0, 0)) rfl ?_
            refine to_get rfl rfl rfl rfl ?_
            refine to_n 1 (fr' := (43, [(0, .ref 26), (1, .int (nI k1)), (2, .int y)], [.ref 26, .ref 23, .int (10 * y)], gh S a b sc1 ar lo, ex, 0, 0)) rfl ?_
            refine to_getR (v := (nI p)) rfl rfl rfl rfl hc2_0 ?_
            refine to_balR (i := p) (v := ((ar 23) p)) rfl rfl (by omega) (by omega) rfl ?_
            refine to_n 6 (fr' := (54, [(0, .ref 26), (1, .int (nI k1)), (2, .int (((10 * y) + ((ar 23) p)) - 48))], [.ref 26, .ref 26], gh S a b sc1 ar lo, ex, 0, 0)) rfl ?_
            refine to_getR (v := (nI p)) rfl rfl rfl rfl hc2_0 ?_
            refine to_n 1 (fr' := (58, [(0, .ref 26), (1, .int (nI k1)), (2, .int (((10 * y) + ((ar 23) p)) - 48))], [.int 1, .int (nI p), .ref 26], gh S a b sc1 ar lo, ex, 0, 0)) rfl ?_
            refine to_addN (x := p) (y := 1) rfl ?_
            refine to_putR (h' := gh S a b (upd sc1 2605 (nI (p + 1))) ar lo) rfl rfl rfl (Nat.le_of_ble_eq_true rfl) rfl rfl ?_
            have hI10 := ip_2605 (v := (nI (p + 1))) hI1 (rl_n (n := (p + 1)) (by omega))
            have hF10 := fr_s (k := 2605) (v := (nI (p + 1))) hF1 (by decide)
            refine to_n 1 (fr' := (2, [(0, .ref 26), (1, .int (nI k1)), (2, .int (((10 * y) + ((ar 23) p)) - 48))], [], gh S a b (upd sc1 2605 (nI (p + 1))) ar lo, ex, 0, 0)) rfl ?_
            exact ih (((10 * y) + ((ar 23) p)) - 48) (p + 1) (upd sc1 2605 (nI (p + 1))) ar (by omega) (rfl) (hc2_1) (by omega) (by omega) (al_up2 hc2_4 (or_t hp5 q6 hn5)) (nv_up hc2_5 (by omega) (by omega)) (by omega) hI10 hF10
  refine to_n 2 (fr' := (2, [(0, .ref 26), (1, .int (nI k1)), (2, .int 0)], [], gh S a b sc ar lo, ex, 0, 0)) rfl ?_
  exact c2 (n - k1) 0 k1 sc ar (by omega) (es) (en) (by omega) (by omega) al_0 (by rw [Nat.sub_self]; rfl) (by omega) hI hF
set_option maxRecDepth 20000 in
theorem sf_X7_takeToken {X : Nat × (Nat → Int32)} {S a b : Nat} {sc : Nat → Int32} {ar : Nat → Nat → Int32} {lo : Nat → Int64} {ex : Bool} (hW : Wd S a b) (hI : Iv S sc ar) (k1 : Nat) (hk1 : k1 < 400) (n : Nat) (hn : k1 < n ∧ n ≤ 400) (en : sc 2604 = nI n) (es : sc 2605 = nI k1) (d : Nat)  : ci X S a b (d + 4) 59 [.ref 26, .int (nI k1)] sc ar lo ex (fun x sc' ar' => Iv S sc' ar' ∧ Fr [2605] [] sc ar sc' ar' ∧ (∃ e : Nat, sc' 2605 = nI e ∧ TokAt (ar 23) n k1 x e)) := by
  obtain ⟨ha1, ha8, hb1, hb8, hab, hS1, hS⟩ := id hW
  refine ci_of (M := an_X7_takeToken) rfl (Nat.le_of_ble_eq_true rfl) ?_
  have hF : Fr [2605] [] sc ar sc ar := fr_0
  refine to_eq (fr' := (0, [(0, .ref 26), (1, .int (nI k1))], [], gh S a b sc ar lo, ex, 0, 0)) rfl ?_
  refine to_n 2 (fr' := (2, [(0, .ref 26), (1, .int (nI k1))], [.int (nI k1), .ref 26], gh S a b sc ar lo, ex, 0, 0)) rfl ?_
  refine to_cp (q := 60) (M1 := an_X7_letterAt) (rest := []) rfl rfl (by decide) rfl ⟨_, rfl⟩ (sf_X7_letterAt hW hI k1 (by omega) (d + 2)) (fun x1 hx1 => ?_)
  obtain ⟨hx1, hp1⟩ := hx1
  obtain ⟨n1, hn1, rfl⟩ := hx1
  refine to_eq (fr' := (5, [(0, .ref 26), (1, .int (nI k1))], [.int (nI n1)], gh S a b sc ar lo, ex, 0, 0)) rfl ?_
  refine to_nf_eq (t := 14) (x := n1) rfl (by omega) (fun q2 => ?_) (fun q2 => ?_)
  · refine to_n 2 (fr' := (16, [(0, .ref 26), (1, .int (nI k1))], [.int (nI k1), .ref 26], gh S a b sc ar lo, ex, 0, 0)) rfl ?_
    refine to_cp (q := 61) (M1 := an_X7_digitAt) (rest := []) rfl rfl (by decide) rfl ⟨_, rfl⟩ (sf_X7_digitAt hW hI k1 (by omega) (d + 2)) (fun x3 hx3 => ?_)
    obtain ⟨hx3, hp3⟩ := hx3
    obtain ⟨n3, hn3, rfl⟩ := hx3
    refine to_eq (fr' := (19, [(0, .ref 26), (1, .int (nI k1))], [.int (nI n3)], gh S a b sc ar lo, ex, 0, 0)) rfl ?_
    refine to_nf_eq (t := 28) (x := n3) rfl (by omega) (fun q4 => ?_) (fun q4 => ?_)
    · refine to_n 3 (fr' := (31, [(0, .ref 26), (1, .int (nI k1))], [.int 1, .int (nI k1), .ref 26], gh S a b sc ar lo, ex, 0, 0)) rfl ?_
      refine to_addN (x := k1) (y := 1) rfl ?_
      refine to_putR (h' := gh S a b (upd sc 2605 (nI (k1 + 1))) ar lo) rfl rfl rfl (Nat.le_of_ble_eq_true rfl) rfl rfl ?_
      have hI5 := ip_2605 (v := (nI (k1 + 1))) hI (rl_n (n := (k1 + 1)) (by omega))
      have hF5 := fr_s (k := 2605) (v := (nI (k1 + 1))) hF (by decide)
      refine to_n 2 (fr' := (37, [(0, .ref 26), (1, .int (nI k1))], [.int (nI k1), .ref 26], gh S a b (upd sc 2605 (nI (k1 + 1))) ar lo, ex, 0, 0)) rfl ?_
      refine to_cp (q := 67) (M1 := an_X7_signAt) (rest := []) rfl rfl (by decide) rfl ⟨_, rfl⟩ (sf_signAt hW hI5 k1 (by omega) (d + 2)) (fun x6 hx6 => ?_)
      have hp6 := hx6
      refine to_eq (fr' := (40, [(0, .ref 26), (1, .int (nI k1))], [.int x6], gh S a b (upd sc 2605 (nI (k1 + 1))) ar lo, ex, 0, 0)) rfl ?_
      exact to_rt (i := .ireturn) (tg := []) rfl rfl ⟨_, _, _, ⟨hI5, hF5, ⟨k1 + 1, rfl, Or.inr (Or.inr ⟨or_f hp1 q2, or_f hp3 q4, rfl, hp6⟩)⟩⟩, rfl⟩
    · refine to_n 2 (fr' := (24, [(0, .ref 26), (1, .int (nI k1))], [.int (nI k1), .ref 26], gh S a b sc ar lo, ex, 0, 0)) rfl ?_
      refine to_ci (q := 62) (M1 := an_X7_takeNumber) (rest := []) rfl rfl (by decide) rfl ⟨_, rfl⟩ (sf_X7_takeNumber hW hI k1 (by omega) n (by omega) en es (d + 1)) (fun x7 sc7 ar7 hx7 => ?_)
      obtain ⟨hI7, hG7, hx7⟩ := hx7
      have hF7 := fr_t hF hG7 (by decide) (by decide)
      have k7_2604 : sc7 2604 = (nI n) := (hG7.1 2604 (by decide)).trans en
      obtain rfl : ar = ar7 := fr_nil hG7
      have hp7 := hx7
      refine to_eq (fr' := (27, [(0, .ref 26), (1, .int (nI k1))], [.int x7], gh S a b sc7 ar lo, ex, 0, 0)) rfl ?_
      exact to_rt (i := .ireturn) (tg := []) rfl rfl ⟨_, _, _, ⟨hI7, hF7, (hp7.elim fun e w => ⟨e, w.1, Or.inr (Or.inl ⟨or_f hp1 q2, or_t hp3 q4 hn3, w.2⟩)⟩)⟩, rfl⟩
  · refine to_n 2 (fr' := (10, [(0, .ref 26), (1, .int (nI k1))], [.int (nI k1), .ref 26], gh S a b sc ar lo, ex, 0, 0)) rfl ?_
    refine to_ci (q := 63) (M1 := an_X7_takeWord) (rest := []) rfl rfl (by decide) rfl ⟨_, rfl⟩ (sf_X7_takeWord hW hI k1 (by omega) n (by omega) en es d) (fun x8 sc8 ar8 hx8 => ?_)
    obtain ⟨hI8, hG8, hx8⟩ := hx8
    have hF8 := fr_t hF hG8 (by decide) (by decide)
    have k8_2604 : sc8 2604 = (nI n) := (hG8.1 2604 (by decide)).trans en
    obtain rfl : ar = ar8 := fr_nil hG8
    have hp8 := hx8
    refine to_eq (fr' := (13, [(0, .ref 26), (1, .int (nI k1))], [.int x8], gh S a b sc8 ar lo, ex, 0, 0)) rfl ?_
    exact to_rt (i := .ireturn) (tg := []) rfl rfl ⟨_, _, _, ⟨hI8, hF8, (hp8.elim fun e w => ⟨e, w.1, Or.inl ⟨or_t hp1 q2 hn1, w.2⟩⟩)⟩, rfl⟩
set_option maxRecDepth 20000 in
theorem sf_X7_add {X : Nat × (Nat → Int32)} {S a b : Nat} {sc : Nat → Int32} {ar : Nat → Nat → Int32} {lo : Nat → Int64} {ex : Bool} (hW : Wd S a b) (hI : Iv S sc ar) (x1 : Int32) (x2 : Int32) (i : Nat) (hi : i ≤ 400) (ei : sc 2602 = nI i) (d : Nat)  : cv X S a b (d + 1) 58 [.ref 26, .int x1, .int x2] sc ar lo ex (fun sc' ar' => Iv S sc' ar' ∧ Fr [2602] [27, 28] sc ar sc' ar' ∧ (sc' 2602 = nI (i + 1) ∧ ar' 27 = upd (ar 27) i x2 ∧ ar' 28 = upd (ar 28) i x1)) := by
  obtain ⟨ha1, ha8, hb1, hb8, hab, hS1, hS⟩ := id hW
  refine cv_of (M := an_X7_add) rfl (Nat.le_of_ble_eq_true rfl) ?_
  have hF : Fr [2602] [27, 28] sc ar sc ar := fr_0
  refine to_eq (fr' := (0, [(0, .ref 26), (1, .int x1), (2, .int x2)], [], gh S a b sc ar lo, ex, 0, 0)) rfl ?_
  refine to_n 1 (fr' := (1, [(0, .ref 26), (1, .int x1), (2, .int x2)], [.ref 26], gh S a b sc ar lo, ex, 0, 0)) rfl ?_
  refine to_getR (v := (nI i)) rfl rfl rfl rfl ei ?_
  refine to_n 1 (fr' := (5, [(0, .ref 26), (1, .int x1), (2, .int x2)], [.ref 26, .int (nI i)], gh S a b sc ar lo, ex, 0, 0)) rfl ?_
  refine to_get rfl rfl rfl rfl ?_
  refine to_len rfl (by decide) rfl (by decide) ?_
  refine to_eq (fr' := (9, [(0, .ref 26), (1, .int x1), (2, .int x2)], [.int (nI 401), .int (nI i)], gh S a b sc ar lo, ex, 0, 0)) rfl ?_
  refine to_nc_ge_F (t := 42) (x := i) (y := 401) rfl (by omega) (by omega) (by omega) ?_
  refine to_n 1 (fr' := (13, [(0, .ref 26), (1, .int x1), (2, .int x2)], [.ref 26], gh S a b sc ar lo, ex, 0, 0)) rfl ?_
  refine to_get rfl rfl rfl rfl ?_
  refine to_n 1 (fr' := (17, [(0, .ref 26), (1, .int x1), (2, .int x2)], [.ref 26, .ref 27], gh S a b sc ar lo, ex, 0, 0)) rfl ?_
  refine to_getR (v := (nI i)) rfl rfl rfl rfl ei ?_
  refine to_n 1 (fr' := (21, [(0, .ref 26), (1, .int x1), (2, .int x2)], [.int x2, .int (nI i), .ref 27], gh S a b sc ar lo, ex, 0, 0)) rfl ?_
  refine to_iasR (i := i) (h' := gh S a b sc (uA ar 27 (upd (ar 27) i x2)) lo) rfl rfl (by omega) (by omega) rfl ?_
  have hI1 := ia_27 (g := (upd (ar 27) i x2)) hI
  have hF1 := fr_a (c := 27) (g := (upd (ar 27) i x2)) hF (by decide)
  refine to_n 1 (fr' := (23, [(0, .ref 26), (1, .int x1), (2, .int x2)], [.ref 26], gh S a b sc (uA ar 27 (upd (ar 27) i x2)) lo, ex, 0, 0)) rfl ?_
  refine to_get rfl rfl rfl rfl ?_
  refine to_n 1 (fr' := (27, [(0, .ref 26), (1, .int x1), (2, .int x2)], [.ref 26, .ref 28], gh S a b sc (uA ar 27 (upd (ar 27) i x2)) lo, ex, 0, 0)) rfl ?_
  refine to_getR (v := (nI i)) rfl rfl rfl rfl ei ?_
  refine to_n 1 (fr' := (31, [(0, .ref 26), (1, .int x1), (2, .int x2)], [.int x1, .int (nI i), .ref 28], gh S a b sc (uA ar 27 (upd (ar 27) i x2)) lo, ex, 0, 0)) rfl ?_
  refine to_iasR (i := i) (h' := gh S a b sc (uA (uA ar 27 (upd (ar 27) i x2)) 28 (upd ((uA ar 27 (upd (ar 27) i x2)) 28) i x1)) lo) rfl rfl (by omega) (by omega) rfl ?_
  have hI2 := ia_28 (g := (upd ((uA ar 27 (upd (ar 27) i x2)) 28) i x1)) hI1
  have hF2 := fr_a (c := 28) (g := (upd ((uA ar 27 (upd (ar 27) i x2)) 28) i x1)) hF1 (by decide)
  refine to_n 2 (fr' := (34, [(0, .ref 26), (1, .int x1), (2, .int x2)], [.ref 26, .ref 26], gh S a b sc (uA (uA ar 27 (upd (ar 27) i x2)) 28 (upd ((uA ar 27 (upd (ar 27) i x2)) 28) i x1)) lo, ex, 0, 0)) rfl ?_
  refine to_getR (v := (nI i)) rfl rfl rfl rfl ei ?_
  refine to_n 1 (fr' := (38, [(0, .ref 26), (1, .int x1), (2, .int x2)], [.int 1, .int (nI i), .ref 26], gh S a b sc (uA (uA ar 27 (upd (ar 27) i x2)) 28 (upd ((uA ar 27 (upd (ar 27) i x2)) 28) i x1)) lo, ex, 0, 0)) rfl ?_
  refine to_addN (x := i) (y := 1) rfl ?_
  refine to_putR (h' := gh S a b (upd sc 2602 (nI (i + 1))) (uA (uA ar 27 (upd (ar 27) i x2)) 28 (upd ((uA ar 27 (upd (ar 27) i x2)) 28) i x1)) lo) rfl rfl rfl (Nat.le_of_ble_eq_true rfl) rfl rfl ?_
  have hI3 := ip_2602 (v := (nI (i + 1))) hI2 (rl_n (n := (i + 1)) (by omega))
  have hF3 := fr_s (k := 2602) (v := (nI (i + 1))) hF2 (by decide)
  exact to_rt (i := .return_) (tg := []) rfl rfl ⟨_, _, ⟨hI3, hF3, ⟨rfl, rfl, rfl⟩⟩, rfl⟩
set_option maxRecDepth 20000 in
theorem sf_X7_scan {X : Nat × (Nat → Int32)} {S a b : Nat} {sc : Nat → Int32} {ar : Nat → Nat → Int32} {lo : Nat → Int64} {ex : Bool} (hW : Wd S a b) (hI : Iv S sc ar) (n : Nat) (hn : n < 401) (d : Nat)  : cv X S a b (d + 5) 57 [.ref 26, .int (nI n)] sc ar lo ex (fun sc' ar' => Iv S sc' ar' ∧ Fr [2602, 2604, 2605] [27, 28] sc ar sc' ar' ∧ (∃ (pl g : Nat → Nat) (sz : Nat), Sm (ar 23) n (ar' 27) pl g sz ∧ sc' 2602 = nI sz ∧ ∀ j, j < sz → ar' 28 j = nI (pl j))) := by
  obtain ⟨ha1, ha8, hb1, hb8, hab, hS1, hS⟩ := id hW
  refine cv_of (M := an_X7_scan) rfl (Nat.le_of_ble_eq_true rfl) ?_
  have hF : Fr [2602, 2604, 2605] [27, 28] sc ar sc ar := fr_0
  refine to_eq (fr' := (0, [(0, .ref 26), (1, .int (nI n))], [], gh S a b sc ar lo, ex, 0, 0)) rfl ?_
  have c119 : ∀ (i : Nat) (sc1 : Nat → Int32) (ar1 : Nat → Nat → Int32), sc1 2602 = nI i → sc1 2604 = nI n → (∃ e : Nat, Sp (ar 23) n (ar1 27) (ar1 28) i e ∧ rn_ isp (ar 23) n e n) → i ≤ 400 → Iv S sc1 ar1 → Fr [2602, 2604, 2605] [27, 28] sc ar sc1 ar1 → ag_To X (d + 4) an_X7_scan (119, [(0, .ref 26)], [], gh S a b sc1 ar1 lo, ex, 0, 0) (qv S a b lo ex (fun sc' ar' => Iv S sc' ar' ∧ Fr [2602, 2604, 2605] [27, 28] sc ar sc' ar' ∧ (∃ (pl g : Nat → Nat) (sz : Nat), Sm (ar 23) n (ar' 27) pl g sz ∧ sc' 2602 = nI sz ∧ ∀ j, j < sz → ar' 28 j = nI (pl j)))) := by
    intro i sc1 ar1 hc119_0 hc119_1 hc119_2 hc119_3 hI1 hF1
    refine to_n 2 (fr' := (121, [(0, .ref 26)], [.ref 26, .ref 26], gh S a b sc1 ar1 lo, ex, 0, 0)) rfl ?_
    refine to_getR (v := (nI n)) rfl rfl rfl rfl hc119_1 ?_
    refine to_n 1 (fr' := (125, [(0, .ref 26)], [.int (-1), .int (nI n), .ref 26], gh S a b sc1 ar1 lo, ex, 0, 0)) rfl ?_
    refine to_cv (q := 58) (M1 := an_X7_add) (rest := []) rfl rfl (by decide) rfl ⟨_, rfl⟩ (sf_X7_add hW hI1 (nI n) (-1) i (by omega) hc119_0 (d + 3)) (fun sc2 ar2 hx2 => ?_)
    obtain ⟨hI2, hG2, hx2⟩ := hx2
    have hF2 := fr_t hF1 hG2 (by decide) (by decide)
    have k2_2604 : sc2 2604 = (nI n) := (hG2.1 2604 (by decide)).trans hc119_1
    obtain ⟨hs2, hr2, hq2⟩ := hx2
    refine to_eq (fr' := (128, [(0, .ref 26)], [], gh S a b sc2 ar2 lo, ex, 0, 0)) rfl ?_
    exact to_rt (i := .return_) (tg := []) rfl rfl ⟨_, _, ⟨hI2, hF2, (hc119_2.elim fun e w => (sp_end w.1 w.2 (by omega) hr2 hq2).elim fun pl w2 => w2.elim fun g w3 => ⟨pl, g, i + 1, w3.1, hs2, w3.2⟩)⟩, rfl⟩
  have c25 : ∀ m : Nat, ∀ (i : Nat) (e : Nat) (sc3 : Nat → Int32) (ar3 : Nat → Nat → Int32), i + m = 400 → sc3 2605 = nI e → sc3 2602 = nI i → sc3 2604 = nI n → Sp (ar 23) n (ar3 27) (ar3 28) i e → i ≤ e → e ≤ n → Iv S sc3 ar3 → Fr [2602, 2604, 2605] [27, 28] sc ar sc3 ar3 → ag_To X (d + 4) an_X7_scan (25, [(0, .ref 26), (1, .int (nI n)), (2, .int (nI i))], [], gh S a b sc3 ar3 lo, ex, 0, 0) (qv S a b lo ex (fun sc' ar' => Iv S sc' ar' ∧ Fr [2602, 2604, 2605] [27, 28] sc ar sc' ar' ∧ (∃ (pl g : Nat → Nat) (sz : Nat), Sm (ar 23) n (ar' 27) pl g sz ∧ sc' 2602 = nI sz ∧ ∀ j, j < sz → ar' 28 j = nI (pl j)))) := by
    intro m
    induction m with
    | zero =>
      intro i e sc3 ar3 hm hc25_0 hc25_1 hc25_2 hc25_3 hc25_4 hc25_5 hI3 hF3
      have e23_25 : ar3 23 = ar 23 := hF3.2 23 (by decide)
      refine to_n 2 (fr' := (29, [(0, .ref 26), (1, .int (nI n)), (2, .int (nI i))], [.int 400, .int (nI i)], gh S a b sc3 ar3 lo, ex, 0, 0)) rfl ?_
      refine to_nc_ge_T (t := 119) (x := i) (y := 400) rfl (by omega) (by omega) (by omega) ?_
      refine to_lv (lv := [(0, .ref 26)]) rfl ⟨rfl, trivial⟩ ?_
      exact c119 i sc3 ar3 (hc25_1) (hc25_2) ⟨e, hc25_3, (by rw [show e = n by omega]; exact rn_0 (Nat.le_refl _) (fun w => absurd w (Nat.lt_irrefl _)))⟩ (by omega) hI3 hF3
    | succ m ih =>
      intro i e sc3 ar3 hm hc25_0 hc25_1 hc25_2 hc25_3 hc25_4 hc25_5 hI3 hF3
      have c84 : ∀ (p : Nat) (sc4 : Nat → Int32) (ar4 : Nat → Nat → Int32), sc4 2605 = nI p → sc4 2602 = nI i → sc4 2604 = nI n → Sp (ar 23) n (ar4 27) (ar4 28) i e → rn_ isp (ar 23) n e p → Iv S sc4 ar4 → Fr [2602, 2604, 2605] [27, 28] sc ar sc4 ar4 → ag_To X (d + 4) an_X7_scan (84, [(0, .ref 26), (1, .int (nI n)), (2, .int (nI i))], [], gh S a b sc4 ar4 lo, ex, 0, 0) (qv S a b lo ex (fun sc' ar' => Iv S sc' ar' ∧ Fr [2602, 2604, 2605] [27, 28] sc ar sc' ar' ∧ (∃ (pl g : Nat → Nat) (sz : Nat), Sm (ar 23) n (ar' 27) pl g sz ∧ sc' 2602 = nI sz ∧ ∀ j, j < sz → ar' 28 j = nI (pl j)))) := by
        intro p sc4 ar4 hc84_0 hc84_1 hc84_2 hc84_3 hc84_4 hI4 hF4
        have e23_84 : ar4 23 = ar 23 := hF4.2 23 (by decide)
        have hl84 := hc84_4.1
        have hr84 := hc84_4.2.1
        refine to_n 1 (fr' := (85, [(0, .ref 26), (1, .int (nI n)), (2, .int (nI i))], [.ref 26], gh S a b sc4 ar4 lo, ex, 0, 0)) rfl ?_
        refine to_getR (v := (nI p)) rfl rfl rfl rfl hc84_0 ?_
        refine to_n 1 (fr' := (89, [(0, .ref 26), (1, .int (nI n)), (2, .int (nI i))], [.ref 26, .int (nI p)], gh S a b sc4 ar4 lo, ex, 0, 0)) rfl ?_
        refine to_getR (v := (nI n)) rfl rfl rfl rfl hc84_2 ?_
        refine to_nc_lt (t := 98) (x := p) (y := n) rfl (by omega) (by omega) (fun q5 => ?_) (fun q5 => ?_)
        · refine to_n 1 (fr' := (99, [(0, .ref 26), (1, .int (nI n)), (2, .int (nI i))], [.ref 26], gh S a b sc4 ar4 lo, ex, 0, 0)) rfl ?_
          refine to_getR (v := (nI p)) rfl rfl rfl rfl hc84_0 ?_
          refine to_n 5 (fr' := (107, [(0, .ref 26), (1, .int (nI n)), (2, .int (nI i)), (3, .int (nI p))], [.int (nI p), .ref 26, .int (nI p), .ref 26], gh S a b sc4 ar4 lo, ex, 0, 0)) rfl ?_
          refine to_ci (q := 59) (M1 := an_X7_takeToken) (rest := [.int (nI p), .ref 26]) rfl rfl (by decide) rfl ⟨_, rfl⟩ (sf_X7_takeToken hW hI4 p (by omega) n (by omega) hc84_2 hc84_0 d) (fun x6 sc6 ar6 hx6 => ?_)
          obtain ⟨hI6, hG6, hx6⟩ := hx6
          have hF6 := fr_t hF4 hG6 (by decide) (by decide)
          have k6_2602 : sc6 2602 = (nI i) := (hG6.1 2602 (by decide)).trans hc84_1
          have k6_2604 : sc6 2604 = (nI n) := (hG6.1 2604 (by decide)).trans hc84_2
          obtain rfl : ar4 = ar6 := fr_nil hG6
          have hp6 := hx6
          obtain ⟨e6, ee6, ht6⟩ := hp6
          rw [e23_84] at ht6
          have hl6 := ta_lt ht6 (by omega)
          refine to_eq (fr' := (110, [(0, .ref 26), (1, .int (nI n)), (2, .int (nI i)), (3, .int (nI p))], [.int x6, .int (nI p), .ref 26], gh S a b sc6 ar4 lo, ex, 0, 0)) rfl ?_
          refine to_cv (q := 58) (M1 := an_X7_add) (rest := []) rfl rfl (by decide) rfl ⟨_, rfl⟩ (sf_X7_add hW hI6 (nI p) x6 i (by omega) k6_2602 (d + 3)) (fun sc7 ar7 hx7 => ?_)
          obtain ⟨hI7, hG7, hx7⟩ := hx7
          have hF7 := fr_t hF6 hG7 (by decide) (by decide)
          have k7_2604 : sc7 2604 = (nI n) := (hG7.1 2604 (by decide)).trans k6_2604
          have k7_2605 : sc7 2605 = (nI e6) := (hG7.1 2605 (by decide)).trans ee6
          obtain ⟨hs7, hr7, hq7⟩ := hx7
          refine to_eq (fr' := (113, [(0, .ref 26), (1, .int (nI n)), (2, .int (nI i)), (3, .int (nI p))], [], gh S a b sc7 ar7 lo, ex, 0, 0)) rfl ?_
          refine to_n 1 (fr' := (116, [(0, .ref 26), (1, .int (nI n)), (2, .int ((nI i) + 1)), (3, .int (nI p))], [], gh S a b sc7 ar7 lo, ex, 0, 0)) rfl ?_
          rw [nI_1 i]
          refine to_n 1 (fr' := (25, [(0, .ref 26), (1, .int (nI n)), (2, .int (nI (i + 1))), (3, .int (nI p))], [], gh S a b sc7 ar7 lo, ex, 0, 0)) rfl ?_
          refine to_lv (lv := [(0, .ref 26), (1, .int (nI n)), (2, .int (nI (i + 1)))]) rfl ⟨rfl, rfl, rfl, trivial⟩ ?_
          exact ih (i + 1) e6 sc7 ar7 (by omega) (k7_2605) (hs7) (k7_2604) (sp_up hc84_3 hc84_4 (by omega) ht6 hr7 hq7) (by omega) (by omega) hI7 hF7
        · refine to_n 1 (fr' := (119, [(0, .ref 26), (1, .int (nI n)), (2, .int (nI i))], [], gh S a b sc4 ar4 lo, ex, 0, 0)) rfl ?_
          refine to_lv (lv := [(0, .ref 26)]) rfl ⟨rfl, trivial⟩ ?_
          exact c119 i sc4 ar4 (hc84_1) (hc84_2) ⟨e, hc84_3, (by have h9 := hc84_4; rw [show p = n by omega] at h9; exact h9)⟩ (by omega) hI4 hF4
      have c32 : ∀ m : Nat, ∀ (p : Nat) (sc8 : Nat → Int32) (ar8 : Nat → Nat → Int32), n ≤ p + m → sc8 2605 = nI p → sc8 2602 = nI i → sc8 2604 = nI n → Sp (ar 23) n (ar8 27) (ar8 28) i e → e ≤ p → p ≤ n → (∀ t, e ≤ t → t < p → isp (ar 23 t)) → p ≤ n → Iv S sc8 ar8 → Fr [2602, 2604, 2605] [27, 28] sc ar sc8 ar8 → ag_To X (d + 4) an_X7_scan (32, [(0, .ref 26), (1, .int (nI n)), (2, .int (nI i))], [], gh S a b sc8 ar8 lo, ex, 0, 0) (qv S a b lo ex (fun sc' ar' => Iv S sc' ar' ∧ Fr [2602, 2604, 2605] [27, 28] sc ar sc' ar' ∧ (∃ (pl g : Nat → Nat) (sz : Nat), Sm (ar 23) n (ar' 27) pl g sz ∧ sc' 2602 = nI sz ∧ ∀ j, j < sz → ar' 28 j = nI (pl j)))) := by
        intro m
        induction m with
        | zero =>
          intro p sc8 ar8 hm hc32_0 hc32_1 hc32_2 hc32_3 hc32_4 hc32_5 hc32_6 hc32_7 hI8 hF8
          have e23_32 : ar8 23 = ar 23 := hF8.2 23 (by decide)
          refine to_n 1 (fr' := (33, [(0, .ref 26), (1, .int (nI n)), (2, .int (nI i))], [.ref 26], gh S a b sc8 ar8 lo, ex, 0, 0)) rfl ?_
          refine to_getR (v := (nI p)) rfl rfl rfl rfl hc32_0 ?_
          refine to_n 1 (fr' := (37, [(0, .ref 26), (1, .int (nI n)), (2, .int (nI i))], [.ref 26, .int (nI p)], gh S a b sc8 ar8 lo, ex, 0, 0)) rfl ?_
          refine to_getR (v := (nI n)) rfl rfl rfl rfl hc32_2 ?_
          refine to_nc_ge_T (t := 84) (x := p) (y := n) rfl (by omega) (by omega) (by omega) ?_
          exact c84 p sc8 ar8 (hc32_0) (hc32_1) (hc32_2) hc32_3 ⟨by omega, by omega, hc32_6, (fun w => absurd w (by omega))⟩ hI8 hF8
        | succ m ih =>
          intro p sc8 ar8 hm hc32_0 hc32_1 hc32_2 hc32_3 hc32_4 hc32_5 hc32_6 hc32_7 hI8 hF8
          have e23_32 : ar8 23 = ar 23 := hF8.2 23 (by decide)
          refine to_n 1 (fr' := (33, [(0, .ref 26), (1, .int (nI n)), (2, .int (nI i))], [.ref 26], gh S a b sc8 ar8 lo, ex, 0, 0)) rfl ?_
          refine to_getR (v := (nI p)) rfl rfl rfl rfl hc32_0 ?_
          refine to_n 1 (fr' := (37, [(0, .ref 26), (1, .int (nI n)), (2, .int (nI i))], [.ref 26, .int (nI p)], gh S a b sc8 ar8 lo, ex, 0, 0)) rfl ?_
          refine to_getR (v := (nI n)) rfl rfl rfl rfl hc32_2 ?_
          refine to_nc_ge (t := 84) (x := p) (y := n) rfl (by omega) (by omega) (fun q9 => ?_) (fun q9 => ?_)
          · exact c84 p sc8 ar8 (hc32_0) (hc32_1) (hc32_2) hc32_3 ⟨by omega, by omega, hc32_6, (fun w => absurd w (by omega))⟩ hI8 hF8
          · refine to_n 1 (fr' := (44, [(0, .ref 26), (1, .int (nI n)), (2, .int (nI i))], [.ref 26], gh S a b sc8 ar8 lo, ex, 0, 0)) rfl ?_
            refine to_get rfl rfl rfl rfl ?_
            refine to_n 1 (fr' := (48, [(0, .ref 26), (1, .int (nI n)), (2, .int (nI i))], [.ref 26, .ref 23], gh S a b sc8 ar8 lo, ex, 0, 0)) rfl ?_
            refine to_getR (v := (nI p)) rfl rfl rfl rfl hc32_0 ?_
            refine to_balR (i := p) (v := ((ar8 23) p)) rfl rfl (by omega) (by omega) rfl ?_
            refine to_n 1 (fr' := (54, [(0, .ref 26), (1, .int (nI n)), (2, .int (nI i))], [.int 32, .int ((ar8 23) p)], gh S a b sc8 ar8 lo, ex, 0, 0)) rfl ?_
            refine to_ic_eq (t := 71) rfl (fun q10 => ?_) (fun q10 => ?_)
            · refine to_n 2 (fr' := (73, [(0, .ref 26), (1, .int (nI n)), (2, .int (nI i))], [.ref 26, .ref 26], gh S a b sc8 ar8 lo, ex, 0, 0)) rfl ?_
              refine to_getR (v := (nI p)) rfl rfl rfl rfl hc32_0 ?_
              refine to_n 1 (fr' := (77, [(0, .ref 26), (1, .int (nI n)), (2, .int (nI i))], [.int 1, .int (nI p), .ref 26], gh S a b sc8 ar8 lo, ex, 0, 0)) rfl ?_
              refine to_addN (x := p) (y := 1) rfl ?_
              refine to_putR (h' := gh S a b (upd sc8 2605 (nI (p + 1))) ar8 lo) rfl rfl rfl (Nat.le_of_ble_eq_true rfl) rfl rfl ?_
              have hI11 := ip_2605 (v := (nI (p + 1))) hI8 (rl_n (n := (p + 1)) (by omega))
              have hF11 := fr_s (k := 2605) (v := (nI (p + 1))) hF8 (by decide)
              refine to_n 1 (fr' := (32, [(0, .ref 26), (1, .int (nI n)), (2, .int (nI i))], [], gh S a b (upd sc8 2605 (nI (p + 1))) ar8 lo, ex, 0, 0)) rfl ?_
              exact ih (p + 1) (upd sc8 2605 (nI (p + 1))) ar8 (by omega) (rfl) (hc32_1) (hc32_2) hc32_3 (by omega) (by omega) (al_up2 hc32_6 (by rw [← e23_32]; exact Or.inl q10)) (by omega) hI11 hF11
            · refine to_n 1 (fr' := (58, [(0, .ref 26), (1, .int (nI n)), (2, .int (nI i))], [.ref 26], gh S a b sc8 ar8 lo, ex, 0, 0)) rfl ?_
              refine to_get rfl rfl rfl rfl ?_
              refine to_n 1 (fr' := (62, [(0, .ref 26), (1, .int (nI n)), (2, .int (nI i))], [.ref 26, .ref 23], gh S a b sc8 ar8 lo, ex, 0, 0)) rfl ?_
              refine to_getR (v := (nI p)) rfl rfl rfl rfl hc32_0 ?_
              refine to_balR (i := p) (v := ((ar8 23) p)) rfl rfl (by omega) (by omega) rfl ?_
              refine to_n 1 (fr' := (68, [(0, .ref 26), (1, .int (nI n)), (2, .int (nI i))], [.int 10, .int ((ar8 23) p)], gh S a b sc8 ar8 lo, ex, 0, 0)) rfl ?_
              refine to_ic_ne (t := 84) rfl (fun q12 => ?_) (fun q12 => ?_)
              · exact c84 p sc8 ar8 (hc32_0) (hc32_1) (hc32_2) hc32_3 ⟨by omega, by omega, hc32_6, (fun _ => by rw [← e23_32]; exact fun w => w.elim q10 q12)⟩ hI8 hF8
              · refine to_n 2 (fr' := (73, [(0, .ref 26), (1, .int (nI n)), (2, .int (nI i))], [.ref 26, .ref 26], gh S a b sc8 ar8 lo, ex, 0, 0)) rfl ?_
                refine to_getR (v := (nI p)) rfl rfl rfl rfl hc32_0 ?_
                refine to_n 1 (fr' := (77, [(0, .ref 26), (1, .int (nI n)), (2, .int (nI i))], [.int 1, .int (nI p), .ref 26], gh S a b sc8 ar8 lo, ex, 0, 0)) rfl ?_
                refine to_addN (x := p) (y := 1) rfl ?_
                refine to_putR (h' := gh S a b (upd sc8 2605 (nI (p + 1))) ar8 lo) rfl rfl rfl (Nat.le_of_ble_eq_true rfl) rfl rfl ?_
                have hI13 := ip_2605 (v := (nI (p + 1))) hI8 (rl_n (n := (p + 1)) (by omega))
                have hF13 := fr_s (k := 2605) (v := (nI (p + 1))) hF8 (by decide)
                refine to_n 1 (fr' := (32, [(0, .ref 26), (1, .int (nI n)), (2, .int (nI i))], [], gh S a b (upd sc8 2605 (nI (p + 1))) ar8 lo, ex, 0, 0)) rfl ?_
                exact ih (p + 1) (upd sc8 2605 (nI (p + 1))) ar8 (by omega) (rfl) (hc32_1) (hc32_2) hc32_3 (by omega) (by omega) (al_up2 hc32_6 (by rw [← e23_32]; exact Or.inr q12)) (by omega) hI13 hF13
      have e23_25 : ar3 23 = ar 23 := hF3.2 23 (by decide)
      refine to_n 2 (fr' := (29, [(0, .ref 26), (1, .int (nI n)), (2, .int (nI i))], [.int 400, .int (nI i)], gh S a b sc3 ar3 lo, ex, 0, 0)) rfl ?_
      refine to_nc_ge_F (t := 119) (x := i) (y := 400) rfl (by omega) (by omega) (by omega) ?_
      exact c32 (n - e) e sc3 ar3 (by omega) (hc25_0) (hc25_1) (hc25_2) hc25_3 (by omega) (by omega) al_0 (by omega) hI3 hF3
  refine to_n 3 (fr' := (3, [(0, .ref 26), (1, .int (nI n))], [.ref 26, .int (nI n), .ref 26], gh S a b sc ar lo, ex, 0, 0)) rfl ?_
  refine to_get rfl rfl rfl rfl ?_
  refine to_len rfl (by decide) rfl (by decide) ?_
  refine to_eq (fr' := (7, [(0, .ref 26), (1, .int (nI n))], [.int (nI 400), .int (nI n), .ref 26], gh S a b sc ar lo, ex, 0, 0)) rfl ?_
  refine to_minN (x := n) (y := 400) rfl rfl (by omega) (by omega) (by decide) ?_
  refine to_putR (h' := gh S a b (upd sc 2604 (nI n)) ar lo) rfl rfl rfl (Nat.le_of_ble_eq_true rfl) rfl rfl ?_
  have hI14 := ip_2604 (v := (nI n)) hI (rl_n (n := n) (by omega))
  have hF14 := fr_s (k := 2604) (v := (nI n)) hF (by decide)
  refine to_n 2 (fr' := (15, [(0, .ref 26), (1, .int (nI n))], [.int 0, .ref 26], gh S a b (upd sc 2604 (nI n)) ar lo, ex, 0, 0)) rfl ?_
  refine to_putR (h' := gh S a b (upd (upd sc 2604 (nI n)) 2605 0) ar lo) rfl rfl rfl (Nat.le_of_ble_eq_true rfl) rfl rfl ?_
  have hI15 := ip_2605 (v := 0) hI14 (rl_n (n := 0) (by omega))
  have hF15 := fr_s (k := 2605) (v := 0) hF14 (by decide)
  refine to_n 2 (fr' := (20, [(0, .ref 26), (1, .int (nI n))], [.int 0, .ref 26], gh S a b (upd (upd sc 2604 (nI n)) 2605 0) ar lo, ex, 0, 0)) rfl ?_
  refine to_putR (h' := gh S a b (upd (upd (upd sc 2604 (nI n)) 2605 0) 2602 0) ar lo) rfl rfl rfl (Nat.le_of_ble_eq_true rfl) rfl rfl ?_
  have hI16 := ip_2602 (v := 0) hI15 (rl_n (n := 0) (by omega))
  have hF16 := fr_s (k := 2602) (v := 0) hF15 (by decide)
  refine to_n 2 (fr' := (25, [(0, .ref 26), (1, .int (nI n)), (2, .int 0)], [], gh S a b (upd (upd (upd sc 2604 (nI n)) 2605 0) 2602 0) ar lo, ex, 0, 0)) rfl ?_
  exact c25 (400 - 0) 0 0 (upd (upd (upd sc 2604 (nI n)) 2605 0) 2602 0) ar (by omega) (rfl) (rfl) (rfl) sp_0 (by omega) (by omega) hI16 hF16
