/-! the reference's reader: what each of its methods comes to -/
def Rd (sc : Nat → Int32) (ar : Nat → Nat → Int32) (l c B e h : Nat) : Prop := ¬ sc 4941 = 0 ∨ (sc 4941 = 0 ∧ Pz sc ∧ ∃ c' B' : Nat, sc 4934 = nI c' ∧ sc 4939 = nI B' ∧ c ≤ c' ∧ B ≤ B' ∧ B' ≤ 400 ∧ 2 * c' + e ≤ 3 * B' + 1 ∧ seg (ar 71) (700 * l + c) (700 * l + c') h)
def RdOk (X : Nat × (Nat → Int32)) (S a b : Nat) (lo : Nat → Int64) (ex : Bool) (D q w h : Nat) : Prop := ∀ (sc : Nat → Int32) (ar : Nat → Nat → Int32) (l c e B : Nat), Iv S sc ar → l < 6 → sc 4907 = nI l → sc 4934 = nI c → sc 4939 = nI B → B ≤ 400 → sc 4941 = 0 → Pz sc → 2 * c + e ≤ 3 * B → cv X S a b D q [.ref 49, .int (nI w)] sc ar lo ex (fun sc' ar' => Iv S sc' ar' ∧ Fr [4934, 4935, 4937, 4938, 4939, 4940, 4941, 4942] [71] sc ar sc' ar' ∧ (∀ x, x < 700 * l + c → ar' 71 x = ar 71 x) ∧ Rd sc' ar' l c B e h)
theorem nm_ok {n : Nat} (h : n < 8) : ¬ nI (20 + n) = 0 ∧ (20 : Int32) ≤ nI (20 + n) := by
  rcases (show n = 0 ∨ n = 1 ∨ n = 2 ∨ n = 3 ∨ n = 4 ∨ n = 5 ∨ n = 6 ∨ n = 7 by omega) with rfl | rfl | rfl | rfl | rfl | rfl | rfl | rfl <;> decide
theorem kp_st {L A : List Nat} {sc sc' : Nat → Int32} {ar ar' : Nat → Nat → Int32} {k : Nat} {C : Nat → Int32} (h : ∀ x, x < k → ar 71 x = C x) (f : Fr L A sc ar sc' ar') (hA : 71 ∉ A) : ∀ x, x < k → ar' 71 x = C x := fun x w => (congrFun (f.2 71 hA) x).trans (h x w)
theorem sg_st {L A : List Nat} {sc sc' : Nat → Int32} {ar ar' : Nat → Nat → Int32} {i j h : Nat} (s : seg (ar 71) i j h) (f : Fr L A sc ar sc' ar') (hA : 71 ∉ A) : seg (ar' 71) i j h := f.2 71 hA ▸ s
/-! what the reference sees of a token, and the token itself -/
theorem dg_nat {c : Int32} (h : idg c) : ∃ m : Nat, 48 ≤ m ∧ m ≤ 57 ∧ c = nI m := by
  obtain ⟨h1, h2⟩ := h
  obtain ⟨m, hm, rfl⟩ := nI_of (Int32.not_lt.mpr (Int32.le_trans (show (0 : Int32) ≤ 48 by decide) h1))
  exact ⟨m, (nI_leI (a := 48) (by omega) hm).mp h1, (nI_leI (b := 57) hm (by omega)).mp h2, rfl⟩
theorem nv_nat {T : Nat → Int32} {p : Nat} : ∀ k, k ≤ 5 → (∀ t, p ≤ t → t < p + k → idg (T t)) → ∃ v : Nat, v < 10 ^ k ∧ nv_ T p k = nI v
  | 0, _, _ => ⟨0, by decide, rfl⟩
  | k + 1, hk, h => by
    obtain ⟨v, hv, e⟩ := nv_nat k (by omega) (fun t a b => h t a (by omega))
    obtain ⟨m, h1, h2, em⟩ := dg_nat (h (p + k) (by omega) (by omega))
    refine ⟨10 * v + m - 48, ?_, ?_⟩
    · rw [Nat.pow_succ]
      omega
    · rw [nv_, e, em, show (10 : Int32) = nI 10 from rfl, show (48 : Int32) = nI 48 from rfl, show nI 10 * nI v = nI (10 * v) from (Int32.ofNat_mul 10 v).symm, nI_add, nI_subN (by omega)]
theorem wc_rng {T : Nat → Int32} {p e : Nat} {c : Int32} (h : Wc T p e c) : c ≤ -12 ∧ -27 ≤ c := by
  rcases h.2 with rfl | ⟨x, hx, rfl⟩
  · decide
  · exact (show ∀ x, x ∈ wcd → x.2 ≤ -12 ∧ -27 ≤ x.2 by decide +kernel) x hx
def sgl : List (Int32 × Int32) := [(40, -4), (41, -5), (59, -6), (43, -7), (45, -8), (42, -9), (60, -10), (61, -11)]
theorem sg_hit : ∀ x, x ∈ sgl → sgc x.1 = x.2 := by decide +kernel
theorem sg_cases (c : Int32) : (∃ x, x ∈ sgl ∧ c = x.1) ∨ (sgc c = -2 ∧ ∀ x, x ∈ sgl → ¬ c = x.1) := by
  by_cases h : ∃ x, x ∈ sgl ∧ c = x.1
  · exact Or.inl h
  · refine Or.inr ⟨?_, fun x hx e => h ⟨x, hx, e⟩⟩
    have n : ∀ x, x ∈ sgl → ¬ c = x.1 := fun x hx e => h ⟨x, hx, e⟩
    have a1 := n (40, -4) (by decide)
    have a2 := n (41, -5) (by decide)
    have a3 := n (59, -6) (by decide)
    have a4 := n (43, -7) (by decide)
    have a5 := n (45, -8) (by decide)
    have a6 := n (42, -9) (by decide)
    have a7 := n (60, -10) (by decide)
    have a8 := n (61, -11) (by decide)
    simp only at a1 a2 a3 a4 a5 a6 a7 a8
    simp only [sgc, if_neg a1, if_neg a2, if_neg a3, if_neg a4, if_neg a5, if_neg a6, if_neg a7, if_neg a8]
theorem sg_rng (c : Int32) : sgc c ≤ -2 ∧ -11 ≤ sgc c := by
  rcases sg_cases c with ⟨x, hx, rfl⟩ | ⟨h, _⟩
  · rw [sg_hit x hx]
    exact (show ∀ x, x ∈ sgl → x.2 ≤ -2 ∧ -11 ≤ x.2 by decide +kernel) x hx
  · rw [h]
    decide
theorem sg_inj {c : Int32} {x : Int32 × Int32} (hx : x ∈ sgl) (h : sgc c = x.2) : c = x.1 := by
  rcases sg_cases c with ⟨y, hy, rfl⟩ | ⟨g, _⟩
  · rw [sg_hit y hy] at h
    exact (show ∀ y, y ∈ sgl → ∀ x, x ∈ sgl → y.2 = x.2 → y.1 = x.1 by decide +kernel) y hy x hx h
  · rw [g] at h
    exact absurd h ((show ∀ x, x ∈ sgl → ¬ (-2 : Int32) = x.2 by decide +kernel) x hx)
def en_ (g : Nat → Nat) (sz n k : Nat) : Nat := if k + 1 < sz then g (k + 1) else n
/-- the reference looks at token k -/
def Rs (T tk : Nat → Int32) (pl g : Nat → Nat) (sz n k : Nat) (sc : Nat → Int32) : Prop := k < sz ∧ sc 4936 = nI n ∧ sc 4939 = nI (pl k) ∧ sc 4935 = nI (en_ g sz n k) ∧ sc 4940 = nI (en_ g sz n k) ∧ Tq T n (pl k) (en_ g sz n k) sc
section SEEN
variable {T tk : Nat → Int32} {pl g : Nat → Nat} {sz n k : Nat} {sc sc' : Nat → Int32}
theorem tq_fr {r B q : Nat} (h : Tq T r B q sc) (e1 : sc' 4937 = sc 4937) (e2 : sc' 4938 = sc 4938) : Tq T r B q sc' := by
  unfold Tq
  rw [e1, e2]
  exact h
theorem rs_fr {L A : List Nat} {ar ar' : Nat → Nat → Int32} (h : Rs T tk pl g sz n k sc) (f : Fr L A sc ar sc' ar') (hL : 4936 ∉ L ∧ 4939 ∉ L ∧ 4935 ∉ L ∧ 4940 ∉ L ∧ 4937 ∉ L ∧ 4938 ∉ L) : Rs T tk pl g sz n k sc' := by
  obtain ⟨h1, h2, h3, h4, h5, h6⟩ := h
  exact ⟨h1, (f.1 _ hL.1).trans h2, (f.1 _ hL.2.1).trans h3, (f.1 _ hL.2.2.1).trans h4, (f.1 _ hL.2.2.2.1).trans h5, tq_fr h6 (f.1 _ hL.2.2.2.2.1) (f.1 _ hL.2.2.2.2.2)⟩
theorem tq_end {p q e : Nat} {c : Int32} (h : TokAt T n p c e) (hp : p < n) (t : Tq T n p q sc) : q = e := by
  rcases h with ⟨a1, a2, _⟩ | ⟨a0, a1, a2, _⟩ | ⟨a0, a1, a2, _⟩
  · rcases t with ⟨_, b, _⟩ | ⟨_, _, _, b⟩ | ⟨_, _, b, _⟩ | ⟨_, _, b, _⟩ | ⟨_, _, b, _⟩
    · omega
    · exact rn_eq b a2
    · exact absurd a1 b
    · exact absurd a1 b
    · exact absurd a1 b
  · rcases t with ⟨_, b, _⟩ | ⟨_, _, b, _⟩ | ⟨_, _, _, _, b⟩ | ⟨_, _, _, b, _⟩ | ⟨_, _, _, b, _⟩
    · omega
    · exact absurd b a0
    · exact rn_eq b a2
    · exact absurd a1 b
    · exact absurd a1 b
  · rcases t with ⟨_, b, _⟩ | ⟨_, _, b, _⟩ | ⟨_, _, _, b, _⟩ | ⟨_, _, _, _, b, _⟩ | ⟨_, _, _, _, b, _⟩
    · omega
    · exact absurd b a0
    · exact absurd b a1
    · omega
    · omega
theorem rs_at {B q : Nat} (hm : Sm T n tk pl g sz) (hk : k < sz) (rn : rn_ isp T n (g k) B) (t : Tq T n B q sc) (e1 : sc 4936 = nI n) (e2 : sc 4939 = nI B) (e3 : sc 4935 = nI q) (e4 : sc 4940 = nI q) : Rs T tk pl g sz n k sc := by
  obtain ⟨m1, m2, m3, m4, m5, m6, m7⟩ := hm
  by_cases u : k + 1 < sz
  · obtain ⟨a1, a2, a3⟩ := m4 k u
    obtain rfl : B = pl k := rn_eq rn a2
    obtain rfl : q = g (k + 1) := tq_end a3 a1 t
    have e : en_ g sz n k = g (k + 1) := if_pos u
    refine ⟨hk, e1, e2, ?_, ?_, ?_⟩ <;> rw [e] <;> assumption
  · obtain rfl : k = sz - 1 := by omega
    obtain rfl : B = n := rn_eq rn m6
    have e : en_ g sz B (sz - 1) = B := if_neg u
    have hq : q = B := by
      rcases t with ⟨_, _, b⟩ | ⟨_, b, _⟩ | ⟨_, b, _⟩ | ⟨_, b, _⟩ | ⟨_, b, _⟩
      · exact b
      · omega
      · omega
      · omega
      · omega
    subst hq
    refine ⟨hk, e1, ?_, ?_, ?_, ?_⟩
    · rw [m5]
      exact e2
    · rw [e]
      exact e3
    · rw [e]
      exact e4
    · rw [e, m5]
      exact t
/-- the five kinds of token, on both sides -/
theorem rs_kind (hm : Sm T n tk pl g sz) (hr : Rs T tk pl g sz n k sc) : (sc 4937 = 0 ∧ k + 1 = sz ∧ tk k = -1) ∨ (k + 1 < sz ∧ ((sc 4937 = 1 ∧ Wc T (pl k) (en_ g sz n k) (tk k)) ∨ (sc 4937 = 2 ∧ ((5 < en_ g sz n k - pl k ∧ tk k = -3) ∨ (en_ g sz n k - pl k ≤ 5 ∧ ∃ v : Nat, v < 100000 ∧ tk k = nI v))) ∨ (sc 4937 = 3 ∧ sc 4938 = T (pl k) ∧ tk k = sgc (T (pl k)) ∧ ¬ sgc (T (pl k)) = -2) ∨ (sc 4937 = 4 ∧ tk k = -2))) := by
  obtain ⟨m1, m2, m3, m4, m5, m6, m7⟩ := hm
  obtain ⟨h1, h2, h3, h4, h5, t⟩ := hr
  by_cases u : k + 1 < sz
  · refine Or.inr ⟨u, ?_⟩
    obtain ⟨a1, a2, a3⟩ := m4 k u
    have e : en_ g sz n k = g (k + 1) := if_pos u
    rw [e] at t ⊢
    rcases a3 with ⟨b1, b2, b3⟩ | ⟨b0, b1, b2, b3⟩ | ⟨b0, b1, b2, b3⟩
    · rcases t with ⟨_, c, _⟩ | ⟨c, _⟩ | ⟨_, _, c, _⟩ | ⟨_, _, c, _⟩ | ⟨_, _, c, _⟩
      · omega
      · exact Or.inl ⟨c, b3⟩
      · exact absurd b1 c
      · exact absurd b1 c
      · exact absurd b1 c
    · have w : (5 < g (k + 1) - pl k ∧ tk k = -3) ∨ (g (k + 1) - pl k ≤ 5 ∧ ∃ v : Nat, v < 100000 ∧ tk k = nI v) := by
        rcases b3 with b3 | ⟨b3, b4⟩
        · exact Or.inl b3
        · have l := b2.1
          obtain ⟨v, hv, ev⟩ := nv_nat (T := T) (p := pl k) (g (k + 1) - pl k) b3 (fun t x y => b2.2.2.1 t x (by omega))
          have hv5 : 10 ^ (g (k + 1) - pl k) ≤ 10 ^ 5 := Nat.pow_le_pow_right (by decide) b3
          exact Or.inr ⟨b3, v, by omega, b4.trans ev⟩
      rcases t with ⟨_, c, _⟩ | ⟨_, _, c, _⟩ | ⟨c, _⟩ | ⟨_, _, _, c, _⟩ | ⟨_, _, _, c, _⟩
      · omega
      · exact absurd c b0
      · exact Or.inr (Or.inl ⟨c, w⟩)
      · exact absurd b1 c
      · exact absurd b1 c
    · rcases t with ⟨_, c, _⟩ | ⟨_, _, c, _⟩ | ⟨_, _, _, c, _⟩ | ⟨c, _, _, _, _, c2, c3⟩ | ⟨c, _, _, _, _, c2⟩
      · omega
      · exact absurd c b0
      · exact absurd c b1
      · exact Or.inr (Or.inr (Or.inl ⟨c, c2, b3, c3⟩))
      · exact Or.inr (Or.inr (Or.inr ⟨c, b3.trans c2⟩))
  · obtain rfl : k = sz - 1 := by omega
    refine Or.inl ⟨?_, by omega, m7⟩
    rw [m5] at t
    rcases t with ⟨c, _⟩ | ⟨_, c, _⟩ | ⟨_, c, _⟩ | ⟨_, c, _⟩ | ⟨_, c, _⟩
    · exact c
    · omega
    · omega
    · omega
    · omega
theorem nI_gt {v : Nat} {c : Int32} (hv : v < 100000) (hc : c < 0) : ¬ nI v = c := nI_neg (by omega) hc
theorem ob_w {x : Nat × Int32} {i : Nat} (hm : Sm T n tk pl g sz) (hr : Rs T tk pl g sz n k sc) (hx : x ∈ wcd) (hi : ai_tx i = ai_tx x.1) : (sc 4937 = 1 ∧ wd_ T (pl k) (en_ g sz n k) i) ↔ tk k = x.2 := by
  have hw : wd_ T (pl k) (en_ g sz n k) i ↔ wd_ T (pl k) (en_ g sz n k) x.1 := by
    unfold wd_
    rw [hi]
  have r : x.2 ≤ -12 := (show ∀ x, x ∈ wcd → x.2 ≤ -12 by decide +kernel) x hx
  have r0 : x.2 < 0 := Int32.lt_of_le_of_lt r (by decide)
  rw [hw]
  rcases rs_kind hm hr with ⟨a1, _, a3⟩ | ⟨_, ⟨a1, a2⟩ | ⟨a1, a2⟩ | ⟨a1, _, a3, _⟩ | ⟨a1, a2⟩⟩
  · rw [a1, a3]
    exact ⟨fun w => absurd w.1 (by decide), fun w => absurd (w ▸ r) (by decide)⟩
  · rw [a1]
    exact ⟨fun w => (a2.1 x hx).mp w.2, fun w => ⟨rfl, (a2.1 x hx).mpr w⟩⟩
  · rw [a1]
    refine ⟨fun w => absurd w.1 (by decide), fun w => ?_⟩
    rcases a2 with ⟨_, b⟩ | ⟨_, v, hv, b⟩
    · exact absurd ((b.symm.trans w) ▸ r) (by decide)
    · exact absurd (b.symm.trans w) (nI_gt hv r0)
  · rw [a1]
    refine ⟨fun w => absurd w.1 (by decide), fun w => ?_⟩
    have u := (sg_rng (T (pl k))).2
    rw [← a3, w] at u
    exact absurd (Int32.le_trans u r) (by decide)
  · rw [a1]
    exact ⟨fun w => absurd w.1 (by decide), fun w => absurd ((a2.symm.trans w) ▸ r) (by decide)⟩
theorem ob_s {x : Int32 × Int32} (hm : Sm T n tk pl g sz) (hr : Rs T tk pl g sz n k sc) (hx : x ∈ sgl) : (sc 4937 = 3 ∧ sc 4938 = x.1) ↔ tk k = x.2 := by
  have r : x.2 ≤ -4 ∧ -11 ≤ x.2 := (show ∀ x, x ∈ sgl → x.2 ≤ -4 ∧ -11 ≤ x.2 by decide +kernel) x hx
  have r0 : x.2 < 0 := Int32.lt_of_le_of_lt r.1 (by decide)
  rcases rs_kind hm hr with ⟨a1, _, a3⟩ | ⟨_, ⟨a1, a2⟩ | ⟨a1, a2⟩ | ⟨a1, a2, a3, _⟩ | ⟨a1, a2⟩⟩
  · rw [a1, a3]
    exact ⟨fun w => absurd w.1 (by decide), fun w => absurd (w ▸ r.1) (by decide)⟩
  · rw [a1]
    refine ⟨fun w => absurd w.1 (by decide), fun w => ?_⟩
    have u := (wc_rng a2).1
    rw [w] at u
    exact absurd (Int32.le_trans r.2 u) (by decide)
  · rw [a1]
    refine ⟨fun w => absurd w.1 (by decide), fun w => ?_⟩
    rcases a2 with ⟨_, b⟩ | ⟨_, v, hv, b⟩
    · exact absurd ((b.symm.trans w) ▸ r.1) (by decide)
    · exact absurd (b.symm.trans w) (nI_gt hv r0)
  · rw [a1, a2, a3]
    exact ⟨fun w => by rw [w.2]; exact sg_hit x hx, fun w => ⟨rfl, sg_inj hx w⟩⟩
  · rw [a1]
    exact ⟨fun w => absurd w.1 (by decide), fun w => absurd ((a2.symm.trans w) ▸ r.1) (by decide)⟩
theorem ob_0 (hm : Sm T n tk pl g sz) (hr : Rs T tk pl g sz n k sc) : sc 4937 = 0 ↔ tk k = -1 := by
  rcases rs_kind hm hr with ⟨a1, _, a3⟩ | ⟨_, ⟨a1, a2⟩ | ⟨a1, a2⟩ | ⟨a1, a2, a3, _⟩ | ⟨a1, a2⟩⟩
  · exact ⟨fun _ => a3, fun _ => a1⟩
  · rw [a1]
    refine ⟨fun w => absurd w (by decide), fun w => ?_⟩
    have u := (wc_rng a2).1
    rw [w] at u
    exact absurd u (by decide)
  · rw [a1]
    refine ⟨fun w => absurd w (by decide), fun w => ?_⟩
    rcases a2 with ⟨_, b⟩ | ⟨_, v, hv, b⟩
    · exact absurd (b.symm.trans w) (by decide)
    · exact absurd (b.symm.trans w) (nI_gt hv (by decide))
  · rw [a1]
    refine ⟨fun w => absurd w (by decide), fun w => ?_⟩
    have u := (sg_rng (T (pl k))).1
    rw [← a3, w] at u
    exact absurd u (by decide)
  · rw [a1, a2]
    exact ⟨fun w => absurd w (by decide), fun w => absurd w (by decide)⟩
theorem ob_up (hm : Sm T n tk pl g sz) (hr : Rs T tk pl g sz n k sc) (h : ¬ sc 4937 = 0) : ad_ sz k = k + 1 ∧ k + 1 < sz := by
  rcases rs_kind hm hr with ⟨a1, _, _⟩ | ⟨u, _⟩
  · exact absurd a1 h
  · exact ⟨if_pos u, u⟩
theorem ob_no {c : Int32} (hm : Sm T n tk pl g sz) (hr : Rs T tk pl g sz n k sc) (h : tk k = c) (hc : ¬ c = -1) : ¬ sc 4937 = 0 := fun w => hc (h.symm.trans ((ob_0 hm hr).mp w))
theorem ob_2 (hm : Sm T n tk pl g sz) (hr : Rs T tk pl g sz n k sc) (h : sc 4937 = 2) : (5 < en_ g sz n k - pl k ∧ tk k = -3) ∨ (en_ g sz n k - pl k ≤ 5 ∧ 0 ≤ tk k) := by
  rcases rs_kind hm hr with ⟨a1, _, a3⟩ | ⟨_, ⟨a1, a2⟩ | ⟨a1, a2⟩ | ⟨a1, a2, a3, _⟩ | ⟨a1, a2⟩⟩
  · exact absurd (a1.symm.trans h) (by decide)
  · exact absurd (a1.symm.trans h) (by decide)
  · rcases a2 with b | ⟨b, v, hv, e⟩
    · exact Or.inl b
    · exact Or.inr ⟨b, by rw [e]; exact nI_pos' (by omega)⟩
  · exact absurd (a1.symm.trans h) (by decide)
  · exact absurd (a1.symm.trans h) (by decide)
theorem ob_1 (hm : Sm T n tk pl g sz) (hr : Rs T tk pl g sz n k sc) (h : sc 4937 = 1) : Wc T (pl k) (en_ g sz n k) (tk k) := by
  rcases rs_kind hm hr with ⟨a1, _, a3⟩ | ⟨_, ⟨a1, a2⟩ | ⟨a1, a2⟩ | ⟨a1, a2, a3, _⟩ | ⟨a1, a2⟩⟩
  · exact absurd (a1.symm.trans h) (by decide)
  · exact a2
  · exact absurd (a1.symm.trans h) (by decide)
  · exact absurd (a1.symm.trans h) (by decide)
  · exact absurd (a1.symm.trans h) (by decide)
/-- neither word nor number: no part, unless it is '(' -/
theorem ob_x (hm : Sm T n tk pl g sz) (hr : Rs T tk pl g sz n k sc) (h1 : ¬ sc 4937 = 1) (h2 : ¬ sc 4937 = 2) : tk k < 0 ∧ -12 < tk k := by
  rcases rs_kind hm hr with ⟨a1, _, a3⟩ | ⟨_, ⟨a1, a2⟩ | ⟨a1, a2⟩ | ⟨a1, a2, a3, _⟩ | ⟨a1, a2⟩⟩
  · rw [a3]
    decide
  · exact absurd a1 h1
  · exact absurd a1 h2
  · rw [a3]
    exact ⟨Int32.lt_of_le_of_lt (sg_rng _).1 (by decide), Int32.lt_of_lt_of_le (by decide) (sg_rng _).2⟩
  · rw [a2]
    decide
theorem nn_x {c : Int32} (h : c < 0 ∧ -12 < c) : ¬ (0 ≤ c ∨ (c ≤ -20 ∧ -27 ≤ c)) := fun w => w.elim (fun u => Int32.not_lt.mpr u h.1) (fun u => Int32.not_lt.mpr (Int32.le_trans u.1 (by decide)) h.2)
theorem nn_3 : ¬ (0 ≤ (-3 : Int32) ∨ ((-3 : Int32) ≤ -20 ∧ -27 ≤ (-3 : Int32))) := by decide
/-- a word that is no name -/
theorem nn_w {e : Nat} {c : Int32} {p : Nat} (h : Wc T p e c) (hn : ∀ x, x ∈ wcd.drop 5 → ¬ c = x.2) : ¬ (0 ≤ c ∨ (c ≤ -20 ∧ -27 ≤ c)) := by
  rcases h.2 with rfl | ⟨x, hx, rfl⟩
  · decide
  · rcases wc_cut x hx with u | u
    · exact (show ∀ x, x ∈ wcd.take 5 → ¬ (0 ≤ x.2 ∨ (x.2 ≤ -20 ∧ -27 ≤ x.2)) by decide +kernel) x u
    · exact absurd rfl (hn x u)
theorem rs_le (hm : Sm T n tk pl g sz) (hr : Rs T tk pl g sz n k sc) (hn : n ≤ 400) : pl k ≤ en_ g sz n k ∧ en_ g sz n k ≤ 400 := by
  obtain ⟨m1, m2, m3, m4, m5, m6, m7⟩ := hm
  have h1 := hr.1
  by_cases u : k + 1 < sz
  · obtain ⟨a1, a2, a3⟩ := m4 k u
    have e : en_ g sz n k = g (k + 1) := if_pos u
    have := ta_lt a3 a1
    omega
  · have e : en_ g sz n k = n := if_neg u
    obtain rfl : k = sz - 1 := by omega
    omega
end SEEN
def Rx (T tk : Nat → Int32) (pl g : Nat → Nat) (sz n : Nat) (R : Nat ⊕ Nat) (sc : Nat → Int32) : Prop := (sc 4941 = 0 ∧ ∃ k, R = .inl k ∧ Rs T tk pl g sz n k sc) ∨ (¬ sc 4941 = 0 ∧ ∃ k, R = .inr k ∧ sc 4942 = nI (pl k))
def RxOk (X : Nat × (Nat → Int32)) (S a b : Nat) (lo : Nat → Int64) (ex : Bool) (T tk : Nat → Int32) (pl g : Nat → Nat) (sz n D q w h : Nat) (F : Nat → Nat ⊕ Nat) (V : Nat → zVal) : Prop := ∀ (sc : Nat → Int32) (ar : Nat → Nat → Int32) (l c e B j : Nat), Iv S sc ar → l < 6 → sc 4907 = nI l → sc 4934 = nI c → sc 4939 = nI B → B ≤ 400 → sc 4941 = 0 → Pz sc → 2 * c + e ≤ 3 * B → ar 67 = T → Rs T tk pl g sz n j sc → cv X S a b D q [.ref 49, .int (nI w)] sc ar lo ex (fun sc' ar' => Iv S sc' ar' ∧ Fr [4934, 4935, 4937, 4938, 4939, 4940, 4941, 4942] [71] sc ar sc' ar' ∧ (∀ x, x < 700 * l + c → ar' 71 x = ar 71 x) ∧ Rd sc' ar' l c B e h ∧ Rx T tk pl g sz n (F j) sc' ∧ (sc' 4941 = 0 → ∀ c' : Nat, c' ≤ 700 → sc' 4934 = nI c' → sgr (ar' 71) (700 * l + c) (700 * l + c') (V j)))
theorem st_nextx {X : Nat × (Nat → Int32)} {S a b : Nat} {sc : Nat → Int32} {ar : Nat → Nat → Int32} {lo : Nat → Int64} {ex : Bool} {T tk : Nat → Int32} {pl g : Nat → Nat} {sz n : Nat} {k : Nat} (hW : Wd S a b) (hI : Iv S sc ar) {B : Nat} (hB : sc 4939 = nI B) (hB4 : B ≤ 400) (hz : Pz sc) (ht : ¬ sc 4937 = 0) (hsm : Sm T n tk pl g sz) (hn : n ≤ 400) (hne : ∀ t, t < n → ¬ T t = -1) (hT : ar 67 = T) (hr : Rs T tk pl g sz n k sc) (d : Nat) : cv X S a b (d + 2) 122 [.ref 49] sc ar lo ex (fun sc' ar' => Iv S sc' ar' ∧ Fr [4935, 4937, 4938, 4939, 4940] [] sc ar sc' ar' ∧ Pz sc' ∧ (∃ B' : Nat, sc' 4939 = nI B' ∧ B + 1 ≤ B' ∧ B' ≤ 400) ∧ Rs T tk pl g sz n (ad_ sz k) sc') := by
  obtain ⟨B0, q, r, e1, e2, e3, e4, g1, g2, g3, g4⟩ := hz
  obtain rfl : B = B0 := (nI_eq (by omega) (by omega)).mp (hB.symm.trans e1)
  have hlt := g4 ht
  obtain ⟨u1, u2⟩ := ob_up hsm hr ht
  obtain rfl : r = n := (nI_eq (by omega) (by omega)).mp (e4.symm.trans hr.2.1)
  have hle := rs_le hsm hr hn
  have hq : q = g (k + 1) := by
    have w := (nI_eq (by omega) (by omega)).mp (e2.symm.trans hr.2.2.2.1)
    rw [w]
    exact if_pos u2
  obtain ⟨sc', ar', ⟨k1, k2, B', q', v1, v2, v3, v4, v5, v6, v7, v8, v9⟩, e⟩ := sf_X10_step (X := X) (lo := lo) (ex := ex) hW hI q r (by omega) (by omega) e2 e4 (fun t ht => by rw [hT]; exact hne t ht) d
  rw [hT] at v8 v9
  rw [hq] at v8
  have e4' := (k2.1 4936 (by decide)).trans e4
  rw [u1]
  exact ⟨sc', ar', ⟨k1, k2, ⟨B', q', r, v1, v2, v3, e4', v5, v6, g3, v7⟩, ⟨B', v1, by omega, by omega⟩, rs_at hsm u2 v8 v9 e4' v1 v2 v3⟩, e⟩
theorem nm_8 {c : Int32} (a0 : ¬ c = -20) (a1 : ¬ c = -21) (a2 : ¬ c = -22) (a3 : ¬ c = -23) (a4 : ¬ c = -24) (a5 : ¬ c = -25) (a6 : ¬ c = -26) (a7 : ¬ c = -27) : ∀ x, x ∈ wcd.drop 5 → ¬ c = x.2 := by
  intro x hx
  simp only [wcd, List.drop, List.mem_cons, List.not_mem_nil, or_false] at hx
  rcases hx with rfl | rfl | rfl | rfl | rfl | rfl | rfl | rfl <;> assumption
theorem pe_no {tk : Nat → Int32} {sz j : Nat} {E : Nat → Nat ⊕ Nat} (h1 : ¬ tk j = -4) (h : tk j < 0 ∧ -12 < tk j) : pE1 tk sz E j = .inr j := by
  have h16 : ¬ tk j = -16 := fun w => absurd (w ▸ h.2) (by decide)
  simp only [pE1, pTs, if_neg h16, pT2, pSm, pPt, if_neg h1, if_neg (nn_x h)]
theorem p4_0 {c : Int32} (h : 0 ≤ c) : ¬ c = -4 := fun w => absurd (w ▸ h) (by decide)
theorem nm_s {n : Nat} (h : n < 8) : nI (20 + n) - 20 = nI n := by
  rcases (show n = 0 ∨ n = 1 ∨ n = 2 ∨ n = 3 ∨ n = 4 ∨ n = 5 ∨ n = 6 ∨ n = 7 by omega) with rfl | rfl | rfl | rfl | rfl | rfl | rfl | rfl <;> decide
theorem vPt_nm {tk : Nat → Int32} {sz j n : Nat} {E : Nat → zVal} (h : n < 8) (e : tk j = -20 - nI n) : vPt tk sz E j = fun kn => kn n := by
  unfold vPt
  rw [e]
  rcases (show n = 0 ∨ n = 1 ∨ n = 2 ∨ n = 3 ∨ n = 4 ∨ n = 5 ∨ n = 6 ∨ n = 7 by omega) with rfl | rfl | rfl | rfl | rfl | rfl | rfl | rfl <;> (rw [if_neg (by decide), if_neg (by decide)]; rfl)
theorem vPt_nu {tk : Nat → Int32} {sz j : Nat} {E : Nat → zVal} {y : Int32} (h : 0 ≤ tk j) (e : y = tk j) : vPt tk sz E j = fun _ => y := by
  unfold vPt
  rw [if_neg (fun w => absurd (w ▸ h) (by decide)), if_pos h, e]
theorem nm_at {m k : Nat} {c : Int32} (hm : m < 8) (hk : k < 8) (e : nI k = nI m) (h : c = -20 - nI k) : c = -20 - nI m := by
  obtain rfl : k = m := (nI_eq (by omega) (by omega)).mp e
  exact h
theorem z7_1 {c : Int32} (h : c = -7) : ∀ x y, ztw 1 x y = zjo c x y := fun x y => by
  rw [h]
  rfl
theorem z7_2 {c : Int32} (h : c = -8) : ∀ x y, ztw 2 x y = zjo c x y := fun x y => by
  rw [h]
  rfl
theorem z7_3 {c : Int32} (h : c ∈ ([-7, -8, -9] : List Int32)) (h1 : ¬ c = -7) (h2 : ¬ c = -8) : ∀ x y, ztw 3 x y = zjo c x y := fun x y => by
  simp only [List.mem_cons, List.not_mem_nil, or_false] at h
  rw [(h.resolve_left h1).resolve_left h2]
  rfl
theorem z7_4 {c : Int32} (h : c = -10) : ∀ x y, ztw 4 x y = zjo c x y := fun x y => by
  rw [h]
  rfl
theorem z7_5 {c : Int32} (h : c = -10 ∨ c = -11) (h1 : ¬ c = -10) : ∀ x y, ztw 5 x y = zjo c x y := fun x y => by
  rw [h.resolve_left h1]
  rfl
theorem z7_6 {c : Int32} (h : c = -14) : ∀ x y, ztw 6 x y = zjo c x y := fun x y => by
  rw [h]
  rfl
theorem z7_7 {c : Int32} (h : c ∈ ([-14, -15] : List Int32)) (h1 : ¬ c = -14) : ∀ x y, ztw 7 x y = zjo c x y := fun x y => by
  simp only [List.mem_cons, List.not_mem_nil, or_false] at h
  rw [h.resolve_left h1]
  rfl
/-- a number's worth is the token -/
theorem ob_nv {T tk : Nat → Int32} {pl g : Nat → Nat} {sz n : Nat} {k : Nat} {sc : Nat → Int32} (hm : Sm T n tk pl g sz) (hr : Rs T tk pl g sz n k sc) (h2 : sc 4937 = 2) (h5 : en_ g sz n k - pl k ≤ 5) : nv_ T (pl k) (en_ g sz n k - pl k) = tk k := by
  obtain ⟨m1, m2, m3, m4, m5, m6, m7⟩ := hm
  obtain ⟨h1, -, h3, h4, h6, t⟩ := hr
  by_cases u : k + 1 < sz
  · obtain ⟨a1, a2, a3⟩ := m4 k u
    have e : en_ g sz n k = g (k + 1) := if_pos u
    rw [e] at t h5 ⊢
    rcases t with ⟨c, _⟩ | ⟨c, _⟩ | ⟨_, _, b0, b1, b2⟩ | ⟨c, _⟩ | ⟨c, _⟩
    · rw [h2] at c
      cases c
    · rw [h2] at c
      cases c
    · rcases a3 with ⟨c, _⟩ | ⟨_, _, _, c⟩ | ⟨_, c, _⟩
      · exact absurd c b0
      · rcases c with ⟨c, _⟩ | ⟨_, c⟩
        · omega
        · exact c.symm
      · exact absurd b1 c
    · rw [h2] at c
      cases c
    · rw [h2] at c
      cases c
  · exfalso
    rw [show k = sz - 1 by omega, m5] at t
    rcases t with ⟨c, _⟩ | ⟨_, c, _⟩ | ⟨_, c, _⟩ | ⟨_, c, _⟩ | ⟨_, c, _⟩
    · rw [h2] at c
      cases c
    · omega
    · omega
    · omega
    · omega
theorem nv_s {T : Nat → Int32} {p i : Nat} {y : Int32} (h : y = nv_ T p (i - p)) (hi : p ≤ i) : 10 * y + T i - 48 = nv_ T p (i + 1 - p) := by
  rw [show i + 1 - p = (i - p) + 1 by omega, nv_, show p + (i - p) = i by omega, h]
theorem p4_w {c : Int32} (h : c ≤ -12) : ¬ c = -4 := fun w => absurd (w ▸ h) (by decide)
set_option maxRecDepth 20000 in
theorem iw_X10_isWord {X : Nat × (Nat → Int32)} {S a b : Nat} {sc : Nat → Int32} {ar : Nat → Nat → Int32} {lo : Nat → Int64} {ex : Bool} (hW : Wd S a b) (hI : Iv S sc ar) (i : Nat) (hi : i < 35) (B q : Nat) (hBq : B ≤ q ∧ q ≤ 400) (eB : sc 4939 = nI B) (eq : sc 4940 = nI q) (d : Nat)  : cp X S a b (d + 1) 123 [.ref 49, .ref (1000001 + i)] sc ar lo ex (fun x => rl x 2 ∧ ((x = 1 ∧ (sc 4937 = 1 ∧ wd_ (ar 67) B q i)) ∨ (x = 0 ∧ ¬ (sc 4937 = 1 ∧ wd_ (ar 67) B q i)))) := by
  obtain ⟨ha1, ha8, hb1, hb8, hab, hS1, hS⟩ := id hW
  have hlen := vs_txl i hi
  refine cp_of (M := an_X10_isWord) rfl (Nat.le_of_ble_eq_true rfl) ?_
  refine to_eq (fr' := (0, [(0, .ref 49), (1, .ref (1000001 + i))], [], gh S a b sc ar lo, ex, 0, 0)) rfl ?_
  have c32 : ∀ m : Nat, ∀ (n : Nat) (j : Nat) , (ai_tx i).length ≤ j + m → n < 2 → n = 0 ∨ B + (ai_tx i).length ≤ 400 → (n = 1 → (sc 4937 = 1 ∧ B + (ai_tx i).length = q ∧ ∀ t, t < j → ar 67 (B + t) = (ai_tx i).getD t 0)) → (n = 0 → ¬ (sc 4937 = 1 ∧ wd_ (ar 67) B q i)) → j ≤ (ai_tx i).length → ag_To X d an_X10_isWord (32, [(0, .ref 49), (1, .ref (1000001 + i)), (2, .int (nI n)), (3, .int (nI j))], [], gh S a b sc ar lo, ex, 0, 0) (qp S a b sc ar lo ex (fun x => rl x 2 ∧ ((x = 1 ∧ (sc 4937 = 1 ∧ wd_ (ar 67) B q i)) ∨ (x = 0 ∧ ¬ (sc 4937 = 1 ∧ wd_ (ar 67) B q i))))) := by
    intro m
    induction m with
    | zero =>
      intro n j hm hc32_0 hc32_1 hc32_2 hc32_3 hc32_4
      refine to_n 1 (fr' := (33, [(0, .ref 49), (1, .ref (1000001 + i)), (2, .int (nI n)), (3, .int (nI j))], [.int (nI n)], gh S a b sc ar lo, ex, 0, 0)) rfl ?_
      refine to_nf_eq (t := 75) (x := n) rfl (by omega) (fun q2 => ?_) (fun q2 => ?_)
      · refine to_n 1 (fr' := (76, [(0, .ref 49), (1, .ref (1000001 + i)), (2, .int (nI n)), (3, .int (nI j))], [.int (nI n)], gh S a b sc ar lo, ex, 0, 0)) rfl ?_
        exact to_rt (i := .ireturn) (tg := []) rfl (ai_rtz (rl_n (n := n) (by omega))) ⟨_, ⟨rl_n (n := n) (by omega), (Or.inr ⟨by rw [q2]; rfl, hc32_3 q2⟩)⟩, rfl⟩
      · refine to_n 2 (fr' := (38, [(0, .ref 49), (1, .ref (1000001 + i)), (2, .int (nI n)), (3, .int (nI j))], [.ref (1000001 + i), .int (nI j)], gh S a b sc ar lo, ex, 0, 0)) rfl ?_
        refine to_slen (i := i) rfl rfl (by omega) (Nat.le_of_ble_eq_true rfl) ?_
        refine to_nc_ge_T (t := 75) (x := j) (y := ((ai_tx i).length)) rfl (by omega) (by omega) (by omega) ?_
        refine to_n 1 (fr' := (76, [(0, .ref 49), (1, .ref (1000001 + i)), (2, .int (nI n)), (3, .int (nI j))], [.int (nI n)], gh S a b sc ar lo, ex, 0, 0)) rfl ?_
        exact to_rt (i := .ireturn) (tg := []) rfl (ai_rtz (rl_n (n := n) (by omega))) ⟨_, ⟨rl_n (n := n) (by omega), (Or.inl ⟨by rw [show n = 1 by omega]; rfl, (hc32_2 (by omega)).1, (hc32_2 (by omega)).2.1, fun t ht => (hc32_2 (by omega)).2.2 t (by omega)⟩)⟩, rfl⟩
    | succ m ih =>
      intro n j hm hc32_0 hc32_1 hc32_2 hc32_3 hc32_4
      refine to_n 1 (fr' := (33, [(0, .ref 49), (1, .ref (1000001 + i)), (2, .int (nI n)), (3, .int (nI j))], [.int (nI n)], gh S a b sc ar lo, ex, 0, 0)) rfl ?_
      refine to_nf_eq (t := 75) (x := n) rfl (by omega) (fun q3 => ?_) (fun q3 => ?_)
      · refine to_n 1 (fr' := (76, [(0, .ref 49), (1, .ref (1000001 + i)), (2, .int (nI n)), (3, .int (nI j))], [.int (nI n)], gh S a b sc ar lo, ex, 0, 0)) rfl ?_
        exact to_rt (i := .ireturn) (tg := []) rfl (ai_rtz (rl_n (n := n) (by omega))) ⟨_, ⟨rl_n (n := n) (by omega), (Or.inr ⟨by rw [q3]; rfl, hc32_3 q3⟩)⟩, rfl⟩
      · refine to_n 2 (fr' := (38, [(0, .ref 49), (1, .ref (1000001 + i)), (2, .int (nI n)), (3, .int (nI j))], [.ref (1000001 + i), .int (nI j)], gh S a b sc ar lo, ex, 0, 0)) rfl ?_
        refine to_slen (i := i) rfl rfl (by omega) (Nat.le_of_ble_eq_true rfl) ?_
        refine to_nc_ge (t := 75) (x := j) (y := ((ai_tx i).length)) rfl (by omega) (by omega) (fun q4 => ?_) (fun q4 => ?_)
        · refine to_n 1 (fr' := (76, [(0, .ref 49), (1, .ref (1000001 + i)), (2, .int (nI n)), (3, .int (nI j))], [.int (nI n)], gh S a b sc ar lo, ex, 0, 0)) rfl ?_
          exact to_rt (i := .ireturn) (tg := []) rfl (ai_rtz (rl_n (n := n) (by omega))) ⟨_, ⟨rl_n (n := n) (by omega), (Or.inl ⟨by rw [show n = 1 by omega]; rfl, (hc32_2 (by omega)).1, (hc32_2 (by omega)).2.1, fun t ht => (hc32_2 (by omega)).2.2 t (by omega)⟩)⟩, rfl⟩
        · refine to_n 2 (fr' := (46, [(0, .ref 49), (1, .ref (1000001 + i)), (2, .int (nI n)), (3, .int (nI j))], [.int (nI j), .ref (1000001 + i)], gh S a b sc ar lo, ex, 0, 0)) rfl ?_
          refine to_schr (i := i) (j := j) rfl rfl (by omega) (by omega) (Nat.le_of_ble_eq_true rfl) ?_
          refine to_n 1 (fr' := (50, [(0, .ref 49), (1, .ref (1000001 + i)), (2, .int (nI n)), (3, .int (nI j))], [.ref 49, .int ((ai_tx i).getD j 0)], gh S a b sc ar lo, ex, 0, 0)) rfl ?_
          refine to_get rfl rfl rfl rfl ?_
          refine to_n 1 (fr' := (54, [(0, .ref 49), (1, .ref (1000001 + i)), (2, .int (nI n)), (3, .int (nI j))], [.ref 49, .ref 67, .int ((ai_tx i).getD j 0)], gh S a b sc ar lo, ex, 0, 0)) rfl ?_
          refine to_getR (v := (nI B)) rfl rfl rfl rfl eB ?_
          refine to_n 1 (fr' := (58, [(0, .ref 49), (1, .ref (1000001 + i)), (2, .int (nI n)), (3, .int (nI j))], [.int (nI j), .int (nI B), .ref 67, .int ((ai_tx i).getD j 0)], gh S a b sc ar lo, ex, 0, 0)) rfl ?_
          refine to_addN (x := B) (y := j) rfl ?_
          refine to_ialR (i := (B + j)) (v := ((ar 67) (B + j))) rfl (by decide) rfl (by omega) (by omega) rfl ?_
          refine to_ic_ne (t := 67) rfl (fun q5 => ?_) (fun q5 => ?_)
          · refine to_n 3 (fr' := (72, [(0, .ref 49), (1, .ref (1000001 + i)), (2, .int 0), (3, .int ((nI j) + 1))], [], gh S a b sc ar lo, ex, 0, 0)) rfl ?_
            rw [nI_1 j]
            refine to_n 1 (fr' := (32, [(0, .ref 49), (1, .ref (1000001 + i)), (2, .int 0), (3, .int (nI (j + 1)))], [], gh S a b sc ar lo, ex, 0, 0)) rfl ?_
            exact ih 0 (j + 1) (by omega) (by omega) (by omega) (fun w => absurd w (by decide)) (fun _ w => q5 (w.2.2 j (by omega)).symm) (by omega)
          · refine to_n 4 (fr' := (72, [(0, .ref 49), (1, .ref (1000001 + i)), (2, .int 1), (3, .int ((nI j) + 1))], [], gh S a b sc ar lo, ex, 0, 0)) rfl ?_
            rw [nI_1 j]
            refine to_n 1 (fr' := (32, [(0, .ref 49), (1, .ref (1000001 + i)), (2, .int 1), (3, .int (nI (j + 1)))], [], gh S a b sc ar lo, ex, 0, 0)) rfl ?_
            exact ih 1 (j + 1) (by omega) (by omega) (by omega) (fun _ => ⟨(hc32_2 (by omega)).1, (hc32_2 (by omega)).2.1, al_up (hc32_2 (by omega)).2.2 q5.symm⟩) (fun w => absurd w (by decide)) (by omega)
  refine to_n 1 (fr' := (1, [(0, .ref 49), (1, .ref (1000001 + i))], [.ref 49], gh S a b sc ar lo, ex, 0, 0)) rfl ?_
  refine to_getR (v := (sc 4937)) rfl rfl rfl rfl rfl ?_
  refine to_n 1 (fr' := (5, [(0, .ref 49), (1, .ref (1000001 + i))], [.int 1, .int (sc 4937)], gh S a b sc ar lo, ex, 0, 0)) rfl ?_
  refine to_ic_ne (t := 28) rfl (fun q6 => ?_) (fun q6 => ?_)
  · refine to_n 4 (fr' := (32, [(0, .ref 49), (1, .ref (1000001 + i)), (2, .int 0), (3, .int 0)], [], gh S a b sc ar lo, ex, 0, 0)) rfl ?_
    exact c32 ((ai_tx i).length - 0) 0 0 (by omega) (by omega) (by omega) (fun w => absurd w (by decide)) (fun _ w => q6 w.1) (by omega)
  · refine to_n 1 (fr' := (9, [(0, .ref 49), (1, .ref (1000001 + i))], [.ref (1000001 + i)], gh S a b sc ar lo, ex, 0, 0)) rfl ?_
    refine to_slen (i := i) rfl rfl (by omega) (Nat.le_of_ble_eq_true rfl) ?_
    refine to_n 1 (fr' := (13, [(0, .ref 49), (1, .ref (1000001 + i))], [.ref 49, .int (nI ((ai_tx i).length))], gh S a b sc ar lo, ex, 0, 0)) rfl ?_
    refine to_getR (v := (nI q)) rfl rfl rfl rfl eq ?_
    refine to_n 1 (fr' := (17, [(0, .ref 49), (1, .ref (1000001 + i))], [.ref 49, .int (nI q), .int (nI ((ai_tx i).length))], gh S a b sc ar lo, ex, 0, 0)) rfl ?_
    refine to_getR (v := (nI B)) rfl rfl rfl rfl eB ?_
    refine to_subN (x := q) (y := B) rfl (by omega) ?_
    refine to_nc_ne (t := 28) (x := ((ai_tx i).length)) (y := (q - B)) rfl (by omega) (by omega) (fun q7 => ?_) (fun q7 => ?_)
    · refine to_n 4 (fr' := (32, [(0, .ref 49), (1, .ref (1000001 + i)), (2, .int 0), (3, .int 0)], [], gh S a b sc ar lo, ex, 0, 0)) rfl ?_
      exact c32 ((ai_tx i).length - 0) 0 0 (by omega) (by omega) (by omega) (fun w => absurd w (by decide)) (fun _ w => by have := w.2.1; omega) (by omega)
    · refine to_n 5 (fr' := (32, [(0, .ref 49), (1, .ref (1000001 + i)), (2, .int 1), (3, .int 0)], [], gh S a b sc ar lo, ex, 0, 0)) rfl ?_
      exact c32 ((ai_tx i).length - 0) 1 0 (by omega) (by omega) (by omega) (fun _ => ⟨q6, by omega, fun t ht => absurd ht (Nat.not_lt_zero _)⟩) (fun w => absurd w (by decide)) (by omega)
set_option maxRecDepth 20000 in
theorem is_X10_isSign {X : Nat × (Nat → Int32)} {S a b : Nat} {sc : Nat → Int32} {ar : Nat → Nat → Int32} {lo : Nat → Int64} {ex : Bool} (hW : Wd S a b) (hI : Iv S sc ar) (x1 : Int32) (d : Nat)  : cp X S a b (d + 1) 124 [.ref 49, .int x1] sc ar lo ex (fun x => rl x 2 ∧ ((x = 1 ∧ (sc 4937 = 3 ∧ sc 4938 = x1)) ∨ (x = 0 ∧ ¬ (sc 4937 = 3 ∧ sc 4938 = x1)))) := by
  obtain ⟨ha1, ha8, hb1, hb8, hab, hS1, hS⟩ := id hW
  refine cp_of (M := an_X10_isSign) rfl (Nat.le_of_ble_eq_true rfl) ?_
  refine to_eq (fr' := (0, [(0, .ref 49), (1, .int x1)], [], gh S a b sc ar lo, ex, 0, 0)) rfl ?_
  refine to_n 1 (fr' := (1, [(0, .ref 49), (1, .int x1)], [.ref 49], gh S a b sc ar lo, ex, 0, 0)) rfl ?_
  refine to_getR (v := (sc 4937)) rfl rfl rfl rfl rfl ?_
  refine to_n 1 (fr' := (5, [(0, .ref 49), (1, .int x1)], [.int 3, .int (sc 4937)], gh S a b sc ar lo, ex, 0, 0)) rfl ?_
  refine to_ic_ne (t := 20) rfl (fun q1 => ?_) (fun q1 => ?_)
  · refine to_n 1 (fr' := (21, [(0, .ref 49), (1, .int x1)], [.int 0], gh S a b sc ar lo, ex, 0, 0)) rfl ?_
    exact to_rt (i := .ireturn) (tg := []) rfl rfl ⟨_, ⟨rl_n (n := 0) (by omega), (Or.inr ⟨rfl, fun w => q1 w.1⟩)⟩, rfl⟩
  · refine to_n 1 (fr' := (9, [(0, .ref 49), (1, .int x1)], [.ref 49], gh S a b sc ar lo, ex, 0, 0)) rfl ?_
    refine to_getR (v := (sc 4938)) rfl rfl rfl rfl rfl ?_
    refine to_n 1 (fr' := (13, [(0, .ref 49), (1, .int x1)], [.int x1, .int (sc 4938)], gh S a b sc ar lo, ex, 0, 0)) rfl ?_
    refine to_ic_ne (t := 20) rfl (fun q2 => ?_) (fun q2 => ?_)
    · refine to_n 1 (fr' := (21, [(0, .ref 49), (1, .int x1)], [.int 0], gh S a b sc ar lo, ex, 0, 0)) rfl ?_
      exact to_rt (i := .ireturn) (tg := []) rfl rfl ⟨_, ⟨rl_n (n := 0) (by omega), (Or.inr ⟨rfl, fun w => q2 w.2⟩)⟩, rfl⟩
    · refine to_n 2 (fr' := (21, [(0, .ref 49), (1, .int x1)], [.int 1], gh S a b sc ar lo, ex, 0, 0)) rfl ?_
      exact to_rt (i := .ireturn) (tg := []) rfl rfl ⟨_, ⟨rl_n (n := 1) (by omega), (Or.inl ⟨rfl, q1, q2⟩)⟩, rfl⟩
set_option maxRecDepth 20000 in
theorem rx_readPart {X : Nat × (Nat → Int32)} {S a b : Nat} {lo : Nat → Int64} {ex : Bool} {T tk : Nat → Int32} {pl g : Nat → Nat} {sz n : Nat} (hW : Wd S a b) (hsm : Sm T n tk pl g sz) (hlen4 : n ≤ 400) (hne : ∀ t, t < n → ¬ T t = -1) (w h : Nat) (h1 : 1 ≤ h) (E : Nat → Nat ⊕ Nat) (vE : Nat → zVal) (d : Nat) (hE : RxOk X S a b lo ex T tk pl g sz n (d + 5) 128 (w + 1) h E vE) : RxOk X S a b lo ex T tk pl g sz n (d + 6) 131 w h (pPt tk sz E) (vPt tk sz vE) := by
  obtain ⟨ha1, ha8, hb1, hb8, hab, hS1, hS⟩ := id hW
  intro sc ar l c e B j hI hl el ec eB hB4 eb hz hp hT hr
  refine cv_of (M := an_X10_readPart) rfl (Nat.le_of_ble_eq_true rfl) ?_
  have hF : Fr [4934, 4935, 4937, 4938, 4939, 4940, 4941, 4942] [71] sc ar sc ar := fr_0
  refine to_eq (fr' := (0, [(0, .ref 49), (1, .int (nI w))], [], gh S a b sc ar lo, ex, 0, 0)) rfl ?_
  obtain ⟨B0, q0, r0, z1, z2, z3, z4, z5, z6, z7, z8⟩ := id hz
  have hB0 : B0 = B := (nI_eq (by omega) (by omega)).mp (z1.symm.trans eB)
  have hle0 := rs_le hsm hr hlen4
  have hq0 : q0 = en_ g sz n j := (nI_eq (by omega) (by omega)).mp (z3.symm.trans hr.2.2.2.2.1)
  have hp0 : B = pl j := (nI_eq (by omega) (by omega)).mp (eB.symm.trans hr.2.2.1)
  have c41 : ∀ m : Nat, ∀ (y : Int32) (i : Nat) (sc1 : Nat → Int32) (ar1 : Nat → Nat → Int32), 400 ≤ i + m → sc1 4934 = nI c → sc1 4939 = nI B → sc1 4907 = nI l → sc1 4941 = 0 → Pz sc1 → (∀ x, x < 700 * l + c → ar1 71 x = ar 71 x) → ¬ sc1 4937 = 0 → i ≤ 400 → Rs T tk pl g sz n j sc1 → ar1 67 = T → 0 ≤ tk j → y = nv_ T (pl j) (i - pl j) → pl j ≤ i → i ≤ en_ g sz n j → nv_ T (pl j) (en_ g sz n j - pl j) = tk j → Iv S sc1 ar1 → Fr [4934, 4935, 4937, 4938, 4939, 4940, 4941, 4942] [71] sc ar sc1 ar1 → ag_To X (d + 5) an_X10_readPart (41, [(0, .ref 49), (1, .int (nI w)), (2, .int y), (3, .int (nI i))], [], gh S a b sc1 ar1 lo, ex, 0, 0) (qv S a b lo ex (fun sc' ar' => Iv S sc' ar' ∧ Fr [4934, 4935, 4937, 4938, 4939, 4940, 4941, 4942] [71] sc ar sc' ar' ∧ ((∀ x, x < 700 * l + c → ar' 71 x = ar 71 x) ∧ Rd sc' ar' l c B e h ∧ Rx T tk pl g sz n (pPt tk sz E j) sc' ∧ (sc' 4941 = 0 → ∀ c' : Nat, c' ≤ 700 → sc' 4934 = nI c' → sgr (ar' 71) (700 * l + c) (700 * l + c') ((vPt tk sz vE) j))))) := by
    intro m
    induction m with
    | zero =>
      intro y i sc1 ar1 hm hc41_0 hc41_1 hc41_2 hc41_3 hc41_4 hc41_5 hc41_6 hc41_7 hc41_8 hc41_9 hc41_10 hc41_11 hc41_12 hc41_13 hc41_14 hI1 hF1
      have hle41 := rs_le hsm hc41_8 hlen4
      refine to_n 2 (fr' := (43, [(0, .ref 49), (1, .int (nI w)), (2, .int y), (3, .int (nI i))], [.ref 49, .int (nI i)], gh S a b sc1 ar1 lo, ex, 0, 0)) rfl ?_
      refine to_getR (v := (nI (en_ g sz n j))) rfl rfl rfl rfl hc41_8.2.2.2.2.1 ?_
      refine to_nc_ge_T (t := 77) (x := i) (y := (en_ g sz n j)) rfl (by omega) (by omega) (by omega) ?_
      refine to_n 2 (fr' := (79, [(0, .ref 49), (1, .int (nI w)), (2, .int y), (3, .int (nI i))], [.int 0, .ref 49], gh S a b sc1 ar1 lo, ex, 0, 0)) rfl ?_
      refine to_cv (q := 126) (M1 := an_X10_emit) (rest := []) rfl rfl (by decide) rfl ⟨_, rfl⟩ (em_ok hW hI1 0 l c (by omega) (by omega) hc41_3 hc41_2 hc41_0 (d + 4)) (fun sc2 ar2 hx2 => ?_)
      obtain ⟨hI2, hG2, hs2, ha2⟩ := hx2
      have k2_4907 : sc2 4907 = (nI l) := (hG2.1 4907 (by decide)).trans hc41_2
      have k2_4939 : sc2 4939 = (nI B) := (hG2.1 4939 (by decide)).trans hc41_1
      have k2_4941 : sc2 4941 = 0 := (hG2.1 4941 (by decide)).trans hc41_3
      have k2_4934 : sc2 4934 = nI (c + 1) := by rw [hs2]; exact up_eq
      have hc2 : ar2 71 = upd (ar1 71) (700 * l + c) 0 := by rw [ha2]; rfl
      have hv2 : ar2 71 (700 * l + c) = 0 := by rw [hc2]; exact up_eq
      have hu2 : ∀ x, x < 700 * l + c → ar2 71 x = ar1 71 x := fun x w => by rw [hc2]; exact up_ne (by omega)
      have hk2 : ∀ x, x < 700 * l + c → ar2 71 x = ar 71 x := fun x w => (hu2 x (by omega)).trans (hc41_5 x w)
      have hz2 := pz_fr hc41_4 hG2 (by decide) (by decide) (by decide) (by decide) (by decide)
      have hF2 := fr_t hF1 hG2 (by decide) (by decide)
      have ht2 : ¬ sc2 4937 = 0 := fun w => hc41_6 ((hG2.1 4937 (by decide)).symm.trans w)
      have t2 : ar2 67 = T := (hG2.2 67 (by decide)).trans hc41_9
      have rs2 := rs_fr hc41_8 hG2 (by decide)
      refine to_eq (fr' := (82, [(0, .ref 49), (1, .int (nI w)), (2, .int y), (3, .int (nI i))], [], gh S a b sc2 ar2 lo, ex, 0, 0)) rfl ?_
      refine to_n 2 (fr' := (84, [(0, .ref 49), (1, .int (nI w)), (2, .int y), (3, .int (nI i))], [.int y, .ref 49], gh S a b sc2 ar2 lo, ex, 0, 0)) rfl ?_
      refine to_cv (q := 126) (M1 := an_X10_emit) (rest := []) rfl rfl (by decide) rfl ⟨_, rfl⟩ (em_ok hW hI2 y l (c + 1) (by omega) (by omega) k2_4941 k2_4907 k2_4934 (d + 4)) (fun sc3 ar3 hx3 => ?_)
      obtain ⟨hI3, hG3, hs3, ha3⟩ := hx3
      have k3_4907 : sc3 4907 = (nI l) := (hG3.1 4907 (by decide)).trans k2_4907
      have k3_4939 : sc3 4939 = (nI B) := (hG3.1 4939 (by decide)).trans k2_4939
      have k3_4941 : sc3 4941 = 0 := (hG3.1 4941 (by decide)).trans k2_4941
      have k3_4934 : sc3 4934 = nI ((c + 1) + 1) := by rw [hs3]; exact up_eq
      have hc3 : ar3 71 = upd (ar2 71) (700 * l + (c + 1)) y := by rw [ha3]; rfl
      have hv3 : ar3 71 (700 * l + (c + 1)) = y := by rw [hc3]; exact up_eq
      have hu3 : ∀ x, x < 700 * l + (c + 1) → ar3 71 x = ar2 71 x := fun x w => by rw [hc3]; exact up_ne (by omega)
      have hk3 : ∀ x, x < 700 * l + c → ar3 71 x = ar 71 x := fun x w => (hu3 x (by omega)).trans (hk2 x w)
      have hz3 := pz_fr hz2 hG3 (by decide) (by decide) (by decide) (by decide) (by decide)
      have hF3 := fr_t hF2 hG3 (by decide) (by decide)
      have ht3 : ¬ sc3 4937 = 0 := fun w => ht2 ((hG3.1 4937 (by decide)).symm.trans w)
      have hw3 : ar3 71 (700 * l + c) = 0 := (hu3 _ (by omega)).trans hv2
      have sg3 : seg (ar3 71) (700 * l + c) (700 * l + ((c + 1) + 1)) h := seg_push (i := 700 * l + c) (by omega) hw3
      have sd3 : sgr (ar3 71) (700 * l + c) (700 * l + ((c + 1) + 1)) (fun _ => y) := sgr_push (i := 700 * l + c) hw3 hv3
      have se3 := sgr_v (V' := vPt tk sz vE j) sd3 (vPt_nu hc41_10 (by rw [← hc41_14, hc41_11, show en_ g sz n j - pl j = i - pl j by omega]))
      have t3 : ar3 67 = T := (hG3.2 67 (by decide)).trans t2
      have rs3 := rs_fr rs2 hG3 (by decide)
      refine to_eq (fr' := (87, [(0, .ref 49), (1, .int (nI w)), (2, .int y), (3, .int (nI i))], [], gh S a b sc3 ar3 lo, ex, 0, 0)) rfl ?_
      refine to_n 2 (fr' := (200, [(0, .ref 49), (1, .int (nI w)), (2, .int y), (3, .int (nI i))], [.ref 49], gh S a b sc3 ar3 lo, ex, 0, 0)) rfl ?_
      refine to_getR (v := 0) rfl rfl rfl rfl k3_4941 ?_
      refine to_n 2 (fr' := (207, [(0, .ref 49), (1, .int (nI w)), (2, .int y), (3, .int (nI i))], [.ref 49], gh S a b sc3 ar3 lo, ex, 0, 0)) rfl ?_
      refine to_cv (q := 122) (M1 := an_X10_step) (rest := []) rfl rfl (by decide) rfl ⟨_, rfl⟩ (st_nextx hW hI3 k3_4939 (by omega) hz3 ht3 hsm hlen4 hne t3 rs3 (d + 3)) (fun sc4 ar4 hx4 => ?_)
      obtain ⟨hI4, hG4, hz4, ⟨B4, eB4, hB4, hC4⟩, rs4⟩ := hx4
      have t4 : ar4 67 = T := (hG4.2 67 (by decide)).trans t3
      have k4_4907 : sc4 4907 = (nI l) := (hG4.1 4907 (by decide)).trans k3_4907
      have k4_4934 : sc4 4934 = (nI ((c + 1) + 1)) := (hG4.1 4934 (by decide)).trans k3_4934
      have k4_4941 : sc4 4941 = 0 := (hG4.1 4941 (by decide)).trans k3_4941
      have hk4 : ∀ x, x < 700 * l + c → ar4 71 x = ar 71 x := kp_st hk3 hG4 (by decide)
      have sg4_0 := sg_st sg3 hG4 (by decide)
      have sd4_0 := sgr_st se3 hG4 (by decide)
      have hF4 := fr_t hF3 hG4 (by decide) (by decide)
      refine to_eq (fr' := (210, [(0, .ref 49), (1, .int (nI w)), (2, .int y), (3, .int (nI i))], [], gh S a b sc4 ar4 lo, ex, 0, 0)) rfl ?_
      exact to_rt (i := .return_) (tg := []) rfl rfl ⟨_, _, ⟨hI4, hF4, ⟨hk4, Or.inr ⟨k4_4941, hz4, ((c + 1) + 1), B4, k4_4934, eB4, by omega, by omega, by omega, by omega, seg_le sg4_0 (by omega)⟩, Or.inl ⟨k4_4941, (ad_ sz j), (by simp only [pPt, if_neg (p4_0 hc41_10), if_pos (Or.inl hc41_10 : 0 ≤ tk j ∨ (tk j ≤ -20 ∧ -27 ≤ tk j))]), rs4⟩, fun _ cq hq9 eq9 => (show ((c + 1) + 1) = cq from (nI_eq (by omega) (by omega)).mp ((k4_4934).symm.trans eq9)) ▸ sgr_v sd4_0 rfl⟩⟩, rfl⟩
    | succ m ih =>
      intro y i sc1 ar1 hm hc41_0 hc41_1 hc41_2 hc41_3 hc41_4 hc41_5 hc41_6 hc41_7 hc41_8 hc41_9 hc41_10 hc41_11 hc41_12 hc41_13 hc41_14 hI1 hF1
      have hle41 := rs_le hsm hc41_8 hlen4
      refine to_n 2 (fr' := (43, [(0, .ref 49), (1, .int (nI w)), (2, .int y), (3, .int (nI i))], [.ref 49, .int (nI i)], gh S a b sc1 ar1 lo, ex, 0, 0)) rfl ?_
      refine to_getR (v := (nI (en_ g sz n j))) rfl rfl rfl rfl hc41_8.2.2.2.2.1 ?_
      refine to_nc_ge (t := 77) (x := i) (y := (en_ g sz n j)) rfl (by omega) (by omega) (fun q5 => ?_) (fun q5 => ?_)
      · refine to_n 2 (fr' := (79, [(0, .ref 49), (1, .int (nI w)), (2, .int y), (3, .int (nI i))], [.int 0, .ref 49], gh S a b sc1 ar1 lo, ex, 0, 0)) rfl ?_
        refine to_cv (q := 126) (M1 := an_X10_emit) (rest := []) rfl rfl (by decide) rfl ⟨_, rfl⟩ (em_ok hW hI1 0 l c (by omega) (by omega) hc41_3 hc41_2 hc41_0 (d + 4)) (fun sc6 ar6 hx6 => ?_)
        obtain ⟨hI6, hG6, hs6, ha6⟩ := hx6
        have k6_4907 : sc6 4907 = (nI l) := (hG6.1 4907 (by decide)).trans hc41_2
        have k6_4939 : sc6 4939 = (nI B) := (hG6.1 4939 (by decide)).trans hc41_1
        have k6_4941 : sc6 4941 = 0 := (hG6.1 4941 (by decide)).trans hc41_3
        have k6_4934 : sc6 4934 = nI (c + 1) := by rw [hs6]; exact up_eq
        have hc6 : ar6 71 = upd (ar1 71) (700 * l + c) 0 := by rw [ha6]; rfl
        have hv6 : ar6 71 (700 * l + c) = 0 := by rw [hc6]; exact up_eq
        have hu6 : ∀ x, x < 700 * l + c → ar6 71 x = ar1 71 x := fun x w => by rw [hc6]; exact up_ne (by omega)
        have hk6 : ∀ x, x < 700 * l + c → ar6 71 x = ar 71 x := fun x w => (hu6 x (by omega)).trans (hc41_5 x w)
        have hz6 := pz_fr hc41_4 hG6 (by decide) (by decide) (by decide) (by decide) (by decide)
        have hF6 := fr_t hF1 hG6 (by decide) (by decide)
        have ht6 : ¬ sc6 4937 = 0 := fun w => hc41_6 ((hG6.1 4937 (by decide)).symm.trans w)
        have t6 : ar6 67 = T := (hG6.2 67 (by decide)).trans hc41_9
        have rs6 := rs_fr hc41_8 hG6 (by decide)
        refine to_eq (fr' := (82, [(0, .ref 49), (1, .int (nI w)), (2, .int y), (3, .int (nI i))], [], gh S a b sc6 ar6 lo, ex, 0, 0)) rfl ?_
        refine to_n 2 (fr' := (84, [(0, .ref 49), (1, .int (nI w)), (2, .int y), (3, .int (nI i))], [.int y, .ref 49], gh S a b sc6 ar6 lo, ex, 0, 0)) rfl ?_
        refine to_cv (q := 126) (M1 := an_X10_emit) (rest := []) rfl rfl (by decide) rfl ⟨_, rfl⟩ (em_ok hW hI6 y l (c + 1) (by omega) (by omega) k6_4941 k6_4907 k6_4934 (d + 4)) (fun sc7 ar7 hx7 => ?_)
        obtain ⟨hI7, hG7, hs7, ha7⟩ := hx7
        have k7_4907 : sc7 4907 = (nI l) := (hG7.1 4907 (by decide)).trans k6_4907
        have k7_4939 : sc7 4939 = (nI B) := (hG7.1 4939 (by decide)).trans k6_4939
        have k7_4941 : sc7 4941 = 0 := (hG7.1 4941 (by decide)).trans k6_4941
        have k7_4934 : sc7 4934 = nI ((c + 1) + 1) := by rw [hs7]; exact up_eq
        have hc7 : ar7 71 = upd (ar6 71) (700 * l + (c + 1)) y := by rw [ha7]; rfl
        have hv7 : ar7 71 (700 * l + (c + 1)) = y := by rw [hc7]; exact up_eq
        have hu7 : ∀ x, x < 700 * l + (c + 1) → ar7 71 x = ar6 71 x := fun x w => by rw [hc7]; exact up_ne (by omega)
        have hk7 : ∀ x, x < 700 * l + c → ar7 71 x = ar 71 x := fun x w => (hu7 x (by omega)).trans (hk6 x w)
        have hz7 := pz_fr hz6 hG7 (by decide) (by decide) (by decide) (by decide) (by decide)
        have hF7 := fr_t hF6 hG7 (by decide) (by decide)
        have ht7 : ¬ sc7 4937 = 0 := fun w => ht6 ((hG7.1 4937 (by decide)).symm.trans w)
        have hw7 : ar7 71 (700 * l + c) = 0 := (hu7 _ (by omega)).trans hv6
        have sg7 : seg (ar7 71) (700 * l + c) (700 * l + ((c + 1) + 1)) h := seg_push (i := 700 * l + c) (by omega) hw7
        have sd7 : sgr (ar7 71) (700 * l + c) (700 * l + ((c + 1) + 1)) (fun _ => y) := sgr_push (i := 700 * l + c) hw7 hv7
        have se7 := sgr_v (V' := vPt tk sz vE j) sd7 (vPt_nu hc41_10 (by rw [← hc41_14, hc41_11, show en_ g sz n j - pl j = i - pl j by omega]))
        have t7 : ar7 67 = T := (hG7.2 67 (by decide)).trans t6
        have rs7 := rs_fr rs6 hG7 (by decide)
        refine to_eq (fr' := (87, [(0, .ref 49), (1, .int (nI w)), (2, .int y), (3, .int (nI i))], [], gh S a b sc7 ar7 lo, ex, 0, 0)) rfl ?_
        refine to_n 2 (fr' := (200, [(0, .ref 49), (1, .int (nI w)), (2, .int y), (3, .int (nI i))], [.ref 49], gh S a b sc7 ar7 lo, ex, 0, 0)) rfl ?_
        refine to_getR (v := 0) rfl rfl rfl rfl k7_4941 ?_
        refine to_n 2 (fr' := (207, [(0, .ref 49), (1, .int (nI w)), (2, .int y), (3, .int (nI i))], [.ref 49], gh S a b sc7 ar7 lo, ex, 0, 0)) rfl ?_
        refine to_cv (q := 122) (M1 := an_X10_step) (rest := []) rfl rfl (by decide) rfl ⟨_, rfl⟩ (st_nextx hW hI7 k7_4939 (by omega) hz7 ht7 hsm hlen4 hne t7 rs7 (d + 3)) (fun sc8 ar8 hx8 => ?_)
        obtain ⟨hI8, hG8, hz8, ⟨B8, eB8, hB8, hC8⟩, rs8⟩ := hx8
        have t8 : ar8 67 = T := (hG8.2 67 (by decide)).trans t7
        have k8_4907 : sc8 4907 = (nI l) := (hG8.1 4907 (by decide)).trans k7_4907
        have k8_4934 : sc8 4934 = (nI ((c + 1) + 1)) := (hG8.1 4934 (by decide)).trans k7_4934
        have k8_4941 : sc8 4941 = 0 := (hG8.1 4941 (by decide)).trans k7_4941
        have hk8 : ∀ x, x < 700 * l + c → ar8 71 x = ar 71 x := kp_st hk7 hG8 (by decide)
        have sg8_0 := sg_st sg7 hG8 (by decide)
        have sd8_0 := sgr_st se7 hG8 (by decide)
        have hF8 := fr_t hF7 hG8 (by decide) (by decide)
        refine to_eq (fr' := (210, [(0, .ref 49), (1, .int (nI w)), (2, .int y), (3, .int (nI i))], [], gh S a b sc8 ar8 lo, ex, 0, 0)) rfl ?_
        exact to_rt (i := .return_) (tg := []) rfl rfl ⟨_, _, ⟨hI8, hF8, ⟨hk8, Or.inr ⟨k8_4941, hz8, ((c + 1) + 1), B8, k8_4934, eB8, by omega, by omega, by omega, by omega, seg_le sg8_0 (by omega)⟩, Or.inl ⟨k8_4941, (ad_ sz j), (by simp only [pPt, if_neg (p4_0 hc41_10), if_pos (Or.inl hc41_10 : 0 ≤ tk j ∨ (tk j ≤ -20 ∧ -27 ≤ tk j))]), rs8⟩, fun _ cq hq9 eq9 => (show ((c + 1) + 1) = cq from (nI_eq (by omega) (by omega)).mp ((k8_4934).symm.trans eq9)) ▸ sgr_v sd8_0 rfl⟩⟩, rfl⟩
      · refine to_n 1 (fr' := (50, [(0, .ref 49), (1, .int (nI w)), (2, .int y), (3, .int (nI i))], [.ref 49], gh S a b sc1 ar1 lo, ex, 0, 0)) rfl ?_
        refine to_getR (v := 0) rfl rfl rfl rfl hc41_3 ?_
        refine to_n 5 (fr' := (61, [(0, .ref 49), (1, .int (nI w)), (2, .int y), (3, .int (nI i))], [.ref 49, .int (10 * y)], gh S a b sc1 ar1 lo, ex, 0, 0)) rfl ?_
        refine to_get rfl rfl rfl rfl ?_
        refine to_n 1 (fr' := (65, [(0, .ref 49), (1, .int (nI w)), (2, .int y), (3, .int (nI i))], [.int (nI i), .ref 67, .int (10 * y)], gh S a b sc1 ar1 lo, ex, 0, 0)) rfl ?_
        refine to_ialR (i := i) (v := ((ar1 67) i)) rfl (by decide) rfl (by omega) (by omega) rfl ?_
        refine to_n 5 (fr' := (74, [(0, .ref 49), (1, .int (nI w)), (2, .int (((10 * y) + ((ar1 67) i)) - 48)), (3, .int ((nI i) + 1))], [], gh S a b sc1 ar1 lo, ex, 0, 0)) rfl ?_
        rw [nI_1 i]
        refine to_n 1 (fr' := (41, [(0, .ref 49), (1, .int (nI w)), (2, .int (((10 * y) + ((ar1 67) i)) - 48)), (3, .int (nI (i + 1)))], [], gh S a b sc1 ar1 lo, ex, 0, 0)) rfl ?_
        exact ih (((10 * y) + ((ar1 67) i)) - 48) (i + 1) sc1 ar1 (by omega) hc41_0 hc41_1 hc41_2 hc41_3 hc41_4 hc41_5 hc41_6 (by omega) hc41_8 hc41_9 hc41_10 (by have e9 := nv_s hc41_11 (by omega); rw [← hc41_9] at e9 ⊢; exact e9) (by omega) (by omega) hc41_14 hI1 hF1
  have c102_8 : ∀ (y : Int32) (sc9 : Nat → Int32) (ar9 : Nat → Nat → Int32), rq y 8 → sc9 4934 = nI c → sc9 4939 = nI B → sc9 4907 = nI l → sc9 4941 = 0 → Pz sc9 → (∀ x, x < 700 * l + c → ar9 71 x = ar 71 x) → ¬ sc9 4937 = 0 → Rs T tk pl g sz n j sc9 → ar9 67 = T → Wc T (pl j) (en_ g sz n j) (tk j) → (y = -1 → (¬ tk j = -20 ∧ ¬ tk j = -21 ∧ ¬ tk j = -22 ∧ ¬ tk j = -23 ∧ ¬ tk j = -24 ∧ ¬ tk j = -25 ∧ ¬ tk j = -26 ∧ ¬ tk j = -27)) → (¬ y = -1 → (tk j ≤ -20 ∧ -27 ≤ tk j)) → (∀ m : Nat, m < 8 → y = nI m → tk j = -20 - nI m) → Iv S sc9 ar9 → Fr [4934, 4935, 4937, 4938, 4939, 4940, 4941, 4942] [71] sc ar sc9 ar9 → ag_To X (d + 5) an_X10_readPart (102, [(0, .ref 49), (1, .int (nI w)), (2, .int y), (3, .int 8)], [], gh S a b sc9 ar9 lo, ex, 0, 0) (qv S a b lo ex (fun sc' ar' => Iv S sc' ar' ∧ Fr [4934, 4935, 4937, 4938, 4939, 4940, 4941, 4942] [71] sc ar sc' ar' ∧ ((∀ x, x < 700 * l + c → ar' 71 x = ar 71 x) ∧ Rd sc' ar' l c B e h ∧ Rx T tk pl g sz n (pPt tk sz E j) sc' ∧ (sc' 4941 = 0 → ∀ c' : Nat, c' ≤ 700 → sc' 4934 = nI c' → sgr (ar' 71) (700 * l + c) (700 * l + c') ((vPt tk sz vE) j))))) := by
    intro y sc9 ar9 hq_y hc102_0 hc102_1 hc102_2 hc102_3 hc102_4 hc102_5 hc102_6 hc102_7 hc102_8 hc102_9 hc102_10 hc102_11 hc102_12 hI9 hF9
    rcases hq_y with rfl | ⟨n10, hn10, rfl⟩
    · refine to_eq (fr' := (102, [(0, .ref 49), (1, .int (nI w)), (2, .int (-1)), (3, .int 8)], [], gh S a b sc9 ar9 lo, ex, 0, 0)) rfl ?_
      refine to_n 8 (fr' := (136, [(0, .ref 49), (1, .int (nI w)), (2, .int (-1)), (3, .int 8)], [.int 3, .ref 49], gh S a b sc9 ar9 lo, ex, 0, 0)) rfl ?_
      refine to_cv (q := 125) (M1 := an_X10_wrong) (rest := []) rfl rfl (by decide) rfl ⟨_, rfl⟩ (sf_X10_wrong hW hI9 3 (d + 4)) (fun sc11 ar11 hx11 => ?_)
      obtain ⟨hI11, hG11, hx11⟩ := hx11
      have hb11 := hx11.1 (by decide)
      have bp11 : sc11 4942 = nI (pl j) := (hx11.2 hc102_3).trans hc102_7.2.2.1
      have k11_4907 : sc11 4907 = (nI l) := (hG11.1 4907 (by decide)).trans hc102_2
      have k11_4934 : sc11 4934 = (nI c) := (hG11.1 4934 (by decide)).trans hc102_0
      have k11_4939 : sc11 4939 = (nI B) := (hG11.1 4939 (by decide)).trans hc102_1
      have hk11 : ∀ x, x < 700 * l + c → ar11 71 x = ar 71 x := kp_st hc102_5 hG11 (by decide)
      have hF11 := fr_t hF9 hG11 (by decide) (by decide)
      refine to_eq (fr' := (139, [(0, .ref 49), (1, .int (nI w)), (2, .int (-1)), (3, .int 8)], [], gh S a b sc11 ar11 lo, ex, 0, 0)) rfl ?_
      refine to_n 4 (fr' := (144, [(0, .ref 49), (1, .int (nI w)), (2, .int (-1)), (3, .int 8)], [.int 19, .ref 49], gh S a b sc11 ar11 lo, ex, 0, 0)) rfl ?_
      refine to_cu (q := 126) (M1 := an_X10_emit) (rest := []) rfl rfl (by decide) rfl ⟨_, rfl⟩ (em_bad 19 hb11 (d + 4)) ?_ 
      refine to_eq (fr' := (147, [(0, .ref 49), (1, .int (nI w)), (2, .int (-1)), (3, .int 8)], [], gh S a b sc11 ar11 lo, ex, 0, 0)) rfl ?_
      refine to_n 2 (fr' := (200, [(0, .ref 49), (1, .int (nI w)), (2, .int (-1)), (3, .int 8)], [.ref 49], gh S a b sc11 ar11 lo, ex, 0, 0)) rfl ?_
      refine to_getR (v := (sc11 4941)) rfl rfl rfl rfl rfl ?_
      refine to_if_ne_T (t := 210) rfl hb11 ?_
      exact to_rt (i := .return_) (tg := []) rfl rfl ⟨_, _, ⟨hI11, hF11, ⟨hk11, Or.inl hb11, Or.inr ⟨hb11, j, (by simp only [pPt, if_neg (p4_w (wc_rng hc102_9).1), if_neg (nn_w hc102_9 (nm_8 (hc102_10 rfl).1 (hc102_10 rfl).2.1 (hc102_10 rfl).2.2.1 (hc102_10 rfl).2.2.2.1 (hc102_10 rfl).2.2.2.2.1 (hc102_10 rfl).2.2.2.2.2.1 (hc102_10 rfl).2.2.2.2.2.2.1 (hc102_10 rfl).2.2.2.2.2.2.2))]), bp11⟩, fun w => absurd w hb11⟩⟩, rfl⟩
    · refine to_eq (fr' := (102, [(0, .ref 49), (1, .int (nI w)), (2, .int (nI n10)), (3, .int 8)], [], gh S a b sc9 ar9 lo, ex, 0, 0)) rfl ?_
      refine to_n 5 (fr' := (131, [(0, .ref 49), (1, .int (nI w)), (2, .int (nI n10)), (3, .int 8)], [.int (-1), .int (nI n10)], gh S a b sc9 ar9 lo, ex, 0, 0)) rfl ?_
      refine to_ic_ne_T (t := 139) (x := (nI n10)) (y := (-1)) rfl (nI_neg (by omega) (by decide)) ?_
      refine to_n 3 (fr' := (143, [(0, .ref 49), (1, .int (nI w)), (2, .int (nI n10)), (3, .int 8)], [.int (nI n10), .int 20, .ref 49], gh S a b sc9 ar9 lo, ex, 0, 0)) rfl ?_
      refine to_addN (x := 20) (y := n10) rfl ?_
      refine to_cv (q := 126) (M1 := an_X10_emit) (rest := []) rfl rfl (by decide) rfl ⟨_, rfl⟩ (em_ok hW hI9 (nI (20 + n10)) l c (by omega) (by omega) hc102_3 hc102_2 hc102_0 (d + 4)) (fun sc13 ar13 hx13 => ?_)
      obtain ⟨hI13, hG13, hs13, ha13⟩ := hx13
      have k13_4907 : sc13 4907 = (nI l) := (hG13.1 4907 (by decide)).trans hc102_2
      have k13_4939 : sc13 4939 = (nI B) := (hG13.1 4939 (by decide)).trans hc102_1
      have k13_4941 : sc13 4941 = 0 := (hG13.1 4941 (by decide)).trans hc102_3
      have k13_4934 : sc13 4934 = nI (c + 1) := by rw [hs13]; exact up_eq
      have hc13 : ar13 71 = upd (ar9 71) (700 * l + c) (nI (20 + n10)) := by rw [ha13]; rfl
      have hv13 : ar13 71 (700 * l + c) = (nI (20 + n10)) := by rw [hc13]; exact up_eq
      have hu13 : ∀ x, x < 700 * l + c → ar13 71 x = ar9 71 x := fun x w => by rw [hc13]; exact up_ne (by omega)
      have hk13 : ∀ x, x < 700 * l + c → ar13 71 x = ar 71 x := fun x w => (hu13 x (by omega)).trans (hc102_5 x w)
      have hz13 := pz_fr hc102_4 hG13 (by decide) (by decide) (by decide) (by decide) (by decide)
      have hF13 := fr_t hF9 hG13 (by decide) (by decide)
      have ht13 : ¬ sc13 4937 = 0 := fun w => hc102_6 ((hG13.1 4937 (by decide)).symm.trans w)
      have sg13 : seg (ar13 71) (700 * l + c) (700 * l + (c + 1)) h := seg_name (i := 700 * l + c) (by omega) hv13 (nm_ok (n := n10) (by omega)).1 (nm_ok (n := n10) (by omega)).2
      have sd13 : sgr (ar13 71) (700 * l + c) (700 * l + (c + 1)) (fun kn => kn n10) := sgr_name (i := 700 * l + c) hv13 (nm_ok (n := n10) (by omega)).1 (nm_ok (n := n10) (by omega)).2 (nm_s (by omega))
      have se13 := sgr_v (V' := vPt tk sz vE j) sd13 (vPt_nm (by omega) (hc102_12 n10 (by omega) rfl))
      have t13 : ar13 67 = T := (hG13.2 67 (by decide)).trans hc102_8
      have rs13 := rs_fr hc102_7 hG13 (by decide)
      refine to_eq (fr' := (147, [(0, .ref 49), (1, .int (nI w)), (2, .int (nI n10)), (3, .int 8)], [], gh S a b sc13 ar13 lo, ex, 0, 0)) rfl ?_
      refine to_n 2 (fr' := (200, [(0, .ref 49), (1, .int (nI w)), (2, .int (nI n10)), (3, .int 8)], [.ref 49], gh S a b sc13 ar13 lo, ex, 0, 0)) rfl ?_
      refine to_getR (v := 0) rfl rfl rfl rfl k13_4941 ?_
      refine to_n 2 (fr' := (207, [(0, .ref 49), (1, .int (nI w)), (2, .int (nI n10)), (3, .int 8)], [.ref 49], gh S a b sc13 ar13 lo, ex, 0, 0)) rfl ?_
      refine to_cv (q := 122) (M1 := an_X10_step) (rest := []) rfl rfl (by decide) rfl ⟨_, rfl⟩ (st_nextx hW hI13 k13_4939 (by omega) hz13 ht13 hsm hlen4 hne t13 rs13 (d + 3)) (fun sc14 ar14 hx14 => ?_)
      obtain ⟨hI14, hG14, hz14, ⟨B14, eB14, hB14, hC14⟩, rs14⟩ := hx14
      have t14 : ar14 67 = T := (hG14.2 67 (by decide)).trans t13
      have k14_4907 : sc14 4907 = (nI l) := (hG14.1 4907 (by decide)).trans k13_4907
      have k14_4934 : sc14 4934 = (nI (c + 1)) := (hG14.1 4934 (by decide)).trans k13_4934
      have k14_4941 : sc14 4941 = 0 := (hG14.1 4941 (by decide)).trans k13_4941
      have hk14 : ∀ x, x < 700 * l + c → ar14 71 x = ar 71 x := kp_st hk13 hG14 (by decide)
      have sg14_0 := sg_st sg13 hG14 (by decide)
      have sd14_0 := sgr_st se13 hG14 (by decide)
      have hF14 := fr_t hF13 hG14 (by decide) (by decide)
      refine to_eq (fr' := (210, [(0, .ref 49), (1, .int (nI w)), (2, .int (nI n10)), (3, .int 8)], [], gh S a b sc14 ar14 lo, ex, 0, 0)) rfl ?_
      exact to_rt (i := .return_) (tg := []) rfl rfl ⟨_, _, ⟨hI14, hF14, ⟨hk14, Or.inr ⟨k14_4941, hz14, (c + 1), B14, k14_4934, eB14, by omega, by omega, by omega, by omega, seg_le sg14_0 (by omega)⟩, Or.inl ⟨k14_4941, (ad_ sz j), (by simp only [pPt, if_neg (p4_w (wc_rng hc102_9).1), if_pos (Or.inr (hc102_11 (nI_neg (by omega) (by decide))) : 0 ≤ tk j ∨ (tk j ≤ -20 ∧ -27 ≤ tk j))]), rs14⟩, fun _ cq hq9 eq9 => (show (c + 1) = cq from (nI_eq (by omega) (by omega)).mp ((k14_4934).symm.trans eq9)) ▸ sgr_v sd14_0 rfl⟩⟩, rfl⟩
  have c102_7 : ∀ (y : Int32) (sc15 : Nat → Int32) (ar15 : Nat → Nat → Int32), rq y 8 → sc15 4934 = nI c → sc15 4939 = nI B → sc15 4907 = nI l → sc15 4941 = 0 → Pz sc15 → (∀ x, x < 700 * l + c → ar15 71 x = ar 71 x) → ¬ sc15 4937 = 0 → Rs T tk pl g sz n j sc15 → ar15 67 = T → Wc T (pl j) (en_ g sz n j) (tk j) → (y = -1 → (¬ tk j = -20 ∧ ¬ tk j = -21 ∧ ¬ tk j = -22 ∧ ¬ tk j = -23 ∧ ¬ tk j = -24 ∧ ¬ tk j = -25 ∧ ¬ tk j = -26)) → (¬ y = -1 → (tk j ≤ -20 ∧ -27 ≤ tk j)) → (∀ m : Nat, m < 8 → y = nI m → tk j = -20 - nI m) → Iv S sc15 ar15 → Fr [4934, 4935, 4937, 4938, 4939, 4940, 4941, 4942] [71] sc ar sc15 ar15 → ag_To X (d + 5) an_X10_readPart (102, [(0, .ref 49), (1, .int (nI w)), (2, .int y), (3, .int 7)], [], gh S a b sc15 ar15 lo, ex, 0, 0) (qv S a b lo ex (fun sc' ar' => Iv S sc' ar' ∧ Fr [4934, 4935, 4937, 4938, 4939, 4940, 4941, 4942] [71] sc ar sc' ar' ∧ ((∀ x, x < 700 * l + c → ar' 71 x = ar 71 x) ∧ Rd sc' ar' l c B e h ∧ Rx T tk pl g sz n (pPt tk sz E j) sc' ∧ (sc' 4941 = 0 → ∀ c' : Nat, c' ≤ 700 → sc' 4934 = nI c' → sgr (ar' 71) (700 * l + c) (700 * l + c') ((vPt tk sz vE) j))))) := by
    intro y sc15 ar15 hq_y hc102_0 hc102_1 hc102_2 hc102_3 hc102_4 hc102_5 hc102_6 hc102_7 hc102_8 hc102_9 hc102_10 hc102_11 hc102_12 hI15 hF15
    rcases hq_y with rfl | ⟨n16, hn16, rfl⟩
    · refine to_eq (fr' := (102, [(0, .ref 49), (1, .int (nI w)), (2, .int (-1)), (3, .int 7)], [], gh S a b sc15 ar15 lo, ex, 0, 0)) rfl ?_
      refine to_n 5 (fr' := (110, [(0, .ref 49), (1, .int (nI w)), (2, .int (-1)), (3, .int 7)], [.ref 49, .ref 49], gh S a b sc15 ar15 lo, ex, 0, 0)) rfl ?_
      refine to_get rfl rfl rfl rfl ?_
      refine to_n 2 (fr' := (115, [(0, .ref 49), (1, .int (nI w)), (2, .int (-1)), (3, .int 7)], [.ref 1000030, .ref 49], gh S a b sc15 ar15 lo, ex, 0, 0)) rfl ?_
      refine to_cp (q := 123) (M1 := an_X10_isWord) (rest := []) rfl rfl (by decide) rfl ⟨_, rfl⟩ (iw_X10_isWord hW hI15 29 (by omega) (pl j) (en_ g sz n j) (rs_le hsm hc102_7 hlen4) hc102_7.2.2.1 hc102_7.2.2.2.2.1 (d + 4)) (fun x17 hx17 => ?_)
      obtain ⟨⟨n17, hn17, rfl⟩, hp17⟩ := hx17
      rw [hc102_8, ob_w (x := (15, -27)) hsm hc102_7 (by decide) (by decide +kernel)] at hp17
      refine to_eq (fr' := (118, [(0, .ref 49), (1, .int (nI w)), (2, .int (-1)), (3, .int 7)], [.int (nI n17)], gh S a b sc15 ar15 lo, ex, 0, 0)) rfl ?_
      refine to_nf_eq (t := 123) (x := n17) rfl (by omega) (fun q18 => ?_) (fun q18 => ?_)
      · refine to_n 2 (fr' := (102, [(0, .ref 49), (1, .int (nI w)), (2, .int (-1)), (3, .int 8)], [], gh S a b sc15 ar15 lo, ex, 0, 0)) rfl ?_
        exact c102_8 (-1) sc15 ar15 (rq_m) hc102_0 hc102_1 hc102_2 hc102_3 hc102_4 hc102_5 hc102_6 hc102_7 hc102_8 hc102_9 (fun _ => ⟨(hc102_10 rfl).1, (hc102_10 rfl).2.1, (hc102_10 rfl).2.2.1, (hc102_10 rfl).2.2.2.1, (hc102_10 rfl).2.2.2.2.1, (hc102_10 rfl).2.2.2.2.2.1, (hc102_10 rfl).2.2.2.2.2.2, or_f hp17 q18⟩) (fun w => absurd rfl w) (fun m hm e => absurd e.symm (nI_neg (by omega) (by decide))) hI15 hF15
      · refine to_n 4 (fr' := (102, [(0, .ref 49), (1, .int (nI w)), (2, .int 7), (3, .int 8)], [], gh S a b sc15 ar15 lo, ex, 0, 0)) rfl ?_
        exact c102_8 7 sc15 ar15 (rq_n (n := 7) (by omega)) hc102_0 hc102_1 hc102_2 hc102_3 hc102_4 hc102_5 (ob_no hsm hc102_7 (or_t hp17 q18 hn17) (by decide)) hc102_7 hc102_8 hc102_9 (fun w => absurd w (by decide)) (fun _ => by rw [or_t hp17 q18 hn17]; decide) (fun m hm e => nm_at (k := 7) hm (by decide) e ((or_t hp17 q18 hn17).trans (by decide))) hI15 hF15
    · refine to_eq (fr' := (102, [(0, .ref 49), (1, .int (nI w)), (2, .int (nI n16)), (3, .int 7)], [], gh S a b sc15 ar15 lo, ex, 0, 0)) rfl ?_
      refine to_n 5 (fr' := (110, [(0, .ref 49), (1, .int (nI w)), (2, .int (nI n16)), (3, .int 7)], [.ref 49, .ref 49], gh S a b sc15 ar15 lo, ex, 0, 0)) rfl ?_
      refine to_get rfl rfl rfl rfl ?_
      refine to_n 2 (fr' := (115, [(0, .ref 49), (1, .int (nI w)), (2, .int (nI n16)), (3, .int 7)], [.ref 1000030, .ref 49], gh S a b sc15 ar15 lo, ex, 0, 0)) rfl ?_
      refine to_cp (q := 123) (M1 := an_X10_isWord) (rest := []) rfl rfl (by decide) rfl ⟨_, rfl⟩ (iw_X10_isWord hW hI15 29 (by omega) (pl j) (en_ g sz n j) (rs_le hsm hc102_7 hlen4) hc102_7.2.2.1 hc102_7.2.2.2.2.1 (d + 4)) (fun x19 hx19 => ?_)
      obtain ⟨⟨n19, hn19, rfl⟩, hp19⟩ := hx19
      rw [hc102_8, ob_w (x := (15, -27)) hsm hc102_7 (by decide) (by decide +kernel)] at hp19
      refine to_eq (fr' := (118, [(0, .ref 49), (1, .int (nI w)), (2, .int (nI n16)), (3, .int 7)], [.int (nI n19)], gh S a b sc15 ar15 lo, ex, 0, 0)) rfl ?_
      refine to_nf_eq (t := 123) (x := n19) rfl (by omega) (fun q20 => ?_) (fun q20 => ?_)
      · refine to_n 2 (fr' := (102, [(0, .ref 49), (1, .int (nI w)), (2, .int (nI n16)), (3, .int 8)], [], gh S a b sc15 ar15 lo, ex, 0, 0)) rfl ?_
        exact c102_8 (nI n16) sc15 ar15 (rq_n (n := n16) (by omega)) hc102_0 hc102_1 hc102_2 hc102_3 hc102_4 hc102_5 hc102_6 hc102_7 hc102_8 hc102_9 (fun w => absurd w (nI_neg (by omega) (by decide))) (fun _ => hc102_11 (nI_neg (by omega) (by decide))) hc102_12 hI15 hF15
      · refine to_n 4 (fr' := (102, [(0, .ref 49), (1, .int (nI w)), (2, .int 7), (3, .int 8)], [], gh S a b sc15 ar15 lo, ex, 0, 0)) rfl ?_
        exact c102_8 7 sc15 ar15 (rq_n (n := 7) (by omega)) hc102_0 hc102_1 hc102_2 hc102_3 hc102_4 hc102_5 (ob_no hsm hc102_7 (or_t hp19 q20 hn19) (by decide)) hc102_7 hc102_8 hc102_9 (fun w => absurd w (by decide)) (fun _ => by rw [or_t hp19 q20 hn19]; decide) (fun m hm e => nm_at (k := 7) hm (by decide) e ((or_t hp19 q20 hn19).trans (by decide))) hI15 hF15
  have c102_6 : ∀ (y : Int32) (sc21 : Nat → Int32) (ar21 : Nat → Nat → Int32), rq y 8 → sc21 4934 = nI c → sc21 4939 = nI B → sc21 4907 = nI l → sc21 4941 = 0 → Pz sc21 → (∀ x, x < 700 * l + c → ar21 71 x = ar 71 x) → ¬ sc21 4937 = 0 → Rs T tk pl g sz n j sc21 → ar21 67 = T → Wc T (pl j) (en_ g sz n j) (tk j) → (y = -1 → (¬ tk j = -20 ∧ ¬ tk j = -21 ∧ ¬ tk j = -22 ∧ ¬ tk j = -23 ∧ ¬ tk j = -24 ∧ ¬ tk j = -25)) → (¬ y = -1 → (tk j ≤ -20 ∧ -27 ≤ tk j)) → (∀ m : Nat, m < 8 → y = nI m → tk j = -20 - nI m) → Iv S sc21 ar21 → Fr [4934, 4935, 4937, 4938, 4939, 4940, 4941, 4942] [71] sc ar sc21 ar21 → ag_To X (d + 5) an_X10_readPart (102, [(0, .ref 49), (1, .int (nI w)), (2, .int y), (3, .int 6)], [], gh S a b sc21 ar21 lo, ex, 0, 0) (qv S a b lo ex (fun sc' ar' => Iv S sc' ar' ∧ Fr [4934, 4935, 4937, 4938, 4939, 4940, 4941, 4942] [71] sc ar sc' ar' ∧ ((∀ x, x < 700 * l + c → ar' 71 x = ar 71 x) ∧ Rd sc' ar' l c B e h ∧ Rx T tk pl g sz n (pPt tk sz E j) sc' ∧ (sc' 4941 = 0 → ∀ c' : Nat, c' ≤ 700 → sc' 4934 = nI c' → sgr (ar' 71) (700 * l + c) (700 * l + c') ((vPt tk sz vE) j))))) := by
    intro y sc21 ar21 hq_y hc102_0 hc102_1 hc102_2 hc102_3 hc102_4 hc102_5 hc102_6 hc102_7 hc102_8 hc102_9 hc102_10 hc102_11 hc102_12 hI21 hF21
    rcases hq_y with rfl | ⟨n22, hn22, rfl⟩
    · refine to_eq (fr' := (102, [(0, .ref 49), (1, .int (nI w)), (2, .int (-1)), (3, .int 6)], [], gh S a b sc21 ar21 lo, ex, 0, 0)) rfl ?_
      refine to_n 5 (fr' := (110, [(0, .ref 49), (1, .int (nI w)), (2, .int (-1)), (3, .int 6)], [.ref 49, .ref 49], gh S a b sc21 ar21 lo, ex, 0, 0)) rfl ?_
      refine to_get rfl rfl rfl rfl ?_
      refine to_n 2 (fr' := (115, [(0, .ref 49), (1, .int (nI w)), (2, .int (-1)), (3, .int 6)], [.ref 1000029, .ref 49], gh S a b sc21 ar21 lo, ex, 0, 0)) rfl ?_
      refine to_cp (q := 123) (M1 := an_X10_isWord) (rest := []) rfl rfl (by decide) rfl ⟨_, rfl⟩ (iw_X10_isWord hW hI21 28 (by omega) (pl j) (en_ g sz n j) (rs_le hsm hc102_7 hlen4) hc102_7.2.2.1 hc102_7.2.2.2.2.1 (d + 4)) (fun x23 hx23 => ?_)
      obtain ⟨⟨n23, hn23, rfl⟩, hp23⟩ := hx23
      rw [hc102_8, ob_w (x := (14, -26)) hsm hc102_7 (by decide) (by decide +kernel)] at hp23
      refine to_eq (fr' := (118, [(0, .ref 49), (1, .int (nI w)), (2, .int (-1)), (3, .int 6)], [.int (nI n23)], gh S a b sc21 ar21 lo, ex, 0, 0)) rfl ?_
      refine to_nf_eq (t := 123) (x := n23) rfl (by omega) (fun q24 => ?_) (fun q24 => ?_)
      · refine to_n 2 (fr' := (102, [(0, .ref 49), (1, .int (nI w)), (2, .int (-1)), (3, .int 7)], [], gh S a b sc21 ar21 lo, ex, 0, 0)) rfl ?_
        exact c102_7 (-1) sc21 ar21 (rq_m) hc102_0 hc102_1 hc102_2 hc102_3 hc102_4 hc102_5 hc102_6 hc102_7 hc102_8 hc102_9 (fun _ => ⟨(hc102_10 rfl).1, (hc102_10 rfl).2.1, (hc102_10 rfl).2.2.1, (hc102_10 rfl).2.2.2.1, (hc102_10 rfl).2.2.2.2.1, (hc102_10 rfl).2.2.2.2.2, or_f hp23 q24⟩) (fun w => absurd rfl w) (fun m hm e => absurd e.symm (nI_neg (by omega) (by decide))) hI21 hF21
      · refine to_n 4 (fr' := (102, [(0, .ref 49), (1, .int (nI w)), (2, .int 6), (3, .int 7)], [], gh S a b sc21 ar21 lo, ex, 0, 0)) rfl ?_
        exact c102_7 6 sc21 ar21 (rq_n (n := 6) (by omega)) hc102_0 hc102_1 hc102_2 hc102_3 hc102_4 hc102_5 (ob_no hsm hc102_7 (or_t hp23 q24 hn23) (by decide)) hc102_7 hc102_8 hc102_9 (fun w => absurd w (by decide)) (fun _ => by rw [or_t hp23 q24 hn23]; decide) (fun m hm e => nm_at (k := 6) hm (by decide) e ((or_t hp23 q24 hn23).trans (by decide))) hI21 hF21
    · refine to_eq (fr' := (102, [(0, .ref 49), (1, .int (nI w)), (2, .int (nI n22)), (3, .int 6)], [], gh S a b sc21 ar21 lo, ex, 0, 0)) rfl ?_
      refine to_n 5 (fr' := (110, [(0, .ref 49), (1, .int (nI w)), (2, .int (nI n22)), (3, .int 6)], [.ref 49, .ref 49], gh S a b sc21 ar21 lo, ex, 0, 0)) rfl ?_
      refine to_get rfl rfl rfl rfl ?_
      refine to_n 2 (fr' := (115, [(0, .ref 49), (1, .int (nI w)), (2, .int (nI n22)), (3, .int 6)], [.ref 1000029, .ref 49], gh S a b sc21 ar21 lo, ex, 0, 0)) rfl ?_
      refine to_cp (q := 123) (M1 := an_X10_isWord) (rest := []) rfl rfl (by decide) rfl ⟨_, rfl⟩ (iw_X10_isWord hW hI21 28 (by omega) (pl j) (en_ g sz n j) (rs_le hsm hc102_7 hlen4) hc102_7.2.2.1 hc102_7.2.2.2.2.1 (d + 4)) (fun x25 hx25 => ?_)
      obtain ⟨⟨n25, hn25, rfl⟩, hp25⟩ := hx25
      rw [hc102_8, ob_w (x := (14, -26)) hsm hc102_7 (by decide) (by decide +kernel)] at hp25
      refine to_eq (fr' := (118, [(0, .ref 49), (1, .int (nI w)), (2, .int (nI n22)), (3, .int 6)], [.int (nI n25)], gh S a b sc21 ar21 lo, ex, 0, 0)) rfl ?_
      refine to_nf_eq (t := 123) (x := n25) rfl (by omega) (fun q26 => ?_) (fun q26 => ?_)
      · refine to_n 2 (fr' := (102, [(0, .ref 49), (1, .int (nI w)), (2, .int (nI n22)), (3, .int 7)], [], gh S a b sc21 ar21 lo, ex, 0, 0)) rfl ?_
        exact c102_7 (nI n22) sc21 ar21 (rq_n (n := n22) (by omega)) hc102_0 hc102_1 hc102_2 hc102_3 hc102_4 hc102_5 hc102_6 hc102_7 hc102_8 hc102_9 (fun w => absurd w (nI_neg (by omega) (by decide))) (fun _ => hc102_11 (nI_neg (by omega) (by decide))) hc102_12 hI21 hF21
      · refine to_n 4 (fr' := (102, [(0, .ref 49), (1, .int (nI w)), (2, .int 6), (3, .int 7)], [], gh S a b sc21 ar21 lo, ex, 0, 0)) rfl ?_
        exact c102_7 6 sc21 ar21 (rq_n (n := 6) (by omega)) hc102_0 hc102_1 hc102_2 hc102_3 hc102_4 hc102_5 (ob_no hsm hc102_7 (or_t hp25 q26 hn25) (by decide)) hc102_7 hc102_8 hc102_9 (fun w => absurd w (by decide)) (fun _ => by rw [or_t hp25 q26 hn25]; decide) (fun m hm e => nm_at (k := 6) hm (by decide) e ((or_t hp25 q26 hn25).trans (by decide))) hI21 hF21
  have c102_5 : ∀ (y : Int32) (sc27 : Nat → Int32) (ar27 : Nat → Nat → Int32), rq y 8 → sc27 4934 = nI c → sc27 4939 = nI B → sc27 4907 = nI l → sc27 4941 = 0 → Pz sc27 → (∀ x, x < 700 * l + c → ar27 71 x = ar 71 x) → ¬ sc27 4937 = 0 → Rs T tk pl g sz n j sc27 → ar27 67 = T → Wc T (pl j) (en_ g sz n j) (tk j) → (y = -1 → (¬ tk j = -20 ∧ ¬ tk j = -21 ∧ ¬ tk j = -22 ∧ ¬ tk j = -23 ∧ ¬ tk j = -24)) → (¬ y = -1 → (tk j ≤ -20 ∧ -27 ≤ tk j)) → (∀ m : Nat, m < 8 → y = nI m → tk j = -20 - nI m) → Iv S sc27 ar27 → Fr [4934, 4935, 4937, 4938, 4939, 4940, 4941, 4942] [71] sc ar sc27 ar27 → ag_To X (d + 5) an_X10_readPart (102, [(0, .ref 49), (1, .int (nI w)), (2, .int y), (3, .int 5)], [], gh S a b sc27 ar27 lo, ex, 0, 0) (qv S a b lo ex (fun sc' ar' => Iv S sc' ar' ∧ Fr [4934, 4935, 4937, 4938, 4939, 4940, 4941, 4942] [71] sc ar sc' ar' ∧ ((∀ x, x < 700 * l + c → ar' 71 x = ar 71 x) ∧ Rd sc' ar' l c B e h ∧ Rx T tk pl g sz n (pPt tk sz E j) sc' ∧ (sc' 4941 = 0 → ∀ c' : Nat, c' ≤ 700 → sc' 4934 = nI c' → sgr (ar' 71) (700 * l + c) (700 * l + c') ((vPt tk sz vE) j))))) := by
    intro y sc27 ar27 hq_y hc102_0 hc102_1 hc102_2 hc102_3 hc102_4 hc102_5 hc102_6 hc102_7 hc102_8 hc102_9 hc102_10 hc102_11 hc102_12 hI27 hF27
    rcases hq_y with rfl | ⟨n28, hn28, rfl⟩
    · refine to_eq (fr' := (102, [(0, .ref 49), (1, .int (nI w)), (2, .int (-1)), (3, .int 5)], [], gh S a b sc27 ar27 lo, ex, 0, 0)) rfl ?_
      refine to_n 5 (fr' := (110, [(0, .ref 49), (1, .int (nI w)), (2, .int (-1)), (3, .int 5)], [.ref 49, .ref 49], gh S a b sc27 ar27 lo, ex, 0, 0)) rfl ?_
      refine to_get rfl rfl rfl rfl ?_
      refine to_n 2 (fr' := (115, [(0, .ref 49), (1, .int (nI w)), (2, .int (-1)), (3, .int 5)], [.ref 1000028, .ref 49], gh S a b sc27 ar27 lo, ex, 0, 0)) rfl ?_
      refine to_cp (q := 123) (M1 := an_X10_isWord) (rest := []) rfl rfl (by decide) rfl ⟨_, rfl⟩ (iw_X10_isWord hW hI27 27 (by omega) (pl j) (en_ g sz n j) (rs_le hsm hc102_7 hlen4) hc102_7.2.2.1 hc102_7.2.2.2.2.1 (d + 4)) (fun x29 hx29 => ?_)
      obtain ⟨⟨n29, hn29, rfl⟩, hp29⟩ := hx29
      rw [hc102_8, ob_w (x := (13, -25)) hsm hc102_7 (by decide) (by decide +kernel)] at hp29
      refine to_eq (fr' := (118, [(0, .ref 49), (1, .int (nI w)), (2, .int (-1)), (3, .int 5)], [.int (nI n29)], gh S a b sc27 ar27 lo, ex, 0, 0)) rfl ?_
      refine to_nf_eq (t := 123) (x := n29) rfl (by omega) (fun q30 => ?_) (fun q30 => ?_)
      · refine to_n 2 (fr' := (102, [(0, .ref 49), (1, .int (nI w)), (2, .int (-1)), (3, .int 6)], [], gh S a b sc27 ar27 lo, ex, 0, 0)) rfl ?_
        exact c102_6 (-1) sc27 ar27 (rq_m) hc102_0 hc102_1 hc102_2 hc102_3 hc102_4 hc102_5 hc102_6 hc102_7 hc102_8 hc102_9 (fun _ => ⟨(hc102_10 rfl).1, (hc102_10 rfl).2.1, (hc102_10 rfl).2.2.1, (hc102_10 rfl).2.2.2.1, (hc102_10 rfl).2.2.2.2, or_f hp29 q30⟩) (fun w => absurd rfl w) (fun m hm e => absurd e.symm (nI_neg (by omega) (by decide))) hI27 hF27
      · refine to_n 4 (fr' := (102, [(0, .ref 49), (1, .int (nI w)), (2, .int 5), (3, .int 6)], [], gh S a b sc27 ar27 lo, ex, 0, 0)) rfl ?_
        exact c102_6 5 sc27 ar27 (rq_n (n := 5) (by omega)) hc102_0 hc102_1 hc102_2 hc102_3 hc102_4 hc102_5 (ob_no hsm hc102_7 (or_t hp29 q30 hn29) (by decide)) hc102_7 hc102_8 hc102_9 (fun w => absurd w (by decide)) (fun _ => by rw [or_t hp29 q30 hn29]; decide) (fun m hm e => nm_at (k := 5) hm (by decide) e ((or_t hp29 q30 hn29).trans (by decide))) hI27 hF27
    · refine to_eq (fr' := (102, [(0, .ref 49), (1, .int (nI w)), (2, .int (nI n28)), (3, .int 5)], [], gh S a b sc27 ar27 lo, ex, 0, 0)) rfl ?_
      refine to_n 5 (fr' := (110, [(0, .ref 49), (1, .int (nI w)), (2, .int (nI n28)), (3, .int 5)], [.ref 49, .ref 49], gh S a b sc27 ar27 lo, ex, 0, 0)) rfl ?_
      refine to_get rfl rfl rfl rfl ?_
      refine to_n 2 (fr' := (115, [(0, .ref 49), (1, .int (nI w)), (2, .int (nI n28)), (3, .int 5)], [.ref 1000028, .ref 49], gh S a b sc27 ar27 lo, ex, 0, 0)) rfl ?_
      refine to_cp (q := 123) (M1 := an_X10_isWord) (rest := []) rfl rfl (by decide) rfl ⟨_, rfl⟩ (iw_X10_isWord hW hI27 27 (by omega) (pl j) (en_ g sz n j) (rs_le hsm hc102_7 hlen4) hc102_7.2.2.1 hc102_7.2.2.2.2.1 (d + 4)) (fun x31 hx31 => ?_)
      obtain ⟨⟨n31, hn31, rfl⟩, hp31⟩ := hx31
      rw [hc102_8, ob_w (x := (13, -25)) hsm hc102_7 (by decide) (by decide +kernel)] at hp31
      refine to_eq (fr' := (118, [(0, .ref 49), (1, .int (nI w)), (2, .int (nI n28)), (3, .int 5)], [.int (nI n31)], gh S a b sc27 ar27 lo, ex, 0, 0)) rfl ?_
      refine to_nf_eq (t := 123) (x := n31) rfl (by omega) (fun q32 => ?_) (fun q32 => ?_)
      · refine to_n 2 (fr' := (102, [(0, .ref 49), (1, .int (nI w)), (2, .int (nI n28)), (3, .int 6)], [], gh S a b sc27 ar27 lo, ex, 0, 0)) rfl ?_
        exact c102_6 (nI n28) sc27 ar27 (rq_n (n := n28) (by omega)) hc102_0 hc102_1 hc102_2 hc102_3 hc102_4 hc102_5 hc102_6 hc102_7 hc102_8 hc102_9 (fun w => absurd w (nI_neg (by omega) (by decide))) (fun _ => hc102_11 (nI_neg (by omega) (by decide))) hc102_12 hI27 hF27
      · refine to_n 4 (fr' := (102, [(0, .ref 49), (1, .int (nI w)), (2, .int 5), (3, .int 6)], [], gh S a b sc27 ar27 lo, ex, 0, 0)) rfl ?_
        exact c102_6 5 sc27 ar27 (rq_n (n := 5) (by omega)) hc102_0 hc102_1 hc102_2 hc102_3 hc102_4 hc102_5 (ob_no hsm hc102_7 (or_t hp31 q32 hn31) (by decide)) hc102_7 hc102_8 hc102_9 (fun w => absurd w (by decide)) (fun _ => by rw [or_t hp31 q32 hn31]; decide) (fun m hm e => nm_at (k := 5) hm (by decide) e ((or_t hp31 q32 hn31).trans (by decide))) hI27 hF27
  have c102_4 : ∀ (y : Int32) (sc33 : Nat → Int32) (ar33 : Nat → Nat → Int32), rq y 8 → sc33 4934 = nI c → sc33 4939 = nI B → sc33 4907 = nI l → sc33 4941 = 0 → Pz sc33 → (∀ x, x < 700 * l + c → ar33 71 x = ar 71 x) → ¬ sc33 4937 = 0 → Rs T tk pl g sz n j sc33 → ar33 67 = T → Wc T (pl j) (en_ g sz n j) (tk j) → (y = -1 → (¬ tk j = -20 ∧ ¬ tk j = -21 ∧ ¬ tk j = -22 ∧ ¬ tk j = -23)) → (¬ y = -1 → (tk j ≤ -20 ∧ -27 ≤ tk j)) → (∀ m : Nat, m < 8 → y = nI m → tk j = -20 - nI m) → Iv S sc33 ar33 → Fr [4934, 4935, 4937, 4938, 4939, 4940, 4941, 4942] [71] sc ar sc33 ar33 → ag_To X (d + 5) an_X10_readPart (102, [(0, .ref 49), (1, .int (nI w)), (2, .int y), (3, .int 4)], [], gh S a b sc33 ar33 lo, ex, 0, 0) (qv S a b lo ex (fun sc' ar' => Iv S sc' ar' ∧ Fr [4934, 4935, 4937, 4938, 4939, 4940, 4941, 4942] [71] sc ar sc' ar' ∧ ((∀ x, x < 700 * l + c → ar' 71 x = ar 71 x) ∧ Rd sc' ar' l c B e h ∧ Rx T tk pl g sz n (pPt tk sz E j) sc' ∧ (sc' 4941 = 0 → ∀ c' : Nat, c' ≤ 700 → sc' 4934 = nI c' → sgr (ar' 71) (700 * l + c) (700 * l + c') ((vPt tk sz vE) j))))) := by
    intro y sc33 ar33 hq_y hc102_0 hc102_1 hc102_2 hc102_3 hc102_4 hc102_5 hc102_6 hc102_7 hc102_8 hc102_9 hc102_10 hc102_11 hc102_12 hI33 hF33
    rcases hq_y with rfl | ⟨n34, hn34, rfl⟩
    · refine to_eq (fr' := (102, [(0, .ref 49), (1, .int (nI w)), (2, .int (-1)), (3, .int 4)], [], gh S a b sc33 ar33 lo, ex, 0, 0)) rfl ?_
      refine to_n 5 (fr' := (110, [(0, .ref 49), (1, .int (nI w)), (2, .int (-1)), (3, .int 4)], [.ref 49, .ref 49], gh S a b sc33 ar33 lo, ex, 0, 0)) rfl ?_
      refine to_get rfl rfl rfl rfl ?_
      refine to_n 2 (fr' := (115, [(0, .ref 49), (1, .int (nI w)), (2, .int (-1)), (3, .int 4)], [.ref 1000027, .ref 49], gh S a b sc33 ar33 lo, ex, 0, 0)) rfl ?_
      refine to_cp (q := 123) (M1 := an_X10_isWord) (rest := []) rfl rfl (by decide) rfl ⟨_, rfl⟩ (iw_X10_isWord hW hI33 26 (by omega) (pl j) (en_ g sz n j) (rs_le hsm hc102_7 hlen4) hc102_7.2.2.1 hc102_7.2.2.2.2.1 (d + 4)) (fun x35 hx35 => ?_)
      obtain ⟨⟨n35, hn35, rfl⟩, hp35⟩ := hx35
      rw [hc102_8, ob_w (x := (12, -24)) hsm hc102_7 (by decide) (by decide +kernel)] at hp35
      refine to_eq (fr' := (118, [(0, .ref 49), (1, .int (nI w)), (2, .int (-1)), (3, .int 4)], [.int (nI n35)], gh S a b sc33 ar33 lo, ex, 0, 0)) rfl ?_
      refine to_nf_eq (t := 123) (x := n35) rfl (by omega) (fun q36 => ?_) (fun q36 => ?_)
      · refine to_n 2 (fr' := (102, [(0, .ref 49), (1, .int (nI w)), (2, .int (-1)), (3, .int 5)], [], gh S a b sc33 ar33 lo, ex, 0, 0)) rfl ?_
        exact c102_5 (-1) sc33 ar33 (rq_m) hc102_0 hc102_1 hc102_2 hc102_3 hc102_4 hc102_5 hc102_6 hc102_7 hc102_8 hc102_9 (fun _ => ⟨(hc102_10 rfl).1, (hc102_10 rfl).2.1, (hc102_10 rfl).2.2.1, (hc102_10 rfl).2.2.2, or_f hp35 q36⟩) (fun w => absurd rfl w) (fun m hm e => absurd e.symm (nI_neg (by omega) (by decide))) hI33 hF33
      · refine to_n 4 (fr' := (102, [(0, .ref 49), (1, .int (nI w)), (2, .int 4), (3, .int 5)], [], gh S a b sc33 ar33 lo, ex, 0, 0)) rfl ?_
        exact c102_5 4 sc33 ar33 (rq_n (n := 4) (by omega)) hc102_0 hc102_1 hc102_2 hc102_3 hc102_4 hc102_5 (ob_no hsm hc102_7 (or_t hp35 q36 hn35) (by decide)) hc102_7 hc102_8 hc102_9 (fun w => absurd w (by decide)) (fun _ => by rw [or_t hp35 q36 hn35]; decide) (fun m hm e => nm_at (k := 4) hm (by decide) e ((or_t hp35 q36 hn35).trans (by decide))) hI33 hF33
    · refine to_eq (fr' := (102, [(0, .ref 49), (1, .int (nI w)), (2, .int (nI n34)), (3, .int 4)], [], gh S a b sc33 ar33 lo, ex, 0, 0)) rfl ?_
      refine to_n 5 (fr' := (110, [(0, .ref 49), (1, .int (nI w)), (2, .int (nI n34)), (3, .int 4)], [.ref 49, .ref 49], gh S a b sc33 ar33 lo, ex, 0, 0)) rfl ?_
      refine to_get rfl rfl rfl rfl ?_
      refine to_n 2 (fr' := (115, [(0, .ref 49), (1, .int (nI w)), (2, .int (nI n34)), (3, .int 4)], [.ref 1000027, .ref 49], gh S a b sc33 ar33 lo, ex, 0, 0)) rfl ?_
      refine to_cp (q := 123) (M1 := an_X10_isWord) (rest := []) rfl rfl (by decide) rfl ⟨_, rfl⟩ (iw_X10_isWord hW hI33 26 (by omega) (pl j) (en_ g sz n j) (rs_le hsm hc102_7 hlen4) hc102_7.2.2.1 hc102_7.2.2.2.2.1 (d + 4)) (fun x37 hx37 => ?_)
      obtain ⟨⟨n37, hn37, rfl⟩, hp37⟩ := hx37
      rw [hc102_8, ob_w (x := (12, -24)) hsm hc102_7 (by decide) (by decide +kernel)] at hp37
      refine to_eq (fr' := (118, [(0, .ref 49), (1, .int (nI w)), (2, .int (nI n34)), (3, .int 4)], [.int (nI n37)], gh S a b sc33 ar33 lo, ex, 0, 0)) rfl ?_
      refine to_nf_eq (t := 123) (x := n37) rfl (by omega) (fun q38 => ?_) (fun q38 => ?_)
      · refine to_n 2 (fr' := (102, [(0, .ref 49), (1, .int (nI w)), (2, .int (nI n34)), (3, .int 5)], [], gh S a b sc33 ar33 lo, ex, 0, 0)) rfl ?_
        exact c102_5 (nI n34) sc33 ar33 (rq_n (n := n34) (by omega)) hc102_0 hc102_1 hc102_2 hc102_3 hc102_4 hc102_5 hc102_6 hc102_7 hc102_8 hc102_9 (fun w => absurd w (nI_neg (by omega) (by decide))) (fun _ => hc102_11 (nI_neg (by omega) (by decide))) hc102_12 hI33 hF33
      · refine to_n 4 (fr' := (102, [(0, .ref 49), (1, .int (nI w)), (2, .int 4), (3, .int 5)], [], gh S a b sc33 ar33 lo, ex, 0, 0)) rfl ?_
        exact c102_5 4 sc33 ar33 (rq_n (n := 4) (by omega)) hc102_0 hc102_1 hc102_2 hc102_3 hc102_4 hc102_5 (ob_no hsm hc102_7 (or_t hp37 q38 hn37) (by decide)) hc102_7 hc102_8 hc102_9 (fun w => absurd w (by decide)) (fun _ => by rw [or_t hp37 q38 hn37]; decide) (fun m hm e => nm_at (k := 4) hm (by decide) e ((or_t hp37 q38 hn37).trans (by decide))) hI33 hF33
  have c102_3 : ∀ (y : Int32) (sc39 : Nat → Int32) (ar39 : Nat → Nat → Int32), rq y 8 → sc39 4934 = nI c → sc39 4939 = nI B → sc39 4907 = nI l → sc39 4941 = 0 → Pz sc39 → (∀ x, x < 700 * l + c → ar39 71 x = ar 71 x) → ¬ sc39 4937 = 0 → Rs T tk pl g sz n j sc39 → ar39 67 = T → Wc T (pl j) (en_ g sz n j) (tk j) → (y = -1 → (¬ tk j = -20 ∧ ¬ tk j = -21 ∧ ¬ tk j = -22)) → (¬ y = -1 → (tk j ≤ -20 ∧ -27 ≤ tk j)) → (∀ m : Nat, m < 8 → y = nI m → tk j = -20 - nI m) → Iv S sc39 ar39 → Fr [4934, 4935, 4937, 4938, 4939, 4940, 4941, 4942] [71] sc ar sc39 ar39 → ag_To X (d + 5) an_X10_readPart (102, [(0, .ref 49), (1, .int (nI w)), (2, .int y), (3, .int 3)], [], gh S a b sc39 ar39 lo, ex, 0, 0) (qv S a b lo ex (fun sc' ar' => Iv S sc' ar' ∧ Fr [4934, 4935, 4937, 4938, 4939, 4940, 4941, 4942] [71] sc ar sc' ar' ∧ ((∀ x, x < 700 * l + c → ar' 71 x = ar 71 x) ∧ Rd sc' ar' l c B e h ∧ Rx T tk pl g sz n (pPt tk sz E j) sc' ∧ (sc' 4941 = 0 → ∀ c' : Nat, c' ≤ 700 → sc' 4934 = nI c' → sgr (ar' 71) (700 * l + c) (700 * l + c') ((vPt tk sz vE) j))))) := by
    intro y sc39 ar39 hq_y hc102_0 hc102_1 hc102_2 hc102_3 hc102_4 hc102_5 hc102_6 hc102_7 hc102_8 hc102_9 hc102_10 hc102_11 hc102_12 hI39 hF39
    rcases hq_y with rfl | ⟨n40, hn40, rfl⟩
    · refine to_eq (fr' := (102, [(0, .ref 49), (1, .int (nI w)), (2, .int (-1)), (3, .int 3)], [], gh S a b sc39 ar39 lo, ex, 0, 0)) rfl ?_
      refine to_n 5 (fr' := (110, [(0, .ref 49), (1, .int (nI w)), (2, .int (-1)), (3, .int 3)], [.ref 49, .ref 49], gh S a b sc39 ar39 lo, ex, 0, 0)) rfl ?_
      refine to_get rfl rfl rfl rfl ?_
      refine to_n 2 (fr' := (115, [(0, .ref 49), (1, .int (nI w)), (2, .int (-1)), (3, .int 3)], [.ref 1000026, .ref 49], gh S a b sc39 ar39 lo, ex, 0, 0)) rfl ?_
      refine to_cp (q := 123) (M1 := an_X10_isWord) (rest := []) rfl rfl (by decide) rfl ⟨_, rfl⟩ (iw_X10_isWord hW hI39 25 (by omega) (pl j) (en_ g sz n j) (rs_le hsm hc102_7 hlen4) hc102_7.2.2.1 hc102_7.2.2.2.2.1 (d + 4)) (fun x41 hx41 => ?_)
      obtain ⟨⟨n41, hn41, rfl⟩, hp41⟩ := hx41
      rw [hc102_8, ob_w (x := (11, -23)) hsm hc102_7 (by decide) (by decide +kernel)] at hp41
      refine to_eq (fr' := (118, [(0, .ref 49), (1, .int (nI w)), (2, .int (-1)), (3, .int 3)], [.int (nI n41)], gh S a b sc39 ar39 lo, ex, 0, 0)) rfl ?_
      refine to_nf_eq (t := 123) (x := n41) rfl (by omega) (fun q42 => ?_) (fun q42 => ?_)
      · refine to_n 2 (fr' := (102, [(0, .ref 49), (1, .int (nI w)), (2, .int (-1)), (3, .int 4)], [], gh S a b sc39 ar39 lo, ex, 0, 0)) rfl ?_
        exact c102_4 (-1) sc39 ar39 (rq_m) hc102_0 hc102_1 hc102_2 hc102_3 hc102_4 hc102_5 hc102_6 hc102_7 hc102_8 hc102_9 (fun _ => ⟨(hc102_10 rfl).1, (hc102_10 rfl).2.1, (hc102_10 rfl).2.2, or_f hp41 q42⟩) (fun w => absurd rfl w) (fun m hm e => absurd e.symm (nI_neg (by omega) (by decide))) hI39 hF39
      · refine to_n 4 (fr' := (102, [(0, .ref 49), (1, .int (nI w)), (2, .int 3), (3, .int 4)], [], gh S a b sc39 ar39 lo, ex, 0, 0)) rfl ?_
        exact c102_4 3 sc39 ar39 (rq_n (n := 3) (by omega)) hc102_0 hc102_1 hc102_2 hc102_3 hc102_4 hc102_5 (ob_no hsm hc102_7 (or_t hp41 q42 hn41) (by decide)) hc102_7 hc102_8 hc102_9 (fun w => absurd w (by decide)) (fun _ => by rw [or_t hp41 q42 hn41]; decide) (fun m hm e => nm_at (k := 3) hm (by decide) e ((or_t hp41 q42 hn41).trans (by decide))) hI39 hF39
    · refine to_eq (fr' := (102, [(0, .ref 49), (1, .int (nI w)), (2, .int (nI n40)), (3, .int 3)], [], gh S a b sc39 ar39 lo, ex, 0, 0)) rfl ?_
      refine to_n 5 (fr' := (110, [(0, .ref 49), (1, .int (nI w)), (2, .int (nI n40)), (3, .int 3)], [.ref 49, .ref 49], gh S a b sc39 ar39 lo, ex, 0, 0)) rfl ?_
      refine to_get rfl rfl rfl rfl ?_
      refine to_n 2 (fr' := (115, [(0, .ref 49), (1, .int (nI w)), (2, .int (nI n40)), (3, .int 3)], [.ref 1000026, .ref 49], gh S a b sc39 ar39 lo, ex, 0, 0)) rfl ?_
      refine to_cp (q := 123) (M1 := an_X10_isWord) (rest := []) rfl rfl (by decide) rfl ⟨_, rfl⟩ (iw_X10_isWord hW hI39 25 (by omega) (pl j) (en_ g sz n j) (rs_le hsm hc102_7 hlen4) hc102_7.2.2.1 hc102_7.2.2.2.2.1 (d + 4)) (fun x43 hx43 => ?_)
      obtain ⟨⟨n43, hn43, rfl⟩, hp43⟩ := hx43
      rw [hc102_8, ob_w (x := (11, -23)) hsm hc102_7 (by decide) (by decide +kernel)] at hp43
      refine to_eq (fr' := (118, [(0, .ref 49), (1, .int (nI w)), (2, .int (nI n40)), (3, .int 3)], [.int (nI n43)], gh S a b sc39 ar39 lo, ex, 0, 0)) rfl ?_
      refine to_nf_eq (t := 123) (x := n43) rfl (by omega) (fun q44 => ?_) (fun q44 => ?_)
      · refine to_n 2 (fr' := (102, [(0, .ref 49), (1, .int (nI w)), (2, .int (nI n40)), (3, .int 4)], [], gh S a b sc39 ar39 lo, ex, 0, 0)) rfl ?_
        exact c102_4 (nI n40) sc39 ar39 (rq_n (n := n40) (by omega)) hc102_0 hc102_1 hc102_2 hc102_3 hc102_4 hc102_5 hc102_6 hc102_7 hc102_8 hc102_9 (fun w => absurd w (nI_neg (by omega) (by decide))) (fun _ => hc102_11 (nI_neg (by omega) (by decide))) hc102_12 hI39 hF39
      · refine to_n 4 (fr' := (102, [(0, .ref 49), (1, .int (nI w)), (2, .int 3), (3, .int 4)], [], gh S a b sc39 ar39 lo, ex, 0, 0)) rfl ?_
        exact c102_4 3 sc39 ar39 (rq_n (n := 3) (by omega)) hc102_0 hc102_1 hc102_2 hc102_3 hc102_4 hc102_5 (ob_no hsm hc102_7 (or_t hp43 q44 hn43) (by decide)) hc102_7 hc102_8 hc102_9 (fun w => absurd w (by decide)) (fun _ => by rw [or_t hp43 q44 hn43]; decide) (fun m hm e => nm_at (k := 3) hm (by decide) e ((or_t hp43 q44 hn43).trans (by decide))) hI39 hF39
  have c102_2 : ∀ (y : Int32) (sc45 : Nat → Int32) (ar45 : Nat → Nat → Int32), rq y 8 → sc45 4934 = nI c → sc45 4939 = nI B → sc45 4907 = nI l → sc45 4941 = 0 → Pz sc45 → (∀ x, x < 700 * l + c → ar45 71 x = ar 71 x) → ¬ sc45 4937 = 0 → Rs T tk pl g sz n j sc45 → ar45 67 = T → Wc T (pl j) (en_ g sz n j) (tk j) → (y = -1 → (¬ tk j = -20 ∧ ¬ tk j = -21)) → (¬ y = -1 → (tk j ≤ -20 ∧ -27 ≤ tk j)) → (∀ m : Nat, m < 8 → y = nI m → tk j = -20 - nI m) → Iv S sc45 ar45 → Fr [4934, 4935, 4937, 4938, 4939, 4940, 4941, 4942] [71] sc ar sc45 ar45 → ag_To X (d + 5) an_X10_readPart (102, [(0, .ref 49), (1, .int (nI w)), (2, .int y), (3, .int 2)], [], gh S a b sc45 ar45 lo, ex, 0, 0) (qv S a b lo ex (fun sc' ar' => Iv S sc' ar' ∧ Fr [4934, 4935, 4937, 4938, 4939, 4940, 4941, 4942] [71] sc ar sc' ar' ∧ ((∀ x, x < 700 * l + c → ar' 71 x = ar 71 x) ∧ Rd sc' ar' l c B e h ∧ Rx T tk pl g sz n (pPt tk sz E j) sc' ∧ (sc' 4941 = 0 → ∀ c' : Nat, c' ≤ 700 → sc' 4934 = nI c' → sgr (ar' 71) (700 * l + c) (700 * l + c') ((vPt tk sz vE) j))))) := by
    intro y sc45 ar45 hq_y hc102_0 hc102_1 hc102_2 hc102_3 hc102_4 hc102_5 hc102_6 hc102_7 hc102_8 hc102_9 hc102_10 hc102_11 hc102_12 hI45 hF45
    rcases hq_y with rfl | ⟨n46, hn46, rfl⟩
    · refine to_eq (fr' := (102, [(0, .ref 49), (1, .int (nI w)), (2, .int (-1)), (3, .int 2)], [], gh S a b sc45 ar45 lo, ex, 0, 0)) rfl ?_
      refine to_n 5 (fr' := (110, [(0, .ref 49), (1, .int (nI w)), (2, .int (-1)), (3, .int 2)], [.ref 49, .ref 49], gh S a b sc45 ar45 lo, ex, 0, 0)) rfl ?_
      refine to_get rfl rfl rfl rfl ?_
      refine to_n 2 (fr' := (115, [(0, .ref 49), (1, .int (nI w)), (2, .int (-1)), (3, .int 2)], [.ref 1000025, .ref 49], gh S a b sc45 ar45 lo, ex, 0, 0)) rfl ?_
      refine to_cp (q := 123) (M1 := an_X10_isWord) (rest := []) rfl rfl (by decide) rfl ⟨_, rfl⟩ (iw_X10_isWord hW hI45 24 (by omega) (pl j) (en_ g sz n j) (rs_le hsm hc102_7 hlen4) hc102_7.2.2.1 hc102_7.2.2.2.2.1 (d + 4)) (fun x47 hx47 => ?_)
      obtain ⟨⟨n47, hn47, rfl⟩, hp47⟩ := hx47
      rw [hc102_8, ob_w (x := (10, -22)) hsm hc102_7 (by decide) (by decide +kernel)] at hp47
      refine to_eq (fr' := (118, [(0, .ref 49), (1, .int (nI w)), (2, .int (-1)), (3, .int 2)], [.int (nI n47)], gh S a b sc45 ar45 lo, ex, 0, 0)) rfl ?_
      refine to_nf_eq (t := 123) (x := n47) rfl (by omega) (fun q48 => ?_) (fun q48 => ?_)
      · refine to_n 2 (fr' := (102, [(0, .ref 49), (1, .int (nI w)), (2, .int (-1)), (3, .int 3)], [], gh S a b sc45 ar45 lo, ex, 0, 0)) rfl ?_
        exact c102_3 (-1) sc45 ar45 (rq_m) hc102_0 hc102_1 hc102_2 hc102_3 hc102_4 hc102_5 hc102_6 hc102_7 hc102_8 hc102_9 (fun _ => ⟨(hc102_10 rfl).1, (hc102_10 rfl).2, or_f hp47 q48⟩) (fun w => absurd rfl w) (fun m hm e => absurd e.symm (nI_neg (by omega) (by decide))) hI45 hF45
      · refine to_n 4 (fr' := (102, [(0, .ref 49), (1, .int (nI w)), (2, .int 2), (3, .int 3)], [], gh S a b sc45 ar45 lo, ex, 0, 0)) rfl ?_
        exact c102_3 2 sc45 ar45 (rq_n (n := 2) (by omega)) hc102_0 hc102_1 hc102_2 hc102_3 hc102_4 hc102_5 (ob_no hsm hc102_7 (or_t hp47 q48 hn47) (by decide)) hc102_7 hc102_8 hc102_9 (fun w => absurd w (by decide)) (fun _ => by rw [or_t hp47 q48 hn47]; decide) (fun m hm e => nm_at (k := 2) hm (by decide) e ((or_t hp47 q48 hn47).trans (by decide))) hI45 hF45
    · refine to_eq (fr' := (102, [(0, .ref 49), (1, .int (nI w)), (2, .int (nI n46)), (3, .int 2)], [], gh S a b sc45 ar45 lo, ex, 0, 0)) rfl ?_
      refine to_n 5 (fr' := (110, [(0, .ref 49), (1, .int (nI w)), (2, .int (nI n46)), (3, .int 2)], [.ref 49, .ref 49], gh S a b sc45 ar45 lo, ex, 0, 0)) rfl ?_
      refine to_get rfl rfl rfl rfl ?_
      refine to_n 2 (fr' := (115, [(0, .ref 49), (1, .int (nI w)), (2, .int (nI n46)), (3, .int 2)], [.ref 1000025, .ref 49], gh S a b sc45 ar45 lo, ex, 0, 0)) rfl ?_
      refine to_cp (q := 123) (M1 := an_X10_isWord) (rest := []) rfl rfl (by decide) rfl ⟨_, rfl⟩ (iw_X10_isWord hW hI45 24 (by omega) (pl j) (en_ g sz n j) (rs_le hsm hc102_7 hlen4) hc102_7.2.2.1 hc102_7.2.2.2.2.1 (d + 4)) (fun x49 hx49 => ?_)
      obtain ⟨⟨n49, hn49, rfl⟩, hp49⟩ := hx49
      rw [hc102_8, ob_w (x := (10, -22)) hsm hc102_7 (by decide) (by decide +kernel)] at hp49
      refine to_eq (fr' := (118, [(0, .ref 49), (1, .int (nI w)), (2, .int (nI n46)), (3, .int 2)], [.int (nI n49)], gh S a b sc45 ar45 lo, ex, 0, 0)) rfl ?_
      refine to_nf_eq (t := 123) (x := n49) rfl (by omega) (fun q50 => ?_) (fun q50 => ?_)
      · refine to_n 2 (fr' := (102, [(0, .ref 49), (1, .int (nI w)), (2, .int (nI n46)), (3, .int 3)], [], gh S a b sc45 ar45 lo, ex, 0, 0)) rfl ?_
        exact c102_3 (nI n46) sc45 ar45 (rq_n (n := n46) (by omega)) hc102_0 hc102_1 hc102_2 hc102_3 hc102_4 hc102_5 hc102_6 hc102_7 hc102_8 hc102_9 (fun w => absurd w (nI_neg (by omega) (by decide))) (fun _ => hc102_11 (nI_neg (by omega) (by decide))) hc102_12 hI45 hF45
      · refine to_n 4 (fr' := (102, [(0, .ref 49), (1, .int (nI w)), (2, .int 2), (3, .int 3)], [], gh S a b sc45 ar45 lo, ex, 0, 0)) rfl ?_
        exact c102_3 2 sc45 ar45 (rq_n (n := 2) (by omega)) hc102_0 hc102_1 hc102_2 hc102_3 hc102_4 hc102_5 (ob_no hsm hc102_7 (or_t hp49 q50 hn49) (by decide)) hc102_7 hc102_8 hc102_9 (fun w => absurd w (by decide)) (fun _ => by rw [or_t hp49 q50 hn49]; decide) (fun m hm e => nm_at (k := 2) hm (by decide) e ((or_t hp49 q50 hn49).trans (by decide))) hI45 hF45
  have c102_1 : ∀ (y : Int32) (sc51 : Nat → Int32) (ar51 : Nat → Nat → Int32), rq y 8 → sc51 4934 = nI c → sc51 4939 = nI B → sc51 4907 = nI l → sc51 4941 = 0 → Pz sc51 → (∀ x, x < 700 * l + c → ar51 71 x = ar 71 x) → ¬ sc51 4937 = 0 → Rs T tk pl g sz n j sc51 → ar51 67 = T → Wc T (pl j) (en_ g sz n j) (tk j) → (y = -1 → (¬ tk j = -20)) → (¬ y = -1 → (tk j ≤ -20 ∧ -27 ≤ tk j)) → (∀ m : Nat, m < 8 → y = nI m → tk j = -20 - nI m) → Iv S sc51 ar51 → Fr [4934, 4935, 4937, 4938, 4939, 4940, 4941, 4942] [71] sc ar sc51 ar51 → ag_To X (d + 5) an_X10_readPart (102, [(0, .ref 49), (1, .int (nI w)), (2, .int y), (3, .int 1)], [], gh S a b sc51 ar51 lo, ex, 0, 0) (qv S a b lo ex (fun sc' ar' => Iv S sc' ar' ∧ Fr [4934, 4935, 4937, 4938, 4939, 4940, 4941, 4942] [71] sc ar sc' ar' ∧ ((∀ x, x < 700 * l + c → ar' 71 x = ar 71 x) ∧ Rd sc' ar' l c B e h ∧ Rx T tk pl g sz n (pPt tk sz E j) sc' ∧ (sc' 4941 = 0 → ∀ c' : Nat, c' ≤ 700 → sc' 4934 = nI c' → sgr (ar' 71) (700 * l + c) (700 * l + c') ((vPt tk sz vE) j))))) := by
    intro y sc51 ar51 hq_y hc102_0 hc102_1 hc102_2 hc102_3 hc102_4 hc102_5 hc102_6 hc102_7 hc102_8 hc102_9 hc102_10 hc102_11 hc102_12 hI51 hF51
    rcases hq_y with rfl | ⟨n52, hn52, rfl⟩
    · refine to_eq (fr' := (102, [(0, .ref 49), (1, .int (nI w)), (2, .int (-1)), (3, .int 1)], [], gh S a b sc51 ar51 lo, ex, 0, 0)) rfl ?_
      refine to_n 5 (fr' := (110, [(0, .ref 49), (1, .int (nI w)), (2, .int (-1)), (3, .int 1)], [.ref 49, .ref 49], gh S a b sc51 ar51 lo, ex, 0, 0)) rfl ?_
      refine to_get rfl rfl rfl rfl ?_
      refine to_n 2 (fr' := (115, [(0, .ref 49), (1, .int (nI w)), (2, .int (-1)), (3, .int 1)], [.ref 1000024, .ref 49], gh S a b sc51 ar51 lo, ex, 0, 0)) rfl ?_
      refine to_cp (q := 123) (M1 := an_X10_isWord) (rest := []) rfl rfl (by decide) rfl ⟨_, rfl⟩ (iw_X10_isWord hW hI51 23 (by omega) (pl j) (en_ g sz n j) (rs_le hsm hc102_7 hlen4) hc102_7.2.2.1 hc102_7.2.2.2.2.1 (d + 4)) (fun x53 hx53 => ?_)
      obtain ⟨⟨n53, hn53, rfl⟩, hp53⟩ := hx53
      rw [hc102_8, ob_w (x := (9, -21)) hsm hc102_7 (by decide) (by decide +kernel)] at hp53
      refine to_eq (fr' := (118, [(0, .ref 49), (1, .int (nI w)), (2, .int (-1)), (3, .int 1)], [.int (nI n53)], gh S a b sc51 ar51 lo, ex, 0, 0)) rfl ?_
      refine to_nf_eq (t := 123) (x := n53) rfl (by omega) (fun q54 => ?_) (fun q54 => ?_)
      · refine to_n 2 (fr' := (102, [(0, .ref 49), (1, .int (nI w)), (2, .int (-1)), (3, .int 2)], [], gh S a b sc51 ar51 lo, ex, 0, 0)) rfl ?_
        exact c102_2 (-1) sc51 ar51 (rq_m) hc102_0 hc102_1 hc102_2 hc102_3 hc102_4 hc102_5 hc102_6 hc102_7 hc102_8 hc102_9 (fun _ => ⟨(hc102_10 rfl), or_f hp53 q54⟩) (fun w => absurd rfl w) (fun m hm e => absurd e.symm (nI_neg (by omega) (by decide))) hI51 hF51
      · refine to_n 4 (fr' := (102, [(0, .ref 49), (1, .int (nI w)), (2, .int 1), (3, .int 2)], [], gh S a b sc51 ar51 lo, ex, 0, 0)) rfl ?_
        exact c102_2 1 sc51 ar51 (rq_n (n := 1) (by omega)) hc102_0 hc102_1 hc102_2 hc102_3 hc102_4 hc102_5 (ob_no hsm hc102_7 (or_t hp53 q54 hn53) (by decide)) hc102_7 hc102_8 hc102_9 (fun w => absurd w (by decide)) (fun _ => by rw [or_t hp53 q54 hn53]; decide) (fun m hm e => nm_at (k := 1) hm (by decide) e ((or_t hp53 q54 hn53).trans (by decide))) hI51 hF51
    · refine to_eq (fr' := (102, [(0, .ref 49), (1, .int (nI w)), (2, .int (nI n52)), (3, .int 1)], [], gh S a b sc51 ar51 lo, ex, 0, 0)) rfl ?_
      refine to_n 5 (fr' := (110, [(0, .ref 49), (1, .int (nI w)), (2, .int (nI n52)), (3, .int 1)], [.ref 49, .ref 49], gh S a b sc51 ar51 lo, ex, 0, 0)) rfl ?_
      refine to_get rfl rfl rfl rfl ?_
      refine to_n 2 (fr' := (115, [(0, .ref 49), (1, .int (nI w)), (2, .int (nI n52)), (3, .int 1)], [.ref 1000024, .ref 49], gh S a b sc51 ar51 lo, ex, 0, 0)) rfl ?_
      refine to_cp (q := 123) (M1 := an_X10_isWord) (rest := []) rfl rfl (by decide) rfl ⟨_, rfl⟩ (iw_X10_isWord hW hI51 23 (by omega) (pl j) (en_ g sz n j) (rs_le hsm hc102_7 hlen4) hc102_7.2.2.1 hc102_7.2.2.2.2.1 (d + 4)) (fun x55 hx55 => ?_)
      obtain ⟨⟨n55, hn55, rfl⟩, hp55⟩ := hx55
      rw [hc102_8, ob_w (x := (9, -21)) hsm hc102_7 (by decide) (by decide +kernel)] at hp55
      refine to_eq (fr' := (118, [(0, .ref 49), (1, .int (nI w)), (2, .int (nI n52)), (3, .int 1)], [.int (nI n55)], gh S a b sc51 ar51 lo, ex, 0, 0)) rfl ?_
      refine to_nf_eq (t := 123) (x := n55) rfl (by omega) (fun q56 => ?_) (fun q56 => ?_)
      · refine to_n 2 (fr' := (102, [(0, .ref 49), (1, .int (nI w)), (2, .int (nI n52)), (3, .int 2)], [], gh S a b sc51 ar51 lo, ex, 0, 0)) rfl ?_
        exact c102_2 (nI n52) sc51 ar51 (rq_n (n := n52) (by omega)) hc102_0 hc102_1 hc102_2 hc102_3 hc102_4 hc102_5 hc102_6 hc102_7 hc102_8 hc102_9 (fun w => absurd w (nI_neg (by omega) (by decide))) (fun _ => hc102_11 (nI_neg (by omega) (by decide))) hc102_12 hI51 hF51
      · refine to_n 4 (fr' := (102, [(0, .ref 49), (1, .int (nI w)), (2, .int 1), (3, .int 2)], [], gh S a b sc51 ar51 lo, ex, 0, 0)) rfl ?_
        exact c102_2 1 sc51 ar51 (rq_n (n := 1) (by omega)) hc102_0 hc102_1 hc102_2 hc102_3 hc102_4 hc102_5 (ob_no hsm hc102_7 (or_t hp55 q56 hn55) (by decide)) hc102_7 hc102_8 hc102_9 (fun w => absurd w (by decide)) (fun _ => by rw [or_t hp55 q56 hn55]; decide) (fun m hm e => nm_at (k := 1) hm (by decide) e ((or_t hp55 q56 hn55).trans (by decide))) hI51 hF51
  refine to_n 1 (fr' := (1, [(0, .ref 49), (1, .int (nI w))], [.ref 49], gh S a b sc ar lo, ex, 0, 0)) rfl ?_
  refine to_getR (v := 0) rfl rfl rfl rfl eb ?_
  refine to_n 2 (fr' := (9, [(0, .ref 49), (1, .int (nI w))], [.ref 49], gh S a b sc ar lo, ex, 0, 0)) rfl ?_
  refine to_getR (v := (sc 4937)) rfl rfl rfl rfl rfl ?_
  refine to_n 1 (fr' := (13, [(0, .ref 49), (1, .int (nI w))], [.int 2, .int (sc 4937)], gh S a b sc ar lo, ex, 0, 0)) rfl ?_
  refine to_ic_ne (t := 90) rfl (fun q57 => ?_) (fun q57 => ?_)
  · refine to_n 1 (fr' := (91, [(0, .ref 49), (1, .int (nI w))], [.ref 49], gh S a b sc ar lo, ex, 0, 0)) rfl ?_
    refine to_getR (v := (sc 4937)) rfl rfl rfl rfl rfl ?_
    refine to_n 1 (fr' := (95, [(0, .ref 49), (1, .int (nI w))], [.int 1, .int (sc 4937)], gh S a b sc ar lo, ex, 0, 0)) rfl ?_
    refine to_ic_ne (t := 150) rfl (fun q58 => ?_) (fun q58 => ?_)
    · refine to_n 2 (fr' := (153, [(0, .ref 49), (1, .int (nI w))], [.int 40, .ref 49], gh S a b sc ar lo, ex, 0, 0)) rfl ?_
      refine to_cp (q := 124) (M1 := an_X10_isSign) (rest := []) rfl rfl (by decide) rfl ⟨_, rfl⟩ (is_X10_isSign hW hI 40 (d + 4)) (fun x59 hx59 => ?_)
      obtain ⟨⟨n59, hn59, rfl⟩, hp59⟩ := hx59
      rw [ob_s (x := (40, -4)) hsm hr (by decide)] at hp59
      refine to_eq (fr' := (156, [(0, .ref 49), (1, .int (nI w))], [.int (nI n59)], gh S a b sc ar lo, ex, 0, 0)) rfl ?_
      refine to_nf_eq (t := 194) (x := n59) rfl (by omega) (fun q60 => ?_) (fun q60 => ?_)
      · refine to_n 2 (fr' := (196, [(0, .ref 49), (1, .int (nI w))], [.int 1, .ref 49], gh S a b sc ar lo, ex, 0, 0)) rfl ?_
        refine to_cv (q := 125) (M1 := an_X10_wrong) (rest := []) rfl rfl (by decide) rfl ⟨_, rfl⟩ (sf_X10_wrong hW hI 1 (d + 4)) (fun sc61 ar61 hx61 => ?_)
        obtain ⟨hI61, hG61, hx61⟩ := hx61
        have hb61 := hx61.1 (by decide)
        have bp61 : sc61 4942 = nI (pl j) := (hx61.2 eb).trans hr.2.2.1
        have k61_4907 : sc61 4907 = (nI l) := (hG61.1 4907 (by decide)).trans el
        have k61_4934 : sc61 4934 = (nI c) := (hG61.1 4934 (by decide)).trans ec
        have k61_4939 : sc61 4939 = (nI B) := (hG61.1 4939 (by decide)).trans eB
        have hk61 : ∀ x, x < 700 * l + c → ar61 71 x = ar 71 x := kp_st (fun _ _ => rfl) hG61 (by decide)
        have hF61 := fr_t hF hG61 (by decide) (by decide)
        refine to_eq (fr' := (199, [(0, .ref 49), (1, .int (nI w))], [], gh S a b sc61 ar61 lo, ex, 0, 0)) rfl ?_
        refine to_n 1 (fr' := (200, [(0, .ref 49), (1, .int (nI w))], [.ref 49], gh S a b sc61 ar61 lo, ex, 0, 0)) rfl ?_
        refine to_getR (v := (sc61 4941)) rfl rfl rfl rfl rfl ?_
        refine to_if_ne_T (t := 210) rfl hb61 ?_
        exact to_rt (i := .return_) (tg := []) rfl rfl ⟨_, _, ⟨hI61, hF61, ⟨hk61, Or.inl hb61, Or.inr ⟨hb61, j, (by simp only [pPt, if_neg (or_f hp59 q60), if_neg (nn_x (ob_x hsm hr q58 q57))]), bp61⟩, fun w => absurd w hb61⟩⟩, rfl⟩
      · refine to_n 1 (fr' := (160, [(0, .ref 49), (1, .int (nI w))], [.ref 49], gh S a b sc ar lo, ex, 0, 0)) rfl ?_
        refine to_cv (q := 122) (M1 := an_X10_step) (rest := []) rfl rfl (by decide) rfl ⟨_, rfl⟩ (st_nextx hW hI eB (by omega) hz (ob_no hsm hr (or_t hp59 q60 hn59) (by decide)) hsm hlen4 hne hT hr (d + 3)) (fun sc62 ar62 hx62 => ?_)
        obtain ⟨hI62, hG62, hz62, ⟨B62, eB62, hB62, hC62⟩, rs62⟩ := hx62
        have t62 : ar62 67 = T := (hG62.2 67 (by decide)).trans hT
        have k62_4907 : sc62 4907 = (nI l) := (hG62.1 4907 (by decide)).trans el
        have k62_4934 : sc62 4934 = (nI c) := (hG62.1 4934 (by decide)).trans ec
        have k62_4941 : sc62 4941 = 0 := (hG62.1 4941 (by decide)).trans eb
        have hk62 : ∀ x, x < 700 * l + c → ar62 71 x = ar 71 x := kp_st (fun _ _ => rfl) hG62 (by decide)
        have hF62 := fr_t hF hG62 (by decide) (by decide)
        refine to_eq (fr' := (163, [(0, .ref 49), (1, .int (nI w))], [], gh S a b sc62 ar62 lo, ex, 0, 0)) rfl ?_
        refine to_n 3 (fr' := (166, [(0, .ref 49), (1, .int (nI w))], [.int 1, .int (nI w), .ref 49], gh S a b sc62 ar62 lo, ex, 0, 0)) rfl ?_
        refine to_addN (x := w) (y := 1) rfl ?_
        refine to_cv (q := 128) (M1 := an_X10_readExpression) (rest := []) rfl rfl (by decide) rfl ⟨_, rfl⟩ (hE sc62 ar62 l c (e + 2) B62 (ad_ sz j) hI62 (by omega) k62_4907 k62_4934 eB62 (by omega) k62_4941 hz62 (by omega) t62 rs62) (fun sc63 ar63 hx63 => ?_)
        obtain ⟨hI63, hG63, hu63, hr63, hy63, hd63⟩ := hx63
        have k63_4907 : sc63 4907 = nI l := (hG63.1 4907 (by decide)).trans k62_4907
        have hk63 : ∀ x, x < 700 * l + c → ar63 71 x = ar 71 x := fun x w => (hu63 x (by omega)).trans (hk62 x w)
        have hF63 := fr_t hF62 hG63 (by decide) (by decide)
        have t63 : ar63 67 = T := (hG63.2 67 (by decide)).trans t62
        rcases hy63 with ⟨hb63, k63, ey63, rs63⟩ | ⟨hb63, k63, ey63, bp63⟩
        · rcases hr63 with hbb63 | ⟨-, hz63, c63, B63, ec63, eB63, hcc63, hBB63, hB63, hpo63, sg63⟩
          · exact absurd hb63 hbb63
          · have sd63 := hd63 hb63 c63 (by omega) ec63
            refine to_eq (fr' := (170, [(0, .ref 49), (1, .int (nI w))], [], gh S a b sc63 ar63 lo, ex, 0, 0)) rfl ?_
            refine to_n 1 (fr' := (171, [(0, .ref 49), (1, .int (nI w))], [.ref 49], gh S a b sc63 ar63 lo, ex, 0, 0)) rfl ?_
            refine to_getR (v := 0) rfl rfl rfl rfl hb63 ?_
            refine to_n 3 (fr' := (180, [(0, .ref 49), (1, .int (nI w))], [.int 41, .ref 49], gh S a b sc63 ar63 lo, ex, 0, 0)) rfl ?_
            refine to_cp (q := 124) (M1 := an_X10_isSign) (rest := []) rfl rfl (by decide) rfl ⟨_, rfl⟩ (is_X10_isSign hW hI63 41 (d + 4)) (fun x64 hx64 => ?_)
            obtain ⟨⟨n64, hn64, rfl⟩, hp64⟩ := hx64
            rw [ob_s (x := (41, -5)) hsm rs63 (by decide)] at hp64
            refine to_eq (fr' := (183, [(0, .ref 49), (1, .int (nI w))], [.int (nI n64)], gh S a b sc63 ar63 lo, ex, 0, 0)) rfl ?_
            refine to_nf_ne (t := 199) (x := n64) rfl (by omega) (fun q65 => ?_) (fun q65 => ?_)
            · refine to_n 1 (fr' := (200, [(0, .ref 49), (1, .int (nI w))], [.ref 49], gh S a b sc63 ar63 lo, ex, 0, 0)) rfl ?_
              refine to_getR (v := 0) rfl rfl rfl rfl hb63 ?_
              refine to_n 2 (fr' := (207, [(0, .ref 49), (1, .int (nI w))], [.ref 49], gh S a b sc63 ar63 lo, ex, 0, 0)) rfl ?_
              refine to_cv (q := 122) (M1 := an_X10_step) (rest := []) rfl rfl (by decide) rfl ⟨_, rfl⟩ (st_nextx hW hI63 eB63 (by omega) hz63 (ob_no hsm rs63 (or_t hp64 q65 hn64) (by decide)) hsm hlen4 hne t63 rs63 (d + 3)) (fun sc66 ar66 hx66 => ?_)
              obtain ⟨hI66, hG66, hz66, ⟨B66, eB66, hB66, hC66⟩, rs66⟩ := hx66
              have t66 : ar66 67 = T := (hG66.2 67 (by decide)).trans t63
              have k66_4907 : sc66 4907 = (nI l) := (hG66.1 4907 (by decide)).trans k63_4907
              have k66_4934 : sc66 4934 = (nI c63) := (hG66.1 4934 (by decide)).trans ec63
              have k66_4941 : sc66 4941 = 0 := (hG66.1 4941 (by decide)).trans hb63
              have hk66 : ∀ x, x < 700 * l + c → ar66 71 x = ar 71 x := kp_st hk63 hG66 (by decide)
              have sg66_0 := sg_st sg63 hG66 (by decide)
              have sd66_0 := sgr_st sd63 hG66 (by decide)
              have hF66 := fr_t hF63 hG66 (by decide) (by decide)
              refine to_eq (fr' := (210, [(0, .ref 49), (1, .int (nI w))], [], gh S a b sc66 ar66 lo, ex, 0, 0)) rfl ?_
              exact to_rt (i := .return_) (tg := []) rfl rfl ⟨_, _, ⟨hI66, hF66, ⟨hk66, Or.inr ⟨k66_4941, hz66, c63, B66, k66_4934, eB66, by omega, by omega, by omega, by omega, seg_le sg66_0 (by omega)⟩, Or.inl ⟨k66_4941, (ad_ sz k63), (by simp only [pPt, if_pos (or_t hp59 q60 hn59), ey63, if_pos (or_t hp64 q65 hn64)]), rs66⟩, fun _ cq hq9 eq9 => (show c63 = cq from (nI_eq (by omega) (by omega)).mp ((k66_4934).symm.trans eq9)) ▸ sgr_v sd66_0 (by simp only [vPt, if_pos (or_t hp59 q60 hn59)])⟩⟩, rfl⟩
            · refine to_n 2 (fr' := (188, [(0, .ref 49), (1, .int (nI w))], [.int 1, .ref 49], gh S a b sc63 ar63 lo, ex, 0, 0)) rfl ?_
              refine to_cv (q := 125) (M1 := an_X10_wrong) (rest := []) rfl rfl (by decide) rfl ⟨_, rfl⟩ (sf_X10_wrong hW hI63 1 (d + 4)) (fun sc67 ar67 hx67 => ?_)
              obtain ⟨hI67, hG67, hx67⟩ := hx67
              have hb67 := hx67.1 (by decide)
              have bp67 : sc67 4942 = nI (pl k63) := (hx67.2 hb63).trans rs63.2.2.1
              have k67_4907 : sc67 4907 = (nI l) := (hG67.1 4907 (by decide)).trans k63_4907
              have k67_4934 : sc67 4934 = (nI c63) := (hG67.1 4934 (by decide)).trans ec63
              have k67_4939 : sc67 4939 = (nI B63) := (hG67.1 4939 (by decide)).trans eB63
              have hk67 : ∀ x, x < 700 * l + c → ar67 71 x = ar 71 x := kp_st hk63 hG67 (by decide)
              have sg67_0 := sg_st sg63 hG67 (by decide)
              have sd67_0 := sgr_st sd63 hG67 (by decide)
              have hF67 := fr_t hF63 hG67 (by decide) (by decide)
              refine to_eq (fr' := (191, [(0, .ref 49), (1, .int (nI w))], [], gh S a b sc67 ar67 lo, ex, 0, 0)) rfl ?_
              refine to_n 2 (fr' := (200, [(0, .ref 49), (1, .int (nI w))], [.ref 49], gh S a b sc67 ar67 lo, ex, 0, 0)) rfl ?_
              refine to_getR (v := (sc67 4941)) rfl rfl rfl rfl rfl ?_
              refine to_if_ne_T (t := 210) rfl hb67 ?_
              exact to_rt (i := .return_) (tg := []) rfl rfl ⟨_, _, ⟨hI67, hF67, ⟨hk67, Or.inl hb67, Or.inr ⟨hb67, k63, (by simp only [pPt, if_pos (or_t hp59 q60 hn59), ey63, if_neg (or_f hp64 q65)]), bp67⟩, fun w => absurd w hb67⟩⟩, rfl⟩
        · refine to_eq (fr' := (170, [(0, .ref 49), (1, .int (nI w))], [], gh S a b sc63 ar63 lo, ex, 0, 0)) rfl ?_
          refine to_n 1 (fr' := (171, [(0, .ref 49), (1, .int (nI w))], [.ref 49], gh S a b sc63 ar63 lo, ex, 0, 0)) rfl ?_
          refine to_getR (v := (sc63 4941)) rfl rfl rfl rfl rfl ?_
          refine to_if_ne_T (t := 199) rfl hb63 ?_
          refine to_n 1 (fr' := (200, [(0, .ref 49), (1, .int (nI w))], [.ref 49], gh S a b sc63 ar63 lo, ex, 0, 0)) rfl ?_
          refine to_getR (v := (sc63 4941)) rfl rfl rfl rfl rfl ?_
          refine to_if_ne_T (t := 210) rfl hb63 ?_
          exact to_rt (i := .return_) (tg := []) rfl rfl ⟨_, _, ⟨hI63, hF63, ⟨hk63, Or.inl hb63, Or.inr ⟨hb63, k63, (by simp only [pPt, if_pos (or_t hp59 q60 hn59), ey63]), bp63⟩, fun w => absurd w hb63⟩⟩, rfl⟩
    · refine to_n 9 (fr' := (110, [(0, .ref 49), (1, .int (nI w)), (2, .int (-1)), (3, .int 0)], [.ref 49, .ref 49], gh S a b sc ar lo, ex, 0, 0)) rfl ?_
      refine to_get rfl rfl rfl rfl ?_
      refine to_n 2 (fr' := (115, [(0, .ref 49), (1, .int (nI w)), (2, .int (-1)), (3, .int 0)], [.ref 1000023, .ref 49], gh S a b sc ar lo, ex, 0, 0)) rfl ?_
      refine to_cp (q := 123) (M1 := an_X10_isWord) (rest := []) rfl rfl (by decide) rfl ⟨_, rfl⟩ (iw_X10_isWord hW hI 22 (by omega) (pl j) (en_ g sz n j) (rs_le hsm hr hlen4) hr.2.2.1 hr.2.2.2.2.1 (d + 4)) (fun x68 hx68 => ?_)
      obtain ⟨⟨n68, hn68, rfl⟩, hp68⟩ := hx68
      rw [hT, ob_w (x := (8, -20)) hsm hr (by decide) (by decide +kernel)] at hp68
      refine to_eq (fr' := (118, [(0, .ref 49), (1, .int (nI w)), (2, .int (-1)), (3, .int 0)], [.int (nI n68)], gh S a b sc ar lo, ex, 0, 0)) rfl ?_
      refine to_nf_eq (t := 123) (x := n68) rfl (by omega) (fun q69 => ?_) (fun q69 => ?_)
      · refine to_n 2 (fr' := (102, [(0, .ref 49), (1, .int (nI w)), (2, .int (-1)), (3, .int 1)], [], gh S a b sc ar lo, ex, 0, 0)) rfl ?_
        exact c102_1 (-1) sc ar (rq_m) ec eB el eb hz (fun _ _ => rfl) (tok_nz q58 (by decide)) hr hT (ob_1 hsm hr q58) (fun _ => or_f hp68 q69) (fun w => absurd rfl w) (fun m hm e => absurd e.symm (nI_neg (by omega) (by decide))) hI hF
      · refine to_n 4 (fr' := (102, [(0, .ref 49), (1, .int (nI w)), (2, .int 0), (3, .int 1)], [], gh S a b sc ar lo, ex, 0, 0)) rfl ?_
        exact c102_1 0 sc ar (rq_n (n := 0) (by omega)) ec eB el eb hz (fun _ _ => rfl) (ob_no hsm hr (or_t hp68 q69 hn68) (by decide)) hr hT (ob_1 hsm hr q58) (fun w => absurd w (by decide)) (fun _ => by rw [or_t hp68 q69 hn68]; decide) (fun m hm e => nm_at (k := 0) hm (by decide) e ((or_t hp68 q69 hn68).trans (by decide))) hI hF
  · refine to_n 1 (fr' := (17, [(0, .ref 49), (1, .int (nI w))], [.ref 49], gh S a b sc ar lo, ex, 0, 0)) rfl ?_
    refine to_getR (v := (nI q0)) rfl rfl rfl rfl z3 ?_
    refine to_n 1 (fr' := (21, [(0, .ref 49), (1, .int (nI w))], [.ref 49, .int (nI q0)], gh S a b sc ar lo, ex, 0, 0)) rfl ?_
    refine to_getR (v := (nI B)) rfl rfl rfl rfl eB ?_
    refine to_subN (x := q0) (y := B) rfl (by omega) ?_
    refine to_n 1 (fr' := (26, [(0, .ref 49), (1, .int (nI w))], [.int 5, .int (nI (q0 - B))], gh S a b sc ar lo, ex, 0, 0)) rfl ?_
    refine to_nc_le (t := 34) (x := (q0 - B)) (y := 5) rfl (by omega) (by omega) (fun q70 => ?_) (fun q70 => ?_)
    · refine to_n 3 (fr' := (37, [(0, .ref 49), (1, .int (nI w)), (2, .int 0)], [.ref 49], gh S a b sc ar lo, ex, 0, 0)) rfl ?_
      refine to_getR (v := (nI B)) rfl rfl rfl rfl eB ?_
      refine to_n 1 (fr' := (41, [(0, .ref 49), (1, .int (nI w)), (2, .int 0), (3, .int (nI B))], [], gh S a b sc ar lo, ex, 0, 0)) rfl ?_
      exact c41 (400 - B) 0 B sc ar (by omega) ec eB el eb hz (fun _ _ => rfl) (tok_nz q57 (by decide)) (by omega) hr hT ((ob_2 hsm hr q57).elim (fun w => absurd w.1 (by omega)) (fun w => w.2)) (by rw [show B - pl j = 0 by omega]; rfl) (by omega) (by omega) (ob_nv hsm hr q57 (by omega)) hI hF
    · refine to_n 2 (fr' := (31, [(0, .ref 49), (1, .int (nI w))], [.int 2, .ref 49], gh S a b sc ar lo, ex, 0, 0)) rfl ?_
      refine to_cv (q := 125) (M1 := an_X10_wrong) (rest := []) rfl rfl (by decide) rfl ⟨_, rfl⟩ (sf_X10_wrong hW hI 2 (d + 4)) (fun sc71 ar71 hx71 => ?_)
      obtain ⟨hI71, hG71, hx71⟩ := hx71
      have hb71 := hx71.1 (by decide)
      have bp71 : sc71 4942 = nI (pl j) := (hx71.2 eb).trans hr.2.2.1
      have k71_4907 : sc71 4907 = (nI l) := (hG71.1 4907 (by decide)).trans el
      have k71_4934 : sc71 4934 = (nI c) := (hG71.1 4934 (by decide)).trans ec
      have k71_4939 : sc71 4939 = (nI B) := (hG71.1 4939 (by decide)).trans eB
      have hk71 : ∀ x, x < 700 * l + c → ar71 71 x = ar 71 x := kp_st (fun _ _ => rfl) hG71 (by decide)
      have hF71 := fr_t hF hG71 (by decide) (by decide)
      refine to_eq (fr' := (34, [(0, .ref 49), (1, .int (nI w))], [], gh S a b sc71 ar71 lo, ex, 0, 0)) rfl ?_
      refine to_n 3 (fr' := (37, [(0, .ref 49), (1, .int (nI w)), (2, .int 0)], [.ref 49], gh S a b sc71 ar71 lo, ex, 0, 0)) rfl ?_
      refine to_getR (v := (nI B)) rfl rfl rfl rfl k71_4939 ?_
      refine to_n 3 (fr' := (43, [(0, .ref 49), (1, .int (nI w)), (2, .int 0), (3, .int (nI B))], [.ref 49, .int (nI B)], gh S a b sc71 ar71 lo, ex, 0, 0)) rfl ?_
      obtain ⟨n72, hn72, e72⟩ := iv_s4940 hI71
      refine to_getR (v := (nI n72)) rfl rfl rfl rfl e72 ?_
      refine to_nc_ge (t := 77) (x := B) (y := n72) rfl (by omega) (by omega) (fun q73 => ?_) (fun q73 => ?_)
      · refine to_n 2 (fr' := (79, [(0, .ref 49), (1, .int (nI w)), (2, .int 0), (3, .int (nI B))], [.int 0, .ref 49], gh S a b sc71 ar71 lo, ex, 0, 0)) rfl ?_
        refine to_cu (q := 126) (M1 := an_X10_emit) (rest := []) rfl rfl (by decide) rfl ⟨_, rfl⟩ (em_bad 0 hb71 (d + 4)) ?_ 
        refine to_eq (fr' := (82, [(0, .ref 49), (1, .int (nI w)), (2, .int 0), (3, .int (nI B))], [], gh S a b sc71 ar71 lo, ex, 0, 0)) rfl ?_
        refine to_n 2 (fr' := (84, [(0, .ref 49), (1, .int (nI w)), (2, .int 0), (3, .int (nI B))], [.int 0, .ref 49], gh S a b sc71 ar71 lo, ex, 0, 0)) rfl ?_
        refine to_cu (q := 126) (M1 := an_X10_emit) (rest := []) rfl rfl (by decide) rfl ⟨_, rfl⟩ (em_bad 0 hb71 (d + 4)) ?_ 
        refine to_eq (fr' := (87, [(0, .ref 49), (1, .int (nI w)), (2, .int 0), (3, .int (nI B))], [], gh S a b sc71 ar71 lo, ex, 0, 0)) rfl ?_
        refine to_n 2 (fr' := (200, [(0, .ref 49), (1, .int (nI w)), (2, .int 0), (3, .int (nI B))], [.ref 49], gh S a b sc71 ar71 lo, ex, 0, 0)) rfl ?_
        refine to_getR (v := (sc71 4941)) rfl rfl rfl rfl rfl ?_
        refine to_if_ne_T (t := 210) rfl hb71 ?_
        exact to_rt (i := .return_) (tg := []) rfl rfl ⟨_, _, ⟨hI71, hF71, ⟨hk71, Or.inl hb71, Or.inr ⟨hb71, j, (by rw [pPt, show tk j = -3 from (ob_2 hsm hr q57).elim (fun w => w.2) (fun w => absurd w.1 (by omega)), if_neg (by decide), if_neg nn_3]), bp71⟩, fun w => absurd w hb71⟩⟩, rfl⟩
      · refine to_n 1 (fr' := (50, [(0, .ref 49), (1, .int (nI w)), (2, .int 0), (3, .int (nI B))], [.ref 49], gh S a b sc71 ar71 lo, ex, 0, 0)) rfl ?_
        refine to_getR (v := (sc71 4941)) rfl rfl rfl rfl rfl ?_
        refine to_if_ne_T (t := 77) rfl hb71 ?_
        refine to_n 2 (fr' := (79, [(0, .ref 49), (1, .int (nI w)), (2, .int 0), (3, .int (nI B))], [.int 0, .ref 49], gh S a b sc71 ar71 lo, ex, 0, 0)) rfl ?_
        refine to_cu (q := 126) (M1 := an_X10_emit) (rest := []) rfl rfl (by decide) rfl ⟨_, rfl⟩ (em_bad 0 hb71 (d + 4)) ?_ 
        refine to_eq (fr' := (82, [(0, .ref 49), (1, .int (nI w)), (2, .int 0), (3, .int (nI B))], [], gh S a b sc71 ar71 lo, ex, 0, 0)) rfl ?_
        refine to_n 2 (fr' := (84, [(0, .ref 49), (1, .int (nI w)), (2, .int 0), (3, .int (nI B))], [.int 0, .ref 49], gh S a b sc71 ar71 lo, ex, 0, 0)) rfl ?_
        refine to_cu (q := 126) (M1 := an_X10_emit) (rest := []) rfl rfl (by decide) rfl ⟨_, rfl⟩ (em_bad 0 hb71 (d + 4)) ?_ 
        refine to_eq (fr' := (87, [(0, .ref 49), (1, .int (nI w)), (2, .int 0), (3, .int (nI B))], [], gh S a b sc71 ar71 lo, ex, 0, 0)) rfl ?_
        refine to_n 2 (fr' := (200, [(0, .ref 49), (1, .int (nI w)), (2, .int 0), (3, .int (nI B))], [.ref 49], gh S a b sc71 ar71 lo, ex, 0, 0)) rfl ?_
        refine to_getR (v := (sc71 4941)) rfl rfl rfl rfl rfl ?_
        refine to_if_ne_T (t := 210) rfl hb71 ?_
        exact to_rt (i := .return_) (tg := []) rfl rfl ⟨_, _, ⟨hI71, hF71, ⟨hk71, Or.inl hb71, Or.inr ⟨hb71, j, (by rw [pPt, show tk j = -3 from (ob_2 hsm hr q57).elim (fun w => w.2) (fun w => absurd w.1 (by omega)), if_neg (by decide), if_neg nn_3]), bp71⟩, fun w => absurd w hb71⟩⟩, rfl⟩
set_option maxRecDepth 20000 in
theorem rx_readSum {X : Nat × (Nat → Int32)} {S a b : Nat} {lo : Nat → Int64} {ex : Bool} {T tk : Nat → Int32} {pl g : Nat → Nat} {sz n : Nat} (hW : Wd S a b) (hsm : Sm T n tk pl g sz) (hlen4 : n ≤ 400) (hne : ∀ t, t < n → ¬ T t = -1) (w h : Nat) (E : Nat → Nat ⊕ Nat) (vE : Nat → zVal) (hse : Se tk sz) (hpg : pg_ sz (pPt tk sz E)) (d : Nat) (hE : RxOk X S a b lo ex T tk pl g sz n (d + 5) 131 w h (pPt tk sz E) (vPt tk sz vE)) : RxOk X S a b lo ex T tk pl g sz n (d + 6) 130 w (h + 1) (pSm tk sz E) (vSm tk sz E vE) := by
  obtain ⟨ha1, ha8, hb1, hb8, hab, hS1, hS⟩ := id hW
  intro sc ar l c e B j hI hl el ec eB hB4 eb hz hp hT hr
  refine cv_of (M := an_X10_readSum) rfl (Nat.le_of_ble_eq_true rfl) ?_
  have hF : Fr [4934, 4935, 4937, 4938, 4939, 4940, 4941, 4942] [71] sc ar sc ar := fr_0
  refine to_eq (fr' := (0, [(0, .ref 49), (1, .int (nI w))], [], gh S a b sc ar lo, ex, 0, 0)) rfl ?_
  have c5 : ∀ m : Nat, ∀ (c1 : Nat) (B1 : Nat) (j1 : Nat) (sc1 : Nat → Int32) (ar1 : Nat → Nat → Int32), 401 ≤ B1 + m → sc1 4934 = nI c1 → sc1 4939 = nI B1 → sc1 4907 = nI l → sc1 4941 = 0 → Pz sc1 → (∀ x, x < 700 * l + c → ar1 71 x = ar 71 x) → c ≤ c1 → B1 ≤ 400 → 2 * c1 + e ≤ 3 * B1 + 1 → seg (ar1 71) (700 * l + c) (700 * l + c1) (h + 1) → B ≤ B1 → Rs T tk pl g sz n j1 sc1 → ar1 67 = T → pSm tk sz E j = pLp tk sz [-7, -8, -9] (pPt tk sz E) 401 j1 → (∃ W : zVal, sgr (ar1 71) (700 * l + c) (700 * l + c1) W ∧ vSm tk sz E vE j = vLp tk sz [-7, -8, -9] (pPt tk sz E) (vPt tk sz vE) 401 j1 W) → Iv S sc1 ar1 → Fr [4934, 4935, 4937, 4938, 4939, 4940, 4941, 4942] [71] sc ar sc1 ar1 → ag_To X (d + 5) an_X10_readSum (5, [(0, .ref 49), (1, .int (nI w))], [], gh S a b sc1 ar1 lo, ex, 0, 0) (qv S a b lo ex (fun sc' ar' => Iv S sc' ar' ∧ Fr [4934, 4935, 4937, 4938, 4939, 4940, 4941, 4942] [71] sc ar sc' ar' ∧ ((∀ x, x < 700 * l + c → ar' 71 x = ar 71 x) ∧ Rd sc' ar' l c B e (h + 1) ∧ Rx T tk pl g sz n (pSm tk sz E j) sc' ∧ (sc' 4941 = 0 → ∀ c' : Nat, c' ≤ 700 → sc' 4934 = nI c' → sgr (ar' 71) (700 * l + c) (700 * l + c') ((vSm tk sz E vE) j))))) := by
    intro m
    induction m with
    | zero =>
      intro c1 B1 j1 sc1 ar1 hm hc5_0 hc5_1 hc5_2 hc5_3 hc5_4 hc5_5 hc5_6 hc5_7 hc5_8 hc5_9 hc5_10 hc5_11 hc5_12 hc5_13 hc5_14 hI1 hF1
      exfalso
      omega
    | succ m ih =>
      intro c1 B1 j1 sc1 ar1 hm hc5_0 hc5_1 hc5_2 hc5_3 hc5_4 hc5_5 hc5_6 hc5_7 hc5_8 hc5_9 hc5_10 hc5_11 hc5_12 hc5_13 hc5_14 hI1 hF1
      obtain ⟨W, sW, eW⟩ := hc5_14
      refine to_n 1 (fr' := (6, [(0, .ref 49), (1, .int (nI w))], [.ref 49], gh S a b sc1 ar1 lo, ex, 0, 0)) rfl ?_
      refine to_getR (v := 0) rfl rfl rfl rfl hc5_3 ?_
      refine to_n 3 (fr' := (15, [(0, .ref 49), (1, .int (nI w))], [.int 43, .ref 49], gh S a b sc1 ar1 lo, ex, 0, 0)) rfl ?_
      refine to_cp (q := 124) (M1 := an_X10_isSign) (rest := []) rfl rfl (by decide) rfl ⟨_, rfl⟩ (is_X10_isSign hW hI1 43 (d + 4)) (fun x2 hx2 => ?_)
      obtain ⟨⟨n2, hn2, rfl⟩, hp2⟩ := hx2
      rw [ob_s (x := (43, -7)) hsm hc5_11 (by decide)] at hp2
      refine to_eq (fr' := (18, [(0, .ref 49), (1, .int (nI w))], [.int (nI n2)], gh S a b sc1 ar1 lo, ex, 0, 0)) rfl ?_
      refine to_nf_ne (t := 39) (x := n2) rfl (by omega) (fun q3 => ?_) (fun q3 => ?_)
      · refine to_n 2 (fr' := (42, [(0, .ref 49), (1, .int (nI w))], [.int 43, .ref 49], gh S a b sc1 ar1 lo, ex, 0, 0)) rfl ?_
        refine to_cp (q := 124) (M1 := an_X10_isSign) (rest := []) rfl rfl (by decide) rfl ⟨_, rfl⟩ (is_X10_isSign hW hI1 43 (d + 4)) (fun x4 hx4 => ?_)
        obtain ⟨⟨n4, hn4, rfl⟩, hp4⟩ := hx4
        rw [ob_s (x := (43, -7)) hsm hc5_11 (by decide)] at hp4
        refine to_eq (fr' := (45, [(0, .ref 49), (1, .int (nI w))], [.int (nI n4)], gh S a b sc1 ar1 lo, ex, 0, 0)) rfl ?_
        refine to_nf_eq (t := 52) (x := n4) rfl (by omega) (fun q5 => ?_) (fun q5 => ?_)
        · refine to_n 2 (fr' := (55, [(0, .ref 49), (1, .int (nI w))], [.int 45, .ref 49], gh S a b sc1 ar1 lo, ex, 0, 0)) rfl ?_
          refine to_cp (q := 124) (M1 := an_X10_isSign) (rest := []) rfl rfl (by decide) rfl ⟨_, rfl⟩ (is_X10_isSign hW hI1 45 (d + 4)) (fun x6 hx6 => ?_)
          obtain ⟨⟨n6, hn6, rfl⟩, hp6⟩ := hx6
          rw [ob_s (x := (45, -8)) hsm hc5_11 (by decide)] at hp6
          refine to_eq (fr' := (58, [(0, .ref 49), (1, .int (nI w))], [.int (nI n6)], gh S a b sc1 ar1 lo, ex, 0, 0)) rfl ?_
          refine to_nf_eq (t := 65) (x := n6) rfl (by omega) (fun q7 => ?_) (fun q7 => ?_)
          · refine to_n 3 (fr' := (68, [(0, .ref 49), (1, .int (nI w)), (2, .int 3)], [.ref 49], gh S a b sc1 ar1 lo, ex, 0, 0)) rfl ?_
            refine to_cv (q := 122) (M1 := an_X10_step) (rest := []) rfl rfl (by decide) rfl ⟨_, rfl⟩ (st_nextx hW hI1 hc5_1 (by omega) hc5_4 (ob_no hsm hc5_11 (or_t hp2 q3 hn2) (by decide)) hsm hlen4 hne hc5_12 hc5_11 (d + 3)) (fun sc8 ar8 hx8 => ?_)
            obtain ⟨hI8, hG8, hz8, ⟨B8, eB8, hB8, hC8⟩, rs8⟩ := hx8
            have t8 : ar8 67 = T := (hG8.2 67 (by decide)).trans hc5_12
            have k8_4907 : sc8 4907 = (nI l) := (hG8.1 4907 (by decide)).trans hc5_2
            have k8_4934 : sc8 4934 = (nI c1) := (hG8.1 4934 (by decide)).trans hc5_0
            have k8_4941 : sc8 4941 = 0 := (hG8.1 4941 (by decide)).trans hc5_3
            have hk8 : ∀ x, x < 700 * l + c → ar8 71 x = ar 71 x := kp_st hc5_5 hG8 (by decide)
            have sg8_0 := sg_st hc5_9 hG8 (by decide)
            have sd8_0 := sgr_st sW hG8 (by decide)
            have hF8 := fr_t hF1 hG8 (by decide) (by decide)
            refine to_eq (fr' := (71, [(0, .ref 49), (1, .int (nI w)), (2, .int 3)], [], gh S a b sc8 ar8 lo, ex, 0, 0)) rfl ?_
            refine to_n 2 (fr' := (73, [(0, .ref 49), (1, .int (nI w)), (2, .int 3)], [.int (nI w), .ref 49], gh S a b sc8 ar8 lo, ex, 0, 0)) rfl ?_
            refine to_cv (q := 131) (M1 := an_X10_readPart) (rest := []) rfl rfl (by decide) rfl ⟨_, rfl⟩ (hE sc8 ar8 l c1 (e + 2) B8 (ad_ sz j1) hI8 (by omega) k8_4907 k8_4934 eB8 (by omega) k8_4941 hz8 (by omega) t8 rs8) (fun sc9 ar9 hx9 => ?_)
            obtain ⟨hI9, hG9, hu9, hr9, hy9, hd9⟩ := hx9
            have k9_4907 : sc9 4907 = nI l := (hG9.1 4907 (by decide)).trans k8_4907
            have hk9 : ∀ x, x < 700 * l + c → ar9 71 x = ar 71 x := fun x w => (hu9 x (by omega)).trans (hk8 x w)
            have hF9 := fr_t hF8 hG9 (by decide) (by decide)
            have t9 : ar9 67 = T := (hG9.2 67 (by decide)).trans t8
            have sg9_0 := seg_ag sg8_0 hu9 (by omega)
            have sd9_0 := sgr_ag sd8_0 hu9 (by omega)
            rcases hy9 with ⟨hb9, k9, ey9, rs9⟩ | ⟨hb9, k9, ey9, bp9⟩
            · rcases hr9 with hbb9 | ⟨-, hz9, c9, B9, ec9, eB9, hcc9, hBB9, hB9, hpo9, sg9⟩
              · exact absurd hb9 hbb9
              · have sd9 := hd9 hb9 c9 (by omega) ec9
                refine to_eq (fr' := (76, [(0, .ref 49), (1, .int (nI w)), (2, .int 3)], [], gh S a b sc9 ar9 lo, ex, 0, 0)) rfl ?_
                refine to_n 2 (fr' := (78, [(0, .ref 49), (1, .int (nI w)), (2, .int 3)], [.int 3, .ref 49], gh S a b sc9 ar9 lo, ex, 0, 0)) rfl ?_
                refine to_cv (q := 126) (M1 := an_X10_emit) (rest := []) rfl rfl (by decide) rfl ⟨_, rfl⟩ (em_ok hW hI9 3 l c9 (by omega) (by omega) hb9 k9_4907 ec9 (d + 4)) (fun sc10 ar10 hx10 => ?_)
                obtain ⟨hI10, hG10, hs10, ha10⟩ := hx10
                have k10_4907 : sc10 4907 = (nI l) := (hG10.1 4907 (by decide)).trans k9_4907
                have k10_4939 : sc10 4939 = (nI B9) := (hG10.1 4939 (by decide)).trans eB9
                have k10_4941 : sc10 4941 = 0 := (hG10.1 4941 (by decide)).trans hb9
                have k10_4934 : sc10 4934 = nI (c9 + 1) := by rw [hs10]; exact up_eq
                have hc10 : ar10 71 = upd (ar9 71) (700 * l + c9) 3 := by rw [ha10]; rfl
                have hv10 : ar10 71 (700 * l + c9) = 3 := by rw [hc10]; exact up_eq
                have hu10 : ∀ x, x < 700 * l + c9 → ar10 71 x = ar9 71 x := fun x w => by rw [hc10]; exact up_ne (by omega)
                have hk10 : ∀ x, x < 700 * l + c → ar10 71 x = ar 71 x := fun x w => (hu10 x (by omega)).trans (hk9 x w)
                have hz10 := pz_fr hz9 hG10 (by decide) (by decide) (by decide) (by decide) (by decide)
                have hF10 := fr_t hF9 hG10 (by decide) (by decide)
                have sg10_0 := seg_ag sg9_0 hu10 (by omega)
                have sg10_1 := seg_ag sg9 hu10 (by omega)
                have sd10_0 := sgr_ag sd9_0 hu10 (by omega)
                have sd10_1 := sgr_ag sd9 hu10 (by omega)
                have sb10 : seg (ar10 71) (700 * l + c) (700 * l + (c9 + 1)) (h + 1) := seg_bin (k := 700 * l + c9) sg10_0 sg10_1 hv10 (by decide) (by decide) (by decide) (by omega) (by omega) (by omega) (by omega)
                have sd10 : sgr (ar10 71) (700 * l + c) (700 * l + (c9 + 1)) _ := sgr_bin (k := 700 * l + c9) (c := tk j1) sd10_0 sd10_1 hv10 (by decide) (by decide) (by decide) (z7_3 (by rw [or_t hp2 q3 hn2]; decide) (or_f hp4 q5) (or_f hp6 q7))
                have t10 : ar10 67 = T := (hG10.2 67 (by decide)).trans t9
                have rs10 := rs_fr rs9 hG10 (by decide)
                refine to_eq (fr' := (81, [(0, .ref 49), (1, .int (nI w)), (2, .int 3)], [], gh S a b sc10 ar10 lo, ex, 0, 0)) rfl ?_
                refine to_n 1 (fr' := (5, [(0, .ref 49), (1, .int (nI w)), (2, .int 3)], [], gh S a b sc10 ar10 lo, ex, 0, 0)) rfl ?_
                refine to_lv (lv := [(0, .ref 49), (1, .int (nI w))]) rfl ⟨rfl, rfl, trivial⟩ ?_
                exact ih (c9 + 1) B9 k9 sc10 ar10 (by omega) k10_4934 k10_4939 k10_4907 k10_4941 hz10 hk10 (by omega) (by omega) (by omega) (seg_le sb10 (by omega)) (by omega) rs10 t10 (hc5_13.trans (pl_go hse (by decide) hpg hc5_11.1 (by rw [or_t hp2 q3 hn2]; decide) ey9)) ⟨_, sd10, eW.trans (vl_go hse (by decide) hpg hc5_11.1 (by rw [or_t hp2 q3 hn2]; decide) ey9)⟩ hI10 hF10
            · refine to_eq (fr' := (76, [(0, .ref 49), (1, .int (nI w)), (2, .int 3)], [], gh S a b sc9 ar9 lo, ex, 0, 0)) rfl ?_
              refine to_n 2 (fr' := (78, [(0, .ref 49), (1, .int (nI w)), (2, .int 3)], [.int 3, .ref 49], gh S a b sc9 ar9 lo, ex, 0, 0)) rfl ?_
              refine to_cu (q := 126) (M1 := an_X10_emit) (rest := []) rfl rfl (by decide) rfl ⟨_, rfl⟩ (em_bad 3 hb9 (d + 4)) ?_ 
              refine to_eq (fr' := (81, [(0, .ref 49), (1, .int (nI w)), (2, .int 3)], [], gh S a b sc9 ar9 lo, ex, 0, 0)) rfl ?_
              refine to_n 2 (fr' := (6, [(0, .ref 49), (1, .int (nI w)), (2, .int 3)], [.ref 49], gh S a b sc9 ar9 lo, ex, 0, 0)) rfl ?_
              refine to_getR (v := (sc9 4941)) rfl rfl rfl rfl rfl ?_
              refine to_if_ne_T (t := 84) rfl hb9 ?_
              exact to_rt (i := .return_) (tg := []) rfl rfl ⟨_, _, ⟨hI9, hF9, ⟨hk9, Or.inl hb9, Or.inr ⟨hb9, k9, (hc5_13.trans (pl_bad (m := 400) (by rw [or_t hp2 q3 hn2]; decide) ey9)), bp9⟩, fun w => absurd w hb9⟩⟩, rfl⟩
          · refine to_n 4 (fr' := (68, [(0, .ref 49), (1, .int (nI w)), (2, .int 2)], [.ref 49], gh S a b sc1 ar1 lo, ex, 0, 0)) rfl ?_
            refine to_cv (q := 122) (M1 := an_X10_step) (rest := []) rfl rfl (by decide) rfl ⟨_, rfl⟩ (st_nextx hW hI1 hc5_1 (by omega) hc5_4 (ob_no hsm hc5_11 (or_t hp6 q7 hn6) (by decide)) hsm hlen4 hne hc5_12 hc5_11 (d + 3)) (fun sc12 ar12 hx12 => ?_)
            obtain ⟨hI12, hG12, hz12, ⟨B12, eB12, hB12, hC12⟩, rs12⟩ := hx12
            have t12 : ar12 67 = T := (hG12.2 67 (by decide)).trans hc5_12
            have k12_4907 : sc12 4907 = (nI l) := (hG12.1 4907 (by decide)).trans hc5_2
            have k12_4934 : sc12 4934 = (nI c1) := (hG12.1 4934 (by decide)).trans hc5_0
            have k12_4941 : sc12 4941 = 0 := (hG12.1 4941 (by decide)).trans hc5_3
            have hk12 : ∀ x, x < 700 * l + c → ar12 71 x = ar 71 x := kp_st hc5_5 hG12 (by decide)
            have sg12_0 := sg_st hc5_9 hG12 (by decide)
            have sd12_0 := sgr_st sW hG12 (by decide)
            have hF12 := fr_t hF1 hG12 (by decide) (by decide)
            refine to_eq (fr' := (71, [(0, .ref 49), (1, .int (nI w)), (2, .int 2)], [], gh S a b sc12 ar12 lo, ex, 0, 0)) rfl ?_
            refine to_n 2 (fr' := (73, [(0, .ref 49), (1, .int (nI w)), (2, .int 2)], [.int (nI w), .ref 49], gh S a b sc12 ar12 lo, ex, 0, 0)) rfl ?_
            refine to_cv (q := 131) (M1 := an_X10_readPart) (rest := []) rfl rfl (by decide) rfl ⟨_, rfl⟩ (hE sc12 ar12 l c1 (e + 2) B12 (ad_ sz j1) hI12 (by omega) k12_4907 k12_4934 eB12 (by omega) k12_4941 hz12 (by omega) t12 rs12) (fun sc13 ar13 hx13 => ?_)
            obtain ⟨hI13, hG13, hu13, hr13, hy13, hd13⟩ := hx13
            have k13_4907 : sc13 4907 = nI l := (hG13.1 4907 (by decide)).trans k12_4907
            have hk13 : ∀ x, x < 700 * l + c → ar13 71 x = ar 71 x := fun x w => (hu13 x (by omega)).trans (hk12 x w)
            have hF13 := fr_t hF12 hG13 (by decide) (by decide)
            have t13 : ar13 67 = T := (hG13.2 67 (by decide)).trans t12
            have sg13_0 := seg_ag sg12_0 hu13 (by omega)
            have sd13_0 := sgr_ag sd12_0 hu13 (by omega)
            rcases hy13 with ⟨hb13, k13, ey13, rs13⟩ | ⟨hb13, k13, ey13, bp13⟩
            · rcases hr13 with hbb13 | ⟨-, hz13, c13, B13, ec13, eB13, hcc13, hBB13, hB13, hpo13, sg13⟩
              · exact absurd hb13 hbb13
              · have sd13 := hd13 hb13 c13 (by omega) ec13
                refine to_eq (fr' := (76, [(0, .ref 49), (1, .int (nI w)), (2, .int 2)], [], gh S a b sc13 ar13 lo, ex, 0, 0)) rfl ?_
                refine to_n 2 (fr' := (78, [(0, .ref 49), (1, .int (nI w)), (2, .int 2)], [.int 2, .ref 49], gh S a b sc13 ar13 lo, ex, 0, 0)) rfl ?_
                refine to_cv (q := 126) (M1 := an_X10_emit) (rest := []) rfl rfl (by decide) rfl ⟨_, rfl⟩ (em_ok hW hI13 2 l c13 (by omega) (by omega) hb13 k13_4907 ec13 (d + 4)) (fun sc14 ar14 hx14 => ?_)
                obtain ⟨hI14, hG14, hs14, ha14⟩ := hx14
                have k14_4907 : sc14 4907 = (nI l) := (hG14.1 4907 (by decide)).trans k13_4907
                have k14_4939 : sc14 4939 = (nI B13) := (hG14.1 4939 (by decide)).trans eB13
                have k14_4941 : sc14 4941 = 0 := (hG14.1 4941 (by decide)).trans hb13
                have k14_4934 : sc14 4934 = nI (c13 + 1) := by rw [hs14]; exact up_eq
                have hc14 : ar14 71 = upd (ar13 71) (700 * l + c13) 2 := by rw [ha14]; rfl
                have hv14 : ar14 71 (700 * l + c13) = 2 := by rw [hc14]; exact up_eq
                have hu14 : ∀ x, x < 700 * l + c13 → ar14 71 x = ar13 71 x := fun x w => by rw [hc14]; exact up_ne (by omega)
                have hk14 : ∀ x, x < 700 * l + c → ar14 71 x = ar 71 x := fun x w => (hu14 x (by omega)).trans (hk13 x w)
                have hz14 := pz_fr hz13 hG14 (by decide) (by decide) (by decide) (by decide) (by decide)
                have hF14 := fr_t hF13 hG14 (by decide) (by decide)
                have sg14_0 := seg_ag sg13_0 hu14 (by omega)
                have sg14_1 := seg_ag sg13 hu14 (by omega)
                have sd14_0 := sgr_ag sd13_0 hu14 (by omega)
                have sd14_1 := sgr_ag sd13 hu14 (by omega)
                have sb14 : seg (ar14 71) (700 * l + c) (700 * l + (c13 + 1)) (h + 1) := seg_bin (k := 700 * l + c13) sg14_0 sg14_1 hv14 (by decide) (by decide) (by decide) (by omega) (by omega) (by omega) (by omega)
                have sd14 : sgr (ar14 71) (700 * l + c) (700 * l + (c13 + 1)) _ := sgr_bin (k := 700 * l + c13) (c := tk j1) sd14_0 sd14_1 hv14 (by decide) (by decide) (by decide) (z7_2 (or_t hp6 q7 hn6))
                have t14 : ar14 67 = T := (hG14.2 67 (by decide)).trans t13
                have rs14 := rs_fr rs13 hG14 (by decide)
                refine to_eq (fr' := (81, [(0, .ref 49), (1, .int (nI w)), (2, .int 2)], [], gh S a b sc14 ar14 lo, ex, 0, 0)) rfl ?_
                refine to_n 1 (fr' := (5, [(0, .ref 49), (1, .int (nI w)), (2, .int 2)], [], gh S a b sc14 ar14 lo, ex, 0, 0)) rfl ?_
                refine to_lv (lv := [(0, .ref 49), (1, .int (nI w))]) rfl ⟨rfl, rfl, trivial⟩ ?_
                exact ih (c13 + 1) B13 k13 sc14 ar14 (by omega) k14_4934 k14_4939 k14_4907 k14_4941 hz14 hk14 (by omega) (by omega) (by omega) (seg_le sb14 (by omega)) (by omega) rs14 t14 (hc5_13.trans (pl_go hse (by decide) hpg hc5_11.1 (by rw [or_t hp2 q3 hn2]; decide) ey13)) ⟨_, sd14, eW.trans (vl_go hse (by decide) hpg hc5_11.1 (by rw [or_t hp2 q3 hn2]; decide) ey13)⟩ hI14 hF14
            · refine to_eq (fr' := (76, [(0, .ref 49), (1, .int (nI w)), (2, .int 2)], [], gh S a b sc13 ar13 lo, ex, 0, 0)) rfl ?_
              refine to_n 2 (fr' := (78, [(0, .ref 49), (1, .int (nI w)), (2, .int 2)], [.int 2, .ref 49], gh S a b sc13 ar13 lo, ex, 0, 0)) rfl ?_
              refine to_cu (q := 126) (M1 := an_X10_emit) (rest := []) rfl rfl (by decide) rfl ⟨_, rfl⟩ (em_bad 2 hb13 (d + 4)) ?_ 
              refine to_eq (fr' := (81, [(0, .ref 49), (1, .int (nI w)), (2, .int 2)], [], gh S a b sc13 ar13 lo, ex, 0, 0)) rfl ?_
              refine to_n 2 (fr' := (6, [(0, .ref 49), (1, .int (nI w)), (2, .int 2)], [.ref 49], gh S a b sc13 ar13 lo, ex, 0, 0)) rfl ?_
              refine to_getR (v := (sc13 4941)) rfl rfl rfl rfl rfl ?_
              refine to_if_ne_T (t := 84) rfl hb13 ?_
              exact to_rt (i := .return_) (tg := []) rfl rfl ⟨_, _, ⟨hI13, hF13, ⟨hk13, Or.inl hb13, Or.inr ⟨hb13, k13, (hc5_13.trans (pl_bad (m := 400) (by rw [or_t hp2 q3 hn2]; decide) ey13)), bp13⟩, fun w => absurd w hb13⟩⟩, rfl⟩
        · refine to_n 4 (fr' := (68, [(0, .ref 49), (1, .int (nI w)), (2, .int 1)], [.ref 49], gh S a b sc1 ar1 lo, ex, 0, 0)) rfl ?_
          refine to_cv (q := 122) (M1 := an_X10_step) (rest := []) rfl rfl (by decide) rfl ⟨_, rfl⟩ (st_nextx hW hI1 hc5_1 (by omega) hc5_4 (ob_no hsm hc5_11 (or_t hp4 q5 hn4) (by decide)) hsm hlen4 hne hc5_12 hc5_11 (d + 3)) (fun sc16 ar16 hx16 => ?_)
          obtain ⟨hI16, hG16, hz16, ⟨B16, eB16, hB16, hC16⟩, rs16⟩ := hx16
          have t16 : ar16 67 = T := (hG16.2 67 (by decide)).trans hc5_12
          have k16_4907 : sc16 4907 = (nI l) := (hG16.1 4907 (by decide)).trans hc5_2
          have k16_4934 : sc16 4934 = (nI c1) := (hG16.1 4934 (by decide)).trans hc5_0
          have k16_4941 : sc16 4941 = 0 := (hG16.1 4941 (by decide)).trans hc5_3
          have hk16 : ∀ x, x < 700 * l + c → ar16 71 x = ar 71 x := kp_st hc5_5 hG16 (by decide)
          have sg16_0 := sg_st hc5_9 hG16 (by decide)
          have sd16_0 := sgr_st sW hG16 (by decide)
          have hF16 := fr_t hF1 hG16 (by decide) (by decide)
          refine to_eq (fr' := (71, [(0, .ref 49), (1, .int (nI w)), (2, .int 1)], [], gh S a b sc16 ar16 lo, ex, 0, 0)) rfl ?_
          refine to_n 2 (fr' := (73, [(0, .ref 49), (1, .int (nI w)), (2, .int 1)], [.int (nI w), .ref 49], gh S a b sc16 ar16 lo, ex, 0, 0)) rfl ?_
          refine to_cv (q := 131) (M1 := an_X10_readPart) (rest := []) rfl rfl (by decide) rfl ⟨_, rfl⟩ (hE sc16 ar16 l c1 (e + 2) B16 (ad_ sz j1) hI16 (by omega) k16_4907 k16_4934 eB16 (by omega) k16_4941 hz16 (by omega) t16 rs16) (fun sc17 ar17 hx17 => ?_)
          obtain ⟨hI17, hG17, hu17, hr17, hy17, hd17⟩ := hx17
          have k17_4907 : sc17 4907 = nI l := (hG17.1 4907 (by decide)).trans k16_4907
          have hk17 : ∀ x, x < 700 * l + c → ar17 71 x = ar 71 x := fun x w => (hu17 x (by omega)).trans (hk16 x w)
          have hF17 := fr_t hF16 hG17 (by decide) (by decide)
          have t17 : ar17 67 = T := (hG17.2 67 (by decide)).trans t16
          have sg17_0 := seg_ag sg16_0 hu17 (by omega)
          have sd17_0 := sgr_ag sd16_0 hu17 (by omega)
          rcases hy17 with ⟨hb17, k17, ey17, rs17⟩ | ⟨hb17, k17, ey17, bp17⟩
          · rcases hr17 with hbb17 | ⟨-, hz17, c17, B17, ec17, eB17, hcc17, hBB17, hB17, hpo17, sg17⟩
            · exact absurd hb17 hbb17
            · have sd17 := hd17 hb17 c17 (by omega) ec17
              refine to_eq (fr' := (76, [(0, .ref 49), (1, .int (nI w)), (2, .int 1)], [], gh S a b sc17 ar17 lo, ex, 0, 0)) rfl ?_
              refine to_n 2 (fr' := (78, [(0, .ref 49), (1, .int (nI w)), (2, .int 1)], [.int 1, .ref 49], gh S a b sc17 ar17 lo, ex, 0, 0)) rfl ?_
              refine to_cv (q := 126) (M1 := an_X10_emit) (rest := []) rfl rfl (by decide) rfl ⟨_, rfl⟩ (em_ok hW hI17 1 l c17 (by omega) (by omega) hb17 k17_4907 ec17 (d + 4)) (fun sc18 ar18 hx18 => ?_)
              obtain ⟨hI18, hG18, hs18, ha18⟩ := hx18
              have k18_4907 : sc18 4907 = (nI l) := (hG18.1 4907 (by decide)).trans k17_4907
              have k18_4939 : sc18 4939 = (nI B17) := (hG18.1 4939 (by decide)).trans eB17
              have k18_4941 : sc18 4941 = 0 := (hG18.1 4941 (by decide)).trans hb17
              have k18_4934 : sc18 4934 = nI (c17 + 1) := by rw [hs18]; exact up_eq
              have hc18 : ar18 71 = upd (ar17 71) (700 * l + c17) 1 := by rw [ha18]; rfl
              have hv18 : ar18 71 (700 * l + c17) = 1 := by rw [hc18]; exact up_eq
              have hu18 : ∀ x, x < 700 * l + c17 → ar18 71 x = ar17 71 x := fun x w => by rw [hc18]; exact up_ne (by omega)
              have hk18 : ∀ x, x < 700 * l + c → ar18 71 x = ar 71 x := fun x w => (hu18 x (by omega)).trans (hk17 x w)
              have hz18 := pz_fr hz17 hG18 (by decide) (by decide) (by decide) (by decide) (by decide)
              have hF18 := fr_t hF17 hG18 (by decide) (by decide)
              have sg18_0 := seg_ag sg17_0 hu18 (by omega)
              have sg18_1 := seg_ag sg17 hu18 (by omega)
              have sd18_0 := sgr_ag sd17_0 hu18 (by omega)
              have sd18_1 := sgr_ag sd17 hu18 (by omega)
              have sb18 : seg (ar18 71) (700 * l + c) (700 * l + (c17 + 1)) (h + 1) := seg_bin (k := 700 * l + c17) sg18_0 sg18_1 hv18 (by decide) (by decide) (by decide) (by omega) (by omega) (by omega) (by omega)
              have sd18 : sgr (ar18 71) (700 * l + c) (700 * l + (c17 + 1)) _ := sgr_bin (k := 700 * l + c17) (c := tk j1) sd18_0 sd18_1 hv18 (by decide) (by decide) (by decide) (z7_1 (or_t hp4 q5 hn4))
              have t18 : ar18 67 = T := (hG18.2 67 (by decide)).trans t17
              have rs18 := rs_fr rs17 hG18 (by decide)
              refine to_eq (fr' := (81, [(0, .ref 49), (1, .int (nI w)), (2, .int 1)], [], gh S a b sc18 ar18 lo, ex, 0, 0)) rfl ?_
              refine to_n 1 (fr' := (5, [(0, .ref 49), (1, .int (nI w)), (2, .int 1)], [], gh S a b sc18 ar18 lo, ex, 0, 0)) rfl ?_
              refine to_lv (lv := [(0, .ref 49), (1, .int (nI w))]) rfl ⟨rfl, rfl, trivial⟩ ?_
              exact ih (c17 + 1) B17 k17 sc18 ar18 (by omega) k18_4934 k18_4939 k18_4907 k18_4941 hz18 hk18 (by omega) (by omega) (by omega) (seg_le sb18 (by omega)) (by omega) rs18 t18 (hc5_13.trans (pl_go hse (by decide) hpg hc5_11.1 (by rw [or_t hp2 q3 hn2]; decide) ey17)) ⟨_, sd18, eW.trans (vl_go hse (by decide) hpg hc5_11.1 (by rw [or_t hp2 q3 hn2]; decide) ey17)⟩ hI18 hF18
          · refine to_eq (fr' := (76, [(0, .ref 49), (1, .int (nI w)), (2, .int 1)], [], gh S a b sc17 ar17 lo, ex, 0, 0)) rfl ?_
            refine to_n 2 (fr' := (78, [(0, .ref 49), (1, .int (nI w)), (2, .int 1)], [.int 1, .ref 49], gh S a b sc17 ar17 lo, ex, 0, 0)) rfl ?_
            refine to_cu (q := 126) (M1 := an_X10_emit) (rest := []) rfl rfl (by decide) rfl ⟨_, rfl⟩ (em_bad 1 hb17 (d + 4)) ?_ 
            refine to_eq (fr' := (81, [(0, .ref 49), (1, .int (nI w)), (2, .int 1)], [], gh S a b sc17 ar17 lo, ex, 0, 0)) rfl ?_
            refine to_n 2 (fr' := (6, [(0, .ref 49), (1, .int (nI w)), (2, .int 1)], [.ref 49], gh S a b sc17 ar17 lo, ex, 0, 0)) rfl ?_
            refine to_getR (v := (sc17 4941)) rfl rfl rfl rfl rfl ?_
            refine to_if_ne_T (t := 84) rfl hb17 ?_
            exact to_rt (i := .return_) (tg := []) rfl rfl ⟨_, _, ⟨hI17, hF17, ⟨hk17, Or.inl hb17, Or.inr ⟨hb17, k17, (hc5_13.trans (pl_bad (m := 400) (by rw [or_t hp2 q3 hn2]; decide) ey17)), bp17⟩, fun w => absurd w hb17⟩⟩, rfl⟩
      · refine to_n 2 (fr' := (24, [(0, .ref 49), (1, .int (nI w))], [.int 45, .ref 49], gh S a b sc1 ar1 lo, ex, 0, 0)) rfl ?_
        refine to_cp (q := 124) (M1 := an_X10_isSign) (rest := []) rfl rfl (by decide) rfl ⟨_, rfl⟩ (is_X10_isSign hW hI1 45 (d + 4)) (fun x20 hx20 => ?_)
        obtain ⟨⟨n20, hn20, rfl⟩, hp20⟩ := hx20
        rw [ob_s (x := (45, -8)) hsm hc5_11 (by decide)] at hp20
        refine to_eq (fr' := (27, [(0, .ref 49), (1, .int (nI w))], [.int (nI n20)], gh S a b sc1 ar1 lo, ex, 0, 0)) rfl ?_
        refine to_nf_ne (t := 39) (x := n20) rfl (by omega) (fun q21 => ?_) (fun q21 => ?_)
        · refine to_n 2 (fr' := (42, [(0, .ref 49), (1, .int (nI w))], [.int 43, .ref 49], gh S a b sc1 ar1 lo, ex, 0, 0)) rfl ?_
          refine to_cp (q := 124) (M1 := an_X10_isSign) (rest := []) rfl rfl (by decide) rfl ⟨_, rfl⟩ (is_X10_isSign hW hI1 43 (d + 4)) (fun x22 hx22 => ?_)
          obtain ⟨⟨n22, hn22, rfl⟩, hp22⟩ := hx22
          rw [ob_s (x := (43, -7)) hsm hc5_11 (by decide)] at hp22
          refine to_eq (fr' := (45, [(0, .ref 49), (1, .int (nI w))], [.int (nI n22)], gh S a b sc1 ar1 lo, ex, 0, 0)) rfl ?_
          refine to_nf_eq (t := 52) (x := n22) rfl (by omega) (fun q23 => ?_) (fun q23 => ?_)
          · refine to_n 2 (fr' := (55, [(0, .ref 49), (1, .int (nI w))], [.int 45, .ref 49], gh S a b sc1 ar1 lo, ex, 0, 0)) rfl ?_
            refine to_cp (q := 124) (M1 := an_X10_isSign) (rest := []) rfl rfl (by decide) rfl ⟨_, rfl⟩ (is_X10_isSign hW hI1 45 (d + 4)) (fun x24 hx24 => ?_)
            obtain ⟨⟨n24, hn24, rfl⟩, hp24⟩ := hx24
            rw [ob_s (x := (45, -8)) hsm hc5_11 (by decide)] at hp24
            refine to_eq (fr' := (58, [(0, .ref 49), (1, .int (nI w))], [.int (nI n24)], gh S a b sc1 ar1 lo, ex, 0, 0)) rfl ?_
            refine to_nf_eq (t := 65) (x := n24) rfl (by omega) (fun q25 => ?_) (fun q25 => ?_)
            · refine to_n 3 (fr' := (68, [(0, .ref 49), (1, .int (nI w)), (2, .int 3)], [.ref 49], gh S a b sc1 ar1 lo, ex, 0, 0)) rfl ?_
              refine to_cv (q := 122) (M1 := an_X10_step) (rest := []) rfl rfl (by decide) rfl ⟨_, rfl⟩ (st_nextx hW hI1 hc5_1 (by omega) hc5_4 (ob_no hsm hc5_11 (or_t hp20 q21 hn20) (by decide)) hsm hlen4 hne hc5_12 hc5_11 (d + 3)) (fun sc26 ar26 hx26 => ?_)
              obtain ⟨hI26, hG26, hz26, ⟨B26, eB26, hB26, hC26⟩, rs26⟩ := hx26
              have t26 : ar26 67 = T := (hG26.2 67 (by decide)).trans hc5_12
              have k26_4907 : sc26 4907 = (nI l) := (hG26.1 4907 (by decide)).trans hc5_2
              have k26_4934 : sc26 4934 = (nI c1) := (hG26.1 4934 (by decide)).trans hc5_0
              have k26_4941 : sc26 4941 = 0 := (hG26.1 4941 (by decide)).trans hc5_3
              have hk26 : ∀ x, x < 700 * l + c → ar26 71 x = ar 71 x := kp_st hc5_5 hG26 (by decide)
              have sg26_0 := sg_st hc5_9 hG26 (by decide)
              have sd26_0 := sgr_st sW hG26 (by decide)
              have hF26 := fr_t hF1 hG26 (by decide) (by decide)
              refine to_eq (fr' := (71, [(0, .ref 49), (1, .int (nI w)), (2, .int 3)], [], gh S a b sc26 ar26 lo, ex, 0, 0)) rfl ?_
              refine to_n 2 (fr' := (73, [(0, .ref 49), (1, .int (nI w)), (2, .int 3)], [.int (nI w), .ref 49], gh S a b sc26 ar26 lo, ex, 0, 0)) rfl ?_
              refine to_cv (q := 131) (M1 := an_X10_readPart) (rest := []) rfl rfl (by decide) rfl ⟨_, rfl⟩ (hE sc26 ar26 l c1 (e + 2) B26 (ad_ sz j1) hI26 (by omega) k26_4907 k26_4934 eB26 (by omega) k26_4941 hz26 (by omega) t26 rs26) (fun sc27 ar27 hx27 => ?_)
              obtain ⟨hI27, hG27, hu27, hr27, hy27, hd27⟩ := hx27
              have k27_4907 : sc27 4907 = nI l := (hG27.1 4907 (by decide)).trans k26_4907
              have hk27 : ∀ x, x < 700 * l + c → ar27 71 x = ar 71 x := fun x w => (hu27 x (by omega)).trans (hk26 x w)
              have hF27 := fr_t hF26 hG27 (by decide) (by decide)
              have t27 : ar27 67 = T := (hG27.2 67 (by decide)).trans t26
              have sg27_0 := seg_ag sg26_0 hu27 (by omega)
              have sd27_0 := sgr_ag sd26_0 hu27 (by omega)
              rcases hy27 with ⟨hb27, k27, ey27, rs27⟩ | ⟨hb27, k27, ey27, bp27⟩
              · rcases hr27 with hbb27 | ⟨-, hz27, c27, B27, ec27, eB27, hcc27, hBB27, hB27, hpo27, sg27⟩
                · exact absurd hb27 hbb27
                · have sd27 := hd27 hb27 c27 (by omega) ec27
                  refine to_eq (fr' := (76, [(0, .ref 49), (1, .int (nI w)), (2, .int 3)], [], gh S a b sc27 ar27 lo, ex, 0, 0)) rfl ?_
                  refine to_n 2 (fr' := (78, [(0, .ref 49), (1, .int (nI w)), (2, .int 3)], [.int 3, .ref 49], gh S a b sc27 ar27 lo, ex, 0, 0)) rfl ?_
                  refine to_cv (q := 126) (M1 := an_X10_emit) (rest := []) rfl rfl (by decide) rfl ⟨_, rfl⟩ (em_ok hW hI27 3 l c27 (by omega) (by omega) hb27 k27_4907 ec27 (d + 4)) (fun sc28 ar28 hx28 => ?_)
                  obtain ⟨hI28, hG28, hs28, ha28⟩ := hx28
                  have k28_4907 : sc28 4907 = (nI l) := (hG28.1 4907 (by decide)).trans k27_4907
                  have k28_4939 : sc28 4939 = (nI B27) := (hG28.1 4939 (by decide)).trans eB27
                  have k28_4941 : sc28 4941 = 0 := (hG28.1 4941 (by decide)).trans hb27
                  have k28_4934 : sc28 4934 = nI (c27 + 1) := by rw [hs28]; exact up_eq
                  have hc28 : ar28 71 = upd (ar27 71) (700 * l + c27) 3 := by rw [ha28]; rfl
                  have hv28 : ar28 71 (700 * l + c27) = 3 := by rw [hc28]; exact up_eq
                  have hu28 : ∀ x, x < 700 * l + c27 → ar28 71 x = ar27 71 x := fun x w => by rw [hc28]; exact up_ne (by omega)
                  have hk28 : ∀ x, x < 700 * l + c → ar28 71 x = ar 71 x := fun x w => (hu28 x (by omega)).trans (hk27 x w)
                  have hz28 := pz_fr hz27 hG28 (by decide) (by decide) (by decide) (by decide) (by decide)
                  have hF28 := fr_t hF27 hG28 (by decide) (by decide)
                  have sg28_0 := seg_ag sg27_0 hu28 (by omega)
                  have sg28_1 := seg_ag sg27 hu28 (by omega)
                  have sd28_0 := sgr_ag sd27_0 hu28 (by omega)
                  have sd28_1 := sgr_ag sd27 hu28 (by omega)
                  have sb28 : seg (ar28 71) (700 * l + c) (700 * l + (c27 + 1)) (h + 1) := seg_bin (k := 700 * l + c27) sg28_0 sg28_1 hv28 (by decide) (by decide) (by decide) (by omega) (by omega) (by omega) (by omega)
                  have sd28 : sgr (ar28 71) (700 * l + c) (700 * l + (c27 + 1)) _ := sgr_bin (k := 700 * l + c27) (c := tk j1) sd28_0 sd28_1 hv28 (by decide) (by decide) (by decide) (z7_3 (by rw [or_t hp20 q21 hn20]; decide) (or_f hp22 q23) (or_f hp24 q25))
                  have t28 : ar28 67 = T := (hG28.2 67 (by decide)).trans t27
                  have rs28 := rs_fr rs27 hG28 (by decide)
                  refine to_eq (fr' := (81, [(0, .ref 49), (1, .int (nI w)), (2, .int 3)], [], gh S a b sc28 ar28 lo, ex, 0, 0)) rfl ?_
                  refine to_n 1 (fr' := (5, [(0, .ref 49), (1, .int (nI w)), (2, .int 3)], [], gh S a b sc28 ar28 lo, ex, 0, 0)) rfl ?_
                  refine to_lv (lv := [(0, .ref 49), (1, .int (nI w))]) rfl ⟨rfl, rfl, trivial⟩ ?_
                  exact ih (c27 + 1) B27 k27 sc28 ar28 (by omega) k28_4934 k28_4939 k28_4907 k28_4941 hz28 hk28 (by omega) (by omega) (by omega) (seg_le sb28 (by omega)) (by omega) rs28 t28 (hc5_13.trans (pl_go hse (by decide) hpg hc5_11.1 (by rw [or_t hp20 q21 hn20]; decide) ey27)) ⟨_, sd28, eW.trans (vl_go hse (by decide) hpg hc5_11.1 (by rw [or_t hp20 q21 hn20]; decide) ey27)⟩ hI28 hF28
              · refine to_eq (fr' := (76, [(0, .ref 49), (1, .int (nI w)), (2, .int 3)], [], gh S a b sc27 ar27 lo, ex, 0, 0)) rfl ?_
                refine to_n 2 (fr' := (78, [(0, .ref 49), (1, .int (nI w)), (2, .int 3)], [.int 3, .ref 49], gh S a b sc27 ar27 lo, ex, 0, 0)) rfl ?_
                refine to_cu (q := 126) (M1 := an_X10_emit) (rest := []) rfl rfl (by decide) rfl ⟨_, rfl⟩ (em_bad 3 hb27 (d + 4)) ?_ 
                refine to_eq (fr' := (81, [(0, .ref 49), (1, .int (nI w)), (2, .int 3)], [], gh S a b sc27 ar27 lo, ex, 0, 0)) rfl ?_
                refine to_n 2 (fr' := (6, [(0, .ref 49), (1, .int (nI w)), (2, .int 3)], [.ref 49], gh S a b sc27 ar27 lo, ex, 0, 0)) rfl ?_
                refine to_getR (v := (sc27 4941)) rfl rfl rfl rfl rfl ?_
                refine to_if_ne_T (t := 84) rfl hb27 ?_
                exact to_rt (i := .return_) (tg := []) rfl rfl ⟨_, _, ⟨hI27, hF27, ⟨hk27, Or.inl hb27, Or.inr ⟨hb27, k27, (hc5_13.trans (pl_bad (m := 400) (by rw [or_t hp20 q21 hn20]; decide) ey27)), bp27⟩, fun w => absurd w hb27⟩⟩, rfl⟩
            · refine to_n 4 (fr' := (68, [(0, .ref 49), (1, .int (nI w)), (2, .int 2)], [.ref 49], gh S a b sc1 ar1 lo, ex, 0, 0)) rfl ?_
              refine to_cv (q := 122) (M1 := an_X10_step) (rest := []) rfl rfl (by decide) rfl ⟨_, rfl⟩ (st_nextx hW hI1 hc5_1 (by omega) hc5_4 (ob_no hsm hc5_11 (or_t hp24 q25 hn24) (by decide)) hsm hlen4 hne hc5_12 hc5_11 (d + 3)) (fun sc30 ar30 hx30 => ?_)
              obtain ⟨hI30, hG30, hz30, ⟨B30, eB30, hB30, hC30⟩, rs30⟩ := hx30
              have t30 : ar30 67 = T := (hG30.2 67 (by decide)).trans hc5_12
              have k30_4907 : sc30 4907 = (nI l) := (hG30.1 4907 (by decide)).trans hc5_2
              have k30_4934 : sc30 4934 = (nI c1) := (hG30.1 4934 (by decide)).trans hc5_0
              have k30_4941 : sc30 4941 = 0 := (hG30.1 4941 (by decide)).trans hc5_3
              have hk30 : ∀ x, x < 700 * l + c → ar30 71 x = ar 71 x := kp_st hc5_5 hG30 (by decide)
              have sg30_0 := sg_st hc5_9 hG30 (by decide)
              have sd30_0 := sgr_st sW hG30 (by decide)
              have hF30 := fr_t hF1 hG30 (by decide) (by decide)
              refine to_eq (fr' := (71, [(0, .ref 49), (1, .int (nI w)), (2, .int 2)], [], gh S a b sc30 ar30 lo, ex, 0, 0)) rfl ?_
              refine to_n 2 (fr' := (73, [(0, .ref 49), (1, .int (nI w)), (2, .int 2)], [.int (nI w), .ref 49], gh S a b sc30 ar30 lo, ex, 0, 0)) rfl ?_
              refine to_cv (q := 131) (M1 := an_X10_readPart) (rest := []) rfl rfl (by decide) rfl ⟨_, rfl⟩ (hE sc30 ar30 l c1 (e + 2) B30 (ad_ sz j1) hI30 (by omega) k30_4907 k30_4934 eB30 (by omega) k30_4941 hz30 (by omega) t30 rs30) (fun sc31 ar31 hx31 => ?_)
              obtain ⟨hI31, hG31, hu31, hr31, hy31, hd31⟩ := hx31
              have k31_4907 : sc31 4907 = nI l := (hG31.1 4907 (by decide)).trans k30_4907
              have hk31 : ∀ x, x < 700 * l + c → ar31 71 x = ar 71 x := fun x w => (hu31 x (by omega)).trans (hk30 x w)
              have hF31 := fr_t hF30 hG31 (by decide) (by decide)
              have t31 : ar31 67 = T := (hG31.2 67 (by decide)).trans t30
              have sg31_0 := seg_ag sg30_0 hu31 (by omega)
              have sd31_0 := sgr_ag sd30_0 hu31 (by omega)
              rcases hy31 with ⟨hb31, k31, ey31, rs31⟩ | ⟨hb31, k31, ey31, bp31⟩
              · rcases hr31 with hbb31 | ⟨-, hz31, c31, B31, ec31, eB31, hcc31, hBB31, hB31, hpo31, sg31⟩
                · exact absurd hb31 hbb31
                · have sd31 := hd31 hb31 c31 (by omega) ec31
                  refine to_eq (fr' := (76, [(0, .ref 49), (1, .int (nI w)), (2, .int 2)], [], gh S a b sc31 ar31 lo, ex, 0, 0)) rfl ?_
                  refine to_n 2 (fr' := (78, [(0, .ref 49), (1, .int (nI w)), (2, .int 2)], [.int 2, .ref 49], gh S a b sc31 ar31 lo, ex, 0, 0)) rfl ?_
                  refine to_cv (q := 126) (M1 := an_X10_emit) (rest := []) rfl rfl (by decide) rfl ⟨_, rfl⟩ (em_ok hW hI31 2 l c31 (by omega) (by omega) hb31 k31_4907 ec31 (d + 4)) (fun sc32 ar32 hx32 => ?_)
                  obtain ⟨hI32, hG32, hs32, ha32⟩ := hx32
                  have k32_4907 : sc32 4907 = (nI l) := (hG32.1 4907 (by decide)).trans k31_4907
                  have k32_4939 : sc32 4939 = (nI B31) := (hG32.1 4939 (by decide)).trans eB31
                  have k32_4941 : sc32 4941 = 0 := (hG32.1 4941 (by decide)).trans hb31
                  have k32_4934 : sc32 4934 = nI (c31 + 1) := by rw [hs32]; exact up_eq
                  have hc32 : ar32 71 = upd (ar31 71) (700 * l + c31) 2 := by rw [ha32]; rfl
                  have hv32 : ar32 71 (700 * l + c31) = 2 := by rw [hc32]; exact up_eq
                  have hu32 : ∀ x, x < 700 * l + c31 → ar32 71 x = ar31 71 x := fun x w => by rw [hc32]; exact up_ne (by omega)
                  have hk32 : ∀ x, x < 700 * l + c → ar32 71 x = ar 71 x := fun x w => (hu32 x (by omega)).trans (hk31 x w)
                  have hz32 := pz_fr hz31 hG32 (by decide) (by decide) (by decide) (by decide) (by decide)
                  have hF32 := fr_t hF31 hG32 (by decide) (by decide)
                  have sg32_0 := seg_ag sg31_0 hu32 (by omega)
                  have sg32_1 := seg_ag sg31 hu32 (by omega)
                  have sd32_0 := sgr_ag sd31_0 hu32 (by omega)
                  have sd32_1 := sgr_ag sd31 hu32 (by omega)
                  have sb32 : seg (ar32 71) (700 * l + c) (700 * l + (c31 + 1)) (h + 1) := seg_bin (k := 700 * l + c31) sg32_0 sg32_1 hv32 (by decide) (by decide) (by decide) (by omega) (by omega) (by omega) (by omega)
                  have sd32 : sgr (ar32 71) (700 * l + c) (700 * l + (c31 + 1)) _ := sgr_bin (k := 700 * l + c31) (c := tk j1) sd32_0 sd32_1 hv32 (by decide) (by decide) (by decide) (z7_2 (or_t hp24 q25 hn24))
                  have t32 : ar32 67 = T := (hG32.2 67 (by decide)).trans t31
                  have rs32 := rs_fr rs31 hG32 (by decide)
                  refine to_eq (fr' := (81, [(0, .ref 49), (1, .int (nI w)), (2, .int 2)], [], gh S a b sc32 ar32 lo, ex, 0, 0)) rfl ?_
                  refine to_n 1 (fr' := (5, [(0, .ref 49), (1, .int (nI w)), (2, .int 2)], [], gh S a b sc32 ar32 lo, ex, 0, 0)) rfl ?_
                  refine to_lv (lv := [(0, .ref 49), (1, .int (nI w))]) rfl ⟨rfl, rfl, trivial⟩ ?_
                  exact ih (c31 + 1) B31 k31 sc32 ar32 (by omega) k32_4934 k32_4939 k32_4907 k32_4941 hz32 hk32 (by omega) (by omega) (by omega) (seg_le sb32 (by omega)) (by omega) rs32 t32 (hc5_13.trans (pl_go hse (by decide) hpg hc5_11.1 (by rw [or_t hp20 q21 hn20]; decide) ey31)) ⟨_, sd32, eW.trans (vl_go hse (by decide) hpg hc5_11.1 (by rw [or_t hp20 q21 hn20]; decide) ey31)⟩ hI32 hF32
              · refine to_eq (fr' := (76, [(0, .ref 49), (1, .int (nI w)), (2, .int 2)], [], gh S a b sc31 ar31 lo, ex, 0, 0)) rfl ?_
                refine to_n 2 (fr' := (78, [(0, .ref 49), (1, .int (nI w)), (2, .int 2)], [.int 2, .ref 49], gh S a b sc31 ar31 lo, ex, 0, 0)) rfl ?_
                refine to_cu (q := 126) (M1 := an_X10_emit) (rest := []) rfl rfl (by decide) rfl ⟨_, rfl⟩ (em_bad 2 hb31 (d + 4)) ?_ 
                refine to_eq (fr' := (81, [(0, .ref 49), (1, .int (nI w)), (2, .int 2)], [], gh S a b sc31 ar31 lo, ex, 0, 0)) rfl ?_
                refine to_n 2 (fr' := (6, [(0, .ref 49), (1, .int (nI w)), (2, .int 2)], [.ref 49], gh S a b sc31 ar31 lo, ex, 0, 0)) rfl ?_
                refine to_getR (v := (sc31 4941)) rfl rfl rfl rfl rfl ?_
                refine to_if_ne_T (t := 84) rfl hb31 ?_
                exact to_rt (i := .return_) (tg := []) rfl rfl ⟨_, _, ⟨hI31, hF31, ⟨hk31, Or.inl hb31, Or.inr ⟨hb31, k31, (hc5_13.trans (pl_bad (m := 400) (by rw [or_t hp20 q21 hn20]; decide) ey31)), bp31⟩, fun w => absurd w hb31⟩⟩, rfl⟩
          · refine to_n 4 (fr' := (68, [(0, .ref 49), (1, .int (nI w)), (2, .int 1)], [.ref 49], gh S a b sc1 ar1 lo, ex, 0, 0)) rfl ?_
            refine to_cv (q := 122) (M1 := an_X10_step) (rest := []) rfl rfl (by decide) rfl ⟨_, rfl⟩ (st_nextx hW hI1 hc5_1 (by omega) hc5_4 (ob_no hsm hc5_11 (or_t hp22 q23 hn22) (by decide)) hsm hlen4 hne hc5_12 hc5_11 (d + 3)) (fun sc34 ar34 hx34 => ?_)
            obtain ⟨hI34, hG34, hz34, ⟨B34, eB34, hB34, hC34⟩, rs34⟩ := hx34
            have t34 : ar34 67 = T := (hG34.2 67 (by decide)).trans hc5_12
            have k34_4907 : sc34 4907 = (nI l) := (hG34.1 4907 (by decide)).trans hc5_2
            have k34_4934 : sc34 4934 = (nI c1) := (hG34.1 4934 (by decide)).trans hc5_0
            have k34_4941 : sc34 4941 = 0 := (hG34.1 4941 (by decide)).trans hc5_3
            have hk34 : ∀ x, x < 700 * l + c → ar34 71 x = ar 71 x := kp_st hc5_5 hG34 (by decide)
            have sg34_0 := sg_st hc5_9 hG34 (by decide)
            have sd34_0 := sgr_st sW hG34 (by decide)
            have hF34 := fr_t hF1 hG34 (by decide) (by decide)
            refine to_eq (fr' := (71, [(0, .ref 49), (1, .int (nI w)), (2, .int 1)], [], gh S a b sc34 ar34 lo, ex, 0, 0)) rfl ?_
            refine to_n 2 (fr' := (73, [(0, .ref 49), (1, .int (nI w)), (2, .int 1)], [.int (nI w), .ref 49], gh S a b sc34 ar34 lo, ex, 0, 0)) rfl ?_
            refine to_cv (q := 131) (M1 := an_X10_readPart) (rest := []) rfl rfl (by decide) rfl ⟨_, rfl⟩ (hE sc34 ar34 l c1 (e + 2) B34 (ad_ sz j1) hI34 (by omega) k34_4907 k34_4934 eB34 (by omega) k34_4941 hz34 (by omega) t34 rs34) (fun sc35 ar35 hx35 => ?_)
            obtain ⟨hI35, hG35, hu35, hr35, hy35, hd35⟩ := hx35
            have k35_4907 : sc35 4907 = nI l := (hG35.1 4907 (by decide)).trans k34_4907
            have hk35 : ∀ x, x < 700 * l + c → ar35 71 x = ar 71 x := fun x w => (hu35 x (by omega)).trans (hk34 x w)
            have hF35 := fr_t hF34 hG35 (by decide) (by decide)
            have t35 : ar35 67 = T := (hG35.2 67 (by decide)).trans t34
            have sg35_0 := seg_ag sg34_0 hu35 (by omega)
            have sd35_0 := sgr_ag sd34_0 hu35 (by omega)
            rcases hy35 with ⟨hb35, k35, ey35, rs35⟩ | ⟨hb35, k35, ey35, bp35⟩
            · rcases hr35 with hbb35 | ⟨-, hz35, c35, B35, ec35, eB35, hcc35, hBB35, hB35, hpo35, sg35⟩
              · exact absurd hb35 hbb35
              · have sd35 := hd35 hb35 c35 (by omega) ec35
                refine to_eq (fr' := (76, [(0, .ref 49), (1, .int (nI w)), (2, .int 1)], [], gh S a b sc35 ar35 lo, ex, 0, 0)) rfl ?_
                refine to_n 2 (fr' := (78, [(0, .ref 49), (1, .int (nI w)), (2, .int 1)], [.int 1, .ref 49], gh S a b sc35 ar35 lo, ex, 0, 0)) rfl ?_
                refine to_cv (q := 126) (M1 := an_X10_emit) (rest := []) rfl rfl (by decide) rfl ⟨_, rfl⟩ (em_ok hW hI35 1 l c35 (by omega) (by omega) hb35 k35_4907 ec35 (d + 4)) (fun sc36 ar36 hx36 => ?_)
                obtain ⟨hI36, hG36, hs36, ha36⟩ := hx36
                have k36_4907 : sc36 4907 = (nI l) := (hG36.1 4907 (by decide)).trans k35_4907
                have k36_4939 : sc36 4939 = (nI B35) := (hG36.1 4939 (by decide)).trans eB35
                have k36_4941 : sc36 4941 = 0 := (hG36.1 4941 (by decide)).trans hb35
                have k36_4934 : sc36 4934 = nI (c35 + 1) := by rw [hs36]; exact up_eq
                have hc36 : ar36 71 = upd (ar35 71) (700 * l + c35) 1 := by rw [ha36]; rfl
                have hv36 : ar36 71 (700 * l + c35) = 1 := by rw [hc36]; exact up_eq
                have hu36 : ∀ x, x < 700 * l + c35 → ar36 71 x = ar35 71 x := fun x w => by rw [hc36]; exact up_ne (by omega)
                have hk36 : ∀ x, x < 700 * l + c → ar36 71 x = ar 71 x := fun x w => (hu36 x (by omega)).trans (hk35 x w)
                have hz36 := pz_fr hz35 hG36 (by decide) (by decide) (by decide) (by decide) (by decide)
                have hF36 := fr_t hF35 hG36 (by decide) (by decide)
                have sg36_0 := seg_ag sg35_0 hu36 (by omega)
                have sg36_1 := seg_ag sg35 hu36 (by omega)
                have sd36_0 := sgr_ag sd35_0 hu36 (by omega)
                have sd36_1 := sgr_ag sd35 hu36 (by omega)
                have sb36 : seg (ar36 71) (700 * l + c) (700 * l + (c35 + 1)) (h + 1) := seg_bin (k := 700 * l + c35) sg36_0 sg36_1 hv36 (by decide) (by decide) (by decide) (by omega) (by omega) (by omega) (by omega)
                have sd36 : sgr (ar36 71) (700 * l + c) (700 * l + (c35 + 1)) _ := sgr_bin (k := 700 * l + c35) (c := tk j1) sd36_0 sd36_1 hv36 (by decide) (by decide) (by decide) (z7_1 (or_t hp22 q23 hn22))
                have t36 : ar36 67 = T := (hG36.2 67 (by decide)).trans t35
                have rs36 := rs_fr rs35 hG36 (by decide)
                refine to_eq (fr' := (81, [(0, .ref 49), (1, .int (nI w)), (2, .int 1)], [], gh S a b sc36 ar36 lo, ex, 0, 0)) rfl ?_
                refine to_n 1 (fr' := (5, [(0, .ref 49), (1, .int (nI w)), (2, .int 1)], [], gh S a b sc36 ar36 lo, ex, 0, 0)) rfl ?_
                refine to_lv (lv := [(0, .ref 49), (1, .int (nI w))]) rfl ⟨rfl, rfl, trivial⟩ ?_
                exact ih (c35 + 1) B35 k35 sc36 ar36 (by omega) k36_4934 k36_4939 k36_4907 k36_4941 hz36 hk36 (by omega) (by omega) (by omega) (seg_le sb36 (by omega)) (by omega) rs36 t36 (hc5_13.trans (pl_go hse (by decide) hpg hc5_11.1 (by rw [or_t hp20 q21 hn20]; decide) ey35)) ⟨_, sd36, eW.trans (vl_go hse (by decide) hpg hc5_11.1 (by rw [or_t hp20 q21 hn20]; decide) ey35)⟩ hI36 hF36
            · refine to_eq (fr' := (76, [(0, .ref 49), (1, .int (nI w)), (2, .int 1)], [], gh S a b sc35 ar35 lo, ex, 0, 0)) rfl ?_
              refine to_n 2 (fr' := (78, [(0, .ref 49), (1, .int (nI w)), (2, .int 1)], [.int 1, .ref 49], gh S a b sc35 ar35 lo, ex, 0, 0)) rfl ?_
              refine to_cu (q := 126) (M1 := an_X10_emit) (rest := []) rfl rfl (by decide) rfl ⟨_, rfl⟩ (em_bad 1 hb35 (d + 4)) ?_ 
              refine to_eq (fr' := (81, [(0, .ref 49), (1, .int (nI w)), (2, .int 1)], [], gh S a b sc35 ar35 lo, ex, 0, 0)) rfl ?_
              refine to_n 2 (fr' := (6, [(0, .ref 49), (1, .int (nI w)), (2, .int 1)], [.ref 49], gh S a b sc35 ar35 lo, ex, 0, 0)) rfl ?_
              refine to_getR (v := (sc35 4941)) rfl rfl rfl rfl rfl ?_
              refine to_if_ne_T (t := 84) rfl hb35 ?_
              exact to_rt (i := .return_) (tg := []) rfl rfl ⟨_, _, ⟨hI35, hF35, ⟨hk35, Or.inl hb35, Or.inr ⟨hb35, k35, (hc5_13.trans (pl_bad (m := 400) (by rw [or_t hp20 q21 hn20]; decide) ey35)), bp35⟩, fun w => absurd w hb35⟩⟩, rfl⟩
        · refine to_n 2 (fr' := (33, [(0, .ref 49), (1, .int (nI w))], [.int 42, .ref 49], gh S a b sc1 ar1 lo, ex, 0, 0)) rfl ?_
          refine to_cp (q := 124) (M1 := an_X10_isSign) (rest := []) rfl rfl (by decide) rfl ⟨_, rfl⟩ (is_X10_isSign hW hI1 42 (d + 4)) (fun x38 hx38 => ?_)
          obtain ⟨⟨n38, hn38, rfl⟩, hp38⟩ := hx38
          rw [ob_s (x := (42, -9)) hsm hc5_11 (by decide)] at hp38
          refine to_eq (fr' := (36, [(0, .ref 49), (1, .int (nI w))], [.int (nI n38)], gh S a b sc1 ar1 lo, ex, 0, 0)) rfl ?_
          refine to_nf_eq (t := 84) (x := n38) rfl (by omega) (fun q39 => ?_) (fun q39 => ?_)
          · exact to_rt (i := .return_) (tg := []) rfl rfl ⟨_, _, ⟨hI1, hF1, ⟨hc5_5, Or.inr ⟨hc5_3, hc5_4, c1, B1, hc5_0, hc5_1, by omega, by omega, by omega, by omega, seg_le hc5_9 (by omega)⟩, Or.inl ⟨hc5_3, j1, (hc5_13.trans (pl_out (m := 400) (by simp only [List.mem_cons, List.not_mem_nil, or_false, not_or]; exact ⟨or_f hp2 q3, or_f hp20 q21, or_f hp38 q39⟩))), hc5_11⟩, fun _ cq hq9 eq9 => (show c1 = cq from (nI_eq (by omega) (by omega)).mp ((hc5_0).symm.trans eq9)) ▸ sgr_v sW (eW.trans (vl_out (m := 400) (by simp only [List.mem_cons, List.not_mem_nil, or_false, not_or]; exact ⟨or_f hp2 q3, or_f hp20 q21, or_f hp38 q39⟩)))⟩⟩, rfl⟩
          · refine to_n 2 (fr' := (42, [(0, .ref 49), (1, .int (nI w))], [.int 43, .ref 49], gh S a b sc1 ar1 lo, ex, 0, 0)) rfl ?_
            refine to_cp (q := 124) (M1 := an_X10_isSign) (rest := []) rfl rfl (by decide) rfl ⟨_, rfl⟩ (is_X10_isSign hW hI1 43 (d + 4)) (fun x40 hx40 => ?_)
            obtain ⟨⟨n40, hn40, rfl⟩, hp40⟩ := hx40
            rw [ob_s (x := (43, -7)) hsm hc5_11 (by decide)] at hp40
            refine to_eq (fr' := (45, [(0, .ref 49), (1, .int (nI w))], [.int (nI n40)], gh S a b sc1 ar1 lo, ex, 0, 0)) rfl ?_
            refine to_nf_eq (t := 52) (x := n40) rfl (by omega) (fun q41 => ?_) (fun q41 => ?_)
            · refine to_n 2 (fr' := (55, [(0, .ref 49), (1, .int (nI w))], [.int 45, .ref 49], gh S a b sc1 ar1 lo, ex, 0, 0)) rfl ?_
              refine to_cp (q := 124) (M1 := an_X10_isSign) (rest := []) rfl rfl (by decide) rfl ⟨_, rfl⟩ (is_X10_isSign hW hI1 45 (d + 4)) (fun x42 hx42 => ?_)
              obtain ⟨⟨n42, hn42, rfl⟩, hp42⟩ := hx42
              rw [ob_s (x := (45, -8)) hsm hc5_11 (by decide)] at hp42
              refine to_eq (fr' := (58, [(0, .ref 49), (1, .int (nI w))], [.int (nI n42)], gh S a b sc1 ar1 lo, ex, 0, 0)) rfl ?_
              refine to_nf_eq (t := 65) (x := n42) rfl (by omega) (fun q43 => ?_) (fun q43 => ?_)
              · refine to_n 3 (fr' := (68, [(0, .ref 49), (1, .int (nI w)), (2, .int 3)], [.ref 49], gh S a b sc1 ar1 lo, ex, 0, 0)) rfl ?_
                refine to_cv (q := 122) (M1 := an_X10_step) (rest := []) rfl rfl (by decide) rfl ⟨_, rfl⟩ (st_nextx hW hI1 hc5_1 (by omega) hc5_4 (ob_no hsm hc5_11 (or_t hp38 q39 hn38) (by decide)) hsm hlen4 hne hc5_12 hc5_11 (d + 3)) (fun sc44 ar44 hx44 => ?_)
                obtain ⟨hI44, hG44, hz44, ⟨B44, eB44, hB44, hC44⟩, rs44⟩ := hx44
                have t44 : ar44 67 = T := (hG44.2 67 (by decide)).trans hc5_12
                have k44_4907 : sc44 4907 = (nI l) := (hG44.1 4907 (by decide)).trans hc5_2
                have k44_4934 : sc44 4934 = (nI c1) := (hG44.1 4934 (by decide)).trans hc5_0
                have k44_4941 : sc44 4941 = 0 := (hG44.1 4941 (by decide)).trans hc5_3
                have hk44 : ∀ x, x < 700 * l + c → ar44 71 x = ar 71 x := kp_st hc5_5 hG44 (by decide)
                have sg44_0 := sg_st hc5_9 hG44 (by decide)
                have sd44_0 := sgr_st sW hG44 (by decide)
                have hF44 := fr_t hF1 hG44 (by decide) (by decide)
                refine to_eq (fr' := (71, [(0, .ref 49), (1, .int (nI w)), (2, .int 3)], [], gh S a b sc44 ar44 lo, ex, 0, 0)) rfl ?_
                refine to_n 2 (fr' := (73, [(0, .ref 49), (1, .int (nI w)), (2, .int 3)], [.int (nI w), .ref 49], gh S a b sc44 ar44 lo, ex, 0, 0)) rfl ?_
                refine to_cv (q := 131) (M1 := an_X10_readPart) (rest := []) rfl rfl (by decide) rfl ⟨_, rfl⟩ (hE sc44 ar44 l c1 (e + 2) B44 (ad_ sz j1) hI44 (by omega) k44_4907 k44_4934 eB44 (by omega) k44_4941 hz44 (by omega) t44 rs44) (fun sc45 ar45 hx45 => ?_)
                obtain ⟨hI45, hG45, hu45, hr45, hy45, hd45⟩ := hx45
                have k45_4907 : sc45 4907 = nI l := (hG45.1 4907 (by decide)).trans k44_4907
                have hk45 : ∀ x, x < 700 * l + c → ar45 71 x = ar 71 x := fun x w => (hu45 x (by omega)).trans (hk44 x w)
                have hF45 := fr_t hF44 hG45 (by decide) (by decide)
                have t45 : ar45 67 = T := (hG45.2 67 (by decide)).trans t44
                have sg45_0 := seg_ag sg44_0 hu45 (by omega)
                have sd45_0 := sgr_ag sd44_0 hu45 (by omega)
                rcases hy45 with ⟨hb45, k45, ey45, rs45⟩ | ⟨hb45, k45, ey45, bp45⟩
                · rcases hr45 with hbb45 | ⟨-, hz45, c45, B45, ec45, eB45, hcc45, hBB45, hB45, hpo45, sg45⟩
                  · exact absurd hb45 hbb45
                  · have sd45 := hd45 hb45 c45 (by omega) ec45
                    refine to_eq (fr' := (76, [(0, .ref 49), (1, .int (nI w)), (2, .int 3)], [], gh S a b sc45 ar45 lo, ex, 0, 0)) rfl ?_
                    refine to_n 2 (fr' := (78, [(0, .ref 49), (1, .int (nI w)), (2, .int 3)], [.int 3, .ref 49], gh S a b sc45 ar45 lo, ex, 0, 0)) rfl ?_
                    refine to_cv (q := 126) (M1 := an_X10_emit) (rest := []) rfl rfl (by decide) rfl ⟨_, rfl⟩ (em_ok hW hI45 3 l c45 (by omega) (by omega) hb45 k45_4907 ec45 (d + 4)) (fun sc46 ar46 hx46 => ?_)
                    obtain ⟨hI46, hG46, hs46, ha46⟩ := hx46
                    have k46_4907 : sc46 4907 = (nI l) := (hG46.1 4907 (by decide)).trans k45_4907
                    have k46_4939 : sc46 4939 = (nI B45) := (hG46.1 4939 (by decide)).trans eB45
                    have k46_4941 : sc46 4941 = 0 := (hG46.1 4941 (by decide)).trans hb45
                    have k46_4934 : sc46 4934 = nI (c45 + 1) := by rw [hs46]; exact up_eq
                    have hc46 : ar46 71 = upd (ar45 71) (700 * l + c45) 3 := by rw [ha46]; rfl
                    have hv46 : ar46 71 (700 * l + c45) = 3 := by rw [hc46]; exact up_eq
                    have hu46 : ∀ x, x < 700 * l + c45 → ar46 71 x = ar45 71 x := fun x w => by rw [hc46]; exact up_ne (by omega)
                    have hk46 : ∀ x, x < 700 * l + c → ar46 71 x = ar 71 x := fun x w => (hu46 x (by omega)).trans (hk45 x w)
                    have hz46 := pz_fr hz45 hG46 (by decide) (by decide) (by decide) (by decide) (by decide)
                    have hF46 := fr_t hF45 hG46 (by decide) (by decide)
                    have sg46_0 := seg_ag sg45_0 hu46 (by omega)
                    have sg46_1 := seg_ag sg45 hu46 (by omega)
                    have sd46_0 := sgr_ag sd45_0 hu46 (by omega)
                    have sd46_1 := sgr_ag sd45 hu46 (by omega)
                    have sb46 : seg (ar46 71) (700 * l + c) (700 * l + (c45 + 1)) (h + 1) := seg_bin (k := 700 * l + c45) sg46_0 sg46_1 hv46 (by decide) (by decide) (by decide) (by omega) (by omega) (by omega) (by omega)
                    have sd46 : sgr (ar46 71) (700 * l + c) (700 * l + (c45 + 1)) _ := sgr_bin (k := 700 * l + c45) (c := tk j1) sd46_0 sd46_1 hv46 (by decide) (by decide) (by decide) (z7_3 (by rw [or_t hp38 q39 hn38]; decide) (or_f hp40 q41) (or_f hp42 q43))
                    have t46 : ar46 67 = T := (hG46.2 67 (by decide)).trans t45
                    have rs46 := rs_fr rs45 hG46 (by decide)
                    refine to_eq (fr' := (81, [(0, .ref 49), (1, .int (nI w)), (2, .int 3)], [], gh S a b sc46 ar46 lo, ex, 0, 0)) rfl ?_
                    refine to_n 1 (fr' := (5, [(0, .ref 49), (1, .int (nI w)), (2, .int 3)], [], gh S a b sc46 ar46 lo, ex, 0, 0)) rfl ?_
                    refine to_lv (lv := [(0, .ref 49), (1, .int (nI w))]) rfl ⟨rfl, rfl, trivial⟩ ?_
                    exact ih (c45 + 1) B45 k45 sc46 ar46 (by omega) k46_4934 k46_4939 k46_4907 k46_4941 hz46 hk46 (by omega) (by omega) (by omega) (seg_le sb46 (by omega)) (by omega) rs46 t46 (hc5_13.trans (pl_go hse (by decide) hpg hc5_11.1 (by rw [or_t hp38 q39 hn38]; decide) ey45)) ⟨_, sd46, eW.trans (vl_go hse (by decide) hpg hc5_11.1 (by rw [or_t hp38 q39 hn38]; decide) ey45)⟩ hI46 hF46
                · refine to_eq (fr' := (76, [(0, .ref 49), (1, .int (nI w)), (2, .int 3)], [], gh S a b sc45 ar45 lo, ex, 0, 0)) rfl ?_
                  refine to_n 2 (fr' := (78, [(0, .ref 49), (1, .int (nI w)), (2, .int 3)], [.int 3, .ref 49], gh S a b sc45 ar45 lo, ex, 0, 0)) rfl ?_
                  refine to_cu (q := 126) (M1 := an_X10_emit) (rest := []) rfl rfl (by decide) rfl ⟨_, rfl⟩ (em_bad 3 hb45 (d + 4)) ?_ 
                  refine to_eq (fr' := (81, [(0, .ref 49), (1, .int (nI w)), (2, .int 3)], [], gh S a b sc45 ar45 lo, ex, 0, 0)) rfl ?_
                  refine to_n 2 (fr' := (6, [(0, .ref 49), (1, .int (nI w)), (2, .int 3)], [.ref 49], gh S a b sc45 ar45 lo, ex, 0, 0)) rfl ?_
                  refine to_getR (v := (sc45 4941)) rfl rfl rfl rfl rfl ?_
                  refine to_if_ne_T (t := 84) rfl hb45 ?_
                  exact to_rt (i := .return_) (tg := []) rfl rfl ⟨_, _, ⟨hI45, hF45, ⟨hk45, Or.inl hb45, Or.inr ⟨hb45, k45, (hc5_13.trans (pl_bad (m := 400) (by rw [or_t hp38 q39 hn38]; decide) ey45)), bp45⟩, fun w => absurd w hb45⟩⟩, rfl⟩
              · refine to_n 4 (fr' := (68, [(0, .ref 49), (1, .int (nI w)), (2, .int 2)], [.ref 49], gh S a b sc1 ar1 lo, ex, 0, 0)) rfl ?_
                refine to_cv (q := 122) (M1 := an_X10_step) (rest := []) rfl rfl (by decide) rfl ⟨_, rfl⟩ (st_nextx hW hI1 hc5_1 (by omega) hc5_4 (ob_no hsm hc5_11 (or_t hp42 q43 hn42) (by decide)) hsm hlen4 hne hc5_12 hc5_11 (d + 3)) (fun sc48 ar48 hx48 => ?_)
                obtain ⟨hI48, hG48, hz48, ⟨B48, eB48, hB48, hC48⟩, rs48⟩ := hx48
                have t48 : ar48 67 = T := (hG48.2 67 (by decide)).trans hc5_12
                have k48_4907 : sc48 4907 = (nI l) := (hG48.1 4907 (by decide)).trans hc5_2
                have k48_4934 : sc48 4934 = (nI c1) := (hG48.1 4934 (by decide)).trans hc5_0
                have k48_4941 : sc48 4941 = 0 := (hG48.1 4941 (by decide)).trans hc5_3
                have hk48 : ∀ x, x < 700 * l + c → ar48 71 x = ar 71 x := kp_st hc5_5 hG48 (by decide)
                have sg48_0 := sg_st hc5_9 hG48 (by decide)
                have sd48_0 := sgr_st sW hG48 (by decide)
                have hF48 := fr_t hF1 hG48 (by decide) (by decide)
                refine to_eq (fr' := (71, [(0, .ref 49), (1, .int (nI w)), (2, .int 2)], [], gh S a b sc48 ar48 lo, ex, 0, 0)) rfl ?_
                refine to_n 2 (fr' := (73, [(0, .ref 49), (1, .int (nI w)), (2, .int 2)], [.int (nI w), .ref 49], gh S a b sc48 ar48 lo, ex, 0, 0)) rfl ?_
                refine to_cv (q := 131) (M1 := an_X10_readPart) (rest := []) rfl rfl (by decide) rfl ⟨_, rfl⟩ (hE sc48 ar48 l c1 (e + 2) B48 (ad_ sz j1) hI48 (by omega) k48_4907 k48_4934 eB48 (by omega) k48_4941 hz48 (by omega) t48 rs48) (fun sc49 ar49 hx49 => ?_)
                obtain ⟨hI49, hG49, hu49, hr49, hy49, hd49⟩ := hx49
                have k49_4907 : sc49 4907 = nI l := (hG49.1 4907 (by decide)).trans k48_4907
                have hk49 : ∀ x, x < 700 * l + c → ar49 71 x = ar 71 x := fun x w => (hu49 x (by omega)).trans (hk48 x w)
                have hF49 := fr_t hF48 hG49 (by decide) (by decide)
                have t49 : ar49 67 = T := (hG49.2 67 (by decide)).trans t48
                have sg49_0 := seg_ag sg48_0 hu49 (by omega)
                have sd49_0 := sgr_ag sd48_0 hu49 (by omega)
                rcases hy49 with ⟨hb49, k49, ey49, rs49⟩ | ⟨hb49, k49, ey49, bp49⟩
                · rcases hr49 with hbb49 | ⟨-, hz49, c49, B49, ec49, eB49, hcc49, hBB49, hB49, hpo49, sg49⟩
                  · exact absurd hb49 hbb49
                  · have sd49 := hd49 hb49 c49 (by omega) ec49
                    refine to_eq (fr' := (76, [(0, .ref 49), (1, .int (nI w)), (2, .int 2)], [], gh S a b sc49 ar49 lo, ex, 0, 0)) rfl ?_
                    refine to_n 2 (fr' := (78, [(0, .ref 49), (1, .int (nI w)), (2, .int 2)], [.int 2, .ref 49], gh S a b sc49 ar49 lo, ex, 0, 0)) rfl ?_
                    refine to_cv (q := 126) (M1 := an_X10_emit) (rest := []) rfl rfl (by decide) rfl ⟨_, rfl⟩ (em_ok hW hI49 2 l c49 (by omega) (by omega) hb49 k49_4907 ec49 (d + 4)) (fun sc50 ar50 hx50 => ?_)
                    obtain ⟨hI50, hG50, hs50, ha50⟩ := hx50
                    have k50_4907 : sc50 4907 = (nI l) := (hG50.1 4907 (by decide)).trans k49_4907
                    have k50_4939 : sc50 4939 = (nI B49) := (hG50.1 4939 (by decide)).trans eB49
                    have k50_4941 : sc50 4941 = 0 := (hG50.1 4941 (by decide)).trans hb49
                    have k50_4934 : sc50 4934 = nI (c49 + 1) := by rw [hs50]; exact up_eq
                    have hc50 : ar50 71 = upd (ar49 71) (700 * l + c49) 2 := by rw [ha50]; rfl
                    have hv50 : ar50 71 (700 * l + c49) = 2 := by rw [hc50]; exact up_eq
                    have hu50 : ∀ x, x < 700 * l + c49 → ar50 71 x = ar49 71 x := fun x w => by rw [hc50]; exact up_ne (by omega)
                    have hk50 : ∀ x, x < 700 * l + c → ar50 71 x = ar 71 x := fun x w => (hu50 x (by omega)).trans (hk49 x w)
                    have hz50 := pz_fr hz49 hG50 (by decide) (by decide) (by decide) (by decide) (by decide)
                    have hF50 := fr_t hF49 hG50 (by decide) (by decide)
                    have sg50_0 := seg_ag sg49_0 hu50 (by omega)
                    have sg50_1 := seg_ag sg49 hu50 (by omega)
                    have sd50_0 := sgr_ag sd49_0 hu50 (by omega)
                    have sd50_1 := sgr_ag sd49 hu50 (by omega)
                    have sb50 : seg (ar50 71) (700 * l + c) (700 * l + (c49 + 1)) (h + 1) := seg_bin (k := 700 * l + c49) sg50_0 sg50_1 hv50 (by decide) (by decide) (by decide) (by omega) (by omega) (by omega) (by omega)
                    have sd50 : sgr (ar50 71) (700 * l + c) (700 * l + (c49 + 1)) _ := sgr_bin (k := 700 * l + c49) (c := tk j1) sd50_0 sd50_1 hv50 (by decide) (by decide) (by decide) (z7_2 (or_t hp42 q43 hn42))
                    have t50 : ar50 67 = T := (hG50.2 67 (by decide)).trans t49
                    have rs50 := rs_fr rs49 hG50 (by decide)
                    refine to_eq (fr' := (81, [(0, .ref 49), (1, .int (nI w)), (2, .int 2)], [], gh S a b sc50 ar50 lo, ex, 0, 0)) rfl ?_
                    refine to_n 1 (fr' := (5, [(0, .ref 49), (1, .int (nI w)), (2, .int 2)], [], gh S a b sc50 ar50 lo, ex, 0, 0)) rfl ?_
                    refine to_lv (lv := [(0, .ref 49), (1, .int (nI w))]) rfl ⟨rfl, rfl, trivial⟩ ?_
                    exact ih (c49 + 1) B49 k49 sc50 ar50 (by omega) k50_4934 k50_4939 k50_4907 k50_4941 hz50 hk50 (by omega) (by omega) (by omega) (seg_le sb50 (by omega)) (by omega) rs50 t50 (hc5_13.trans (pl_go hse (by decide) hpg hc5_11.1 (by rw [or_t hp38 q39 hn38]; decide) ey49)) ⟨_, sd50, eW.trans (vl_go hse (by decide) hpg hc5_11.1 (by rw [or_t hp38 q39 hn38]; decide) ey49)⟩ hI50 hF50
                · refine to_eq (fr' := (76, [(0, .ref 49), (1, .int (nI w)), (2, .int 2)], [], gh S a b sc49 ar49 lo, ex, 0, 0)) rfl ?_
                  refine to_n 2 (fr' := (78, [(0, .ref 49), (1, .int (nI w)), (2, .int 2)], [.int 2, .ref 49], gh S a b sc49 ar49 lo, ex, 0, 0)) rfl ?_
                  refine to_cu (q := 126) (M1 := an_X10_emit) (rest := []) rfl rfl (by decide) rfl ⟨_, rfl⟩ (em_bad 2 hb49 (d + 4)) ?_ 
                  refine to_eq (fr' := (81, [(0, .ref 49), (1, .int (nI w)), (2, .int 2)], [], gh S a b sc49 ar49 lo, ex, 0, 0)) rfl ?_
                  refine to_n 2 (fr' := (6, [(0, .ref 49), (1, .int (nI w)), (2, .int 2)], [.ref 49], gh S a b sc49 ar49 lo, ex, 0, 0)) rfl ?_
                  refine to_getR (v := (sc49 4941)) rfl rfl rfl rfl rfl ?_
                  refine to_if_ne_T (t := 84) rfl hb49 ?_
                  exact to_rt (i := .return_) (tg := []) rfl rfl ⟨_, _, ⟨hI49, hF49, ⟨hk49, Or.inl hb49, Or.inr ⟨hb49, k49, (hc5_13.trans (pl_bad (m := 400) (by rw [or_t hp38 q39 hn38]; decide) ey49)), bp49⟩, fun w => absurd w hb49⟩⟩, rfl⟩
            · refine to_n 4 (fr' := (68, [(0, .ref 49), (1, .int (nI w)), (2, .int 1)], [.ref 49], gh S a b sc1 ar1 lo, ex, 0, 0)) rfl ?_
              refine to_cv (q := 122) (M1 := an_X10_step) (rest := []) rfl rfl (by decide) rfl ⟨_, rfl⟩ (st_nextx hW hI1 hc5_1 (by omega) hc5_4 (ob_no hsm hc5_11 (or_t hp40 q41 hn40) (by decide)) hsm hlen4 hne hc5_12 hc5_11 (d + 3)) (fun sc52 ar52 hx52 => ?_)
              obtain ⟨hI52, hG52, hz52, ⟨B52, eB52, hB52, hC52⟩, rs52⟩ := hx52
              have t52 : ar52 67 = T := (hG52.2 67 (by decide)).trans hc5_12
              have k52_4907 : sc52 4907 = (nI l) := (hG52.1 4907 (by decide)).trans hc5_2
              have k52_4934 : sc52 4934 = (nI c1) := (hG52.1 4934 (by decide)).trans hc5_0
              have k52_4941 : sc52 4941 = 0 := (hG52.1 4941 (by decide)).trans hc5_3
              have hk52 : ∀ x, x < 700 * l + c → ar52 71 x = ar 71 x := kp_st hc5_5 hG52 (by decide)
              have sg52_0 := sg_st hc5_9 hG52 (by decide)
              have sd52_0 := sgr_st sW hG52 (by decide)
              have hF52 := fr_t hF1 hG52 (by decide) (by decide)
              refine to_eq (fr' := (71, [(0, .ref 49), (1, .int (nI w)), (2, .int 1)], [], gh S a b sc52 ar52 lo, ex, 0, 0)) rfl ?_
              refine to_n 2 (fr' := (73, [(0, .ref 49), (1, .int (nI w)), (2, .int 1)], [.int (nI w), .ref 49], gh S a b sc52 ar52 lo, ex, 0, 0)) rfl ?_
              refine to_cv (q := 131) (M1 := an_X10_readPart) (rest := []) rfl rfl (by decide) rfl ⟨_, rfl⟩ (hE sc52 ar52 l c1 (e + 2) B52 (ad_ sz j1) hI52 (by omega) k52_4907 k52_4934 eB52 (by omega) k52_4941 hz52 (by omega) t52 rs52) (fun sc53 ar53 hx53 => ?_)
              obtain ⟨hI53, hG53, hu53, hr53, hy53, hd53⟩ := hx53
              have k53_4907 : sc53 4907 = nI l := (hG53.1 4907 (by decide)).trans k52_4907
              have hk53 : ∀ x, x < 700 * l + c → ar53 71 x = ar 71 x := fun x w => (hu53 x (by omega)).trans (hk52 x w)
              have hF53 := fr_t hF52 hG53 (by decide) (by decide)
              have t53 : ar53 67 = T := (hG53.2 67 (by decide)).trans t52
              have sg53_0 := seg_ag sg52_0 hu53 (by omega)
              have sd53_0 := sgr_ag sd52_0 hu53 (by omega)
              rcases hy53 with ⟨hb53, k53, ey53, rs53⟩ | ⟨hb53, k53, ey53, bp53⟩
              · rcases hr53 with hbb53 | ⟨-, hz53, c53, B53, ec53, eB53, hcc53, hBB53, hB53, hpo53, sg53⟩
                · exact absurd hb53 hbb53
                · have sd53 := hd53 hb53 c53 (by omega) ec53
                  refine to_eq (fr' := (76, [(0, .ref 49), (1, .int (nI w)), (2, .int 1)], [], gh S a b sc53 ar53 lo, ex, 0, 0)) rfl ?_
                  refine to_n 2 (fr' := (78, [(0, .ref 49), (1, .int (nI w)), (2, .int 1)], [.int 1, .ref 49], gh S a b sc53 ar53 lo, ex, 0, 0)) rfl ?_
                  refine to_cv (q := 126) (M1 := an_X10_emit) (rest := []) rfl rfl (by decide) rfl ⟨_, rfl⟩ (em_ok hW hI53 1 l c53 (by omega) (by omega) hb53 k53_4907 ec53 (d + 4)) (fun sc54 ar54 hx54 => ?_)
                  obtain ⟨hI54, hG54, hs54, ha54⟩ := hx54
                  have k54_4907 : sc54 4907 = (nI l) := (hG54.1 4907 (by decide)).trans k53_4907
                  have k54_4939 : sc54 4939 = (nI B53) := (hG54.1 4939 (by decide)).trans eB53
                  have k54_4941 : sc54 4941 = 0 := (hG54.1 4941 (by decide)).trans hb53
                  have k54_4934 : sc54 4934 = nI (c53 + 1) := by rw [hs54]; exact up_eq
                  have hc54 : ar54 71 = upd (ar53 71) (700 * l + c53) 1 := by rw [ha54]; rfl
                  have hv54 : ar54 71 (700 * l + c53) = 1 := by rw [hc54]; exact up_eq
                  have hu54 : ∀ x, x < 700 * l + c53 → ar54 71 x = ar53 71 x := fun x w => by rw [hc54]; exact up_ne (by omega)
                  have hk54 : ∀ x, x < 700 * l + c → ar54 71 x = ar 71 x := fun x w => (hu54 x (by omega)).trans (hk53 x w)
                  have hz54 := pz_fr hz53 hG54 (by decide) (by decide) (by decide) (by decide) (by decide)
                  have hF54 := fr_t hF53 hG54 (by decide) (by decide)
                  have sg54_0 := seg_ag sg53_0 hu54 (by omega)
                  have sg54_1 := seg_ag sg53 hu54 (by omega)
                  have sd54_0 := sgr_ag sd53_0 hu54 (by omega)
                  have sd54_1 := sgr_ag sd53 hu54 (by omega)
                  have sb54 : seg (ar54 71) (700 * l + c) (700 * l + (c53 + 1)) (h + 1) := seg_bin (k := 700 * l + c53) sg54_0 sg54_1 hv54 (by decide) (by decide) (by decide) (by omega) (by omega) (by omega) (by omega)
                  have sd54 : sgr (ar54 71) (700 * l + c) (700 * l + (c53 + 1)) _ := sgr_bin (k := 700 * l + c53) (c := tk j1) sd54_0 sd54_1 hv54 (by decide) (by decide) (by decide) (z7_1 (or_t hp40 q41 hn40))
                  have t54 : ar54 67 = T := (hG54.2 67 (by decide)).trans t53
                  have rs54 := rs_fr rs53 hG54 (by decide)
                  refine to_eq (fr' := (81, [(0, .ref 49), (1, .int (nI w)), (2, .int 1)], [], gh S a b sc54 ar54 lo, ex, 0, 0)) rfl ?_
                  refine to_n 1 (fr' := (5, [(0, .ref 49), (1, .int (nI w)), (2, .int 1)], [], gh S a b sc54 ar54 lo, ex, 0, 0)) rfl ?_
                  refine to_lv (lv := [(0, .ref 49), (1, .int (nI w))]) rfl ⟨rfl, rfl, trivial⟩ ?_
                  exact ih (c53 + 1) B53 k53 sc54 ar54 (by omega) k54_4934 k54_4939 k54_4907 k54_4941 hz54 hk54 (by omega) (by omega) (by omega) (seg_le sb54 (by omega)) (by omega) rs54 t54 (hc5_13.trans (pl_go hse (by decide) hpg hc5_11.1 (by rw [or_t hp38 q39 hn38]; decide) ey53)) ⟨_, sd54, eW.trans (vl_go hse (by decide) hpg hc5_11.1 (by rw [or_t hp38 q39 hn38]; decide) ey53)⟩ hI54 hF54
              · refine to_eq (fr' := (76, [(0, .ref 49), (1, .int (nI w)), (2, .int 1)], [], gh S a b sc53 ar53 lo, ex, 0, 0)) rfl ?_
                refine to_n 2 (fr' := (78, [(0, .ref 49), (1, .int (nI w)), (2, .int 1)], [.int 1, .ref 49], gh S a b sc53 ar53 lo, ex, 0, 0)) rfl ?_
                refine to_cu (q := 126) (M1 := an_X10_emit) (rest := []) rfl rfl (by decide) rfl ⟨_, rfl⟩ (em_bad 1 hb53 (d + 4)) ?_ 
                refine to_eq (fr' := (81, [(0, .ref 49), (1, .int (nI w)), (2, .int 1)], [], gh S a b sc53 ar53 lo, ex, 0, 0)) rfl ?_
                refine to_n 2 (fr' := (6, [(0, .ref 49), (1, .int (nI w)), (2, .int 1)], [.ref 49], gh S a b sc53 ar53 lo, ex, 0, 0)) rfl ?_
                refine to_getR (v := (sc53 4941)) rfl rfl rfl rfl rfl ?_
                refine to_if_ne_T (t := 84) rfl hb53 ?_
                exact to_rt (i := .return_) (tg := []) rfl rfl ⟨_, _, ⟨hI53, hF53, ⟨hk53, Or.inl hb53, Or.inr ⟨hb53, k53, (hc5_13.trans (pl_bad (m := 400) (by rw [or_t hp38 q39 hn38]; decide) ey53)), bp53⟩, fun w => absurd w hb53⟩⟩, rfl⟩
  refine to_n 2 (fr' := (2, [(0, .ref 49), (1, .int (nI w))], [.int (nI w), .ref 49], gh S a b sc ar lo, ex, 0, 0)) rfl ?_
  refine to_cv (q := 131) (M1 := an_X10_readPart) (rest := []) rfl rfl (by decide) rfl ⟨_, rfl⟩ (hE sc ar l c e B j hI (by omega) el ec eB (by omega) eb hz (by omega) hT hr) (fun sc56 ar56 hx56 => ?_)
  obtain ⟨hI56, hG56, hu56, hr56, hy56, hd56⟩ := hx56
  have k56_4907 : sc56 4907 = nI l := (hG56.1 4907 (by decide)).trans el
  have hk56 : ∀ x, x < 700 * l + c → ar56 71 x = ar 71 x := fun x w => (hu56 x (by omega)).trans ((fun _ _ => rfl) x w)
  have hF56 := fr_t hF hG56 (by decide) (by decide)
  have t56 : ar56 67 = T := (hG56.2 67 (by decide)).trans hT
  rcases hy56 with ⟨hb56, k56, ey56, rs56⟩ | ⟨hb56, k56, ey56, bp56⟩
  · rcases hr56 with hbb56 | ⟨-, hz56, c56, B56, ec56, eB56, hcc56, hBB56, hB56, hpo56, sg56⟩
    · exact absurd hb56 hbb56
    · have sd56 := hd56 hb56 c56 (by omega) ec56
      refine to_eq (fr' := (5, [(0, .ref 49), (1, .int (nI w))], [], gh S a b sc56 ar56 lo, ex, 0, 0)) rfl ?_
      exact c5 401 c56 B56 k56 sc56 ar56 (by omega) ec56 eB56 k56_4907 hb56 hz56 hk56 (by omega) (by omega) (by omega) (seg_le sg56 (by omega)) (by omega) rs56 t56 (by simp only [pSm, ey56]) ⟨_, sd56, by simp only [vSm, ey56]⟩ hI56 hF56
  · refine to_eq (fr' := (5, [(0, .ref 49), (1, .int (nI w))], [], gh S a b sc56 ar56 lo, ex, 0, 0)) rfl ?_
    refine to_n 1 (fr' := (6, [(0, .ref 49), (1, .int (nI w))], [.ref 49], gh S a b sc56 ar56 lo, ex, 0, 0)) rfl ?_
    refine to_getR (v := (sc56 4941)) rfl rfl rfl rfl rfl ?_
    refine to_if_ne_T (t := 84) rfl hb56 ?_
    exact to_rt (i := .return_) (tg := []) rfl rfl ⟨_, _, ⟨hI56, hF56, ⟨hk56, Or.inl hb56, Or.inr ⟨hb56, k56, (by simp only [pSm, ey56]), bp56⟩, fun w => absurd w hb56⟩⟩, rfl⟩
set_option maxRecDepth 20000 in
theorem rx_readTest {X : Nat × (Nat → Int32)} {S a b : Nat} {lo : Nat → Int64} {ex : Bool} {T tk : Nat → Int32} {pl g : Nat → Nat} {sz n : Nat} (hW : Wd S a b) (hsm : Sm T n tk pl g sz) (hlen4 : n ≤ 400) (hne : ∀ t, t < n → ¬ T t = -1) (w h : Nat) (E : Nat → Nat ⊕ Nat) (vE : Nat → zVal) (d : Nat) (hE : RxOk X S a b lo ex T tk pl g sz n (d + 5) 130 w h (pSm tk sz E) (vSm tk sz E vE)) : RxOk X S a b lo ex T tk pl g sz n (d + 6) 129 w (h + 1) (pTs tk sz E) (vTs tk sz E vE) := by
  obtain ⟨ha1, ha8, hb1, hb8, hab, hS1, hS⟩ := id hW
  intro sc ar l c e B j hI hl el ec eB hB4 eb hz hp hT hr
  refine cv_of (M := an_X10_readTest) rfl (Nat.le_of_ble_eq_true rfl) ?_
  have hF : Fr [4934, 4935, 4937, 4938, 4939, 4940, 4941, 4942] [71] sc ar sc ar := fr_0
  refine to_eq (fr' := (0, [(0, .ref 49), (1, .int (nI w))], [], gh S a b sc ar lo, ex, 0, 0)) rfl ?_
  refine to_n 2 (fr' := (3, [(0, .ref 49), (1, .int (nI w))], [.ref 1000033, .ref 49], gh S a b sc ar lo, ex, 0, 0)) rfl ?_
  refine to_cp (q := 123) (M1 := an_X10_isWord) (rest := []) rfl rfl (by decide) rfl ⟨_, rfl⟩ (iw_X10_isWord hW hI 32 (by omega) (pl j) (en_ g sz n j) (rs_le hsm hr hlen4) hr.2.2.1 hr.2.2.2.2.1 (d + 4)) (fun x1 hx1 => ?_)
  obtain ⟨⟨n1, hn1, rfl⟩, hp1⟩ := hx1
  rw [hT, ob_w (x := (7, -16)) hsm hr (by decide) (by decide +kernel)] at hp1
  refine to_eq (fr' := (6, [(0, .ref 49), (1, .int (nI w))], [.int (nI n1)], gh S a b sc ar lo, ex, 0, 0)) rfl ?_
  refine to_n 2 (fr' := (8, [(0, .ref 49), (1, .int (nI w)), (2, .int (nI n1))], [.int (nI n1)], gh S a b sc ar lo, ex, 0, 0)) rfl ?_
  refine to_nf_eq (t := 15) (x := n1) rfl (by omega) (fun q2 => ?_) (fun q2 => ?_)
  · refine to_n 2 (fr' := (17, [(0, .ref 49), (1, .int (nI w)), (2, .int (nI n1))], [.int (nI w), .ref 49], gh S a b sc ar lo, ex, 0, 0)) rfl ?_
    refine to_cv (q := 130) (M1 := an_X10_readSum) (rest := []) rfl rfl (by decide) rfl ⟨_, rfl⟩ (hE sc ar l c e B j hI (by omega) el ec eB (by omega) eb hz (by omega) hT hr) (fun sc3 ar3 hx3 => ?_)
    obtain ⟨hI3, hG3, hu3, hr3, hy3, hd3⟩ := hx3
    have k3_4907 : sc3 4907 = nI l := (hG3.1 4907 (by decide)).trans el
    have hk3 : ∀ x, x < 700 * l + c → ar3 71 x = ar 71 x := fun x w => (hu3 x (by omega)).trans ((fun _ _ => rfl) x w)
    have hF3 := fr_t hF hG3 (by decide) (by decide)
    have t3 : ar3 67 = T := (hG3.2 67 (by decide)).trans hT
    rcases hy3 with ⟨hb3, k3, ey3, rs3⟩ | ⟨hb3, k3, ey3, bp3⟩
    · rcases hr3 with hbb3 | ⟨-, hz3, c3, B3, ec3, eB3, hcc3, hBB3, hB3, hpo3, sg3⟩
      · exact absurd hb3 hbb3
      · have sd3 := hd3 hb3 c3 (by omega) ec3
        refine to_eq (fr' := (20, [(0, .ref 49), (1, .int (nI w)), (2, .int (nI n1))], [], gh S a b sc3 ar3 lo, ex, 0, 0)) rfl ?_
        refine to_n 1 (fr' := (21, [(0, .ref 49), (1, .int (nI w)), (2, .int (nI n1))], [.ref 49], gh S a b sc3 ar3 lo, ex, 0, 0)) rfl ?_
        refine to_getR (v := 0) rfl rfl rfl rfl hb3 ?_
        refine to_n 3 (fr' := (30, [(0, .ref 49), (1, .int (nI w)), (2, .int (nI n1))], [.int 60, .ref 49], gh S a b sc3 ar3 lo, ex, 0, 0)) rfl ?_
        refine to_cp (q := 124) (M1 := an_X10_isSign) (rest := []) rfl rfl (by decide) rfl ⟨_, rfl⟩ (is_X10_isSign hW hI3 60 (d + 4)) (fun x4 hx4 => ?_)
        obtain ⟨⟨n4, hn4, rfl⟩, hp4⟩ := hx4
        rw [ob_s (x := (60, -10)) hsm rs3 (by decide)] at hp4
        refine to_eq (fr' := (33, [(0, .ref 49), (1, .int (nI w)), (2, .int (nI n1))], [.int (nI n4)], gh S a b sc3 ar3 lo, ex, 0, 0)) rfl ?_
        refine to_nf_ne (t := 45) (x := n4) rfl (by omega) (fun q5 => ?_) (fun q5 => ?_)
        · refine to_n 2 (fr' := (48, [(0, .ref 49), (1, .int (nI w)), (2, .int (nI n1))], [.int 60, .ref 49], gh S a b sc3 ar3 lo, ex, 0, 0)) rfl ?_
          refine to_cp (q := 124) (M1 := an_X10_isSign) (rest := []) rfl rfl (by decide) rfl ⟨_, rfl⟩ (is_X10_isSign hW hI3 60 (d + 4)) (fun x6 hx6 => ?_)
          obtain ⟨⟨n6, hn6, rfl⟩, hp6⟩ := hx6
          rw [ob_s (x := (60, -10)) hsm rs3 (by decide)] at hp6
          refine to_eq (fr' := (51, [(0, .ref 49), (1, .int (nI w)), (2, .int (nI n1))], [.int (nI n6)], gh S a b sc3 ar3 lo, ex, 0, 0)) rfl ?_
          refine to_nf_eq (t := 58) (x := n6) rfl (by omega) (fun q7 => ?_) (fun q7 => ?_)
          · refine to_n 3 (fr' := (61, [(0, .ref 49), (1, .int (nI w)), (2, .int (nI n1)), (3, .int 5)], [.ref 49], gh S a b sc3 ar3 lo, ex, 0, 0)) rfl ?_
            refine to_cv (q := 122) (M1 := an_X10_step) (rest := []) rfl rfl (by decide) rfl ⟨_, rfl⟩ (st_nextx hW hI3 eB3 (by omega) hz3 (ob_no hsm rs3 (or_t hp4 q5 hn4) (by decide)) hsm hlen4 hne t3 rs3 (d + 3)) (fun sc8 ar8 hx8 => ?_)
            obtain ⟨hI8, hG8, hz8, ⟨B8, eB8, hB8, hC8⟩, rs8⟩ := hx8
            have t8 : ar8 67 = T := (hG8.2 67 (by decide)).trans t3
            have k8_4907 : sc8 4907 = (nI l) := (hG8.1 4907 (by decide)).trans k3_4907
            have k8_4934 : sc8 4934 = (nI c3) := (hG8.1 4934 (by decide)).trans ec3
            have k8_4941 : sc8 4941 = 0 := (hG8.1 4941 (by decide)).trans hb3
            have hk8 : ∀ x, x < 700 * l + c → ar8 71 x = ar 71 x := kp_st hk3 hG8 (by decide)
            have sg8_0 := sg_st sg3 hG8 (by decide)
            have sd8_0 := sgr_st sd3 hG8 (by decide)
            have hF8 := fr_t hF3 hG8 (by decide) (by decide)
            refine to_eq (fr' := (64, [(0, .ref 49), (1, .int (nI w)), (2, .int (nI n1)), (3, .int 5)], [], gh S a b sc8 ar8 lo, ex, 0, 0)) rfl ?_
            refine to_n 2 (fr' := (66, [(0, .ref 49), (1, .int (nI w)), (2, .int (nI n1)), (3, .int 5)], [.int (nI w), .ref 49], gh S a b sc8 ar8 lo, ex, 0, 0)) rfl ?_
            refine to_cv (q := 130) (M1 := an_X10_readSum) (rest := []) rfl rfl (by decide) rfl ⟨_, rfl⟩ (hE sc8 ar8 l c3 (e + 2) B8 (ad_ sz k3) hI8 (by omega) k8_4907 k8_4934 eB8 (by omega) k8_4941 hz8 (by omega) t8 rs8) (fun sc9 ar9 hx9 => ?_)
            obtain ⟨hI9, hG9, hu9, hr9, hy9, hd9⟩ := hx9
            have k9_4907 : sc9 4907 = nI l := (hG9.1 4907 (by decide)).trans k8_4907
            have hk9 : ∀ x, x < 700 * l + c → ar9 71 x = ar 71 x := fun x w => (hu9 x (by omega)).trans (hk8 x w)
            have hF9 := fr_t hF8 hG9 (by decide) (by decide)
            have t9 : ar9 67 = T := (hG9.2 67 (by decide)).trans t8
            have sg9_0 := seg_ag sg8_0 hu9 (by omega)
            have sd9_0 := sgr_ag sd8_0 hu9 (by omega)
            rcases hy9 with ⟨hb9, k9, ey9, rs9⟩ | ⟨hb9, k9, ey9, bp9⟩
            · rcases hr9 with hbb9 | ⟨-, hz9, c9, B9, ec9, eB9, hcc9, hBB9, hB9, hpo9, sg9⟩
              · exact absurd hb9 hbb9
              · have sd9 := hd9 hb9 c9 (by omega) ec9
                refine to_eq (fr' := (69, [(0, .ref 49), (1, .int (nI w)), (2, .int (nI n1)), (3, .int 5)], [], gh S a b sc9 ar9 lo, ex, 0, 0)) rfl ?_
                refine to_n 2 (fr' := (71, [(0, .ref 49), (1, .int (nI w)), (2, .int (nI n1)), (3, .int 5)], [.int 5, .ref 49], gh S a b sc9 ar9 lo, ex, 0, 0)) rfl ?_
                refine to_cv (q := 126) (M1 := an_X10_emit) (rest := []) rfl rfl (by decide) rfl ⟨_, rfl⟩ (em_ok hW hI9 5 l c9 (by omega) (by omega) hb9 k9_4907 ec9 (d + 4)) (fun sc10 ar10 hx10 => ?_)
                obtain ⟨hI10, hG10, hs10, ha10⟩ := hx10
                have k10_4907 : sc10 4907 = (nI l) := (hG10.1 4907 (by decide)).trans k9_4907
                have k10_4939 : sc10 4939 = (nI B9) := (hG10.1 4939 (by decide)).trans eB9
                have k10_4941 : sc10 4941 = 0 := (hG10.1 4941 (by decide)).trans hb9
                have k10_4934 : sc10 4934 = nI (c9 + 1) := by rw [hs10]; exact up_eq
                have hc10 : ar10 71 = upd (ar9 71) (700 * l + c9) 5 := by rw [ha10]; rfl
                have hv10 : ar10 71 (700 * l + c9) = 5 := by rw [hc10]; exact up_eq
                have hu10 : ∀ x, x < 700 * l + c9 → ar10 71 x = ar9 71 x := fun x w => by rw [hc10]; exact up_ne (by omega)
                have hk10 : ∀ x, x < 700 * l + c → ar10 71 x = ar 71 x := fun x w => (hu10 x (by omega)).trans (hk9 x w)
                have hz10 := pz_fr hz9 hG10 (by decide) (by decide) (by decide) (by decide) (by decide)
                have hF10 := fr_t hF9 hG10 (by decide) (by decide)
                have sg10_0 := seg_ag sg9_0 hu10 (by omega)
                have sg10_1 := seg_ag sg9 hu10 (by omega)
                have sd10_0 := sgr_ag sd9_0 hu10 (by omega)
                have sd10_1 := sgr_ag sd9 hu10 (by omega)
                have sb10 : seg (ar10 71) (700 * l + c) (700 * l + (c9 + 1)) (h + 1) := seg_bin (k := 700 * l + c9) sg10_0 sg10_1 hv10 (by decide) (by decide) (by decide) (by omega) (by omega) (by omega) (by omega)
                have sd10 : sgr (ar10 71) (700 * l + c) (700 * l + (c9 + 1)) _ := sgr_bin (k := 700 * l + c9) (c := tk k3) sd10_0 sd10_1 hv10 (by decide) (by decide) (by decide) (z7_5 (Or.inl (or_t hp4 q5 hn4)) (or_f hp6 q7))
                have t10 : ar10 67 = T := (hG10.2 67 (by decide)).trans t9
                have rs10 := rs_fr rs9 hG10 (by decide)
                refine to_eq (fr' := (74, [(0, .ref 49), (1, .int (nI w)), (2, .int (nI n1)), (3, .int 5)], [], gh S a b sc10 ar10 lo, ex, 0, 0)) rfl ?_
                refine to_n 1 (fr' := (75, [(0, .ref 49), (1, .int (nI w)), (2, .int (nI n1)), (3, .int 5)], [.int (nI n1)], gh S a b sc10 ar10 lo, ex, 0, 0)) rfl ?_
                refine to_nf_eq (t := 84) (x := n1) rfl (by omega) (fun q11 => ?_) (fun q11 => ?_)
                · exact to_rt (i := .return_) (tg := []) rfl rfl ⟨_, _, ⟨hI10, hF10, ⟨hk10, Or.inr ⟨k10_4941, hz10, (c9 + 1), B9, k10_4934, k10_4939, by omega, by omega, by omega, by omega, seg_le sb10 (by omega)⟩, Or.inl ⟨k10_4941, k9, (by simp only [pTs, if_neg (or_f hp1 q2), pT2, ey3, if_pos (Or.inl (or_t hp4 q5 hn4) : tk k3 = -10 ∨ tk k3 = -11), ey9]), rs10⟩, fun _ cq hq9 eq9 => (show (c9 + 1) = cq from (nI_eq (by omega) (by omega)).mp ((k10_4934).symm.trans eq9)) ▸ sgr_v sd10 (by simp only [vTs, if_neg (or_f hp1 q2), vT2, ey3, if_pos (Or.inl (or_t hp4 q5 hn4) : tk k3 = -10 ∨ tk k3 = -11)])⟩⟩, rfl⟩
                · refine to_n 2 (fr' := (81, [(0, .ref 49), (1, .int (nI w)), (2, .int (nI n1)), (3, .int 5)], [.int 8, .ref 49], gh S a b sc10 ar10 lo, ex, 0, 0)) rfl ?_
                  refine to_cv (q := 126) (M1 := an_X10_emit) (rest := []) rfl rfl (by decide) rfl ⟨_, rfl⟩ (em_ok hW hI10 8 l (c9 + 1) (by omega) (by omega) k10_4941 k10_4907 k10_4934 (d + 4)) (fun sc12 ar12 hx12 => ?_)
                  obtain ⟨hI12, hG12, hs12, ha12⟩ := hx12
                  have k12_4907 : sc12 4907 = (nI l) := (hG12.1 4907 (by decide)).trans k10_4907
                  have k12_4939 : sc12 4939 = (nI B9) := (hG12.1 4939 (by decide)).trans k10_4939
                  have k12_4941 : sc12 4941 = 0 := (hG12.1 4941 (by decide)).trans k10_4941
                  have k12_4934 : sc12 4934 = nI ((c9 + 1) + 1) := by rw [hs12]; exact up_eq
                  have hc12 : ar12 71 = upd (ar10 71) (700 * l + (c9 + 1)) 8 := by rw [ha12]; rfl
                  have hv12 : ar12 71 (700 * l + (c9 + 1)) = 8 := by rw [hc12]; exact up_eq
                  have hu12 : ∀ x, x < 700 * l + (c9 + 1) → ar12 71 x = ar10 71 x := fun x w => by rw [hc12]; exact up_ne (by omega)
                  have hk12 : ∀ x, x < 700 * l + c → ar12 71 x = ar 71 x := fun x w => (hu12 x (by omega)).trans (hk10 x w)
                  have hz12 := pz_fr hz10 hG12 (by decide) (by decide) (by decide) (by decide) (by decide)
                  have hF12 := fr_t hF10 hG12 (by decide) (by decide)
                  have sg12_0 := seg_ag sb10 hu12 (by omega)
                  have sd12_0 := sgr_ag sd10 hu12 (by omega)
                  have sn12 : seg (ar12 71) (700 * l + c) (700 * l + ((c9 + 1) + 1)) (h + 1) := seg_not (j := 700 * l + (c9 + 1)) sg12_0 hv12 (by omega)
                  have sd12 : sgr (ar12 71) (700 * l + c) (700 * l + ((c9 + 1) + 1)) _ := sgr_not (j := 700 * l + (c9 + 1)) sd12_0 hv12
                  have t12 : ar12 67 = T := (hG12.2 67 (by decide)).trans t10
                  have rs12 := rs_fr rs10 hG12 (by decide)
                  refine to_eq (fr' := (84, [(0, .ref 49), (1, .int (nI w)), (2, .int (nI n1)), (3, .int 5)], [], gh S a b sc12 ar12 lo, ex, 0, 0)) rfl ?_
                  exact to_rt (i := .return_) (tg := []) rfl rfl ⟨_, _, ⟨hI12, hF12, ⟨hk12, Or.inr ⟨k12_4941, hz12, ((c9 + 1) + 1), B9, k12_4934, k12_4939, by omega, by omega, by omega, by omega, seg_le sn12 (by omega)⟩, Or.inl ⟨k12_4941, k9, (by simp only [pTs, if_neg (or_f hp1 q2), pT2, ey3, if_pos (Or.inl (or_t hp4 q5 hn4) : tk k3 = -10 ∨ tk k3 = -11), ey9]), rs12⟩, fun _ cq hq9 eq9 => (show ((c9 + 1) + 1) = cq from (nI_eq (by omega) (by omega)).mp ((k12_4934).symm.trans eq9)) ▸ sgr_v sd12 (absurd q2 q11)⟩⟩, rfl⟩
            · refine to_eq (fr' := (69, [(0, .ref 49), (1, .int (nI w)), (2, .int (nI n1)), (3, .int 5)], [], gh S a b sc9 ar9 lo, ex, 0, 0)) rfl ?_
              refine to_n 2 (fr' := (71, [(0, .ref 49), (1, .int (nI w)), (2, .int (nI n1)), (3, .int 5)], [.int 5, .ref 49], gh S a b sc9 ar9 lo, ex, 0, 0)) rfl ?_
              refine to_cu (q := 126) (M1 := an_X10_emit) (rest := []) rfl rfl (by decide) rfl ⟨_, rfl⟩ (em_bad 5 hb9 (d + 4)) ?_ 
              refine to_eq (fr' := (74, [(0, .ref 49), (1, .int (nI w)), (2, .int (nI n1)), (3, .int 5)], [], gh S a b sc9 ar9 lo, ex, 0, 0)) rfl ?_
              refine to_n 1 (fr' := (75, [(0, .ref 49), (1, .int (nI w)), (2, .int (nI n1)), (3, .int 5)], [.int (nI n1)], gh S a b sc9 ar9 lo, ex, 0, 0)) rfl ?_
              refine to_nf_eq (t := 84) (x := n1) rfl (by omega) (fun q14 => ?_) (fun q14 => ?_)
              · exact to_rt (i := .return_) (tg := []) rfl rfl ⟨_, _, ⟨hI9, hF9, ⟨hk9, Or.inl hb9, Or.inr ⟨hb9, k9, (by simp only [pTs, if_neg (or_f hp1 q2), pT2, ey3, if_pos (Or.inl (or_t hp4 q5 hn4) : tk k3 = -10 ∨ tk k3 = -11), ey9]), bp9⟩, fun w => absurd w hb9⟩⟩, rfl⟩
              · refine to_n 2 (fr' := (81, [(0, .ref 49), (1, .int (nI w)), (2, .int (nI n1)), (3, .int 5)], [.int 8, .ref 49], gh S a b sc9 ar9 lo, ex, 0, 0)) rfl ?_
                refine to_cu (q := 126) (M1 := an_X10_emit) (rest := []) rfl rfl (by decide) rfl ⟨_, rfl⟩ (em_bad 8 hb9 (d + 4)) ?_ 
                refine to_eq (fr' := (84, [(0, .ref 49), (1, .int (nI w)), (2, .int (nI n1)), (3, .int 5)], [], gh S a b sc9 ar9 lo, ex, 0, 0)) rfl ?_
                exact to_rt (i := .return_) (tg := []) rfl rfl ⟨_, _, ⟨hI9, hF9, ⟨hk9, Or.inl hb9, Or.inr ⟨hb9, k9, (by simp only [pTs, if_neg (or_f hp1 q2), pT2, ey3, if_pos (Or.inl (or_t hp4 q5 hn4) : tk k3 = -10 ∨ tk k3 = -11), ey9]), bp9⟩, fun w => absurd w hb9⟩⟩, rfl⟩
          · refine to_n 4 (fr' := (61, [(0, .ref 49), (1, .int (nI w)), (2, .int (nI n1)), (3, .int 4)], [.ref 49], gh S a b sc3 ar3 lo, ex, 0, 0)) rfl ?_
            refine to_cv (q := 122) (M1 := an_X10_step) (rest := []) rfl rfl (by decide) rfl ⟨_, rfl⟩ (st_nextx hW hI3 eB3 (by omega) hz3 (ob_no hsm rs3 (or_t hp6 q7 hn6) (by decide)) hsm hlen4 hne t3 rs3 (d + 3)) (fun sc16 ar16 hx16 => ?_)
            obtain ⟨hI16, hG16, hz16, ⟨B16, eB16, hB16, hC16⟩, rs16⟩ := hx16
            have t16 : ar16 67 = T := (hG16.2 67 (by decide)).trans t3
            have k16_4907 : sc16 4907 = (nI l) := (hG16.1 4907 (by decide)).trans k3_4907
            have k16_4934 : sc16 4934 = (nI c3) := (hG16.1 4934 (by decide)).trans ec3
            have k16_4941 : sc16 4941 = 0 := (hG16.1 4941 (by decide)).trans hb3
            have hk16 : ∀ x, x < 700 * l + c → ar16 71 x = ar 71 x := kp_st hk3 hG16 (by decide)
            have sg16_0 := sg_st sg3 hG16 (by decide)
            have sd16_0 := sgr_st sd3 hG16 (by decide)
            have hF16 := fr_t hF3 hG16 (by decide) (by decide)
            refine to_eq (fr' := (64, [(0, .ref 49), (1, .int (nI w)), (2, .int (nI n1)), (3, .int 4)], [], gh S a b sc16 ar16 lo, ex, 0, 0)) rfl ?_
            refine to_n 2 (fr' := (66, [(0, .ref 49), (1, .int (nI w)), (2, .int (nI n1)), (3, .int 4)], [.int (nI w), .ref 49], gh S a b sc16 ar16 lo, ex, 0, 0)) rfl ?_
            refine to_cv (q := 130) (M1 := an_X10_readSum) (rest := []) rfl rfl (by decide) rfl ⟨_, rfl⟩ (hE sc16 ar16 l c3 (e + 2) B16 (ad_ sz k3) hI16 (by omega) k16_4907 k16_4934 eB16 (by omega) k16_4941 hz16 (by omega) t16 rs16) (fun sc17 ar17 hx17 => ?_)
            obtain ⟨hI17, hG17, hu17, hr17, hy17, hd17⟩ := hx17
            have k17_4907 : sc17 4907 = nI l := (hG17.1 4907 (by decide)).trans k16_4907
            have hk17 : ∀ x, x < 700 * l + c → ar17 71 x = ar 71 x := fun x w => (hu17 x (by omega)).trans (hk16 x w)
            have hF17 := fr_t hF16 hG17 (by decide) (by decide)
            have t17 : ar17 67 = T := (hG17.2 67 (by decide)).trans t16
            have sg17_0 := seg_ag sg16_0 hu17 (by omega)
            have sd17_0 := sgr_ag sd16_0 hu17 (by omega)
            rcases hy17 with ⟨hb17, k17, ey17, rs17⟩ | ⟨hb17, k17, ey17, bp17⟩
            · rcases hr17 with hbb17 | ⟨-, hz17, c17, B17, ec17, eB17, hcc17, hBB17, hB17, hpo17, sg17⟩
              · exact absurd hb17 hbb17
              · have sd17 := hd17 hb17 c17 (by omega) ec17
                refine to_eq (fr' := (69, [(0, .ref 49), (1, .int (nI w)), (2, .int (nI n1)), (3, .int 4)], [], gh S a b sc17 ar17 lo, ex, 0, 0)) rfl ?_
                refine to_n 2 (fr' := (71, [(0, .ref 49), (1, .int (nI w)), (2, .int (nI n1)), (3, .int 4)], [.int 4, .ref 49], gh S a b sc17 ar17 lo, ex, 0, 0)) rfl ?_
                refine to_cv (q := 126) (M1 := an_X10_emit) (rest := []) rfl rfl (by decide) rfl ⟨_, rfl⟩ (em_ok hW hI17 4 l c17 (by omega) (by omega) hb17 k17_4907 ec17 (d + 4)) (fun sc18 ar18 hx18 => ?_)
                obtain ⟨hI18, hG18, hs18, ha18⟩ := hx18
                have k18_4907 : sc18 4907 = (nI l) := (hG18.1 4907 (by decide)).trans k17_4907
                have k18_4939 : sc18 4939 = (nI B17) := (hG18.1 4939 (by decide)).trans eB17
                have k18_4941 : sc18 4941 = 0 := (hG18.1 4941 (by decide)).trans hb17
                have k18_4934 : sc18 4934 = nI (c17 + 1) := by rw [hs18]; exact up_eq
                have hc18 : ar18 71 = upd (ar17 71) (700 * l + c17) 4 := by rw [ha18]; rfl
                have hv18 : ar18 71 (700 * l + c17) = 4 := by rw [hc18]; exact up_eq
                have hu18 : ∀ x, x < 700 * l + c17 → ar18 71 x = ar17 71 x := fun x w => by rw [hc18]; exact up_ne (by omega)
                have hk18 : ∀ x, x < 700 * l + c → ar18 71 x = ar 71 x := fun x w => (hu18 x (by omega)).trans (hk17 x w)
                have hz18 := pz_fr hz17 hG18 (by decide) (by decide) (by decide) (by decide) (by decide)
                have hF18 := fr_t hF17 hG18 (by decide) (by decide)
                have sg18_0 := seg_ag sg17_0 hu18 (by omega)
                have sg18_1 := seg_ag sg17 hu18 (by omega)
                have sd18_0 := sgr_ag sd17_0 hu18 (by omega)
                have sd18_1 := sgr_ag sd17 hu18 (by omega)
                have sb18 : seg (ar18 71) (700 * l + c) (700 * l + (c17 + 1)) (h + 1) := seg_bin (k := 700 * l + c17) sg18_0 sg18_1 hv18 (by decide) (by decide) (by decide) (by omega) (by omega) (by omega) (by omega)
                have sd18 : sgr (ar18 71) (700 * l + c) (700 * l + (c17 + 1)) _ := sgr_bin (k := 700 * l + c17) (c := tk k3) sd18_0 sd18_1 hv18 (by decide) (by decide) (by decide) (z7_4 (or_t hp6 q7 hn6))
                have t18 : ar18 67 = T := (hG18.2 67 (by decide)).trans t17
                have rs18 := rs_fr rs17 hG18 (by decide)
                refine to_eq (fr' := (74, [(0, .ref 49), (1, .int (nI w)), (2, .int (nI n1)), (3, .int 4)], [], gh S a b sc18 ar18 lo, ex, 0, 0)) rfl ?_
                refine to_n 1 (fr' := (75, [(0, .ref 49), (1, .int (nI w)), (2, .int (nI n1)), (3, .int 4)], [.int (nI n1)], gh S a b sc18 ar18 lo, ex, 0, 0)) rfl ?_
                refine to_nf_eq (t := 84) (x := n1) rfl (by omega) (fun q19 => ?_) (fun q19 => ?_)
                · exact to_rt (i := .return_) (tg := []) rfl rfl ⟨_, _, ⟨hI18, hF18, ⟨hk18, Or.inr ⟨k18_4941, hz18, (c17 + 1), B17, k18_4934, k18_4939, by omega, by omega, by omega, by omega, seg_le sb18 (by omega)⟩, Or.inl ⟨k18_4941, k17, (by simp only [pTs, if_neg (or_f hp1 q2), pT2, ey3, if_pos (Or.inl (or_t hp4 q5 hn4) : tk k3 = -10 ∨ tk k3 = -11), ey17]), rs18⟩, fun _ cq hq9 eq9 => (show (c17 + 1) = cq from (nI_eq (by omega) (by omega)).mp ((k18_4934).symm.trans eq9)) ▸ sgr_v sd18 (by simp only [vTs, if_neg (or_f hp1 q2), vT2, ey3, if_pos (Or.inl (or_t hp4 q5 hn4) : tk k3 = -10 ∨ tk k3 = -11)])⟩⟩, rfl⟩
                · refine to_n 2 (fr' := (81, [(0, .ref 49), (1, .int (nI w)), (2, .int (nI n1)), (3, .int 4)], [.int 8, .ref 49], gh S a b sc18 ar18 lo, ex, 0, 0)) rfl ?_
                  refine to_cv (q := 126) (M1 := an_X10_emit) (rest := []) rfl rfl (by decide) rfl ⟨_, rfl⟩ (em_ok hW hI18 8 l (c17 + 1) (by omega) (by omega) k18_4941 k18_4907 k18_4934 (d + 4)) (fun sc20 ar20 hx20 => ?_)
                  obtain ⟨hI20, hG20, hs20, ha20⟩ := hx20
                  have k20_4907 : sc20 4907 = (nI l) := (hG20.1 4907 (by decide)).trans k18_4907
                  have k20_4939 : sc20 4939 = (nI B17) := (hG20.1 4939 (by decide)).trans k18_4939
                  have k20_4941 : sc20 4941 = 0 := (hG20.1 4941 (by decide)).trans k18_4941
                  have k20_4934 : sc20 4934 = nI ((c17 + 1) + 1) := by rw [hs20]; exact up_eq
                  have hc20 : ar20 71 = upd (ar18 71) (700 * l + (c17 + 1)) 8 := by rw [ha20]; rfl
                  have hv20 : ar20 71 (700 * l + (c17 + 1)) = 8 := by rw [hc20]; exact up_eq
                  have hu20 : ∀ x, x < 700 * l + (c17 + 1) → ar20 71 x = ar18 71 x := fun x w => by rw [hc20]; exact up_ne (by omega)
                  have hk20 : ∀ x, x < 700 * l + c → ar20 71 x = ar 71 x := fun x w => (hu20 x (by omega)).trans (hk18 x w)
                  have hz20 := pz_fr hz18 hG20 (by decide) (by decide) (by decide) (by decide) (by decide)
                  have hF20 := fr_t hF18 hG20 (by decide) (by decide)
                  have sg20_0 := seg_ag sb18 hu20 (by omega)
                  have sd20_0 := sgr_ag sd18 hu20 (by omega)
                  have sn20 : seg (ar20 71) (700 * l + c) (700 * l + ((c17 + 1) + 1)) (h + 1) := seg_not (j := 700 * l + (c17 + 1)) sg20_0 hv20 (by omega)
                  have sd20 : sgr (ar20 71) (700 * l + c) (700 * l + ((c17 + 1) + 1)) _ := sgr_not (j := 700 * l + (c17 + 1)) sd20_0 hv20
                  have t20 : ar20 67 = T := (hG20.2 67 (by decide)).trans t18
                  have rs20 := rs_fr rs18 hG20 (by decide)
                  refine to_eq (fr' := (84, [(0, .ref 49), (1, .int (nI w)), (2, .int (nI n1)), (3, .int 4)], [], gh S a b sc20 ar20 lo, ex, 0, 0)) rfl ?_
                  exact to_rt (i := .return_) (tg := []) rfl rfl ⟨_, _, ⟨hI20, hF20, ⟨hk20, Or.inr ⟨k20_4941, hz20, ((c17 + 1) + 1), B17, k20_4934, k20_4939, by omega, by omega, by omega, by omega, seg_le sn20 (by omega)⟩, Or.inl ⟨k20_4941, k17, (by simp only [pTs, if_neg (or_f hp1 q2), pT2, ey3, if_pos (Or.inl (or_t hp4 q5 hn4) : tk k3 = -10 ∨ tk k3 = -11), ey17]), rs20⟩, fun _ cq hq9 eq9 => (show ((c17 + 1) + 1) = cq from (nI_eq (by omega) (by omega)).mp ((k20_4934).symm.trans eq9)) ▸ sgr_v sd20 (absurd q2 q19)⟩⟩, rfl⟩
            · refine to_eq (fr' := (69, [(0, .ref 49), (1, .int (nI w)), (2, .int (nI n1)), (3, .int 4)], [], gh S a b sc17 ar17 lo, ex, 0, 0)) rfl ?_
              refine to_n 2 (fr' := (71, [(0, .ref 49), (1, .int (nI w)), (2, .int (nI n1)), (3, .int 4)], [.int 4, .ref 49], gh S a b sc17 ar17 lo, ex, 0, 0)) rfl ?_
              refine to_cu (q := 126) (M1 := an_X10_emit) (rest := []) rfl rfl (by decide) rfl ⟨_, rfl⟩ (em_bad 4 hb17 (d + 4)) ?_ 
              refine to_eq (fr' := (74, [(0, .ref 49), (1, .int (nI w)), (2, .int (nI n1)), (3, .int 4)], [], gh S a b sc17 ar17 lo, ex, 0, 0)) rfl ?_
              refine to_n 1 (fr' := (75, [(0, .ref 49), (1, .int (nI w)), (2, .int (nI n1)), (3, .int 4)], [.int (nI n1)], gh S a b sc17 ar17 lo, ex, 0, 0)) rfl ?_
              refine to_nf_eq (t := 84) (x := n1) rfl (by omega) (fun q22 => ?_) (fun q22 => ?_)
              · exact to_rt (i := .return_) (tg := []) rfl rfl ⟨_, _, ⟨hI17, hF17, ⟨hk17, Or.inl hb17, Or.inr ⟨hb17, k17, (by simp only [pTs, if_neg (or_f hp1 q2), pT2, ey3, if_pos (Or.inl (or_t hp4 q5 hn4) : tk k3 = -10 ∨ tk k3 = -11), ey17]), bp17⟩, fun w => absurd w hb17⟩⟩, rfl⟩
              · refine to_n 2 (fr' := (81, [(0, .ref 49), (1, .int (nI w)), (2, .int (nI n1)), (3, .int 4)], [.int 8, .ref 49], gh S a b sc17 ar17 lo, ex, 0, 0)) rfl ?_
                refine to_cu (q := 126) (M1 := an_X10_emit) (rest := []) rfl rfl (by decide) rfl ⟨_, rfl⟩ (em_bad 8 hb17 (d + 4)) ?_ 
                refine to_eq (fr' := (84, [(0, .ref 49), (1, .int (nI w)), (2, .int (nI n1)), (3, .int 4)], [], gh S a b sc17 ar17 lo, ex, 0, 0)) rfl ?_
                exact to_rt (i := .return_) (tg := []) rfl rfl ⟨_, _, ⟨hI17, hF17, ⟨hk17, Or.inl hb17, Or.inr ⟨hb17, k17, (by simp only [pTs, if_neg (or_f hp1 q2), pT2, ey3, if_pos (Or.inl (or_t hp4 q5 hn4) : tk k3 = -10 ∨ tk k3 = -11), ey17]), bp17⟩, fun w => absurd w hb17⟩⟩, rfl⟩
        · refine to_n 2 (fr' := (39, [(0, .ref 49), (1, .int (nI w)), (2, .int (nI n1))], [.int 61, .ref 49], gh S a b sc3 ar3 lo, ex, 0, 0)) rfl ?_
          refine to_cp (q := 124) (M1 := an_X10_isSign) (rest := []) rfl rfl (by decide) rfl ⟨_, rfl⟩ (is_X10_isSign hW hI3 61 (d + 4)) (fun x24 hx24 => ?_)
          obtain ⟨⟨n24, hn24, rfl⟩, hp24⟩ := hx24
          rw [ob_s (x := (61, -11)) hsm rs3 (by decide)] at hp24
          refine to_eq (fr' := (42, [(0, .ref 49), (1, .int (nI w)), (2, .int (nI n1))], [.int (nI n24)], gh S a b sc3 ar3 lo, ex, 0, 0)) rfl ?_
          refine to_nf_eq (t := 74) (x := n24) rfl (by omega) (fun q25 => ?_) (fun q25 => ?_)
          · refine to_n 1 (fr' := (75, [(0, .ref 49), (1, .int (nI w)), (2, .int (nI n1))], [.int (nI n1)], gh S a b sc3 ar3 lo, ex, 0, 0)) rfl ?_
            refine to_nf_eq (t := 84) (x := n1) rfl (by omega) (fun q26 => ?_) (fun q26 => ?_)
            · exact to_rt (i := .return_) (tg := []) rfl rfl ⟨_, _, ⟨hI3, hF3, ⟨hk3, Or.inr ⟨hb3, hz3, c3, B3, ec3, eB3, by omega, by omega, by omega, by omega, seg_le sg3 (by omega)⟩, Or.inl ⟨hb3, k3, (by simp only [pTs, if_neg (or_f hp1 q2), pT2, ey3, if_neg (fun w => w.elim (or_f hp4 q5) (or_f hp24 q25) : ¬ (tk k3 = -10 ∨ tk k3 = -11))]), rs3⟩, fun _ cq hq9 eq9 => (show c3 = cq from (nI_eq (by omega) (by omega)).mp ((ec3).symm.trans eq9)) ▸ sgr_v sd3 (by simp only [vTs, if_neg (or_f hp1 q2), vT2, ey3, if_neg (fun w => w.elim (or_f hp4 q5) (or_f hp24 q25) : ¬ (tk k3 = -10 ∨ tk k3 = -11))])⟩⟩, rfl⟩
            · refine to_n 2 (fr' := (81, [(0, .ref 49), (1, .int (nI w)), (2, .int (nI n1))], [.int 8, .ref 49], gh S a b sc3 ar3 lo, ex, 0, 0)) rfl ?_
              refine to_cv (q := 126) (M1 := an_X10_emit) (rest := []) rfl rfl (by decide) rfl ⟨_, rfl⟩ (em_ok hW hI3 8 l c3 (by omega) (by omega) hb3 k3_4907 ec3 (d + 4)) (fun sc27 ar27 hx27 => ?_)
              obtain ⟨hI27, hG27, hs27, ha27⟩ := hx27
              have k27_4907 : sc27 4907 = (nI l) := (hG27.1 4907 (by decide)).trans k3_4907
              have k27_4939 : sc27 4939 = (nI B3) := (hG27.1 4939 (by decide)).trans eB3
              have k27_4941 : sc27 4941 = 0 := (hG27.1 4941 (by decide)).trans hb3
              have k27_4934 : sc27 4934 = nI (c3 + 1) := by rw [hs27]; exact up_eq
              have hc27 : ar27 71 = upd (ar3 71) (700 * l + c3) 8 := by rw [ha27]; rfl
              have hv27 : ar27 71 (700 * l + c3) = 8 := by rw [hc27]; exact up_eq
              have hu27 : ∀ x, x < 700 * l + c3 → ar27 71 x = ar3 71 x := fun x w => by rw [hc27]; exact up_ne (by omega)
              have hk27 : ∀ x, x < 700 * l + c → ar27 71 x = ar 71 x := fun x w => (hu27 x (by omega)).trans (hk3 x w)
              have hz27 := pz_fr hz3 hG27 (by decide) (by decide) (by decide) (by decide) (by decide)
              have hF27 := fr_t hF3 hG27 (by decide) (by decide)
              have sg27_0 := seg_ag sg3 hu27 (by omega)
              have sd27_0 := sgr_ag sd3 hu27 (by omega)
              have sn27 : seg (ar27 71) (700 * l + c) (700 * l + (c3 + 1)) h := seg_not (j := 700 * l + c3) sg27_0 hv27 (by omega)
              have sd27 : sgr (ar27 71) (700 * l + c) (700 * l + (c3 + 1)) _ := sgr_not (j := 700 * l + c3) sd27_0 hv27
              have t27 : ar27 67 = T := (hG27.2 67 (by decide)).trans t3
              have rs27 := rs_fr rs3 hG27 (by decide)
              refine to_eq (fr' := (84, [(0, .ref 49), (1, .int (nI w)), (2, .int (nI n1))], [], gh S a b sc27 ar27 lo, ex, 0, 0)) rfl ?_
              exact to_rt (i := .return_) (tg := []) rfl rfl ⟨_, _, ⟨hI27, hF27, ⟨hk27, Or.inr ⟨k27_4941, hz27, (c3 + 1), B3, k27_4934, k27_4939, by omega, by omega, by omega, by omega, seg_le sn27 (by omega)⟩, Or.inl ⟨k27_4941, k3, (by simp only [pTs, if_neg (or_f hp1 q2), pT2, ey3, if_neg (fun w => w.elim (or_f hp4 q5) (or_f hp24 q25) : ¬ (tk k3 = -10 ∨ tk k3 = -11))]), rs27⟩, fun _ cq hq9 eq9 => (show (c3 + 1) = cq from (nI_eq (by omega) (by omega)).mp ((k27_4934).symm.trans eq9)) ▸ sgr_v sd27 (absurd q2 q26)⟩⟩, rfl⟩
          · refine to_n 2 (fr' := (48, [(0, .ref 49), (1, .int (nI w)), (2, .int (nI n1))], [.int 60, .ref 49], gh S a b sc3 ar3 lo, ex, 0, 0)) rfl ?_
            refine to_cp (q := 124) (M1 := an_X10_isSign) (rest := []) rfl rfl (by decide) rfl ⟨_, rfl⟩ (is_X10_isSign hW hI3 60 (d + 4)) (fun x28 hx28 => ?_)
            obtain ⟨⟨n28, hn28, rfl⟩, hp28⟩ := hx28
            rw [ob_s (x := (60, -10)) hsm rs3 (by decide)] at hp28
            refine to_eq (fr' := (51, [(0, .ref 49), (1, .int (nI w)), (2, .int (nI n1))], [.int (nI n28)], gh S a b sc3 ar3 lo, ex, 0, 0)) rfl ?_
            refine to_nf_eq (t := 58) (x := n28) rfl (by omega) (fun q29 => ?_) (fun q29 => ?_)
            · refine to_n 3 (fr' := (61, [(0, .ref 49), (1, .int (nI w)), (2, .int (nI n1)), (3, .int 5)], [.ref 49], gh S a b sc3 ar3 lo, ex, 0, 0)) rfl ?_
              refine to_cv (q := 122) (M1 := an_X10_step) (rest := []) rfl rfl (by decide) rfl ⟨_, rfl⟩ (st_nextx hW hI3 eB3 (by omega) hz3 (ob_no hsm rs3 (or_t hp24 q25 hn24) (by decide)) hsm hlen4 hne t3 rs3 (d + 3)) (fun sc30 ar30 hx30 => ?_)
              obtain ⟨hI30, hG30, hz30, ⟨B30, eB30, hB30, hC30⟩, rs30⟩ := hx30
              have t30 : ar30 67 = T := (hG30.2 67 (by decide)).trans t3
              have k30_4907 : sc30 4907 = (nI l) := (hG30.1 4907 (by decide)).trans k3_4907
              have k30_4934 : sc30 4934 = (nI c3) := (hG30.1 4934 (by decide)).trans ec3
              have k30_4941 : sc30 4941 = 0 := (hG30.1 4941 (by decide)).trans hb3
              have hk30 : ∀ x, x < 700 * l + c → ar30 71 x = ar 71 x := kp_st hk3 hG30 (by decide)
              have sg30_0 := sg_st sg3 hG30 (by decide)
              have sd30_0 := sgr_st sd3 hG30 (by decide)
              have hF30 := fr_t hF3 hG30 (by decide) (by decide)
              refine to_eq (fr' := (64, [(0, .ref 49), (1, .int (nI w)), (2, .int (nI n1)), (3, .int 5)], [], gh S a b sc30 ar30 lo, ex, 0, 0)) rfl ?_
              refine to_n 2 (fr' := (66, [(0, .ref 49), (1, .int (nI w)), (2, .int (nI n1)), (3, .int 5)], [.int (nI w), .ref 49], gh S a b sc30 ar30 lo, ex, 0, 0)) rfl ?_
              refine to_cv (q := 130) (M1 := an_X10_readSum) (rest := []) rfl rfl (by decide) rfl ⟨_, rfl⟩ (hE sc30 ar30 l c3 (e + 2) B30 (ad_ sz k3) hI30 (by omega) k30_4907 k30_4934 eB30 (by omega) k30_4941 hz30 (by omega) t30 rs30) (fun sc31 ar31 hx31 => ?_)
              obtain ⟨hI31, hG31, hu31, hr31, hy31, hd31⟩ := hx31
              have k31_4907 : sc31 4907 = nI l := (hG31.1 4907 (by decide)).trans k30_4907
              have hk31 : ∀ x, x < 700 * l + c → ar31 71 x = ar 71 x := fun x w => (hu31 x (by omega)).trans (hk30 x w)
              have hF31 := fr_t hF30 hG31 (by decide) (by decide)
              have t31 : ar31 67 = T := (hG31.2 67 (by decide)).trans t30
              have sg31_0 := seg_ag sg30_0 hu31 (by omega)
              have sd31_0 := sgr_ag sd30_0 hu31 (by omega)
              rcases hy31 with ⟨hb31, k31, ey31, rs31⟩ | ⟨hb31, k31, ey31, bp31⟩
              · rcases hr31 with hbb31 | ⟨-, hz31, c31, B31, ec31, eB31, hcc31, hBB31, hB31, hpo31, sg31⟩
                · exact absurd hb31 hbb31
                · have sd31 := hd31 hb31 c31 (by omega) ec31
                  refine to_eq (fr' := (69, [(0, .ref 49), (1, .int (nI w)), (2, .int (nI n1)), (3, .int 5)], [], gh S a b sc31 ar31 lo, ex, 0, 0)) rfl ?_
                  refine to_n 2 (fr' := (71, [(0, .ref 49), (1, .int (nI w)), (2, .int (nI n1)), (3, .int 5)], [.int 5, .ref 49], gh S a b sc31 ar31 lo, ex, 0, 0)) rfl ?_
                  refine to_cv (q := 126) (M1 := an_X10_emit) (rest := []) rfl rfl (by decide) rfl ⟨_, rfl⟩ (em_ok hW hI31 5 l c31 (by omega) (by omega) hb31 k31_4907 ec31 (d + 4)) (fun sc32 ar32 hx32 => ?_)
                  obtain ⟨hI32, hG32, hs32, ha32⟩ := hx32
                  have k32_4907 : sc32 4907 = (nI l) := (hG32.1 4907 (by decide)).trans k31_4907
                  have k32_4939 : sc32 4939 = (nI B31) := (hG32.1 4939 (by decide)).trans eB31
                  have k32_4941 : sc32 4941 = 0 := (hG32.1 4941 (by decide)).trans hb31
                  have k32_4934 : sc32 4934 = nI (c31 + 1) := by rw [hs32]; exact up_eq
                  have hc32 : ar32 71 = upd (ar31 71) (700 * l + c31) 5 := by rw [ha32]; rfl
                  have hv32 : ar32 71 (700 * l + c31) = 5 := by rw [hc32]; exact up_eq
                  have hu32 : ∀ x, x < 700 * l + c31 → ar32 71 x = ar31 71 x := fun x w => by rw [hc32]; exact up_ne (by omega)
                  have hk32 : ∀ x, x < 700 * l + c → ar32 71 x = ar 71 x := fun x w => (hu32 x (by omega)).trans (hk31 x w)
                  have hz32 := pz_fr hz31 hG32 (by decide) (by decide) (by decide) (by decide) (by decide)
                  have hF32 := fr_t hF31 hG32 (by decide) (by decide)
                  have sg32_0 := seg_ag sg31_0 hu32 (by omega)
                  have sg32_1 := seg_ag sg31 hu32 (by omega)
                  have sd32_0 := sgr_ag sd31_0 hu32 (by omega)
                  have sd32_1 := sgr_ag sd31 hu32 (by omega)
                  have sb32 : seg (ar32 71) (700 * l + c) (700 * l + (c31 + 1)) (h + 1) := seg_bin (k := 700 * l + c31) sg32_0 sg32_1 hv32 (by decide) (by decide) (by decide) (by omega) (by omega) (by omega) (by omega)
                  have sd32 : sgr (ar32 71) (700 * l + c) (700 * l + (c31 + 1)) _ := sgr_bin (k := 700 * l + c31) (c := tk k3) sd32_0 sd32_1 hv32 (by decide) (by decide) (by decide) (z7_5 (Or.inr (or_t hp24 q25 hn24)) (or_f hp28 q29))
                  have t32 : ar32 67 = T := (hG32.2 67 (by decide)).trans t31
                  have rs32 := rs_fr rs31 hG32 (by decide)
                  refine to_eq (fr' := (74, [(0, .ref 49), (1, .int (nI w)), (2, .int (nI n1)), (3, .int 5)], [], gh S a b sc32 ar32 lo, ex, 0, 0)) rfl ?_
                  refine to_n 1 (fr' := (75, [(0, .ref 49), (1, .int (nI w)), (2, .int (nI n1)), (3, .int 5)], [.int (nI n1)], gh S a b sc32 ar32 lo, ex, 0, 0)) rfl ?_
                  refine to_nf_eq (t := 84) (x := n1) rfl (by omega) (fun q33 => ?_) (fun q33 => ?_)
                  · exact to_rt (i := .return_) (tg := []) rfl rfl ⟨_, _, ⟨hI32, hF32, ⟨hk32, Or.inr ⟨k32_4941, hz32, (c31 + 1), B31, k32_4934, k32_4939, by omega, by omega, by omega, by omega, seg_le sb32 (by omega)⟩, Or.inl ⟨k32_4941, k31, (by simp only [pTs, if_neg (or_f hp1 q2), pT2, ey3, if_pos (Or.inr (or_t hp24 q25 hn24) : tk k3 = -10 ∨ tk k3 = -11), ey31]), rs32⟩, fun _ cq hq9 eq9 => (show (c31 + 1) = cq from (nI_eq (by omega) (by omega)).mp ((k32_4934).symm.trans eq9)) ▸ sgr_v sd32 (by simp only [vTs, if_neg (or_f hp1 q2), vT2, ey3, if_pos (Or.inr (or_t hp24 q25 hn24) : tk k3 = -10 ∨ tk k3 = -11)])⟩⟩, rfl⟩
                  · refine to_n 2 (fr' := (81, [(0, .ref 49), (1, .int (nI w)), (2, .int (nI n1)), (3, .int 5)], [.int 8, .ref 49], gh S a b sc32 ar32 lo, ex, 0, 0)) rfl ?_
                    refine to_cv (q := 126) (M1 := an_X10_emit) (rest := []) rfl rfl (by decide) rfl ⟨_, rfl⟩ (em_ok hW hI32 8 l (c31 + 1) (by omega) (by omega) k32_4941 k32_4907 k32_4934 (d + 4)) (fun sc34 ar34 hx34 => ?_)
                    obtain ⟨hI34, hG34, hs34, ha34⟩ := hx34
                    have k34_4907 : sc34 4907 = (nI l) := (hG34.1 4907 (by decide)).trans k32_4907
                    have k34_4939 : sc34 4939 = (nI B31) := (hG34.1 4939 (by decide)).trans k32_4939
                    have k34_4941 : sc34 4941 = 0 := (hG34.1 4941 (by decide)).trans k32_4941
                    have k34_4934 : sc34 4934 = nI ((c31 + 1) + 1) := by rw [hs34]; exact up_eq
                    have hc34 : ar34 71 = upd (ar32 71) (700 * l + (c31 + 1)) 8 := by rw [ha34]; rfl
                    have hv34 : ar34 71 (700 * l + (c31 + 1)) = 8 := by rw [hc34]; exact up_eq
                    have hu34 : ∀ x, x < 700 * l + (c31 + 1) → ar34 71 x = ar32 71 x := fun x w => by rw [hc34]; exact up_ne (by omega)
                    have hk34 : ∀ x, x < 700 * l + c → ar34 71 x = ar 71 x := fun x w => (hu34 x (by omega)).trans (hk32 x w)
                    have hz34 := pz_fr hz32 hG34 (by decide) (by decide) (by decide) (by decide) (by decide)
                    have hF34 := fr_t hF32 hG34 (by decide) (by decide)
                    have sg34_0 := seg_ag sb32 hu34 (by omega)
                    have sd34_0 := sgr_ag sd32 hu34 (by omega)
                    have sn34 : seg (ar34 71) (700 * l + c) (700 * l + ((c31 + 1) + 1)) (h + 1) := seg_not (j := 700 * l + (c31 + 1)) sg34_0 hv34 (by omega)
                    have sd34 : sgr (ar34 71) (700 * l + c) (700 * l + ((c31 + 1) + 1)) _ := sgr_not (j := 700 * l + (c31 + 1)) sd34_0 hv34
                    have t34 : ar34 67 = T := (hG34.2 67 (by decide)).trans t32
                    have rs34 := rs_fr rs32 hG34 (by decide)
                    refine to_eq (fr' := (84, [(0, .ref 49), (1, .int (nI w)), (2, .int (nI n1)), (3, .int 5)], [], gh S a b sc34 ar34 lo, ex, 0, 0)) rfl ?_
                    exact to_rt (i := .return_) (tg := []) rfl rfl ⟨_, _, ⟨hI34, hF34, ⟨hk34, Or.inr ⟨k34_4941, hz34, ((c31 + 1) + 1), B31, k34_4934, k34_4939, by omega, by omega, by omega, by omega, seg_le sn34 (by omega)⟩, Or.inl ⟨k34_4941, k31, (by simp only [pTs, if_neg (or_f hp1 q2), pT2, ey3, if_pos (Or.inr (or_t hp24 q25 hn24) : tk k3 = -10 ∨ tk k3 = -11), ey31]), rs34⟩, fun _ cq hq9 eq9 => (show ((c31 + 1) + 1) = cq from (nI_eq (by omega) (by omega)).mp ((k34_4934).symm.trans eq9)) ▸ sgr_v sd34 (absurd q2 q33)⟩⟩, rfl⟩
              · refine to_eq (fr' := (69, [(0, .ref 49), (1, .int (nI w)), (2, .int (nI n1)), (3, .int 5)], [], gh S a b sc31 ar31 lo, ex, 0, 0)) rfl ?_
                refine to_n 2 (fr' := (71, [(0, .ref 49), (1, .int (nI w)), (2, .int (nI n1)), (3, .int 5)], [.int 5, .ref 49], gh S a b sc31 ar31 lo, ex, 0, 0)) rfl ?_
                refine to_cu (q := 126) (M1 := an_X10_emit) (rest := []) rfl rfl (by decide) rfl ⟨_, rfl⟩ (em_bad 5 hb31 (d + 4)) ?_ 
                refine to_eq (fr' := (74, [(0, .ref 49), (1, .int (nI w)), (2, .int (nI n1)), (3, .int 5)], [], gh S a b sc31 ar31 lo, ex, 0, 0)) rfl ?_
                refine to_n 1 (fr' := (75, [(0, .ref 49), (1, .int (nI w)), (2, .int (nI n1)), (3, .int 5)], [.int (nI n1)], gh S a b sc31 ar31 lo, ex, 0, 0)) rfl ?_
                refine to_nf_eq (t := 84) (x := n1) rfl (by omega) (fun q36 => ?_) (fun q36 => ?_)
                · exact to_rt (i := .return_) (tg := []) rfl rfl ⟨_, _, ⟨hI31, hF31, ⟨hk31, Or.inl hb31, Or.inr ⟨hb31, k31, (by simp only [pTs, if_neg (or_f hp1 q2), pT2, ey3, if_pos (Or.inr (or_t hp24 q25 hn24) : tk k3 = -10 ∨ tk k3 = -11), ey31]), bp31⟩, fun w => absurd w hb31⟩⟩, rfl⟩
                · refine to_n 2 (fr' := (81, [(0, .ref 49), (1, .int (nI w)), (2, .int (nI n1)), (3, .int 5)], [.int 8, .ref 49], gh S a b sc31 ar31 lo, ex, 0, 0)) rfl ?_
                  refine to_cu (q := 126) (M1 := an_X10_emit) (rest := []) rfl rfl (by decide) rfl ⟨_, rfl⟩ (em_bad 8 hb31 (d + 4)) ?_ 
                  refine to_eq (fr' := (84, [(0, .ref 49), (1, .int (nI w)), (2, .int (nI n1)), (3, .int 5)], [], gh S a b sc31 ar31 lo, ex, 0, 0)) rfl ?_
                  exact to_rt (i := .return_) (tg := []) rfl rfl ⟨_, _, ⟨hI31, hF31, ⟨hk31, Or.inl hb31, Or.inr ⟨hb31, k31, (by simp only [pTs, if_neg (or_f hp1 q2), pT2, ey3, if_pos (Or.inr (or_t hp24 q25 hn24) : tk k3 = -10 ∨ tk k3 = -11), ey31]), bp31⟩, fun w => absurd w hb31⟩⟩, rfl⟩
            · refine to_n 4 (fr' := (61, [(0, .ref 49), (1, .int (nI w)), (2, .int (nI n1)), (3, .int 4)], [.ref 49], gh S a b sc3 ar3 lo, ex, 0, 0)) rfl ?_
              refine to_cv (q := 122) (M1 := an_X10_step) (rest := []) rfl rfl (by decide) rfl ⟨_, rfl⟩ (st_nextx hW hI3 eB3 (by omega) hz3 (ob_no hsm rs3 (or_t hp28 q29 hn28) (by decide)) hsm hlen4 hne t3 rs3 (d + 3)) (fun sc38 ar38 hx38 => ?_)
              obtain ⟨hI38, hG38, hz38, ⟨B38, eB38, hB38, hC38⟩, rs38⟩ := hx38
              have t38 : ar38 67 = T := (hG38.2 67 (by decide)).trans t3
              have k38_4907 : sc38 4907 = (nI l) := (hG38.1 4907 (by decide)).trans k3_4907
              have k38_4934 : sc38 4934 = (nI c3) := (hG38.1 4934 (by decide)).trans ec3
              have k38_4941 : sc38 4941 = 0 := (hG38.1 4941 (by decide)).trans hb3
              have hk38 : ∀ x, x < 700 * l + c → ar38 71 x = ar 71 x := kp_st hk3 hG38 (by decide)
              have sg38_0 := sg_st sg3 hG38 (by decide)
              have sd38_0 := sgr_st sd3 hG38 (by decide)
              have hF38 := fr_t hF3 hG38 (by decide) (by decide)
              refine to_eq (fr' := (64, [(0, .ref 49), (1, .int (nI w)), (2, .int (nI n1)), (3, .int 4)], [], gh S a b sc38 ar38 lo, ex, 0, 0)) rfl ?_
              refine to_n 2 (fr' := (66, [(0, .ref 49), (1, .int (nI w)), (2, .int (nI n1)), (3, .int 4)], [.int (nI w), .ref 49], gh S a b sc38 ar38 lo, ex, 0, 0)) rfl ?_
              refine to_cv (q := 130) (M1 := an_X10_readSum) (rest := []) rfl rfl (by decide) rfl ⟨_, rfl⟩ (hE sc38 ar38 l c3 (e + 2) B38 (ad_ sz k3) hI38 (by omega) k38_4907 k38_4934 eB38 (by omega) k38_4941 hz38 (by omega) t38 rs38) (fun sc39 ar39 hx39 => ?_)
              obtain ⟨hI39, hG39, hu39, hr39, hy39, hd39⟩ := hx39
              have k39_4907 : sc39 4907 = nI l := (hG39.1 4907 (by decide)).trans k38_4907
              have hk39 : ∀ x, x < 700 * l + c → ar39 71 x = ar 71 x := fun x w => (hu39 x (by omega)).trans (hk38 x w)
              have hF39 := fr_t hF38 hG39 (by decide) (by decide)
              have t39 : ar39 67 = T := (hG39.2 67 (by decide)).trans t38
              have sg39_0 := seg_ag sg38_0 hu39 (by omega)
              have sd39_0 := sgr_ag sd38_0 hu39 (by omega)
              rcases hy39 with ⟨hb39, k39, ey39, rs39⟩ | ⟨hb39, k39, ey39, bp39⟩
              · rcases hr39 with hbb39 | ⟨-, hz39, c39, B39, ec39, eB39, hcc39, hBB39, hB39, hpo39, sg39⟩
                · exact absurd hb39 hbb39
                · have sd39 := hd39 hb39 c39 (by omega) ec39
                  refine to_eq (fr' := (69, [(0, .ref 49), (1, .int (nI w)), (2, .int (nI n1)), (3, .int 4)], [], gh S a b sc39 ar39 lo, ex, 0, 0)) rfl ?_
                  refine to_n 2 (fr' := (71, [(0, .ref 49), (1, .int (nI w)), (2, .int (nI n1)), (3, .int 4)], [.int 4, .ref 49], gh S a b sc39 ar39 lo, ex, 0, 0)) rfl ?_
                  refine to_cv (q := 126) (M1 := an_X10_emit) (rest := []) rfl rfl (by decide) rfl ⟨_, rfl⟩ (em_ok hW hI39 4 l c39 (by omega) (by omega) hb39 k39_4907 ec39 (d + 4)) (fun sc40 ar40 hx40 => ?_)
                  obtain ⟨hI40, hG40, hs40, ha40⟩ := hx40
                  have k40_4907 : sc40 4907 = (nI l) := (hG40.1 4907 (by decide)).trans k39_4907
                  have k40_4939 : sc40 4939 = (nI B39) := (hG40.1 4939 (by decide)).trans eB39
                  have k40_4941 : sc40 4941 = 0 := (hG40.1 4941 (by decide)).trans hb39
                  have k40_4934 : sc40 4934 = nI (c39 + 1) := by rw [hs40]; exact up_eq
                  have hc40 : ar40 71 = upd (ar39 71) (700 * l + c39) 4 := by rw [ha40]; rfl
                  have hv40 : ar40 71 (700 * l + c39) = 4 := by rw [hc40]; exact up_eq
                  have hu40 : ∀ x, x < 700 * l + c39 → ar40 71 x = ar39 71 x := fun x w => by rw [hc40]; exact up_ne (by omega)
                  have hk40 : ∀ x, x < 700 * l + c → ar40 71 x = ar 71 x := fun x w => (hu40 x (by omega)).trans (hk39 x w)
                  have hz40 := pz_fr hz39 hG40 (by decide) (by decide) (by decide) (by decide) (by decide)
                  have hF40 := fr_t hF39 hG40 (by decide) (by decide)
                  have sg40_0 := seg_ag sg39_0 hu40 (by omega)
                  have sg40_1 := seg_ag sg39 hu40 (by omega)
                  have sd40_0 := sgr_ag sd39_0 hu40 (by omega)
                  have sd40_1 := sgr_ag sd39 hu40 (by omega)
                  have sb40 : seg (ar40 71) (700 * l + c) (700 * l + (c39 + 1)) (h + 1) := seg_bin (k := 700 * l + c39) sg40_0 sg40_1 hv40 (by decide) (by decide) (by decide) (by omega) (by omega) (by omega) (by omega)
                  have sd40 : sgr (ar40 71) (700 * l + c) (700 * l + (c39 + 1)) _ := sgr_bin (k := 700 * l + c39) (c := tk k3) sd40_0 sd40_1 hv40 (by decide) (by decide) (by decide) (z7_4 (or_t hp28 q29 hn28))
                  have t40 : ar40 67 = T := (hG40.2 67 (by decide)).trans t39
                  have rs40 := rs_fr rs39 hG40 (by decide)
                  refine to_eq (fr' := (74, [(0, .ref 49), (1, .int (nI w)), (2, .int (nI n1)), (3, .int 4)], [], gh S a b sc40 ar40 lo, ex, 0, 0)) rfl ?_
                  refine to_n 1 (fr' := (75, [(0, .ref 49), (1, .int (nI w)), (2, .int (nI n1)), (3, .int 4)], [.int (nI n1)], gh S a b sc40 ar40 lo, ex, 0, 0)) rfl ?_
                  refine to_nf_eq (t := 84) (x := n1) rfl (by omega) (fun q41 => ?_) (fun q41 => ?_)
                  · exact to_rt (i := .return_) (tg := []) rfl rfl ⟨_, _, ⟨hI40, hF40, ⟨hk40, Or.inr ⟨k40_4941, hz40, (c39 + 1), B39, k40_4934, k40_4939, by omega, by omega, by omega, by omega, seg_le sb40 (by omega)⟩, Or.inl ⟨k40_4941, k39, (by simp only [pTs, if_neg (or_f hp1 q2), pT2, ey3, if_pos (Or.inr (or_t hp24 q25 hn24) : tk k3 = -10 ∨ tk k3 = -11), ey39]), rs40⟩, fun _ cq hq9 eq9 => (show (c39 + 1) = cq from (nI_eq (by omega) (by omega)).mp ((k40_4934).symm.trans eq9)) ▸ sgr_v sd40 (by simp only [vTs, if_neg (or_f hp1 q2), vT2, ey3, if_pos (Or.inr (or_t hp24 q25 hn24) : tk k3 = -10 ∨ tk k3 = -11)])⟩⟩, rfl⟩
                  · refine to_n 2 (fr' := (81, [(0, .ref 49), (1, .int (nI w)), (2, .int (nI n1)), (3, .int 4)], [.int 8, .ref 49], gh S a b sc40 ar40 lo, ex, 0, 0)) rfl ?_
                    refine to_cv (q := 126) (M1 := an_X10_emit) (rest := []) rfl rfl (by decide) rfl ⟨_, rfl⟩ (em_ok hW hI40 8 l (c39 + 1) (by omega) (by omega) k40_4941 k40_4907 k40_4934 (d + 4)) (fun sc42 ar42 hx42 => ?_)
                    obtain ⟨hI42, hG42, hs42, ha42⟩ := hx42
                    have k42_4907 : sc42 4907 = (nI l) := (hG42.1 4907 (by decide)).trans k40_4907
                    have k42_4939 : sc42 4939 = (nI B39) := (hG42.1 4939 (by decide)).trans k40_4939
                    have k42_4941 : sc42 4941 = 0 := (hG42.1 4941 (by decide)).trans k40_4941
                    have k42_4934 : sc42 4934 = nI ((c39 + 1) + 1) := by rw [hs42]; exact up_eq
                    have hc42 : ar42 71 = upd (ar40 71) (700 * l + (c39 + 1)) 8 := by rw [ha42]; rfl
                    have hv42 : ar42 71 (700 * l + (c39 + 1)) = 8 := by rw [hc42]; exact up_eq
                    have hu42 : ∀ x, x < 700 * l + (c39 + 1) → ar42 71 x = ar40 71 x := fun x w => by rw [hc42]; exact up_ne (by omega)
                    have hk42 : ∀ x, x < 700 * l + c → ar42 71 x = ar 71 x := fun x w => (hu42 x (by omega)).trans (hk40 x w)
                    have hz42 := pz_fr hz40 hG42 (by decide) (by decide) (by decide) (by decide) (by decide)
                    have hF42 := fr_t hF40 hG42 (by decide) (by decide)
                    have sg42_0 := seg_ag sb40 hu42 (by omega)
                    have sd42_0 := sgr_ag sd40 hu42 (by omega)
                    have sn42 : seg (ar42 71) (700 * l + c) (700 * l + ((c39 + 1) + 1)) (h + 1) := seg_not (j := 700 * l + (c39 + 1)) sg42_0 hv42 (by omega)
                    have sd42 : sgr (ar42 71) (700 * l + c) (700 * l + ((c39 + 1) + 1)) _ := sgr_not (j := 700 * l + (c39 + 1)) sd42_0 hv42
                    have t42 : ar42 67 = T := (hG42.2 67 (by decide)).trans t40
                    have rs42 := rs_fr rs40 hG42 (by decide)
                    refine to_eq (fr' := (84, [(0, .ref 49), (1, .int (nI w)), (2, .int (nI n1)), (3, .int 4)], [], gh S a b sc42 ar42 lo, ex, 0, 0)) rfl ?_
                    exact to_rt (i := .return_) (tg := []) rfl rfl ⟨_, _, ⟨hI42, hF42, ⟨hk42, Or.inr ⟨k42_4941, hz42, ((c39 + 1) + 1), B39, k42_4934, k42_4939, by omega, by omega, by omega, by omega, seg_le sn42 (by omega)⟩, Or.inl ⟨k42_4941, k39, (by simp only [pTs, if_neg (or_f hp1 q2), pT2, ey3, if_pos (Or.inr (or_t hp24 q25 hn24) : tk k3 = -10 ∨ tk k3 = -11), ey39]), rs42⟩, fun _ cq hq9 eq9 => (show ((c39 + 1) + 1) = cq from (nI_eq (by omega) (by omega)).mp ((k42_4934).symm.trans eq9)) ▸ sgr_v sd42 (absurd q2 q41)⟩⟩, rfl⟩
              · refine to_eq (fr' := (69, [(0, .ref 49), (1, .int (nI w)), (2, .int (nI n1)), (3, .int 4)], [], gh S a b sc39 ar39 lo, ex, 0, 0)) rfl ?_
                refine to_n 2 (fr' := (71, [(0, .ref 49), (1, .int (nI w)), (2, .int (nI n1)), (3, .int 4)], [.int 4, .ref 49], gh S a b sc39 ar39 lo, ex, 0, 0)) rfl ?_
                refine to_cu (q := 126) (M1 := an_X10_emit) (rest := []) rfl rfl (by decide) rfl ⟨_, rfl⟩ (em_bad 4 hb39 (d + 4)) ?_ 
                refine to_eq (fr' := (74, [(0, .ref 49), (1, .int (nI w)), (2, .int (nI n1)), (3, .int 4)], [], gh S a b sc39 ar39 lo, ex, 0, 0)) rfl ?_
                refine to_n 1 (fr' := (75, [(0, .ref 49), (1, .int (nI w)), (2, .int (nI n1)), (3, .int 4)], [.int (nI n1)], gh S a b sc39 ar39 lo, ex, 0, 0)) rfl ?_
                refine to_nf_eq (t := 84) (x := n1) rfl (by omega) (fun q44 => ?_) (fun q44 => ?_)
                · exact to_rt (i := .return_) (tg := []) rfl rfl ⟨_, _, ⟨hI39, hF39, ⟨hk39, Or.inl hb39, Or.inr ⟨hb39, k39, (by simp only [pTs, if_neg (or_f hp1 q2), pT2, ey3, if_pos (Or.inr (or_t hp24 q25 hn24) : tk k3 = -10 ∨ tk k3 = -11), ey39]), bp39⟩, fun w => absurd w hb39⟩⟩, rfl⟩
                · refine to_n 2 (fr' := (81, [(0, .ref 49), (1, .int (nI w)), (2, .int (nI n1)), (3, .int 4)], [.int 8, .ref 49], gh S a b sc39 ar39 lo, ex, 0, 0)) rfl ?_
                  refine to_cu (q := 126) (M1 := an_X10_emit) (rest := []) rfl rfl (by decide) rfl ⟨_, rfl⟩ (em_bad 8 hb39 (d + 4)) ?_ 
                  refine to_eq (fr' := (84, [(0, .ref 49), (1, .int (nI w)), (2, .int (nI n1)), (3, .int 4)], [], gh S a b sc39 ar39 lo, ex, 0, 0)) rfl ?_
                  exact to_rt (i := .return_) (tg := []) rfl rfl ⟨_, _, ⟨hI39, hF39, ⟨hk39, Or.inl hb39, Or.inr ⟨hb39, k39, (by simp only [pTs, if_neg (or_f hp1 q2), pT2, ey3, if_pos (Or.inr (or_t hp24 q25 hn24) : tk k3 = -10 ∨ tk k3 = -11), ey39]), bp39⟩, fun w => absurd w hb39⟩⟩, rfl⟩
    · refine to_eq (fr' := (20, [(0, .ref 49), (1, .int (nI w)), (2, .int (nI n1))], [], gh S a b sc3 ar3 lo, ex, 0, 0)) rfl ?_
      refine to_n 1 (fr' := (21, [(0, .ref 49), (1, .int (nI w)), (2, .int (nI n1))], [.ref 49], gh S a b sc3 ar3 lo, ex, 0, 0)) rfl ?_
      refine to_getR (v := (sc3 4941)) rfl rfl rfl rfl rfl ?_
      refine to_if_ne_T (t := 74) rfl hb3 ?_
      refine to_n 1 (fr' := (75, [(0, .ref 49), (1, .int (nI w)), (2, .int (nI n1))], [.int (nI n1)], gh S a b sc3 ar3 lo, ex, 0, 0)) rfl ?_
      refine to_nf_eq (t := 84) (x := n1) rfl (by omega) (fun q46 => ?_) (fun q46 => ?_)
      · exact to_rt (i := .return_) (tg := []) rfl rfl ⟨_, _, ⟨hI3, hF3, ⟨hk3, Or.inl hb3, Or.inr ⟨hb3, k3, (by simp only [pTs, if_neg (or_f hp1 q2), pT2, ey3]), bp3⟩, fun w => absurd w hb3⟩⟩, rfl⟩
      · refine to_n 2 (fr' := (81, [(0, .ref 49), (1, .int (nI w)), (2, .int (nI n1))], [.int 8, .ref 49], gh S a b sc3 ar3 lo, ex, 0, 0)) rfl ?_
        refine to_cu (q := 126) (M1 := an_X10_emit) (rest := []) rfl rfl (by decide) rfl ⟨_, rfl⟩ (em_bad 8 hb3 (d + 4)) ?_ 
        refine to_eq (fr' := (84, [(0, .ref 49), (1, .int (nI w)), (2, .int (nI n1))], [], gh S a b sc3 ar3 lo, ex, 0, 0)) rfl ?_
        exact to_rt (i := .return_) (tg := []) rfl rfl ⟨_, _, ⟨hI3, hF3, ⟨hk3, Or.inl hb3, Or.inr ⟨hb3, k3, (by simp only [pTs, if_neg (or_f hp1 q2), pT2, ey3]), bp3⟩, fun w => absurd w hb3⟩⟩, rfl⟩
  · refine to_n 1 (fr' := (12, [(0, .ref 49), (1, .int (nI w)), (2, .int (nI n1))], [.ref 49], gh S a b sc ar lo, ex, 0, 0)) rfl ?_
    refine to_cv (q := 122) (M1 := an_X10_step) (rest := []) rfl rfl (by decide) rfl ⟨_, rfl⟩ (st_nextx hW hI eB (by omega) hz (ob_no hsm hr (or_t hp1 q2 hn1) (by decide)) hsm hlen4 hne hT hr (d + 3)) (fun sc48 ar48 hx48 => ?_)
    obtain ⟨hI48, hG48, hz48, ⟨B48, eB48, hB48, hC48⟩, rs48⟩ := hx48
    have t48 : ar48 67 = T := (hG48.2 67 (by decide)).trans hT
    have k48_4907 : sc48 4907 = (nI l) := (hG48.1 4907 (by decide)).trans el
    have k48_4934 : sc48 4934 = (nI c) := (hG48.1 4934 (by decide)).trans ec
    have k48_4941 : sc48 4941 = 0 := (hG48.1 4941 (by decide)).trans eb
    have hk48 : ∀ x, x < 700 * l + c → ar48 71 x = ar 71 x := kp_st (fun _ _ => rfl) hG48 (by decide)
    have hF48 := fr_t hF hG48 (by decide) (by decide)
    refine to_eq (fr' := (15, [(0, .ref 49), (1, .int (nI w)), (2, .int (nI n1))], [], gh S a b sc48 ar48 lo, ex, 0, 0)) rfl ?_
    refine to_n 2 (fr' := (17, [(0, .ref 49), (1, .int (nI w)), (2, .int (nI n1))], [.int (nI w), .ref 49], gh S a b sc48 ar48 lo, ex, 0, 0)) rfl ?_
    refine to_cv (q := 130) (M1 := an_X10_readSum) (rest := []) rfl rfl (by decide) rfl ⟨_, rfl⟩ (hE sc48 ar48 l c (e + 2) B48 (ad_ sz j) hI48 (by omega) k48_4907 k48_4934 eB48 (by omega) k48_4941 hz48 (by omega) t48 rs48) (fun sc49 ar49 hx49 => ?_)
    obtain ⟨hI49, hG49, hu49, hr49, hy49, hd49⟩ := hx49
    have k49_4907 : sc49 4907 = nI l := (hG49.1 4907 (by decide)).trans k48_4907
    have hk49 : ∀ x, x < 700 * l + c → ar49 71 x = ar 71 x := fun x w => (hu49 x (by omega)).trans (hk48 x w)
    have hF49 := fr_t hF48 hG49 (by decide) (by decide)
    have t49 : ar49 67 = T := (hG49.2 67 (by decide)).trans t48
    rcases hy49 with ⟨hb49, k49, ey49, rs49⟩ | ⟨hb49, k49, ey49, bp49⟩
    · rcases hr49 with hbb49 | ⟨-, hz49, c49, B49, ec49, eB49, hcc49, hBB49, hB49, hpo49, sg49⟩
      · exact absurd hb49 hbb49
      · have sd49 := hd49 hb49 c49 (by omega) ec49
        refine to_eq (fr' := (20, [(0, .ref 49), (1, .int (nI w)), (2, .int (nI n1))], [], gh S a b sc49 ar49 lo, ex, 0, 0)) rfl ?_
        refine to_n 1 (fr' := (21, [(0, .ref 49), (1, .int (nI w)), (2, .int (nI n1))], [.ref 49], gh S a b sc49 ar49 lo, ex, 0, 0)) rfl ?_
        refine to_getR (v := 0) rfl rfl rfl rfl hb49 ?_
        refine to_n 3 (fr' := (30, [(0, .ref 49), (1, .int (nI w)), (2, .int (nI n1))], [.int 60, .ref 49], gh S a b sc49 ar49 lo, ex, 0, 0)) rfl ?_
        refine to_cp (q := 124) (M1 := an_X10_isSign) (rest := []) rfl rfl (by decide) rfl ⟨_, rfl⟩ (is_X10_isSign hW hI49 60 (d + 4)) (fun x50 hx50 => ?_)
        obtain ⟨⟨n50, hn50, rfl⟩, hp50⟩ := hx50
        rw [ob_s (x := (60, -10)) hsm rs49 (by decide)] at hp50
        refine to_eq (fr' := (33, [(0, .ref 49), (1, .int (nI w)), (2, .int (nI n1))], [.int (nI n50)], gh S a b sc49 ar49 lo, ex, 0, 0)) rfl ?_
        refine to_nf_ne (t := 45) (x := n50) rfl (by omega) (fun q51 => ?_) (fun q51 => ?_)
        · refine to_n 2 (fr' := (48, [(0, .ref 49), (1, .int (nI w)), (2, .int (nI n1))], [.int 60, .ref 49], gh S a b sc49 ar49 lo, ex, 0, 0)) rfl ?_
          refine to_cp (q := 124) (M1 := an_X10_isSign) (rest := []) rfl rfl (by decide) rfl ⟨_, rfl⟩ (is_X10_isSign hW hI49 60 (d + 4)) (fun x52 hx52 => ?_)
          obtain ⟨⟨n52, hn52, rfl⟩, hp52⟩ := hx52
          rw [ob_s (x := (60, -10)) hsm rs49 (by decide)] at hp52
          refine to_eq (fr' := (51, [(0, .ref 49), (1, .int (nI w)), (2, .int (nI n1))], [.int (nI n52)], gh S a b sc49 ar49 lo, ex, 0, 0)) rfl ?_
          refine to_nf_eq (t := 58) (x := n52) rfl (by omega) (fun q53 => ?_) (fun q53 => ?_)
          · refine to_n 3 (fr' := (61, [(0, .ref 49), (1, .int (nI w)), (2, .int (nI n1)), (3, .int 5)], [.ref 49], gh S a b sc49 ar49 lo, ex, 0, 0)) rfl ?_
            refine to_cv (q := 122) (M1 := an_X10_step) (rest := []) rfl rfl (by decide) rfl ⟨_, rfl⟩ (st_nextx hW hI49 eB49 (by omega) hz49 (ob_no hsm rs49 (or_t hp50 q51 hn50) (by decide)) hsm hlen4 hne t49 rs49 (d + 3)) (fun sc54 ar54 hx54 => ?_)
            obtain ⟨hI54, hG54, hz54, ⟨B54, eB54, hB54, hC54⟩, rs54⟩ := hx54
            have t54 : ar54 67 = T := (hG54.2 67 (by decide)).trans t49
            have k54_4907 : sc54 4907 = (nI l) := (hG54.1 4907 (by decide)).trans k49_4907
            have k54_4934 : sc54 4934 = (nI c49) := (hG54.1 4934 (by decide)).trans ec49
            have k54_4941 : sc54 4941 = 0 := (hG54.1 4941 (by decide)).trans hb49
            have hk54 : ∀ x, x < 700 * l + c → ar54 71 x = ar 71 x := kp_st hk49 hG54 (by decide)
            have sg54_0 := sg_st sg49 hG54 (by decide)
            have sd54_0 := sgr_st sd49 hG54 (by decide)
            have hF54 := fr_t hF49 hG54 (by decide) (by decide)
            refine to_eq (fr' := (64, [(0, .ref 49), (1, .int (nI w)), (2, .int (nI n1)), (3, .int 5)], [], gh S a b sc54 ar54 lo, ex, 0, 0)) rfl ?_
            refine to_n 2 (fr' := (66, [(0, .ref 49), (1, .int (nI w)), (2, .int (nI n1)), (3, .int 5)], [.int (nI w), .ref 49], gh S a b sc54 ar54 lo, ex, 0, 0)) rfl ?_
            refine to_cv (q := 130) (M1 := an_X10_readSum) (rest := []) rfl rfl (by decide) rfl ⟨_, rfl⟩ (hE sc54 ar54 l c49 ((e + 2) + 2) B54 (ad_ sz k49) hI54 (by omega) k54_4907 k54_4934 eB54 (by omega) k54_4941 hz54 (by omega) t54 rs54) (fun sc55 ar55 hx55 => ?_)
            obtain ⟨hI55, hG55, hu55, hr55, hy55, hd55⟩ := hx55
            have k55_4907 : sc55 4907 = nI l := (hG55.1 4907 (by decide)).trans k54_4907
            have hk55 : ∀ x, x < 700 * l + c → ar55 71 x = ar 71 x := fun x w => (hu55 x (by omega)).trans (hk54 x w)
            have hF55 := fr_t hF54 hG55 (by decide) (by decide)
            have t55 : ar55 67 = T := (hG55.2 67 (by decide)).trans t54
            have sg55_0 := seg_ag sg54_0 hu55 (by omega)
            have sd55_0 := sgr_ag sd54_0 hu55 (by omega)
            rcases hy55 with ⟨hb55, k55, ey55, rs55⟩ | ⟨hb55, k55, ey55, bp55⟩
            · rcases hr55 with hbb55 | ⟨-, hz55, c55, B55, ec55, eB55, hcc55, hBB55, hB55, hpo55, sg55⟩
              · exact absurd hb55 hbb55
              · have sd55 := hd55 hb55 c55 (by omega) ec55
                refine to_eq (fr' := (69, [(0, .ref 49), (1, .int (nI w)), (2, .int (nI n1)), (3, .int 5)], [], gh S a b sc55 ar55 lo, ex, 0, 0)) rfl ?_
                refine to_n 2 (fr' := (71, [(0, .ref 49), (1, .int (nI w)), (2, .int (nI n1)), (3, .int 5)], [.int 5, .ref 49], gh S a b sc55 ar55 lo, ex, 0, 0)) rfl ?_
                refine to_cv (q := 126) (M1 := an_X10_emit) (rest := []) rfl rfl (by decide) rfl ⟨_, rfl⟩ (em_ok hW hI55 5 l c55 (by omega) (by omega) hb55 k55_4907 ec55 (d + 4)) (fun sc56 ar56 hx56 => ?_)
                obtain ⟨hI56, hG56, hs56, ha56⟩ := hx56
                have k56_4907 : sc56 4907 = (nI l) := (hG56.1 4907 (by decide)).trans k55_4907
                have k56_4939 : sc56 4939 = (nI B55) := (hG56.1 4939 (by decide)).trans eB55
                have k56_4941 : sc56 4941 = 0 := (hG56.1 4941 (by decide)).trans hb55
                have k56_4934 : sc56 4934 = nI (c55 + 1) := by rw [hs56]; exact up_eq
                have hc56 : ar56 71 = upd (ar55 71) (700 * l + c55) 5 := by rw [ha56]; rfl
                have hv56 : ar56 71 (700 * l + c55) = 5 := by rw [hc56]; exact up_eq
                have hu56 : ∀ x, x < 700 * l + c55 → ar56 71 x = ar55 71 x := fun x w => by rw [hc56]; exact up_ne (by omega)
                have hk56 : ∀ x, x < 700 * l + c → ar56 71 x = ar 71 x := fun x w => (hu56 x (by omega)).trans (hk55 x w)
                have hz56 := pz_fr hz55 hG56 (by decide) (by decide) (by decide) (by decide) (by decide)
                have hF56 := fr_t hF55 hG56 (by decide) (by decide)
                have sg56_0 := seg_ag sg55_0 hu56 (by omega)
                have sg56_1 := seg_ag sg55 hu56 (by omega)
                have sd56_0 := sgr_ag sd55_0 hu56 (by omega)
                have sd56_1 := sgr_ag sd55 hu56 (by omega)
                have sb56 : seg (ar56 71) (700 * l + c) (700 * l + (c55 + 1)) (h + 1) := seg_bin (k := 700 * l + c55) sg56_0 sg56_1 hv56 (by decide) (by decide) (by decide) (by omega) (by omega) (by omega) (by omega)
                have sd56 : sgr (ar56 71) (700 * l + c) (700 * l + (c55 + 1)) _ := sgr_bin (k := 700 * l + c55) (c := tk k49) sd56_0 sd56_1 hv56 (by decide) (by decide) (by decide) (z7_5 (Or.inl (or_t hp50 q51 hn50)) (or_f hp52 q53))
                have t56 : ar56 67 = T := (hG56.2 67 (by decide)).trans t55
                have rs56 := rs_fr rs55 hG56 (by decide)
                refine to_eq (fr' := (74, [(0, .ref 49), (1, .int (nI w)), (2, .int (nI n1)), (3, .int 5)], [], gh S a b sc56 ar56 lo, ex, 0, 0)) rfl ?_
                refine to_n 1 (fr' := (75, [(0, .ref 49), (1, .int (nI w)), (2, .int (nI n1)), (3, .int 5)], [.int (nI n1)], gh S a b sc56 ar56 lo, ex, 0, 0)) rfl ?_
                refine to_nf_eq (t := 84) (x := n1) rfl (by omega) (fun q57 => ?_) (fun q57 => ?_)
                · exact to_rt (i := .return_) (tg := []) rfl rfl ⟨_, _, ⟨hI56, hF56, ⟨hk56, Or.inr ⟨k56_4941, hz56, (c55 + 1), B55, k56_4934, k56_4939, by omega, by omega, by omega, by omega, seg_le sb56 (by omega)⟩, Or.inl ⟨k56_4941, k55, (by simp only [pTs, if_pos (or_t hp1 q2 hn1), pT2, ey49, if_pos (Or.inl (or_t hp50 q51 hn50) : tk k49 = -10 ∨ tk k49 = -11), ey55]), rs56⟩, fun _ cq hq9 eq9 => (show (c55 + 1) = cq from (nI_eq (by omega) (by omega)).mp ((k56_4934).symm.trans eq9)) ▸ sgr_v sd56 (absurd q57 q2)⟩⟩, rfl⟩
                · refine to_n 2 (fr' := (81, [(0, .ref 49), (1, .int (nI w)), (2, .int (nI n1)), (3, .int 5)], [.int 8, .ref 49], gh S a b sc56 ar56 lo, ex, 0, 0)) rfl ?_
                  refine to_cv (q := 126) (M1 := an_X10_emit) (rest := []) rfl rfl (by decide) rfl ⟨_, rfl⟩ (em_ok hW hI56 8 l (c55 + 1) (by omega) (by omega) k56_4941 k56_4907 k56_4934 (d + 4)) (fun sc58 ar58 hx58 => ?_)
                  obtain ⟨hI58, hG58, hs58, ha58⟩ := hx58
                  have k58_4907 : sc58 4907 = (nI l) := (hG58.1 4907 (by decide)).trans k56_4907
                  have k58_4939 : sc58 4939 = (nI B55) := (hG58.1 4939 (by decide)).trans k56_4939
                  have k58_4941 : sc58 4941 = 0 := (hG58.1 4941 (by decide)).trans k56_4941
                  have k58_4934 : sc58 4934 = nI ((c55 + 1) + 1) := by rw [hs58]; exact up_eq
                  have hc58 : ar58 71 = upd (ar56 71) (700 * l + (c55 + 1)) 8 := by rw [ha58]; rfl
                  have hv58 : ar58 71 (700 * l + (c55 + 1)) = 8 := by rw [hc58]; exact up_eq
                  have hu58 : ∀ x, x < 700 * l + (c55 + 1) → ar58 71 x = ar56 71 x := fun x w => by rw [hc58]; exact up_ne (by omega)
                  have hk58 : ∀ x, x < 700 * l + c → ar58 71 x = ar 71 x := fun x w => (hu58 x (by omega)).trans (hk56 x w)
                  have hz58 := pz_fr hz56 hG58 (by decide) (by decide) (by decide) (by decide) (by decide)
                  have hF58 := fr_t hF56 hG58 (by decide) (by decide)
                  have sg58_0 := seg_ag sb56 hu58 (by omega)
                  have sd58_0 := sgr_ag sd56 hu58 (by omega)
                  have sn58 : seg (ar58 71) (700 * l + c) (700 * l + ((c55 + 1) + 1)) (h + 1) := seg_not (j := 700 * l + (c55 + 1)) sg58_0 hv58 (by omega)
                  have sd58 : sgr (ar58 71) (700 * l + c) (700 * l + ((c55 + 1) + 1)) _ := sgr_not (j := 700 * l + (c55 + 1)) sd58_0 hv58
                  have t58 : ar58 67 = T := (hG58.2 67 (by decide)).trans t56
                  have rs58 := rs_fr rs56 hG58 (by decide)
                  refine to_eq (fr' := (84, [(0, .ref 49), (1, .int (nI w)), (2, .int (nI n1)), (3, .int 5)], [], gh S a b sc58 ar58 lo, ex, 0, 0)) rfl ?_
                  exact to_rt (i := .return_) (tg := []) rfl rfl ⟨_, _, ⟨hI58, hF58, ⟨hk58, Or.inr ⟨k58_4941, hz58, ((c55 + 1) + 1), B55, k58_4934, k58_4939, by omega, by omega, by omega, by omega, seg_le sn58 (by omega)⟩, Or.inl ⟨k58_4941, k55, (by simp only [pTs, if_pos (or_t hp1 q2 hn1), pT2, ey49, if_pos (Or.inl (or_t hp50 q51 hn50) : tk k49 = -10 ∨ tk k49 = -11), ey55]), rs58⟩, fun _ cq hq9 eq9 => (show ((c55 + 1) + 1) = cq from (nI_eq (by omega) (by omega)).mp ((k58_4934).symm.trans eq9)) ▸ sgr_v sd58 (by simp only [vTs, if_pos (or_t hp1 q2 hn1), vT2, ey49, if_pos (Or.inl (or_t hp50 q51 hn50) : tk k49 = -10 ∨ tk k49 = -11)])⟩⟩, rfl⟩
            · refine to_eq (fr' := (69, [(0, .ref 49), (1, .int (nI w)), (2, .int (nI n1)), (3, .int 5)], [], gh S a b sc55 ar55 lo, ex, 0, 0)) rfl ?_
              refine to_n 2 (fr' := (71, [(0, .ref 49), (1, .int (nI w)), (2, .int (nI n1)), (3, .int 5)], [.int 5, .ref 49], gh S a b sc55 ar55 lo, ex, 0, 0)) rfl ?_
              refine to_cu (q := 126) (M1 := an_X10_emit) (rest := []) rfl rfl (by decide) rfl ⟨_, rfl⟩ (em_bad 5 hb55 (d + 4)) ?_ 
              refine to_eq (fr' := (74, [(0, .ref 49), (1, .int (nI w)), (2, .int (nI n1)), (3, .int 5)], [], gh S a b sc55 ar55 lo, ex, 0, 0)) rfl ?_
              refine to_n 1 (fr' := (75, [(0, .ref 49), (1, .int (nI w)), (2, .int (nI n1)), (3, .int 5)], [.int (nI n1)], gh S a b sc55 ar55 lo, ex, 0, 0)) rfl ?_
              refine to_nf_eq (t := 84) (x := n1) rfl (by omega) (fun q60 => ?_) (fun q60 => ?_)
              · exact to_rt (i := .return_) (tg := []) rfl rfl ⟨_, _, ⟨hI55, hF55, ⟨hk55, Or.inl hb55, Or.inr ⟨hb55, k55, (by simp only [pTs, if_pos (or_t hp1 q2 hn1), pT2, ey49, if_pos (Or.inl (or_t hp50 q51 hn50) : tk k49 = -10 ∨ tk k49 = -11), ey55]), bp55⟩, fun w => absurd w hb55⟩⟩, rfl⟩
              · refine to_n 2 (fr' := (81, [(0, .ref 49), (1, .int (nI w)), (2, .int (nI n1)), (3, .int 5)], [.int 8, .ref 49], gh S a b sc55 ar55 lo, ex, 0, 0)) rfl ?_
                refine to_cu (q := 126) (M1 := an_X10_emit) (rest := []) rfl rfl (by decide) rfl ⟨_, rfl⟩ (em_bad 8 hb55 (d + 4)) ?_ 
                refine to_eq (fr' := (84, [(0, .ref 49), (1, .int (nI w)), (2, .int (nI n1)), (3, .int 5)], [], gh S a b sc55 ar55 lo, ex, 0, 0)) rfl ?_
                exact to_rt (i := .return_) (tg := []) rfl rfl ⟨_, _, ⟨hI55, hF55, ⟨hk55, Or.inl hb55, Or.inr ⟨hb55, k55, (by simp only [pTs, if_pos (or_t hp1 q2 hn1), pT2, ey49, if_pos (Or.inl (or_t hp50 q51 hn50) : tk k49 = -10 ∨ tk k49 = -11), ey55]), bp55⟩, fun w => absurd w hb55⟩⟩, rfl⟩
          · refine to_n 4 (fr' := (61, [(0, .ref 49), (1, .int (nI w)), (2, .int (nI n1)), (3, .int 4)], [.ref 49], gh S a b sc49 ar49 lo, ex, 0, 0)) rfl ?_
            refine to_cv (q := 122) (M1 := an_X10_step) (rest := []) rfl rfl (by decide) rfl ⟨_, rfl⟩ (st_nextx hW hI49 eB49 (by omega) hz49 (ob_no hsm rs49 (or_t hp52 q53 hn52) (by decide)) hsm hlen4 hne t49 rs49 (d + 3)) (fun sc62 ar62 hx62 => ?_)
            obtain ⟨hI62, hG62, hz62, ⟨B62, eB62, hB62, hC62⟩, rs62⟩ := hx62
            have t62 : ar62 67 = T := (hG62.2 67 (by decide)).trans t49
            have k62_4907 : sc62 4907 = (nI l) := (hG62.1 4907 (by decide)).trans k49_4907
            have k62_4934 : sc62 4934 = (nI c49) := (hG62.1 4934 (by decide)).trans ec49
            have k62_4941 : sc62 4941 = 0 := (hG62.1 4941 (by decide)).trans hb49
            have hk62 : ∀ x, x < 700 * l + c → ar62 71 x = ar 71 x := kp_st hk49 hG62 (by decide)
            have sg62_0 := sg_st sg49 hG62 (by decide)
            have sd62_0 := sgr_st sd49 hG62 (by decide)
            have hF62 := fr_t hF49 hG62 (by decide) (by decide)
            refine to_eq (fr' := (64, [(0, .ref 49), (1, .int (nI w)), (2, .int (nI n1)), (3, .int 4)], [], gh S a b sc62 ar62 lo, ex, 0, 0)) rfl ?_
            refine to_n 2 (fr' := (66, [(0, .ref 49), (1, .int (nI w)), (2, .int (nI n1)), (3, .int 4)], [.int (nI w), .ref 49], gh S a b sc62 ar62 lo, ex, 0, 0)) rfl ?_
            refine to_cv (q := 130) (M1 := an_X10_readSum) (rest := []) rfl rfl (by decide) rfl ⟨_, rfl⟩ (hE sc62 ar62 l c49 ((e + 2) + 2) B62 (ad_ sz k49) hI62 (by omega) k62_4907 k62_4934 eB62 (by omega) k62_4941 hz62 (by omega) t62 rs62) (fun sc63 ar63 hx63 => ?_)
            obtain ⟨hI63, hG63, hu63, hr63, hy63, hd63⟩ := hx63
            have k63_4907 : sc63 4907 = nI l := (hG63.1 4907 (by decide)).trans k62_4907
            have hk63 : ∀ x, x < 700 * l + c → ar63 71 x = ar 71 x := fun x w => (hu63 x (by omega)).trans (hk62 x w)
            have hF63 := fr_t hF62 hG63 (by decide) (by decide)
            have t63 : ar63 67 = T := (hG63.2 67 (by decide)).trans t62
            have sg63_0 := seg_ag sg62_0 hu63 (by omega)
            have sd63_0 := sgr_ag sd62_0 hu63 (by omega)
            rcases hy63 with ⟨hb63, k63, ey63, rs63⟩ | ⟨hb63, k63, ey63, bp63⟩
            · rcases hr63 with hbb63 | ⟨-, hz63, c63, B63, ec63, eB63, hcc63, hBB63, hB63, hpo63, sg63⟩
              · exact absurd hb63 hbb63
              · have sd63 := hd63 hb63 c63 (by omega) ec63
                refine to_eq (fr' := (69, [(0, .ref 49), (1, .int (nI w)), (2, .int (nI n1)), (3, .int 4)], [], gh S a b sc63 ar63 lo, ex, 0, 0)) rfl ?_
                refine to_n 2 (fr' := (71, [(0, .ref 49), (1, .int (nI w)), (2, .int (nI n1)), (3, .int 4)], [.int 4, .ref 49], gh S a b sc63 ar63 lo, ex, 0, 0)) rfl ?_
                refine to_cv (q := 126) (M1 := an_X10_emit) (rest := []) rfl rfl (by decide) rfl ⟨_, rfl⟩ (em_ok hW hI63 4 l c63 (by omega) (by omega) hb63 k63_4907 ec63 (d + 4)) (fun sc64 ar64 hx64 => ?_)
                obtain ⟨hI64, hG64, hs64, ha64⟩ := hx64
                have k64_4907 : sc64 4907 = (nI l) := (hG64.1 4907 (by decide)).trans k63_4907
                have k64_4939 : sc64 4939 = (nI B63) := (hG64.1 4939 (by decide)).trans eB63
                have k64_4941 : sc64 4941 = 0 := (hG64.1 4941 (by decide)).trans hb63
                have k64_4934 : sc64 4934 = nI (c63 + 1) := by rw [hs64]; exact up_eq
                have hc64 : ar64 71 = upd (ar63 71) (700 * l + c63) 4 := by rw [ha64]; rfl
                have hv64 : ar64 71 (700 * l + c63) = 4 := by rw [hc64]; exact up_eq
                have hu64 : ∀ x, x < 700 * l + c63 → ar64 71 x = ar63 71 x := fun x w => by rw [hc64]; exact up_ne (by omega)
                have hk64 : ∀ x, x < 700 * l + c → ar64 71 x = ar 71 x := fun x w => (hu64 x (by omega)).trans (hk63 x w)
                have hz64 := pz_fr hz63 hG64 (by decide) (by decide) (by decide) (by decide) (by decide)
                have hF64 := fr_t hF63 hG64 (by decide) (by decide)
                have sg64_0 := seg_ag sg63_0 hu64 (by omega)
                have sg64_1 := seg_ag sg63 hu64 (by omega)
                have sd64_0 := sgr_ag sd63_0 hu64 (by omega)
                have sd64_1 := sgr_ag sd63 hu64 (by omega)
                have sb64 : seg (ar64 71) (700 * l + c) (700 * l + (c63 + 1)) (h + 1) := seg_bin (k := 700 * l + c63) sg64_0 sg64_1 hv64 (by decide) (by decide) (by decide) (by omega) (by omega) (by omega) (by omega)
                have sd64 : sgr (ar64 71) (700 * l + c) (700 * l + (c63 + 1)) _ := sgr_bin (k := 700 * l + c63) (c := tk k49) sd64_0 sd64_1 hv64 (by decide) (by decide) (by decide) (z7_4 (or_t hp52 q53 hn52))
                have t64 : ar64 67 = T := (hG64.2 67 (by decide)).trans t63
                have rs64 := rs_fr rs63 hG64 (by decide)
                refine to_eq (fr' := (74, [(0, .ref 49), (1, .int (nI w)), (2, .int (nI n1)), (3, .int 4)], [], gh S a b sc64 ar64 lo, ex, 0, 0)) rfl ?_
                refine to_n 1 (fr' := (75, [(0, .ref 49), (1, .int (nI w)), (2, .int (nI n1)), (3, .int 4)], [.int (nI n1)], gh S a b sc64 ar64 lo, ex, 0, 0)) rfl ?_
                refine to_nf_eq (t := 84) (x := n1) rfl (by omega) (fun q65 => ?_) (fun q65 => ?_)
                · exact to_rt (i := .return_) (tg := []) rfl rfl ⟨_, _, ⟨hI64, hF64, ⟨hk64, Or.inr ⟨k64_4941, hz64, (c63 + 1), B63, k64_4934, k64_4939, by omega, by omega, by omega, by omega, seg_le sb64 (by omega)⟩, Or.inl ⟨k64_4941, k63, (by simp only [pTs, if_pos (or_t hp1 q2 hn1), pT2, ey49, if_pos (Or.inl (or_t hp50 q51 hn50) : tk k49 = -10 ∨ tk k49 = -11), ey63]), rs64⟩, fun _ cq hq9 eq9 => (show (c63 + 1) = cq from (nI_eq (by omega) (by omega)).mp ((k64_4934).symm.trans eq9)) ▸ sgr_v sd64 (absurd q65 q2)⟩⟩, rfl⟩
                · refine to_n 2 (fr' := (81, [(0, .ref 49), (1, .int (nI w)), (2, .int (nI n1)), (3, .int 4)], [.int 8, .ref 49], gh S a b sc64 ar64 lo, ex, 0, 0)) rfl ?_
                  refine to_cv (q := 126) (M1 := an_X10_emit) (rest := []) rfl rfl (by decide) rfl ⟨_, rfl⟩ (em_ok hW hI64 8 l (c63 + 1) (by omega) (by omega) k64_4941 k64_4907 k64_4934 (d + 4)) (fun sc66 ar66 hx66 => ?_)
                  obtain ⟨hI66, hG66, hs66, ha66⟩ := hx66
                  have k66_4907 : sc66 4907 = (nI l) := (hG66.1 4907 (by decide)).trans k64_4907
                  have k66_4939 : sc66 4939 = (nI B63) := (hG66.1 4939 (by decide)).trans k64_4939
                  have k66_4941 : sc66 4941 = 0 := (hG66.1 4941 (by decide)).trans k64_4941
                  have k66_4934 : sc66 4934 = nI ((c63 + 1) + 1) := by rw [hs66]; exact up_eq
                  have hc66 : ar66 71 = upd (ar64 71) (700 * l + (c63 + 1)) 8 := by rw [ha66]; rfl
                  have hv66 : ar66 71 (700 * l + (c63 + 1)) = 8 := by rw [hc66]; exact up_eq
                  have hu66 : ∀ x, x < 700 * l + (c63 + 1) → ar66 71 x = ar64 71 x := fun x w => by rw [hc66]; exact up_ne (by omega)
                  have hk66 : ∀ x, x < 700 * l + c → ar66 71 x = ar 71 x := fun x w => (hu66 x (by omega)).trans (hk64 x w)
                  have hz66 := pz_fr hz64 hG66 (by decide) (by decide) (by decide) (by decide) (by decide)
                  have hF66 := fr_t hF64 hG66 (by decide) (by decide)
                  have sg66_0 := seg_ag sb64 hu66 (by omega)
                  have sd66_0 := sgr_ag sd64 hu66 (by omega)
                  have sn66 : seg (ar66 71) (700 * l + c) (700 * l + ((c63 + 1) + 1)) (h + 1) := seg_not (j := 700 * l + (c63 + 1)) sg66_0 hv66 (by omega)
                  have sd66 : sgr (ar66 71) (700 * l + c) (700 * l + ((c63 + 1) + 1)) _ := sgr_not (j := 700 * l + (c63 + 1)) sd66_0 hv66
                  have t66 : ar66 67 = T := (hG66.2 67 (by decide)).trans t64
                  have rs66 := rs_fr rs64 hG66 (by decide)
                  refine to_eq (fr' := (84, [(0, .ref 49), (1, .int (nI w)), (2, .int (nI n1)), (3, .int 4)], [], gh S a b sc66 ar66 lo, ex, 0, 0)) rfl ?_
                  exact to_rt (i := .return_) (tg := []) rfl rfl ⟨_, _, ⟨hI66, hF66, ⟨hk66, Or.inr ⟨k66_4941, hz66, ((c63 + 1) + 1), B63, k66_4934, k66_4939, by omega, by omega, by omega, by omega, seg_le sn66 (by omega)⟩, Or.inl ⟨k66_4941, k63, (by simp only [pTs, if_pos (or_t hp1 q2 hn1), pT2, ey49, if_pos (Or.inl (or_t hp50 q51 hn50) : tk k49 = -10 ∨ tk k49 = -11), ey63]), rs66⟩, fun _ cq hq9 eq9 => (show ((c63 + 1) + 1) = cq from (nI_eq (by omega) (by omega)).mp ((k66_4934).symm.trans eq9)) ▸ sgr_v sd66 (by simp only [vTs, if_pos (or_t hp1 q2 hn1), vT2, ey49, if_pos (Or.inl (or_t hp50 q51 hn50) : tk k49 = -10 ∨ tk k49 = -11)])⟩⟩, rfl⟩
            · refine to_eq (fr' := (69, [(0, .ref 49), (1, .int (nI w)), (2, .int (nI n1)), (3, .int 4)], [], gh S a b sc63 ar63 lo, ex, 0, 0)) rfl ?_
              refine to_n 2 (fr' := (71, [(0, .ref 49), (1, .int (nI w)), (2, .int (nI n1)), (3, .int 4)], [.int 4, .ref 49], gh S a b sc63 ar63 lo, ex, 0, 0)) rfl ?_
              refine to_cu (q := 126) (M1 := an_X10_emit) (rest := []) rfl rfl (by decide) rfl ⟨_, rfl⟩ (em_bad 4 hb63 (d + 4)) ?_ 
              refine to_eq (fr' := (74, [(0, .ref 49), (1, .int (nI w)), (2, .int (nI n1)), (3, .int 4)], [], gh S a b sc63 ar63 lo, ex, 0, 0)) rfl ?_
              refine to_n 1 (fr' := (75, [(0, .ref 49), (1, .int (nI w)), (2, .int (nI n1)), (3, .int 4)], [.int (nI n1)], gh S a b sc63 ar63 lo, ex, 0, 0)) rfl ?_
              refine to_nf_eq (t := 84) (x := n1) rfl (by omega) (fun q68 => ?_) (fun q68 => ?_)
              · exact to_rt (i := .return_) (tg := []) rfl rfl ⟨_, _, ⟨hI63, hF63, ⟨hk63, Or.inl hb63, Or.inr ⟨hb63, k63, (by simp only [pTs, if_pos (or_t hp1 q2 hn1), pT2, ey49, if_pos (Or.inl (or_t hp50 q51 hn50) : tk k49 = -10 ∨ tk k49 = -11), ey63]), bp63⟩, fun w => absurd w hb63⟩⟩, rfl⟩
              · refine to_n 2 (fr' := (81, [(0, .ref 49), (1, .int (nI w)), (2, .int (nI n1)), (3, .int 4)], [.int 8, .ref 49], gh S a b sc63 ar63 lo, ex, 0, 0)) rfl ?_
                refine to_cu (q := 126) (M1 := an_X10_emit) (rest := []) rfl rfl (by decide) rfl ⟨_, rfl⟩ (em_bad 8 hb63 (d + 4)) ?_ 
                refine to_eq (fr' := (84, [(0, .ref 49), (1, .int (nI w)), (2, .int (nI n1)), (3, .int 4)], [], gh S a b sc63 ar63 lo, ex, 0, 0)) rfl ?_
                exact to_rt (i := .return_) (tg := []) rfl rfl ⟨_, _, ⟨hI63, hF63, ⟨hk63, Or.inl hb63, Or.inr ⟨hb63, k63, (by simp only [pTs, if_pos (or_t hp1 q2 hn1), pT2, ey49, if_pos (Or.inl (or_t hp50 q51 hn50) : tk k49 = -10 ∨ tk k49 = -11), ey63]), bp63⟩, fun w => absurd w hb63⟩⟩, rfl⟩
        · refine to_n 2 (fr' := (39, [(0, .ref 49), (1, .int (nI w)), (2, .int (nI n1))], [.int 61, .ref 49], gh S a b sc49 ar49 lo, ex, 0, 0)) rfl ?_
          refine to_cp (q := 124) (M1 := an_X10_isSign) (rest := []) rfl rfl (by decide) rfl ⟨_, rfl⟩ (is_X10_isSign hW hI49 61 (d + 4)) (fun x70 hx70 => ?_)
          obtain ⟨⟨n70, hn70, rfl⟩, hp70⟩ := hx70
          rw [ob_s (x := (61, -11)) hsm rs49 (by decide)] at hp70
          refine to_eq (fr' := (42, [(0, .ref 49), (1, .int (nI w)), (2, .int (nI n1))], [.int (nI n70)], gh S a b sc49 ar49 lo, ex, 0, 0)) rfl ?_
          refine to_nf_eq (t := 74) (x := n70) rfl (by omega) (fun q71 => ?_) (fun q71 => ?_)
          · refine to_n 1 (fr' := (75, [(0, .ref 49), (1, .int (nI w)), (2, .int (nI n1))], [.int (nI n1)], gh S a b sc49 ar49 lo, ex, 0, 0)) rfl ?_
            refine to_nf_eq (t := 84) (x := n1) rfl (by omega) (fun q72 => ?_) (fun q72 => ?_)
            · exact to_rt (i := .return_) (tg := []) rfl rfl ⟨_, _, ⟨hI49, hF49, ⟨hk49, Or.inr ⟨hb49, hz49, c49, B49, ec49, eB49, by omega, by omega, by omega, by omega, seg_le sg49 (by omega)⟩, Or.inl ⟨hb49, k49, (by simp only [pTs, if_pos (or_t hp1 q2 hn1), pT2, ey49, if_neg (fun w => w.elim (or_f hp50 q51) (or_f hp70 q71) : ¬ (tk k49 = -10 ∨ tk k49 = -11))]), rs49⟩, fun _ cq hq9 eq9 => (show c49 = cq from (nI_eq (by omega) (by omega)).mp ((ec49).symm.trans eq9)) ▸ sgr_v sd49 (absurd q72 q2)⟩⟩, rfl⟩
            · refine to_n 2 (fr' := (81, [(0, .ref 49), (1, .int (nI w)), (2, .int (nI n1))], [.int 8, .ref 49], gh S a b sc49 ar49 lo, ex, 0, 0)) rfl ?_
              refine to_cv (q := 126) (M1 := an_X10_emit) (rest := []) rfl rfl (by decide) rfl ⟨_, rfl⟩ (em_ok hW hI49 8 l c49 (by omega) (by omega) hb49 k49_4907 ec49 (d + 4)) (fun sc73 ar73 hx73 => ?_)
              obtain ⟨hI73, hG73, hs73, ha73⟩ := hx73
              have k73_4907 : sc73 4907 = (nI l) := (hG73.1 4907 (by decide)).trans k49_4907
              have k73_4939 : sc73 4939 = (nI B49) := (hG73.1 4939 (by decide)).trans eB49
              have k73_4941 : sc73 4941 = 0 := (hG73.1 4941 (by decide)).trans hb49
              have k73_4934 : sc73 4934 = nI (c49 + 1) := by rw [hs73]; exact up_eq
              have hc73 : ar73 71 = upd (ar49 71) (700 * l + c49) 8 := by rw [ha73]; rfl
              have hv73 : ar73 71 (700 * l + c49) = 8 := by rw [hc73]; exact up_eq
              have hu73 : ∀ x, x < 700 * l + c49 → ar73 71 x = ar49 71 x := fun x w => by rw [hc73]; exact up_ne (by omega)
              have hk73 : ∀ x, x < 700 * l + c → ar73 71 x = ar 71 x := fun x w => (hu73 x (by omega)).trans (hk49 x w)
              have hz73 := pz_fr hz49 hG73 (by decide) (by decide) (by decide) (by decide) (by decide)
              have hF73 := fr_t hF49 hG73 (by decide) (by decide)
              have sg73_0 := seg_ag sg49 hu73 (by omega)
              have sd73_0 := sgr_ag sd49 hu73 (by omega)
              have sn73 : seg (ar73 71) (700 * l + c) (700 * l + (c49 + 1)) h := seg_not (j := 700 * l + c49) sg73_0 hv73 (by omega)
              have sd73 : sgr (ar73 71) (700 * l + c) (700 * l + (c49 + 1)) _ := sgr_not (j := 700 * l + c49) sd73_0 hv73
              have t73 : ar73 67 = T := (hG73.2 67 (by decide)).trans t49
              have rs73 := rs_fr rs49 hG73 (by decide)
              refine to_eq (fr' := (84, [(0, .ref 49), (1, .int (nI w)), (2, .int (nI n1))], [], gh S a b sc73 ar73 lo, ex, 0, 0)) rfl ?_
              exact to_rt (i := .return_) (tg := []) rfl rfl ⟨_, _, ⟨hI73, hF73, ⟨hk73, Or.inr ⟨k73_4941, hz73, (c49 + 1), B49, k73_4934, k73_4939, by omega, by omega, by omega, by omega, seg_le sn73 (by omega)⟩, Or.inl ⟨k73_4941, k49, (by simp only [pTs, if_pos (or_t hp1 q2 hn1), pT2, ey49, if_neg (fun w => w.elim (or_f hp50 q51) (or_f hp70 q71) : ¬ (tk k49 = -10 ∨ tk k49 = -11))]), rs73⟩, fun _ cq hq9 eq9 => (show (c49 + 1) = cq from (nI_eq (by omega) (by omega)).mp ((k73_4934).symm.trans eq9)) ▸ sgr_v sd73 (by simp only [vTs, if_pos (or_t hp1 q2 hn1), vT2, ey49, if_neg (fun w => w.elim (or_f hp50 q51) (or_f hp70 q71) : ¬ (tk k49 = -10 ∨ tk k49 = -11))])⟩⟩, rfl⟩
          · refine to_n 2 (fr' := (48, [(0, .ref 49), (1, .int (nI w)), (2, .int (nI n1))], [.int 60, .ref 49], gh S a b sc49 ar49 lo, ex, 0, 0)) rfl ?_
            refine to_cp (q := 124) (M1 := an_X10_isSign) (rest := []) rfl rfl (by decide) rfl ⟨_, rfl⟩ (is_X10_isSign hW hI49 60 (d + 4)) (fun x74 hx74 => ?_)
            obtain ⟨⟨n74, hn74, rfl⟩, hp74⟩ := hx74
            rw [ob_s (x := (60, -10)) hsm rs49 (by decide)] at hp74
            refine to_eq (fr' := (51, [(0, .ref 49), (1, .int (nI w)), (2, .int (nI n1))], [.int (nI n74)], gh S a b sc49 ar49 lo, ex, 0, 0)) rfl ?_
            refine to_nf_eq (t := 58) (x := n74) rfl (by omega) (fun q75 => ?_) (fun q75 => ?_)
            · refine to_n 3 (fr' := (61, [(0, .ref 49), (1, .int (nI w)), (2, .int (nI n1)), (3, .int 5)], [.ref 49], gh S a b sc49 ar49 lo, ex, 0, 0)) rfl ?_
              refine to_cv (q := 122) (M1 := an_X10_step) (rest := []) rfl rfl (by decide) rfl ⟨_, rfl⟩ (st_nextx hW hI49 eB49 (by omega) hz49 (ob_no hsm rs49 (or_t hp70 q71 hn70) (by decide)) hsm hlen4 hne t49 rs49 (d + 3)) (fun sc76 ar76 hx76 => ?_)
              obtain ⟨hI76, hG76, hz76, ⟨B76, eB76, hB76, hC76⟩, rs76⟩ := hx76
              have t76 : ar76 67 = T := (hG76.2 67 (by decide)).trans t49
              have k76_4907 : sc76 4907 = (nI l) := (hG76.1 4907 (by decide)).trans k49_4907
              have k76_4934 : sc76 4934 = (nI c49) := (hG76.1 4934 (by decide)).trans ec49
              have k76_4941 : sc76 4941 = 0 := (hG76.1 4941 (by decide)).trans hb49
              have hk76 : ∀ x, x < 700 * l + c → ar76 71 x = ar 71 x := kp_st hk49 hG76 (by decide)
              have sg76_0 := sg_st sg49 hG76 (by decide)
              have sd76_0 := sgr_st sd49 hG76 (by decide)
              have hF76 := fr_t hF49 hG76 (by decide) (by decide)
              refine to_eq (fr' := (64, [(0, .ref 49), (1, .int (nI w)), (2, .int (nI n1)), (3, .int 5)], [], gh S a b sc76 ar76 lo, ex, 0, 0)) rfl ?_
              refine to_n 2 (fr' := (66, [(0, .ref 49), (1, .int (nI w)), (2, .int (nI n1)), (3, .int 5)], [.int (nI w), .ref 49], gh S a b sc76 ar76 lo, ex, 0, 0)) rfl ?_
              refine to_cv (q := 130) (M1 := an_X10_readSum) (rest := []) rfl rfl (by decide) rfl ⟨_, rfl⟩ (hE sc76 ar76 l c49 ((e + 2) + 2) B76 (ad_ sz k49) hI76 (by omega) k76_4907 k76_4934 eB76 (by omega) k76_4941 hz76 (by omega) t76 rs76) (fun sc77 ar77 hx77 => ?_)
              obtain ⟨hI77, hG77, hu77, hr77, hy77, hd77⟩ := hx77
              have k77_4907 : sc77 4907 = nI l := (hG77.1 4907 (by decide)).trans k76_4907
              have hk77 : ∀ x, x < 700 * l + c → ar77 71 x = ar 71 x := fun x w => (hu77 x (by omega)).trans (hk76 x w)
              have hF77 := fr_t hF76 hG77 (by decide) (by decide)
              have t77 : ar77 67 = T := (hG77.2 67 (by decide)).trans t76
              have sg77_0 := seg_ag sg76_0 hu77 (by omega)
              have sd77_0 := sgr_ag sd76_0 hu77 (by omega)
              rcases hy77 with ⟨hb77, k77, ey77, rs77⟩ | ⟨hb77, k77, ey77, bp77⟩
              · rcases hr77 with hbb77 | ⟨-, hz77, c77, B77, ec77, eB77, hcc77, hBB77, hB77, hpo77, sg77⟩
                · exact absurd hb77 hbb77
                · have sd77 := hd77 hb77 c77 (by omega) ec77
                  refine to_eq (fr' := (69, [(0, .ref 49), (1, .int (nI w)), (2, .int (nI n1)), (3, .int 5)], [], gh S a b sc77 ar77 lo, ex, 0, 0)) rfl ?_
                  refine to_n 2 (fr' := (71, [(0, .ref 49), (1, .int (nI w)), (2, .int (nI n1)), (3, .int 5)], [.int 5, .ref 49], gh S a b sc77 ar77 lo, ex, 0, 0)) rfl ?_
                  refine to_cv (q := 126) (M1 := an_X10_emit) (rest := []) rfl rfl (by decide) rfl ⟨_, rfl⟩ (em_ok hW hI77 5 l c77 (by omega) (by omega) hb77 k77_4907 ec77 (d + 4)) (fun sc78 ar78 hx78 => ?_)
                  obtain ⟨hI78, hG78, hs78, ha78⟩ := hx78
                  have k78_4907 : sc78 4907 = (nI l) := (hG78.1 4907 (by decide)).trans k77_4907
                  have k78_4939 : sc78 4939 = (nI B77) := (hG78.1 4939 (by decide)).trans eB77
                  have k78_4941 : sc78 4941 = 0 := (hG78.1 4941 (by decide)).trans hb77
                  have k78_4934 : sc78 4934 = nI (c77 + 1) := by rw [hs78]; exact up_eq
                  have hc78 : ar78 71 = upd (ar77 71) (700 * l + c77) 5 := by rw [ha78]; rfl
                  have hv78 : ar78 71 (700 * l + c77) = 5 := by rw [hc78]; exact up_eq
                  have hu78 : ∀ x, x < 700 * l + c77 → ar78 71 x = ar77 71 x := fun x w => by rw [hc78]; exact up_ne (by omega)
                  have hk78 : ∀ x, x < 700 * l + c → ar78 71 x = ar 71 x := fun x w => (hu78 x (by omega)).trans (hk77 x w)
                  have hz78 := pz_fr hz77 hG78 (by decide) (by decide) (by decide) (by decide) (by decide)
                  have hF78 := fr_t hF77 hG78 (by decide) (by decide)
                  have sg78_0 := seg_ag sg77_0 hu78 (by omega)
                  have sg78_1 := seg_ag sg77 hu78 (by omega)
                  have sd78_0 := sgr_ag sd77_0 hu78 (by omega)
                  have sd78_1 := sgr_ag sd77 hu78 (by omega)
                  have sb78 : seg (ar78 71) (700 * l + c) (700 * l + (c77 + 1)) (h + 1) := seg_bin (k := 700 * l + c77) sg78_0 sg78_1 hv78 (by decide) (by decide) (by decide) (by omega) (by omega) (by omega) (by omega)
                  have sd78 : sgr (ar78 71) (700 * l + c) (700 * l + (c77 + 1)) _ := sgr_bin (k := 700 * l + c77) (c := tk k49) sd78_0 sd78_1 hv78 (by decide) (by decide) (by decide) (z7_5 (Or.inr (or_t hp70 q71 hn70)) (or_f hp74 q75))
                  have t78 : ar78 67 = T := (hG78.2 67 (by decide)).trans t77
                  have rs78 := rs_fr rs77 hG78 (by decide)
                  refine to_eq (fr' := (74, [(0, .ref 49), (1, .int (nI w)), (2, .int (nI n1)), (3, .int 5)], [], gh S a b sc78 ar78 lo, ex, 0, 0)) rfl ?_
                  refine to_n 1 (fr' := (75, [(0, .ref 49), (1, .int (nI w)), (2, .int (nI n1)), (3, .int 5)], [.int (nI n1)], gh S a b sc78 ar78 lo, ex, 0, 0)) rfl ?_
                  refine to_nf_eq (t := 84) (x := n1) rfl (by omega) (fun q79 => ?_) (fun q79 => ?_)
                  · exact to_rt (i := .return_) (tg := []) rfl rfl ⟨_, _, ⟨hI78, hF78, ⟨hk78, Or.inr ⟨k78_4941, hz78, (c77 + 1), B77, k78_4934, k78_4939, by omega, by omega, by omega, by omega, seg_le sb78 (by omega)⟩, Or.inl ⟨k78_4941, k77, (by simp only [pTs, if_pos (or_t hp1 q2 hn1), pT2, ey49, if_pos (Or.inr (or_t hp70 q71 hn70) : tk k49 = -10 ∨ tk k49 = -11), ey77]), rs78⟩, fun _ cq hq9 eq9 => (show (c77 + 1) = cq from (nI_eq (by omega) (by omega)).mp ((k78_4934).symm.trans eq9)) ▸ sgr_v sd78 (absurd q79 q2)⟩⟩, rfl⟩
                  · refine to_n 2 (fr' := (81, [(0, .ref 49), (1, .int (nI w)), (2, .int (nI n1)), (3, .int 5)], [.int 8, .ref 49], gh S a b sc78 ar78 lo, ex, 0, 0)) rfl ?_
                    refine to_cv (q := 126) (M1 := an_X10_emit) (rest := []) rfl rfl (by decide) rfl ⟨_, rfl⟩ (em_ok hW hI78 8 l (c77 + 1) (by omega) (by omega) k78_4941 k78_4907 k78_4934 (d + 4)) (fun sc80 ar80 hx80 => ?_)
                    obtain ⟨hI80, hG80, hs80, ha80⟩ := hx80
                    have k80_4907 : sc80 4907 = (nI l) := (hG80.1 4907 (by decide)).trans k78_4907
                    have k80_4939 : sc80 4939 = (nI B77) := (hG80.1 4939 (by decide)).trans k78_4939
                    have k80_4941 : sc80 4941 = 0 := (hG80.1 4941 (by decide)).trans k78_4941
                    have k80_4934 : sc80 4934 = nI ((c77 + 1) + 1) := by rw [hs80]; exact up_eq
                    have hc80 : ar80 71 = upd (ar78 71) (700 * l + (c77 + 1)) 8 := by rw [ha80]; rfl
                    have hv80 : ar80 71 (700 * l + (c77 + 1)) = 8 := by rw [hc80]; exact up_eq
                    have hu80 : ∀ x, x < 700 * l + (c77 + 1) → ar80 71 x = ar78 71 x := fun x w => by rw [hc80]; exact up_ne (by omega)
                    have hk80 : ∀ x, x < 700 * l + c → ar80 71 x = ar 71 x := fun x w => (hu80 x (by omega)).trans (hk78 x w)
                    have hz80 := pz_fr hz78 hG80 (by decide) (by decide) (by decide) (by decide) (by decide)
                    have hF80 := fr_t hF78 hG80 (by decide) (by decide)
                    have sg80_0 := seg_ag sb78 hu80 (by omega)
                    have sd80_0 := sgr_ag sd78 hu80 (by omega)
                    have sn80 : seg (ar80 71) (700 * l + c) (700 * l + ((c77 + 1) + 1)) (h + 1) := seg_not (j := 700 * l + (c77 + 1)) sg80_0 hv80 (by omega)
                    have sd80 : sgr (ar80 71) (700 * l + c) (700 * l + ((c77 + 1) + 1)) _ := sgr_not (j := 700 * l + (c77 + 1)) sd80_0 hv80
                    have t80 : ar80 67 = T := (hG80.2 67 (by decide)).trans t78
                    have rs80 := rs_fr rs78 hG80 (by decide)
                    refine to_eq (fr' := (84, [(0, .ref 49), (1, .int (nI w)), (2, .int (nI n1)), (3, .int 5)], [], gh S a b sc80 ar80 lo, ex, 0, 0)) rfl ?_
                    exact to_rt (i := .return_) (tg := []) rfl rfl ⟨_, _, ⟨hI80, hF80, ⟨hk80, Or.inr ⟨k80_4941, hz80, ((c77 + 1) + 1), B77, k80_4934, k80_4939, by omega, by omega, by omega, by omega, seg_le sn80 (by omega)⟩, Or.inl ⟨k80_4941, k77, (by simp only [pTs, if_pos (or_t hp1 q2 hn1), pT2, ey49, if_pos (Or.inr (or_t hp70 q71 hn70) : tk k49 = -10 ∨ tk k49 = -11), ey77]), rs80⟩, fun _ cq hq9 eq9 => (show ((c77 + 1) + 1) = cq from (nI_eq (by omega) (by omega)).mp ((k80_4934).symm.trans eq9)) ▸ sgr_v sd80 (by simp only [vTs, if_pos (or_t hp1 q2 hn1), vT2, ey49, if_pos (Or.inr (or_t hp70 q71 hn70) : tk k49 = -10 ∨ tk k49 = -11)])⟩⟩, rfl⟩
              · refine to_eq (fr' := (69, [(0, .ref 49), (1, .int (nI w)), (2, .int (nI n1)), (3, .int 5)], [], gh S a b sc77 ar77 lo, ex, 0, 0)) rfl ?_
                refine to_n 2 (fr' := (71, [(0, .ref 49), (1, .int (nI w)), (2, .int (nI n1)), (3, .int 5)], [.int 5, .ref 49], gh S a b sc77 ar77 lo, ex, 0, 0)) rfl ?_
                refine to_cu (q := 126) (M1 := an_X10_emit) (rest := []) rfl rfl (by decide) rfl ⟨_, rfl⟩ (em_bad 5 hb77 (d + 4)) ?_ 
                refine to_eq (fr' := (74, [(0, .ref 49), (1, .int (nI w)), (2, .int (nI n1)), (3, .int 5)], [], gh S a b sc77 ar77 lo, ex, 0, 0)) rfl ?_
                refine to_n 1 (fr' := (75, [(0, .ref 49), (1, .int (nI w)), (2, .int (nI n1)), (3, .int 5)], [.int (nI n1)], gh S a b sc77 ar77 lo, ex, 0, 0)) rfl ?_
                refine to_nf_eq (t := 84) (x := n1) rfl (by omega) (fun q82 => ?_) (fun q82 => ?_)
                · exact to_rt (i := .return_) (tg := []) rfl rfl ⟨_, _, ⟨hI77, hF77, ⟨hk77, Or.inl hb77, Or.inr ⟨hb77, k77, (by simp only [pTs, if_pos (or_t hp1 q2 hn1), pT2, ey49, if_pos (Or.inr (or_t hp70 q71 hn70) : tk k49 = -10 ∨ tk k49 = -11), ey77]), bp77⟩, fun w => absurd w hb77⟩⟩, rfl⟩
                · refine to_n 2 (fr' := (81, [(0, .ref 49), (1, .int (nI w)), (2, .int (nI n1)), (3, .int 5)], [.int 8, .ref 49], gh S a b sc77 ar77 lo, ex, 0, 0)) rfl ?_
                  refine to_cu (q := 126) (M1 := an_X10_emit) (rest := []) rfl rfl (by decide) rfl ⟨_, rfl⟩ (em_bad 8 hb77 (d + 4)) ?_ 
                  refine to_eq (fr' := (84, [(0, .ref 49), (1, .int (nI w)), (2, .int (nI n1)), (3, .int 5)], [], gh S a b sc77 ar77 lo, ex, 0, 0)) rfl ?_
                  exact to_rt (i := .return_) (tg := []) rfl rfl ⟨_, _, ⟨hI77, hF77, ⟨hk77, Or.inl hb77, Or.inr ⟨hb77, k77, (by simp only [pTs, if_pos (or_t hp1 q2 hn1), pT2, ey49, if_pos (Or.inr (or_t hp70 q71 hn70) : tk k49 = -10 ∨ tk k49 = -11), ey77]), bp77⟩, fun w => absurd w hb77⟩⟩, rfl⟩
            · refine to_n 4 (fr' := (61, [(0, .ref 49), (1, .int (nI w)), (2, .int (nI n1)), (3, .int 4)], [.ref 49], gh S a b sc49 ar49 lo, ex, 0, 0)) rfl ?_
              refine to_cv (q := 122) (M1 := an_X10_step) (rest := []) rfl rfl (by decide) rfl ⟨_, rfl⟩ (st_nextx hW hI49 eB49 (by omega) hz49 (ob_no hsm rs49 (or_t hp74 q75 hn74) (by decide)) hsm hlen4 hne t49 rs49 (d + 3)) (fun sc84 ar84 hx84 => ?_)
              obtain ⟨hI84, hG84, hz84, ⟨B84, eB84, hB84, hC84⟩, rs84⟩ := hx84
              have t84 : ar84 67 = T := (hG84.2 67 (by decide)).trans t49
              have k84_4907 : sc84 4907 = (nI l) := (hG84.1 4907 (by decide)).trans k49_4907
              have k84_4934 : sc84 4934 = (nI c49) := (hG84.1 4934 (by decide)).trans ec49
              have k84_4941 : sc84 4941 = 0 := (hG84.1 4941 (by decide)).trans hb49
              have hk84 : ∀ x, x < 700 * l + c → ar84 71 x = ar 71 x := kp_st hk49 hG84 (by decide)
              have sg84_0 := sg_st sg49 hG84 (by decide)
              have sd84_0 := sgr_st sd49 hG84 (by decide)
              have hF84 := fr_t hF49 hG84 (by decide) (by decide)
              refine to_eq (fr' := (64, [(0, .ref 49), (1, .int (nI w)), (2, .int (nI n1)), (3, .int 4)], [], gh S a b sc84 ar84 lo, ex, 0, 0)) rfl ?_
              refine to_n 2 (fr' := (66, [(0, .ref 49), (1, .int (nI w)), (2, .int (nI n1)), (3, .int 4)], [.int (nI w), .ref 49], gh S a b sc84 ar84 lo, ex, 0, 0)) rfl ?_
              refine to_cv (q := 130) (M1 := an_X10_readSum) (rest := []) rfl rfl (by decide) rfl ⟨_, rfl⟩ (hE sc84 ar84 l c49 ((e + 2) + 2) B84 (ad_ sz k49) hI84 (by omega) k84_4907 k84_4934 eB84 (by omega) k84_4941 hz84 (by omega) t84 rs84) (fun sc85 ar85 hx85 => ?_)
              obtain ⟨hI85, hG85, hu85, hr85, hy85, hd85⟩ := hx85
              have k85_4907 : sc85 4907 = nI l := (hG85.1 4907 (by decide)).trans k84_4907
              have hk85 : ∀ x, x < 700 * l + c → ar85 71 x = ar 71 x := fun x w => (hu85 x (by omega)).trans (hk84 x w)
              have hF85 := fr_t hF84 hG85 (by decide) (by decide)
              have t85 : ar85 67 = T := (hG85.2 67 (by decide)).trans t84
              have sg85_0 := seg_ag sg84_0 hu85 (by omega)
              have sd85_0 := sgr_ag sd84_0 hu85 (by omega)
              rcases hy85 with ⟨hb85, k85, ey85, rs85⟩ | ⟨hb85, k85, ey85, bp85⟩
              · rcases hr85 with hbb85 | ⟨-, hz85, c85, B85, ec85, eB85, hcc85, hBB85, hB85, hpo85, sg85⟩
                · exact absurd hb85 hbb85
                · have sd85 := hd85 hb85 c85 (by omega) ec85
                  refine to_eq (fr' := (69, [(0, .ref 49), (1, .int (nI w)), (2, .int (nI n1)), (3, .int 4)], [], gh S a b sc85 ar85 lo, ex, 0, 0)) rfl ?_
                  refine to_n 2 (fr' := (71, [(0, .ref 49), (1, .int (nI w)), (2, .int (nI n1)), (3, .int 4)], [.int 4, .ref 49], gh S a b sc85 ar85 lo, ex, 0, 0)) rfl ?_
                  refine to_cv (q := 126) (M1 := an_X10_emit) (rest := []) rfl rfl (by decide) rfl ⟨_, rfl⟩ (em_ok hW hI85 4 l c85 (by omega) (by omega) hb85 k85_4907 ec85 (d + 4)) (fun sc86 ar86 hx86 => ?_)
                  obtain ⟨hI86, hG86, hs86, ha86⟩ := hx86
                  have k86_4907 : sc86 4907 = (nI l) := (hG86.1 4907 (by decide)).trans k85_4907
                  have k86_4939 : sc86 4939 = (nI B85) := (hG86.1 4939 (by decide)).trans eB85
                  have k86_4941 : sc86 4941 = 0 := (hG86.1 4941 (by decide)).trans hb85
                  have k86_4934 : sc86 4934 = nI (c85 + 1) := by rw [hs86]; exact up_eq
                  have hc86 : ar86 71 = upd (ar85 71) (700 * l + c85) 4 := by rw [ha86]; rfl
                  have hv86 : ar86 71 (700 * l + c85) = 4 := by rw [hc86]; exact up_eq
                  have hu86 : ∀ x, x < 700 * l + c85 → ar86 71 x = ar85 71 x := fun x w => by rw [hc86]; exact up_ne (by omega)
                  have hk86 : ∀ x, x < 700 * l + c → ar86 71 x = ar 71 x := fun x w => (hu86 x (by omega)).trans (hk85 x w)
                  have hz86 := pz_fr hz85 hG86 (by decide) (by decide) (by decide) (by decide) (by decide)
                  have hF86 := fr_t hF85 hG86 (by decide) (by decide)
                  have sg86_0 := seg_ag sg85_0 hu86 (by omega)
                  have sg86_1 := seg_ag sg85 hu86 (by omega)
                  have sd86_0 := sgr_ag sd85_0 hu86 (by omega)
                  have sd86_1 := sgr_ag sd85 hu86 (by omega)
                  have sb86 : seg (ar86 71) (700 * l + c) (700 * l + (c85 + 1)) (h + 1) := seg_bin (k := 700 * l + c85) sg86_0 sg86_1 hv86 (by decide) (by decide) (by decide) (by omega) (by omega) (by omega) (by omega)
                  have sd86 : sgr (ar86 71) (700 * l + c) (700 * l + (c85 + 1)) _ := sgr_bin (k := 700 * l + c85) (c := tk k49) sd86_0 sd86_1 hv86 (by decide) (by decide) (by decide) (z7_4 (or_t hp74 q75 hn74))
                  have t86 : ar86 67 = T := (hG86.2 67 (by decide)).trans t85
                  have rs86 := rs_fr rs85 hG86 (by decide)
                  refine to_eq (fr' := (74, [(0, .ref 49), (1, .int (nI w)), (2, .int (nI n1)), (3, .int 4)], [], gh S a b sc86 ar86 lo, ex, 0, 0)) rfl ?_
                  refine to_n 1 (fr' := (75, [(0, .ref 49), (1, .int (nI w)), (2, .int (nI n1)), (3, .int 4)], [.int (nI n1)], gh S a b sc86 ar86 lo, ex, 0, 0)) rfl ?_
                  refine to_nf_eq (t := 84) (x := n1) rfl (by omega) (fun q87 => ?_) (fun q87 => ?_)
                  · exact to_rt (i := .return_) (tg := []) rfl rfl ⟨_, _, ⟨hI86, hF86, ⟨hk86, Or.inr ⟨k86_4941, hz86, (c85 + 1), B85, k86_4934, k86_4939, by omega, by omega, by omega, by omega, seg_le sb86 (by omega)⟩, Or.inl ⟨k86_4941, k85, (by simp only [pTs, if_pos (or_t hp1 q2 hn1), pT2, ey49, if_pos (Or.inr (or_t hp70 q71 hn70) : tk k49 = -10 ∨ tk k49 = -11), ey85]), rs86⟩, fun _ cq hq9 eq9 => (show (c85 + 1) = cq from (nI_eq (by omega) (by omega)).mp ((k86_4934).symm.trans eq9)) ▸ sgr_v sd86 (absurd q87 q2)⟩⟩, rfl⟩
                  · refine to_n 2 (fr' := (81, [(0, .ref 49), (1, .int (nI w)), (2, .int (nI n1)), (3, .int 4)], [.int 8, .ref 49], gh S a b sc86 ar86 lo, ex, 0, 0)) rfl ?_
                    refine to_cv (q := 126) (M1 := an_X10_emit) (rest := []) rfl rfl (by decide) rfl ⟨_, rfl⟩ (em_ok hW hI86 8 l (c85 + 1) (by omega) (by omega) k86_4941 k86_4907 k86_4934 (d + 4)) (fun sc88 ar88 hx88 => ?_)
                    obtain ⟨hI88, hG88, hs88, ha88⟩ := hx88
                    have k88_4907 : sc88 4907 = (nI l) := (hG88.1 4907 (by decide)).trans k86_4907
                    have k88_4939 : sc88 4939 = (nI B85) := (hG88.1 4939 (by decide)).trans k86_4939
                    have k88_4941 : sc88 4941 = 0 := (hG88.1 4941 (by decide)).trans k86_4941
                    have k88_4934 : sc88 4934 = nI ((c85 + 1) + 1) := by rw [hs88]; exact up_eq
                    have hc88 : ar88 71 = upd (ar86 71) (700 * l + (c85 + 1)) 8 := by rw [ha88]; rfl
                    have hv88 : ar88 71 (700 * l + (c85 + 1)) = 8 := by rw [hc88]; exact up_eq
                    have hu88 : ∀ x, x < 700 * l + (c85 + 1) → ar88 71 x = ar86 71 x := fun x w => by rw [hc88]; exact up_ne (by omega)
                    have hk88 : ∀ x, x < 700 * l + c → ar88 71 x = ar 71 x := fun x w => (hu88 x (by omega)).trans (hk86 x w)
                    have hz88 := pz_fr hz86 hG88 (by decide) (by decide) (by decide) (by decide) (by decide)
                    have hF88 := fr_t hF86 hG88 (by decide) (by decide)
                    have sg88_0 := seg_ag sb86 hu88 (by omega)
                    have sd88_0 := sgr_ag sd86 hu88 (by omega)
                    have sn88 : seg (ar88 71) (700 * l + c) (700 * l + ((c85 + 1) + 1)) (h + 1) := seg_not (j := 700 * l + (c85 + 1)) sg88_0 hv88 (by omega)
                    have sd88 : sgr (ar88 71) (700 * l + c) (700 * l + ((c85 + 1) + 1)) _ := sgr_not (j := 700 * l + (c85 + 1)) sd88_0 hv88
                    have t88 : ar88 67 = T := (hG88.2 67 (by decide)).trans t86
                    have rs88 := rs_fr rs86 hG88 (by decide)
                    refine to_eq (fr' := (84, [(0, .ref 49), (1, .int (nI w)), (2, .int (nI n1)), (3, .int 4)], [], gh S a b sc88 ar88 lo, ex, 0, 0)) rfl ?_
                    exact to_rt (i := .return_) (tg := []) rfl rfl ⟨_, _, ⟨hI88, hF88, ⟨hk88, Or.inr ⟨k88_4941, hz88, ((c85 + 1) + 1), B85, k88_4934, k88_4939, by omega, by omega, by omega, by omega, seg_le sn88 (by omega)⟩, Or.inl ⟨k88_4941, k85, (by simp only [pTs, if_pos (or_t hp1 q2 hn1), pT2, ey49, if_pos (Or.inr (or_t hp70 q71 hn70) : tk k49 = -10 ∨ tk k49 = -11), ey85]), rs88⟩, fun _ cq hq9 eq9 => (show ((c85 + 1) + 1) = cq from (nI_eq (by omega) (by omega)).mp ((k88_4934).symm.trans eq9)) ▸ sgr_v sd88 (by simp only [vTs, if_pos (or_t hp1 q2 hn1), vT2, ey49, if_pos (Or.inr (or_t hp70 q71 hn70) : tk k49 = -10 ∨ tk k49 = -11)])⟩⟩, rfl⟩
              · refine to_eq (fr' := (69, [(0, .ref 49), (1, .int (nI w)), (2, .int (nI n1)), (3, .int 4)], [], gh S a b sc85 ar85 lo, ex, 0, 0)) rfl ?_
                refine to_n 2 (fr' := (71, [(0, .ref 49), (1, .int (nI w)), (2, .int (nI n1)), (3, .int 4)], [.int 4, .ref 49], gh S a b sc85 ar85 lo, ex, 0, 0)) rfl ?_
                refine to_cu (q := 126) (M1 := an_X10_emit) (rest := []) rfl rfl (by decide) rfl ⟨_, rfl⟩ (em_bad 4 hb85 (d + 4)) ?_ 
                refine to_eq (fr' := (74, [(0, .ref 49), (1, .int (nI w)), (2, .int (nI n1)), (3, .int 4)], [], gh S a b sc85 ar85 lo, ex, 0, 0)) rfl ?_
                refine to_n 1 (fr' := (75, [(0, .ref 49), (1, .int (nI w)), (2, .int (nI n1)), (3, .int 4)], [.int (nI n1)], gh S a b sc85 ar85 lo, ex, 0, 0)) rfl ?_
                refine to_nf_eq (t := 84) (x := n1) rfl (by omega) (fun q90 => ?_) (fun q90 => ?_)
                · exact to_rt (i := .return_) (tg := []) rfl rfl ⟨_, _, ⟨hI85, hF85, ⟨hk85, Or.inl hb85, Or.inr ⟨hb85, k85, (by simp only [pTs, if_pos (or_t hp1 q2 hn1), pT2, ey49, if_pos (Or.inr (or_t hp70 q71 hn70) : tk k49 = -10 ∨ tk k49 = -11), ey85]), bp85⟩, fun w => absurd w hb85⟩⟩, rfl⟩
                · refine to_n 2 (fr' := (81, [(0, .ref 49), (1, .int (nI w)), (2, .int (nI n1)), (3, .int 4)], [.int 8, .ref 49], gh S a b sc85 ar85 lo, ex, 0, 0)) rfl ?_
                  refine to_cu (q := 126) (M1 := an_X10_emit) (rest := []) rfl rfl (by decide) rfl ⟨_, rfl⟩ (em_bad 8 hb85 (d + 4)) ?_ 
                  refine to_eq (fr' := (84, [(0, .ref 49), (1, .int (nI w)), (2, .int (nI n1)), (3, .int 4)], [], gh S a b sc85 ar85 lo, ex, 0, 0)) rfl ?_
                  exact to_rt (i := .return_) (tg := []) rfl rfl ⟨_, _, ⟨hI85, hF85, ⟨hk85, Or.inl hb85, Or.inr ⟨hb85, k85, (by simp only [pTs, if_pos (or_t hp1 q2 hn1), pT2, ey49, if_pos (Or.inr (or_t hp70 q71 hn70) : tk k49 = -10 ∨ tk k49 = -11), ey85]), bp85⟩, fun w => absurd w hb85⟩⟩, rfl⟩
    · refine to_eq (fr' := (20, [(0, .ref 49), (1, .int (nI w)), (2, .int (nI n1))], [], gh S a b sc49 ar49 lo, ex, 0, 0)) rfl ?_
      refine to_n 1 (fr' := (21, [(0, .ref 49), (1, .int (nI w)), (2, .int (nI n1))], [.ref 49], gh S a b sc49 ar49 lo, ex, 0, 0)) rfl ?_
      refine to_getR (v := (sc49 4941)) rfl rfl rfl rfl rfl ?_
      refine to_if_ne_T (t := 74) rfl hb49 ?_
      refine to_n 1 (fr' := (75, [(0, .ref 49), (1, .int (nI w)), (2, .int (nI n1))], [.int (nI n1)], gh S a b sc49 ar49 lo, ex, 0, 0)) rfl ?_
      refine to_nf_eq (t := 84) (x := n1) rfl (by omega) (fun q92 => ?_) (fun q92 => ?_)
      · exact to_rt (i := .return_) (tg := []) rfl rfl ⟨_, _, ⟨hI49, hF49, ⟨hk49, Or.inl hb49, Or.inr ⟨hb49, k49, (by simp only [pTs, if_pos (or_t hp1 q2 hn1), pT2, ey49]), bp49⟩, fun w => absurd w hb49⟩⟩, rfl⟩
      · refine to_n 2 (fr' := (81, [(0, .ref 49), (1, .int (nI w)), (2, .int (nI n1))], [.int 8, .ref 49], gh S a b sc49 ar49 lo, ex, 0, 0)) rfl ?_
        refine to_cu (q := 126) (M1 := an_X10_emit) (rest := []) rfl rfl (by decide) rfl ⟨_, rfl⟩ (em_bad 8 hb49 (d + 4)) ?_ 
        refine to_eq (fr' := (84, [(0, .ref 49), (1, .int (nI w)), (2, .int (nI n1))], [], gh S a b sc49 ar49 lo, ex, 0, 0)) rfl ?_
        exact to_rt (i := .return_) (tg := []) rfl rfl ⟨_, _, ⟨hI49, hF49, ⟨hk49, Or.inl hb49, Or.inr ⟨hb49, k49, (by simp only [pTs, if_pos (or_t hp1 q2 hn1), pT2, ey49]), bp49⟩, fun w => absurd w hb49⟩⟩, rfl⟩
set_option maxRecDepth 20000 in
theorem rx_readExpression {X : Nat × (Nat → Int32)} {S a b : Nat} {lo : Nat → Int64} {ex : Bool} {T tk : Nat → Int32} {pl g : Nat → Nat} {sz n : Nat} (hW : Wd S a b) (hsm : Sm T n tk pl g sz) (hlen4 : n ≤ 400) (hne : ∀ t, t < n → ¬ T t = -1) (w h : Nat) (hw6 : w < 6) (E : Nat → Nat ⊕ Nat) (vE : Nat → zVal) (hse : Se tk sz) (hpg : pg_ sz (pTs tk sz E)) (d : Nat) (hE : RxOk X S a b lo ex T tk pl g sz n (d + 5) 129 w h (pTs tk sz E) (vTs tk sz E vE)) : RxOk X S a b lo ex T tk pl g sz n (d + 6) 128 w (h + 1) (pE1 tk sz E) (vE1 tk sz E vE) := by
  obtain ⟨ha1, ha8, hb1, hb8, hab, hS1, hS⟩ := id hW
  intro sc ar l c e B j hI hl el ec eB hB4 eb hz hp hT hr
  refine cv_of (M := an_X10_readExpression) rfl (Nat.le_of_ble_eq_true rfl) ?_
  have hF : Fr [4934, 4935, 4937, 4938, 4939, 4940, 4941, 4942] [71] sc ar sc ar := fr_0
  refine to_eq (fr' := (0, [(0, .ref 49), (1, .int (nI w))], [], gh S a b sc ar lo, ex, 0, 0)) rfl ?_
  have c67 : ∀ m : Nat, ∀ (c1 : Nat) (B1 : Nat) (j1 : Nat) (sc1 : Nat → Int32) (ar1 : Nat → Nat → Int32), 401 ≤ B1 + m → sc1 4934 = nI c1 → sc1 4939 = nI B1 → sc1 4907 = nI l → sc1 4941 = 0 → Pz sc1 → (∀ x, x < 700 * l + c → ar1 71 x = ar 71 x) → c ≤ c1 → B1 ≤ 400 → 2 * c1 + e ≤ 3 * B1 + 1 → seg (ar1 71) (700 * l + c) (700 * l + c1) (h + 1) → B ≤ B1 → Rs T tk pl g sz n j1 sc1 → ar1 67 = T → pE1 tk sz E j = pLp tk sz [-14, -15] (pTs tk sz E) 401 j1 → (∃ W : zVal, sgr (ar1 71) (700 * l + c) (700 * l + c1) W ∧ vE1 tk sz E vE j = vLp tk sz [-14, -15] (pTs tk sz E) (vTs tk sz E vE) 401 j1 W) → Iv S sc1 ar1 → Fr [4934, 4935, 4937, 4938, 4939, 4940, 4941, 4942] [71] sc ar sc1 ar1 → ag_To X (d + 5) an_X10_readExpression (67, [(0, .ref 49), (1, .int (nI w))], [], gh S a b sc1 ar1 lo, ex, 0, 0) (qv S a b lo ex (fun sc' ar' => Iv S sc' ar' ∧ Fr [4934, 4935, 4937, 4938, 4939, 4940, 4941, 4942] [71] sc ar sc' ar' ∧ ((∀ x, x < 700 * l + c → ar' 71 x = ar 71 x) ∧ Rd sc' ar' l c B e (h + 1) ∧ Rx T tk pl g sz n (pE1 tk sz E j) sc' ∧ (sc' 4941 = 0 → ∀ c' : Nat, c' ≤ 700 → sc' 4934 = nI c' → sgr (ar' 71) (700 * l + c) (700 * l + c') ((vE1 tk sz E vE) j))))) := by
    intro m
    induction m with
    | zero =>
      intro c1 B1 j1 sc1 ar1 hm hc67_0 hc67_1 hc67_2 hc67_3 hc67_4 hc67_5 hc67_6 hc67_7 hc67_8 hc67_9 hc67_10 hc67_11 hc67_12 hc67_13 hc67_14 hI1 hF1
      exfalso
      omega
    | succ m ih =>
      intro c1 B1 j1 sc1 ar1 hm hc67_0 hc67_1 hc67_2 hc67_3 hc67_4 hc67_5 hc67_6 hc67_7 hc67_8 hc67_9 hc67_10 hc67_11 hc67_12 hc67_13 hc67_14 hI1 hF1
      obtain ⟨W, sW, eW⟩ := hc67_14
      refine to_n 1 (fr' := (68, [(0, .ref 49), (1, .int (nI w))], [.ref 49], gh S a b sc1 ar1 lo, ex, 0, 0)) rfl ?_
      refine to_getR (v := 0) rfl rfl rfl rfl hc67_3 ?_
      refine to_n 3 (fr' := (77, [(0, .ref 49), (1, .int (nI w))], [.ref 1000034, .ref 49], gh S a b sc1 ar1 lo, ex, 0, 0)) rfl ?_
      refine to_cp (q := 123) (M1 := an_X10_isWord) (rest := []) rfl rfl (by decide) rfl ⟨_, rfl⟩ (iw_X10_isWord hW hI1 33 (by omega) (pl j1) (en_ g sz n j1) (rs_le hsm hc67_11 hlen4) hc67_11.2.2.1 hc67_11.2.2.2.2.1 (d + 4)) (fun x2 hx2 => ?_)
      obtain ⟨⟨n2, hn2, rfl⟩, hp2⟩ := hx2
      rw [hc67_12, ob_w (x := (5, -14)) hsm hc67_11 (by decide) (by decide +kernel)] at hp2
      refine to_eq (fr' := (80, [(0, .ref 49), (1, .int (nI w))], [.int (nI n2)], gh S a b sc1 ar1 lo, ex, 0, 0)) rfl ?_
      refine to_nf_ne (t := 92) (x := n2) rfl (by omega) (fun q3 => ?_) (fun q3 => ?_)
      · refine to_n 2 (fr' := (95, [(0, .ref 49), (1, .int (nI w))], [.ref 1000034, .ref 49], gh S a b sc1 ar1 lo, ex, 0, 0)) rfl ?_
        refine to_cp (q := 123) (M1 := an_X10_isWord) (rest := []) rfl rfl (by decide) rfl ⟨_, rfl⟩ (iw_X10_isWord hW hI1 33 (by omega) (pl j1) (en_ g sz n j1) (rs_le hsm hc67_11 hlen4) hc67_11.2.2.1 hc67_11.2.2.2.2.1 (d + 4)) (fun x4 hx4 => ?_)
        obtain ⟨⟨n4, hn4, rfl⟩, hp4⟩ := hx4
        rw [hc67_12, ob_w (x := (5, -14)) hsm hc67_11 (by decide) (by decide +kernel)] at hp4
        refine to_eq (fr' := (98, [(0, .ref 49), (1, .int (nI w))], [.int (nI n4)], gh S a b sc1 ar1 lo, ex, 0, 0)) rfl ?_
        refine to_nf_eq (t := 106) (x := n4) rfl (by omega) (fun q5 => ?_) (fun q5 => ?_)
        · refine to_n 3 (fr' := (110, [(0, .ref 49), (1, .int (nI w)), (3, .int 7)], [.ref 49], gh S a b sc1 ar1 lo, ex, 0, 0)) rfl ?_
          refine to_cv (q := 122) (M1 := an_X10_step) (rest := []) rfl rfl (by decide) rfl ⟨_, rfl⟩ (st_nextx hW hI1 hc67_1 (by omega) hc67_4 (ob_no hsm hc67_11 (or_t hp2 q3 hn2) (by decide)) hsm hlen4 hne hc67_12 hc67_11 (d + 3)) (fun sc6 ar6 hx6 => ?_)
          obtain ⟨hI6, hG6, hz6, ⟨B6, eB6, hB6, hC6⟩, rs6⟩ := hx6
          have t6 : ar6 67 = T := (hG6.2 67 (by decide)).trans hc67_12
          have k6_4907 : sc6 4907 = (nI l) := (hG6.1 4907 (by decide)).trans hc67_2
          have k6_4934 : sc6 4934 = (nI c1) := (hG6.1 4934 (by decide)).trans hc67_0
          have k6_4941 : sc6 4941 = 0 := (hG6.1 4941 (by decide)).trans hc67_3
          have hk6 : ∀ x, x < 700 * l + c → ar6 71 x = ar 71 x := kp_st hc67_5 hG6 (by decide)
          have sg6_0 := sg_st hc67_9 hG6 (by decide)
          have sd6_0 := sgr_st sW hG6 (by decide)
          have hF6 := fr_t hF1 hG6 (by decide) (by decide)
          refine to_eq (fr' := (113, [(0, .ref 49), (1, .int (nI w)), (3, .int 7)], [], gh S a b sc6 ar6 lo, ex, 0, 0)) rfl ?_
          refine to_n 2 (fr' := (115, [(0, .ref 49), (1, .int (nI w)), (3, .int 7)], [.int (nI w), .ref 49], gh S a b sc6 ar6 lo, ex, 0, 0)) rfl ?_
          refine to_cv (q := 129) (M1 := an_X10_readTest) (rest := []) rfl rfl (by decide) rfl ⟨_, rfl⟩ (hE sc6 ar6 l c1 (e + 2) B6 (ad_ sz j1) hI6 (by omega) k6_4907 k6_4934 eB6 (by omega) k6_4941 hz6 (by omega) t6 rs6) (fun sc7 ar7 hx7 => ?_)
          obtain ⟨hI7, hG7, hu7, hr7, hy7, hd7⟩ := hx7
          have k7_4907 : sc7 4907 = nI l := (hG7.1 4907 (by decide)).trans k6_4907
          have hk7 : ∀ x, x < 700 * l + c → ar7 71 x = ar 71 x := fun x w => (hu7 x (by omega)).trans (hk6 x w)
          have hF7 := fr_t hF6 hG7 (by decide) (by decide)
          have t7 : ar7 67 = T := (hG7.2 67 (by decide)).trans t6
          have sg7_0 := seg_ag sg6_0 hu7 (by omega)
          have sd7_0 := sgr_ag sd6_0 hu7 (by omega)
          rcases hy7 with ⟨hb7, k7, ey7, rs7⟩ | ⟨hb7, k7, ey7, bp7⟩
          · rcases hr7 with hbb7 | ⟨-, hz7, c7, B7, ec7, eB7, hcc7, hBB7, hB7, hpo7, sg7⟩
            · exact absurd hb7 hbb7
            · have sd7 := hd7 hb7 c7 (by omega) ec7
              refine to_eq (fr' := (118, [(0, .ref 49), (1, .int (nI w)), (3, .int 7)], [], gh S a b sc7 ar7 lo, ex, 0, 0)) rfl ?_
              refine to_n 2 (fr' := (120, [(0, .ref 49), (1, .int (nI w)), (3, .int 7)], [.int 7, .ref 49], gh S a b sc7 ar7 lo, ex, 0, 0)) rfl ?_
              refine to_cv (q := 126) (M1 := an_X10_emit) (rest := []) rfl rfl (by decide) rfl ⟨_, rfl⟩ (em_ok hW hI7 7 l c7 (by omega) (by omega) hb7 k7_4907 ec7 (d + 4)) (fun sc8 ar8 hx8 => ?_)
              obtain ⟨hI8, hG8, hs8, ha8⟩ := hx8
              have k8_4907 : sc8 4907 = (nI l) := (hG8.1 4907 (by decide)).trans k7_4907
              have k8_4939 : sc8 4939 = (nI B7) := (hG8.1 4939 (by decide)).trans eB7
              have k8_4941 : sc8 4941 = 0 := (hG8.1 4941 (by decide)).trans hb7
              have k8_4934 : sc8 4934 = nI (c7 + 1) := by rw [hs8]; exact up_eq
              have hc8 : ar8 71 = upd (ar7 71) (700 * l + c7) 7 := by rw [ha8]; rfl
              have hv8 : ar8 71 (700 * l + c7) = 7 := by rw [hc8]; exact up_eq
              have hu8 : ∀ x, x < 700 * l + c7 → ar8 71 x = ar7 71 x := fun x w => by rw [hc8]; exact up_ne (by omega)
              have hk8 : ∀ x, x < 700 * l + c → ar8 71 x = ar 71 x := fun x w => (hu8 x (by omega)).trans (hk7 x w)
              have hz8 := pz_fr hz7 hG8 (by decide) (by decide) (by decide) (by decide) (by decide)
              have hF8 := fr_t hF7 hG8 (by decide) (by decide)
              have sg8_0 := seg_ag sg7_0 hu8 (by omega)
              have sg8_1 := seg_ag sg7 hu8 (by omega)
              have sd8_0 := sgr_ag sd7_0 hu8 (by omega)
              have sd8_1 := sgr_ag sd7 hu8 (by omega)
              have sb8 : seg (ar8 71) (700 * l + c) (700 * l + (c7 + 1)) (h + 1) := seg_bin (k := 700 * l + c7) sg8_0 sg8_1 hv8 (by decide) (by decide) (by decide) (by omega) (by omega) (by omega) (by omega)
              have sd8 : sgr (ar8 71) (700 * l + c) (700 * l + (c7 + 1)) _ := sgr_bin (k := 700 * l + c7) (c := tk j1) sd8_0 sd8_1 hv8 (by decide) (by decide) (by decide) (z7_7 (by rw [or_t hp2 q3 hn2]; decide) (or_f hp4 q5))
              have t8 : ar8 67 = T := (hG8.2 67 (by decide)).trans t7
              have rs8 := rs_fr rs7 hG8 (by decide)
              refine to_eq (fr' := (123, [(0, .ref 49), (1, .int (nI w)), (3, .int 7)], [], gh S a b sc8 ar8 lo, ex, 0, 0)) rfl ?_
              refine to_n 1 (fr' := (67, [(0, .ref 49), (1, .int (nI w)), (3, .int 7)], [], gh S a b sc8 ar8 lo, ex, 0, 0)) rfl ?_
              refine to_lv (lv := [(0, .ref 49), (1, .int (nI w))]) rfl ⟨rfl, rfl, trivial⟩ ?_
              exact ih (c7 + 1) B7 k7 sc8 ar8 (by omega) k8_4934 k8_4939 k8_4907 k8_4941 hz8 hk8 (by omega) (by omega) (by omega) (seg_le sb8 (by omega)) (by omega) rs8 t8 (hc67_13.trans (pl_go hse (by decide) hpg hc67_11.1 (by rw [or_t hp2 q3 hn2]; decide) ey7)) ⟨_, sd8, eW.trans (vl_go hse (by decide) hpg hc67_11.1 (by rw [or_t hp2 q3 hn2]; decide) ey7)⟩ hI8 hF8
          · refine to_eq (fr' := (118, [(0, .ref 49), (1, .int (nI w)), (3, .int 7)], [], gh S a b sc7 ar7 lo, ex, 0, 0)) rfl ?_
            refine to_n 2 (fr' := (120, [(0, .ref 49), (1, .int (nI w)), (3, .int 7)], [.int 7, .ref 49], gh S a b sc7 ar7 lo, ex, 0, 0)) rfl ?_
            refine to_cu (q := 126) (M1 := an_X10_emit) (rest := []) rfl rfl (by decide) rfl ⟨_, rfl⟩ (em_bad 7 hb7 (d + 4)) ?_ 
            refine to_eq (fr' := (123, [(0, .ref 49), (1, .int (nI w)), (3, .int 7)], [], gh S a b sc7 ar7 lo, ex, 0, 0)) rfl ?_
            refine to_n 2 (fr' := (68, [(0, .ref 49), (1, .int (nI w)), (3, .int 7)], [.ref 49], gh S a b sc7 ar7 lo, ex, 0, 0)) rfl ?_
            refine to_getR (v := (sc7 4941)) rfl rfl rfl rfl rfl ?_
            refine to_if_ne_T (t := 126) rfl hb7 ?_
            exact to_rt (i := .return_) (tg := []) rfl rfl ⟨_, _, ⟨hI7, hF7, ⟨hk7, Or.inl hb7, Or.inr ⟨hb7, k7, (hc67_13.trans (pl_bad (m := 400) (by rw [or_t hp2 q3 hn2]; decide) ey7)), bp7⟩, fun w => absurd w hb7⟩⟩, rfl⟩
        · refine to_n 4 (fr' := (110, [(0, .ref 49), (1, .int (nI w)), (3, .int 6)], [.ref 49], gh S a b sc1 ar1 lo, ex, 0, 0)) rfl ?_
          refine to_cv (q := 122) (M1 := an_X10_step) (rest := []) rfl rfl (by decide) rfl ⟨_, rfl⟩ (st_nextx hW hI1 hc67_1 (by omega) hc67_4 (ob_no hsm hc67_11 (or_t hp4 q5 hn4) (by decide)) hsm hlen4 hne hc67_12 hc67_11 (d + 3)) (fun sc10 ar10 hx10 => ?_)
          obtain ⟨hI10, hG10, hz10, ⟨B10, eB10, hB10, hC10⟩, rs10⟩ := hx10
          have t10 : ar10 67 = T := (hG10.2 67 (by decide)).trans hc67_12
          have k10_4907 : sc10 4907 = (nI l) := (hG10.1 4907 (by decide)).trans hc67_2
          have k10_4934 : sc10 4934 = (nI c1) := (hG10.1 4934 (by decide)).trans hc67_0
          have k10_4941 : sc10 4941 = 0 := (hG10.1 4941 (by decide)).trans hc67_3
          have hk10 : ∀ x, x < 700 * l + c → ar10 71 x = ar 71 x := kp_st hc67_5 hG10 (by decide)
          have sg10_0 := sg_st hc67_9 hG10 (by decide)
          have sd10_0 := sgr_st sW hG10 (by decide)
          have hF10 := fr_t hF1 hG10 (by decide) (by decide)
          refine to_eq (fr' := (113, [(0, .ref 49), (1, .int (nI w)), (3, .int 6)], [], gh S a b sc10 ar10 lo, ex, 0, 0)) rfl ?_
          refine to_n 2 (fr' := (115, [(0, .ref 49), (1, .int (nI w)), (3, .int 6)], [.int (nI w), .ref 49], gh S a b sc10 ar10 lo, ex, 0, 0)) rfl ?_
          refine to_cv (q := 129) (M1 := an_X10_readTest) (rest := []) rfl rfl (by decide) rfl ⟨_, rfl⟩ (hE sc10 ar10 l c1 (e + 2) B10 (ad_ sz j1) hI10 (by omega) k10_4907 k10_4934 eB10 (by omega) k10_4941 hz10 (by omega) t10 rs10) (fun sc11 ar11 hx11 => ?_)
          obtain ⟨hI11, hG11, hu11, hr11, hy11, hd11⟩ := hx11
          have k11_4907 : sc11 4907 = nI l := (hG11.1 4907 (by decide)).trans k10_4907
          have hk11 : ∀ x, x < 700 * l + c → ar11 71 x = ar 71 x := fun x w => (hu11 x (by omega)).trans (hk10 x w)
          have hF11 := fr_t hF10 hG11 (by decide) (by decide)
          have t11 : ar11 67 = T := (hG11.2 67 (by decide)).trans t10
          have sg11_0 := seg_ag sg10_0 hu11 (by omega)
          have sd11_0 := sgr_ag sd10_0 hu11 (by omega)
          rcases hy11 with ⟨hb11, k11, ey11, rs11⟩ | ⟨hb11, k11, ey11, bp11⟩
          · rcases hr11 with hbb11 | ⟨-, hz11, c11, B11, ec11, eB11, hcc11, hBB11, hB11, hpo11, sg11⟩
            · exact absurd hb11 hbb11
            · have sd11 := hd11 hb11 c11 (by omega) ec11
              refine to_eq (fr' := (118, [(0, .ref 49), (1, .int (nI w)), (3, .int 6)], [], gh S a b sc11 ar11 lo, ex, 0, 0)) rfl ?_
              refine to_n 2 (fr' := (120, [(0, .ref 49), (1, .int (nI w)), (3, .int 6)], [.int 6, .ref 49], gh S a b sc11 ar11 lo, ex, 0, 0)) rfl ?_
              refine to_cv (q := 126) (M1 := an_X10_emit) (rest := []) rfl rfl (by decide) rfl ⟨_, rfl⟩ (em_ok hW hI11 6 l c11 (by omega) (by omega) hb11 k11_4907 ec11 (d + 4)) (fun sc12 ar12 hx12 => ?_)
              obtain ⟨hI12, hG12, hs12, ha12⟩ := hx12
              have k12_4907 : sc12 4907 = (nI l) := (hG12.1 4907 (by decide)).trans k11_4907
              have k12_4939 : sc12 4939 = (nI B11) := (hG12.1 4939 (by decide)).trans eB11
              have k12_4941 : sc12 4941 = 0 := (hG12.1 4941 (by decide)).trans hb11
              have k12_4934 : sc12 4934 = nI (c11 + 1) := by rw [hs12]; exact up_eq
              have hc12 : ar12 71 = upd (ar11 71) (700 * l + c11) 6 := by rw [ha12]; rfl
              have hv12 : ar12 71 (700 * l + c11) = 6 := by rw [hc12]; exact up_eq
              have hu12 : ∀ x, x < 700 * l + c11 → ar12 71 x = ar11 71 x := fun x w => by rw [hc12]; exact up_ne (by omega)
              have hk12 : ∀ x, x < 700 * l + c → ar12 71 x = ar 71 x := fun x w => (hu12 x (by omega)).trans (hk11 x w)
              have hz12 := pz_fr hz11 hG12 (by decide) (by decide) (by decide) (by decide) (by decide)
              have hF12 := fr_t hF11 hG12 (by decide) (by decide)
              have sg12_0 := seg_ag sg11_0 hu12 (by omega)
              have sg12_1 := seg_ag sg11 hu12 (by omega)
              have sd12_0 := sgr_ag sd11_0 hu12 (by omega)
              have sd12_1 := sgr_ag sd11 hu12 (by omega)
              have sb12 : seg (ar12 71) (700 * l + c) (700 * l + (c11 + 1)) (h + 1) := seg_bin (k := 700 * l + c11) sg12_0 sg12_1 hv12 (by decide) (by decide) (by decide) (by omega) (by omega) (by omega) (by omega)
              have sd12 : sgr (ar12 71) (700 * l + c) (700 * l + (c11 + 1)) _ := sgr_bin (k := 700 * l + c11) (c := tk j1) sd12_0 sd12_1 hv12 (by decide) (by decide) (by decide) (z7_6 (or_t hp4 q5 hn4))
              have t12 : ar12 67 = T := (hG12.2 67 (by decide)).trans t11
              have rs12 := rs_fr rs11 hG12 (by decide)
              refine to_eq (fr' := (123, [(0, .ref 49), (1, .int (nI w)), (3, .int 6)], [], gh S a b sc12 ar12 lo, ex, 0, 0)) rfl ?_
              refine to_n 1 (fr' := (67, [(0, .ref 49), (1, .int (nI w)), (3, .int 6)], [], gh S a b sc12 ar12 lo, ex, 0, 0)) rfl ?_
              refine to_lv (lv := [(0, .ref 49), (1, .int (nI w))]) rfl ⟨rfl, rfl, trivial⟩ ?_
              exact ih (c11 + 1) B11 k11 sc12 ar12 (by omega) k12_4934 k12_4939 k12_4907 k12_4941 hz12 hk12 (by omega) (by omega) (by omega) (seg_le sb12 (by omega)) (by omega) rs12 t12 (hc67_13.trans (pl_go hse (by decide) hpg hc67_11.1 (by rw [or_t hp2 q3 hn2]; decide) ey11)) ⟨_, sd12, eW.trans (vl_go hse (by decide) hpg hc67_11.1 (by rw [or_t hp2 q3 hn2]; decide) ey11)⟩ hI12 hF12
          · refine to_eq (fr' := (118, [(0, .ref 49), (1, .int (nI w)), (3, .int 6)], [], gh S a b sc11 ar11 lo, ex, 0, 0)) rfl ?_
            refine to_n 2 (fr' := (120, [(0, .ref 49), (1, .int (nI w)), (3, .int 6)], [.int 6, .ref 49], gh S a b sc11 ar11 lo, ex, 0, 0)) rfl ?_
            refine to_cu (q := 126) (M1 := an_X10_emit) (rest := []) rfl rfl (by decide) rfl ⟨_, rfl⟩ (em_bad 6 hb11 (d + 4)) ?_ 
            refine to_eq (fr' := (123, [(0, .ref 49), (1, .int (nI w)), (3, .int 6)], [], gh S a b sc11 ar11 lo, ex, 0, 0)) rfl ?_
            refine to_n 2 (fr' := (68, [(0, .ref 49), (1, .int (nI w)), (3, .int 6)], [.ref 49], gh S a b sc11 ar11 lo, ex, 0, 0)) rfl ?_
            refine to_getR (v := (sc11 4941)) rfl rfl rfl rfl rfl ?_
            refine to_if_ne_T (t := 126) rfl hb11 ?_
            exact to_rt (i := .return_) (tg := []) rfl rfl ⟨_, _, ⟨hI11, hF11, ⟨hk11, Or.inl hb11, Or.inr ⟨hb11, k11, (hc67_13.trans (pl_bad (m := 400) (by rw [or_t hp2 q3 hn2]; decide) ey11)), bp11⟩, fun w => absurd w hb11⟩⟩, rfl⟩
      · refine to_n 2 (fr' := (86, [(0, .ref 49), (1, .int (nI w))], [.ref 1000035, .ref 49], gh S a b sc1 ar1 lo, ex, 0, 0)) rfl ?_
        refine to_cp (q := 123) (M1 := an_X10_isWord) (rest := []) rfl rfl (by decide) rfl ⟨_, rfl⟩ (iw_X10_isWord hW hI1 34 (by omega) (pl j1) (en_ g sz n j1) (rs_le hsm hc67_11 hlen4) hc67_11.2.2.1 hc67_11.2.2.2.2.1 (d + 4)) (fun x14 hx14 => ?_)
        obtain ⟨⟨n14, hn14, rfl⟩, hp14⟩ := hx14
        rw [hc67_12, ob_w (x := (6, -15)) hsm hc67_11 (by decide) (by decide +kernel)] at hp14
        refine to_eq (fr' := (89, [(0, .ref 49), (1, .int (nI w))], [.int (nI n14)], gh S a b sc1 ar1 lo, ex, 0, 0)) rfl ?_
        refine to_nf_eq (t := 126) (x := n14) rfl (by omega) (fun q15 => ?_) (fun q15 => ?_)
        · exact to_rt (i := .return_) (tg := []) rfl rfl ⟨_, _, ⟨hI1, hF1, ⟨hc67_5, Or.inr ⟨hc67_3, hc67_4, c1, B1, hc67_0, hc67_1, by omega, by omega, by omega, by omega, seg_le hc67_9 (by omega)⟩, Or.inl ⟨hc67_3, j1, (hc67_13.trans (pl_out (m := 400) (by simp only [List.mem_cons, List.not_mem_nil, or_false, not_or]; exact ⟨or_f hp2 q3, or_f hp14 q15⟩))), hc67_11⟩, fun _ cq hq9 eq9 => (show c1 = cq from (nI_eq (by omega) (by omega)).mp ((hc67_0).symm.trans eq9)) ▸ sgr_v sW (eW.trans (vl_out (m := 400) (by simp only [List.mem_cons, List.not_mem_nil, or_false, not_or]; exact ⟨or_f hp2 q3, or_f hp14 q15⟩)))⟩⟩, rfl⟩
        · refine to_n 2 (fr' := (95, [(0, .ref 49), (1, .int (nI w))], [.ref 1000034, .ref 49], gh S a b sc1 ar1 lo, ex, 0, 0)) rfl ?_
          refine to_cp (q := 123) (M1 := an_X10_isWord) (rest := []) rfl rfl (by decide) rfl ⟨_, rfl⟩ (iw_X10_isWord hW hI1 33 (by omega) (pl j1) (en_ g sz n j1) (rs_le hsm hc67_11 hlen4) hc67_11.2.2.1 hc67_11.2.2.2.2.1 (d + 4)) (fun x16 hx16 => ?_)
          obtain ⟨⟨n16, hn16, rfl⟩, hp16⟩ := hx16
          rw [hc67_12, ob_w (x := (5, -14)) hsm hc67_11 (by decide) (by decide +kernel)] at hp16
          refine to_eq (fr' := (98, [(0, .ref 49), (1, .int (nI w))], [.int (nI n16)], gh S a b sc1 ar1 lo, ex, 0, 0)) rfl ?_
          refine to_nf_eq (t := 106) (x := n16) rfl (by omega) (fun q17 => ?_) (fun q17 => ?_)
          · refine to_n 3 (fr' := (110, [(0, .ref 49), (1, .int (nI w)), (3, .int 7)], [.ref 49], gh S a b sc1 ar1 lo, ex, 0, 0)) rfl ?_
            refine to_cv (q := 122) (M1 := an_X10_step) (rest := []) rfl rfl (by decide) rfl ⟨_, rfl⟩ (st_nextx hW hI1 hc67_1 (by omega) hc67_4 (ob_no hsm hc67_11 (or_t hp14 q15 hn14) (by decide)) hsm hlen4 hne hc67_12 hc67_11 (d + 3)) (fun sc18 ar18 hx18 => ?_)
            obtain ⟨hI18, hG18, hz18, ⟨B18, eB18, hB18, hC18⟩, rs18⟩ := hx18
            have t18 : ar18 67 = T := (hG18.2 67 (by decide)).trans hc67_12
            have k18_4907 : sc18 4907 = (nI l) := (hG18.1 4907 (by decide)).trans hc67_2
            have k18_4934 : sc18 4934 = (nI c1) := (hG18.1 4934 (by decide)).trans hc67_0
            have k18_4941 : sc18 4941 = 0 := (hG18.1 4941 (by decide)).trans hc67_3
            have hk18 : ∀ x, x < 700 * l + c → ar18 71 x = ar 71 x := kp_st hc67_5 hG18 (by decide)
            have sg18_0 := sg_st hc67_9 hG18 (by decide)
            have sd18_0 := sgr_st sW hG18 (by decide)
            have hF18 := fr_t hF1 hG18 (by decide) (by decide)
            refine to_eq (fr' := (113, [(0, .ref 49), (1, .int (nI w)), (3, .int 7)], [], gh S a b sc18 ar18 lo, ex, 0, 0)) rfl ?_
            refine to_n 2 (fr' := (115, [(0, .ref 49), (1, .int (nI w)), (3, .int 7)], [.int (nI w), .ref 49], gh S a b sc18 ar18 lo, ex, 0, 0)) rfl ?_
            refine to_cv (q := 129) (M1 := an_X10_readTest) (rest := []) rfl rfl (by decide) rfl ⟨_, rfl⟩ (hE sc18 ar18 l c1 (e + 2) B18 (ad_ sz j1) hI18 (by omega) k18_4907 k18_4934 eB18 (by omega) k18_4941 hz18 (by omega) t18 rs18) (fun sc19 ar19 hx19 => ?_)
            obtain ⟨hI19, hG19, hu19, hr19, hy19, hd19⟩ := hx19
            have k19_4907 : sc19 4907 = nI l := (hG19.1 4907 (by decide)).trans k18_4907
            have hk19 : ∀ x, x < 700 * l + c → ar19 71 x = ar 71 x := fun x w => (hu19 x (by omega)).trans (hk18 x w)
            have hF19 := fr_t hF18 hG19 (by decide) (by decide)
            have t19 : ar19 67 = T := (hG19.2 67 (by decide)).trans t18
            have sg19_0 := seg_ag sg18_0 hu19 (by omega)
            have sd19_0 := sgr_ag sd18_0 hu19 (by omega)
            rcases hy19 with ⟨hb19, k19, ey19, rs19⟩ | ⟨hb19, k19, ey19, bp19⟩
            · rcases hr19 with hbb19 | ⟨-, hz19, c19, B19, ec19, eB19, hcc19, hBB19, hB19, hpo19, sg19⟩
              · exact absurd hb19 hbb19
              · have sd19 := hd19 hb19 c19 (by omega) ec19
                refine to_eq (fr' := (118, [(0, .ref 49), (1, .int (nI w)), (3, .int 7)], [], gh S a b sc19 ar19 lo, ex, 0, 0)) rfl ?_
                refine to_n 2 (fr' := (120, [(0, .ref 49), (1, .int (nI w)), (3, .int 7)], [.int 7, .ref 49], gh S a b sc19 ar19 lo, ex, 0, 0)) rfl ?_
                refine to_cv (q := 126) (M1 := an_X10_emit) (rest := []) rfl rfl (by decide) rfl ⟨_, rfl⟩ (em_ok hW hI19 7 l c19 (by omega) (by omega) hb19 k19_4907 ec19 (d + 4)) (fun sc20 ar20 hx20 => ?_)
                obtain ⟨hI20, hG20, hs20, ha20⟩ := hx20
                have k20_4907 : sc20 4907 = (nI l) := (hG20.1 4907 (by decide)).trans k19_4907
                have k20_4939 : sc20 4939 = (nI B19) := (hG20.1 4939 (by decide)).trans eB19
                have k20_4941 : sc20 4941 = 0 := (hG20.1 4941 (by decide)).trans hb19
                have k20_4934 : sc20 4934 = nI (c19 + 1) := by rw [hs20]; exact up_eq
                have hc20 : ar20 71 = upd (ar19 71) (700 * l + c19) 7 := by rw [ha20]; rfl
                have hv20 : ar20 71 (700 * l + c19) = 7 := by rw [hc20]; exact up_eq
                have hu20 : ∀ x, x < 700 * l + c19 → ar20 71 x = ar19 71 x := fun x w => by rw [hc20]; exact up_ne (by omega)
                have hk20 : ∀ x, x < 700 * l + c → ar20 71 x = ar 71 x := fun x w => (hu20 x (by omega)).trans (hk19 x w)
                have hz20 := pz_fr hz19 hG20 (by decide) (by decide) (by decide) (by decide) (by decide)
                have hF20 := fr_t hF19 hG20 (by decide) (by decide)
                have sg20_0 := seg_ag sg19_0 hu20 (by omega)
                have sg20_1 := seg_ag sg19 hu20 (by omega)
                have sd20_0 := sgr_ag sd19_0 hu20 (by omega)
                have sd20_1 := sgr_ag sd19 hu20 (by omega)
                have sb20 : seg (ar20 71) (700 * l + c) (700 * l + (c19 + 1)) (h + 1) := seg_bin (k := 700 * l + c19) sg20_0 sg20_1 hv20 (by decide) (by decide) (by decide) (by omega) (by omega) (by omega) (by omega)
                have sd20 : sgr (ar20 71) (700 * l + c) (700 * l + (c19 + 1)) _ := sgr_bin (k := 700 * l + c19) (c := tk j1) sd20_0 sd20_1 hv20 (by decide) (by decide) (by decide) (z7_7 (by rw [or_t hp14 q15 hn14]; decide) (or_f hp16 q17))
                have t20 : ar20 67 = T := (hG20.2 67 (by decide)).trans t19
                have rs20 := rs_fr rs19 hG20 (by decide)
                refine to_eq (fr' := (123, [(0, .ref 49), (1, .int (nI w)), (3, .int 7)], [], gh S a b sc20 ar20 lo, ex, 0, 0)) rfl ?_
                refine to_n 1 (fr' := (67, [(0, .ref 49), (1, .int (nI w)), (3, .int 7)], [], gh S a b sc20 ar20 lo, ex, 0, 0)) rfl ?_
                refine to_lv (lv := [(0, .ref 49), (1, .int (nI w))]) rfl ⟨rfl, rfl, trivial⟩ ?_
                exact ih (c19 + 1) B19 k19 sc20 ar20 (by omega) k20_4934 k20_4939 k20_4907 k20_4941 hz20 hk20 (by omega) (by omega) (by omega) (seg_le sb20 (by omega)) (by omega) rs20 t20 (hc67_13.trans (pl_go hse (by decide) hpg hc67_11.1 (by rw [or_t hp14 q15 hn14]; decide) ey19)) ⟨_, sd20, eW.trans (vl_go hse (by decide) hpg hc67_11.1 (by rw [or_t hp14 q15 hn14]; decide) ey19)⟩ hI20 hF20
            · refine to_eq (fr' := (118, [(0, .ref 49), (1, .int (nI w)), (3, .int 7)], [], gh S a b sc19 ar19 lo, ex, 0, 0)) rfl ?_
              refine to_n 2 (fr' := (120, [(0, .ref 49), (1, .int (nI w)), (3, .int 7)], [.int 7, .ref 49], gh S a b sc19 ar19 lo, ex, 0, 0)) rfl ?_
              refine to_cu (q := 126) (M1 := an_X10_emit) (rest := []) rfl rfl (by decide) rfl ⟨_, rfl⟩ (em_bad 7 hb19 (d + 4)) ?_ 
              refine to_eq (fr' := (123, [(0, .ref 49), (1, .int (nI w)), (3, .int 7)], [], gh S a b sc19 ar19 lo, ex, 0, 0)) rfl ?_
              refine to_n 2 (fr' := (68, [(0, .ref 49), (1, .int (nI w)), (3, .int 7)], [.ref 49], gh S a b sc19 ar19 lo, ex, 0, 0)) rfl ?_
              refine to_getR (v := (sc19 4941)) rfl rfl rfl rfl rfl ?_
              refine to_if_ne_T (t := 126) rfl hb19 ?_
              exact to_rt (i := .return_) (tg := []) rfl rfl ⟨_, _, ⟨hI19, hF19, ⟨hk19, Or.inl hb19, Or.inr ⟨hb19, k19, (hc67_13.trans (pl_bad (m := 400) (by rw [or_t hp14 q15 hn14]; decide) ey19)), bp19⟩, fun w => absurd w hb19⟩⟩, rfl⟩
          · refine to_n 4 (fr' := (110, [(0, .ref 49), (1, .int (nI w)), (3, .int 6)], [.ref 49], gh S a b sc1 ar1 lo, ex, 0, 0)) rfl ?_
            refine to_cv (q := 122) (M1 := an_X10_step) (rest := []) rfl rfl (by decide) rfl ⟨_, rfl⟩ (st_nextx hW hI1 hc67_1 (by omega) hc67_4 (ob_no hsm hc67_11 (or_t hp16 q17 hn16) (by decide)) hsm hlen4 hne hc67_12 hc67_11 (d + 3)) (fun sc22 ar22 hx22 => ?_)
            obtain ⟨hI22, hG22, hz22, ⟨B22, eB22, hB22, hC22⟩, rs22⟩ := hx22
            have t22 : ar22 67 = T := (hG22.2 67 (by decide)).trans hc67_12
            have k22_4907 : sc22 4907 = (nI l) := (hG22.1 4907 (by decide)).trans hc67_2
            have k22_4934 : sc22 4934 = (nI c1) := (hG22.1 4934 (by decide)).trans hc67_0
            have k22_4941 : sc22 4941 = 0 := (hG22.1 4941 (by decide)).trans hc67_3
            have hk22 : ∀ x, x < 700 * l + c → ar22 71 x = ar 71 x := kp_st hc67_5 hG22 (by decide)
            have sg22_0 := sg_st hc67_9 hG22 (by decide)
            have sd22_0 := sgr_st sW hG22 (by decide)
            have hF22 := fr_t hF1 hG22 (by decide) (by decide)
            refine to_eq (fr' := (113, [(0, .ref 49), (1, .int (nI w)), (3, .int 6)], [], gh S a b sc22 ar22 lo, ex, 0, 0)) rfl ?_
            refine to_n 2 (fr' := (115, [(0, .ref 49), (1, .int (nI w)), (3, .int 6)], [.int (nI w), .ref 49], gh S a b sc22 ar22 lo, ex, 0, 0)) rfl ?_
            refine to_cv (q := 129) (M1 := an_X10_readTest) (rest := []) rfl rfl (by decide) rfl ⟨_, rfl⟩ (hE sc22 ar22 l c1 (e + 2) B22 (ad_ sz j1) hI22 (by omega) k22_4907 k22_4934 eB22 (by omega) k22_4941 hz22 (by omega) t22 rs22) (fun sc23 ar23 hx23 => ?_)
            obtain ⟨hI23, hG23, hu23, hr23, hy23, hd23⟩ := hx23
            have k23_4907 : sc23 4907 = nI l := (hG23.1 4907 (by decide)).trans k22_4907
            have hk23 : ∀ x, x < 700 * l + c → ar23 71 x = ar 71 x := fun x w => (hu23 x (by omega)).trans (hk22 x w)
            have hF23 := fr_t hF22 hG23 (by decide) (by decide)
            have t23 : ar23 67 = T := (hG23.2 67 (by decide)).trans t22
            have sg23_0 := seg_ag sg22_0 hu23 (by omega)
            have sd23_0 := sgr_ag sd22_0 hu23 (by omega)
            rcases hy23 with ⟨hb23, k23, ey23, rs23⟩ | ⟨hb23, k23, ey23, bp23⟩
            · rcases hr23 with hbb23 | ⟨-, hz23, c23, B23, ec23, eB23, hcc23, hBB23, hB23, hpo23, sg23⟩
              · exact absurd hb23 hbb23
              · have sd23 := hd23 hb23 c23 (by omega) ec23
                refine to_eq (fr' := (118, [(0, .ref 49), (1, .int (nI w)), (3, .int 6)], [], gh S a b sc23 ar23 lo, ex, 0, 0)) rfl ?_
                refine to_n 2 (fr' := (120, [(0, .ref 49), (1, .int (nI w)), (3, .int 6)], [.int 6, .ref 49], gh S a b sc23 ar23 lo, ex, 0, 0)) rfl ?_
                refine to_cv (q := 126) (M1 := an_X10_emit) (rest := []) rfl rfl (by decide) rfl ⟨_, rfl⟩ (em_ok hW hI23 6 l c23 (by omega) (by omega) hb23 k23_4907 ec23 (d + 4)) (fun sc24 ar24 hx24 => ?_)
                obtain ⟨hI24, hG24, hs24, ha24⟩ := hx24
                have k24_4907 : sc24 4907 = (nI l) := (hG24.1 4907 (by decide)).trans k23_4907
                have k24_4939 : sc24 4939 = (nI B23) := (hG24.1 4939 (by decide)).trans eB23
                have k24_4941 : sc24 4941 = 0 := (hG24.1 4941 (by decide)).trans hb23
                have k24_4934 : sc24 4934 = nI (c23 + 1) := by rw [hs24]; exact up_eq
                have hc24 : ar24 71 = upd (ar23 71) (700 * l + c23) 6 := by rw [ha24]; rfl
                have hv24 : ar24 71 (700 * l + c23) = 6 := by rw [hc24]; exact up_eq
                have hu24 : ∀ x, x < 700 * l + c23 → ar24 71 x = ar23 71 x := fun x w => by rw [hc24]; exact up_ne (by omega)
                have hk24 : ∀ x, x < 700 * l + c → ar24 71 x = ar 71 x := fun x w => (hu24 x (by omega)).trans (hk23 x w)
                have hz24 := pz_fr hz23 hG24 (by decide) (by decide) (by decide) (by decide) (by decide)
                have hF24 := fr_t hF23 hG24 (by decide) (by decide)
                have sg24_0 := seg_ag sg23_0 hu24 (by omega)
                have sg24_1 := seg_ag sg23 hu24 (by omega)
                have sd24_0 := sgr_ag sd23_0 hu24 (by omega)
                have sd24_1 := sgr_ag sd23 hu24 (by omega)
                have sb24 : seg (ar24 71) (700 * l + c) (700 * l + (c23 + 1)) (h + 1) := seg_bin (k := 700 * l + c23) sg24_0 sg24_1 hv24 (by decide) (by decide) (by decide) (by omega) (by omega) (by omega) (by omega)
                have sd24 : sgr (ar24 71) (700 * l + c) (700 * l + (c23 + 1)) _ := sgr_bin (k := 700 * l + c23) (c := tk j1) sd24_0 sd24_1 hv24 (by decide) (by decide) (by decide) (z7_6 (or_t hp16 q17 hn16))
                have t24 : ar24 67 = T := (hG24.2 67 (by decide)).trans t23
                have rs24 := rs_fr rs23 hG24 (by decide)
                refine to_eq (fr' := (123, [(0, .ref 49), (1, .int (nI w)), (3, .int 6)], [], gh S a b sc24 ar24 lo, ex, 0, 0)) rfl ?_
                refine to_n 1 (fr' := (67, [(0, .ref 49), (1, .int (nI w)), (3, .int 6)], [], gh S a b sc24 ar24 lo, ex, 0, 0)) rfl ?_
                refine to_lv (lv := [(0, .ref 49), (1, .int (nI w))]) rfl ⟨rfl, rfl, trivial⟩ ?_
                exact ih (c23 + 1) B23 k23 sc24 ar24 (by omega) k24_4934 k24_4939 k24_4907 k24_4941 hz24 hk24 (by omega) (by omega) (by omega) (seg_le sb24 (by omega)) (by omega) rs24 t24 (hc67_13.trans (pl_go hse (by decide) hpg hc67_11.1 (by rw [or_t hp14 q15 hn14]; decide) ey23)) ⟨_, sd24, eW.trans (vl_go hse (by decide) hpg hc67_11.1 (by rw [or_t hp14 q15 hn14]; decide) ey23)⟩ hI24 hF24
            · refine to_eq (fr' := (118, [(0, .ref 49), (1, .int (nI w)), (3, .int 6)], [], gh S a b sc23 ar23 lo, ex, 0, 0)) rfl ?_
              refine to_n 2 (fr' := (120, [(0, .ref 49), (1, .int (nI w)), (3, .int 6)], [.int 6, .ref 49], gh S a b sc23 ar23 lo, ex, 0, 0)) rfl ?_
              refine to_cu (q := 126) (M1 := an_X10_emit) (rest := []) rfl rfl (by decide) rfl ⟨_, rfl⟩ (em_bad 6 hb23 (d + 4)) ?_ 
              refine to_eq (fr' := (123, [(0, .ref 49), (1, .int (nI w)), (3, .int 6)], [], gh S a b sc23 ar23 lo, ex, 0, 0)) rfl ?_
              refine to_n 2 (fr' := (68, [(0, .ref 49), (1, .int (nI w)), (3, .int 6)], [.ref 49], gh S a b sc23 ar23 lo, ex, 0, 0)) rfl ?_
              refine to_getR (v := (sc23 4941)) rfl rfl rfl rfl rfl ?_
              refine to_if_ne_T (t := 126) rfl hb23 ?_
              exact to_rt (i := .return_) (tg := []) rfl rfl ⟨_, _, ⟨hI23, hF23, ⟨hk23, Or.inl hb23, Or.inr ⟨hb23, k23, (hc67_13.trans (pl_bad (m := 400) (by rw [or_t hp14 q15 hn14]; decide) ey23)), bp23⟩, fun w => absurd w hb23⟩⟩, rfl⟩
  refine to_n 1 (fr' := (1, [(0, .ref 49), (1, .int (nI w))], [.ref 49], gh S a b sc ar lo, ex, 0, 0)) rfl ?_
  refine to_getR (v := (sc 4937)) rfl rfl rfl rfl rfl ?_
  refine to_n 1 (fr' := (5, [(0, .ref 49), (1, .int (nI w))], [.int 1, .int (sc 4937)], gh S a b sc ar lo, ex, 0, 0)) rfl ?_
  refine to_ic_eq (t := 25) rfl (fun q26 => ?_) (fun q26 => ?_)
  · refine to_n 7 (fr' := (46, [(0, .ref 49), (1, .int (nI w)), (2, .int 1)], [.int 6, .int (nI w)], gh S a b sc ar lo, ex, 0, 0)) rfl ?_
    refine to_nc_ne_T (t := 54) (x := w) (y := 6) rfl (by omega) (by omega) (by omega) ?_
    refine to_n 1 (fr' := (55, [(0, .ref 49), (1, .int (nI w)), (2, .int 1)], [.ref 49], gh S a b sc ar lo, ex, 0, 0)) rfl ?_
    refine to_getR (v := 0) rfl rfl rfl rfl eb ?_
    refine to_n 3 (fr' := (64, [(0, .ref 49), (1, .int (nI w)), (2, .int 1)], [.int (nI w), .ref 49], gh S a b sc ar lo, ex, 0, 0)) rfl ?_
    refine to_cv (q := 129) (M1 := an_X10_readTest) (rest := []) rfl rfl (by decide) rfl ⟨_, rfl⟩ (hE sc ar l c e B j hI (by omega) el ec eB (by omega) eb hz (by omega) hT hr) (fun sc27 ar27 hx27 => ?_)
    obtain ⟨hI27, hG27, hu27, hr27, hy27, hd27⟩ := hx27
    have k27_4907 : sc27 4907 = nI l := (hG27.1 4907 (by decide)).trans el
    have hk27 : ∀ x, x < 700 * l + c → ar27 71 x = ar 71 x := fun x w => (hu27 x (by omega)).trans ((fun _ _ => rfl) x w)
    have hF27 := fr_t hF hG27 (by decide) (by decide)
    have t27 : ar27 67 = T := (hG27.2 67 (by decide)).trans hT
    rcases hy27 with ⟨hb27, k27, ey27, rs27⟩ | ⟨hb27, k27, ey27, bp27⟩
    · rcases hr27 with hbb27 | ⟨-, hz27, c27, B27, ec27, eB27, hcc27, hBB27, hB27, hpo27, sg27⟩
      · exact absurd hb27 hbb27
      · have sd27 := hd27 hb27 c27 (by omega) ec27
        refine to_eq (fr' := (67, [(0, .ref 49), (1, .int (nI w)), (2, .int 1)], [], gh S a b sc27 ar27 lo, ex, 0, 0)) rfl ?_
        refine to_lv (lv := [(0, .ref 49), (1, .int (nI w))]) rfl ⟨rfl, rfl, trivial⟩ ?_
        exact c67 401 c27 B27 k27 sc27 ar27 (by omega) ec27 eB27 k27_4907 hb27 hz27 hk27 (by omega) (by omega) (by omega) (seg_le sg27 (by omega)) (by omega) rs27 t27 (by simp only [pE1, ey27]) ⟨_, sd27, by simp only [vE1, ey27]⟩ hI27 hF27
    · refine to_eq (fr' := (67, [(0, .ref 49), (1, .int (nI w)), (2, .int 1)], [], gh S a b sc27 ar27 lo, ex, 0, 0)) rfl ?_
      refine to_n 1 (fr' := (68, [(0, .ref 49), (1, .int (nI w)), (2, .int 1)], [.ref 49], gh S a b sc27 ar27 lo, ex, 0, 0)) rfl ?_
      refine to_getR (v := (sc27 4941)) rfl rfl rfl rfl rfl ?_
      refine to_if_ne_T (t := 126) rfl hb27 ?_
      exact to_rt (i := .return_) (tg := []) rfl rfl ⟨_, _, ⟨hI27, hF27, ⟨hk27, Or.inl hb27, Or.inr ⟨hb27, k27, (by simp only [pE1, ey27]), bp27⟩, fun w => absurd w hb27⟩⟩, rfl⟩
  · refine to_n 1 (fr' := (9, [(0, .ref 49), (1, .int (nI w))], [.ref 49], gh S a b sc ar lo, ex, 0, 0)) rfl ?_
    refine to_getR (v := (sc 4937)) rfl rfl rfl rfl rfl ?_
    refine to_n 1 (fr' := (13, [(0, .ref 49), (1, .int (nI w))], [.int 2, .int (sc 4937)], gh S a b sc ar lo, ex, 0, 0)) rfl ?_
    refine to_ic_eq (t := 25) rfl (fun q28 => ?_) (fun q28 => ?_)
    · refine to_n 7 (fr' := (46, [(0, .ref 49), (1, .int (nI w)), (2, .int 1)], [.int 6, .int (nI w)], gh S a b sc ar lo, ex, 0, 0)) rfl ?_
      refine to_nc_ne_T (t := 54) (x := w) (y := 6) rfl (by omega) (by omega) (by omega) ?_
      refine to_n 1 (fr' := (55, [(0, .ref 49), (1, .int (nI w)), (2, .int 1)], [.ref 49], gh S a b sc ar lo, ex, 0, 0)) rfl ?_
      refine to_getR (v := 0) rfl rfl rfl rfl eb ?_
      refine to_n 3 (fr' := (64, [(0, .ref 49), (1, .int (nI w)), (2, .int 1)], [.int (nI w), .ref 49], gh S a b sc ar lo, ex, 0, 0)) rfl ?_
      refine to_cv (q := 129) (M1 := an_X10_readTest) (rest := []) rfl rfl (by decide) rfl ⟨_, rfl⟩ (hE sc ar l c e B j hI (by omega) el ec eB (by omega) eb hz (by omega) hT hr) (fun sc29 ar29 hx29 => ?_)
      obtain ⟨hI29, hG29, hu29, hr29, hy29, hd29⟩ := hx29
      have k29_4907 : sc29 4907 = nI l := (hG29.1 4907 (by decide)).trans el
      have hk29 : ∀ x, x < 700 * l + c → ar29 71 x = ar 71 x := fun x w => (hu29 x (by omega)).trans ((fun _ _ => rfl) x w)
      have hF29 := fr_t hF hG29 (by decide) (by decide)
      have t29 : ar29 67 = T := (hG29.2 67 (by decide)).trans hT
      rcases hy29 with ⟨hb29, k29, ey29, rs29⟩ | ⟨hb29, k29, ey29, bp29⟩
      · rcases hr29 with hbb29 | ⟨-, hz29, c29, B29, ec29, eB29, hcc29, hBB29, hB29, hpo29, sg29⟩
        · exact absurd hb29 hbb29
        · have sd29 := hd29 hb29 c29 (by omega) ec29
          refine to_eq (fr' := (67, [(0, .ref 49), (1, .int (nI w)), (2, .int 1)], [], gh S a b sc29 ar29 lo, ex, 0, 0)) rfl ?_
          refine to_lv (lv := [(0, .ref 49), (1, .int (nI w))]) rfl ⟨rfl, rfl, trivial⟩ ?_
          exact c67 401 c29 B29 k29 sc29 ar29 (by omega) ec29 eB29 k29_4907 hb29 hz29 hk29 (by omega) (by omega) (by omega) (seg_le sg29 (by omega)) (by omega) rs29 t29 (by simp only [pE1, ey29]) ⟨_, sd29, by simp only [vE1, ey29]⟩ hI29 hF29
      · refine to_eq (fr' := (67, [(0, .ref 49), (1, .int (nI w)), (2, .int 1)], [], gh S a b sc29 ar29 lo, ex, 0, 0)) rfl ?_
        refine to_n 1 (fr' := (68, [(0, .ref 49), (1, .int (nI w)), (2, .int 1)], [.ref 49], gh S a b sc29 ar29 lo, ex, 0, 0)) rfl ?_
        refine to_getR (v := (sc29 4941)) rfl rfl rfl rfl rfl ?_
        refine to_if_ne_T (t := 126) rfl hb29 ?_
        exact to_rt (i := .return_) (tg := []) rfl rfl ⟨_, _, ⟨hI29, hF29, ⟨hk29, Or.inl hb29, Or.inr ⟨hb29, k29, (by simp only [pE1, ey29]), bp29⟩, fun w => absurd w hb29⟩⟩, rfl⟩
    · refine to_n 2 (fr' := (19, [(0, .ref 49), (1, .int (nI w))], [.int 40, .ref 49], gh S a b sc ar lo, ex, 0, 0)) rfl ?_
      refine to_cp (q := 124) (M1 := an_X10_isSign) (rest := []) rfl rfl (by decide) rfl ⟨_, rfl⟩ (is_X10_isSign hW hI 40 (d + 4)) (fun x30 hx30 => ?_)
      obtain ⟨⟨n30, hn30, rfl⟩, hp30⟩ := hx30
      rw [ob_s (x := (40, -4)) hsm hr (by decide)] at hp30
      refine to_eq (fr' := (22, [(0, .ref 49), (1, .int (nI w))], [.int (nI n30)], gh S a b sc ar lo, ex, 0, 0)) rfl ?_
      refine to_nf_eq (t := 29) (x := n30) rfl (by omega) (fun q31 => ?_) (fun q31 => ?_)
      · refine to_n 6 (fr' := (37, [(0, .ref 49), (1, .int (nI w)), (2, .int 0)], [.int 1, .ref 49], gh S a b sc ar lo, ex, 0, 0)) rfl ?_
        refine to_cv (q := 125) (M1 := an_X10_wrong) (rest := []) rfl rfl (by decide) rfl ⟨_, rfl⟩ (sf_X10_wrong hW hI 1 (d + 4)) (fun sc32 ar32 hx32 => ?_)
        obtain ⟨hI32, hG32, hx32⟩ := hx32
        have hb32 := hx32.1 (by decide)
        have bp32 : sc32 4942 = nI (pl j) := (hx32.2 eb).trans hr.2.2.1
        have k32_4907 : sc32 4907 = (nI l) := (hG32.1 4907 (by decide)).trans el
        have k32_4934 : sc32 4934 = (nI c) := (hG32.1 4934 (by decide)).trans ec
        have k32_4939 : sc32 4939 = (nI B) := (hG32.1 4939 (by decide)).trans eB
        have hk32 : ∀ x, x < 700 * l + c → ar32 71 x = ar 71 x := kp_st (fun _ _ => rfl) hG32 (by decide)
        have hF32 := fr_t hF hG32 (by decide) (by decide)
        refine to_eq (fr' := (40, [(0, .ref 49), (1, .int (nI w)), (2, .int 0)], [], gh S a b sc32 ar32 lo, ex, 0, 0)) rfl ?_
        refine to_n 2 (fr' := (55, [(0, .ref 49), (1, .int (nI w)), (2, .int 0)], [.ref 49], gh S a b sc32 ar32 lo, ex, 0, 0)) rfl ?_
        refine to_getR (v := (sc32 4941)) rfl rfl rfl rfl rfl ?_
        refine to_if_eq_F (t := 62) rfl hb32 ?_
        exact to_rt (i := .return_) (tg := []) rfl rfl ⟨_, _, ⟨hI32, hF32, ⟨hk32, Or.inl hb32, Or.inr ⟨hb32, j, (pe_no (or_f hp30 q31) (ob_x hsm hr q26 q28)), bp32⟩, fun w => absurd w hb32⟩⟩, rfl⟩
      · refine to_n 7 (fr' := (46, [(0, .ref 49), (1, .int (nI w)), (2, .int 1)], [.int 6, .int (nI w)], gh S a b sc ar lo, ex, 0, 0)) rfl ?_
        refine to_nc_ne_T (t := 54) (x := w) (y := 6) rfl (by omega) (by omega) (by omega) ?_
        refine to_n 1 (fr' := (55, [(0, .ref 49), (1, .int (nI w)), (2, .int 1)], [.ref 49], gh S a b sc ar lo, ex, 0, 0)) rfl ?_
        refine to_getR (v := 0) rfl rfl rfl rfl eb ?_
        refine to_n 3 (fr' := (64, [(0, .ref 49), (1, .int (nI w)), (2, .int 1)], [.int (nI w), .ref 49], gh S a b sc ar lo, ex, 0, 0)) rfl ?_
        refine to_cv (q := 129) (M1 := an_X10_readTest) (rest := []) rfl rfl (by decide) rfl ⟨_, rfl⟩ (hE sc ar l c e B j hI (by omega) el ec eB (by omega) eb hz (by omega) hT hr) (fun sc33 ar33 hx33 => ?_)
        obtain ⟨hI33, hG33, hu33, hr33, hy33, hd33⟩ := hx33
        have k33_4907 : sc33 4907 = nI l := (hG33.1 4907 (by decide)).trans el
        have hk33 : ∀ x, x < 700 * l + c → ar33 71 x = ar 71 x := fun x w => (hu33 x (by omega)).trans ((fun _ _ => rfl) x w)
        have hF33 := fr_t hF hG33 (by decide) (by decide)
        have t33 : ar33 67 = T := (hG33.2 67 (by decide)).trans hT
        rcases hy33 with ⟨hb33, k33, ey33, rs33⟩ | ⟨hb33, k33, ey33, bp33⟩
        · rcases hr33 with hbb33 | ⟨-, hz33, c33, B33, ec33, eB33, hcc33, hBB33, hB33, hpo33, sg33⟩
          · exact absurd hb33 hbb33
          · have sd33 := hd33 hb33 c33 (by omega) ec33
            refine to_eq (fr' := (67, [(0, .ref 49), (1, .int (nI w)), (2, .int 1)], [], gh S a b sc33 ar33 lo, ex, 0, 0)) rfl ?_
            refine to_lv (lv := [(0, .ref 49), (1, .int (nI w))]) rfl ⟨rfl, rfl, trivial⟩ ?_
            exact c67 401 c33 B33 k33 sc33 ar33 (by omega) ec33 eB33 k33_4907 hb33 hz33 hk33 (by omega) (by omega) (by omega) (seg_le sg33 (by omega)) (by omega) rs33 t33 (by simp only [pE1, ey33]) ⟨_, sd33, by simp only [vE1, ey33]⟩ hI33 hF33
        · refine to_eq (fr' := (67, [(0, .ref 49), (1, .int (nI w)), (2, .int 1)], [], gh S a b sc33 ar33 lo, ex, 0, 0)) rfl ?_
          refine to_n 1 (fr' := (68, [(0, .ref 49), (1, .int (nI w)), (2, .int 1)], [.ref 49], gh S a b sc33 ar33 lo, ex, 0, 0)) rfl ?_
          refine to_getR (v := (sc33 4941)) rfl rfl rfl rfl rfl ?_
          refine to_if_ne_T (t := 126) rfl hb33 ?_
          exact to_rt (i := .return_) (tg := []) rfl rfl ⟨_, _, ⟨hI33, hF33, ⟨hk33, Or.inl hb33, Or.inr ⟨hb33, k33, (by simp only [pE1, ey33]), bp33⟩, fun w => absurd w hb33⟩⟩, rfl⟩
