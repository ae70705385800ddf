/-! City's constructor: its loops, and the whole of it -/
/-! the squares: x, y and what is beside, as the constructor leaves them -/
def Gq (a b : Nat) (f1 f2 f3 : Nat → Int32) (k : Nat) : Prop := ∀ j, j < k → f1 j = nI (j % a) ∧ f2 j = nI (j / a) ∧ f3 (4 * j) = (if j / a = 0 then -1 else nI (j - a)) ∧ f3 (4 * j + 1) = (if j % a = 0 then -1 else nI (j - 1)) ∧ f3 (4 * j + 2) = (if a ≤ j % a + 1 then -1 else nI (j + 1)) ∧ f3 (4 * j + 3) = (if b ≤ j / a + 1 then -1 else nI (j + a))
theorem gq_eq {f : Nat → Int32} {i : Nat} {v : Int32} : upd f i v i = v := if_pos rfl
theorem gq_ne {f : Nat → Int32} {i j : Nat} {v : Int32} (h : ¬ j = i) : upd f i v j = f j := if_neg h
theorem gd_cell {a b r c S : Nat} {e v0 v1 v2 v3 : Int32} {f1 f2 f3 : Nat → Int32} (hek : e = nI (r * a + c)) (hc : c < a) (hr : r < b) (hk : r * a + c < S) (hS2 : S ≤ 64) (ha8 : a ≤ 64) (hb8 : b ≤ 64) (hv0 : v0 = if nI r ≤ 0 then -1 else e - nI a) (hv1 : v1 = if nI c ≤ 0 then -1 else e - 1) (hv2 : v2 = if nI a ≤ nI c + 1 then -1 else e + 1) (hv3 : v3 = if nI b ≤ nI r + 1 then -1 else e + nI a) (h : Gq a b f1 f2 f3 (r * a + c)) : Gq a b (upd f1 e.toNatClampNeg (nI c)) (upd f2 e.toNatClampNeg (nI r)) (upd (upd (upd (upd f3 (4 * e).toNatClampNeg v0) (4 * e + 1).toNatClampNeg v1) (4 * e + 2).toNatClampNeg v2) (4 * e + 3).toNatClampNeg v3) (r * a + c + 1) := by
  have m1 : (r * a + c) % a = c := by rw [Nat.mul_comm, Nat.mul_add_mod]; exact Nat.mod_eq_of_lt hc
  have d1 : (r * a + c) / a = r := by rw [Nat.mul_comm, Nat.mul_add_div (by omega), Nat.div_eq_of_lt hc, Nat.add_zero]
  have hcl : e.toNatClampNeg = r * a + c := by rw [hek]; exact nI_clamp (by omega)
  have h40 : (4 * e).toNatClampNeg = 4 * (r * a + c) := by rw [hek, show (4 : Int32) = nI 4 from rfl, pk_mul]; exact nI_clamp (by omega)
  have h41 : (4 * e + 1).toNatClampNeg = 4 * (r * a + c) + 1 := by rw [hek, show (4 : Int32) = nI 4 from rfl, show (1 : Int32) = nI 1 from rfl, pk_mul, nI_add]; exact nI_clamp (by omega)
  have h42 : (4 * e + 2).toNatClampNeg = 4 * (r * a + c) + 2 := by rw [hek, show (4 : Int32) = nI 4 from rfl, show (2 : Int32) = nI 2 from rfl, pk_mul, nI_add]; exact nI_clamp (by omega)
  have h43 : (4 * e + 3).toNatClampNeg = 4 * (r * a + c) + 3 := by rw [hek, show (4 : Int32) = nI 4 from rfl, show (3 : Int32) = nI 3 from rfl, pk_mul, nI_add]; exact nI_clamp (by omega)
  rw [hcl, h40, h41, h42, h43]
  intro j hj
  by_cases u : j = r * a + c
  · rw [u, m1, d1]
    have z0 : v0 = if r = 0 then -1 else nI (r * a + c - a) := by
      rw [hv0, hek]
      by_cases w : r = 0
      · subst w
        rw [if_pos rfl, if_pos (show nI 0 ≤ (0 : Int32) by decide)]
      · have := Nat.le_mul_of_pos_left a (show 0 < r by omega)
        rw [if_neg w, if_neg (fun q => w (by have := (nI_leI (b := 0) (by omega) (by omega)).mp q; omega)), nI_subN (by omega)]
    have z1 : v1 = if c = 0 then -1 else nI (r * a + c - 1) := by
      rw [hv1, hek]
      by_cases w : c = 0
      · subst w
        rw [if_pos rfl, if_pos (show nI 0 ≤ (0 : Int32) by decide)]
      · rw [if_neg w, if_neg (fun q => w (by have := (nI_leI (b := 0) (by omega) (by omega)).mp q; omega)), show (1 : Int32) = nI 1 from rfl, nI_subN (by omega)]
    have z2 : v2 = if a ≤ c + 1 then -1 else nI (r * a + c + 1) := by
      rw [hv2, hek, show (1 : Int32) = nI 1 from rfl, nI_add, nI_add]
      by_cases w : a ≤ c + 1
      · rw [if_pos w, if_pos ((nI_leI (by omega) (by omega)).mpr w)]
      · rw [if_neg w, if_neg (fun q => w ((nI_leI (by omega) (by omega)).mp q))]
    have z3 : v3 = if b ≤ r + 1 then -1 else nI (r * a + c + a) := by
      rw [hv3, hek, show (1 : Int32) = nI 1 from rfl, nI_add, nI_add]
      by_cases w : b ≤ r + 1
      · rw [if_pos w, if_pos ((nI_leI (by omega) (by omega)).mpr w)]
      · rw [if_neg w, if_neg (fun q => w ((nI_leI (by omega) (by omega)).mp q))]
    refine ⟨gq_eq, gq_eq, ?_, ?_, ?_, ?_⟩
    · rw [gq_ne (by omega), gq_ne (by omega), gq_ne (by omega), gq_eq]
      exact z0
    · rw [gq_ne (by omega), gq_ne (by omega), gq_eq]
      exact z1
    · rw [gq_ne (by omega), gq_eq]
      exact z2
    · rw [gq_eq]
      exact z3
  · obtain ⟨a1, a2, a3, a4, a5, a6⟩ := h j (by omega)
    rw [gq_ne u, gq_ne u, gq_ne (by omega), gq_ne (by omega), gq_ne (by omega), gq_ne (by omega), gq_ne (by omega), gq_ne (by omega), gq_ne (by omega), gq_ne (by omega), gq_ne (by omega), gq_ne (by omega), gq_ne (by omega), gq_ne (by omega), gq_ne (by omega), gq_ne (by omega), gq_ne (by omega), gq_ne (by omega)]
    exact ⟨a1, a2, a3, a4, a5, a6⟩
set_option maxRecDepth 10000 in
/-- one cell of the city is laid -/
theorem ci_cell2 {X : Nat × (Nat → Int32)} {d : Nat} {c0 : ai_C} {S : Nat} {z : Int32} {g1 g2 : Nat → Int32} {nc ns : Nat} {a b r c : Nat} (hS : S = a * b) (hS2 : S ≤ 64) (hr : r < b) (hc : c < a) (f1 f2 f3 : Nat → Int32) (t : List (Nat × Value)) (ht : t = [] ∨ ∃ y, t = [(5, .int y)]) : ∃ (f1' f2' f3' : Nat → Int32) (y : Int32), (Gq a b f1 f2 f3 (r * a + c) → Gq a b f1' f2' f3' (r * a + c + 1)) ∧ ∀ o, ag_Go X d an_X0_init (149, [(0, .ref 1), (1, .int (nI a)), (2, .int (nI b)), (3, .int (nI r)), (4, .int (nI (c + 1))), (5, .int y)], [], ah_c c0 S z f1' f2' f3' g1 g2, true, nc, ns) o → ag_Go X d an_X0_init (155, [(0, .ref 1), (1, .int (nI a)), (2, .int (nI b)), (3, .int (nI r)), (4, .int (nI c))] ++ t, [], ah_c c0 S z f1 f2 f3 g1 g2, true, nc, ns) o := by
  obtain ⟨e, he⟩ : ∃ e, e = nI r * nI a + nI c := ⟨_, rfl⟩
  have hk : r * a + c < S := by
    rw [hS]
    have h1 : (r + 1) * a ≤ b * a := Nat.mul_le_mul_right a hr
    rw [Nat.add_mul, Nat.one_mul] at h1
    rw [Nat.mul_comm a b]
    omega
  have hek : e = nI (r * a + c) := by rw [he, pk_mul, nI_add]
  have hin : ai_in e S = true := by rw [hek]; exact ai_in_nI hk (by omega)
  have hin4 : ∀ j, j < 4 → ai_in (4 * e + nI j) (4 * S) = true := by
    intro j hj
    rw [hek, show (4 : Int32) = nI 4 from rfl, pk_mul, nI_add]
    exact ai_in_nI (by omega) (by omega)
  have hin40 : ai_in (4 * e) (4 * S) = true := by
    rw [hek, show (4 : Int32) = nI 4 from rfl, pk_mul]
    exact ai_in_nI (by omega) (by omega)
  obtain ⟨v0, hv0⟩ : ∃ v : Int32, v = if nI r ≤ 0 then -1 else e - nI a := ⟨_, rfl⟩
  obtain ⟨v1, hv1⟩ : ∃ v : Int32, v = if nI c ≤ 0 then -1 else e - 1 := ⟨_, rfl⟩
  obtain ⟨v2, hv2⟩ : ∃ v : Int32, v = if nI a ≤ nI c + 1 then -1 else e + 1 := ⟨_, rfl⟩
  obtain ⟨v3, hv3⟩ : ∃ v : Int32, v = if nI b ≤ nI r + 1 then -1 else e + nI a := ⟨_, rfl⟩
  refine ⟨(upd f1 e.toNatClampNeg (nI c)), (upd f2 e.toNatClampNeg (nI r)), (upd (upd (upd (upd f3 (4 * e).toNatClampNeg v0) (4 * e + 1).toNatClampNeg v1) (4 * e + 2).toNatClampNeg v2) (4 * e + 3).toNatClampNeg v3), e, fun hq => gd_cell hek hc hr hk hS2 (by rw [hS] at hS2; exact Nat.le_trans (Nat.le_mul_of_pos_right a (by omega)) hS2) (by rw [hS] at hS2; exact Nat.le_trans (Nat.le_mul_of_pos_left b (by omega)) hS2) hv0 hv1 hv2 hv3 hq, fun o k => ?_⟩
  have k163 : ag_Go X d an_X0_init (163, [(0, .ref 1), (1, .int (nI a)), (2, .int (nI b)), (3, .int (nI r)), (4, .int (nI c)), (5, .int e)], [], ah_c c0 S z f1 f2 f3 g1 g2, true, nc, ns) o := ?_
  · rcases ht with rfl | ⟨y, rfl⟩
    · exact go_n 6 (by rw [he]; rfl) k163
    · exact go_n 6 (by rw [he]; rfl) k163
  refine go_n 1 (fr' := (164, [(0, .ref 1), (1, .int (nI a)), (2, .int (nI b)), (3, .int (nI r)), (4, .int (nI c)), (5, .int e)], [.ref 1], ah_c c0 S z f1 f2 f3 g1 g2, true, nc, ns)) rfl ?_
  refine go_get rfl rfl rfl rfl ?_
  refine go_n 2 (fr' := (171, [(0, .ref 1), (1, .int (nI a)), (2, .int (nI b)), (3, .int (nI r)), (4, .int (nI c)), (5, .int e)], [.int (nI c), .int e, .ref 2], ah_c c0 S z f1 f2 f3 g1 g2, true, nc, ns)) rfl ?_
  refine go_ias rfl rfl hin ?_
  refine go_eq (fr' := (172, [(0, .ref 1), (1, .int (nI a)), (2, .int (nI b)), (3, .int (nI r)), (4, .int (nI c)), (5, .int e)], [], ah_c c0 S z (upd f1 e.toNatClampNeg (nI c)) f2 f3 g1 g2, true, nc, ns)) rfl ?_
  refine go_n 1 (fr' := (173, [(0, .ref 1), (1, .int (nI a)), (2, .int (nI b)), (3, .int (nI r)), (4, .int (nI c)), (5, .int e)], [.ref 1], ah_c c0 S z (upd f1 e.toNatClampNeg (nI c)) f2 f3 g1 g2, true, nc, ns)) rfl ?_
  refine go_get rfl rfl rfl rfl ?_
  refine go_n 2 (fr' := (179, [(0, .ref 1), (1, .int (nI a)), (2, .int (nI b)), (3, .int (nI r)), (4, .int (nI c)), (5, .int e)], [.int (nI r), .int e, .ref 3], ah_c c0 S z (upd f1 e.toNatClampNeg (nI c)) f2 f3 g1 g2, true, nc, ns)) rfl ?_
  refine go_ias rfl rfl hin ?_
  refine go_eq (fr' := (180, [(0, .ref 1), (1, .int (nI a)), (2, .int (nI b)), (3, .int (nI r)), (4, .int (nI c)), (5, .int e)], [], ah_c c0 S z (upd f1 e.toNatClampNeg (nI c)) (upd f2 e.toNatClampNeg (nI r)) f3 g1 g2, true, nc, ns)) rfl ?_
  refine go_n 1 (fr' := (181, [(0, .ref 1), (1, .int (nI a)), (2, .int (nI b)), (3, .int (nI r)), (4, .int (nI c)), (5, .int e)], [.ref 1], ah_c c0 S z (upd f1 e.toNatClampNeg (nI c)) (upd f2 e.toNatClampNeg (nI r)) f3 g1 g2, true, nc, ns)) rfl ?_
  refine go_get rfl rfl rfl rfl ?_
  have k200 : ag_Go X d an_X0_init (200, [(0, .ref 1), (1, .int (nI a)), (2, .int (nI b)), (3, .int (nI r)), (4, .int (nI c)), (5, .int e)], [.int v0, .int (4 * e), .ref 4], ah_c c0 S z (upd f1 e.toNatClampNeg (nI c)) (upd f2 e.toNatClampNeg (nI r)) f3 g1 g2, true, nc, ns) o := ?_
  · refine go_n 4 (fr' := (189, [(0, .ref 1), (1, .int (nI a)), (2, .int (nI b)), (3, .int (nI r)), (4, .int (nI c)), (5, .int e)], [.int (nI r), .int (4 * e), .ref 4], ah_c c0 S z (upd f1 e.toNatClampNeg (nI c)) (upd f2 e.toNatClampNeg (nI r)) f3 g1 g2, true, nc, ns)) rfl ?_
    refine go_if_le (t := 199) rfl (fun w => ?_) (fun w => ?_)
    · rw [if_pos w] at hv0
      exact go_n 1 (by rw [hv0]; rfl) k200
    · rw [if_neg w] at hv0
      exact go_n 4 (by rw [hv0]; rfl) k200
  refine go_ias rfl rfl hin40 ?_
  refine go_eq (fr' := (201, [(0, .ref 1), (1, .int (nI a)), (2, .int (nI b)), (3, .int (nI r)), (4, .int (nI c)), (5, .int e)], [], ah_c c0 S z (upd f1 e.toNatClampNeg (nI c)) (upd f2 e.toNatClampNeg (nI r)) (upd f3 (4 * e).toNatClampNeg v0) g1 g2, true, nc, ns)) rfl ?_
  refine go_n 1 (fr' := (202, [(0, .ref 1), (1, .int (nI a)), (2, .int (nI b)), (3, .int (nI r)), (4, .int (nI c)), (5, .int e)], [.ref 1], ah_c c0 S z (upd f1 e.toNatClampNeg (nI c)) (upd f2 e.toNatClampNeg (nI r)) (upd f3 (4 * e).toNatClampNeg v0) g1 g2, true, nc, ns)) rfl ?_
  refine go_get rfl rfl rfl rfl ?_
  have k224 : ag_Go X d an_X0_init (224, [(0, .ref 1), (1, .int (nI a)), (2, .int (nI b)), (3, .int (nI r)), (4, .int (nI c)), (5, .int e)], [.int v1, .int (4 * e + 1), .ref 4], ah_c c0 S z (upd f1 e.toNatClampNeg (nI c)) (upd f2 e.toNatClampNeg (nI r)) (upd f3 (4 * e).toNatClampNeg v0) g1 g2, true, nc, ns) o := ?_
  · refine go_n 6 (fr' := (213, [(0, .ref 1), (1, .int (nI a)), (2, .int (nI b)), (3, .int (nI r)), (4, .int (nI c)), (5, .int e)], [.int (nI c), .int (4 * e + 1), .ref 4], ah_c c0 S z (upd f1 e.toNatClampNeg (nI c)) (upd f2 e.toNatClampNeg (nI r)) (upd f3 (4 * e).toNatClampNeg v0) g1 g2, true, nc, ns)) rfl ?_
    refine go_if_le (t := 223) rfl (fun w => ?_) (fun w => ?_)
    · rw [if_pos w] at hv1
      exact go_n 1 (by rw [hv1]; rfl) k224
    · rw [if_neg w] at hv1
      exact go_n 4 (by rw [hv1]; rfl) k224
  refine go_ias rfl rfl (hin4 1 (by decide)) ?_
  refine go_eq (fr' := (225, [(0, .ref 1), (1, .int (nI a)), (2, .int (nI b)), (3, .int (nI r)), (4, .int (nI c)), (5, .int e)], [], ah_c c0 S z (upd f1 e.toNatClampNeg (nI c)) (upd f2 e.toNatClampNeg (nI r)) (upd (upd f3 (4 * e).toNatClampNeg v0) (4 * e + 1).toNatClampNeg v1) g1 g2, true, nc, ns)) rfl ?_
  refine go_n 1 (fr' := (226, [(0, .ref 1), (1, .int (nI a)), (2, .int (nI b)), (3, .int (nI r)), (4, .int (nI c)), (5, .int e)], [.ref 1], ah_c c0 S z (upd f1 e.toNatClampNeg (nI c)) (upd f2 e.toNatClampNeg (nI r)) (upd (upd f3 (4 * e).toNatClampNeg v0) (4 * e + 1).toNatClampNeg v1) g1 g2, true, nc, ns)) rfl ?_
  refine go_get rfl rfl rfl rfl ?_
  have k251 : ag_Go X d an_X0_init (251, [(0, .ref 1), (1, .int (nI a)), (2, .int (nI b)), (3, .int (nI r)), (4, .int (nI c)), (5, .int e)], [.int v2, .int (4 * e + 2), .ref 4], ah_c c0 S z (upd f1 e.toNatClampNeg (nI c)) (upd f2 e.toNatClampNeg (nI r)) (upd (upd f3 (4 * e).toNatClampNeg v0) (4 * e + 1).toNatClampNeg v1) g1 g2, true, nc, ns) o := ?_
  · refine go_n 9 (fr' := (240, [(0, .ref 1), (1, .int (nI a)), (2, .int (nI b)), (3, .int (nI r)), (4, .int (nI c)), (5, .int e)], [.int (nI a), .int (nI c + 1), .int (4 * e + 2), .ref 4], ah_c c0 S z (upd f1 e.toNatClampNeg (nI c)) (upd f2 e.toNatClampNeg (nI r)) (upd (upd f3 (4 * e).toNatClampNeg v0) (4 * e + 1).toNatClampNeg v1) g1 g2, true, nc, ns)) rfl ?_
    refine go_ic_ge (t := 250) rfl (fun w => ?_) (fun w => ?_)
    · rw [if_pos w] at hv2
      exact go_n 1 (by rw [hv2]; rfl) k251
    · rw [if_neg w] at hv2
      exact go_n 4 (by rw [hv2]; rfl) k251
  refine go_ias rfl rfl (hin4 2 (by decide)) ?_
  refine go_eq (fr' := (252, [(0, .ref 1), (1, .int (nI a)), (2, .int (nI b)), (3, .int (nI r)), (4, .int (nI c)), (5, .int e)], [], ah_c c0 S z (upd f1 e.toNatClampNeg (nI c)) (upd f2 e.toNatClampNeg (nI r)) (upd (upd (upd f3 (4 * e).toNatClampNeg v0) (4 * e + 1).toNatClampNeg v1) (4 * e + 2).toNatClampNeg v2) g1 g2, true, nc, ns)) rfl ?_
  refine go_n 1 (fr' := (253, [(0, .ref 1), (1, .int (nI a)), (2, .int (nI b)), (3, .int (nI r)), (4, .int (nI c)), (5, .int e)], [.ref 1], ah_c c0 S z (upd f1 e.toNatClampNeg (nI c)) (upd f2 e.toNatClampNeg (nI r)) (upd (upd (upd f3 (4 * e).toNatClampNeg v0) (4 * e + 1).toNatClampNeg v1) (4 * e + 2).toNatClampNeg v2) g1 g2, true, nc, ns)) rfl ?_
  refine go_get rfl rfl rfl rfl ?_
  have k277 : ag_Go X d an_X0_init (277, [(0, .ref 1), (1, .int (nI a)), (2, .int (nI b)), (3, .int (nI r)), (4, .int (nI c)), (5, .int e)], [.int v3, .int (4 * e + 3), .ref 4], ah_c c0 S z (upd f1 e.toNatClampNeg (nI c)) (upd f2 e.toNatClampNeg (nI r)) (upd (upd (upd f3 (4 * e).toNatClampNeg v0) (4 * e + 1).toNatClampNeg v1) (4 * e + 2).toNatClampNeg v2) g1 g2, true, nc, ns) o := ?_
  · refine go_n 9 (fr' := (266, [(0, .ref 1), (1, .int (nI a)), (2, .int (nI b)), (3, .int (nI r)), (4, .int (nI c)), (5, .int e)], [.int (nI b), .int (nI r + 1), .int (4 * e + 3), .ref 4], ah_c c0 S z (upd f1 e.toNatClampNeg (nI c)) (upd f2 e.toNatClampNeg (nI r)) (upd (upd (upd f3 (4 * e).toNatClampNeg v0) (4 * e + 1).toNatClampNeg v1) (4 * e + 2).toNatClampNeg v2) g1 g2, true, nc, ns)) rfl ?_
    refine go_ic_ge (t := 276) rfl (fun w => ?_) (fun w => ?_)
    · rw [if_pos w] at hv3
      exact go_n 1 (by rw [hv3]; rfl) k277
    · rw [if_neg w] at hv3
      exact go_n 4 (by rw [hv3]; rfl) k277
  refine go_ias rfl rfl (hin4 3 (by decide)) ?_
  refine go_eq (fr' := (278, [(0, .ref 1), (1, .int (nI a)), (2, .int (nI b)), (3, .int (nI r)), (4, .int (nI c)), (5, .int e)], [], ah_c c0 S z (upd f1 e.toNatClampNeg (nI c)) (upd f2 e.toNatClampNeg (nI r)) (upd (upd (upd (upd f3 (4 * e).toNatClampNeg v0) (4 * e + 1).toNatClampNeg v1) (4 * e + 2).toNatClampNeg v2) (4 * e + 3).toNatClampNeg v3) g1 g2, true, nc, ns)) rfl ?_
  refine go_n 2 (fr' := (149, [(0, .ref 1), (1, .int (nI a)), (2, .int (nI b)), (3, .int (nI r)), (4, .int (nI c + 1)), (5, .int e)], [], ah_c c0 S z (upd f1 e.toNatClampNeg (nI c)) (upd f2 e.toNatClampNeg (nI r)) (upd (upd (upd (upd f3 (4 * e).toNatClampNeg v0) (4 * e + 1).toNatClampNeg v1) (4 * e + 2).toNatClampNeg v2) (4 * e + 3).toNatClampNeg v3) g1 g2, true, nc, ns)) rfl ?_
  rw [nI_1]
  exact k
theorem ci_row {X : Nat × (Nat → Int32)} {d : Nat} {c0 : ai_C} {S : Nat} {z : Int32} {g1 g2 : Nat → Int32} {nc ns : Nat} {a b r : Nat} (hS : S = a * b) (hS2 : S ≤ 64) (hr : r < b) (ha8 : a ≤ 8) : ∀ (m c : Nat), c + m = a → ∀ (f1 f2 f3 : Nat → Int32) (t : List (Nat × Value)), (t = [] ∨ ∃ y, t = [(5, .int y)]) → (m = 0 → ∃ y, t = [(5, .int y)]) → ∃ (f1' f2' f3' : Nat → Int32) (y : Int32), (Gq a b f1 f2 f3 (r * a + c) → Gq a b f1' f2' f3' (r * a + a)) ∧ ∀ o, ag_Go X d an_X0_init (284, [(0, .ref 1), (1, .int (nI a)), (2, .int (nI b)), (3, .int (nI r)), (4, .int (nI a)), (5, .int y)], [], ah_c c0 S z f1' f2' f3' g1 g2, true, nc, ns) o → ag_Go X d an_X0_init (149, [(0, .ref 1), (1, .int (nI a)), (2, .int (nI b)), (3, .int (nI r)), (4, .int (nI c))] ++ t, [], ah_c c0 S z f1 f2 f3 g1 g2, true, nc, ns) o := by
  intro m
  induction m with
  | zero =>
    intro c hc f1 f2 f3 t ht h0
    obtain ⟨y, rfl⟩ := h0 rfl
    have : c = a := by omega
    subst this
    refine ⟨f1, f2, f3, y, fun hq => hq, fun o k => ?_⟩
    refine go_n 2 (fr' := (152, [(0, .ref 1), (1, .int (nI c)), (2, .int (nI b)), (3, .int (nI r)), (4, .int (nI c)), (5, .int y)], [.int (nI c), .int (nI c)], ah_c c0 S z f1 f2 f3 g1 g2, true, nc, ns)) rfl ?_
    exact go_ic_ge (t := 284) rfl (fun _ => k) (fun q => absurd (Int32.le_refl _) q)
  | succ m ih =>
    intro c hc f1 f2 f3 t ht h0
    obtain ⟨f1a, f2a, f3a, y, gcell, hcell⟩ := ci_cell2 (X := X) (d := d) (c0 := c0) (z := z) (g1 := g1) (g2 := g2) (nc := nc) (ns := ns) hS hS2 hr (show c < a by omega) f1 f2 f3 t ht
    obtain ⟨f1b, f2b, f3b, y2, grest, hrest⟩ := ih (c + 1) (by omega) f1a f2a f3a [(5, .int y)] (Or.inr ⟨y, rfl⟩) (fun _ => ⟨y, rfl⟩)
    refine ⟨f1b, f2b, f3b, y2, fun hq => grest (gcell hq), fun o k => ?_⟩
    have k1 := hcell o (hrest o k)
    rcases ht with rfl | ⟨y9, rfl⟩
    · refine go_n 2 (fr' := (152, [(0, .ref 1), (1, .int (nI a)), (2, .int (nI b)), (3, .int (nI r)), (4, .int (nI c))], [.int (nI a), .int (nI c)], ah_c c0 S z f1 f2 f3 g1 g2, true, nc, ns)) rfl ?_
      exact go_ic_ge (t := 284) rfl (fun q => absurd q (nI_ge (by omega) (by omega))) (fun _ => k1)
    · refine go_n 2 (fr' := (152, [(0, .ref 1), (1, .int (nI a)), (2, .int (nI b)), (3, .int (nI r)), (4, .int (nI c)), (5, .int y9)], [.int (nI a), .int (nI c)], ah_c c0 S z f1 f2 f3 g1 g2, true, nc, ns)) rfl ?_
      exact go_ic_ge (t := 284) rfl (fun q => absurd q (nI_ge (by omega) (by omega))) (fun _ => k1)
theorem ci_all {X : Nat × (Nat → Int32)} {d : Nat} {c0 : ai_C} {S : Nat} {z : Int32} {g1 g2 : Nat → Int32} {nc ns : Nat} {a b : Nat} (hS : S = a * b) (hS2 : S ≤ 64) (ha : 1 ≤ a) (ha8 : a ≤ 8) (hb8 : b ≤ 8) : ∀ (m r : Nat), r + m = b → ∀ (f1 f2 f3 : Nat → Int32) (t : List (Nat × Value)), (t = [] ∨ ∃ x y, t = [(4, .int x), (5, .int y)]) → ∃ (f1' f2' f3' : Nat → Int32) (t' : List (Nat × Value)), (Gq a b f1 f2 f3 (r * a) → Gq a b f1' f2' f3' (b * a)) ∧ ∀ o, ag_Go X d an_X0_init (290, [(0, .ref 1), (1, .int (nI a)), (2, .int (nI b)), (3, .int (nI b))] ++ t', [], ah_c c0 S z f1' f2' f3' g1 g2, true, nc, ns) o → ag_Go X d an_X0_init (141, [(0, .ref 1), (1, .int (nI a)), (2, .int (nI b)), (3, .int (nI r))] ++ t, [], ah_c c0 S z f1 f2 f3 g1 g2, true, nc, ns) o := by
  intro m
  induction m with
  | zero =>
    intro r hr f1 f2 f3 t ht
    have : r = b := by omega
    subst this
    refine ⟨f1, f2, f3, t, fun hq => hq, fun o k => ?_⟩
    refine go_n 2 (fr' := (143, [(0, .ref 1), (1, .int (nI a)), (2, .int (nI r)), (3, .int (nI r))] ++ t, [.int (nI r), .int (nI r)], ah_c c0 S z f1 f2 f3 g1 g2, true, nc, ns)) rfl ?_
    exact go_ic_ge (t := 290) rfl (fun _ => k) (fun q => absurd (Int32.le_refl _) q)
  | succ m ih =>
    intro r hr f1 f2 f3 t ht
    have row : ∀ t5 : List (Nat × Value), (t5 = [] ∨ ∃ y, t5 = [(5, .int y)]) → ∃ (f1' f2' f3' : Nat → Int32) (t' : List (Nat × Value)), (Gq a b f1 f2 f3 (r * a) → Gq a b f1' f2' f3' (b * a)) ∧ ∀ o, ag_Go X d an_X0_init (290, [(0, .ref 1), (1, .int (nI a)), (2, .int (nI b)), (3, .int (nI b))] ++ t', [], ah_c c0 S z f1' f2' f3' g1 g2, true, nc, ns) o → ag_Go X d an_X0_init (149, [(0, .ref 1), (1, .int (nI a)), (2, .int (nI b)), (3, .int (nI r)), (4, .int (nI 0))] ++ t5, [], ah_c c0 S z f1 f2 f3 g1 g2, true, nc, ns) o := by
      intro t5 ht5
      obtain ⟨f1a, f2a, f3a, y, grow, hrow⟩ := ci_row (X := X) (d := d) (c0 := c0) (z := z) (g1 := g1) (g2 := g2) (nc := nc) (ns := ns) hS hS2 (show r < b by omega) ha8 a 0 (by omega) f1 f2 f3 t5 ht5 (fun h => by omega)
      obtain ⟨f1b, f2b, f3b, t', grest, hrest⟩ := ih (r + 1) (by omega) f1a f2a f3a [(4, .int (nI a)), (5, .int y)] (Or.inr ⟨_, _, rfl⟩)
      refine ⟨f1b, f2b, f3b, t', fun hq => grest (by rw [Nat.add_mul, Nat.one_mul]; exact grow hq), fun o k => hrow o ?_⟩
      refine go_n 2 (fr' := (141, [(0, .ref 1), (1, .int (nI a)), (2, .int (nI b)), (3, .int (nI r + 1)), (4, .int (nI a)), (5, .int y)], [], ah_c c0 S z f1a f2a f3a g1 g2, true, nc, ns)) rfl ?_
      rw [nI_1]
      exact hrest o k
    rcases ht with rfl | ⟨x9, y9, rfl⟩
    · obtain ⟨f1b, f2b, f3b, t', grest, hrest⟩ := row [] (Or.inl rfl)
      refine ⟨f1b, f2b, f3b, t', grest, fun o k => ?_⟩
      refine go_n 2 (fr' := (143, [(0, .ref 1), (1, .int (nI a)), (2, .int (nI b)), (3, .int (nI r))], [.int (nI b), .int (nI r)], ah_c c0 S z f1 f2 f3 g1 g2, true, nc, ns)) rfl ?_
      refine go_ic_ge (t := 290) rfl (fun q => absurd q (nI_ge (by omega) (by omega))) (fun _ => ?_)
      exact go_n 2 rfl (hrest o k)
    · obtain ⟨f1b, f2b, f3b, t', grest, hrest⟩ := row [(5, .int y9)] (Or.inr ⟨y9, rfl⟩)
      refine ⟨f1b, f2b, f3b, t', grest, fun o k => ?_⟩
      refine go_n 2 (fr' := (143, [(0, .ref 1), (1, .int (nI a)), (2, .int (nI b)), (3, .int (nI r)), (4, .int x9), (5, .int y9)], [.int (nI b), .int (nI r)], ah_c c0 S z f1 f2 f3 g1 g2, true, nc, ns)) rfl ?_
      refine go_ic_ge (t := 290) rfl (fun q => absurd q (nI_ge (by omega) (by omega))) (fun _ => ?_)
      exact go_n 2 rfl (hrest o k)
set_option maxRecDepth 10000 in
/-- City(width, height): the rows of the cells, all ground, no roof taken -/
theorem pv_X0_init {X : Nat × (Nat → Int32)} {c0 : ai_C} {S a b : Nat} (hS : S = a * b) (hS2 : S ≤ 64) (ha : 1 ≤ a) (ha8 : a ≤ 8) (hb8 : b ≤ 8) (d : Nat) : ∃ (z : Int32) (f1 f2 f3 g1 g2 : Nat → Int32), z = nI S ∧ ((∀ j, j < S → g1 j = -1) ∧ Gq a b f1 f2 f3 S) ∧ (∀ j, j < S → g2 j = -1) ∧ ai_Ev an_ms an_lk X 35 (d + 2) 1 [.ref 1, .int (nI a), .int (nI b)] [c0, .inr (0, [.int 0, .null, .null, .null, .null, .null, .null, .null, .null, .null, .null, .null, .int 0])] true (.inl (none, ah_c c0 S z f1 f2 f3 g1 g2, true, 11, (((((((((((((0 + S) + S) + (4 * S)) + S) + S) + S) + S) + S) + S) + S) + S) + 0) + 0))) := by
  obtain ⟨z, hzz⟩ : ∃ z, z = nI a * nI b := ⟨_, rfl⟩
  have hz : z = nI S := by rw [hzz, hS, pk_mul]
  obtain ⟨g1, hg1, e1⟩ := pv_fill (X := X) (h := [c0, .inr (0, [.int z, .ref 2, .ref 3, .ref 4, .ref 5, .ref 6, .ref 7, .ref 8, .ref 9, .ref 10, .ref 11, .ref 12, .int 0]), .inl (0, S, .inl (fun _ => 0)), .inl (0, S, .inl (fun _ => 0)), .inl (0, (4 * S), .inl (fun _ => 0)), .inl (0, S, .inl (fun _ => 0)), .inl (0, S, .inl (fun _ => 0)), .inl (0, S, .inl (fun _ => 0)), .inl (0, S, .inl (fun _ => 0)), .inl (0, S, .inl (fun _ => 0)), .inl (0, S, .inl (fun _ => 0)), .inl (0, S, .inl (fun _ => 0)), .inl (1, S, .inl (fun _ => 0))]) (a := 5) (n := S) (f := fun _ => 0) rfl (by decide) (by omega) (-1) true d
  obtain ⟨g2, hg2, e2⟩ := pv_fill (X := X) (h := [c0, .inr (0, [.int z, .ref 2, .ref 3, .ref 4, .ref 5, .ref 6, .ref 7, .ref 8, .ref 9, .ref 10, .ref 11, .ref 12, .int 0]), .inl (0, S, .inl (fun _ => 0)), .inl (0, S, .inl (fun _ => 0)), .inl (0, (4 * S), .inl (fun _ => 0)), .inl (0, S, .inl g1), .inl (0, S, .inl (fun _ => 0)), .inl (0, S, .inl (fun _ => 0)), .inl (0, S, .inl (fun _ => 0)), .inl (0, S, .inl (fun _ => 0)), .inl (0, S, .inl (fun _ => 0)), .inl (0, S, .inl (fun _ => 0)), .inl (1, S, .inl (fun _ => 0))]) (a := 11) (n := S) (f := fun _ => 0) rfl (by decide) (by omega) (-1) true d
  obtain ⟨f1, f2, f3, t', gall, hl⟩ := ci_all (X := X) (d := d + 1) (c0 := c0) (z := z) (g1 := g1) (g2 := g2) (nc := 11) (ns := (((((((((((((0 + S) + S) + (4 * S)) + S) + S) + S) + S) + S) + S) + S) + S) + 0) + 0)) hS hS2 ha ha8 hb8 b 0 (by omega) (fun _ => 0) (fun _ => 0) (fun _ => 0) [] (Or.inl rfl)
  refine ⟨z, f1, f2, f3, g1, g2, hz, ⟨hg1, by rw [hS, Nat.mul_comm]; exact gall (fun j hj => absurd hj (by rw [Nat.zero_mul]; exact Nat.not_lt_zero _))⟩, hg2, ?_⟩
  refine ev_of (M := an_X0_init) rfl (Nat.le_of_ble_eq_true rfl) ?_
  refine go_n 6 (fr' := (8, [(0, .ref 1), (1, .int (nI a)), (2, .int (nI b))], [.int z, .ref 1], [c0, .inr (0, [.int 0, .null, .null, .null, .null, .null, .null, .null, .null, .null, .null, .null, .int 0])], true, 0, 0)) (by rw [hzz]; rfl) ?_
  refine go_put rfl rfl rfl (Nat.le_of_ble_eq_true rfl) rfl ?_
  refine go_n 2 (fr' := (13, [(0, .ref 1), (1, .int (nI a)), (2, .int (nI b))], [.ref 1, .ref 1], [c0, .inr (0, [.int z, .null, .null, .null, .null, .null, .null, .null, .null, .null, .null, .null, .int 0])], true, 0, 0)) rfl ?_
  refine go_get rfl rfl rfl rfl ?_
  refine go_nwa (N := S) rfl hz (by omega) rfl (Nat.le_of_ble_eq_true rfl) ?_
  refine go_put rfl rfl rfl (Nat.le_of_ble_eq_true rfl) rfl ?_
  refine go_n 2 (fr' := (23, [(0, .ref 1), (1, .int (nI a)), (2, .int (nI b))], [.ref 1, .ref 1], [c0, .inr (0, [.int z, .ref 2, .null, .null, .null, .null, .null, .null, .null, .null, .null, .null, .int 0]), .inl (0, S, .inl (fun _ => 0))], true, 1, (0 + S))) rfl ?_
  refine go_get rfl rfl rfl rfl ?_
  refine go_nwa (N := S) rfl hz (by omega) rfl (Nat.le_of_ble_eq_true rfl) ?_
  refine go_put rfl rfl rfl (Nat.le_of_ble_eq_true rfl) rfl ?_
  refine go_n 3 (fr' := (34, [(0, .ref 1), (1, .int (nI a)), (2, .int (nI b))], [.ref 1, .int 4, .ref 1], [c0, .inr (0, [.int z, .ref 2, .ref 3, .null, .null, .null, .null, .null, .null, .null, .null, .null, .int 0]), .inl (0, S, .inl (fun _ => 0)), .inl (0, S, .inl (fun _ => 0))], true, 2, ((0 + S) + S))) rfl ?_
  refine go_get rfl rfl rfl rfl ?_
  refine go_n 1 (fr' := (38, [(0, .ref 1), (1, .int (nI a)), (2, .int (nI b))], [.int (4 * z), .ref 1], [c0, .inr (0, [.int z, .ref 2, .ref 3, .null, .null, .null, .null, .null, .null, .null, .null, .null, .int 0]), .inl (0, S, .inl (fun _ => 0)), .inl (0, S, .inl (fun _ => 0))], true, 2, ((0 + S) + S))) rfl ?_
  refine go_nwa (N := (4 * S)) rfl (by rw [hz, show (4 : Int32) = nI 4 from rfl, pk_mul]) (by omega) rfl (Nat.le_of_ble_eq_true rfl) ?_
  refine go_put rfl rfl rfl (Nat.le_of_ble_eq_true rfl) rfl ?_
  refine go_n 2 (fr' := (45, [(0, .ref 1), (1, .int (nI a)), (2, .int (nI b))], [.ref 1, .ref 1], [c0, .inr (0, [.int z, .ref 2, .ref 3, .ref 4, .null, .null, .null, .null, .null, .null, .null, .null, .int 0]), .inl (0, S, .inl (fun _ => 0)), .inl (0, S, .inl (fun _ => 0)), .inl (0, (4 * S), .inl (fun _ => 0))], true, 3, (((0 + S) + S) + (4 * S)))) rfl ?_
  refine go_get rfl rfl rfl rfl ?_
  refine go_nwa (N := S) rfl hz (by omega) rfl (Nat.le_of_ble_eq_true rfl) ?_
  refine go_put rfl rfl rfl (Nat.le_of_ble_eq_true rfl) rfl ?_
  refine go_n 2 (fr' := (55, [(0, .ref 1), (1, .int (nI a)), (2, .int (nI b))], [.ref 1, .ref 1], [c0, .inr (0, [.int z, .ref 2, .ref 3, .ref 4, .ref 5, .null, .null, .null, .null, .null, .null, .null, .int 0]), .inl (0, S, .inl (fun _ => 0)), .inl (0, S, .inl (fun _ => 0)), .inl (0, (4 * S), .inl (fun _ => 0)), .inl (0, S, .inl (fun _ => 0))], true, 4, ((((0 + S) + S) + (4 * S)) + S))) rfl ?_
  refine go_get rfl rfl rfl rfl ?_
  refine go_nwa (N := S) rfl hz (by omega) rfl (Nat.le_of_ble_eq_true rfl) ?_
  refine go_put rfl rfl rfl (Nat.le_of_ble_eq_true rfl) rfl ?_
  refine go_n 2 (fr' := (65, [(0, .ref 1), (1, .int (nI a)), (2, .int (nI b))], [.ref 1, .ref 1], [c0, .inr (0, [.int z, .ref 2, .ref 3, .ref 4, .ref 5, .ref 6, .null, .null, .null, .null, .null, .null, .int 0]), .inl (0, S, .inl (fun _ => 0)), .inl (0, S, .inl (fun _ => 0)), .inl (0, (4 * S), .inl (fun _ => 0)), .inl (0, S, .inl (fun _ => 0)), .inl (0, S, .inl (fun _ => 0))], true, 5, (((((0 + S) + S) + (4 * S)) + S) + S))) rfl ?_
  refine go_get rfl rfl rfl rfl ?_
  refine go_nwa (N := S) rfl hz (by omega) rfl (Nat.le_of_ble_eq_true rfl) ?_
  refine go_put rfl rfl rfl (Nat.le_of_ble_eq_true rfl) rfl ?_
  refine go_n 2 (fr' := (75, [(0, .ref 1), (1, .int (nI a)), (2, .int (nI b))], [.ref 1, .ref 1], [c0, .inr (0, [.int z, .ref 2, .ref 3, .ref 4, .ref 5, .ref 6, .ref 7, .null, .null, .null, .null, .null, .int 0]), .inl (0, S, .inl (fun _ => 0)), .inl (0, S, .inl (fun _ => 0)), .inl (0, (4 * S), .inl (fun _ => 0)), .inl (0, S, .inl (fun _ => 0)), .inl (0, S, .inl (fun _ => 0)), .inl (0, S, .inl (fun _ => 0))], true, 6, ((((((0 + S) + S) + (4 * S)) + S) + S) + S))) rfl ?_
  refine go_get rfl rfl rfl rfl ?_
  refine go_nwa (N := S) rfl hz (by omega) rfl (Nat.le_of_ble_eq_true rfl) ?_
  refine go_put rfl rfl rfl (Nat.le_of_ble_eq_true rfl) rfl ?_
  refine go_n 2 (fr' := (85, [(0, .ref 1), (1, .int (nI a)), (2, .int (nI b))], [.ref 1, .ref 1], [c0, .inr (0, [.int z, .ref 2, .ref 3, .ref 4, .ref 5, .ref 6, .ref 7, .ref 8, .null, .null, .null, .null, .int 0]), .inl (0, S, .inl (fun _ => 0)), .inl (0, S, .inl (fun _ => 0)), .inl (0, (4 * S), .inl (fun _ => 0)), .inl (0, S, .inl (fun _ => 0)), .inl (0, S, .inl (fun _ => 0)), .inl (0, S, .inl (fun _ => 0)), .inl (0, S, .inl (fun _ => 0))], true, 7, (((((((0 + S) + S) + (4 * S)) + S) + S) + S) + S))) rfl ?_
  refine go_get rfl rfl rfl rfl ?_
  refine go_nwa (N := S) rfl hz (by omega) rfl (Nat.le_of_ble_eq_true rfl) ?_
  refine go_put rfl rfl rfl (Nat.le_of_ble_eq_true rfl) rfl ?_
  refine go_n 2 (fr' := (95, [(0, .ref 1), (1, .int (nI a)), (2, .int (nI b))], [.ref 1, .ref 1], [c0, .inr (0, [.int z, .ref 2, .ref 3, .ref 4, .ref 5, .ref 6, .ref 7, .ref 8, .ref 9, .null, .null, .null, .int 0]), .inl (0, S, .inl (fun _ => 0)), .inl (0, S, .inl (fun _ => 0)), .inl (0, (4 * S), .inl (fun _ => 0)), .inl (0, S, .inl (fun _ => 0)), .inl (0, S, .inl (fun _ => 0)), .inl (0, S, .inl (fun _ => 0)), .inl (0, S, .inl (fun _ => 0)), .inl (0, S, .inl (fun _ => 0))], true, 8, ((((((((0 + S) + S) + (4 * S)) + S) + S) + S) + S) + S))) rfl ?_
  refine go_get rfl rfl rfl rfl ?_
  refine go_nwa (N := S) rfl hz (by omega) rfl (Nat.le_of_ble_eq_true rfl) ?_
  refine go_put rfl rfl rfl (Nat.le_of_ble_eq_true rfl) rfl ?_
  refine go_n 2 (fr' := (105, [(0, .ref 1), (1, .int (nI a)), (2, .int (nI b))], [.ref 1, .ref 1], [c0, .inr (0, [.int z, .ref 2, .ref 3, .ref 4, .ref 5, .ref 6, .ref 7, .ref 8, .ref 9, .ref 10, .null, .null, .int 0]), .inl (0, S, .inl (fun _ => 0)), .inl (0, S, .inl (fun _ => 0)), .inl (0, (4 * S), .inl (fun _ => 0)), .inl (0, S, .inl (fun _ => 0)), .inl (0, S, .inl (fun _ => 0)), .inl (0, S, .inl (fun _ => 0)), .inl (0, S, .inl (fun _ => 0)), .inl (0, S, .inl (fun _ => 0)), .inl (0, S, .inl (fun _ => 0))], true, 9, (((((((((0 + S) + S) + (4 * S)) + S) + S) + S) + S) + S) + S))) rfl ?_
  refine go_get rfl rfl rfl rfl ?_
  refine go_nwa (N := S) rfl hz (by omega) rfl (Nat.le_of_ble_eq_true rfl) ?_
  refine go_put rfl rfl rfl (Nat.le_of_ble_eq_true rfl) rfl ?_
  refine go_n 2 (fr' := (115, [(0, .ref 1), (1, .int (nI a)), (2, .int (nI b))], [.ref 1, .ref 1], [c0, .inr (0, [.int z, .ref 2, .ref 3, .ref 4, .ref 5, .ref 6, .ref 7, .ref 8, .ref 9, .ref 10, .ref 11, .null, .int 0]), .inl (0, S, .inl (fun _ => 0)), .inl (0, S, .inl (fun _ => 0)), .inl (0, (4 * S), .inl (fun _ => 0)), .inl (0, S, .inl (fun _ => 0)), .inl (0, S, .inl (fun _ => 0)), .inl (0, S, .inl (fun _ => 0)), .inl (0, S, .inl (fun _ => 0)), .inl (0, S, .inl (fun _ => 0)), .inl (0, S, .inl (fun _ => 0)), .inl (0, S, .inl (fun _ => 0))], true, 10, ((((((((((0 + S) + S) + (4 * S)) + S) + S) + S) + S) + S) + S) + S))) rfl ?_
  refine go_get rfl rfl rfl rfl ?_
  refine go_nwa (N := S) rfl hz (by omega) rfl (Nat.le_of_ble_eq_true rfl) ?_
  refine go_put rfl rfl rfl (Nat.le_of_ble_eq_true rfl) rfl ?_
  refine go_n 1 (fr' := (124, [(0, .ref 1), (1, .int (nI a)), (2, .int (nI b))], [.ref 1], [c0, .inr (0, [.int z, .ref 2, .ref 3, .ref 4, .ref 5, .ref 6, .ref 7, .ref 8, .ref 9, .ref 10, .ref 11, .ref 12, .int 0]), .inl (0, S, .inl (fun _ => 0)), .inl (0, S, .inl (fun _ => 0)), .inl (0, (4 * S), .inl (fun _ => 0)), .inl (0, S, .inl (fun _ => 0)), .inl (0, S, .inl (fun _ => 0)), .inl (0, S, .inl (fun _ => 0)), .inl (0, S, .inl (fun _ => 0)), .inl (0, S, .inl (fun _ => 0)), .inl (0, S, .inl (fun _ => 0)), .inl (0, S, .inl (fun _ => 0)), .inl (1, S, .inl (fun _ => 0))], true, 11, (((((((((((0 + S) + S) + (4 * S)) + S) + S) + S) + S) + S) + S) + S) + S))) rfl ?_
  refine go_get rfl rfl rfl rfl ?_
  refine go_n 1 (fr' := (128, [(0, .ref 1), (1, .int (nI a)), (2, .int (nI b))], [.int (-1), .ref 5], [c0, .inr (0, [.int z, .ref 2, .ref 3, .ref 4, .ref 5, .ref 6, .ref 7, .ref 8, .ref 9, .ref 10, .ref 11, .ref 12, .int 0]), .inl (0, S, .inl (fun _ => 0)), .inl (0, S, .inl (fun _ => 0)), .inl (0, (4 * S), .inl (fun _ => 0)), .inl (0, S, .inl (fun _ => 0)), .inl (0, S, .inl (fun _ => 0)), .inl (0, S, .inl (fun _ => 0)), .inl (0, S, .inl (fun _ => 0)), .inl (0, S, .inl (fun _ => 0)), .inl (0, S, .inl (fun _ => 0)), .inl (0, S, .inl (fun _ => 0)), .inl (1, S, .inl (fun _ => 0))], true, 11, (((((((((((0 + S) + S) + (4 * S)) + S) + S) + S) + S) + S) + S) + S) + S))) rfl ?_
  refine go_call (q := 168) (M1 := an_J7_fill_53178) rfl rfl (by decide) rfl trivial trivial (e1) ?_
  refine go_eq (fr' := (131, [(0, .ref 1), (1, .int (nI a)), (2, .int (nI b))], [], [c0, .inr (0, [.int z, .ref 2, .ref 3, .ref 4, .ref 5, .ref 6, .ref 7, .ref 8, .ref 9, .ref 10, .ref 11, .ref 12, .int 0]), .inl (0, S, .inl (fun _ => 0)), .inl (0, S, .inl (fun _ => 0)), .inl (0, (4 * S), .inl (fun _ => 0)), .inl (0, S, .inl g1), .inl (0, S, .inl (fun _ => 0)), .inl (0, S, .inl (fun _ => 0)), .inl (0, S, .inl (fun _ => 0)), .inl (0, S, .inl (fun _ => 0)), .inl (0, S, .inl (fun _ => 0)), .inl (0, S, .inl (fun _ => 0)), .inl (1, S, .inl (fun _ => 0))], true, 11, ((((((((((((0 + S) + S) + (4 * S)) + S) + S) + S) + S) + S) + S) + S) + S) + 0))) rfl ?_
  refine go_n 1 (fr' := (132, [(0, .ref 1), (1, .int (nI a)), (2, .int (nI b))], [.ref 1], [c0, .inr (0, [.int z, .ref 2, .ref 3, .ref 4, .ref 5, .ref 6, .ref 7, .ref 8, .ref 9, .ref 10, .ref 11, .ref 12, .int 0]), .inl (0, S, .inl (fun _ => 0)), .inl (0, S, .inl (fun _ => 0)), .inl (0, (4 * S), .inl (fun _ => 0)), .inl (0, S, .inl g1), .inl (0, S, .inl (fun _ => 0)), .inl (0, S, .inl (fun _ => 0)), .inl (0, S, .inl (fun _ => 0)), .inl (0, S, .inl (fun _ => 0)), .inl (0, S, .inl (fun _ => 0)), .inl (0, S, .inl (fun _ => 0)), .inl (1, S, .inl (fun _ => 0))], true, 11, ((((((((((((0 + S) + S) + (4 * S)) + S) + S) + S) + S) + S) + S) + S) + S) + 0))) rfl ?_
  refine go_get rfl rfl rfl rfl ?_
  refine go_n 1 (fr' := (136, [(0, .ref 1), (1, .int (nI a)), (2, .int (nI b))], [.int (-1), .ref 11], [c0, .inr (0, [.int z, .ref 2, .ref 3, .ref 4, .ref 5, .ref 6, .ref 7, .ref 8, .ref 9, .ref 10, .ref 11, .ref 12, .int 0]), .inl (0, S, .inl (fun _ => 0)), .inl (0, S, .inl (fun _ => 0)), .inl (0, (4 * S), .inl (fun _ => 0)), .inl (0, S, .inl g1), .inl (0, S, .inl (fun _ => 0)), .inl (0, S, .inl (fun _ => 0)), .inl (0, S, .inl (fun _ => 0)), .inl (0, S, .inl (fun _ => 0)), .inl (0, S, .inl (fun _ => 0)), .inl (0, S, .inl (fun _ => 0)), .inl (1, S, .inl (fun _ => 0))], true, 11, ((((((((((((0 + S) + S) + (4 * S)) + S) + S) + S) + S) + S) + S) + S) + S) + 0))) rfl ?_
  refine go_call (q := 168) (M1 := an_J7_fill_53178) rfl rfl (by decide) rfl trivial trivial (e2) ?_
  refine go_eq (fr' := (139, [(0, .ref 1), (1, .int (nI a)), (2, .int (nI b))], [], [c0, .inr (0, [.int z, .ref 2, .ref 3, .ref 4, .ref 5, .ref 6, .ref 7, .ref 8, .ref 9, .ref 10, .ref 11, .ref 12, .int 0]), .inl (0, S, .inl (fun _ => 0)), .inl (0, S, .inl (fun _ => 0)), .inl (0, (4 * S), .inl (fun _ => 0)), .inl (0, S, .inl g1), .inl (0, S, .inl (fun _ => 0)), .inl (0, S, .inl (fun _ => 0)), .inl (0, S, .inl (fun _ => 0)), .inl (0, S, .inl (fun _ => 0)), .inl (0, S, .inl (fun _ => 0)), .inl (0, S, .inl g2), .inl (1, S, .inl (fun _ => 0))], true, 11, (((((((((((((0 + S) + S) + (4 * S)) + S) + S) + S) + S) + S) + S) + S) + S) + 0) + 0))) rfl ?_
  refine go_n 2 (fr' := (141, [(0, .ref 1), (1, .int (nI a)), (2, .int (nI b)), (3, .int 0)], [], [c0, .inr (0, [.int z, .ref 2, .ref 3, .ref 4, .ref 5, .ref 6, .ref 7, .ref 8, .ref 9, .ref 10, .ref 11, .ref 12, .int 0]), .inl (0, S, .inl (fun _ => 0)), .inl (0, S, .inl (fun _ => 0)), .inl (0, (4 * S), .inl (fun _ => 0)), .inl (0, S, .inl g1), .inl (0, S, .inl (fun _ => 0)), .inl (0, S, .inl (fun _ => 0)), .inl (0, S, .inl (fun _ => 0)), .inl (0, S, .inl (fun _ => 0)), .inl (0, S, .inl (fun _ => 0)), .inl (0, S, .inl g2), .inl (1, S, .inl (fun _ => 0))], true, 11, (((((((((((((0 + S) + S) + (4 * S)) + S) + S) + S) + S) + S) + S) + S) + S) + 0) + 0))) rfl ?_
  refine go_eq (fr' := (141, [(0, .ref 1), (1, .int (nI a)), (2, .int (nI b)), (3, .int (nI 0))] ++ [], [], ah_c c0 S z (fun _ => 0) (fun _ => 0) (fun _ => 0) g1 g2, true, 11, (((((((((((((0 + S) + S) + (4 * S)) + S) + S) + S) + S) + S) + S) + S) + S) + 0) + 0))) rfl ?_
  exact hl _ (go_rt (i := .return_) (tg := []) rfl rfl)
