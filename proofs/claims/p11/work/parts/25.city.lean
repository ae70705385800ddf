/-! City's constructor -/
theorem ai_in_nI {m n : Nat} (h : m < n) (hn : n < 2 ^ 31) : ai_in (nI m) n = true := by
  have h1 := nI_clamp (n := m) (by omega)
  have h2 := nI_pos (n := m) (by omega)
  simp [ai_in, h1, h2, h]
theorem ai_set_at {h : ai_H} {a : Nat} {x y : ai_C} (hh : h[a]? = some y) : (h.set a x)[a]? = some x := by
  have : a < h.length := (List.getElem?_eq_some_iff.mp hh).1
  simp [this]
theorem pv_fill {X : Nat × (Nat → Int32)} {h : ai_H} {a n : Nat} {f : Nat → Int32} (hh : h[a]? = some (.inl (0, n, .inl f))) (ha : a ≠ 1000000) (hn : n < 2 ^ 30) (v : Int32) (ex : Bool) (d : Nat) : ∃ g : Nat → Int32, (∀ j, j < n → g j = v) ∧ ai_Ev an_ms an_lk X 35 (d + 1) 168 [.ref a, .int v] h ex (.inl (none, h.set a (.inl (0, n, .inl g)), ex, 0, 0)) := by
  refine ⟨fun j => if j < n then v else f j, fun j hj => if_pos hj, ?_⟩
  have loop : ∀ m i : Nat, i + m = n → ∀ o, ag_Go X d an_J7_fill_53178 (20, [(0, .ref a), (1, .int v), (2, .int (nI n)), (3, .int (nI n))], [], h.set a (.inl (0, n, .inl (fun j => if j < n then v else f j))), ex, 0, 0) o → ag_Go X d an_J7_fill_53178 (5, [(0, .ref a), (1, .int v), (2, .int (nI i)), (3, .int (nI n))], [], h.set a (.inl (0, n, .inl (fun j => if j < i then v else f j))), ex, 0, 0) o := by
    intro m
    induction m with
    | zero =>
      intro i hi o k
      have : i = n := by omega
      subst this
      refine go_n 2 (fr' := (7, [(0, .ref a), (1, .int v), (2, .int (nI i)), (3, .int (nI i))], [.int (nI i), .int (nI i)], _, ex, 0, 0)) rfl ?_
      exact go_ic_ge (t := 20) rfl (fun _ => k) (fun q => absurd (Int32.le_refl _) q)
    | succ m ih =>
      intro i hi o k
      refine go_n 2 (fr' := (7, [(0, .ref a), (1, .int v), (2, .int (nI i)), (3, .int (nI n))], [.int (nI n), .int (nI i)], _, ex, 0, 0)) rfl ?_
      refine go_ic_ge (t := 20) rfl (fun q => absurd q (nI_ge (by omega) (by omega))) (fun q => ?_)
      refine go_n 3 (fr' := (13, [(0, .ref a), (1, .int v), (2, .int (nI i)), (3, .int (nI n))], [.int v, .int (nI i), .ref a], _, ex, 0, 0)) rfl ?_
      refine go_ias rfl (ai_set_at hh) (ai_in_nI (by omega) (by omega)) ?_
      refine go_n 2 (fr' := (5, [(0, .ref a), (1, .int v), (2, .int (nI i + 1)), (3, .int (nI n))], [], _, ex, 0, 0)) rfl ?_
      have e1 : upd (fun j => if j < i then v else f j) (nI i).toNatClampNeg v = fun j => if j < i + 1 then v else f j := by
        rw [nI_clamp (by omega)]
        funext j
        unfold upd
        by_cases h1 : j = i
        · simp [h1]
        · simp only [h1, if_false]
          by_cases h2 : j < i
          · rw [if_pos h2, if_pos (by omega)]
          · rw [if_neg h2, if_neg (by omega)]
      rw [List.set_set, e1, nI_1]
      exact ih (i + 1) (by omega) o k
  refine ev_of (M := an_J7_fill_53178) rfl (Nat.le_of_ble_eq_true rfl) ?_
  refine go_n 3 (fr' := (3, [(0, .ref a), (1, .int v), (2, .int (nI 0))], [.ref a], h, ex, 0, 0)) rfl ?_
  refine go_len rfl ha hh (by decide) ?_
  refine go_n 1 (fr' := (5, [(0, .ref a), (1, .int v), (2, .int (nI 0)), (3, .int (nI n))], [], h, ex, 0, 0)) rfl ?_
  have e0 : h = h.set a (.inl (0, n, .inl (fun j => if j < 0 then v else f j))) := by
    have e2 : (fun j => if j < 0 then v else f j) = f := by
      funext j
      simp
    rw [e2]
    obtain ⟨hl, he⟩ := List.getElem?_eq_some_iff.mp hh
    rw [← he]
    exact (List.set_getElem_self hl).symm
  refine go_eq (congrArg (fun w => (5, [(0, Value.ref a), (1, Value.int v), (2, Value.int (nI 0)), (3, Value.int (nI n))], ([] : List Value), w, ex, 0, 0)) e0) ?_
  refine loop n 0 (by omega) _ ?_
  exact go_rt (i := .return_) (tg := []) rfl rfl
abbrev ah_c (c0 : ai_C) (S : Nat) (z : Int32) (f1 f2 f3 g1 g2 : Nat → Int32) : ai_H := [c0, .inr (0, [.int z, .ref 2, .ref 3, .ref 4, .ref 5, .ref 6, .ref 7, .ref 8, .ref 9, .ref 10, .ref 11, .ref 12, .int 0]), .inl (0, S, .inl f1), .inl (0, S, .inl f2), .inl (0, 4 * S, .inl f3), .inl (0, S, .inl g1), .inl (0, S, .inl (fun _ => 0)), .inl (0, S, .inl (fun _ => 0)), .inl (0, S, .inl (fun _ => 0)), .inl (0, S, .inl (fun _ => 0)), .inl (0, S, .inl (fun _ => 0)), .inl (0, S, .inl g2), .inl (1, S, .inl (fun _ => 0))]
set_option maxRecDepth 10000 in
/-- one cell of the city is laid -/
theorem ci_cell {X : Nat × (Nat → Int32)} {d : Nat} {c0 : ai_C} {S : Nat} {z : Int32} {g1 g2 : Nat → Int32} {nc ns : Nat} {a b r c : Nat} (hS : S = a * b) (hS2 : S ≤ 64) (hr : r < b) (hc : c < a) (f1 f2 f3 : Nat → Int32) (t : List (Nat × Value)) (ht : t = [] ∨ ∃ y, t = [(5, .int y)]) : ∃ (f1' f2' f3' : Nat → Int32) (y : Int32), ∀ o, ag_Go X d an_X0_init (149, [(0, .ref 1), (1, .int (nI a)), (2, .int (nI b)), (3, .int (nI r)), (4, .int (nI (c + 1))), (5, .int y)], [], ah_c c0 S z f1' f2' f3' g1 g2, true, nc, ns) o → ag_Go X d an_X0_init (155, [(0, .ref 1), (1, .int (nI a)), (2, .int (nI b)), (3, .int (nI r)), (4, .int (nI c))] ++ t, [], ah_c c0 S z f1 f2 f3 g1 g2, true, nc, ns) o := by
  obtain ⟨e, he⟩ : ∃ e, e = nI r * nI a + nI c := ⟨_, rfl⟩
  have hk : r * a + c < S := by
    rw [hS]
    have h1 : (r + 1) * a ≤ b * a := Nat.mul_le_mul_right a hr
    rw [Nat.add_mul, Nat.one_mul] at h1
    rw [Nat.mul_comm a b]
    omega
  have hek : e = nI (r * a + c) := by rw [he, pk_mul, nI_add]
  have hin : ai_in e S = true := by rw [hek]; exact ai_in_nI hk (by omega)
  have hin4 : ∀ j, j < 4 → ai_in (4 * e + nI j) (4 * S) = true := by
    intro j hj
    rw [hek, show (4 : Int32) = nI 4 from rfl, pk_mul, nI_add]
    exact ai_in_nI (by omega) (by omega)
  have hin40 : ai_in (4 * e) (4 * S) = true := by
    rw [hek, show (4 : Int32) = nI 4 from rfl, pk_mul]
    exact ai_in_nI (by omega) (by omega)
  obtain ⟨v0, hv0⟩ : ∃ v : Int32, v = if nI r ≤ 0 then -1 else e - nI a := ⟨_, rfl⟩
  obtain ⟨v1, hv1⟩ : ∃ v : Int32, v = if nI c ≤ 0 then -1 else e - 1 := ⟨_, rfl⟩
  obtain ⟨v2, hv2⟩ : ∃ v : Int32, v = if nI a ≤ nI c + 1 then -1 else e + 1 := ⟨_, rfl⟩
  obtain ⟨v3, hv3⟩ : ∃ v : Int32, v = if nI b ≤ nI r + 1 then -1 else e + nI a := ⟨_, rfl⟩
  refine ⟨(upd f1 e.toNatClampNeg (nI c)), (upd f2 e.toNatClampNeg (nI r)), (upd (upd (upd (upd f3 (4 * e).toNatClampNeg v0) (4 * e + 1).toNatClampNeg v1) (4 * e + 2).toNatClampNeg v2) (4 * e + 3).toNatClampNeg v3), e, fun o k => ?_⟩
  have k163 : ag_Go X d an_X0_init (163, [(0, .ref 1), (1, .int (nI a)), (2, .int (nI b)), (3, .int (nI r)), (4, .int (nI c)), (5, .int e)], [], ah_c c0 S z f1 f2 f3 g1 g2, true, nc, ns) o := ?_
  · rcases ht with rfl | ⟨y, rfl⟩
    · exact go_n 6 (by rw [he]; rfl) k163
    · exact go_n 6 (by rw [he]; rfl) k163
  refine go_n 1 (fr' := (164, [(0, .ref 1), (1, .int (nI a)), (2, .int (nI b)), (3, .int (nI r)), (4, .int (nI c)), (5, .int e)], [.ref 1], ah_c c0 S z f1 f2 f3 g1 g2, true, nc, ns)) rfl ?_
  refine go_get rfl rfl rfl rfl ?_
  refine go_n 2 (fr' := (171, [(0, .ref 1), (1, .int (nI a)), (2, .int (nI b)), (3, .int (nI r)), (4, .int (nI c)), (5, .int e)], [.int (nI c), .int e, .ref 2], ah_c c0 S z f1 f2 f3 g1 g2, true, nc, ns)) rfl ?_
  refine go_ias rfl rfl hin ?_
  refine go_eq (fr' := (172, [(0, .ref 1), (1, .int (nI a)), (2, .int (nI b)), (3, .int (nI r)), (4, .int (nI c)), (5, .int e)], [], ah_c c0 S z (upd f1 e.toNatClampNeg (nI c)) f2 f3 g1 g2, true, nc, ns)) rfl ?_
  refine go_n 1 (fr' := (173, [(0, .ref 1), (1, .int (nI a)), (2, .int (nI b)), (3, .int (nI r)), (4, .int (nI c)), (5, .int e)], [.ref 1], ah_c c0 S z (upd f1 e.toNatClampNeg (nI c)) f2 f3 g1 g2, true, nc, ns)) rfl ?_
  refine go_get rfl rfl rfl rfl ?_
  refine go_n 2 (fr' := (179, [(0, .ref 1), (1, .int (nI a)), (2, .int (nI b)), (3, .int (nI r)), (4, .int (nI c)), (5, .int e)], [.int (nI r), .int e, .ref 3], ah_c c0 S z (upd f1 e.toNatClampNeg (nI c)) f2 f3 g1 g2, true, nc, ns)) rfl ?_
  refine go_ias rfl rfl hin ?_
  refine go_eq (fr' := (180, [(0, .ref 1), (1, .int (nI a)), (2, .int (nI b)), (3, .int (nI r)), (4, .int (nI c)), (5, .int e)], [], ah_c c0 S z (upd f1 e.toNatClampNeg (nI c)) (upd f2 e.toNatClampNeg (nI r)) f3 g1 g2, true, nc, ns)) rfl ?_
  refine go_n 1 (fr' := (181, [(0, .ref 1), (1, .int (nI a)), (2, .int (nI b)), (3, .int (nI r)), (4, .int (nI c)), (5, .int e)], [.ref 1], ah_c c0 S z (upd f1 e.toNatClampNeg (nI c)) (upd f2 e.toNatClampNeg (nI r)) f3 g1 g2, true, nc, ns)) rfl ?_
  refine go_get rfl rfl rfl rfl ?_
  have k200 : ag_Go X d an_X0_init (200, [(0, .ref 1), (1, .int (nI a)), (2, .int (nI b)), (3, .int (nI r)), (4, .int (nI c)), (5, .int e)], [.int v0, .int (4 * e), .ref 4], ah_c c0 S z (upd f1 e.toNatClampNeg (nI c)) (upd f2 e.toNatClampNeg (nI r)) f3 g1 g2, true, nc, ns) o := ?_
  · refine go_n 4 (fr' := (189, [(0, .ref 1), (1, .int (nI a)), (2, .int (nI b)), (3, .int (nI r)), (4, .int (nI c)), (5, .int e)], [.int (nI r), .int (4 * e), .ref 4], ah_c c0 S z (upd f1 e.toNatClampNeg (nI c)) (upd f2 e.toNatClampNeg (nI r)) f3 g1 g2, true, nc, ns)) rfl ?_
    refine go_if_le (t := 199) rfl (fun w => ?_) (fun w => ?_)
    · rw [if_pos w] at hv0
      exact go_n 1 (by rw [hv0]; rfl) k200
    · rw [if_neg w] at hv0
      exact go_n 4 (by rw [hv0]; rfl) k200
  refine go_ias rfl rfl hin40 ?_
  refine go_eq (fr' := (201, [(0, .ref 1), (1, .int (nI a)), (2, .int (nI b)), (3, .int (nI r)), (4, .int (nI c)), (5, .int e)], [], ah_c c0 S z (upd f1 e.toNatClampNeg (nI c)) (upd f2 e.toNatClampNeg (nI r)) (upd f3 (4 * e).toNatClampNeg v0) g1 g2, true, nc, ns)) rfl ?_
  refine go_n 1 (fr' := (202, [(0, .ref 1), (1, .int (nI a)), (2, .int (nI b)), (3, .int (nI r)), (4, .int (nI c)), (5, .int e)], [.ref 1], ah_c c0 S z (upd f1 e.toNatClampNeg (nI c)) (upd f2 e.toNatClampNeg (nI r)) (upd f3 (4 * e).toNatClampNeg v0) g1 g2, true, nc, ns)) rfl ?_
  refine go_get rfl rfl rfl rfl ?_
  have k224 : ag_Go X d an_X0_init (224, [(0, .ref 1), (1, .int (nI a)), (2, .int (nI b)), (3, .int (nI r)), (4, .int (nI c)), (5, .int e)], [.int v1, .int (4 * e + 1), .ref 4], ah_c c0 S z (upd f1 e.toNatClampNeg (nI c)) (upd f2 e.toNatClampNeg (nI r)) (upd f3 (4 * e).toNatClampNeg v0) g1 g2, true, nc, ns) o := ?_
  · refine go_n 6 (fr' := (213, [(0, .ref 1), (1, .int (nI a)), (2, .int (nI b)), (3, .int (nI r)), (4, .int (nI c)), (5, .int e)], [.int (nI c), .int (4 * e + 1), .ref 4], ah_c c0 S z (upd f1 e.toNatClampNeg (nI c)) (upd f2 e.toNatClampNeg (nI r)) (upd f3 (4 * e).toNatClampNeg v0) g1 g2, true, nc, ns)) rfl ?_
    refine go_if_le (t := 223) rfl (fun w => ?_) (fun w => ?_)
    · rw [if_pos w] at hv1
      exact go_n 1 (by rw [hv1]; rfl) k224
    · rw [if_neg w] at hv1
      exact go_n 4 (by rw [hv1]; rfl) k224
  refine go_ias rfl rfl (hin4 1 (by decide)) ?_
  refine go_eq (fr' := (225, [(0, .ref 1), (1, .int (nI a)), (2, .int (nI b)), (3, .int (nI r)), (4, .int (nI c)), (5, .int e)], [], ah_c c0 S z (upd f1 e.toNatClampNeg (nI c)) (upd f2 e.toNatClampNeg (nI r)) (upd (upd f3 (4 * e).toNatClampNeg v0) (4 * e + 1).toNatClampNeg v1) g1 g2, true, nc, ns)) rfl ?_
  refine go_n 1 (fr' := (226, [(0, .ref 1), (1, .int (nI a)), (2, .int (nI b)), (3, .int (nI r)), (4, .int (nI c)), (5, .int e)], [.ref 1], ah_c c0 S z (upd f1 e.toNatClampNeg (nI c)) (upd f2 e.toNatClampNeg (nI r)) (upd (upd f3 (4 * e).toNatClampNeg v0) (4 * e + 1).toNatClampNeg v1) g1 g2, true, nc, ns)) rfl ?_
  refine go_get rfl rfl rfl rfl ?_
  have k251 : ag_Go X d an_X0_init (251, [(0, .ref 1), (1, .int (nI a)), (2, .int (nI b)), (3, .int (nI r)), (4, .int (nI c)), (5, .int e)], [.int v2, .int (4 * e + 2), .ref 4], ah_c c0 S z (upd f1 e.toNatClampNeg (nI c)) (upd f2 e.toNatClampNeg (nI r)) (upd (upd f3 (4 * e).toNatClampNeg v0) (4 * e + 1).toNatClampNeg v1) g1 g2, true, nc, ns) o := ?_
  · refine go_n 9 (fr' := (240, [(0, .ref 1), (1, .int (nI a)), (2, .int (nI b)), (3, .int (nI r)), (4, .int (nI c)), (5, .int e)], [.int (nI a), .int (nI c + 1), .int (4 * e + 2), .ref 4], ah_c c0 S z (upd f1 e.toNatClampNeg (nI c)) (upd f2 e.toNatClampNeg (nI r)) (upd (upd f3 (4 * e).toNatClampNeg v0) (4 * e + 1).toNatClampNeg v1) g1 g2, true, nc, ns)) rfl ?_
    refine go_ic_ge (t := 250) rfl (fun w => ?_) (fun w => ?_)
    · rw [if_pos w] at hv2
      exact go_n 1 (by rw [hv2]; rfl) k251
    · rw [if_neg w] at hv2
      exact go_n 4 (by rw [hv2]; rfl) k251
  refine go_ias rfl rfl (hin4 2 (by decide)) ?_
  refine go_eq (fr' := (252, [(0, .ref 1), (1, .int (nI a)), (2, .int (nI b)), (3, .int (nI r)), (4, .int (nI c)), (5, .int e)], [], ah_c c0 S z (upd f1 e.toNatClampNeg (nI c)) (upd f2 e.toNatClampNeg (nI r)) (upd (upd (upd f3 (4 * e).toNatClampNeg v0) (4 * e + 1).toNatClampNeg v1) (4 * e + 2).toNatClampNeg v2) g1 g2, true, nc, ns)) rfl ?_
  refine go_n 1 (fr' := (253, [(0, .ref 1), (1, .int (nI a)), (2, .int (nI b)), (3, .int (nI r)), (4, .int (nI c)), (5, .int e)], [.ref 1], ah_c c0 S z (upd f1 e.toNatClampNeg (nI c)) (upd f2 e.toNatClampNeg (nI r)) (upd (upd (upd f3 (4 * e).toNatClampNeg v0) (4 * e + 1).toNatClampNeg v1) (4 * e + 2).toNatClampNeg v2) g1 g2, true, nc, ns)) rfl ?_
  refine go_get rfl rfl rfl rfl ?_
  have k277 : ag_Go X d an_X0_init (277, [(0, .ref 1), (1, .int (nI a)), (2, .int (nI b)), (3, .int (nI r)), (4, .int (nI c)), (5, .int e)], [.int v3, .int (4 * e + 3), .ref 4], ah_c c0 S z (upd f1 e.toNatClampNeg (nI c)) (upd f2 e.toNatClampNeg (nI r)) (upd (upd (upd f3 (4 * e).toNatClampNeg v0) (4 * e + 1).toNatClampNeg v1) (4 * e + 2).toNatClampNeg v2) g1 g2, true, nc, ns) o := ?_
  · refine go_n 9 (fr' := (266, [(0, .ref 1), (1, .int (nI a)), (2, .int (nI b)), (3, .int (nI r)), (4, .int (nI c)), (5, .int e)], [.int (nI b), .int (nI r + 1), .int (4 * e + 3), .ref 4], ah_c c0 S z (upd f1 e.toNatClampNeg (nI c)) (upd f2 e.toNatClampNeg (nI r)) (upd (upd (upd f3 (4 * e).toNatClampNeg v0) (4 * e + 1).toNatClampNeg v1) (4 * e + 2).toNatClampNeg v2) g1 g2, true, nc, ns)) rfl ?_
    refine go_ic_ge (t := 276) rfl (fun w => ?_) (fun w => ?_)
    · rw [if_pos w] at hv3
      exact go_n 1 (by rw [hv3]; rfl) k277
    · rw [if_neg w] at hv3
      exact go_n 4 (by rw [hv3]; rfl) k277
  refine go_ias rfl rfl (hin4 3 (by decide)) ?_
  refine go_eq (fr' := (278, [(0, .ref 1), (1, .int (nI a)), (2, .int (nI b)), (3, .int (nI r)), (4, .int (nI c)), (5, .int e)], [], ah_c c0 S z (upd f1 e.toNatClampNeg (nI c)) (upd f2 e.toNatClampNeg (nI r)) (upd (upd (upd (upd f3 (4 * e).toNatClampNeg v0) (4 * e + 1).toNatClampNeg v1) (4 * e + 2).toNatClampNeg v2) (4 * e + 3).toNatClampNeg v3) g1 g2, true, nc, ns)) rfl ?_
  refine go_n 2 (fr' := (149, [(0, .ref 1), (1, .int (nI a)), (2, .int (nI b)), (3, .int (nI r)), (4, .int (nI c + 1)), (5, .int e)], [], ah_c c0 S z (upd f1 e.toNatClampNeg (nI c)) (upd f2 e.toNatClampNeg (nI r)) (upd (upd (upd (upd f3 (4 * e).toNatClampNeg v0) (4 * e + 1).toNatClampNeg v1) (4 * e + 2).toNatClampNeg v2) (4 * e + 3).toNatClampNeg v3) g1 g2, true, nc, ns)) rfl ?_
  rw [nI_1]
  exact k
