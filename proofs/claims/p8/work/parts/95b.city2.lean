/-! City's constructor: its loops, and the whole of it -/
theorem ci_row {X : Nat × (Nat → Int32)} {d : Nat} {c0 : ai_C} {S : Nat} {z : Int32} {g1 g2 : Nat → Int32} {nc ns : Nat} {a b r : Nat} (hS : S = a * b) (hS2 : S ≤ 64) (hr : r < b) (ha8 : a ≤ 8) : ∀ (m c : Nat), c + m = a → ∀ (f1 f2 f3 : Nat → Int32) (t : List (Nat × Value)), (t = [] ∨ ∃ y, t = [(5, .int y)]) → (m = 0 → ∃ y, t = [(5, .int y)]) → ∃ (f1' f2' f3' : Nat → Int32) (y : Int32), ∀ o, ag_Go X d an_X0_init (284, [(0, .ref 1), (1, .int (nI a)), (2, .int (nI b)), (3, .int (nI r)), (4, .int (nI a)), (5, .int y)], [], ah_c c0 S z f1' f2' f3' g1 g2, true, nc, ns) o → ag_Go X d an_X0_init (149, [(0, .ref 1), (1, .int (nI a)), (2, .int (nI b)), (3, .int (nI r)), (4, .int (nI c))] ++ t, [], ah_c c0 S z f1 f2 f3 g1 g2, true, nc, ns) o := by
  intro m
  induction m with
  | zero =>
    intro c hc f1 f2 f3 t ht h0
    obtain ⟨y, rfl⟩ := h0 rfl
    have : c = a := by omega
    subst this
    refine ⟨f1, f2, f3, y, fun o k => ?_⟩
    refine go_n 2 (fr' := (152, [(0, .ref 1), (1, .int (nI c)), (2, .int (nI b)), (3, .int (nI r)), (4, .int (nI c)), (5, .int y)], [.int (nI c), .int (nI c)], ah_c c0 S z f1 f2 f3 g1 g2, true, nc, ns)) rfl ?_
    exact go_ic_ge (t := 284) rfl (fun _ => k) (fun q => absurd (Int32.le_refl _) q)
  | succ m ih =>
    intro c hc f1 f2 f3 t ht h0
    obtain ⟨f1a, f2a, f3a, y, hcell⟩ := ci_cell (X := X) (d := d) (c0 := c0) (z := z) (g1 := g1) (g2 := g2) (nc := nc) (ns := ns) hS hS2 hr (show c < a by omega) f1 f2 f3 t ht
    obtain ⟨f1b, f2b, f3b, y2, hrest⟩ := ih (c + 1) (by omega) f1a f2a f3a [(5, .int y)] (Or.inr ⟨y, rfl⟩) (fun _ => ⟨y, rfl⟩)
    refine ⟨f1b, f2b, f3b, y2, fun o k => ?_⟩
    have k1 := hcell o (hrest o k)
    rcases ht with rfl | ⟨y9, rfl⟩
    · refine go_n 2 (fr' := (152, [(0, .ref 1), (1, .int (nI a)), (2, .int (nI b)), (3, .int (nI r)), (4, .int (nI c))], [.int (nI a), .int (nI c)], ah_c c0 S z f1 f2 f3 g1 g2, true, nc, ns)) rfl ?_
      exact go_ic_ge (t := 284) rfl (fun q => absurd q (nI_ge (by omega) (by omega))) (fun _ => k1)
    · refine go_n 2 (fr' := (152, [(0, .ref 1), (1, .int (nI a)), (2, .int (nI b)), (3, .int (nI r)), (4, .int (nI c)), (5, .int y9)], [.int (nI a), .int (nI c)], ah_c c0 S z f1 f2 f3 g1 g2, true, nc, ns)) rfl ?_
      exact go_ic_ge (t := 284) rfl (fun q => absurd q (nI_ge (by omega) (by omega))) (fun _ => k1)
theorem ci_all {X : Nat × (Nat → Int32)} {d : Nat} {c0 : ai_C} {S : Nat} {z : Int32} {g1 g2 : Nat → Int32} {nc ns : Nat} {a b : Nat} (hS : S = a * b) (hS2 : S ≤ 64) (ha : 1 ≤ a) (ha8 : a ≤ 8) (hb8 : b ≤ 8) : ∀ (m r : Nat), r + m = b → ∀ (f1 f2 f3 : Nat → Int32) (t : List (Nat × Value)), (t = [] ∨ ∃ x y, t = [(4, .int x), (5, .int y)]) → ∃ (f1' f2' f3' : Nat → Int32) (t' : List (Nat × Value)), ∀ o, ag_Go X d an_X0_init (290, [(0, .ref 1), (1, .int (nI a)), (2, .int (nI b)), (3, .int (nI b))] ++ t', [], ah_c c0 S z f1' f2' f3' g1 g2, true, nc, ns) o → ag_Go X d an_X0_init (141, [(0, .ref 1), (1, .int (nI a)), (2, .int (nI b)), (3, .int (nI r))] ++ t, [], ah_c c0 S z f1 f2 f3 g1 g2, true, nc, ns) o := by
  intro m
  induction m with
  | zero =>
    intro r hr f1 f2 f3 t ht
    have : r = b := by omega
    subst this
    refine ⟨f1, f2, f3, t, fun o k => ?_⟩
    refine go_n 2 (fr' := (143, [(0, .ref 1), (1, .int (nI a)), (2, .int (nI r)), (3, .int (nI r))] ++ t, [.int (nI r), .int (nI r)], ah_c c0 S z f1 f2 f3 g1 g2, true, nc, ns)) rfl ?_
    exact go_ic_ge (t := 290) rfl (fun _ => k) (fun q => absurd (Int32.le_refl _) q)
  | succ m ih =>
    intro r hr f1 f2 f3 t ht
    have row : ∀ t5 : List (Nat × Value), (t5 = [] ∨ ∃ y, t5 = [(5, .int y)]) → ∃ (f1' f2' f3' : Nat → Int32) (t' : List (Nat × Value)), ∀ o, ag_Go X d an_X0_init (290, [(0, .ref 1), (1, .int (nI a)), (2, .int (nI b)), (3, .int (nI b))] ++ t', [], ah_c c0 S z f1' f2' f3' g1 g2, true, nc, ns) o → ag_Go X d an_X0_init (149, [(0, .ref 1), (1, .int (nI a)), (2, .int (nI b)), (3, .int (nI r)), (4, .int (nI 0))] ++ t5, [], ah_c c0 S z f1 f2 f3 g1 g2, true, nc, ns) o := by
      intro t5 ht5
      obtain ⟨f1a, f2a, f3a, y, hrow⟩ := ci_row (X := X) (d := d) (c0 := c0) (z := z) (g1 := g1) (g2 := g2) (nc := nc) (ns := ns) hS hS2 (show r < b by omega) ha8 a 0 (by omega) f1 f2 f3 t5 ht5 (fun h => by omega)
      obtain ⟨f1b, f2b, f3b, t', hrest⟩ := ih (r + 1) (by omega) f1a f2a f3a [(4, .int (nI a)), (5, .int y)] (Or.inr ⟨_, _, rfl⟩)
      refine ⟨f1b, f2b, f3b, t', fun o k => hrow o ?_⟩
      refine go_n 2 (fr' := (141, [(0, .ref 1), (1, .int (nI a)), (2, .int (nI b)), (3, .int (nI r + 1)), (4, .int (nI a)), (5, .int y)], [], ah_c c0 S z f1a f2a f3a g1 g2, true, nc, ns)) rfl ?_
      rw [nI_1]
      exact hrest o k
    rcases ht with rfl | ⟨x9, y9, rfl⟩
    · obtain ⟨f1b, f2b, f3b, t', hrest⟩ := row [] (Or.inl rfl)
      refine ⟨f1b, f2b, f3b, t', fun o k => ?_⟩
      refine go_n 2 (fr' := (143, [(0, .ref 1), (1, .int (nI a)), (2, .int (nI b)), (3, .int (nI r))], [.int (nI b), .int (nI r)], ah_c c0 S z f1 f2 f3 g1 g2, true, nc, ns)) rfl ?_
      refine go_ic_ge (t := 290) rfl (fun q => absurd q (nI_ge (by omega) (by omega))) (fun _ => ?_)
      exact go_n 2 rfl (hrest o k)
    · obtain ⟨f1b, f2b, f3b, t', hrest⟩ := row [(5, .int y9)] (Or.inr ⟨y9, rfl⟩)
      refine ⟨f1b, f2b, f3b, t', fun o k => ?_⟩
      refine go_n 2 (fr' := (143, [(0, .ref 1), (1, .int (nI a)), (2, .int (nI b)), (3, .int (nI r)), (4, .int x9), (5, .int y9)], [.int (nI b), .int (nI r)], ah_c c0 S z f1 f2 f3 g1 g2, true, nc, ns)) rfl ?_
      refine go_ic_ge (t := 290) rfl (fun q => absurd q (nI_ge (by omega) (by omega))) (fun _ => ?_)
      exact go_n 2 rfl (hrest o k)
set_option maxRecDepth 10000 in
/-- City(width, height): the rows of the cells, all ground, no roof taken -/
theorem pv_X0_init {X : Nat × (Nat → Int32)} {c0 : ai_C} {S a b : Nat} (hS : S = a * b) (hS2 : S ≤ 64) (ha : 1 ≤ a) (ha8 : a ≤ 8) (hb8 : b ≤ 8) (d : Nat) : ∃ (z : Int32) (f1 f2 f3 g1 g2 : Nat → Int32), z = nI S ∧ (∀ j, j < S → g1 j = -1) ∧ (∀ j, j < S → g2 j = -1) ∧ ai_Ev an_ms an_lk X 35 (d + 2) 1 [.ref 1, .int (nI a), .int (nI b)] [c0, .inr (0, [.int 0, .null, .null, .null, .null, .null, .null, .null, .null, .null, .null, .null, .int 0])] true (.inl (none, ah_c c0 S z f1 f2 f3 g1 g2, true, 11, (((((((((((((0 + S) + S) + (4 * S)) + S) + S) + S) + S) + S) + S) + S) + S) + 0) + 0))) := by
  obtain ⟨z, hzz⟩ : ∃ z, z = nI a * nI b := ⟨_, rfl⟩
  have hz : z = nI S := by rw [hzz, hS, pk_mul]
  obtain ⟨g1, hg1, e1⟩ := pv_fill (X := X) (h := [c0, .inr (0, [.int z, .ref 2, .ref 3, .ref 4, .ref 5, .ref 6, .ref 7, .ref 8, .ref 9, .ref 10, .ref 11, .ref 12, .int 0]), .inl (0, S, .inl (fun _ => 0)), .inl (0, S, .inl (fun _ => 0)), .inl (0, (4 * S), .inl (fun _ => 0)), .inl (0, S, .inl (fun _ => 0)), .inl (0, S, .inl (fun _ => 0)), .inl (0, S, .inl (fun _ => 0)), .inl (0, S, .inl (fun _ => 0)), .inl (0, S, .inl (fun _ => 0)), .inl (0, S, .inl (fun _ => 0)), .inl (0, S, .inl (fun _ => 0)), .inl (1, S, .inl (fun _ => 0))]) (a := 5) (n := S) (f := fun _ => 0) rfl (by decide) (by omega) (-1) true d
  obtain ⟨g2, hg2, e2⟩ := pv_fill (X := X) (h := [c0, .inr (0, [.int z, .ref 2, .ref 3, .ref 4, .ref 5, .ref 6, .ref 7, .ref 8, .ref 9, .ref 10, .ref 11, .ref 12, .int 0]), .inl (0, S, .inl (fun _ => 0)), .inl (0, S, .inl (fun _ => 0)), .inl (0, (4 * S), .inl (fun _ => 0)), .inl (0, S, .inl g1), .inl (0, S, .inl (fun _ => 0)), .inl (0, S, .inl (fun _ => 0)), .inl (0, S, .inl (fun _ => 0)), .inl (0, S, .inl (fun _ => 0)), .inl (0, S, .inl (fun _ => 0)), .inl (0, S, .inl (fun _ => 0)), .inl (1, S, .inl (fun _ => 0))]) (a := 11) (n := S) (f := fun _ => 0) rfl (by decide) (by omega) (-1) true d
  obtain ⟨f1, f2, f3, t', hl⟩ := ci_all (X := X) (d := d + 1) (c0 := c0) (z := z) (g1 := g1) (g2 := g2) (nc := 11) (ns := (((((((((((((0 + S) + S) + (4 * S)) + S) + S) + S) + S) + S) + S) + S) + S) + 0) + 0)) hS hS2 ha ha8 hb8 b 0 (by omega) (fun _ => 0) (fun _ => 0) (fun _ => 0) [] (Or.inl rfl)
  refine ⟨z, f1, f2, f3, g1, g2, hz, hg1, hg2, ?_⟩
  refine ev_of (M := an_X0_init) rfl (Nat.le_of_ble_eq_true rfl) ?_
  refine go_n 6 (fr' := (8, [(0, .ref 1), (1, .int (nI a)), (2, .int (nI b))], [.int z, .ref 1], [c0, .inr (0, [.int 0, .null, .null, .null, .null, .null, .null, .null, .null, .null, .null, .null, .int 0])], true, 0, 0)) (by rw [hzz]; rfl) ?_
  refine go_put rfl rfl rfl (Nat.le_of_ble_eq_true rfl) rfl ?_
  refine go_n 2 (fr' := (13, [(0, .ref 1), (1, .int (nI a)), (2, .int (nI b))], [.ref 1, .ref 1], [c0, .inr (0, [.int z, .null, .null, .null, .null, .null, .null, .null, .null, .null, .null, .null, .int 0])], true, 0, 0)) rfl ?_
  refine go_get rfl rfl rfl rfl ?_
  refine go_nwa (N := S) rfl hz (by omega) rfl (Nat.le_of_ble_eq_true rfl) ?_
  refine go_put rfl rfl rfl (Nat.le_of_ble_eq_true rfl) rfl ?_
  refine go_n 2 (fr' := (23, [(0, .ref 1), (1, .int (nI a)), (2, .int (nI b))], [.ref 1, .ref 1], [c0, .inr (0, [.int z, .ref 2, .null, .null, .null, .null, .null, .null, .null, .null, .null, .null, .int 0]), .inl (0, S, .inl (fun _ => 0))], true, 1, (0 + S))) rfl ?_
  refine go_get rfl rfl rfl rfl ?_
  refine go_nwa (N := S) rfl hz (by omega) rfl (Nat.le_of_ble_eq_true rfl) ?_
  refine go_put rfl rfl rfl (Nat.le_of_ble_eq_true rfl) rfl ?_
  refine go_n 3 (fr' := (34, [(0, .ref 1), (1, .int (nI a)), (2, .int (nI b))], [.ref 1, .int 4, .ref 1], [c0, .inr (0, [.int z, .ref 2, .ref 3, .null, .null, .null, .null, .null, .null, .null, .null, .null, .int 0]), .inl (0, S, .inl (fun _ => 0)), .inl (0, S, .inl (fun _ => 0))], true, 2, ((0 + S) + S))) rfl ?_
  refine go_get rfl rfl rfl rfl ?_
  refine go_n 1 (fr' := (38, [(0, .ref 1), (1, .int (nI a)), (2, .int (nI b))], [.int (4 * z), .ref 1], [c0, .inr (0, [.int z, .ref 2, .ref 3, .null, .null, .null, .null, .null, .null, .null, .null, .null, .int 0]), .inl (0, S, .inl (fun _ => 0)), .inl (0, S, .inl (fun _ => 0))], true, 2, ((0 + S) + S))) rfl ?_
  refine go_nwa (N := (4 * S)) rfl (by rw [hz, show (4 : Int32) = nI 4 from rfl, pk_mul]) (by omega) rfl (Nat.le_of_ble_eq_true rfl) ?_
  refine go_put rfl rfl rfl (Nat.le_of_ble_eq_true rfl) rfl ?_
  refine go_n 2 (fr' := (45, [(0, .ref 1), (1, .int (nI a)), (2, .int (nI b))], [.ref 1, .ref 1], [c0, .inr (0, [.int z, .ref 2, .ref 3, .ref 4, .null, .null, .null, .null, .null, .null, .null, .null, .int 0]), .inl (0, S, .inl (fun _ => 0)), .inl (0, S, .inl (fun _ => 0)), .inl (0, (4 * S), .inl (fun _ => 0))], true, 3, (((0 + S) + S) + (4 * S)))) rfl ?_
  refine go_get rfl rfl rfl rfl ?_
  refine go_nwa (N := S) rfl hz (by omega) rfl (Nat.le_of_ble_eq_true rfl) ?_
  refine go_put rfl rfl rfl (Nat.le_of_ble_eq_true rfl) rfl ?_
  refine go_n 2 (fr' := (55, [(0, .ref 1), (1, .int (nI a)), (2, .int (nI b))], [.ref 1, .ref 1], [c0, .inr (0, [.int z, .ref 2, .ref 3, .ref 4, .ref 5, .null, .null, .null, .null, .null, .null, .null, .int 0]), .inl (0, S, .inl (fun _ => 0)), .inl (0, S, .inl (fun _ => 0)), .inl (0, (4 * S), .inl (fun _ => 0)), .inl (0, S, .inl (fun _ => 0))], true, 4, ((((0 + S) + S) + (4 * S)) + S))) rfl ?_
  refine go_get rfl rfl rfl rfl ?_
  refine go_nwa (N := S) rfl hz (by omega) rfl (Nat.le_of_ble_eq_true rfl) ?_
  refine go_put rfl rfl rfl (Nat.le_of_ble_eq_true rfl) rfl ?_
  refine go_n 2 (fr' := (65, [(0, .ref 1), (1, .int (nI a)), (2, .int (nI b))], [.ref 1, .ref 1], [c0, .inr (0, [.int z, .ref 2, .ref 3, .ref 4, .ref 5, .ref 6, .null, .null, .null, .null, .null, .null, .int 0]), .inl (0, S, .inl (fun _ => 0)), .inl (0, S, .inl (fun _ => 0)), .inl (0, (4 * S), .inl (fun _ => 0)), .inl (0, S, .inl (fun _ => 0)), .inl (0, S, .inl (fun _ => 0))], true, 5, (((((0 + S) + S) + (4 * S)) + S) + S))) rfl ?_
  refine go_get rfl rfl rfl rfl ?_
  refine go_nwa (N := S) rfl hz (by omega) rfl (Nat.le_of_ble_eq_true rfl) ?_
  refine go_put rfl rfl rfl (Nat.le_of_ble_eq_true rfl) rfl ?_
  refine go_n 2 (fr' := (75, [(0, .ref 1), (1, .int (nI a)), (2, .int (nI b))], [.ref 1, .ref 1], [c0, .inr (0, [.int z, .ref 2, .ref 3, .ref 4, .ref 5, .ref 6, .ref 7, .null, .null, .null, .null, .null, .int 0]), .inl (0, S, .inl (fun _ => 0)), .inl (0, S, .inl (fun _ => 0)), .inl (0, (4 * S), .inl (fun _ => 0)), .inl (0, S, .inl (fun _ => 0)), .inl (0, S, .inl (fun _ => 0)), .inl (0, S, .inl (fun _ => 0))], true, 6, ((((((0 + S) + S) + (4 * S)) + S) + S) + S))) rfl ?_
  refine go_get rfl rfl rfl rfl ?_
  refine go_nwa (N := S) rfl hz (by omega) rfl (Nat.le_of_ble_eq_true rfl) ?_
  refine go_put rfl rfl rfl (Nat.le_of_ble_eq_true rfl) rfl ?_
  refine go_n 2 (fr' := (85, [(0, .ref 1), (1, .int (nI a)), (2, .int (nI b))], [.ref 1, .ref 1], [c0, .inr (0, [.int z, .ref 2, .ref 3, .ref 4, .ref 5, .ref 6, .ref 7, .ref 8, .null, .null, .null, .null, .int 0]), .inl (0, S, .inl (fun _ => 0)), .inl (0, S, .inl (fun _ => 0)), .inl (0, (4 * S), .inl (fun _ => 0)), .inl (0, S, .inl (fun _ => 0)), .inl (0, S, .inl (fun _ => 0)), .inl (0, S, .inl (fun _ => 0)), .inl (0, S, .inl (fun _ => 0))], true, 7, (((((((0 + S) + S) + (4 * S)) + S) + S) + S) + S))) rfl ?_
  refine go_get rfl rfl rfl rfl ?_
  refine go_nwa (N := S) rfl hz (by omega) rfl (Nat.le_of_ble_eq_true rfl) ?_
  refine go_put rfl rfl rfl (Nat.le_of_ble_eq_true rfl) rfl ?_
  refine go_n 2 (fr' := (95, [(0, .ref 1), (1, .int (nI a)), (2, .int (nI b))], [.ref 1, .ref 1], [c0, .inr (0, [.int z, .ref 2, .ref 3, .ref 4, .ref 5, .ref 6, .ref 7, .ref 8, .ref 9, .null, .null, .null, .int 0]), .inl (0, S, .inl (fun _ => 0)), .inl (0, S, .inl (fun _ => 0)), .inl (0, (4 * S), .inl (fun _ => 0)), .inl (0, S, .inl (fun _ => 0)), .inl (0, S, .inl (fun _ => 0)), .inl (0, S, .inl (fun _ => 0)), .inl (0, S, .inl (fun _ => 0)), .inl (0, S, .inl (fun _ => 0))], true, 8, ((((((((0 + S) + S) + (4 * S)) + S) + S) + S) + S) + S))) rfl ?_
  refine go_get rfl rfl rfl rfl ?_
  refine go_nwa (N := S) rfl hz (by omega) rfl (Nat.le_of_ble_eq_true rfl) ?_
  refine go_put rfl rfl rfl (Nat.le_of_ble_eq_true rfl) rfl ?_
  refine go_n 2 (fr' := (105, [(0, .ref 1), (1, .int (nI a)), (2, .int (nI b))], [.ref 1, .ref 1], [c0, .inr (0, [.int z, .ref 2, .ref 3, .ref 4, .ref 5, .ref 6, .ref 7, .ref 8, .ref 9, .ref 10, .null, .null, .int 0]), .inl (0, S, .inl (fun _ => 0)), .inl (0, S, .inl (fun _ => 0)), .inl (0, (4 * S), .inl (fun _ => 0)), .inl (0, S, .inl (fun _ => 0)), .inl (0, S, .inl (fun _ => 0)), .inl (0, S, .inl (fun _ => 0)), .inl (0, S, .inl (fun _ => 0)), .inl (0, S, .inl (fun _ => 0)), .inl (0, S, .inl (fun _ => 0))], true, 9, (((((((((0 + S) + S) + (4 * S)) + S) + S) + S) + S) + S) + S))) rfl ?_
  refine go_get rfl rfl rfl rfl ?_
  refine go_nwa (N := S) rfl hz (by omega) rfl (Nat.le_of_ble_eq_true rfl) ?_
  refine go_put rfl rfl rfl (Nat.le_of_ble_eq_true rfl) rfl ?_
  refine go_n 2 (fr' := (115, [(0, .ref 1), (1, .int (nI a)), (2, .int (nI b))], [.ref 1, .ref 1], [c0, .inr (0, [.int z, .ref 2, .ref 3, .ref 4, .ref 5, .ref 6, .ref 7, .ref 8, .ref 9, .ref 10, .ref 11, .null, .int 0]), .inl (0, S, .inl (fun _ => 0)), .inl (0, S, .inl (fun _ => 0)), .inl (0, (4 * S), .inl (fun _ => 0)), .inl (0, S, .inl (fun _ => 0)), .inl (0, S, .inl (fun _ => 0)), .inl (0, S, .inl (fun _ => 0)), .inl (0, S, .inl (fun _ => 0)), .inl (0, S, .inl (fun _ => 0)), .inl (0, S, .inl (fun _ => 0)), .inl (0, S, .inl (fun _ => 0))], true, 10, ((((((((((0 + S) + S) + (4 * S)) + S) + S) + S) + S) + S) + S) + S))) rfl ?_
  refine go_get rfl rfl rfl rfl ?_
  refine go_nwa (N := S) rfl hz (by omega) rfl (Nat.le_of_ble_eq_true rfl) ?_
  refine go_put rfl rfl rfl (Nat.le_of_ble_eq_true rfl) rfl ?_
  refine go_n 1 (fr' := (124, [(0, .ref 1), (1, .int (nI a)), (2, .int (nI b))], [.ref 1], [c0, .inr (0, [.int z, .ref 2, .ref 3, .ref 4, .ref 5, .ref 6, .ref 7, .ref 8, .ref 9, .ref 10, .ref 11, .ref 12, .int 0]), .inl (0, S, .inl (fun _ => 0)), .inl (0, S, .inl (fun _ => 0)), .inl (0, (4 * S), .inl (fun _ => 0)), .inl (0, S, .inl (fun _ => 0)), .inl (0, S, .inl (fun _ => 0)), .inl (0, S, .inl (fun _ => 0)), .inl (0, S, .inl (fun _ => 0)), .inl (0, S, .inl (fun _ => 0)), .inl (0, S, .inl (fun _ => 0)), .inl (0, S, .inl (fun _ => 0)), .inl (1, S, .inl (fun _ => 0))], true, 11, (((((((((((0 + S) + S) + (4 * S)) + S) + S) + S) + S) + S) + S) + S) + S))) rfl ?_
  refine go_get rfl rfl rfl rfl ?_
  refine go_n 1 (fr' := (128, [(0, .ref 1), (1, .int (nI a)), (2, .int (nI b))], [.int (-1), .ref 5], [c0, .inr (0, [.int z, .ref 2, .ref 3, .ref 4, .ref 5, .ref 6, .ref 7, .ref 8, .ref 9, .ref 10, .ref 11, .ref 12, .int 0]), .inl (0, S, .inl (fun _ => 0)), .inl (0, S, .inl (fun _ => 0)), .inl (0, (4 * S), .inl (fun _ => 0)), .inl (0, S, .inl (fun _ => 0)), .inl (0, S, .inl (fun _ => 0)), .inl (0, S, .inl (fun _ => 0)), .inl (0, S, .inl (fun _ => 0)), .inl (0, S, .inl (fun _ => 0)), .inl (0, S, .inl (fun _ => 0)), .inl (0, S, .inl (fun _ => 0)), .inl (1, S, .inl (fun _ => 0))], true, 11, (((((((((((0 + S) + S) + (4 * S)) + S) + S) + S) + S) + S) + S) + S) + S))) rfl ?_
  refine go_call (q := 167) (M1 := an_J7_fill_53178) rfl rfl (by decide) rfl trivial trivial (e1) ?_
  refine go_eq (fr' := (131, [(0, .ref 1), (1, .int (nI a)), (2, .int (nI b))], [], [c0, .inr (0, [.int z, .ref 2, .ref 3, .ref 4, .ref 5, .ref 6, .ref 7, .ref 8, .ref 9, .ref 10, .ref 11, .ref 12, .int 0]), .inl (0, S, .inl (fun _ => 0)), .inl (0, S, .inl (fun _ => 0)), .inl (0, (4 * S), .inl (fun _ => 0)), .inl (0, S, .inl g1), .inl (0, S, .inl (fun _ => 0)), .inl (0, S, .inl (fun _ => 0)), .inl (0, S, .inl (fun _ => 0)), .inl (0, S, .inl (fun _ => 0)), .inl (0, S, .inl (fun _ => 0)), .inl (0, S, .inl (fun _ => 0)), .inl (1, S, .inl (fun _ => 0))], true, 11, ((((((((((((0 + S) + S) + (4 * S)) + S) + S) + S) + S) + S) + S) + S) + S) + 0))) rfl ?_
  refine go_n 1 (fr' := (132, [(0, .ref 1), (1, .int (nI a)), (2, .int (nI b))], [.ref 1], [c0, .inr (0, [.int z, .ref 2, .ref 3, .ref 4, .ref 5, .ref 6, .ref 7, .ref 8, .ref 9, .ref 10, .ref 11, .ref 12, .int 0]), .inl (0, S, .inl (fun _ => 0)), .inl (0, S, .inl (fun _ => 0)), .inl (0, (4 * S), .inl (fun _ => 0)), .inl (0, S, .inl g1), .inl (0, S, .inl (fun _ => 0)), .inl (0, S, .inl (fun _ => 0)), .inl (0, S, .inl (fun _ => 0)), .inl (0, S, .inl (fun _ => 0)), .inl (0, S, .inl (fun _ => 0)), .inl (0, S, .inl (fun _ => 0)), .inl (1, S, .inl (fun _ => 0))], true, 11, ((((((((((((0 + S) + S) + (4 * S)) + S) + S) + S) + S) + S) + S) + S) + S) + 0))) rfl ?_
  refine go_get rfl rfl rfl rfl ?_
  refine go_n 1 (fr' := (136, [(0, .ref 1), (1, .int (nI a)), (2, .int (nI b))], [.int (-1), .ref 11], [c0, .inr (0, [.int z, .ref 2, .ref 3, .ref 4, .ref 5, .ref 6, .ref 7, .ref 8, .ref 9, .ref 10, .ref 11, .ref 12, .int 0]), .inl (0, S, .inl (fun _ => 0)), .inl (0, S, .inl (fun _ => 0)), .inl (0, (4 * S), .inl (fun _ => 0)), .inl (0, S, .inl g1), .inl (0, S, .inl (fun _ => 0)), .inl (0, S, .inl (fun _ => 0)), .inl (0, S, .inl (fun _ => 0)), .inl (0, S, .inl (fun _ => 0)), .inl (0, S, .inl (fun _ => 0)), .inl (0, S, .inl (fun _ => 0)), .inl (1, S, .inl (fun _ => 0))], true, 11, ((((((((((((0 + S) + S) + (4 * S)) + S) + S) + S) + S) + S) + S) + S) + S) + 0))) rfl ?_
  refine go_call (q := 167) (M1 := an_J7_fill_53178) rfl rfl (by decide) rfl trivial trivial (e2) ?_
  refine go_eq (fr' := (139, [(0, .ref 1), (1, .int (nI a)), (2, .int (nI b))], [], [c0, .inr (0, [.int z, .ref 2, .ref 3, .ref 4, .ref 5, .ref 6, .ref 7, .ref 8, .ref 9, .ref 10, .ref 11, .ref 12, .int 0]), .inl (0, S, .inl (fun _ => 0)), .inl (0, S, .inl (fun _ => 0)), .inl (0, (4 * S), .inl (fun _ => 0)), .inl (0, S, .inl g1), .inl (0, S, .inl (fun _ => 0)), .inl (0, S, .inl (fun _ => 0)), .inl (0, S, .inl (fun _ => 0)), .inl (0, S, .inl (fun _ => 0)), .inl (0, S, .inl (fun _ => 0)), .inl (0, S, .inl g2), .inl (1, S, .inl (fun _ => 0))], true, 11, (((((((((((((0 + S) + S) + (4 * S)) + S) + S) + S) + S) + S) + S) + S) + S) + 0) + 0))) rfl ?_
  refine go_n 2 (fr' := (141, [(0, .ref 1), (1, .int (nI a)), (2, .int (nI b)), (3, .int 0)], [], [c0, .inr (0, [.int z, .ref 2, .ref 3, .ref 4, .ref 5, .ref 6, .ref 7, .ref 8, .ref 9, .ref 10, .ref 11, .ref 12, .int 0]), .inl (0, S, .inl (fun _ => 0)), .inl (0, S, .inl (fun _ => 0)), .inl (0, (4 * S), .inl (fun _ => 0)), .inl (0, S, .inl g1), .inl (0, S, .inl (fun _ => 0)), .inl (0, S, .inl (fun _ => 0)), .inl (0, S, .inl (fun _ => 0)), .inl (0, S, .inl (fun _ => 0)), .inl (0, S, .inl (fun _ => 0)), .inl (0, S, .inl g2), .inl (1, S, .inl (fun _ => 0))], true, 11, (((((((((((((0 + S) + S) + (4 * S)) + S) + S) + S) + S) + S) + S) + S) + S) + 0) + 0))) rfl ?_
  refine go_eq (fr' := (141, [(0, .ref 1), (1, .int (nI a)), (2, .int (nI b)), (3, .int (nI 0))] ++ [], [], ah_c c0 S z (fun _ => 0) (fun _ => 0) (fun _ => 0) g1 g2, true, 11, (((((((((((((0 + S) + S) + (4 * S)) + S) + S) + S) + S) + S) + S) + S) + S) + 0) + 0))) rfl ?_
  exact hl _ (go_rt (i := .return_) (tg := []) rfl rfl)
