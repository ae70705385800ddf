/-! the law up to its switch -/
theorem pv_L_cell {X : Nat × (Nat → Int32)} {h : ai_H} {j : Nat} (hj : j ≤ 8) (hL : X.1 ≤ 3074) (ex : Bool) (d : Nat) : ai_Ev an_ms an_lk X 35 (d + 1) 169 [.ref 1000000, .int (nI j)] h ex (.inl (some (.int (if j < X.1 then X.2 j else 0)), h, ex, 0, 0)) := by
  refine ev_of (M := an_L_cell) rfl (Nat.le_of_ble_eq_true rfl) ?_
  refine go_n 3 (fr' := (3, [(0, .ref 1000000), (1, .int (nI j))], [.int (nI X.1), .int (nI j)], h, ex, 0, 0)) rfl ?_
  refine go_ic_ge (t := 12) rfl (fun q => ?_) (fun q => ?_)
  · refine go_n 1 (fr' := (13, [(0, .ref 1000000), (1, .int (nI j))], [.int 0], h, ex, 0, 0)) rfl ?_
    rw [if_neg (fun w => nI_ge w (by omega) q)]
    exact go_rt (i := .ireturn) (tg := []) rfl rfl
  · have hlt : j < X.1 := by
      rcases Nat.lt_or_ge j X.1 with w | w
      · exact w
      · exact absurd (nI_le w (by omega)) q
    refine go_n 2 (fr' := (8, [(0, .ref 1000000), (1, .int (nI j))], [.int (nI j), .ref 1000000], h, ex, 0, 0)) rfl ?_
    refine go_scr rfl (ai_in_nI hlt (by omega)) ?_
    rw [if_pos hlt, nI_clamp (by omega)]
    refine go_n 1 (fr' := (13, [(0, .ref 1000000), (1, .int (nI j))], [.int (X.2 j)], h, ex, 0, 0)) rfl ?_
    exact go_rt (i := .ireturn) (tg := []) rfl rfl
/-- the world of both objects and the answers' cell -/
abbrev ah_w (S : Nat) (z : Int32) (f1 f2 f3 g1 g2 : Nat → Int32) (u : Int32) (a b : Nat) (s1 s2 : Nat → Int32) (v t : Int32) (lo : Nat → Int64) : ai_H := ah_fw S z f1 f2 f3 g1 g2 u ++ (ah_m a b s1 s2 v t ++ [.inl (3, 1, .inr (.inl lo))])
set_option maxRecDepth 20000 in
set_option maxHeartbeats 4000000 in
/-- both objects are made; the law stands before its loop -/
theorem pl_begin {X : Nat × (Nat → Int32)} (hL : X.1 ≤ 3074) (d : Nat) : ∃ (a b S : Nat) (z : Int32) (f1 f2 f3 g1 g2 : Nat → Int32) (ns : Nat), 1 ≤ a ∧ a ≤ 8 ∧ 1 ≤ b ∧ b ≤ 8 ∧ S = a * b ∧ z = nI S ∧ ((∀ j, j < S → g1 j = -1) ∧ Gq a b f1 f2 f3 S) ∧ (∀ j, j < S → g2 j = -1) ∧ ns ≤ 20000 ∧ ∀ o, ag_Go X (d + 3) an_law (43, [(0, .ref 1000000), (1, .ref 0), (2, .ref 49), (3, .ref 85), (4, .int 2)], [], (ah_w S z f1 f2 f3 g1 g2 0 a b (fun j => if j < 64 then -1 else 0) (fun j => if j < 64 then -1 else 0) 0 0 (fun _ => 0)), true, 86, ns) o → ag_Go X (d + 3) an_law (0, [(0, .ref 1000000)], [], [], true, 0, 0) o := by
  obtain ⟨w, hw⟩ : ∃ w : Int32, w = if 0 < X.1 then X.2 0 else 0 := ⟨_, rfl⟩
  obtain ⟨g, hg⟩ : ∃ g : Int32, g = if 1 < X.1 then X.2 1 else 0 := ⟨_, rfl⟩
  have ew : ∀ h : ai_H, ai_Ev an_ms an_lk X 35 (d + 3) 169 [.ref 1000000, .int 0] h true (.inl (some (.int w), h, true, 0, 0)) := fun h => by
    rw [hw]
    exact pv_L_cell (j := 0) (by omega) hL true (d + 2)
  have eg : ∀ h : ai_H, ai_Ev an_ms an_lk X 35 (d + 3) 169 [.ref 1000000, .int 1] h true (.inl (some (.int g), h, true, 0, 0)) := fun h => by
    rw [hg]
    exact pv_L_cell (j := 1) (by omega) hL true (d + 2)
  obtain ⟨a, b, S, z, f1, f2, f3, g1, g2, n1, ha1, ha2, hb1, hb2, ea, eb, hS, hz, hg1, hg2, hn1, e9⟩ := pv_X9_init (X := X) w g d
  refine ⟨a, b, S, z, f1, f2, f3, g1, g2, ((12 + n1) + 56) + 6392 + 1, ha1, ha2, hb1, hb2, hS, hz, hg1, hg2, by omega, fun o k => ?_⟩
  refine go_n 4 (fr' := (6, [(0, .ref 1000000)], [.int 0, .ref 1000000, .ref 0, .ref 0], [.inr (9, [.null, .null, .null, .null, .null, .null, .null, .null, .null, .int 0, .int 0, .int 0])], true, 1, 12)) rfl ?_
  refine go_call (i := .invokestatic 61) (tg := []) (q := 169) (M1 := an_L_cell) rfl rfl (by decide) rfl trivial trivial (ew _) ?_
  refine go_eq (fr' := (9, [(0, .ref 1000000)], [.int w, .ref 0, .ref 0], [.inr (9, [.null, .null, .null, .null, .null, .null, .null, .null, .null, .int 0, .int 0, .int 0])], true, 1, 12)) rfl ?_
  refine go_n 2 (fr' := (11, [(0, .ref 1000000)], [.int 1, .ref 1000000, .int w, .ref 0, .ref 0], [.inr (9, [.null, .null, .null, .null, .null, .null, .null, .null, .null, .int 0, .int 0, .int 0])], true, 1, 12)) rfl ?_
  refine go_call (i := .invokestatic 61) (tg := []) (q := 169) (M1 := an_L_cell) rfl rfl (by decide) rfl trivial trivial (eg _) ?_
  refine go_eq (fr' := (14, [(0, .ref 1000000)], [.int g, .int w, .ref 0, .ref 0], [.inr (9, [.null, .null, .null, .null, .null, .null, .null, .null, .null, .int 0, .int 0, .int 0])], true, 1, 12)) rfl ?_
  refine go_call (i := .invokespecial 66) (tg := []) (q := 72) (M1 := an_X9_init) rfl rfl (by decide) rfl trivial trivial e9 ?_
  refine go_eq (fr' := (17, [(0, .ref 1000000)], [.ref 0], (ah_fw S z f1 f2 f3 g1 g2 0), true, 49, 12 + n1)) rfl ?_
  refine go_n 5 (fr' := (24, [(0, .ref 1000000), (1, .ref 0)], [.int 0, .ref 1000000, .ref 49, .ref 49], ((ah_fw S z f1 f2 f3 g1 g2 0) ++ [.inr (10, [.null, .int 0, .int 0, .int 0, .int 0, .int 0, .int 0, .int 0, .int 0, .int 0, .int 0, .null, .null, .null, .null, .null, .null, .null, .null, .null, .null, .null, .null, .null, .null, .null, .null, .null, .null, .null, .null, .null, .null, .null, .int 0, .int 0, .int 0, .int 0, .int 0, .int 0, .int 0, .int 0, .int 0, .int 0, .null, .null, .null, .null, .null, .null, .null, .null, .int 0, .null, .null, .null])]), true, 50, (12 + n1) + 56)) rfl ?_
  refine go_call (i := .invokestatic 61) (tg := []) (q := 169) (M1 := an_L_cell) rfl rfl (by decide) rfl trivial trivial (ew _) ?_
  refine go_eq (fr' := (27, [(0, .ref 1000000), (1, .ref 0)], [.int w, .ref 49, .ref 49], ((ah_fw S z f1 f2 f3 g1 g2 0) ++ [.inr (10, [.null, .int 0, .int 0, .int 0, .int 0, .int 0, .int 0, .int 0, .int 0, .int 0, .int 0, .null, .null, .null, .null, .null, .null, .null, .null, .null, .null, .null, .null, .null, .null, .null, .null, .null, .null, .null, .null, .null, .null, .null, .int 0, .int 0, .int 0, .int 0, .int 0, .int 0, .int 0, .int 0, .int 0, .int 0, .null, .null, .null, .null, .null, .null, .null, .null, .int 0, .null, .null, .null])]), true, 50, (12 + n1) + 56)) rfl ?_
  refine go_n 2 (fr' := (29, [(0, .ref 1000000), (1, .ref 0)], [.int 1, .ref 1000000, .int w, .ref 49, .ref 49], ((ah_fw S z f1 f2 f3 g1 g2 0) ++ [.inr (10, [.null, .int 0, .int 0, .int 0, .int 0, .int 0, .int 0, .int 0, .int 0, .int 0, .int 0, .null, .null, .null, .null, .null, .null, .null, .null, .null, .null, .null, .null, .null, .null, .null, .null, .null, .null, .null, .null, .null, .null, .null, .int 0, .int 0, .int 0, .int 0, .int 0, .int 0, .int 0, .int 0, .int 0, .int 0, .null, .null, .null, .null, .null, .null, .null, .null, .int 0, .null, .null, .null])]), true, 50, (12 + n1) + 56)) rfl ?_
  refine go_call (i := .invokestatic 61) (tg := []) (q := 169) (M1 := an_L_cell) rfl rfl (by decide) rfl trivial trivial (eg _) ?_
  refine go_eq (fr' := (32, [(0, .ref 1000000), (1, .ref 0)], [.int g, .int w, .ref 49, .ref 49], ((ah_fw S z f1 f2 f3 g1 g2 0) ++ [.inr (10, [.null, .int 0, .int 0, .int 0, .int 0, .int 0, .int 0, .int 0, .int 0, .int 0, .int 0, .null, .null, .null, .null, .null, .null, .null, .null, .null, .null, .null, .null, .null, .null, .null, .null, .null, .null, .null, .null, .null, .null, .null, .int 0, .int 0, .int 0, .int 0, .int 0, .int 0, .int 0, .int 0, .int 0, .int 0, .null, .null, .null, .null, .null, .null, .null, .null, .int 0, .null, .null, .null])]), true, 50, (12 + n1) + 56)) rfl ?_
  refine go_call (i := .invokespecial 71) (tg := []) (q := 107) (M1 := an_X10_init) rfl rfl (by decide) rfl trivial trivial (pv_X10_init ea eb (d + 2)) ?_
  refine go_eq (fr' := (35, [(0, .ref 1000000), (1, .ref 0)], [.ref 49], ((ah_fw S z f1 f2 f3 g1 g2 0) ++ ah_m a b (fun j => if j < 64 then -1 else 0) (fun j => if j < 64 then -1 else 0) 0 0), true, 85, ((12 + n1) + 56) + 6392)) rfl ?_
  refine go_n 2 (fr' := (37, [(0, .ref 1000000), (1, .ref 0), (2, .ref 49)], [.int 1], ((ah_fw S z f1 f2 f3 g1 g2 0) ++ ah_m a b (fun j => if j < 64 then -1 else 0) (fun j => if j < 64 then -1 else 0) 0 0), true, 85, ((12 + n1) + 56) + 6392)) rfl ?_
  refine go_nwa (N := 1) rfl rfl (by decide) rfl (Nat.le_of_ble_eq_true rfl) ?_
  refine go_n 3 (fr' := (43, [(0, .ref 1000000), (1, .ref 0), (2, .ref 49), (3, .ref 85), (4, .int 2)], [], (ah_w S z f1 f2 f3 g1 g2 0 a b (fun j => if j < 64 then -1 else 0) (fun j => if j < 64 then -1 else 0) 0 0 (fun _ => 0)), true, 86, (((12 + n1) + 56) + 6392) + 1)) rfl ?_
  exact k
