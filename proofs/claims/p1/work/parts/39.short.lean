/-! a script too short for a call -/
theorem pl_small : ∀ n, n < 8 → nI n - 6 < 2 := by decide
set_option maxRecDepth 20000 in
theorem pl_short {xs : Nat → Int32} {L : Nat} (hL : L < 8) {h : ai_H} {ex : Bool} {nc ns : Nat} : ag_Go (L, xs) 12 an_law (43, [(0, .ref 1000000), (1, .ref 0), (2, .ref 49), (3, .ref 85), (4, .int 2)], [], h, ex, nc, ns) (.inl (some (.int 1), h, ex, nc, ns)) := by
  refine go_n 5 (fr' := (50, [(0, .ref 1000000), (1, .ref 0), (2, .ref 49), (3, .ref 85), (4, .int 2)], [.int (nI L - 6), .int 2], h, ex, nc, ns)) rfl ?_
  refine go_ic_gt (t := 1180) rfl (fun _ => ?_) (fun q => absurd (pl_small L hL) q)
  refine go_n 1 (fr' := (1181, [(0, .ref 1000000), (1, .ref 0), (2, .ref 49), (3, .ref 85), (4, .int 2)], [.int 1], h, ex, nc, ns)) rfl ?_
  exact go_rt (i := .ireturn) (tg := []) rfl rfl
