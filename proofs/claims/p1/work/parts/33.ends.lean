/-! the end of the law's loop -/
set_option maxRecDepth 20000 in
theorem pl_end0 {xs : Nat → Int32} {h : ai_H} {ex : Bool} {nc ns : Nat} : ag_Go (8, xs) 12 an_law (1174, [(0, .ref 1000000), (1, .ref 0), (2, .ref 49), (3, .ref 85), (4, .int 2)], [], h, ex, nc, ns) (.inl (some (.int 1), h, ex, nc, ns)) := by
  refine go_n 7 (fr' := (50, [(0, .ref 1000000), (1, .ref 0), (2, .ref 49), (3, .ref 85), (4, .int 8)], [.int (nI 8 - 6), .int 8], h, ex, nc, ns)) rfl ?_
  refine go_ic_gt (t := 1180) rfl (fun _ => ?_) (fun q => absurd (by decide) q)
  refine go_n 1 (fr' := (1181, [(0, .ref 1000000), (1, .ref 0), (2, .ref 49), (3, .ref 85), (4, .int 8)], [.int 1], h, ex, nc, ns)) rfl ?_
  exact go_rt (i := .ireturn) (tg := []) rfl rfl
set_option maxRecDepth 20000 in
theorem pl_end2 {xs : Nat → Int32} {x5 x6 : Int32} {h : ai_H} {ex : Bool} {nc ns : Nat} : ag_Go (8, xs) 12 an_law (1174, [(0, .ref 1000000), (1, .ref 0), (2, .ref 49), (3, .ref 85), (4, .int 2), (5, .int x5), (6, .int x6)], [], h, ex, nc, ns) (.inl (some (.int 1), h, ex, nc, ns)) := by
  refine go_n 7 (fr' := (50, [(0, .ref 1000000), (1, .ref 0), (2, .ref 49), (3, .ref 85), (4, .int 8), (5, .int x5), (6, .int x6)], [.int (nI 8 - 6), .int 8], h, ex, nc, ns)) rfl ?_
  refine go_ic_gt (t := 1180) rfl (fun _ => ?_) (fun q => absurd (by decide) q)
  refine go_n 1 (fr' := (1181, [(0, .ref 1000000), (1, .ref 0), (2, .ref 49), (3, .ref 85), (4, .int 8), (5, .int x5), (6, .int x6)], [.int 1], h, ex, nc, ns)) rfl ?_
  exact go_rt (i := .ireturn) (tg := []) rfl rfl
