/-! small methods -/
theorem pv_X0_has {X : Nat × (Nat → Int32)} {h : ai_H} {a : Nat} {S : Int32} {fs : List Value} (hh : h[a]? = some (.inr (0, .int S :: fs))) (k : Int32) (ex : Bool) (d : Nat) : ai_Ev an_ms an_lk X 35 (d + 1) 2 [.ref a, .int k] h ex (.inl (some (.int (if 0 ≤ k ∧ k < S then 1 else 0)), h, ex, 0, 0)) := by
  refine ev_of (M := an_X0_has) rfl (Nat.le_of_ble_eq_true rfl) ?_
  refine go_n 1 (fr' := (1, [(0, .ref a), (1, .int k)], [.int k], h, ex, 0, 0)) rfl ?_
  refine go_if_lt (t := 16) rfl (fun q => ?_) (fun q => ?_)
  · refine go_n 1 (fr' := (17, [(0, .ref a), (1, .int k)], [.int 0], h, ex, 0, 0)) rfl ?_
    refine go_rt (i := .ireturn) (tg := []) rfl ?_
    rw [if_neg (fun w => Int32.not_lt.mpr w.1 q)]
    rfl
  · refine go_n 2 (fr' := (6, [(0, .ref a), (1, .int k)], [.ref a, .int k], h, ex, 0, 0)) rfl ?_
    refine go_get rfl rfl hh rfl ?_
    refine go_ic_ge (t := 16) rfl (fun q2 => ?_) (fun q2 => ?_)
    · refine go_n 1 (fr' := (17, [(0, .ref a), (1, .int k)], [.int 0], h, ex, 0, 0)) rfl ?_
      refine go_rt (i := .ireturn) (tg := []) rfl ?_
      rw [if_neg (fun w => Int32.not_lt.mpr q2 w.2)]
      rfl
    · refine go_n 2 (fr' := (17, [(0, .ref a), (1, .int k)], [.int 1], h, ex, 0, 0)) rfl ?_
      refine go_rt (i := .ireturn) (tg := []) rfl ?_
      rw [if_pos ⟨Int32.not_lt.mp q, Int32.not_le.mp q2⟩]
      rfl
