/-- THE LAW, as a run of the interpreter, for every script of at most 8 ints -/
theorem pure_law (L : Nat) (xs : Nat → Int32) (hL : L ≤ 8) : ∃ (d n nc ns : Nat) (h' : ai_H) (ex' : Bool), d ≤ 1000 ∧ nc ≤ 600002 ∧ ns ≤ 7302198 ∧ ai_Rn an_ms an_lk (L, xs) 35 (ai_Ev an_ms an_lk (L, xs) 35 d) an_law n (0, [(0, .ref 1000000)], [], [], true, 0, 0) (.inl (some (.int 1), h', ex', nc, ns)) := by
  sorry
