/-! THE LAW, over the interpreter -/
set_option maxRecDepth 20000 in
theorem gh_0 {S a b : Nat} {f1 f2 f3 g1 g2 : Nat → Int32} : gh S a b sc0 (ar0 f1 f2 f3 g1 g2) (fun _ => 0) = ah_w S (nI S) f1 f2 f3 g1 g2 0 a b (fun j => if j < 64 then -1 else 0) (fun j => if j < 64 then -1 else 0) 0 0 (fun _ => 0) := rfl
theorem pure_law (L : Nat) (xs : Nat → Int32) (hL : L ≤ 3074) : ∃ (d n nc ns : Nat) (h' : ai_H) (ex' : Bool), d ≤ 1000 ∧ nc ≤ 600000 ∧ ns ≤ 7000000 ∧ ai_Rn an_ms an_lk (L, xs) 35 (ai_Ev an_ms an_lk (L, xs) 35 d) an_law n (0, [(0, .ref 1000000)], [], [], true, 0, 0) (.inl (some (.int 1), h', ex', nc, ns)) := by
  obtain ⟨a, b, S, z, f1, f2, f3, g1, g2, ns, ha1, ha2, hb1, hb2, hS, hz, hg1, hg2, hns, K⟩ := pl_begin (X := (L, xs)) hL 33
  subst hz
  have h1 : a * b ≤ 64 := Nat.mul_le_mul ha2 hb2
  have h2 : 1 ≤ a * b := Nat.mul_le_mul ha1 hb1
  have hW : Wd S a b := ⟨ha1, ha2, hb1, hb2, hS.symm, by omega, by omega⟩
  obtain ⟨o, ⟨h9, ex9, nc9, ns9, q1, q2, rfl⟩, g⟩ := lw_loop (X := (L, xs)) (B := 598) (BS := ns + 3072) hW hL 0 512 2 sc0 (ar0 f1 f2 f3 g1 g2) (fun _ => 0) true 86 ns (show L ≤ 2 + 6 * 512 by omega) (by omega) (iv_0 (by omega)) lw_0 rfl (by omega) (by omega)
  rw [gh_0] at g
  obtain ⟨n, hn⟩ := K _ g
  exact ⟨36, n, nc9, ns9, h9, ex9, by omega, by omega, by omega, hn⟩
