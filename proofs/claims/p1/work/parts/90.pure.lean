/-- THE LAW, as a run of the interpreter, for every script of at most 8 ints -/
theorem pl_head {xs : Nat → Int32} {S : Nat} {z : Int32} {f1 f2 f3 g1 g2 : Nat → Int32} {a b : Nat} {ns : Nat} : ∀ o, ag_Go (8, xs) 12 an_law (60, [(0, .ref 1000000), (1, .ref 0), (2, .ref 49), (3, .ref 85), (4, .int 2)], [.int (xs 2 &&& 15)], (ah_w S z f1 f2 f3 g1 g2 0 a b (fun j => if j < 64 then -1 else 0) (fun j => if j < 64 then -1 else 0) 0 0 (fun _ => 0)), true, 86, ns) o → ag_Go (8, xs) 12 an_law (43, [(0, .ref 1000000), (1, .ref 0), (2, .ref 49), (3, .ref 85), (4, .int 2)], [], (ah_w S z f1 f2 f3 g1 g2 0 a b (fun j => if j < 64 then -1 else 0) (fun j => if j < 64 then -1 else 0) 0 0 (fun _ => 0)), true, 86, ns) o := by
  intro o k
  refine go_n 5 (fr' := (50, [(0, .ref 1000000), (1, .ref 0), (2, .ref 49), (3, .ref 85), (4, .int 2)], [.int (nI 8 - 6), .int 2], (ah_w S z f1 f2 f3 g1 g2 0 a b (fun j => if j < 64 then -1 else 0) (fun j => if j < 64 then -1 else 0) 0 0 (fun _ => 0)), true, 86, ns)) rfl ?_
  refine go_ic_gt (t := 1180) rfl (fun q => absurd q (by decide)) (fun _ => ?_)
  refine go_n 5 (fr' := (60, [(0, .ref 1000000), (1, .ref 0), (2, .ref 49), (3, .ref 85), (4, .int 2)], [.int (xs 2 &&& 15)], (ah_w S z f1 f2 f3 g1 g2 0 a b (fun j => if j < 64 then -1 else 0) (fun j => if j < 64 then -1 else 0) 0 0 (fun _ => 0)), true, 86, ns)) rfl ?_
  exact k
set_option maxRecDepth 20000 in
theorem pl_all {xs : Nat → Int32} {S : Nat} {z : Int32} {f1 f2 f3 g1 g2 : Nat → Int32} {a b : Nat} {ns : Nat} (hS1 : 1 ≤ S) (hS : S ≤ 64) (hz : z = nI S) (hab : nI a * nI b = nI S) (hg1 : ∀ j, j < S → g1 j = -1) (hg2 : ∀ j, j < S → g2 j = -1) : pl_ok xs (43, [(0, .ref 1000000), (1, .ref 0), (2, .ref 49), (3, .ref 85), (4, .int 2)], [], (ah_w S z f1 f2 f3 g1 g2 0 a b (fun j => if j < 64 then -1 else 0) (fun j => if j < 64 then -1 else 0) 0 0 (fun _ => 0)), true, 86, ns) ns := by
  refine pl_lift pl_head ?_
  obtain ⟨j, hj, e⟩ := pk_andE (xs 2) (m := 15) 4 (by decide)
  rw [e]
  obtain rfl | rfl | rfl | rfl | rfl | rfl | rfl | rfl | rfl | rfl | rfl | rfl | rfl | rfl | rfl | rfl : j = 0 ∨ j = 1 ∨ j = 2 ∨ j = 3 ∨ j = 4 ∨ j = 5 ∨ j = 6 ∨ j = 7 ∨ j = 8 ∨ j = 9 ∨ j = 10 ∨ j = 11 ∨ j = 12 ∨ j = 13 ∨ j = 14 ∨ j = 15 := by omega
  · exact pl_lift (fun o k => go_tb (t := 140) rfl 0 (by decide) (by decide) rfl k) (pl_c_house hS1 hS hz hab hg1 hg2)
  · exact pl_lift (fun o k => go_tb (t := 227) rfl 1 (by decide) (by decide) rfl k) (pl_c_well hS1 hS hz hab hg1 hg2)
  · exact pl_lift (fun o k => go_tb (t := 318) rfl 2 (by decide) (by decide) rfl k) (pl_c_wind hS1 hS hz hab hg1 hg2)
  · exact pl_lift (fun o k => go_tb (t := 374) rfl 3 (by decide) (by decide) rfl k) (pl_c_company hS1 hS hz hab hg1 hg2)
  · exact pl_lift (fun o k => go_tb (t := 454) rfl 4 (by decide) (by decide) rfl k) (pl_c_feed hS1 hS hz hab hg1 hg2)
  · exact pl_lift (fun o k => go_tb (t := 527) rfl 5 (by decide) (by decide) rfl k) (pl_c_law hS1 hS hz hab hg1 hg2)
  · exact pl_lift (fun o k => go_tb (t := 595) rfl 6 (by decide) (by decide) rfl k) (pl_c_fault hS1 hS hz hab hg1 hg2)
  · exact pl_lift (fun o k => go_tb (t := 608) rfl 7 (by decide) (by decide) rfl k) (pl_c_light hS1 hS hz hab hg1 hg2)
  · exact pl_lift (fun o k => go_tb (t := 664) rfl 8 (by decide) (by decide) rfl k) (pl_c_send hS1 hS hz hab hg1 hg2)
  · exact pl_lift (fun o k => go_tb (t := 739) rfl 9 (by decide) (by decide) rfl k) (pl_c_pull hS1 hS hz hab hg1 hg2)
  · exact pl_lift (fun o k => go_tb (t := 814) rfl 10 (by decide) (by decide) rfl k) (pl_c_hours hS1 hS hz hab hg1 hg2)
  · exact pl_lift (fun o k => go_tb (t := 870) rfl 11 (by decide) (by decide) rfl k) (pl_c_cell hS1 hS hz hab hg1 hg2)
  · exact pl_lift (fun o k => go_tb (t := 938) rfl 12 (by decide) (by decide) rfl k) (pl_c_of hS1 hS hz hab hg1 hg2)
  · exact pl_lift (fun o k => go_tb (t := 1006) rfl 13 (by decide) (by decide) rfl k) (pl_c_breaks hS1 hS hz hab hg1 hg2)
  · exact pl_lift (fun o k => go_tb (t := 1062) rfl 14 (by decide) (by decide) rfl k) (pl_c_breaker hS1 hS hz hab hg1 hg2)
  · exact pl_lift (fun o k => go_tb (t := 1118) rfl 15 (by decide) (by decide) rfl k) (pl_c_count hS1 hS hz hab hg1 hg2)
theorem pure_law (L : Nat) (xs : Nat → Int32) (hL : L ≤ 8) : ∃ (d n nc ns : Nat) (h' : ai_H) (ex' : Bool), d ≤ 1000 ∧ nc ≤ 600000 ∧ ns ≤ 7000000 ∧ ai_Rn an_ms an_lk (L, xs) 35 (ai_Ev an_ms an_lk (L, xs) 35 d) an_law n (0, [(0, .ref 1000000)], [], [], true, 0, 0) (.inl (some (.int 1), h', ex', nc, ns)) := by
  obtain ⟨a, b, S, z, f1, f2, f3, g1, g2, ns, ha1, ha2, hb1, hb2, hS, hz, hg1, hg2, hns, K⟩ := pl_begin (X := (L, xs)) hL 9
  rcases Nat.lt_or_ge L 8 with h | h
  · obtain ⟨n, hn⟩ := K _ (pl_short h)
    exact ⟨12, n, _, _, _, _, by omega, (by omega : 86 ≤ 600000), (by omega : ns ≤ 7000000), hn⟩
  · obtain rfl : L = 8 := by omega
    have h1 : a * b ≤ 64 := Nat.mul_le_mul ha2 hb2
    have h2 : 1 ≤ a * b := Nat.mul_le_mul ha1 hb1
    have hab : nI a * nI b = nI S := by rw [hS, pk_mul]
    obtain ⟨h', ex', nc, ns', q1, q2, g⟩ := pl_all (xs := xs) (ns := ns) (f1 := f1) (f2 := f2) (f3 := f3) (a := a) (b := b) (by omega) (by omega) hz hab hg1 hg2
    obtain ⟨n, hn⟩ := K _ g
    exact ⟨12, n, nc, ns', h', ex', by omega, by omega, by omega, hn⟩
