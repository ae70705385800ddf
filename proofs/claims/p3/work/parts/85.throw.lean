/-! CALLS THAT MAY THROW; the class's reader and its public methods -/
section THROWS
variable (X : Nat × (Nat → Int32)) (S a b d q : Nat) (As : List Value) (sc : Nat → Int32) (ar : Nat → Nat → Int32) (lo : Nat → Int64) (ex : Bool) (E : String) (T : Prop)
def qe (P : Int32 → (Nat → Int32) → (Nat → Nat → Int32) → Prop) : ai_O → Prop := fun o => (∃ x sc' ar', P x sc' ar' ∧ o = .inl (some (.int x), gh S a b sc' ar' lo, ex, 0, 0)) ∨ (T ∧ o = .inr (E, gh S a b sc ar lo, 1, 6))
/-- an int is answered, or E is thrown and nothing changes -/
def ce (P : Int32 → (Nat → Int32) → (Nat → Nat → Int32) → Prop) : Prop := ∃ o, qe S a b sc ar lo ex E T P o ∧ ai_Ev an_ms an_lk X 35 d q As (gh S a b sc ar lo) ex o
end THROWS
section THROWT
variable {X : Nat × (Nat → Int32)} {S a b d q : Nat} {As : List Value} {sc : Nat → Int32} {ar : Nat → Nat → Int32} {lo : Nat → Int64} {ex : Bool} {M : ai_M} {Q : ai_O → Prop} {E : String} {T : Prop}
theorem ce_of {P : Int32 → (Nat → Int32) → (Nat → Nat → Int32) → Prop} (hM : an_ms[q]? = some M) (hlen : (lg_sl As).length ≤ M.ml) (k : ag_To X d M (0, lv_args 0 As, [], gh S a b sc ar lo, ex, 0, 0) (qe S a b sc ar lo ex E T P)) : ce X S a b (d + 1) q As sc ar lo ex E T P := by
  obtain ⟨o, hP, g⟩ := k
  exact ⟨o, hP, ev_of hM hlen g⟩
variable {pc nc ns : Nat} {lv : List (Nat × Value)} {st rest : List Value} {i : Instr} {tg : List Nat} {M1 : ai_M}
theorem to_ce {P : Int32 → (Nat → Int32) → (Nat → Nat → Int32) → Prop} (h1 : ai_as M.co pc = some (i, tg)) (hca : ai_ca (an_lk M.cn) i st (gh S a b sc ar lo) = some (q, As, rest)) (hq0 : q ≠ 0) (hM1 : an_ms[q]? = some M1) (hrc : ai_rc i As (gh S a b sc ar lo) M1.cn) (c : ce X S a b d q As sc ar lo ex E T P) (hh : M.hh = []) (hni : ai_ni i (.inr (E, gh S a b sc ar lo, 1, 6))) (ht : T → Q (.inr (E, gh S a b sc ar lo, nc + 1, ns + 6))) (k : ∀ x sc' ar', P x sc' ar' → ag_To X d M (pc + 3, lv, .int x :: rest, gh S a b sc' ar' lo, ex, nc, ns) Q) : ag_To X d M (pc, lv, st, gh S a b sc ar lo, ex, nc, ns) Q := by
  obtain ⟨o, ⟨x, sc', ar', hP, rfl⟩ | ⟨hT, rfl⟩, e⟩ := c
  · obtain ⟨o, hQ, g⟩ := k x sc' ar' hP
    exact ⟨o, hQ, go_callS (fr := (pc, lv, st, gh S a b sc ar lo, ex, nc, ns)) h1 hca hq0 hM1 hrc ai_ni_l e g⟩
  · exact ⟨_, ht hT, go_thr (fr := (pc, lv, st, gh S a b sc ar lo, ex, nc, ns)) h1 hca hq0 hM1 hrc hni e hh⟩
/-- a call that answers nothing and changes nothing -/
theorem to_cu (h1 : ai_as M.co pc = some (i, tg)) (hca : ai_ca (an_lk M.cn) i st (gh S a b sc ar lo) = some (q, As, rest)) (hq0 : q ≠ 0) (hM1 : an_ms[q]? = some M1) (hrc : ai_rc i As (gh S a b sc ar lo) M1.cn) (c : ai_Ev an_ms an_lk X 35 d q As (gh S a b sc ar lo) ex (.inl (none, gh S a b sc ar lo, ex, 0, 0))) (k : ag_To X d M (pc + 3, lv, rest, gh S a b sc ar lo, ex, nc, ns) Q) : ag_To X d M (pc, lv, st, gh S a b sc ar lo, ex, nc, ns) Q := by
  obtain ⟨o, hQ, g⟩ := k
  exact ⟨o, hQ, go_callS (fr := (pc, lv, st, gh S a b sc ar lo, ex, nc, ns)) h1 hca hq0 hM1 hrc ai_ni_l c g⟩
theorem to_thr (h1 : ai_as M.co pc = some (i, tg)) (hca : ai_ca (an_lk M.cn) i st (gh S a b sc ar lo) = some (q, As, rest)) (hq0 : q ≠ 0) (hM1 : an_ms[q]? = some M1) (hrc : ai_rc i As (gh S a b sc ar lo) M1.cn) (c : ai_Ev an_ms an_lk X 35 d q As (gh S a b sc ar lo) ex (.inr (E, gh S a b sc ar lo, 1, 6))) (hh : M.hh = []) (hni : ai_ni i (.inr (E, gh S a b sc ar lo, 1, 6))) (ht : Q (.inr (E, gh S a b sc ar lo, nc + 1, ns + 6))) : ag_To X d M (pc, lv, st, gh S a b sc ar lo, ex, nc, ns) Q :=
  ⟨_, ht, go_thr (fr := (pc, lv, st, gh S a b sc ar lo, ex, nc, ns)) h1 hca hq0 hM1 hrc hni c hh⟩
theorem ev_to {o : ai_O} (hM : an_ms[q]? = some M) (hlen : (lg_sl As).length ≤ M.ml) (k : ag_To X d M (0, lv_args 0 As, [], gh S a b sc ar lo, ex, 0, 0) (fun o' => o' = o)) : ai_Ev an_ms an_lk X 35 (d + 1) q As (gh S a b sc ar lo) ex o := by
  obtain ⟨o', rfl, g⟩ := k
  exact ev_of hM hlen g
end THROWT
theorem needCell_1 {X : Nat × (Nat → Int32)} {S a b : Nat} {sc : Nat → Int32} {ar : Nat → Nat → Int32} {lo : Nat → Int64} {ex : Bool} {n : Nat}  (hn : n < S ∧ S < 2 ^ 31) (d : Nat) : ai_Ev an_ms an_lk X 35 (d + 2) 89 [.ref 0, .int (nI n)] (gh S a b sc ar lo) ex (.inl (none, gh S a b sc ar lo, ex, 0, 0)) := by
  refine ev_to (M := an_X9_needCell) rfl (Nat.le_of_ble_eq_true rfl) ?_
  refine to_n 1 (fr' := (1, [(0, .ref 0), (1, .int (nI n))], [.ref 0], gh S a b sc ar lo, ex, 0, 0)) rfl ?_
  refine to_get rfl rfl rfl rfl ?_
  refine to_n 1 (fr' := (5, [(0, .ref 0), (1, .int (nI n))], [.int (nI n), .ref 1], gh S a b sc ar lo, ex, 0, 0)) rfl ?_
  refine to_cp (q := 2) (M1 := an_X0_has) (rest := []) rfl rfl (by decide) rfl ⟨_, rfl⟩ (sf_has_1  hn d) (fun x hx => ?_)
  obtain rfl := hx
  refine to_n 1 (fr' := (21, [(0, .ref 0), (1, .int (nI n))], [], gh S a b sc ar lo, ex, 0, 0)) rfl ?_
  exact to_rt (i := .return_) (tg := []) rfl rfl rfl
theorem needCell_0 {X : Nat × (Nat → Int32)} {S a b : Nat} {sc : Nat → Int32} {ar : Nat → Nat → Int32} {lo : Nat → Int64} {ex : Bool} {k : Int32}  (hk : ¬ (0 ≤ k ∧ k < nI S)) (d : Nat) : ai_Ev an_ms an_lk X 35 (d + 2) 89 [.ref 0, .int k] (gh S a b sc ar lo) ex (.inr ("java/util/NoSuchElementException", gh S a b sc ar lo, 1, 6)) := by
  refine ev_to (M := an_X9_needCell) rfl (Nat.le_of_ble_eq_true rfl) ?_
  refine to_n 1 (fr' := (1, [(0, .ref 0), (1, .int k)], [.ref 0], gh S a b sc ar lo, ex, 0, 0)) rfl ?_
  refine to_get rfl rfl rfl rfl ?_
  refine to_n 1 (fr' := (5, [(0, .ref 0), (1, .int k)], [.int k, .ref 1], gh S a b sc ar lo, ex, 0, 0)) rfl ?_
  refine to_cp (q := 2) (M1 := an_X0_has) (rest := []) rfl rfl (by decide) rfl ⟨_, rfl⟩ (sf_has_0  hk d) (fun x hx => ?_)
  obtain rfl := hx
  refine to_n 1 (fr' := (11, [(0, .ref 0), (1, .int k)], [], gh S a b sc ar lo, ex, 0, 0)) rfl ?_
  exact to_th (i := .new 183) (tg := []) rfl rfl rfl
theorem needCrew_1 {X : Nat × (Nat → Int32)} {S a b : Nat} {sc : Nat → Int32} {ar : Nat → Nat → Int32} {lo : Nat → Int64} {ex : Bool} {n : Nat} {m : Nat} (e : sc 1308 = nI m) (hn : n < m ∧ m < 2 ^ 31) (d : Nat) : ai_Ev an_ms an_lk X 35 (d + 2) 90 [.ref 0, .int (nI n)] (gh S a b sc ar lo) ex (.inl (none, gh S a b sc ar lo, ex, 0, 0)) := by
  refine ev_to (M := an_X9_needCrew) rfl (Nat.le_of_ble_eq_true rfl) ?_
  refine to_n 1 (fr' := (1, [(0, .ref 0), (1, .int (nI n))], [.ref 0], gh S a b sc ar lo, ex, 0, 0)) rfl ?_
  refine to_get rfl rfl rfl rfl ?_
  refine to_n 1 (fr' := (5, [(0, .ref 0), (1, .int (nI n))], [.int (nI n), .ref 13], gh S a b sc ar lo, ex, 0, 0)) rfl ?_
  refine to_cp (q := 14) (M1 := an_X1_has) (rest := []) rfl rfl (by decide) rfl ⟨_, rfl⟩ (cr_has_1 e hn d) (fun x hx => ?_)
  obtain rfl := hx
  refine to_n 1 (fr' := (21, [(0, .ref 0), (1, .int (nI n))], [], gh S a b sc ar lo, ex, 0, 0)) rfl ?_
  exact to_rt (i := .return_) (tg := []) rfl rfl rfl
theorem needCrew_0 {X : Nat × (Nat → Int32)} {S a b : Nat} {sc : Nat → Int32} {ar : Nat → Nat → Int32} {lo : Nat → Int64} {ex : Bool} {k : Int32} {m : Nat} (e : sc 1308 = nI m) (hk : ¬ (0 ≤ k ∧ k < nI m)) (d : Nat) : ai_Ev an_ms an_lk X 35 (d + 2) 90 [.ref 0, .int k] (gh S a b sc ar lo) ex (.inr ("java/util/NoSuchElementException", gh S a b sc ar lo, 1, 6)) := by
  refine ev_to (M := an_X9_needCrew) rfl (Nat.le_of_ble_eq_true rfl) ?_
  refine to_n 1 (fr' := (1, [(0, .ref 0), (1, .int k)], [.ref 0], gh S a b sc ar lo, ex, 0, 0)) rfl ?_
  refine to_get rfl rfl rfl rfl ?_
  refine to_n 1 (fr' := (5, [(0, .ref 0), (1, .int k)], [.int k, .ref 13], gh S a b sc ar lo, ex, 0, 0)) rfl ?_
  refine to_cp (q := 14) (M1 := an_X1_has) (rest := []) rfl rfl (by decide) rfl ⟨_, rfl⟩ (cr_has_0 e hk d) (fun x hx => ?_)
  obtain rfl := hx
  refine to_n 1 (fr' := (11, [(0, .ref 0), (1, .int k)], [], gh S a b sc ar lo, ex, 0, 0)) rfl ?_
  exact to_th (i := .new 183) (tg := []) rfl rfl rfl
set_option maxRecDepth 20000 in
theorem sf_readExpr6 {X : Nat × (Nat → Int32)} {S a b : Nat} {sc : Nat → Int32} {ar : Nat → Nat → Int32} {lo : Nat → Int64} {ex : Bool} (hW : Wd S a b) (hI : Iv S sc ar)  (d : Nat)  : ci X S a b (d + 8) 44 [.ref 24, .int 6] sc ar lo ex (fun x sc' ar' => Iv S sc' ar' ∧ Fr [2401, 2402, 2404, 2405] [25] sc ar sc' ar' ∧ rl x 2) := by
  obtain ⟨ha1, ha8, hb1, hb8, hab, hS1, hS⟩ := id hW
  refine ci_of (M := an_X5_readExpr) rfl (Nat.le_of_ble_eq_true rfl) ?_
  have hF : Fr [2401, 2402, 2404, 2405] [25] sc ar sc ar := fr_0
  refine to_eq (fr' := (0, [(0, .ref 24), (1, .int 6)], [], gh S a b sc ar lo, ex, 0, 0)) rfl ?_
  refine to_n 5 (fr' := (8, [(0, .ref 24), (1, .int 6)], [.ref 24, .ref 24], gh S a b sc ar lo, ex, 0, 0)) rfl ?_
  refine to_getR (v := (sc 2405)) rfl rfl rfl rfl rfl ?_
  refine to_n 1 (fr' := (13, [(0, .ref 24), (1, .int 6)], [.int (-16), .int (sc 2405), .ref 24], gh S a b sc ar lo, ex, 0, 0)) rfl ?_
  refine to_ic_eq (t := 23) rfl (fun q1 => ?_) (fun q1 => ?_)
  · refine to_n 2 (fr' := (31, [(0, .ref 24), (1, .int 6)], [.int 2, .ref 24], gh S a b sc ar lo, ex, 0, 0)) rfl ?_
    refine to_ci (q := 51) (M1 := an_X5_fail) (rest := []) rfl rfl (by decide) rfl ⟨_, rfl⟩ (sf_X5_fail hW hI 2 (d + 6)) (fun x2 sc2 ar2 hx2 => ?_)
    obtain ⟨hI2, hG2, hx2⟩ := hx2
    have hF2 := fr_t hF hG2 (by decide) (by decide)
    obtain ⟨n2, hn2, rfl⟩ := hx2
    refine to_eq (fr' := (34, [(0, .ref 24), (1, .int 6)], [.int (nI n2)], gh S a b sc2 ar2 lo, ex, 0, 0)) rfl ?_
    exact to_rt (i := .ireturn) (tg := []) rfl (ai_rtz (rl_n (n := n2) (by omega))) ⟨_, _, _, ⟨hI2, hF2, rl_n (n := n2) (by omega)⟩, rfl⟩
  · refine to_n 1 (fr' := (17, [(0, .ref 24), (1, .int 6)], [.ref 24, .ref 24], gh S a b sc ar lo, ex, 0, 0)) rfl ?_
    refine to_cp (q := 49) (M1 := an_X5_beginsPart) (rest := [.ref 24]) rfl rfl (by decide) rfl ⟨_, rfl⟩ (sf_X5_beginsPart hW hI  (d + 5)) (fun x3 hx3 => ?_)
    obtain ⟨n3, hn3, rfl⟩ := hx3
    refine to_eq (fr' := (20, [(0, .ref 24), (1, .int 6)], [.int (nI n3), .ref 24], gh S a b sc ar lo, ex, 0, 0)) rfl ?_
    refine to_nf_eq (t := 27) (x := n3) rfl (by omega) (fun q4 => ?_) (fun q4 => ?_)
    · refine to_n 1 (fr' := (28, [(0, .ref 24), (1, .int 6)], [.ref 24, .ref 24], gh S a b sc ar lo, ex, 0, 0)) rfl ?_
      refine to_cp (q := 50) (M1 := an_X5_faultOfPart) (rest := [.ref 24]) rfl rfl (by decide) rfl ⟨_, rfl⟩ (sf_X5_faultOfPart hW hI  (d + 6)) (fun x5 hx5 => ?_)
      refine to_eq (fr' := (31, [(0, .ref 24), (1, .int 6)], [.int x5, .ref 24], gh S a b sc ar lo, ex, 0, 0)) rfl ?_
      refine to_ci (q := 51) (M1 := an_X5_fail) (rest := []) rfl rfl (by decide) rfl ⟨_, rfl⟩ (sf_X5_fail hW hI x5 (d + 6)) (fun x6 sc6 ar6 hx6 => ?_)
      obtain ⟨hI6, hG6, hx6⟩ := hx6
      have hF6 := fr_t hF hG6 (by decide) (by decide)
      obtain ⟨n6, hn6, rfl⟩ := hx6
      refine to_eq (fr' := (34, [(0, .ref 24), (1, .int 6)], [.int (nI n6)], gh S a b sc6 ar6 lo, ex, 0, 0)) rfl ?_
      exact to_rt (i := .ireturn) (tg := []) rfl (ai_rtz (rl_n (n := n6) (by omega))) ⟨_, _, _, ⟨hI6, hF6, rl_n (n := n6) (by omega)⟩, rfl⟩
    · refine to_n 2 (fr' := (31, [(0, .ref 24), (1, .int 6)], [.int 2, .ref 24], gh S a b sc ar lo, ex, 0, 0)) rfl ?_
      refine to_ci (q := 51) (M1 := an_X5_fail) (rest := []) rfl rfl (by decide) rfl ⟨_, rfl⟩ (sf_X5_fail hW hI 2 (d + 6)) (fun x7 sc7 ar7 hx7 => ?_)
      obtain ⟨hI7, hG7, hx7⟩ := hx7
      have hF7 := fr_t hF hG7 (by decide) (by decide)
      obtain ⟨n7, hn7, rfl⟩ := hx7
      refine to_eq (fr' := (34, [(0, .ref 24), (1, .int 6)], [.int (nI n7)], gh S a b sc7 ar7 lo, ex, 0, 0)) rfl ?_
      exact to_rt (i := .ireturn) (tg := []) rfl (ai_rtz (rl_n (n := n7) (by omega))) ⟨_, _, _, ⟨hI7, hF7, rl_n (n := n7) (by omega)⟩, rfl⟩
theorem sf_readExpr_all {X : Nat × (Nat → Int32)} {S a b : Nat} {lo : Nat → Int64} {ex : Bool} (hW : Wd S a b) : ∀ (r w : Nat), w + r = 6 → ∀ (d : Nat) (sc : Nat → Int32) (ar : Nat → Nat → Int32), Iv S sc ar → ci X S a b (d + (8 + 4 * r)) 44 [.ref 24, .int (nI w)] sc ar lo ex (fun x sc' ar' => Iv S sc' ar' ∧ Fr [2401, 2402, 2404, 2405] [25] sc ar sc' ar' ∧ rl x 2) := by
  intro r
  induction r with
  | zero =>
    intro w hw d sc ar hI
    obtain rfl : w = 6 := by omega
    exact sf_readExpr6 hW hI d
  | succ r ih =>
    intro w hw d sc ar hI
    have e : d + (8 + 4 * (r + 1)) = (d + 5 + 4 * r) + 7 := by omega
    have e0 : d + (8 + 4 * r) = (d + 5 + 4 * r) + 3 := by omega
    rw [e]
    refine sf_X5_readExpr hW hI w (by omega) (d + 5 + 4 * r) (fun sc ar hI => ?_)
    refine sf_X5_readTest hW hI w (by omega) (d + 5 + 4 * r) (fun sc ar hI => ?_)
    refine sf_X5_readSum hW hI w (by omega) (d + 5 + 4 * r) (fun sc ar hI => ?_)
    refine sf_X5_readPart hW hI w (by omega) (d + 5 + 4 * r) (fun sc ar hI => ?_)
    rw [← e0]
    exact ih (w + 1) (by omega) d sc ar hI
theorem sf_readExpr {X : Nat × (Nat → Int32)} {S a b : Nat} {sc : Nat → Int32} {ar : Nat → Nat → Int32} {lo : Nat → Int64} {ex : Bool} (hW : Wd S a b) (hI : Iv S sc ar) (w : Nat) (hw : w < 7) (d : Nat) : ci X S a b (d + 32) 44 [.ref 24, .int (nI w)] sc ar lo ex (fun x sc' ar' => Iv S sc' ar' ∧ Fr [2401, 2402, 2404, 2405] [25] sc ar sc' ar' ∧ rl x 2) := by
  have h := sf_readExpr_all (X := X) (lo := lo) (ex := ex) hW (6 - w) w (by omega) (d + 4 * w) sc ar hI
  rw [show d + 4 * w + (8 + 4 * (6 - w)) = d + 32 by omega] at h
  exact h
set_option maxRecDepth 20000 in
theorem sf_X5_readRule {X : Nat × (Nat → Int32)} {S a b : Nat} {sc : Nat → Int32} {ar : Nat → Nat → Int32} {lo : Nat → Int64} {ex : Bool} (hW : Wd S a b) (hI : Iv S sc ar) (k1 : Nat) (hk1 : k1 < 13) (d : Nat)  : ci X S a b (d + 33) 43 [.ref 24, .int (nI k1)] sc ar lo ex (fun x sc' ar' => Iv S sc' ar' ∧ Fr [2401, 2402, 2404, 2405] [25] sc ar sc' ar' ∧ rl x 2) := by
  obtain ⟨ha1, ha8, hb1, hb8, hab, hS1, hS⟩ := id hW
  refine ci_of (M := an_X5_readRule) rfl (Nat.le_of_ble_eq_true rfl) ?_
  have hF : Fr [2401, 2402, 2404, 2405] [25] sc ar sc ar := fr_0
  refine to_eq (fr' := (0, [(0, .ref 24), (1, .int (nI k1))], [], gh S a b sc ar lo, ex, 0, 0)) rfl ?_
  refine to_n 1 (fr' := (1, [(0, .ref 24), (1, .int (nI k1))], [.ref 24], gh S a b sc ar lo, ex, 0, 0)) rfl ?_
  refine to_getR (v := (sc 2405)) rfl rfl rfl rfl rfl ?_
  refine to_n 1 (fr' := (6, [(0, .ref 24), (1, .int (nI k1))], [.int (-12), .int (sc 2405)], gh S a b sc ar lo, ex, 0, 0)) rfl ?_
  refine to_ic_eq (t := 24) rfl (fun q1 => ?_) (fun q1 => ?_)
  · refine to_n 2 (fr' := (27, [(0, .ref 24), (1, .int (nI k1))], [.int 12, .int (nI k1)], gh S a b sc ar lo, ex, 0, 0)) rfl ?_
    refine to_nc_lt (t := 36) (x := k1) (y := 12) rfl (by omega) (by omega) (fun q2 => ?_) (fun q2 => ?_)
    · refine to_n 1 (fr' := (37, [(0, .ref 24), (1, .int (nI k1))], [.ref 24], gh S a b sc ar lo, ex, 0, 0)) rfl ?_
      refine to_getR (v := (sc 2405)) rfl rfl rfl rfl rfl ?_
      refine to_n 2 (fr' := (42, [(0, .ref 24), (1, .int (nI k1)), (2, .int (sc 2405))], [.ref 24], gh S a b sc ar lo, ex, 0, 0)) rfl ?_
      refine to_cv (q := 53) (M1 := an_X5_advance) (rest := []) rfl rfl (by decide) rfl ⟨_, rfl⟩ (sf_X5_advance hW hI  (d + 31)) (fun sc3 ar3 hx3 => ?_)
      obtain ⟨hI3, hG3⟩ := hx3
      have hF3 := fr_t hF hG3 (by decide) (by decide)
      refine to_eq (fr' := (45, [(0, .ref 24), (1, .int (nI k1)), (2, .int (sc 2405))], [], gh S a b sc3 ar3 lo, ex, 0, 0)) rfl ?_
      refine to_n 2 (fr' := (47, [(0, .ref 24), (1, .int (nI k1)), (2, .int (sc 2405))], [.int 0, .ref 24], gh S a b sc3 ar3 lo, ex, 0, 0)) rfl ?_
      refine to_ci (q := 44) (M1 := an_X5_readExpr) (rest := []) rfl rfl (by decide) rfl ⟨_, rfl⟩ (sf_readExpr hW hI3 0 (by omega) d) (fun x4 sc4 ar4 hx4 => ?_)
      obtain ⟨hI4, hG4, hx4⟩ := hx4
      have hF4 := fr_t hF3 hG4 (by decide) (by decide)
      obtain ⟨n4, hn4, rfl⟩ := hx4
      refine to_eq (fr' := (50, [(0, .ref 24), (1, .int (nI k1)), (2, .int (sc 2405))], [.int (nI n4)], gh S a b sc4 ar4 lo, ex, 0, 0)) rfl ?_
      refine to_nf_ne (t := 55) (x := n4) rfl (by omega) (fun q5 => ?_) (fun q5 => ?_)
      · refine to_n 1 (fr' := (56, [(0, .ref 24), (1, .int (nI k1)), (2, .int (sc 2405))], [.ref 24], gh S a b sc4 ar4 lo, ex, 0, 0)) rfl ?_
        refine to_getR (v := (sc4 2405)) rfl rfl rfl rfl rfl ?_
        refine to_n 1 (fr' := (61, [(0, .ref 24), (1, .int (nI k1)), (2, .int (sc 2405))], [.int (-6), .int (sc4 2405)], gh S a b sc4 ar4 lo, ex, 0, 0)) rfl ?_
        refine to_ic_eq (t := 70) rfl (fun q6 => ?_) (fun q6 => ?_)
        · refine to_n 2 (fr' := (72, [(0, .ref 24), (1, .int (nI k1)), (2, .int (sc 2405))], [.int (sc 2405), .ref 24], gh S a b sc4 ar4 lo, ex, 0, 0)) rfl ?_
          refine to_cv (q := 52) (M1 := an_X5_emit) (rest := []) rfl rfl (by decide) rfl ⟨_, rfl⟩ (sf_X5_emit hW hI4 (sc 2405) (d + 31)) (fun sc7 ar7 hx7 => ?_)
          obtain ⟨hI7, hG7⟩ := hx7
          have hF7 := fr_t hF4 hG7 (by decide) (by decide)
          refine to_eq (fr' := (75, [(0, .ref 24), (1, .int (nI k1)), (2, .int (sc 2405))], [], gh S a b sc7 ar7 lo, ex, 0, 0)) rfl ?_
          refine to_n 1 (fr' := (76, [(0, .ref 24), (1, .int (nI k1)), (2, .int (sc 2405))], [.ref 24], gh S a b sc7 ar7 lo, ex, 0, 0)) rfl ?_
          refine to_cv (q := 53) (M1 := an_X5_advance) (rest := []) rfl rfl (by decide) rfl ⟨_, rfl⟩ (sf_X5_advance hW hI7  (d + 31)) (fun sc8 ar8 hx8 => ?_)
          obtain ⟨hI8, hG8⟩ := hx8
          have hF8 := fr_t hF7 hG8 (by decide) (by decide)
          refine to_eq (fr' := (79, [(0, .ref 24), (1, .int (nI k1)), (2, .int (sc 2405))], [], gh S a b sc8 ar8 lo, ex, 0, 0)) rfl ?_
          refine to_n 1 (fr' := (80, [(0, .ref 24), (1, .int (nI k1)), (2, .int (sc 2405))], [.int 1], gh S a b sc8 ar8 lo, ex, 0, 0)) rfl ?_
          exact to_rt (i := .ireturn) (tg := []) rfl rfl ⟨_, _, _, ⟨hI8, hF8, rl_n (n := 1) (by omega)⟩, rfl⟩
        · refine to_n 2 (fr' := (66, [(0, .ref 24), (1, .int (nI k1)), (2, .int (sc 2405))], [.int 1, .ref 24], gh S a b sc4 ar4 lo, ex, 0, 0)) rfl ?_
          refine to_ci (q := 51) (M1 := an_X5_fail) (rest := []) rfl rfl (by decide) rfl ⟨_, rfl⟩ (sf_X5_fail hW hI4 1 (d + 31)) (fun x9 sc9 ar9 hx9 => ?_)
          obtain ⟨hI9, hG9, hx9⟩ := hx9
          have hF9 := fr_t hF4 hG9 (by decide) (by decide)
          obtain ⟨n9, hn9, rfl⟩ := hx9
          refine to_eq (fr' := (69, [(0, .ref 24), (1, .int (nI k1)), (2, .int (sc 2405))], [.int (nI n9)], gh S a b sc9 ar9 lo, ex, 0, 0)) rfl ?_
          exact to_rt (i := .ireturn) (tg := []) rfl (ai_rtz (rl_n (n := n9) (by omega))) ⟨_, _, _, ⟨hI9, hF9, rl_n (n := n9) (by omega)⟩, rfl⟩
      · refine to_n 1 (fr' := (54, [(0, .ref 24), (1, .int (nI k1)), (2, .int (sc 2405))], [.int 0], gh S a b sc4 ar4 lo, ex, 0, 0)) rfl ?_
        exact to_rt (i := .ireturn) (tg := []) rfl rfl ⟨_, _, _, ⟨hI4, hF4, rl_n (n := 0) (by omega)⟩, rfl⟩
    · refine to_n 2 (fr' := (32, [(0, .ref 24), (1, .int (nI k1))], [.int 2, .ref 24], gh S a b sc ar lo, ex, 0, 0)) rfl ?_
      refine to_ci (q := 51) (M1 := an_X5_fail) (rest := []) rfl rfl (by decide) rfl ⟨_, rfl⟩ (sf_X5_fail hW hI 2 (d + 31)) (fun x10 sc10 ar10 hx10 => ?_)
      obtain ⟨hI10, hG10, hx10⟩ := hx10
      have hF10 := fr_t hF hG10 (by decide) (by decide)
      obtain ⟨n10, hn10, rfl⟩ := hx10
      refine to_eq (fr' := (35, [(0, .ref 24), (1, .int (nI k1))], [.int (nI n10)], gh S a b sc10 ar10 lo, ex, 0, 0)) rfl ?_
      exact to_rt (i := .ireturn) (tg := []) rfl (ai_rtz (rl_n (n := n10) (by omega))) ⟨_, _, _, ⟨hI10, hF10, rl_n (n := n10) (by omega)⟩, rfl⟩
  · refine to_n 1 (fr' := (10, [(0, .ref 24), (1, .int (nI k1))], [.ref 24], gh S a b sc ar lo, ex, 0, 0)) rfl ?_
    refine to_getR (v := (sc 2405)) rfl rfl rfl rfl rfl ?_
    refine to_n 1 (fr' := (15, [(0, .ref 24), (1, .int (nI k1))], [.int (-13), .int (sc 2405)], gh S a b sc ar lo, ex, 0, 0)) rfl ?_
    refine to_ic_eq (t := 24) rfl (fun q11 => ?_) (fun q11 => ?_)
    · refine to_n 2 (fr' := (27, [(0, .ref 24), (1, .int (nI k1))], [.int 12, .int (nI k1)], gh S a b sc ar lo, ex, 0, 0)) rfl ?_
      refine to_nc_lt (t := 36) (x := k1) (y := 12) rfl (by omega) (by omega) (fun q12 => ?_) (fun q12 => ?_)
      · refine to_n 1 (fr' := (37, [(0, .ref 24), (1, .int (nI k1))], [.ref 24], gh S a b sc ar lo, ex, 0, 0)) rfl ?_
        refine to_getR (v := (sc 2405)) rfl rfl rfl rfl rfl ?_
        refine to_n 2 (fr' := (42, [(0, .ref 24), (1, .int (nI k1)), (2, .int (sc 2405))], [.ref 24], gh S a b sc ar lo, ex, 0, 0)) rfl ?_
        refine to_cv (q := 53) (M1 := an_X5_advance) (rest := []) rfl rfl (by decide) rfl ⟨_, rfl⟩ (sf_X5_advance hW hI  (d + 31)) (fun sc13 ar13 hx13 => ?_)
        obtain ⟨hI13, hG13⟩ := hx13
        have hF13 := fr_t hF hG13 (by decide) (by decide)
        refine to_eq (fr' := (45, [(0, .ref 24), (1, .int (nI k1)), (2, .int (sc 2405))], [], gh S a b sc13 ar13 lo, ex, 0, 0)) rfl ?_
        refine to_n 2 (fr' := (47, [(0, .ref 24), (1, .int (nI k1)), (2, .int (sc 2405))], [.int 0, .ref 24], gh S a b sc13 ar13 lo, ex, 0, 0)) rfl ?_
        refine to_ci (q := 44) (M1 := an_X5_readExpr) (rest := []) rfl rfl (by decide) rfl ⟨_, rfl⟩ (sf_readExpr hW hI13 0 (by omega) d) (fun x14 sc14 ar14 hx14 => ?_)
        obtain ⟨hI14, hG14, hx14⟩ := hx14
        have hF14 := fr_t hF13 hG14 (by decide) (by decide)
        obtain ⟨n14, hn14, rfl⟩ := hx14
        refine to_eq (fr' := (50, [(0, .ref 24), (1, .int (nI k1)), (2, .int (sc 2405))], [.int (nI n14)], gh S a b sc14 ar14 lo, ex, 0, 0)) rfl ?_
        refine to_nf_ne (t := 55) (x := n14) rfl (by omega) (fun q15 => ?_) (fun q15 => ?_)
        · refine to_n 1 (fr' := (56, [(0, .ref 24), (1, .int (nI k1)), (2, .int (sc 2405))], [.ref 24], gh S a b sc14 ar14 lo, ex, 0, 0)) rfl ?_
          refine to_getR (v := (sc14 2405)) rfl rfl rfl rfl rfl ?_
          refine to_n 1 (fr' := (61, [(0, .ref 24), (1, .int (nI k1)), (2, .int (sc 2405))], [.int (-6), .int (sc14 2405)], gh S a b sc14 ar14 lo, ex, 0, 0)) rfl ?_
          refine to_ic_eq (t := 70) rfl (fun q16 => ?_) (fun q16 => ?_)
          · refine to_n 2 (fr' := (72, [(0, .ref 24), (1, .int (nI k1)), (2, .int (sc 2405))], [.int (sc 2405), .ref 24], gh S a b sc14 ar14 lo, ex, 0, 0)) rfl ?_
            refine to_cv (q := 52) (M1 := an_X5_emit) (rest := []) rfl rfl (by decide) rfl ⟨_, rfl⟩ (sf_X5_emit hW hI14 (sc 2405) (d + 31)) (fun sc17 ar17 hx17 => ?_)
            obtain ⟨hI17, hG17⟩ := hx17
            have hF17 := fr_t hF14 hG17 (by decide) (by decide)
            refine to_eq (fr' := (75, [(0, .ref 24), (1, .int (nI k1)), (2, .int (sc 2405))], [], gh S a b sc17 ar17 lo, ex, 0, 0)) rfl ?_
            refine to_n 1 (fr' := (76, [(0, .ref 24), (1, .int (nI k1)), (2, .int (sc 2405))], [.ref 24], gh S a b sc17 ar17 lo, ex, 0, 0)) rfl ?_
            refine to_cv (q := 53) (M1 := an_X5_advance) (rest := []) rfl rfl (by decide) rfl ⟨_, rfl⟩ (sf_X5_advance hW hI17  (d + 31)) (fun sc18 ar18 hx18 => ?_)
            obtain ⟨hI18, hG18⟩ := hx18
            have hF18 := fr_t hF17 hG18 (by decide) (by decide)
            refine to_eq (fr' := (79, [(0, .ref 24), (1, .int (nI k1)), (2, .int (sc 2405))], [], gh S a b sc18 ar18 lo, ex, 0, 0)) rfl ?_
            refine to_n 1 (fr' := (80, [(0, .ref 24), (1, .int (nI k1)), (2, .int (sc 2405))], [.int 1], gh S a b sc18 ar18 lo, ex, 0, 0)) rfl ?_
            exact to_rt (i := .ireturn) (tg := []) rfl rfl ⟨_, _, _, ⟨hI18, hF18, rl_n (n := 1) (by omega)⟩, rfl⟩
          · refine to_n 2 (fr' := (66, [(0, .ref 24), (1, .int (nI k1)), (2, .int (sc 2405))], [.int 1, .ref 24], gh S a b sc14 ar14 lo, ex, 0, 0)) rfl ?_
            refine to_ci (q := 51) (M1 := an_X5_fail) (rest := []) rfl rfl (by decide) rfl ⟨_, rfl⟩ (sf_X5_fail hW hI14 1 (d + 31)) (fun x19 sc19 ar19 hx19 => ?_)
            obtain ⟨hI19, hG19, hx19⟩ := hx19
            have hF19 := fr_t hF14 hG19 (by decide) (by decide)
            obtain ⟨n19, hn19, rfl⟩ := hx19
            refine to_eq (fr' := (69, [(0, .ref 24), (1, .int (nI k1)), (2, .int (sc 2405))], [.int (nI n19)], gh S a b sc19 ar19 lo, ex, 0, 0)) rfl ?_
            exact to_rt (i := .ireturn) (tg := []) rfl (ai_rtz (rl_n (n := n19) (by omega))) ⟨_, _, _, ⟨hI19, hF19, rl_n (n := n19) (by omega)⟩, rfl⟩
        · refine to_n 1 (fr' := (54, [(0, .ref 24), (1, .int (nI k1)), (2, .int (sc 2405))], [.int 0], gh S a b sc14 ar14 lo, ex, 0, 0)) rfl ?_
          exact to_rt (i := .ireturn) (tg := []) rfl rfl ⟨_, _, _, ⟨hI14, hF14, rl_n (n := 0) (by omega)⟩, rfl⟩
      · refine to_n 2 (fr' := (32, [(0, .ref 24), (1, .int (nI k1))], [.int 2, .ref 24], gh S a b sc ar lo, ex, 0, 0)) rfl ?_
        refine to_ci (q := 51) (M1 := an_X5_fail) (rest := []) rfl rfl (by decide) rfl ⟨_, rfl⟩ (sf_X5_fail hW hI 2 (d + 31)) (fun x20 sc20 ar20 hx20 => ?_)
        obtain ⟨hI20, hG20, hx20⟩ := hx20
        have hF20 := fr_t hF hG20 (by decide) (by decide)
        obtain ⟨n20, hn20, rfl⟩ := hx20
        refine to_eq (fr' := (35, [(0, .ref 24), (1, .int (nI k1))], [.int (nI n20)], gh S a b sc20 ar20 lo, ex, 0, 0)) rfl ?_
        exact to_rt (i := .ireturn) (tg := []) rfl (ai_rtz (rl_n (n := n20) (by omega))) ⟨_, _, _, ⟨hI20, hF20, rl_n (n := n20) (by omega)⟩, rfl⟩
    · refine to_n 2 (fr' := (20, [(0, .ref 24), (1, .int (nI k1))], [.int 1, .ref 24], gh S a b sc ar lo, ex, 0, 0)) rfl ?_
      refine to_ci (q := 51) (M1 := an_X5_fail) (rest := []) rfl rfl (by decide) rfl ⟨_, rfl⟩ (sf_X5_fail hW hI 1 (d + 31)) (fun x21 sc21 ar21 hx21 => ?_)
      obtain ⟨hI21, hG21, hx21⟩ := hx21
      have hF21 := fr_t hF hG21 (by decide) (by decide)
      obtain ⟨n21, hn21, rfl⟩ := hx21
      refine to_eq (fr' := (23, [(0, .ref 24), (1, .int (nI k1))], [.int (nI n21)], gh S a b sc21 ar21 lo, ex, 0, 0)) rfl ?_
      exact to_rt (i := .ireturn) (tg := []) rfl (ai_rtz (rl_n (n := n21) (by omega))) ⟨_, _, _, ⟨hI21, hF21, rl_n (n := n21) (by omega)⟩, rfl⟩
set_option maxRecDepth 20000 in
theorem sf_X5_reads {X : Nat × (Nat → Int32)} {S a b : Nat} {sc : Nat → Int32} {ar : Nat → Nat → Int32} {lo : Nat → Int64} {ex : Bool} (hW : Wd S a b) (hI : Iv S sc ar) (k1 : Nat) (hk1 : k1 < 401) (d : Nat)  : ci X S a b (d + 34) 41 [.ref 24, .int (nI k1)] sc ar lo ex (fun x sc' ar' => Iv S sc' ar' ∧ Fr [2401, 2402, 2404, 2405, 2602, 2604, 2605] [25, 27, 28] sc ar sc' ar' ∧ rl x 2) := by
  obtain ⟨ha1, ha8, hb1, hb8, hab, hS1, hS⟩ := id hW
  refine ci_of (M := an_X5_reads) rfl (Nat.le_of_ble_eq_true rfl) ?_
  have hF : Fr [2401, 2402, 2404, 2405, 2602, 2604, 2605] [25, 27, 28] sc ar sc ar := fr_0
  refine to_eq (fr' := (0, [(0, .ref 24), (1, .int (nI k1))], [], gh S a b sc ar lo, ex, 0, 0)) rfl ?_
  have c38 : ∀ m : Nat, ∀ (i : Nat) (sc1 : Nat → Int32) (ar1 : Nat → Nat → Int32), 13 ≤ i + m → i ≤ 13 → Iv S sc1 ar1 → Fr [2401, 2402, 2404, 2405, 2602, 2604, 2605] [25, 27, 28] sc ar sc1 ar1 → ag_To X (d + 33) an_X5_reads (38, [(0, .ref 24), (1, .int (nI k1)), (2, .int (nI i))], [], gh S a b sc1 ar1 lo, ex, 0, 0) (qi S a b lo ex (fun x sc' ar' => Iv S sc' ar' ∧ Fr [2401, 2402, 2404, 2405, 2602, 2604, 2605] [25, 27, 28] sc ar sc' ar' ∧ rl x 2)) := by
    intro m
    induction m with
    | zero =>
      intro i sc1 ar1 hm hc38_0 hI1 hF1
      refine to_n 1 (fr' := (39, [(0, .ref 24), (1, .int (nI k1)), (2, .int (nI i))], [.ref 24], gh S a b sc1 ar1 lo, ex, 0, 0)) rfl ?_
      refine to_getR (v := (sc1 2405)) rfl rfl rfl rfl rfl ?_
      refine to_n 1 (fr' := (43, [(0, .ref 24), (1, .int (nI k1)), (2, .int (nI i))], [.int (-1), .int (sc1 2405)], gh S a b sc1 ar1 lo, ex, 0, 0)) rfl ?_
      refine to_ic_eq (t := 68) rfl (fun q2 => ?_) (fun q2 => ?_)
      · refine to_n 1 (fr' := (69, [(0, .ref 24), (1, .int (nI k1)), (2, .int (nI i))], [.int 1], gh S a b sc1 ar1 lo, ex, 0, 0)) rfl ?_
        exact to_rt (i := .ireturn) (tg := []) rfl rfl ⟨_, _, _, ⟨hI1, hF1, rl_n (n := 1) (by omega)⟩, rfl⟩
      · refine to_n 2 (fr' := (49, [(0, .ref 24), (1, .int (nI k1)), (2, .int (nI i))], [.int 12, .int (nI i)], gh S a b sc1 ar1 lo, ex, 0, 0)) rfl ?_
        refine to_nc_gt_T (t := 68) (x := i) (y := 12) rfl (by omega) (by omega) (by omega) ?_
        refine to_n 1 (fr' := (69, [(0, .ref 24), (1, .int (nI k1)), (2, .int (nI i))], [.int 1], gh S a b sc1 ar1 lo, ex, 0, 0)) rfl ?_
        exact to_rt (i := .ireturn) (tg := []) rfl rfl ⟨_, _, _, ⟨hI1, hF1, rl_n (n := 1) (by omega)⟩, rfl⟩
    | succ m ih =>
      intro i sc1 ar1 hm hc38_0 hI1 hF1
      refine to_n 1 (fr' := (39, [(0, .ref 24), (1, .int (nI k1)), (2, .int (nI i))], [.ref 24], gh S a b sc1 ar1 lo, ex, 0, 0)) rfl ?_
      refine to_getR (v := (sc1 2405)) rfl rfl rfl rfl rfl ?_
      refine to_n 1 (fr' := (43, [(0, .ref 24), (1, .int (nI k1)), (2, .int (nI i))], [.int (-1), .int (sc1 2405)], gh S a b sc1 ar1 lo, ex, 0, 0)) rfl ?_
      refine to_ic_eq (t := 68) rfl (fun q3 => ?_) (fun q3 => ?_)
      · refine to_n 1 (fr' := (69, [(0, .ref 24), (1, .int (nI k1)), (2, .int (nI i))], [.int 1], gh S a b sc1 ar1 lo, ex, 0, 0)) rfl ?_
        exact to_rt (i := .ireturn) (tg := []) rfl rfl ⟨_, _, _, ⟨hI1, hF1, rl_n (n := 1) (by omega)⟩, rfl⟩
      · refine to_n 2 (fr' := (49, [(0, .ref 24), (1, .int (nI k1)), (2, .int (nI i))], [.int 12, .int (nI i)], gh S a b sc1 ar1 lo, ex, 0, 0)) rfl ?_
        refine to_nc_gt (t := 68) (x := i) (y := 12) rfl (by omega) (by omega) (fun q4 => ?_) (fun q4 => ?_)
        · refine to_n 1 (fr' := (69, [(0, .ref 24), (1, .int (nI k1)), (2, .int (nI i))], [.int 1], gh S a b sc1 ar1 lo, ex, 0, 0)) rfl ?_
          exact to_rt (i := .ireturn) (tg := []) rfl rfl ⟨_, _, _, ⟨hI1, hF1, rl_n (n := 1) (by omega)⟩, rfl⟩
        · refine to_n 2 (fr' := (54, [(0, .ref 24), (1, .int (nI k1)), (2, .int (nI i))], [.int (nI i), .ref 24], gh S a b sc1 ar1 lo, ex, 0, 0)) rfl ?_
          refine to_ci (q := 43) (M1 := an_X5_readRule) (rest := []) rfl rfl (by decide) rfl ⟨_, rfl⟩ (sf_X5_readRule hW hI1 i (by omega) d) (fun x5 sc5 ar5 hx5 => ?_)
          obtain ⟨hI5, hG5, hx5⟩ := hx5
          have hF5 := fr_t hF1 hG5 (by decide) (by decide)
          obtain ⟨n5, hn5, rfl⟩ := hx5
          refine to_eq (fr' := (57, [(0, .ref 24), (1, .int (nI k1)), (2, .int (nI i))], [.int (nI n5)], gh S a b sc5 ar5 lo, ex, 0, 0)) rfl ?_
          refine to_nf_ne (t := 62) (x := n5) rfl (by omega) (fun q6 => ?_) (fun q6 => ?_)
          · refine to_n 1 (fr' := (65, [(0, .ref 24), (1, .int (nI k1)), (2, .int ((nI i) + 1))], [], gh S a b sc5 ar5 lo, ex, 0, 0)) rfl ?_
            rw [nI_1 i]
            refine to_n 1 (fr' := (38, [(0, .ref 24), (1, .int (nI k1)), (2, .int (nI (i + 1)))], [], gh S a b sc5 ar5 lo, ex, 0, 0)) rfl ?_
            exact ih (i + 1) sc5 ar5 (by omega) (by omega) hI5 hF5
          · refine to_n 1 (fr' := (61, [(0, .ref 24), (1, .int (nI k1)), (2, .int (nI i))], [.int 0], gh S a b sc5 ar5 lo, ex, 0, 0)) rfl ?_
            exact to_rt (i := .ireturn) (tg := []) rfl rfl ⟨_, _, _, ⟨hI5, hF5, rl_n (n := 0) (by omega)⟩, rfl⟩
  refine to_n 1 (fr' := (1, [(0, .ref 24), (1, .int (nI k1))], [.ref 24], gh S a b sc ar lo, ex, 0, 0)) rfl ?_
  refine to_get rfl rfl rfl rfl ?_
  refine to_n 1 (fr' := (5, [(0, .ref 24), (1, .int (nI k1))], [.int (nI k1), .ref 26], gh S a b sc ar lo, ex, 0, 0)) rfl ?_
  refine to_cv (q := 57) (M1 := an_X7_scan) (rest := []) rfl rfl (by decide) rfl ⟨_, rfl⟩ (sf_X7_scan hW hI k1 (by omega) (d + 28)) (fun sc7 ar7 hx7 => ?_)
  obtain ⟨hI7, hG7⟩ := hx7
  have hF7 := fr_t hF hG7 (by decide) (by decide)
  refine to_eq (fr' := (8, [(0, .ref 24), (1, .int (nI k1))], [], gh S a b sc7 ar7 lo, ex, 0, 0)) rfl ?_
  refine to_n 2 (fr' := (10, [(0, .ref 24), (1, .int (nI k1))], [.int 0, .ref 24], gh S a b sc7 ar7 lo, ex, 0, 0)) rfl ?_
  refine to_putR (h' := gh S a b (upd sc7 2404 0) ar7 lo) rfl rfl rfl (Nat.le_of_ble_eq_true rfl) rfl rfl ?_
  have hI8 := ip_2404 (v := 0) hI7 (rl_n (n := 0) (by omega))
  have hF8 := fr_s (k := 2404) (v := 0) hF7 (by decide)
  refine to_n 2 (fr' := (15, [(0, .ref 24), (1, .int (nI k1))], [.ref 24, .ref 24], gh S a b (upd sc7 2404 0) ar7 lo, ex, 0, 0)) rfl ?_
  refine to_get rfl rfl rfl rfl ?_
  refine to_get rfl rfl rfl rfl ?_
  refine to_n 1 (fr' := (22, [(0, .ref 24), (1, .int (nI k1))], [.int 0, .ref 27, .ref 24], gh S a b (upd sc7 2404 0) ar7 lo, ex, 0, 0)) rfl ?_
  refine to_ialR (i := 0) (v := ((ar7 27) 0)) rfl (by decide) rfl (by omega) (by omega) rfl ?_
  refine to_putR (h' := gh S a b (upd (upd sc7 2404 0) 2405 ((ar7 27) 0)) ar7 lo) rfl rfl rfl (Nat.le_of_ble_eq_true rfl) rfl rfl ?_
  have hI9 := ip_2405 (v := ((ar7 27) 0)) hI8 
  have hF9 := fr_s (k := 2405) (v := ((ar7 27) 0)) hF8 (by decide)
  refine to_n 2 (fr' := (28, [(0, .ref 24), (1, .int (nI k1))], [.int 0, .ref 24], gh S a b (upd (upd sc7 2404 0) 2405 ((ar7 27) 0)) ar7 lo, ex, 0, 0)) rfl ?_
  refine to_putR (h' := gh S a b (upd (upd (upd sc7 2404 0) 2405 ((ar7 27) 0)) 2401 0) ar7 lo) rfl rfl rfl (Nat.le_of_ble_eq_true rfl) rfl rfl ?_
  have hI10 := ip_2401 (v := 0) hI9 (rl_n (n := 0) (by omega))
  have hF10 := fr_s (k := 2401) (v := 0) hF9 (by decide)
  refine to_n 2 (fr' := (33, [(0, .ref 24), (1, .int (nI k1))], [.int 0, .ref 24], gh S a b (upd (upd (upd sc7 2404 0) 2405 ((ar7 27) 0)) 2401 0) ar7 lo, ex, 0, 0)) rfl ?_
  refine to_putR (h' := gh S a b (upd (upd (upd (upd sc7 2404 0) 2405 ((ar7 27) 0)) 2401 0) 2402 0) ar7 lo) rfl rfl rfl (Nat.le_of_ble_eq_true rfl) rfl rfl ?_
  have hI11 := ip_2402 (v := 0) hI10 
  have hF11 := fr_s (k := 2402) (v := 0) hF10 (by decide)
  refine to_n 2 (fr' := (38, [(0, .ref 24), (1, .int (nI k1)), (2, .int 0)], [], gh S a b (upd (upd (upd (upd sc7 2404 0) 2405 ((ar7 27) 0)) 2401 0) 2402 0) ar7 lo, ex, 0, 0)) rfl ?_
  exact c38 (13 - 0) 0 (upd (upd (upd (upd sc7 2404 0) 2405 ((ar7 27) 0)) 2401 0) 2402 0) ar7 (by omega) (by omega) hI11 hF11
