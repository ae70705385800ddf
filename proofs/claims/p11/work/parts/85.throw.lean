/-! CALLS THAT MAY THROW; the class's reader and its public methods -/
section THROWS
variable (X : Nat × (Nat → Int32)) (S a b d q : Nat) (As : List Value) (sc : Nat → Int32) (ar : Nat → Nat → Int32) (lo : Nat → Int64) (ex : Bool) (E : String) (T : Prop)
def qe (P : Int32 → (Nat → Int32) → (Nat → Nat → Int32) → Prop) : ai_O → Prop := fun o => (∃ x sc' ar', P x sc' ar' ∧ o = .inl (some (.int x), gh S a b sc' ar' lo, ex, 0, 0)) ∨ (T ∧ o = .inr (E, gh S a b sc ar lo, 1, 6))
/-- an int is answered, or E is thrown and nothing changes -/
def ce (P : Int32 → (Nat → Int32) → (Nat → Nat → Int32) → Prop) : Prop := ∃ o, qe S a b sc ar lo ex E T P o ∧ ai_Ev an_ms an_lk X 35 d q As (gh S a b sc ar lo) ex o
end THROWS
section THROWT
variable {X : Nat × (Nat → Int32)} {S a b d q : Nat} {As : List Value} {sc : Nat → Int32} {ar : Nat → Nat → Int32} {lo : Nat → Int64} {ex : Bool} {M : ai_M} {Q : ai_O → Prop} {E : String} {T : Prop}
theorem ce_of {P : Int32 → (Nat → Int32) → (Nat → Nat → Int32) → Prop} (hM : an_ms[q]? = some M) (hlen : (lg_sl As).length ≤ M.ml) (k : ag_To X d M (0, lv_args 0 As, [], gh S a b sc ar lo, ex, 0, 0) (qe S a b sc ar lo ex E T P)) : ce X S a b (d + 1) q As sc ar lo ex E T P := by
  obtain ⟨o, hP, g⟩ := k
  exact ⟨o, hP, ev_of hM hlen g⟩
variable {pc nc ns : Nat} {lv : List (Nat × Value)} {st rest : List Value} {i : Instr} {tg : List Nat} {M1 : ai_M}
theorem to_ce {P : Int32 → (Nat → Int32) → (Nat → Nat → Int32) → Prop} (h1 : ai_as M.co pc = some (i, tg)) (hca : ai_ca (an_lk M.cn) i st (gh S a b sc ar lo) = some (q, As, rest)) (hq0 : q ≠ 0) (hM1 : an_ms[q]? = some M1) (hrc : ai_rc i As (gh S a b sc ar lo) M1.cn) (c : ce X S a b d q As sc ar lo ex E T P) (hh : M.hh = []) (hni : ai_ni i (.inr (E, gh S a b sc ar lo, 1, 6))) (ht : T → Q (.inr (E, gh S a b sc ar lo, nc + 1, ns + 6))) (k : ∀ x sc' ar', P x sc' ar' → ag_To X d M (pc + 3, lv, .int x :: rest, gh S a b sc' ar' lo, ex, nc, ns) Q) : ag_To X d M (pc, lv, st, gh S a b sc ar lo, ex, nc, ns) Q := by
  obtain ⟨o, ⟨x, sc', ar', hP, rfl⟩ | ⟨hT, rfl⟩, e⟩ := c
  · obtain ⟨o, hQ, g⟩ := k x sc' ar' hP
    exact ⟨o, hQ, go_callS (fr := (pc, lv, st, gh S a b sc ar lo, ex, nc, ns)) h1 hca hq0 hM1 hrc ai_ni_l e g⟩
  · exact ⟨_, ht hT, go_thr (fr := (pc, lv, st, gh S a b sc ar lo, ex, nc, ns)) h1 hca hq0 hM1 hrc hni e hh⟩
/-- a call that answers nothing and changes nothing -/
theorem to_cu (h1 : ai_as M.co pc = some (i, tg)) (hca : ai_ca (an_lk M.cn) i st (gh S a b sc ar lo) = some (q, As, rest)) (hq0 : q ≠ 0) (hM1 : an_ms[q]? = some M1) (hrc : ai_rc i As (gh S a b sc ar lo) M1.cn) (c : ai_Ev an_ms an_lk X 35 d q As (gh S a b sc ar lo) ex (.inl (none, gh S a b sc ar lo, ex, 0, 0))) (k : ag_To X d M (pc + 3, lv, rest, gh S a b sc ar lo, ex, nc, ns) Q) : ag_To X d M (pc, lv, st, gh S a b sc ar lo, ex, nc, ns) Q := by
  obtain ⟨o, hQ, g⟩ := k
  exact ⟨o, hQ, go_callS (fr := (pc, lv, st, gh S a b sc ar lo, ex, nc, ns)) h1 hca hq0 hM1 hrc ai_ni_l c g⟩
theorem to_thr (h1 : ai_as M.co pc = some (i, tg)) (hca : ai_ca (an_lk M.cn) i st (gh S a b sc ar lo) = some (q, As, rest)) (hq0 : q ≠ 0) (hM1 : an_ms[q]? = some M1) (hrc : ai_rc i As (gh S a b sc ar lo) M1.cn) (c : ai_Ev an_ms an_lk X 35 d q As (gh S a b sc ar lo) ex (.inr (E, gh S a b sc ar lo, 1, 6))) (hh : M.hh = []) (hni : ai_ni i (.inr (E, gh S a b sc ar lo, 1, 6))) (ht : Q (.inr (E, gh S a b sc ar lo, nc + 1, ns + 6))) : ag_To X d M (pc, lv, st, gh S a b sc ar lo, ex, nc, ns) Q :=
  ⟨_, ht, go_thr (fr := (pc, lv, st, gh S a b sc ar lo, ex, nc, ns)) h1 hca hq0 hM1 hrc hni c hh⟩
theorem ev_to {o : ai_O} (hM : an_ms[q]? = some M) (hlen : (lg_sl As).length ≤ M.ml) (k : ag_To X d M (0, lv_args 0 As, [], gh S a b sc ar lo, ex, 0, 0) (fun o' => o' = o)) : ai_Ev an_ms an_lk X 35 (d + 1) q As (gh S a b sc ar lo) ex o := by
  obtain ⟨o', rfl, g⟩ := k
  exact ev_of hM hlen g
end THROWT
theorem needCell_1 {X : Nat × (Nat → Int32)} {S a b : Nat} {sc : Nat → Int32} {ar : Nat → Nat → Int32} {lo : Nat → Int64} {ex : Bool} {n : Nat}  (hn : n < S ∧ S < 2 ^ 31) (d : Nat) : ai_Ev an_ms an_lk X 35 (d + 2) 89 [.ref 0, .int (nI n)] (gh S a b sc ar lo) ex (.inl (none, gh S a b sc ar lo, ex, 0, 0)) := by
  refine ev_to (M := an_X9_needCell) rfl (Nat.le_of_ble_eq_true rfl) ?_
  refine to_n 1 (fr' := (1, [(0, .ref 0), (1, .int (nI n))], [.ref 0], gh S a b sc ar lo, ex, 0, 0)) rfl ?_
  refine to_get rfl rfl rfl rfl ?_
  refine to_n 1 (fr' := (5, [(0, .ref 0), (1, .int (nI n))], [.int (nI n), .ref 1], gh S a b sc ar lo, ex, 0, 0)) rfl ?_
  refine to_cp (q := 2) (M1 := an_X0_has) (rest := []) rfl rfl (by decide) rfl ⟨_, rfl⟩ (sf_has_1  hn d) (fun x hx => ?_)
  obtain rfl := hx
  refine to_n 1 (fr' := (21, [(0, .ref 0), (1, .int (nI n))], [], gh S a b sc ar lo, ex, 0, 0)) rfl ?_
  exact to_rt (i := .return_) (tg := []) rfl rfl rfl
theorem needCell_0 {X : Nat × (Nat → Int32)} {S a b : Nat} {sc : Nat → Int32} {ar : Nat → Nat → Int32} {lo : Nat → Int64} {ex : Bool} {k : Int32}  (hk : ¬ (0 ≤ k ∧ k < nI S)) (d : Nat) : ai_Ev an_ms an_lk X 35 (d + 2) 89 [.ref 0, .int k] (gh S a b sc ar lo) ex (.inr ("java/util/NoSuchElementException", gh S a b sc ar lo, 1, 6)) := by
  refine ev_to (M := an_X9_needCell) rfl (Nat.le_of_ble_eq_true rfl) ?_
  refine to_n 1 (fr' := (1, [(0, .ref 0), (1, .int k)], [.ref 0], gh S a b sc ar lo, ex, 0, 0)) rfl ?_
  refine to_get rfl rfl rfl rfl ?_
  refine to_n 1 (fr' := (5, [(0, .ref 0), (1, .int k)], [.int k, .ref 1], gh S a b sc ar lo, ex, 0, 0)) rfl ?_
  refine to_cp (q := 2) (M1 := an_X0_has) (rest := []) rfl rfl (by decide) rfl ⟨_, rfl⟩ (sf_has_0  hk d) (fun x hx => ?_)
  obtain rfl := hx
  refine to_n 1 (fr' := (11, [(0, .ref 0), (1, .int k)], [], gh S a b sc ar lo, ex, 0, 0)) rfl ?_
  exact to_th (i := .new 183) (tg := []) rfl rfl rfl
theorem needCrew_1 {X : Nat × (Nat → Int32)} {S a b : Nat} {sc : Nat → Int32} {ar : Nat → Nat → Int32} {lo : Nat → Int64} {ex : Bool} {n : Nat} {m : Nat} (e : sc 1308 = nI m) (hn : n < m ∧ m < 2 ^ 31) (d : Nat) : ai_Ev an_ms an_lk X 35 (d + 2) 90 [.ref 0, .int (nI n)] (gh S a b sc ar lo) ex (.inl (none, gh S a b sc ar lo, ex, 0, 0)) := by
  refine ev_to (M := an_X9_needCrew) rfl (Nat.le_of_ble_eq_true rfl) ?_
  refine to_n 1 (fr' := (1, [(0, .ref 0), (1, .int (nI n))], [.ref 0], gh S a b sc ar lo, ex, 0, 0)) rfl ?_
  refine to_get rfl rfl rfl rfl ?_
  refine to_n 1 (fr' := (5, [(0, .ref 0), (1, .int (nI n))], [.int (nI n), .ref 13], gh S a b sc ar lo, ex, 0, 0)) rfl ?_
  refine to_cp (q := 14) (M1 := an_X1_has) (rest := []) rfl rfl (by decide) rfl ⟨_, rfl⟩ (cr_has_1 e hn d) (fun x hx => ?_)
  obtain rfl := hx
  refine to_n 1 (fr' := (21, [(0, .ref 0), (1, .int (nI n))], [], gh S a b sc ar lo, ex, 0, 0)) rfl ?_
  exact to_rt (i := .return_) (tg := []) rfl rfl rfl
theorem needCrew_0 {X : Nat × (Nat → Int32)} {S a b : Nat} {sc : Nat → Int32} {ar : Nat → Nat → Int32} {lo : Nat → Int64} {ex : Bool} {k : Int32} {m : Nat} (e : sc 1308 = nI m) (hk : ¬ (0 ≤ k ∧ k < nI m)) (d : Nat) : ai_Ev an_ms an_lk X 35 (d + 2) 90 [.ref 0, .int k] (gh S a b sc ar lo) ex (.inr ("java/util/NoSuchElementException", gh S a b sc ar lo, 1, 6)) := by
  refine ev_to (M := an_X9_needCrew) rfl (Nat.le_of_ble_eq_true rfl) ?_
  refine to_n 1 (fr' := (1, [(0, .ref 0), (1, .int k)], [.ref 0], gh S a b sc ar lo, ex, 0, 0)) rfl ?_
  refine to_get rfl rfl rfl rfl ?_
  refine to_n 1 (fr' := (5, [(0, .ref 0), (1, .int k)], [.int k, .ref 13], gh S a b sc ar lo, ex, 0, 0)) rfl ?_
  refine to_cp (q := 14) (M1 := an_X1_has) (rest := []) rfl rfl (by decide) rfl ⟨_, rfl⟩ (cr_has_0 e hk d) (fun x hx => ?_)
  obtain rfl := hx
  refine to_n 1 (fr' := (11, [(0, .ref 0), (1, .int k)], [], gh S a b sc ar lo, ex, 0, 0)) rfl ?_
  exact to_th (i := .new 183) (tg := []) rfl rfl rfl
theorem cr_all {X : Nat × (Nat → Int32)} {S a b : Nat} {lo : Nat → Int64} {ex : Bool} {tk : Nat → Int32} {sz : Nat} (hW : Wd S a b) (hse : Se tk sz) : ∀ (r w : Nat), w + r = 6 → ∀ d : Nat, CrOk X S a b lo ex tk sz (d + (4 + 4 * r)) 44 w (1 + 3 * r) (pEx tk sz r) (vEx tk sz r) := by
  intro r
  induction r with
  | zero =>
    intro w hw d
    obtain rfl : w = 6 := by omega
    exact cr_readExpr6 hW hse 1 (by omega) d
  | succ r ih =>
    intro w hw d
    have e0 : d + (4 + 4 * r) = (d + 1 + 4 * r) + 3 := by omega
    have h0 : CrOk X S a b lo ex tk sz ((d + 1 + 4 * r) + 3) 44 (w + 1) (1 + 3 * r) (pEx tk sz r) (vEx tk sz r) := e0 ▸ ih (w + 1) (by omega) d
    have h1 := cr_readPart hW hse w (by omega) (1 + 3 * r) (by omega) (pEx tk sz r) (vEx tk sz r) (d + 1 + 4 * r) h0
    have h2 := cr_readSum hW hse w (by omega) (1 + 3 * r) (by omega) (pEx tk sz r) (vEx tk sz r) (pg_pt hse (pg_ex hse r)) (d + 1 + 4 * r) h1
    have h3 := cr_readTest hW hse w (by omega) (1 + 3 * r + 1) (by omega) (pEx tk sz r) (vEx tk sz r) (d + 1 + 4 * r) h2
    have h4 := cr_readExpr hW hse w (by omega) (1 + 3 * r + 1 + 1) (by omega) (by omega) (pEx tk sz r) (vEx tk sz r) (pg_ts hse (pg_ex hse r)) (d + 1 + 4 * r) h3
    rw [show d + (4 + 4 * (r + 1)) = d + 1 + 4 * r + 7 by omega, show 1 + 3 * (r + 1) = 1 + 3 * r + 1 + 1 + 1 by omega]
    exact h4
theorem cr_expr {X : Nat × (Nat → Int32)} {S a b : Nat} {lo : Nat → Int64} {ex : Bool} {tk : Nat → Int32} {sz : Nat} (hW : Wd S a b) (hse : Se tk sz) (d : Nat) : CrOk X S a b lo ex tk sz (d + 28) 44 0 19 (pEx tk sz 6) (vEx tk sz 6) := cr_all hW hse 6 0 rfl d
theorem sgR_fr {L A : List Nat} {sc sc' : Nat → Int32} {ar ar' : Nat → Nat → Int32} {i j : Nat} {G : zLaw2} (s : sgR (ar 25) i j G) (f : Fr L A sc ar sc' ar') (hA : 25 ∉ A) : sgR (ar' 25) i j G := f.2 25 hA ▸ s
set_option maxRecDepth 20000 in
theorem cr_readRule {X : Nat × (Nat → Int32)} {S a b : Nat} {lo : Nat → Int64} {ex : Bool} {tk : Nat → Int32} {sz : Nat} (hW : Wd S a b) (hse : Se tk sz) (w : Nat) (hw : w < 13) (d : Nat) (hE : CrOk X S a b lo ex tk sz (d + 28) 44 0 19 (pEx tk sz 6) (vEx tk sz 6)) (sc : Nat → Int32) (ar : Nat → Nat → Int32) (j c e : Nat) (hI : Iv S sc ar) (hc : Cs tk sz j sc ar) (ec : sc 2401 = nI c) (hce : c + e ≤ j) : ci X S a b (d + 29) 43 [.ref 24, .int (nI w)] sc ar lo ex (fun x sc' ar' => Iv S sc' ar' ∧ Fr [2401, 2402, 2404, 2405] [25] sc ar sc' ar' ∧ rl x 2 ∧ (∃ k, Cs tk sz k sc' ar' ∧ ((pRl tk sz w j = .inl k ∧ x = 1 ∧ ∃ c' : Nat, sc' 2401 = nI (c' + 1) ∧ c' + 1 ≤ k ∧ (∀ y, y < c → ar' 25 y = ar 25 y) ∧ zsC (ar' 25) c c' 19 (vEx tk sz 6 (ad_ sz j)) ∧ ar' 25 c' = tk j ∧ (tk j = -12 ∨ tk j = -13)) ∨ (pRl tk sz w j = .inr k ∧ x = 0)))) := by
  obtain ⟨ha1, ha8, hb1, hb8, hab, hS1, hS⟩ := id hW
  have hsz := hse.2.1
  have hj := hc.1
  refine ci_of (M := an_X5_readRule) rfl (Nat.le_of_ble_eq_true rfl) ?_
  have hF : Fr [2401, 2402, 2404, 2405] [25] sc ar sc ar := fr_0
  refine to_eq (fr' := (0, [(0, .ref 24), (1, .int (nI w))], [], gh S a b sc ar lo, ex, 0, 0)) rfl ?_
  refine to_n 1 (fr' := (1, [(0, .ref 24), (1, .int (nI w))], [.ref 24], gh S a b sc ar lo, ex, 0, 0)) rfl ?_
  refine to_getR (v := (tk j)) rfl rfl rfl rfl hc.2.2.2.1 ?_
  refine to_n 1 (fr' := (6, [(0, .ref 24), (1, .int (nI w))], [.int (-12), .int (tk j)], gh S a b sc ar lo, ex, 0, 0)) rfl ?_
  refine to_ic_eq (t := 24) rfl (fun q1 => ?_) (fun q1 => ?_)
  · refine to_n 2 (fr' := (27, [(0, .ref 24), (1, .int (nI w))], [.int 12, .int (nI w)], gh S a b sc ar lo, ex, 0, 0)) rfl ?_
    refine to_nc_lt (t := 36) (x := w) (y := 12) rfl (by omega) (by omega) (fun q2 => ?_) (fun q2 => ?_)
    · refine to_n 1 (fr' := (37, [(0, .ref 24), (1, .int (nI w))], [.ref 24], gh S a b sc ar lo, ex, 0, 0)) rfl ?_
      refine to_getR (v := (tk j)) rfl rfl rfl rfl hc.2.2.2.1 ?_
      refine to_n 2 (fr' := (42, [(0, .ref 24), (1, .int (nI w)), (2, .int (tk j))], [.ref 24], gh S a b sc ar lo, ex, 0, 0)) rfl ?_
      have ad3 := ad_up hse hc.1 (fun w => absurd (q1.symm.trans w) (by decide))
      refine to_cv (q := 53) (M1 := an_X5_advance) (rest := []) rfl rfl (by decide) rfl ⟨_, rfl⟩ (sf_X5_advance hW hI j sz ⟨hc.1, hsz⟩ hc.2.2.1 hc.2.1 (d + 27)) (fun sc3 ar3 hx3 => ?_)
      obtain ⟨hI3, hG3, hx3⟩ := hx3
      have hF3 := fr_t hF hG3 (by decide) (by decide)
      have cs3 := cs_ad hc hG3 (by decide) hx3
      have ec3 : sc3 2401 = nI c := (hG3.1 2401 (by decide)).trans ec
      have kp3 : ∀ y, y < c → ar3 25 y = ar 25 y := fun y hy => (congrFun (hG3.2 25 (by decide)) y).trans ((fun _ _ => rfl) y hy)
      refine to_eq (fr' := (45, [(0, .ref 24), (1, .int (nI w)), (2, .int (tk j))], [], gh S a b sc3 ar3 lo, ex, 0, 0)) rfl ?_
      refine to_n 2 (fr' := (47, [(0, .ref 24), (1, .int (nI w)), (2, .int (tk j))], [.int 0, .ref 24], gh S a b sc3 ar3 lo, ex, 0, 0)) rfl ?_
      refine to_ci (q := 44) (M1 := an_X5_readExpr) (rest := []) rfl rfl (by decide) rfl ⟨_, rfl⟩ (hE sc3 ar3 (ad_ sz j) c (e + 1) hI3 cs3 ec3 (by omega)) (fun x4 sc4 ar4 hx4 => ?_)
      obtain ⟨hI4, hG4, -, k4, cs4, hr4⟩ := hx4
      have hF4 := fr_t hF3 hG4 (by decide) (by decide)
      rcases hr4 with ⟨e4, rfl, c4, ec4, ce4, kq4, sg4⟩ | ⟨e4, rfl⟩
      · have le4 := sg4.1
        have kp4 : ∀ y, y < c → ar4 25 y = ar 25 y := fun y hy => (kq4 y (by omega)).trans (kp3 y hy)
        refine to_eq (fr' := (50, [(0, .ref 24), (1, .int (nI w)), (2, .int (tk j))], [.int 1], gh S a b sc4 ar4 lo, ex, 0, 0)) rfl ?_
        refine to_n 2 (fr' := (56, [(0, .ref 24), (1, .int (nI w)), (2, .int (tk j))], [.ref 24], gh S a b sc4 ar4 lo, ex, 0, 0)) rfl ?_
        refine to_getR (v := (tk k4)) rfl rfl rfl rfl cs4.2.2.2.1 ?_
        refine to_n 1 (fr' := (61, [(0, .ref 24), (1, .int (nI w)), (2, .int (tk j))], [.int (-6), .int (tk k4)], gh S a b sc4 ar4 lo, ex, 0, 0)) rfl ?_
        refine to_ic_eq (t := 70) rfl (fun q5 => ?_) (fun q5 => ?_)
        · refine to_n 2 (fr' := (72, [(0, .ref 24), (1, .int (nI w)), (2, .int (tk j))], [.int (tk j), .ref 24], gh S a b sc4 ar4 lo, ex, 0, 0)) rfl ?_
          have lt6 := cs4.1
          refine to_cv (q := 52) (M1 := an_X5_emit) (rest := []) rfl rfl (by decide) rfl ⟨_, rfl⟩ (sf_X5_emit hW hI4 (tk j) c4 (by omega) ec4 (d + 27)) (fun sc6 ar6 hx6 => ?_)
          obtain ⟨hI6, hG6, hs6, ha6⟩ := hx6
          have hF6 := fr_t hF4 hG6 (by decide) (by decide)
          have cs6 := cs_fr cs4 hG6 (by decide) (by decide)
          have hu6 : ∀ y, y < c4 → ar6 25 y = ar4 25 y := fun y hy => by rw [ha6]; exact ug_ne (by omega)
          have hv6 : ar6 25 c4 = (tk j) := by rw [ha6]; exact ug_eq
          have kp6 : ∀ y, y < c → ar6 25 y = ar 25 y := fun y hy => (hu6 y (by omega)).trans (kp4 y hy)
          have sg6_0 := zsC_ag sg4 hu6 (by omega)
          refine to_eq (fr' := (75, [(0, .ref 24), (1, .int (nI w)), (2, .int (tk j))], [], gh S a b sc6 ar6 lo, ex, 0, 0)) rfl ?_
          refine to_n 1 (fr' := (76, [(0, .ref 24), (1, .int (nI w)), (2, .int (tk j))], [.ref 24], gh S a b sc6 ar6 lo, ex, 0, 0)) rfl ?_
          have ad7 := ad_up hse cs6.1 (fun w => absurd (q5.symm.trans w) (by decide))
          refine to_cv (q := 53) (M1 := an_X5_advance) (rest := []) rfl rfl (by decide) rfl ⟨_, rfl⟩ (sf_X5_advance hW hI6 k4 sz ⟨cs6.1, hsz⟩ cs6.2.2.1 cs6.2.1 (d + 27)) (fun sc7 ar7 hx7 => ?_)
          obtain ⟨hI7, hG7, hx7⟩ := hx7
          have hF7 := fr_t hF6 hG7 (by decide) (by decide)
          have cs7 := cs_ad cs6 hG7 (by decide) hx7
          have ec7 : sc7 2401 = nI (c4 + 1) := (hG7.1 2401 (by decide)).trans hs6
          have kp7 : ∀ y, y < c → ar7 25 y = ar 25 y := fun y hy => (congrFun (hG7.2 25 (by decide)) y).trans (kp6 y hy)
          have sg7_0 := zsC_fr sg6_0 hG7 (by decide)
          have hw7 := (congrFun (hG7.2 25 (by decide)) c4).trans hv6
          refine to_eq (fr' := (79, [(0, .ref 24), (1, .int (nI w)), (2, .int (tk j))], [], gh S a b sc7 ar7 lo, ex, 0, 0)) rfl ?_
          refine to_n 1 (fr' := (80, [(0, .ref 24), (1, .int (nI w)), (2, .int (tk j))], [.int 1], gh S a b sc7 ar7 lo, ex, 0, 0)) rfl ?_
          exact to_rt (i := .ireturn) (tg := []) rfl rfl ⟨_, _, _, ⟨hI7, hF7, ⟨rl_n (n := 1) (by omega), ⟨(ad_ sz k4), cs7, Or.inl ⟨(by simp only [pRl, if_pos (Or.inl q1 : tk j = -12 ∨ tk j = -13), if_pos q2, e4, if_pos q5]), rfl, c4, ec7, by omega, kp7, sg7_0, hw7, Or.inl q1⟩⟩⟩⟩, rfl⟩
        · refine to_n 2 (fr' := (66, [(0, .ref 24), (1, .int (nI w)), (2, .int (tk j))], [.int 1, .ref 24], gh S a b sc4 ar4 lo, ex, 0, 0)) rfl ?_
          refine to_ci (q := 51) (M1 := an_X5_fail) (rest := []) rfl rfl (by decide) rfl ⟨_, rfl⟩ (sf_X5_fail hW hI4 1 (d + 27)) (fun x8 sc8 ar8 hx8 => ?_)
          obtain ⟨hI8, hG8, rfl⟩ := hx8
          have hF8 := fr_t hF4 hG8 (by decide) (by decide)
          have cs8 := cs_fr cs4 hG8 (by decide) (by decide)
          refine to_eq (fr' := (69, [(0, .ref 24), (1, .int (nI w)), (2, .int (tk j))], [.int 0], gh S a b sc8 ar8 lo, ex, 0, 0)) rfl ?_
          exact to_rt (i := .ireturn) (tg := []) rfl rfl ⟨_, _, _, ⟨hI8, hF8, ⟨rl_n (n := 0) (by omega), ⟨k4, cs8, Or.inr ⟨(by simp only [pRl, if_pos (Or.inl q1 : tk j = -12 ∨ tk j = -13), if_pos q2, e4, if_neg q5]), rfl⟩⟩⟩⟩, rfl⟩
      · refine to_eq (fr' := (50, [(0, .ref 24), (1, .int (nI w)), (2, .int (tk j))], [.int 0], gh S a b sc4 ar4 lo, ex, 0, 0)) rfl ?_
        refine to_n 2 (fr' := (54, [(0, .ref 24), (1, .int (nI w)), (2, .int (tk j))], [.int 0], gh S a b sc4 ar4 lo, ex, 0, 0)) rfl ?_
        exact to_rt (i := .ireturn) (tg := []) rfl rfl ⟨_, _, _, ⟨hI4, hF4, ⟨rl_n (n := 0) (by omega), ⟨k4, cs4, Or.inr ⟨(by simp only [pRl, if_pos (Or.inl q1 : tk j = -12 ∨ tk j = -13), if_pos q2, e4]), rfl⟩⟩⟩⟩, rfl⟩
    · refine to_n 2 (fr' := (32, [(0, .ref 24), (1, .int (nI w))], [.int 2, .ref 24], gh S a b sc ar lo, ex, 0, 0)) rfl ?_
      refine to_ci (q := 51) (M1 := an_X5_fail) (rest := []) rfl rfl (by decide) rfl ⟨_, rfl⟩ (sf_X5_fail hW hI 2 (d + 27)) (fun x9 sc9 ar9 hx9 => ?_)
      obtain ⟨hI9, hG9, rfl⟩ := hx9
      have hF9 := fr_t hF hG9 (by decide) (by decide)
      have cs9 := cs_fr hc hG9 (by decide) (by decide)
      refine to_eq (fr' := (35, [(0, .ref 24), (1, .int (nI w))], [.int 0], gh S a b sc9 ar9 lo, ex, 0, 0)) rfl ?_
      exact to_rt (i := .ireturn) (tg := []) rfl rfl ⟨_, _, _, ⟨hI9, hF9, ⟨rl_n (n := 0) (by omega), ⟨j, cs9, Or.inr ⟨(by simp only [pRl, if_pos (Or.inl q1 : tk j = -12 ∨ tk j = -13), if_neg q2]), rfl⟩⟩⟩⟩, rfl⟩
  · refine to_n 1 (fr' := (10, [(0, .ref 24), (1, .int (nI w))], [.ref 24], gh S a b sc ar lo, ex, 0, 0)) rfl ?_
    refine to_getR (v := (tk j)) rfl rfl rfl rfl hc.2.2.2.1 ?_
    refine to_n 1 (fr' := (15, [(0, .ref 24), (1, .int (nI w))], [.int (-13), .int (tk j)], gh S a b sc ar lo, ex, 0, 0)) rfl ?_
    refine to_ic_eq (t := 24) rfl (fun q10 => ?_) (fun q10 => ?_)
    · refine to_n 2 (fr' := (27, [(0, .ref 24), (1, .int (nI w))], [.int 12, .int (nI w)], gh S a b sc ar lo, ex, 0, 0)) rfl ?_
      refine to_nc_lt (t := 36) (x := w) (y := 12) rfl (by omega) (by omega) (fun q11 => ?_) (fun q11 => ?_)
      · refine to_n 1 (fr' := (37, [(0, .ref 24), (1, .int (nI w))], [.ref 24], gh S a b sc ar lo, ex, 0, 0)) rfl ?_
        refine to_getR (v := (tk j)) rfl rfl rfl rfl hc.2.2.2.1 ?_
        refine to_n 2 (fr' := (42, [(0, .ref 24), (1, .int (nI w)), (2, .int (tk j))], [.ref 24], gh S a b sc ar lo, ex, 0, 0)) rfl ?_
        have ad12 := ad_up hse hc.1 (fun w => absurd (q10.symm.trans w) (by decide))
        refine to_cv (q := 53) (M1 := an_X5_advance) (rest := []) rfl rfl (by decide) rfl ⟨_, rfl⟩ (sf_X5_advance hW hI j sz ⟨hc.1, hsz⟩ hc.2.2.1 hc.2.1 (d + 27)) (fun sc12 ar12 hx12 => ?_)
        obtain ⟨hI12, hG12, hx12⟩ := hx12
        have hF12 := fr_t hF hG12 (by decide) (by decide)
        have cs12 := cs_ad hc hG12 (by decide) hx12
        have ec12 : sc12 2401 = nI c := (hG12.1 2401 (by decide)).trans ec
        have kp12 : ∀ y, y < c → ar12 25 y = ar 25 y := fun y hy => (congrFun (hG12.2 25 (by decide)) y).trans ((fun _ _ => rfl) y hy)
        refine to_eq (fr' := (45, [(0, .ref 24), (1, .int (nI w)), (2, .int (tk j))], [], gh S a b sc12 ar12 lo, ex, 0, 0)) rfl ?_
        refine to_n 2 (fr' := (47, [(0, .ref 24), (1, .int (nI w)), (2, .int (tk j))], [.int 0, .ref 24], gh S a b sc12 ar12 lo, ex, 0, 0)) rfl ?_
        refine to_ci (q := 44) (M1 := an_X5_readExpr) (rest := []) rfl rfl (by decide) rfl ⟨_, rfl⟩ (hE sc12 ar12 (ad_ sz j) c (e + 1) hI12 cs12 ec12 (by omega)) (fun x13 sc13 ar13 hx13 => ?_)
        obtain ⟨hI13, hG13, -, k13, cs13, hr13⟩ := hx13
        have hF13 := fr_t hF12 hG13 (by decide) (by decide)
        rcases hr13 with ⟨e13, rfl, c13, ec13, ce13, kq13, sg13⟩ | ⟨e13, rfl⟩
        · have le13 := sg13.1
          have kp13 : ∀ y, y < c → ar13 25 y = ar 25 y := fun y hy => (kq13 y (by omega)).trans (kp12 y hy)
          refine to_eq (fr' := (50, [(0, .ref 24), (1, .int (nI w)), (2, .int (tk j))], [.int 1], gh S a b sc13 ar13 lo, ex, 0, 0)) rfl ?_
          refine to_n 2 (fr' := (56, [(0, .ref 24), (1, .int (nI w)), (2, .int (tk j))], [.ref 24], gh S a b sc13 ar13 lo, ex, 0, 0)) rfl ?_
          refine to_getR (v := (tk k13)) rfl rfl rfl rfl cs13.2.2.2.1 ?_
          refine to_n 1 (fr' := (61, [(0, .ref 24), (1, .int (nI w)), (2, .int (tk j))], [.int (-6), .int (tk k13)], gh S a b sc13 ar13 lo, ex, 0, 0)) rfl ?_
          refine to_ic_eq (t := 70) rfl (fun q14 => ?_) (fun q14 => ?_)
          · refine to_n 2 (fr' := (72, [(0, .ref 24), (1, .int (nI w)), (2, .int (tk j))], [.int (tk j), .ref 24], gh S a b sc13 ar13 lo, ex, 0, 0)) rfl ?_
            have lt15 := cs13.1
            refine to_cv (q := 52) (M1 := an_X5_emit) (rest := []) rfl rfl (by decide) rfl ⟨_, rfl⟩ (sf_X5_emit hW hI13 (tk j) c13 (by omega) ec13 (d + 27)) (fun sc15 ar15 hx15 => ?_)
            obtain ⟨hI15, hG15, hs15, ha15⟩ := hx15
            have hF15 := fr_t hF13 hG15 (by decide) (by decide)
            have cs15 := cs_fr cs13 hG15 (by decide) (by decide)
            have hu15 : ∀ y, y < c13 → ar15 25 y = ar13 25 y := fun y hy => by rw [ha15]; exact ug_ne (by omega)
            have hv15 : ar15 25 c13 = (tk j) := by rw [ha15]; exact ug_eq
            have kp15 : ∀ y, y < c → ar15 25 y = ar 25 y := fun y hy => (hu15 y (by omega)).trans (kp13 y hy)
            have sg15_0 := zsC_ag sg13 hu15 (by omega)
            refine to_eq (fr' := (75, [(0, .ref 24), (1, .int (nI w)), (2, .int (tk j))], [], gh S a b sc15 ar15 lo, ex, 0, 0)) rfl ?_
            refine to_n 1 (fr' := (76, [(0, .ref 24), (1, .int (nI w)), (2, .int (tk j))], [.ref 24], gh S a b sc15 ar15 lo, ex, 0, 0)) rfl ?_
            have ad16 := ad_up hse cs15.1 (fun w => absurd (q14.symm.trans w) (by decide))
            refine to_cv (q := 53) (M1 := an_X5_advance) (rest := []) rfl rfl (by decide) rfl ⟨_, rfl⟩ (sf_X5_advance hW hI15 k13 sz ⟨cs15.1, hsz⟩ cs15.2.2.1 cs15.2.1 (d + 27)) (fun sc16 ar16 hx16 => ?_)
            obtain ⟨hI16, hG16, hx16⟩ := hx16
            have hF16 := fr_t hF15 hG16 (by decide) (by decide)
            have cs16 := cs_ad cs15 hG16 (by decide) hx16
            have ec16 : sc16 2401 = nI (c13 + 1) := (hG16.1 2401 (by decide)).trans hs15
            have kp16 : ∀ y, y < c → ar16 25 y = ar 25 y := fun y hy => (congrFun (hG16.2 25 (by decide)) y).trans (kp15 y hy)
            have sg16_0 := zsC_fr sg15_0 hG16 (by decide)
            have hw16 := (congrFun (hG16.2 25 (by decide)) c13).trans hv15
            refine to_eq (fr' := (79, [(0, .ref 24), (1, .int (nI w)), (2, .int (tk j))], [], gh S a b sc16 ar16 lo, ex, 0, 0)) rfl ?_
            refine to_n 1 (fr' := (80, [(0, .ref 24), (1, .int (nI w)), (2, .int (tk j))], [.int 1], gh S a b sc16 ar16 lo, ex, 0, 0)) rfl ?_
            exact to_rt (i := .ireturn) (tg := []) rfl rfl ⟨_, _, _, ⟨hI16, hF16, ⟨rl_n (n := 1) (by omega), ⟨(ad_ sz k13), cs16, Or.inl ⟨(by simp only [pRl, if_pos (Or.inr q10 : tk j = -12 ∨ tk j = -13), if_pos q11, e13, if_pos q14]), rfl, c13, ec16, by omega, kp16, sg16_0, hw16, Or.inr q10⟩⟩⟩⟩, rfl⟩
          · refine to_n 2 (fr' := (66, [(0, .ref 24), (1, .int (nI w)), (2, .int (tk j))], [.int 1, .ref 24], gh S a b sc13 ar13 lo, ex, 0, 0)) rfl ?_
            refine to_ci (q := 51) (M1 := an_X5_fail) (rest := []) rfl rfl (by decide) rfl ⟨_, rfl⟩ (sf_X5_fail hW hI13 1 (d + 27)) (fun x17 sc17 ar17 hx17 => ?_)
            obtain ⟨hI17, hG17, rfl⟩ := hx17
            have hF17 := fr_t hF13 hG17 (by decide) (by decide)
            have cs17 := cs_fr cs13 hG17 (by decide) (by decide)
            refine to_eq (fr' := (69, [(0, .ref 24), (1, .int (nI w)), (2, .int (tk j))], [.int 0], gh S a b sc17 ar17 lo, ex, 0, 0)) rfl ?_
            exact to_rt (i := .ireturn) (tg := []) rfl rfl ⟨_, _, _, ⟨hI17, hF17, ⟨rl_n (n := 0) (by omega), ⟨k13, cs17, Or.inr ⟨(by simp only [pRl, if_pos (Or.inr q10 : tk j = -12 ∨ tk j = -13), if_pos q11, e13, if_neg q14]), rfl⟩⟩⟩⟩, rfl⟩
        · refine to_eq (fr' := (50, [(0, .ref 24), (1, .int (nI w)), (2, .int (tk j))], [.int 0], gh S a b sc13 ar13 lo, ex, 0, 0)) rfl ?_
          refine to_n 2 (fr' := (54, [(0, .ref 24), (1, .int (nI w)), (2, .int (tk j))], [.int 0], gh S a b sc13 ar13 lo, ex, 0, 0)) rfl ?_
          exact to_rt (i := .ireturn) (tg := []) rfl rfl ⟨_, _, _, ⟨hI13, hF13, ⟨rl_n (n := 0) (by omega), ⟨k13, cs13, Or.inr ⟨(by simp only [pRl, if_pos (Or.inr q10 : tk j = -12 ∨ tk j = -13), if_pos q11, e13]), rfl⟩⟩⟩⟩, rfl⟩
      · refine to_n 2 (fr' := (32, [(0, .ref 24), (1, .int (nI w))], [.int 2, .ref 24], gh S a b sc ar lo, ex, 0, 0)) rfl ?_
        refine to_ci (q := 51) (M1 := an_X5_fail) (rest := []) rfl rfl (by decide) rfl ⟨_, rfl⟩ (sf_X5_fail hW hI 2 (d + 27)) (fun x18 sc18 ar18 hx18 => ?_)
        obtain ⟨hI18, hG18, rfl⟩ := hx18
        have hF18 := fr_t hF hG18 (by decide) (by decide)
        have cs18 := cs_fr hc hG18 (by decide) (by decide)
        refine to_eq (fr' := (35, [(0, .ref 24), (1, .int (nI w))], [.int 0], gh S a b sc18 ar18 lo, ex, 0, 0)) rfl ?_
        exact to_rt (i := .ireturn) (tg := []) rfl rfl ⟨_, _, _, ⟨hI18, hF18, ⟨rl_n (n := 0) (by omega), ⟨j, cs18, Or.inr ⟨(by simp only [pRl, if_pos (Or.inr q10 : tk j = -12 ∨ tk j = -13), if_neg q11]), rfl⟩⟩⟩⟩, rfl⟩
    · refine to_n 2 (fr' := (20, [(0, .ref 24), (1, .int (nI w))], [.int 1, .ref 24], gh S a b sc ar lo, ex, 0, 0)) rfl ?_
      refine to_ci (q := 51) (M1 := an_X5_fail) (rest := []) rfl rfl (by decide) rfl ⟨_, rfl⟩ (sf_X5_fail hW hI 1 (d + 27)) (fun x19 sc19 ar19 hx19 => ?_)
      obtain ⟨hI19, hG19, rfl⟩ := hx19
      have hF19 := fr_t hF hG19 (by decide) (by decide)
      have cs19 := cs_fr hc hG19 (by decide) (by decide)
      refine to_eq (fr' := (23, [(0, .ref 24), (1, .int (nI w))], [.int 0], gh S a b sc19 ar19 lo, ex, 0, 0)) rfl ?_
      exact to_rt (i := .ireturn) (tg := []) rfl rfl ⟨_, _, _, ⟨hI19, hF19, ⟨rl_n (n := 0) (by omega), ⟨j, cs19, Or.inr ⟨(by simp only [pRl, if_neg (show ¬ (tk j = -12 ∨ tk j = -13) from fun w => w.elim q1 q10)]), rfl⟩⟩⟩⟩, rfl⟩
theorem se_sm {T : Nat → Int32} {n : Nat} {tk : Nat → Int32} {pl g : Nat → Nat} {sz : Nat} (h : Sm T n tk pl g sz) : Se tk sz := ⟨h.1, h.2.1, h.2.2.2.2.2.2⟩
set_option maxRecDepth 20000 in
theorem sf_X5_reads {X : Nat × (Nat → Int32)} {S a b : Nat} {sc : Nat → Int32} {ar : Nat → Nat → Int32} {lo : Nat → Int64} {ex : Bool} (hW : Wd S a b) (hI : Iv S sc ar) (n : Nat) (hn : n < 401) (d : Nat)  : ci X S a b (d + 30) 41 [.ref 24, .int (nI n)] sc ar lo ex (fun x sc' ar' => Iv S sc' ar' ∧ Fr [2401, 2402, 2404, 2405, 2602, 2604, 2605] [25, 27, 28] sc ar sc' ar' ∧ rl x 2 ∧ (∃ (tk : Nat → Int32) (pl g : Nat → Nat) (sz k c : Nat), Sm (ar 23) n tk pl g sz ∧ sc' 2404 = nI k ∧ k < sz ∧ ar' 28 k = nI (pl k) ∧ sc' 2401 = nI c ∧ c ≤ 400 ∧ ((pLw tk sz 13 0 0 = .inl k ∧ x = 1 ∧ ∃ G : zLaw2, sgR (ar' 25) 0 c G ∧ ∀ kn, vLw tk sz kn 13 0 0 (0, 0) = G kn (0, 0)) ∨ (pLw tk sz 13 0 0 = .inr k ∧ x = 0)))) := by
  obtain ⟨ha1, ha8, hb1, hb8, hab, hS1, hS⟩ := id hW
  refine ci_of (M := an_X5_reads) rfl (Nat.le_of_ble_eq_true rfl) ?_
  have hF : Fr [2401, 2402, 2404, 2405, 2602, 2604, 2605] [25, 27, 28] sc ar sc ar := fr_0
  refine to_eq (fr' := (0, [(0, .ref 24), (1, .int (nI n))], [], gh S a b sc ar lo, ex, 0, 0)) rfl ?_
  refine to_n 1 (fr' := (1, [(0, .ref 24), (1, .int (nI n))], [.ref 24], gh S a b sc ar lo, ex, 0, 0)) rfl ?_
  refine to_get rfl rfl rfl rfl ?_
  refine to_n 1 (fr' := (5, [(0, .ref 24), (1, .int (nI n))], [.int (nI n), .ref 26], gh S a b sc ar lo, ex, 0, 0)) rfl ?_
  refine to_cv (q := 57) (M1 := an_X7_scan) (rest := []) rfl rfl (by decide) rfl ⟨_, rfl⟩ (sf_X7_scan hW hI n (by omega) (d + 24)) (fun sc1 ar1 hx1 => ?_)
  obtain ⟨hI1, hG1, hx1⟩ := hx1
  have hF1 := fr_t hF hG1 (by decide) (by decide)
  obtain ⟨pl, g, sz, hsm, hzz, hpl⟩ := hx1
  have hse := se_sm hsm
  have hz1 := hse.1
  have hz2 := hse.2.1
  refine to_eq (fr' := (8, [(0, .ref 24), (1, .int (nI n))], [], gh S a b sc1 ar1 lo, ex, 0, 0)) rfl ?_
  have c38 : ∀ m : Nat, ∀ (n1 : Nat) (j1 : Nat) (c1 : Nat) (sc2 : Nat → Int32) (ar2 : Nat → Nat → Int32), n1 + m = 13 → Cs (ar1 27) sz j1 sc2 ar2 → ar2 28 = ar1 28 → pLw (ar1 27) sz 13 0 0 = pLw (ar1 27) sz (13 - n1) n1 j1 → n1 ≤ 13 → sc2 2401 = nI c1 → c1 ≤ j1 → (∃ G : zLaw2, sgR (ar2 25) 0 c1 G ∧ ∀ kn, vLw (ar1 27) sz kn 13 0 0 (0, 0) = vLw (ar1 27) sz kn (13 - n1) n1 j1 (G kn (0, 0))) → Iv S sc2 ar2 → Fr [2401, 2402, 2404, 2405, 2602, 2604, 2605] [25, 27, 28] sc ar sc2 ar2 → ag_To X (d + 29) an_X5_reads (38, [(0, .ref 24), (1, .int (nI n)), (2, .int (nI n1))], [], gh S a b sc2 ar2 lo, ex, 0, 0) (qi S a b lo ex (fun x sc' ar' => Iv S sc' ar' ∧ Fr [2401, 2402, 2404, 2405, 2602, 2604, 2605] [25, 27, 28] sc ar sc' ar' ∧ rl x 2 ∧ (∃ (tk : Nat → Int32) (pl g : Nat → Nat) (sz k c : Nat), Sm (ar 23) n tk pl g sz ∧ sc' 2404 = nI k ∧ k < sz ∧ ar' 28 k = nI (pl k) ∧ sc' 2401 = nI c ∧ c ≤ 400 ∧ ((pLw tk sz 13 0 0 = .inl k ∧ x = 1 ∧ ∃ G : zLaw2, sgR (ar' 25) 0 c G ∧ ∀ kn, vLw tk sz kn 13 0 0 (0, 0) = G kn (0, 0)) ∨ (pLw tk sz 13 0 0 = .inr k ∧ x = 0))))) := by
    intro m
    induction m with
    | zero =>
      intro n1 j1 c1 sc2 ar2 hm hc38_0 hc38_1 hc38_2 hc38_3 hc38_4 hc38_5 hc38_6 hI2 hF2
      obtain ⟨G, sG, ew⟩ := hc38_6
      have hj1 := hc38_0.1
      refine to_n 1 (fr' := (39, [(0, .ref 24), (1, .int (nI n)), (2, .int (nI n1))], [.ref 24], gh S a b sc2 ar2 lo, ex, 0, 0)) rfl ?_
      refine to_getR (v := ((ar1 27) j1)) rfl rfl rfl rfl hc38_0.2.2.2.1 ?_
      refine to_n 1 (fr' := (43, [(0, .ref 24), (1, .int (nI n)), (2, .int (nI n1))], [.int (-1), .int ((ar1 27) j1)], gh S a b sc2 ar2 lo, ex, 0, 0)) rfl ?_
      refine to_ic_eq (t := 68) rfl (fun q3 => ?_) (fun q3 => ?_)
      · refine to_n 1 (fr' := (69, [(0, .ref 24), (1, .int (nI n)), (2, .int (nI n1))], [.int 1], gh S a b sc2 ar2 lo, ex, 0, 0)) rfl ?_
        exact to_rt (i := .ireturn) (tg := []) rfl rfl ⟨_, _, _, ⟨hI2, hF2, ⟨rl_n (n := 1) (by omega), ⟨(ar1 27), pl, g, sz, j1, c1, hsm, hc38_0.2.2.1, hc38_0.1, (congrFun hc38_1 j1).trans (hpl _ hc38_0.1), hc38_4, by omega, Or.inl ⟨hc38_2.trans (by rw [show 13 - n1 = 0 by omega]; rfl), rfl, G, sG, fun kn => (ew kn).trans (by rw [show 13 - n1 = 0 by omega]; rfl)⟩⟩⟩⟩, rfl⟩
      · refine to_n 2 (fr' := (49, [(0, .ref 24), (1, .int (nI n)), (2, .int (nI n1))], [.int 12, .int (nI n1)], gh S a b sc2 ar2 lo, ex, 0, 0)) rfl ?_
        refine to_nc_gt_T (t := 68) (x := n1) (y := 12) rfl (by omega) (by omega) (by omega) ?_
        refine to_n 1 (fr' := (69, [(0, .ref 24), (1, .int (nI n)), (2, .int (nI n1))], [.int 1], gh S a b sc2 ar2 lo, ex, 0, 0)) rfl ?_
        exact to_rt (i := .ireturn) (tg := []) rfl rfl ⟨_, _, _, ⟨hI2, hF2, ⟨rl_n (n := 1) (by omega), ⟨(ar1 27), pl, g, sz, j1, c1, hsm, hc38_0.2.2.1, hc38_0.1, (congrFun hc38_1 j1).trans (hpl _ hc38_0.1), hc38_4, by omega, Or.inl ⟨hc38_2.trans (by rw [show 13 - n1 = 0 by omega]; rfl), rfl, G, sG, fun kn => (ew kn).trans (by rw [show 13 - n1 = 0 by omega]; rfl)⟩⟩⟩⟩, rfl⟩
    | succ m ih =>
      intro n1 j1 c1 sc2 ar2 hm hc38_0 hc38_1 hc38_2 hc38_3 hc38_4 hc38_5 hc38_6 hI2 hF2
      obtain ⟨G, sG, ew⟩ := hc38_6
      have hj1 := hc38_0.1
      refine to_n 1 (fr' := (39, [(0, .ref 24), (1, .int (nI n)), (2, .int (nI n1))], [.ref 24], gh S a b sc2 ar2 lo, ex, 0, 0)) rfl ?_
      refine to_getR (v := ((ar1 27) j1)) rfl rfl rfl rfl hc38_0.2.2.2.1 ?_
      refine to_n 1 (fr' := (43, [(0, .ref 24), (1, .int (nI n)), (2, .int (nI n1))], [.int (-1), .int ((ar1 27) j1)], gh S a b sc2 ar2 lo, ex, 0, 0)) rfl ?_
      refine to_ic_eq (t := 68) rfl (fun q4 => ?_) (fun q4 => ?_)
      · refine to_n 1 (fr' := (69, [(0, .ref 24), (1, .int (nI n)), (2, .int (nI n1))], [.int 1], gh S a b sc2 ar2 lo, ex, 0, 0)) rfl ?_
        exact to_rt (i := .ireturn) (tg := []) rfl rfl ⟨_, _, _, ⟨hI2, hF2, ⟨rl_n (n := 1) (by omega), ⟨(ar1 27), pl, g, sz, j1, c1, hsm, hc38_0.2.2.1, hc38_0.1, (congrFun hc38_1 j1).trans (hpl _ hc38_0.1), hc38_4, by omega, Or.inl ⟨hc38_2.trans (by rw [show 13 - n1 = (12 - n1) + 1 by omega]; simp only [pLw, if_pos q4]), rfl, G, sG, fun kn => (ew kn).trans (by rw [show 13 - n1 = (12 - n1) + 1 by omega]; simp only [vLw, if_pos q4])⟩⟩⟩⟩, rfl⟩
      · refine to_n 2 (fr' := (49, [(0, .ref 24), (1, .int (nI n)), (2, .int (nI n1))], [.int 12, .int (nI n1)], gh S a b sc2 ar2 lo, ex, 0, 0)) rfl ?_
        refine to_nc_gt_F (t := 68) (x := n1) (y := 12) rfl (by omega) (by omega) (by omega) ?_
        refine to_n 2 (fr' := (54, [(0, .ref 24), (1, .int (nI n)), (2, .int (nI n1))], [.int (nI n1), .ref 24], gh S a b sc2 ar2 lo, ex, 0, 0)) rfl ?_
        refine to_ci (q := 43) (M1 := an_X5_readRule) (rest := []) rfl rfl (by decide) rfl ⟨_, rfl⟩ (cr_readRule hW hse n1 (by omega) d (cr_expr hW hse d) sc2 ar2 j1 c1 0 hI2 hc38_0 hc38_4 (by omega)) (fun x5 sc5 ar5 hx5 => ?_)
        obtain ⟨hI5, hG5, -, k5, cs5, hr5⟩ := hx5
        have hF5 := fr_t hF2 hG5 (by decide) (by decide)
        have p5 : ar5 28 = ar1 28 := (hG5.2 28 (by decide)).trans hc38_1
        rcases hr5 with ⟨e5, rfl, c5, ec5, ce5, kq5, sg5, hv5, ru5⟩ | ⟨e5, rfl⟩
        · have sR5 := sgR_up (sgR_ag sG kq5 (Nat.le_refl _)) sg5 (by omega) hv5 ru5
          have le5 := sg5.1
          refine to_eq (fr' := (57, [(0, .ref 24), (1, .int (nI n)), (2, .int (nI n1))], [.int 1], gh S a b sc5 ar5 lo, ex, 0, 0)) rfl ?_
          refine to_n 2 (fr' := (65, [(0, .ref 24), (1, .int (nI n)), (2, .int ((nI n1) + 1))], [], gh S a b sc5 ar5 lo, ex, 0, 0)) rfl ?_
          rw [nI_1 n1]
          refine to_n 1 (fr' := (38, [(0, .ref 24), (1, .int (nI n)), (2, .int (nI (n1 + 1)))], [], gh S a b sc5 ar5 lo, ex, 0, 0)) rfl ?_
          exact ih (n1 + 1) k5 (c5 + 1) sc5 ar5 (by omega) cs5 p5 (hc38_2.trans (by rw [show 13 - n1 = (13 - (n1 + 1)) + 1 by omega]; simp only [pLw, if_neg q4, e5])) (by omega) ec5 (by omega) ⟨_, sR5, fun kn => (ew kn).trans (by rw [show 13 - n1 = (13 - (n1 + 1)) + 1 by omega]; simp only [vLw, if_neg q4, e5])⟩ hI5 hF5
        · refine to_eq (fr' := (57, [(0, .ref 24), (1, .int (nI n)), (2, .int (nI n1))], [.int 0], gh S a b sc5 ar5 lo, ex, 0, 0)) rfl ?_
          refine to_n 2 (fr' := (61, [(0, .ref 24), (1, .int (nI n)), (2, .int (nI n1))], [.int 0], gh S a b sc5 ar5 lo, ex, 0, 0)) rfl ?_
          exact to_rt (i := .ireturn) (tg := []) rfl rfl ⟨_, _, _, ⟨hI5, hF5, ⟨rl_n (n := 0) (by omega), ((iv_s2401 hI5).elim fun c9 h9 => ⟨(ar1 27), pl, g, sz, k5, c9, hsm, cs5.2.2.1, cs5.1, (congrFun p5 k5).trans (hpl _ cs5.1), h9.2, by have := h9.1; omega, Or.inr ⟨hc38_2.trans (by rw [show 13 - n1 = (12 - n1) + 1 by omega]; simp only [pLw, if_neg q4, e5]), rfl⟩⟩)⟩⟩, rfl⟩
  refine to_n 2 (fr' := (10, [(0, .ref 24), (1, .int (nI n))], [.int 0, .ref 24], gh S a b sc1 ar1 lo, ex, 0, 0)) rfl ?_
  refine to_putR (h' := gh S a b (upd sc1 2404 0) ar1 lo) rfl rfl rfl (Nat.le_of_ble_eq_true rfl) rfl rfl ?_
  have hI6 := ip_2404 (v := 0) hI1 (rl_n (n := 0) (by omega))
  have hF6 := fr_s (k := 2404) (v := 0) hF1 (by decide)
  refine to_n 2 (fr' := (15, [(0, .ref 24), (1, .int (nI n))], [.ref 24, .ref 24], gh S a b (upd sc1 2404 0) ar1 lo, ex, 0, 0)) rfl ?_
  refine to_get rfl rfl rfl rfl ?_
  refine to_get rfl rfl rfl rfl ?_
  refine to_n 1 (fr' := (22, [(0, .ref 24), (1, .int (nI n))], [.int 0, .ref 27, .ref 24], gh S a b (upd sc1 2404 0) ar1 lo, ex, 0, 0)) rfl ?_
  refine to_ialR (i := 0) (v := ((ar1 27) 0)) rfl (by decide) rfl (by omega) (by omega) rfl ?_
  refine to_putR (h' := gh S a b (upd (upd sc1 2404 0) 2405 ((ar1 27) 0)) ar1 lo) rfl rfl rfl (Nat.le_of_ble_eq_true rfl) rfl rfl ?_
  have hI7 := ip_2405 (v := ((ar1 27) 0)) hI6 
  have hF7 := fr_s (k := 2405) (v := ((ar1 27) 0)) hF6 (by decide)
  refine to_n 2 (fr' := (28, [(0, .ref 24), (1, .int (nI n))], [.int 0, .ref 24], gh S a b (upd (upd sc1 2404 0) 2405 ((ar1 27) 0)) ar1 lo, ex, 0, 0)) rfl ?_
  refine to_putR (h' := gh S a b (upd (upd (upd sc1 2404 0) 2405 ((ar1 27) 0)) 2401 0) ar1 lo) rfl rfl rfl (Nat.le_of_ble_eq_true rfl) rfl rfl ?_
  have hI8 := ip_2401 (v := 0) hI7 (rl_n (n := 0) (by omega))
  have hF8 := fr_s (k := 2401) (v := 0) hF7 (by decide)
  refine to_n 2 (fr' := (33, [(0, .ref 24), (1, .int (nI n))], [.int 0, .ref 24], gh S a b (upd (upd (upd sc1 2404 0) 2405 ((ar1 27) 0)) 2401 0) ar1 lo, ex, 0, 0)) rfl ?_
  refine to_putR (h' := gh S a b (upd (upd (upd (upd sc1 2404 0) 2405 ((ar1 27) 0)) 2401 0) 2402 0) ar1 lo) rfl rfl rfl (Nat.le_of_ble_eq_true rfl) rfl rfl ?_
  have hI9 := ip_2402 (v := 0) hI8 
  have hF9 := fr_s (k := 2402) (v := 0) hF8 (by decide)
  refine to_n 2 (fr' := (38, [(0, .ref 24), (1, .int (nI n)), (2, .int 0)], [], gh S a b (upd (upd (upd (upd sc1 2404 0) 2405 ((ar1 27) 0)) 2401 0) 2402 0) ar1 lo, ex, 0, 0)) rfl ?_
  exact c38 (13 - 0) 0 0 0 (upd (upd (upd (upd sc1 2404 0) 2405 ((ar1 27) 0)) 2401 0) 2402 0) ar1 (by omega) ⟨by omega, hzz, rfl, rfl, fun _ _ => rfl⟩ rfl rfl (by omega) rfl (by omega) ⟨_, sgR_0, fun _ => rfl⟩ hI9 hF9
