/-! the law's own helpers: a call that is caught -/
section CAUGHT
variable (X : Nat × (Nat → Int32)) (S a b d q : Nat) (As : List Value) (sc : Nat → Int32) (ar : Nat → Nat → Int32) (lo : Nat → Int64) (ex : Bool)
def cl (P : Int32 → (Nat → Int32) → (Nat → Nat → Int32) → (Nat → Int64) → Prop) : Prop := ∃ x sc' ar' lo' ex' n s, P x sc' ar' lo' ∧ n ≤ 1 ∧ s ≤ 6 ∧ ai_Ev an_ms an_lk X 35 d q As (gh S a b sc ar lo) ex (.inl (some (.int x), gh S a b sc' ar' lo', ex', n, s))
end CAUGHT
section CAUGHTT
variable {X : Nat × (Nat → Int32)} {S a b d q : Nat} {As : List Value} {sc : Nat → Int32} {ar : Nat → Nat → Int32} {lo : Nat → Int64} {ex : Bool} {M : ai_M} {Q : ai_O → Prop} {pc nc ns : Nat} {lv : List (Nat × Value)} {st rest : List Value} {i : Instr} {tg : List Nat} {M1 : ai_M}
theorem to_cl {P : Int32 → (Nat → Int32) → (Nat → Nat → Int32) → (Nat → Int64) → Prop} (h1 : ai_as M.co pc = some (i, tg)) (hca : ai_ca (an_lk M.cn) i st (gh S a b sc ar lo) = some (q, As, rest)) (hq0 : q ≠ 0) (hM1 : an_ms[q]? = some M1) (hrc : ai_rc i As (gh S a b sc ar lo) M1.cn) (c : cl X S a b d q As sc ar lo ex P) (k : ∀ x sc' ar' lo' ex' n s, P x sc' ar' lo' → n ≤ 1 → s ≤ 6 → ag_To X d M (pc + 3, lv, .int x :: rest, gh S a b sc' ar' lo', ex', nc + n, ns + s) Q) : ag_To X d M (pc, lv, st, gh S a b sc ar lo, ex, nc, ns) Q := by
  obtain ⟨x, sc', ar', lo', ex', n, s, hP, hn, hs, e⟩ := c
  obtain ⟨o, hQ, g⟩ := k x sc' ar' lo' (ex && ex') n s hP hn hs
  exact ⟨o, hQ, go_call (fr := (pc, lv, st, gh S a b sc ar lo, ex, nc, ns)) h1 hca hq0 hM1 hrc ai_ni_l e g⟩
variable {r : ai_H × Bool × Nat × Nat}
theorem to_ldx {i : Nat} {tg : List Nat} (h1 : ai_as M.co pc = some (.iaload, tg)) (hi : i < X.1) (hn : X.1 < 2 ^ 31) (k : ag_To X d M (pc + 1, lv, .int (X.2 i) :: st, r) Q) : ag_To X d M (pc, lv, .int (nI i) :: .ref 1000000 :: st, r) Q := to_of (fun _ w => go_st h1 (by simp only [ai_st, ai_ial, ai_in_nI hi hn, if_true, nI_clamp (show i < 2 ^ 31 by omega)]) w) k
theorem to_lenx {tg : List Nat} (h1 : ai_as M.co pc = some (.arraylength, tg)) (k : ag_To X d M (pc + 1, lv, .int (nI X.1) :: st, r) Q) : ag_To X d M (pc, lv, .ref 1000000 :: st, r) Q := to_of (fun _ w => go_st h1 (by simp only [ai_st, ai_len, if_true]; rfl) w) k
end CAUGHTT
/-- yes and no, as numbers -/
def Lb (y : Int32) (v : Int64) : Prop := (y = 0 ∧ v = 0) ∨ (y = 1 ∧ v = 1)
set_option maxRecDepth 20000 in
theorem lc_house {X : Nat × (Nat → Int32)} {S a b : Nat} {sc : Nat → Int32} {ar : Nat → Nat → Int32} {lo : Nat → Int64} {ex : Bool} (hW : Wd S a b) (hI : Iv S sc ar) (x1 : Int32) (x2 : Int32) (x3 : Int32) (d : Nat) : cl X S a b (d + 4) 170 [.ref 0, .int x1, .int x2, .int x3, .ref 85] sc ar lo ex (fun x sc' ar' lo' => Iv S sc' ar' ∧ Fr [] [5, 6, 7, 8, 9, 10] sc ar sc' ar' ∧ ((x = 0 ∧ ∃ v : Int32, (rl v 2 ∧ (∃ n : Nat, n < S ∧ x1 = nI n ∧ zho n x2 x3 v (ar 5) (ar 6) (ar 7) (ar 8) (ar 9) (ar 10) (ar 12) (ar' 5) (ar' 6) (ar' 7) (ar' 8) (ar' 9) (ar' 10))) ∧ Lb v (lo' 0)) ∨ (x = 1 ∧ (¬ (0 ≤ x1 ∧ x1 < nI S)) ∧ sc' = sc ∧ ar' = ar))) := by
  obtain ⟨o, h9, e⟩ := sf_X9_house (X := X) (lo := lo) (ex := ex) hW hI x1 x2 x3 d
  rcases h9 with ⟨x, sc', ar', ⟨hI', hF', hx⟩, rfl⟩ | ⟨hT, rfl⟩
  · obtain ⟨⟨nv, hnv, rfl⟩, hp⟩ := hx
    rcases (show nv = 0 ∨ nv = 1 by omega) with rfl | rfl
    · refine ⟨0, sc', ar', vp_updL lo 0 0, ex, 0, 0, ⟨hI', hF', Or.inl ⟨rfl, 0, ⟨⟨0, by decide, rfl⟩, hp⟩, Or.inl ⟨rfl, rfl⟩⟩⟩, by decide, by decide, ?_⟩
      refine ev_of (M := an_L_house) rfl (Nat.le_of_ble_eq_true rfl) ?_
      refine go_n 6 (fr' := (7, [(0, .ref 0), (1, .int x1), (2, .int x2), (3, .int x3), (4, .ref 85)], [.int x3, .int x2, .int x1, .ref 0, .int 0, .ref 85], gh S a b sc ar lo, ex, 0, 0)) rfl ?_
      refine go_callS (q := 73) (M1 := an_X9_house) rfl rfl (by decide) rfl ⟨_, rfl⟩ trivial e ?_
      refine go_if_eq (t := 17) rfl (fun _ => ?_) (fun w => absurd rfl w)
      refine go_n 4 (fr' := (27, [(0, .ref 0), (1, .int x1), (2, .int x2), (3, .int x3), (4, .ref 85)], [.int 0], gh S a b sc' ar' (vp_updL lo 0 0), ex, 0, 0)) rfl ?_
      refine go_rt (i := .ireturn) (tg := []) rfl ?_
      rfl
    · refine ⟨0, sc', ar', vp_updL lo 0 1, ex, 0, 0, ⟨hI', hF', Or.inl ⟨rfl, 1, ⟨⟨1, by decide, rfl⟩, hp⟩, Or.inr ⟨rfl, rfl⟩⟩⟩, by decide, by decide, ?_⟩
      refine ev_of (M := an_L_house) rfl (Nat.le_of_ble_eq_true rfl) ?_
      refine go_n 6 (fr' := (7, [(0, .ref 0), (1, .int x1), (2, .int x2), (3, .int x3), (4, .ref 85)], [.int x3, .int x2, .int x1, .ref 0, .int 0, .ref 85], gh S a b sc ar lo, ex, 0, 0)) rfl ?_
      refine go_callS (q := 73) (M1 := an_X9_house) rfl rfl (by decide) rfl ⟨_, rfl⟩ trivial e ?_
      refine go_if_eq (t := 17) rfl (fun w => absurd w (by decide)) (fun _ => ?_)
      refine go_n 5 (fr' := (27, [(0, .ref 0), (1, .int x1), (2, .int x2), (3, .int x3), (4, .ref 85)], [.int 0], gh S a b sc' ar' (vp_updL lo 0 1), ex, 0, 0)) rfl ?_
      refine go_rt (i := .ireturn) (tg := []) rfl ?_
      rfl
  · refine ⟨1, sc, ar, lo, false, 1, 6, ⟨hI, fr_0, Or.inr ⟨rfl, hT, rfl, rfl⟩⟩, by decide, by decide, ?_⟩
    refine ev_of (M := an_L_house) rfl (Nat.le_of_ble_eq_true rfl) ?_
    refine go_n 6 (fr' := (7, [(0, .ref 0), (1, .int x1), (2, .int x2), (3, .int x3), (4, .ref 85)], [.int x3, .int x2, .int x1, .ref 0, .int 0, .ref 85], gh S a b sc ar lo, ex, 0, 0)) rfl ?_
    exact go_cat (fr := (7, [(0, .ref 0), (1, .int x1), (2, .int x2), (3, .int x3), (4, .ref 85)], [.int x3, .int x2, .int x1, .ref 0, .int 0, .ref 85], gh S a b sc ar lo, ex, 0, 0)) (i := .invokevirtual 7) (tg := []) (q := 73) (As := [.ref 0, .int x1, .int x2, .int x3]) (rest := [.int 0, .ref 85]) (M1 := an_X9_house) rfl rfl (by decide) rfl ⟨_, rfl⟩ trivial e (st := 0) (en := 19) (hp := 22) (ix := 13) rfl (Nat.le_of_ble_eq_true rfl) (Nat.le_of_ble_eq_true rfl) rfl
set_option maxRecDepth 20000 in
theorem lc_well {X : Nat × (Nat → Int32)} {S a b : Nat} {sc : Nat → Int32} {ar : Nat → Nat → Int32} {lo : Nat → Int64} {ex : Bool} (hW : Wd S a b) (hI : Iv S sc ar) (x1 : Int32) (k2 : Nat) (hk2 : k2 < 2) (d : Nat) : cl X S a b (d + 4) 171 [.ref 0, .int x1, .int (nI k2), .ref 85] sc ar lo ex (fun x sc' ar' lo' => Iv S sc' ar' ∧ Fr [] [12] sc ar sc' ar' ∧ ((x = 0 ∧ ∃ v : Int32, (rl v 2 ∧ (∃ n : Nat, n < S ∧ x1 = nI n ∧ zwe n (nI k2) v (ar 5) (ar 12) (ar' 12))) ∧ Lb v (lo' 0)) ∨ (x = 1 ∧ (¬ (0 ≤ x1 ∧ x1 < nI S)) ∧ sc' = sc ∧ ar' = ar))) := by
  obtain ⟨o, h9, e⟩ := sf_X9_well (X := X) (lo := lo) (ex := ex) hW hI x1 k2 hk2 d
  rcases h9 with ⟨x, sc', ar', ⟨hI', hF', hx⟩, rfl⟩ | ⟨hT, rfl⟩
  · obtain ⟨⟨nv, hnv, rfl⟩, hp⟩ := hx
    rcases (show nv = 0 ∨ nv = 1 by omega) with rfl | rfl
    · refine ⟨0, sc', ar', vp_updL lo 0 0, ex, 0, 0, ⟨hI', hF', Or.inl ⟨rfl, 0, ⟨⟨0, by decide, rfl⟩, hp⟩, Or.inl ⟨rfl, rfl⟩⟩⟩, by decide, by decide, ?_⟩
      refine ev_of (M := an_L_well) rfl (Nat.le_of_ble_eq_true rfl) ?_
      refine go_n 5 (fr' := (5, [(0, .ref 0), (1, .int x1), (2, .int (nI k2)), (3, .ref 85)], [.int (nI k2), .int x1, .ref 0, .int 0, .ref 85], gh S a b sc ar lo, ex, 0, 0)) rfl ?_
      refine go_callS (q := 74) (M1 := an_X9_well) rfl rfl (by decide) rfl ⟨_, rfl⟩ trivial e ?_
      refine go_if_eq (t := 15) rfl (fun _ => ?_) (fun w => absurd rfl w)
      refine go_n 4 (fr' := (25, [(0, .ref 0), (1, .int x1), (2, .int (nI k2)), (3, .ref 85)], [.int 0], gh S a b sc' ar' (vp_updL lo 0 0), ex, 0, 0)) rfl ?_
      refine go_rt (i := .ireturn) (tg := []) rfl ?_
      rfl
    · refine ⟨0, sc', ar', vp_updL lo 0 1, ex, 0, 0, ⟨hI', hF', Or.inl ⟨rfl, 1, ⟨⟨1, by decide, rfl⟩, hp⟩, Or.inr ⟨rfl, rfl⟩⟩⟩, by decide, by decide, ?_⟩
      refine ev_of (M := an_L_well) rfl (Nat.le_of_ble_eq_true rfl) ?_
      refine go_n 5 (fr' := (5, [(0, .ref 0), (1, .int x1), (2, .int (nI k2)), (3, .ref 85)], [.int (nI k2), .int x1, .ref 0, .int 0, .ref 85], gh S a b sc ar lo, ex, 0, 0)) rfl ?_
      refine go_callS (q := 74) (M1 := an_X9_well) rfl rfl (by decide) rfl ⟨_, rfl⟩ trivial e ?_
      refine go_if_eq (t := 15) rfl (fun w => absurd w (by decide)) (fun _ => ?_)
      refine go_n 5 (fr' := (25, [(0, .ref 0), (1, .int x1), (2, .int (nI k2)), (3, .ref 85)], [.int 0], gh S a b sc' ar' (vp_updL lo 0 1), ex, 0, 0)) rfl ?_
      refine go_rt (i := .ireturn) (tg := []) rfl ?_
      rfl
  · refine ⟨1, sc, ar, lo, false, 1, 6, ⟨hI, fr_0, Or.inr ⟨rfl, hT, rfl, rfl⟩⟩, by decide, by decide, ?_⟩
    refine ev_of (M := an_L_well) rfl (Nat.le_of_ble_eq_true rfl) ?_
    refine go_n 5 (fr' := (5, [(0, .ref 0), (1, .int x1), (2, .int (nI k2)), (3, .ref 85)], [.int (nI k2), .int x1, .ref 0, .int 0, .ref 85], gh S a b sc ar lo, ex, 0, 0)) rfl ?_
    exact go_cat (fr := (5, [(0, .ref 0), (1, .int x1), (2, .int (nI k2)), (3, .ref 85)], [.int (nI k2), .int x1, .ref 0, .int 0, .ref 85], gh S a b sc ar lo, ex, 0, 0)) (i := .invokevirtual 15) (tg := []) (q := 74) (As := [.ref 0, .int x1, .int (nI k2)]) (rest := [.int 0, .ref 85]) (M1 := an_X9_well) rfl rfl (by decide) rfl ⟨_, rfl⟩ trivial e (st := 0) (en := 17) (hp := 20) (ix := 13) rfl (Nat.le_of_ble_eq_true rfl) (Nat.le_of_ble_eq_true rfl) rfl
set_option maxRecDepth 20000 in
theorem lc_wind {X : Nat × (Nat → Int32)} {S a b : Nat} {sc : Nat → Int32} {ar : Nat → Nat → Int32} {lo : Nat → Int64} {ex : Bool} (hW : Wd S a b) (hI : Iv S sc ar) (x1 : Int32) (d : Nat) : cl X S a b (d + 2) 172 [.ref 0, .int x1, .ref 85] sc ar lo ex (fun x sc' ar' lo' => Iv S sc' ar' ∧ Fr [112] [] sc ar sc' ar' ∧ ((x = 0 ∧ ∃ v : Int32, (((0 ≤ x1 ∧ x1 ≤ 4) ∧ v = sc 112 ∧ sc' 112 = x1)) ∧ lo' 0 = v.toInt64) ∨ (x = 1 ∧ (¬ (0 ≤ x1 ∧ x1 ≤ 4)) ∧ sc' = sc ∧ ar' = ar))) := by
  obtain ⟨o, h9, e⟩ := sf_X9_wind (X := X) (lo := lo) (ex := ex) hW hI x1 d
  rcases h9 with ⟨x, sc', ar', ⟨hI', hF', hx⟩, rfl⟩ | ⟨hT, rfl⟩
  · refine ⟨0, sc', ar', vp_updL lo 0 x.toInt64, ex, 0, 0, ⟨hI', hF', Or.inl ⟨rfl, x, hx, rfl⟩⟩, by decide, by decide, ?_⟩
    refine ev_of (M := an_L_wind) rfl (Nat.le_of_ble_eq_true rfl) ?_
    refine go_n 4 (fr' := (4, [(0, .ref 0), (1, .int x1), (2, .ref 85)], [.int x1, .ref 0, .int 0, .ref 85], gh S a b sc ar lo, ex, 0, 0)) rfl ?_
    refine go_callS (q := 75) (M1 := an_X9_wind) rfl rfl (by decide) rfl ⟨_, rfl⟩ trivial e ?_
    refine go_n 4 (fr' := (16, [(0, .ref 0), (1, .int x1), (2, .ref 85)], [.int 0], gh S a b sc' ar' (vp_updL lo 0 x.toInt64), ex, 0, 0)) rfl ?_
    refine go_rt (i := .ireturn) (tg := []) rfl ?_
    rfl
  · refine ⟨1, sc, ar, lo, false, 1, 6, ⟨hI, fr_0, Or.inr ⟨rfl, hT, rfl, rfl⟩⟩, by decide, by decide, ?_⟩
    refine ev_of (M := an_L_wind) rfl (Nat.le_of_ble_eq_true rfl) ?_
    refine go_n 4 (fr' := (4, [(0, .ref 0), (1, .int x1), (2, .ref 85)], [.int x1, .ref 0, .int 0, .ref 85], gh S a b sc ar lo, ex, 0, 0)) rfl ?_
    exact go_cat (fr := (4, [(0, .ref 0), (1, .int x1), (2, .ref 85)], [.int x1, .ref 0, .int 0, .ref 85], gh S a b sc ar lo, ex, 0, 0)) (i := .invokevirtual 19) (tg := []) (q := 75) (As := [.ref 0, .int x1]) (rest := [.int 0, .ref 85]) (M1 := an_X9_wind) rfl rfl (by decide) rfl ⟨_, rfl⟩ trivial e (st := 0) (en := 9) (hp := 12) (ix := 23) rfl (Nat.le_of_ble_eq_true rfl) (Nat.le_of_ble_eq_true rfl) rfl
set_option maxRecDepth 20000 in
theorem lc_company {X : Nat × (Nat → Int32)} {S a b : Nat} {sc : Nat → Int32} {ar : Nat → Nat → Int32} {lo : Nat → Int64} {ex : Bool} (hW : Wd S a b) (hI : Iv S sc ar) (x1 : Int32) (x2 : Int32) (x3 : Int32) (d : Nat) : cl X S a b (d + 4) 173 [.ref 0, .int x1, .int x2, .int x3, .ref 85] sc ar lo ex (fun x sc' ar' lo' => Iv S sc' ar' ∧ Fr [1308] [14, 15, 16, 17] sc ar sc' ar' ∧ ((x = 0 ∧ ∃ v : Int32, ((∃ k : Nat, k < S ∧ x3 = nI k ∧ co_P 1308 x1 x2 v sc sc' ∧ zen 1308 14 15 16 17 x1 x2 (nI k) v sc sc' ar ar')) ∧ lo' 0 = v.toInt64) ∨ (x = 1 ∧ (¬ (0 ≤ x3 ∧ x3 < nI S)) ∧ sc' = sc ∧ ar' = ar))) := by
  obtain ⟨o, h9, e⟩ := sf_X9_company (X := X) (lo := lo) (ex := ex) hW hI x1 x2 x3 d
  rcases h9 with ⟨x, sc', ar', ⟨hI', hF', hx⟩, rfl⟩ | ⟨hT, rfl⟩
  · refine ⟨0, sc', ar', vp_updL lo 0 x.toInt64, ex, 0, 0, ⟨hI', hF', Or.inl ⟨rfl, x, hx, rfl⟩⟩, by decide, by decide, ?_⟩
    refine ev_of (M := an_L_company) rfl (Nat.le_of_ble_eq_true rfl) ?_
    refine go_n 6 (fr' := (7, [(0, .ref 0), (1, .int x1), (2, .int x2), (3, .int x3), (4, .ref 85)], [.int x3, .int x2, .int x1, .ref 0, .int 0, .ref 85], gh S a b sc ar lo, ex, 0, 0)) rfl ?_
    refine go_callS (q := 76) (M1 := an_X9_company) rfl rfl (by decide) rfl ⟨_, rfl⟩ trivial e ?_
    refine go_n 4 (fr' := (20, [(0, .ref 0), (1, .int x1), (2, .int x2), (3, .int x3), (4, .ref 85)], [.int 0], gh S a b sc' ar' (vp_updL lo 0 x.toInt64), ex, 0, 0)) rfl ?_
    refine go_rt (i := .ireturn) (tg := []) rfl ?_
    rfl
  · refine ⟨1, sc, ar, lo, false, 1, 6, ⟨hI, fr_0, Or.inr ⟨rfl, hT, rfl, rfl⟩⟩, by decide, by decide, ?_⟩
    refine ev_of (M := an_L_company) rfl (Nat.le_of_ble_eq_true rfl) ?_
    refine go_n 6 (fr' := (7, [(0, .ref 0), (1, .int x1), (2, .int x2), (3, .int x3), (4, .ref 85)], [.int x3, .int x2, .int x1, .ref 0, .int 0, .ref 85], gh S a b sc ar lo, ex, 0, 0)) rfl ?_
    exact go_cat (fr := (7, [(0, .ref 0), (1, .int x1), (2, .int x2), (3, .int x3), (4, .ref 85)], [.int x3, .int x2, .int x1, .ref 0, .int 0, .ref 85], gh S a b sc ar lo, ex, 0, 0)) (i := .invokevirtual 25) (tg := []) (q := 76) (As := [.ref 0, .int x1, .int x2, .int x3]) (rest := [.int 0, .ref 85]) (M1 := an_X9_company) rfl rfl (by decide) rfl ⟨_, rfl⟩ trivial e (st := 0) (en := 12) (hp := 15) (ix := 13) rfl (Nat.le_of_ble_eq_true rfl) (Nat.le_of_ble_eq_true rfl) rfl
set_option maxRecDepth 20000 in
theorem lc_law {X : Nat × (Nat → Int32)} {S a b : Nat} {sc : Nat → Int32} {ar : Nat → Nat → Int32} {lo : Nat → Int64} {ex : Bool} (hW : Wd S a b) (hI : Iv S sc ar) (x1 : Int32) (x2 : Int32) (hB : Be sc ar) (d : Nat) : cl X S a b (d + 32) 174 [.ref 0, .int x1, .int x2, .ref 85] sc ar lo ex (fun x sc' ar' lo' => Iv S sc' ar' ∧ Fr [10, 2201, 2401, 2402, 2404, 2405, 2602, 2604, 2605, 2903] [25, 27, 28, 30, 31, 32] sc ar sc' ar' ∧ ((x = 0 ∧ ∃ v : Int32, ((∃ (tk : Nat → Int32) (pl g : Nat → Nat) (sz : Nat), (∀ n l : Nat, x1 = nI n → n ≤ 400 → sc 2903 = nI l → l < 6 → Sm (ar 23) n tk pl g sz) ∧ LwO tk pl sz 2201 10 2903 x1 x2 sc sc' ∧ Be sc' ar' ∧ LcO tk sz x2 sc sc' ar ar')) ∧ lo' 0 = v.toInt64) ∨ (x = 1 ∧ (LwT 2201 x1 x2 sc) ∧ sc' = sc ∧ ar' = ar))) := by
  obtain ⟨o, h9, e⟩ := sf_X9_law (X := X) (lo := lo) (ex := ex) hW hI x1 x2 hB d
  rcases h9 with ⟨x, sc', ar', ⟨hI', hF', hx⟩, rfl⟩ | ⟨hT, rfl⟩
  · refine ⟨0, sc', ar', vp_updL lo 0 x.toInt64, ex, 0, 0, ⟨hI', hF', Or.inl ⟨rfl, x, hx, rfl⟩⟩, by decide, by decide, ?_⟩
    refine ev_of (M := an_L_law) rfl (Nat.le_of_ble_eq_true rfl) ?_
    refine go_n 5 (fr' := (5, [(0, .ref 0), (1, .int x1), (2, .int x2), (3, .ref 85)], [.int x2, .int x1, .ref 0, .int 0, .ref 85], gh S a b sc ar lo, ex, 0, 0)) rfl ?_
    refine go_callS (q := 78) (M1 := an_X9_law) rfl rfl (by decide) rfl ⟨_, rfl⟩ trivial e ?_
    refine go_n 4 (fr' := (18, [(0, .ref 0), (1, .int x1), (2, .int x2), (3, .ref 85)], [.int 0], gh S a b sc' ar' (vp_updL lo 0 x.toInt64), ex, 0, 0)) rfl ?_
    refine go_rt (i := .ireturn) (tg := []) rfl ?_
    rfl
  · refine ⟨1, sc, ar, lo, false, 1, 6, ⟨hI, fr_0, Or.inr ⟨rfl, hT, rfl, rfl⟩⟩, by decide, by decide, ?_⟩
    refine ev_of (M := an_L_law) rfl (Nat.le_of_ble_eq_true rfl) ?_
    refine go_n 5 (fr' := (5, [(0, .ref 0), (1, .int x1), (2, .int x2), (3, .ref 85)], [.int x2, .int x1, .ref 0, .int 0, .ref 85], gh S a b sc ar lo, ex, 0, 0)) rfl ?_
    exact go_cat (fr := (5, [(0, .ref 0), (1, .int x1), (2, .int x2), (3, .ref 85)], [.int x2, .int x1, .ref 0, .int 0, .ref 85], gh S a b sc ar lo, ex, 0, 0)) (i := .invokevirtual 29) (tg := []) (q := 78) (As := [.ref 0, .int x1, .int x2]) (rest := [.int 0, .ref 85]) (M1 := an_X9_law) rfl rfl (by decide) rfl ⟨_, rfl⟩ trivial e (st := 0) (en := 10) (hp := 13) (ix := 23) rfl (Nat.le_of_ble_eq_true rfl) (Nat.le_of_ble_eq_true rfl) rfl
set_option maxRecDepth 20000 in
theorem lc_light {X : Nat × (Nat → Int32)} {S a b : Nat} {sc : Nat → Int32} {ar : Nat → Nat → Int32} {lo : Nat → Int64} {ex : Bool} (hW : Wd S a b) (hI : Iv S sc ar) (n : Nat) (enb : n < 9) (h : Nat) (ehb : h < 2401) (l0 : Nat) (el0b : l0 < 7) (x1 : Int32) (hg : Gd S a b ar) (hB : zBk l0 (ar 30) (ar 31)) (en : sc 1308 = nI n) (eh : sc 11 = nI h) (el0 : sc 2903 = nI l0) (d : Nat) : cl X S a b (d + 8) 175 [.ref 0, .int x1, .ref 85] sc ar lo ex (fun x sc' ar' lo' => Iv S sc' ar' ∧ Fr [9, 3300, 3301, 3304] [5, 17, 18, 34, 35, 48] sc ar sc' ar' ∧ ((x = 0 ∧ ∃ v : Int32, ((∃ k : Nat, k < S ∧ x1 = nI k ∧ ((¬ ar 5 k = 0 ∧ v = -1 ∧ ar' 5 = ar 5 ∧ ar' 17 = ar 17 ∧ ar' 18 = ar 18) ∨ (ar 5 k = 0 ∧ ar' 5 = upd (ar 5) k 1 ∧ zli a n h k (fo (ar 32) (nI (h / 24)) l0 0 (-1)) (zcn (upd (ar 5) k 1) 1 S) (ar 7) (ar 6) (ar 8) (ar 14) (ar 15) (ar 16) (ar 30) (ar 31) (ar 17) (ar 18) (ar' 17) (ar' 18) ∧ v = zcn (ar' 17) (nI k) n)))) ∧ lo' 0 = v.toInt64) ∨ (x = 1 ∧ (¬ (0 ≤ x1 ∧ x1 < nI S)) ∧ sc' = sc ∧ ar' = ar))) := by
  obtain ⟨o, h9, e⟩ := sf_X9_light (X := X) (lo := lo) (ex := ex) hW hI n enb h ehb l0 el0b x1 hg hB en eh el0 d
  rcases h9 with ⟨x, sc', ar', ⟨hI', hF', hx⟩, rfl⟩ | ⟨hT, rfl⟩
  · refine ⟨0, sc', ar', vp_updL lo 0 x.toInt64, ex, 0, 0, ⟨hI', hF', Or.inl ⟨rfl, x, hx, rfl⟩⟩, by decide, by decide, ?_⟩
    refine ev_of (M := an_L_light) rfl (Nat.le_of_ble_eq_true rfl) ?_
    refine go_n 4 (fr' := (4, [(0, .ref 0), (1, .int x1), (2, .ref 85)], [.int x1, .ref 0, .int 0, .ref 85], gh S a b sc ar lo, ex, 0, 0)) rfl ?_
    refine go_callS (q := 80) (M1 := an_X9_light) rfl rfl (by decide) rfl ⟨_, rfl⟩ trivial e ?_
    refine go_n 4 (fr' := (16, [(0, .ref 0), (1, .int x1), (2, .ref 85)], [.int 0], gh S a b sc' ar' (vp_updL lo 0 x.toInt64), ex, 0, 0)) rfl ?_
    refine go_rt (i := .ireturn) (tg := []) rfl ?_
    rfl
  · refine ⟨1, sc, ar, lo, false, 1, 6, ⟨hI, fr_0, Or.inr ⟨rfl, hT, rfl, rfl⟩⟩, by decide, by decide, ?_⟩
    refine ev_of (M := an_L_light) rfl (Nat.le_of_ble_eq_true rfl) ?_
    refine go_n 4 (fr' := (4, [(0, .ref 0), (1, .int x1), (2, .ref 85)], [.int x1, .ref 0, .int 0, .ref 85], gh S a b sc ar lo, ex, 0, 0)) rfl ?_
    exact go_cat (fr := (4, [(0, .ref 0), (1, .int x1), (2, .ref 85)], [.int x1, .ref 0, .int 0, .ref 85], gh S a b sc ar lo, ex, 0, 0)) (i := .invokevirtual 33) (tg := []) (q := 80) (As := [.ref 0, .int x1]) (rest := [.int 0, .ref 85]) (M1 := an_X9_light) rfl rfl (by decide) rfl ⟨_, rfl⟩ trivial e (st := 0) (en := 9) (hp := 12) (ix := 13) rfl (Nat.le_of_ble_eq_true rfl) (Nat.le_of_ble_eq_true rfl) rfl
set_option maxRecDepth 20000 in
theorem lc_send {X : Nat × (Nat → Int32)} {S a b : Nat} {sc : Nat → Int32} {ar : Nat → Nat → Int32} {lo : Nat → Int64} {ex : Bool} (hW : Wd S a b) (hI : Iv S sc ar) (n : Nat) (enb : n < 9) (x1 : Int32) (x2 : Int32) (en : sc 1308 = nI n) (d : Nat) : cl X S a b (d + 5) 176 [.ref 0, .int x1, .int x2, .ref 85] sc ar lo ex (fun x sc' ar' lo' => Iv S sc' ar' ∧ Fr [] [11, 17, 18] sc ar sc' ar' ∧ ((x = 0 ∧ ∃ v : Int32, (rl v 2 ∧ (∃ c k : Nat, c < n ∧ x1 = nI c ∧ k < S ∧ x2 = nI k ∧ zor c k 1 v (ar 5) (ar 11) (ar 17) (ar 18) (ar' 11) (ar' 17) (ar' 18))) ∧ Lb v (lo' 0)) ∨ (x = 1 ∧ ((¬ (0 ≤ x1 ∧ x1 < nI n) ∨ ¬ (0 ≤ x2 ∧ x2 < nI S))) ∧ sc' = sc ∧ ar' = ar))) := by
  obtain ⟨o, h9, e⟩ := sf_X9_send (X := X) (lo := lo) (ex := ex) hW hI n enb x1 x2 en d
  rcases h9 with ⟨x, sc', ar', ⟨hI', hF', hx⟩, rfl⟩ | ⟨hT, rfl⟩
  · obtain ⟨⟨nv, hnv, rfl⟩, hp⟩ := hx
    rcases (show nv = 0 ∨ nv = 1 by omega) with rfl | rfl
    · refine ⟨0, sc', ar', vp_updL lo 0 0, ex, 0, 0, ⟨hI', hF', Or.inl ⟨rfl, 0, ⟨⟨0, by decide, rfl⟩, hp⟩, Or.inl ⟨rfl, rfl⟩⟩⟩, by decide, by decide, ?_⟩
      refine ev_of (M := an_L_send) rfl (Nat.le_of_ble_eq_true rfl) ?_
      refine go_n 5 (fr' := (5, [(0, .ref 0), (1, .int x1), (2, .int x2), (3, .ref 85)], [.int x2, .int x1, .ref 0, .int 0, .ref 85], gh S a b sc ar lo, ex, 0, 0)) rfl ?_
      refine go_callS (q := 81) (M1 := an_X9_send) rfl rfl (by decide) rfl ⟨_, rfl⟩ trivial e ?_
      refine go_if_eq (t := 15) rfl (fun _ => ?_) (fun w => absurd rfl w)
      refine go_n 4 (fr' := (25, [(0, .ref 0), (1, .int x1), (2, .int x2), (3, .ref 85)], [.int 0], gh S a b sc' ar' (vp_updL lo 0 0), ex, 0, 0)) rfl ?_
      refine go_rt (i := .ireturn) (tg := []) rfl ?_
      rfl
    · refine ⟨0, sc', ar', vp_updL lo 0 1, ex, 0, 0, ⟨hI', hF', Or.inl ⟨rfl, 1, ⟨⟨1, by decide, rfl⟩, hp⟩, Or.inr ⟨rfl, rfl⟩⟩⟩, by decide, by decide, ?_⟩
      refine ev_of (M := an_L_send) rfl (Nat.le_of_ble_eq_true rfl) ?_
      refine go_n 5 (fr' := (5, [(0, .ref 0), (1, .int x1), (2, .int x2), (3, .ref 85)], [.int x2, .int x1, .ref 0, .int 0, .ref 85], gh S a b sc ar lo, ex, 0, 0)) rfl ?_
      refine go_callS (q := 81) (M1 := an_X9_send) rfl rfl (by decide) rfl ⟨_, rfl⟩ trivial e ?_
      refine go_if_eq (t := 15) rfl (fun w => absurd w (by decide)) (fun _ => ?_)
      refine go_n 5 (fr' := (25, [(0, .ref 0), (1, .int x1), (2, .int x2), (3, .ref 85)], [.int 0], gh S a b sc' ar' (vp_updL lo 0 1), ex, 0, 0)) rfl ?_
      refine go_rt (i := .ireturn) (tg := []) rfl ?_
      rfl
  · refine ⟨1, sc, ar, lo, false, 1, 6, ⟨hI, fr_0, Or.inr ⟨rfl, hT, rfl, rfl⟩⟩, by decide, by decide, ?_⟩
    refine ev_of (M := an_L_send) rfl (Nat.le_of_ble_eq_true rfl) ?_
    refine go_n 5 (fr' := (5, [(0, .ref 0), (1, .int x1), (2, .int x2), (3, .ref 85)], [.int x2, .int x1, .ref 0, .int 0, .ref 85], gh S a b sc ar lo, ex, 0, 0)) rfl ?_
    exact go_cat (fr := (5, [(0, .ref 0), (1, .int x1), (2, .int x2), (3, .ref 85)], [.int x2, .int x1, .ref 0, .int 0, .ref 85], gh S a b sc ar lo, ex, 0, 0)) (i := .invokevirtual 36) (tg := []) (q := 81) (As := [.ref 0, .int x1, .int x2]) (rest := [.int 0, .ref 85]) (M1 := an_X9_send) rfl rfl (by decide) rfl ⟨_, rfl⟩ trivial e (st := 0) (en := 17) (hp := 20) (ix := 13) rfl (Nat.le_of_ble_eq_true rfl) (Nat.le_of_ble_eq_true rfl) rfl
set_option maxRecDepth 20000 in
theorem lc_pull {X : Nat × (Nat → Int32)} {S a b : Nat} {sc : Nat → Int32} {ar : Nat → Nat → Int32} {lo : Nat → Int64} {ex : Bool} (hW : Wd S a b) (hI : Iv S sc ar) (n : Nat) (enb : n < 9) (x1 : Int32) (x2 : Int32) (en : sc 1308 = nI n) (d : Nat) : cl X S a b (d + 5) 177 [.ref 0, .int x1, .int x2, .ref 85] sc ar lo ex (fun x sc' ar' lo' => Iv S sc' ar' ∧ Fr [] [11, 17, 18] sc ar sc' ar' ∧ ((x = 0 ∧ ∃ v : Int32, (rl v 2 ∧ (∃ c k : Nat, c < n ∧ x1 = nI c ∧ k < S ∧ x2 = nI k ∧ zor c k 0 v (ar 5) (ar 11) (ar 17) (ar 18) (ar' 11) (ar' 17) (ar' 18))) ∧ Lb v (lo' 0)) ∨ (x = 1 ∧ ((¬ (0 ≤ x1 ∧ x1 < nI n) ∨ ¬ (0 ≤ x2 ∧ x2 < nI S))) ∧ sc' = sc ∧ ar' = ar))) := by
  obtain ⟨o, h9, e⟩ := sf_X9_pull (X := X) (lo := lo) (ex := ex) hW hI n enb x1 x2 en d
  rcases h9 with ⟨x, sc', ar', ⟨hI', hF', hx⟩, rfl⟩ | ⟨hT, rfl⟩
  · obtain ⟨⟨nv, hnv, rfl⟩, hp⟩ := hx
    rcases (show nv = 0 ∨ nv = 1 by omega) with rfl | rfl
    · refine ⟨0, sc', ar', vp_updL lo 0 0, ex, 0, 0, ⟨hI', hF', Or.inl ⟨rfl, 0, ⟨⟨0, by decide, rfl⟩, hp⟩, Or.inl ⟨rfl, rfl⟩⟩⟩, by decide, by decide, ?_⟩
      refine ev_of (M := an_L_pull) rfl (Nat.le_of_ble_eq_true rfl) ?_
      refine go_n 5 (fr' := (5, [(0, .ref 0), (1, .int x1), (2, .int x2), (3, .ref 85)], [.int x2, .int x1, .ref 0, .int 0, .ref 85], gh S a b sc ar lo, ex, 0, 0)) rfl ?_
      refine go_callS (q := 82) (M1 := an_X9_pull) rfl rfl (by decide) rfl ⟨_, rfl⟩ trivial e ?_
      refine go_if_eq (t := 15) rfl (fun _ => ?_) (fun w => absurd rfl w)
      refine go_n 4 (fr' := (25, [(0, .ref 0), (1, .int x1), (2, .int x2), (3, .ref 85)], [.int 0], gh S a b sc' ar' (vp_updL lo 0 0), ex, 0, 0)) rfl ?_
      refine go_rt (i := .ireturn) (tg := []) rfl ?_
      rfl
    · refine ⟨0, sc', ar', vp_updL lo 0 1, ex, 0, 0, ⟨hI', hF', Or.inl ⟨rfl, 1, ⟨⟨1, by decide, rfl⟩, hp⟩, Or.inr ⟨rfl, rfl⟩⟩⟩, by decide, by decide, ?_⟩
      refine ev_of (M := an_L_pull) rfl (Nat.le_of_ble_eq_true rfl) ?_
      refine go_n 5 (fr' := (5, [(0, .ref 0), (1, .int x1), (2, .int x2), (3, .ref 85)], [.int x2, .int x1, .ref 0, .int 0, .ref 85], gh S a b sc ar lo, ex, 0, 0)) rfl ?_
      refine go_callS (q := 82) (M1 := an_X9_pull) rfl rfl (by decide) rfl ⟨_, rfl⟩ trivial e ?_
      refine go_if_eq (t := 15) rfl (fun w => absurd w (by decide)) (fun _ => ?_)
      refine go_n 5 (fr' := (25, [(0, .ref 0), (1, .int x1), (2, .int x2), (3, .ref 85)], [.int 0], gh S a b sc' ar' (vp_updL lo 0 1), ex, 0, 0)) rfl ?_
      refine go_rt (i := .ireturn) (tg := []) rfl ?_
      rfl
  · refine ⟨1, sc, ar, lo, false, 1, 6, ⟨hI, fr_0, Or.inr ⟨rfl, hT, rfl, rfl⟩⟩, by decide, by decide, ?_⟩
    refine ev_of (M := an_L_pull) rfl (Nat.le_of_ble_eq_true rfl) ?_
    refine go_n 5 (fr' := (5, [(0, .ref 0), (1, .int x1), (2, .int x2), (3, .ref 85)], [.int x2, .int x1, .ref 0, .int 0, .ref 85], gh S a b sc ar lo, ex, 0, 0)) rfl ?_
    exact go_cat (fr := (5, [(0, .ref 0), (1, .int x1), (2, .int x2), (3, .ref 85)], [.int x2, .int x1, .ref 0, .int 0, .ref 85], gh S a b sc ar lo, ex, 0, 0)) (i := .invokevirtual 40) (tg := []) (q := 82) (As := [.ref 0, .int x1, .int x2]) (rest := [.int 0, .ref 85]) (M1 := an_X9_pull) rfl rfl (by decide) rfl ⟨_, rfl⟩ trivial e (st := 0) (en := 17) (hp := 20) (ix := 13) rfl (Nat.le_of_ble_eq_true rfl) (Nat.le_of_ble_eq_true rfl) rfl
set_option maxRecDepth 20000 in
theorem lc_hours {X : Nat × (Nat → Int32)} {S a b : Nat} {sc : Nat → Int32} {ar : Nat → Nat → Int32} {lo : Nat → Int64} {ex : Bool} (hW : Wd S a b) (hI : Iv S sc ar) (n : Nat) (enb : n < 9) (l0 : Nat) (el0b : l0 < 7) (x1 : Int32) (hg : Gd S a b ar) (hB : zBk l0 (ar 30) (ar 31)) (en : sc 1308 = nI n) (el0 : sc 2903 = nI l0) (d : Nat) : cl X S a b (d + 9) 178 [.ref 0, .int x1, .ref 85] sc ar lo ex (fun x sc' ar' lo' => Iv S sc' ar' ∧ Fr [9, 11, 3300, 3301, 3304, 3603] [5, 8, 9, 10, 11, 16, 17, 18, 19, 20, 21, 34, 35, 37, 38, 48] sc ar sc' ar' ∧ ((x = 0 ∧ ∃ v : Int32, (∃ h0 nn : Nat, sc 11 = nI h0 ∧ x1 = nI nn ∧ nn ≤ 100 ∧ h0 + nn ≤ 2400 ∧ v = nI (h0 + nn) ∧ sc' 11 = nI (h0 + nn) ∧ zV ar' = zHs S a b n l0 h0 (sc 112) (ar 30) (ar 31) (ar 32) nn (zV ar)) ∧ lo' 0 = v.toInt64) ∨ (x = 1 ∧ (∀ h n : Nat, sc 11 = nI h → x1 = nI n → n ≤ 100 → h + n ≤ 2400 → False) ∧ sc' = sc ∧ ar' = ar))) := by
  obtain ⟨o, h9, e⟩ := sf_X9_hours (X := X) (lo := lo) (ex := ex) hW hI n enb l0 el0b x1 hg hB en el0 d
  rcases h9 with ⟨x, sc', ar', ⟨hI', hF', hx⟩, rfl⟩ | ⟨hT, rfl⟩
  · refine ⟨0, sc', ar', vp_updL lo 0 x.toInt64, ex, 0, 0, ⟨hI', hF', Or.inl ⟨rfl, x, hx, rfl⟩⟩, by decide, by decide, ?_⟩
    refine ev_of (M := an_L_hours) rfl (Nat.le_of_ble_eq_true rfl) ?_
    refine go_n 4 (fr' := (4, [(0, .ref 0), (1, .int x1), (2, .ref 85)], [.int x1, .ref 0, .int 0, .ref 85], gh S a b sc ar lo, ex, 0, 0)) rfl ?_
    refine go_callS (q := 83) (M1 := an_X9_hours) rfl rfl (by decide) rfl ⟨_, rfl⟩ trivial e ?_
    refine go_n 4 (fr' := (16, [(0, .ref 0), (1, .int x1), (2, .ref 85)], [.int 0], gh S a b sc' ar' (vp_updL lo 0 x.toInt64), ex, 0, 0)) rfl ?_
    refine go_rt (i := .ireturn) (tg := []) rfl ?_
    rfl
  · refine ⟨1, sc, ar, lo, false, 1, 6, ⟨hI, fr_0, Or.inr ⟨rfl, hT, rfl, rfl⟩⟩, by decide, by decide, ?_⟩
    refine ev_of (M := an_L_hours) rfl (Nat.le_of_ble_eq_true rfl) ?_
    refine go_n 4 (fr' := (4, [(0, .ref 0), (1, .int x1), (2, .ref 85)], [.int x1, .ref 0, .int 0, .ref 85], gh S a b sc ar lo, ex, 0, 0)) rfl ?_
    exact go_cat (fr := (4, [(0, .ref 0), (1, .int x1), (2, .ref 85)], [.int x1, .ref 0, .int 0, .ref 85], gh S a b sc ar lo, ex, 0, 0)) (i := .invokevirtual 43) (tg := []) (q := 83) (As := [.ref 0, .int x1]) (rest := [.int 0, .ref 85]) (M1 := an_X9_hours) rfl rfl (by decide) rfl ⟨_, rfl⟩ trivial e (st := 0) (en := 9) (hp := 12) (ix := 23) rfl (Nat.le_of_ble_eq_true rfl) (Nat.le_of_ble_eq_true rfl) rfl
set_option maxRecDepth 20000 in
theorem lc_cell_ {X : Nat × (Nat → Int32)} {S a b : Nat} {sc : Nat → Int32} {ar : Nat → Nat → Int32} {lo : Nat → Int64} {ex : Bool} (hW : Wd S a b) (hI : Iv S sc ar) (x1 : Int32) (x2 : Int32) (d : Nat) : cl X S a b (d + 4) 179 [.ref 0, .int x1, .int x2, .ref 85] sc ar lo ex (fun x sc' ar' lo' => Iv S sc' ar' ∧ Fr [] [] sc ar sc' ar' ∧ ((x = 0 ∧ ∃ v : Int32, ((∃ k : Nat, k < S ∧ x1 = nI k ∧ ¬ zno x2 8 ∧ v = zce x2 (ar 5 k) (ar 6 k) (ar 7 k) (ar 8 k) (ar 9 k) (ar 10 k) (ar 11 k) (ar 12 k))) ∧ lo' 0 = v.toInt64) ∨ (x = 1 ∧ ((¬ (0 ≤ x1 ∧ x1 < nI S) ∨ zno x2 8)) ∧ sc' = sc ∧ ar' = ar))) := by
  obtain ⟨o, h9, e⟩ := sf_X9_cell (X := X) (lo := lo) (ex := ex) hW hI x1 x2 d
  rcases h9 with ⟨x, sc', ar', ⟨hI', hF', hx⟩, rfl⟩ | ⟨hT, rfl⟩
  · refine ⟨0, sc', ar', vp_updL lo 0 x.toInt64, ex, 0, 0, ⟨hI', hF', Or.inl ⟨rfl, x, hx, rfl⟩⟩, by decide, by decide, ?_⟩
    refine ev_of (M := an_L_cell_) rfl (Nat.le_of_ble_eq_true rfl) ?_
    refine go_n 5 (fr' := (5, [(0, .ref 0), (1, .int x1), (2, .int x2), (3, .ref 85)], [.int x2, .int x1, .ref 0, .int 0, .ref 85], gh S a b sc ar lo, ex, 0, 0)) rfl ?_
    refine go_callS (q := 84) (M1 := an_X9_cell) rfl rfl (by decide) rfl ⟨_, rfl⟩ trivial e ?_
    refine go_n 4 (fr' := (18, [(0, .ref 0), (1, .int x1), (2, .int x2), (3, .ref 85)], [.int 0], gh S a b sc' ar' (vp_updL lo 0 x.toInt64), ex, 0, 0)) rfl ?_
    refine go_rt (i := .ireturn) (tg := []) rfl ?_
    rfl
  · refine ⟨1, sc, ar, lo, false, 1, 6, ⟨hI, fr_0, Or.inr ⟨rfl, hT, rfl, rfl⟩⟩, by decide, by decide, ?_⟩
    refine ev_of (M := an_L_cell_) rfl (Nat.le_of_ble_eq_true rfl) ?_
    refine go_n 5 (fr' := (5, [(0, .ref 0), (1, .int x1), (2, .int x2), (3, .ref 85)], [.int x2, .int x1, .ref 0, .int 0, .ref 85], gh S a b sc ar lo, ex, 0, 0)) rfl ?_
    exact go_cat (fr := (5, [(0, .ref 0), (1, .int x1), (2, .int x2), (3, .ref 85)], [.int x2, .int x1, .ref 0, .int 0, .ref 85], gh S a b sc ar lo, ex, 0, 0)) (i := .invokevirtual 46) (tg := []) (q := 84) (As := [.ref 0, .int x1, .int x2]) (rest := [.int 0, .ref 85]) (M1 := an_X9_cell) rfl rfl (by decide) rfl ⟨_, rfl⟩ trivial e (st := 0) (en := 10) (hp := 13) (ix := 13) rfl (Nat.le_of_ble_eq_true rfl) (Nat.le_of_ble_eq_true rfl) rfl
set_option maxRecDepth 20000 in
theorem lc_of {X : Nat × (Nat → Int32)} {S a b : Nat} {sc : Nat → Int32} {ar : Nat → Nat → Int32} {lo : Nat → Int64} {ex : Bool} (hW : Wd S a b) (hI : Iv S sc ar) (n : Nat) (enb : n < 9) (x1 : Int32) (x2 : Int32) (en : sc 1308 = nI n) (d : Nat) : cl X S a b (d + 4) 180 [.ref 0, .int x1, .int x2, .ref 85] sc ar lo ex (fun x sc' ar' lo' => Iv S sc' ar' ∧ Fr [] [] sc ar sc' ar' ∧ ((x = 0 ∧ ∃ v : Int32, ((∃ k : Nat, k < n ∧ x1 = nI k ∧ ¬ zno x2 8 ∧ v = zof x2 (ar 14 k) (ar 15 k) (ar 16 k) (ar 17 k) (ar 18 k) (ar 19 k) (ar 20 k) (ar 21 k))) ∧ lo' 0 = v.toInt64) ∨ (x = 1 ∧ ((¬ (0 ≤ x1 ∧ x1 < nI n) ∨ zno x2 8)) ∧ sc' = sc ∧ ar' = ar))) := by
  obtain ⟨o, h9, e⟩ := sf_X9_of (X := X) (lo := lo) (ex := ex) hW hI n enb x1 x2 en d
  rcases h9 with ⟨x, sc', ar', ⟨hI', hF', hx⟩, rfl⟩ | ⟨hT, rfl⟩
  · refine ⟨0, sc', ar', vp_updL lo 0 x.toInt64, ex, 0, 0, ⟨hI', hF', Or.inl ⟨rfl, x, hx, rfl⟩⟩, by decide, by decide, ?_⟩
    refine ev_of (M := an_L_of) rfl (Nat.le_of_ble_eq_true rfl) ?_
    refine go_n 5 (fr' := (5, [(0, .ref 0), (1, .int x1), (2, .int x2), (3, .ref 85)], [.int x2, .int x1, .ref 0, .int 0, .ref 85], gh S a b sc ar lo, ex, 0, 0)) rfl ?_
    refine go_callS (q := 85) (M1 := an_X9_of) rfl rfl (by decide) rfl ⟨_, rfl⟩ trivial e ?_
    refine go_n 4 (fr' := (18, [(0, .ref 0), (1, .int x1), (2, .int x2), (3, .ref 85)], [.int 0], gh S a b sc' ar' (vp_updL lo 0 x.toInt64), ex, 0, 0)) rfl ?_
    refine go_rt (i := .ireturn) (tg := []) rfl ?_
    rfl
  · refine ⟨1, sc, ar, lo, false, 1, 6, ⟨hI, fr_0, Or.inr ⟨rfl, hT, rfl, rfl⟩⟩, by decide, by decide, ?_⟩
    refine ev_of (M := an_L_of) rfl (Nat.le_of_ble_eq_true rfl) ?_
    refine go_n 5 (fr' := (5, [(0, .ref 0), (1, .int x1), (2, .int x2), (3, .ref 85)], [.int x2, .int x1, .ref 0, .int 0, .ref 85], gh S a b sc ar lo, ex, 0, 0)) rfl ?_
    exact go_cat (fr := (5, [(0, .ref 0), (1, .int x1), (2, .int x2), (3, .ref 85)], [.int x2, .int x1, .ref 0, .int 0, .ref 85], gh S a b sc ar lo, ex, 0, 0)) (i := .invokevirtual 49) (tg := []) (q := 85) (As := [.ref 0, .int x1, .int x2]) (rest := [.int 0, .ref 85]) (M1 := an_X9_of) rfl rfl (by decide) rfl ⟨_, rfl⟩ trivial e (st := 0) (en := 10) (hp := 13) (ix := 13) rfl (Nat.le_of_ble_eq_true rfl) (Nat.le_of_ble_eq_true rfl) rfl
set_option maxRecDepth 20000 in
theorem lc_breaks {X : Nat × (Nat → Int32)} {S a b : Nat} {sc : Nat → Int32} {ar : Nat → Nat → Int32} {lo : Nat → Int64} {ex : Bool} (hW : Wd S a b) (hI : Iv S sc ar) (x1 : Int32) (d : Nat) : cl X S a b (d + 7) 181 [.ref 0, .int x1, .ref 85] sc ar lo ex (fun x sc' ar' lo' => Iv S sc' ar' ∧ Fr [3901, 3911, 3912] [40, 41, 42, 43, 44, 45, 46, 47] sc ar sc' ar' ∧ ((x = 0 ∧ ∃ v : Int32, (True) ∧ lo' 0 = v.toInt64) ∨ (x = 1 ∧ (True) ∧ sc' = sc ∧ ar' = ar))) := by
  obtain ⟨o, h9, e⟩ := sf_X9_breaks (X := X) (lo := lo) (ex := ex) hW hI x1 d
  rcases h9 with ⟨x, sc', ar', ⟨hI', hF', hx⟩, rfl⟩ | ⟨hT, rfl⟩
  · refine ⟨0, sc', ar', vp_updL lo 0 x.toInt64, ex, 0, 0, ⟨hI', hF', Or.inl ⟨rfl, x, hx, rfl⟩⟩, by decide, by decide, ?_⟩
    refine ev_of (M := an_L_breaks) rfl (Nat.le_of_ble_eq_true rfl) ?_
    refine go_n 4 (fr' := (4, [(0, .ref 0), (1, .int x1), (2, .ref 85)], [.int x1, .ref 0, .int 0, .ref 85], gh S a b sc ar lo, ex, 0, 0)) rfl ?_
    refine go_callS (q := 86) (M1 := an_X9_breaks) rfl rfl (by decide) rfl ⟨_, rfl⟩ trivial e ?_
    refine go_n 4 (fr' := (16, [(0, .ref 0), (1, .int x1), (2, .ref 85)], [.int 0], gh S a b sc' ar' (vp_updL lo 0 x.toInt64), ex, 0, 0)) rfl ?_
    refine go_rt (i := .ireturn) (tg := []) rfl ?_
    rfl
  · refine ⟨1, sc, ar, lo, false, 1, 6, ⟨hI, fr_0, Or.inr ⟨rfl, hT, rfl, rfl⟩⟩, by decide, by decide, ?_⟩
    refine ev_of (M := an_L_breaks) rfl (Nat.le_of_ble_eq_true rfl) ?_
    refine go_n 4 (fr' := (4, [(0, .ref 0), (1, .int x1), (2, .ref 85)], [.int x1, .ref 0, .int 0, .ref 85], gh S a b sc ar lo, ex, 0, 0)) rfl ?_
    exact go_cat (fr := (4, [(0, .ref 0), (1, .int x1), (2, .ref 85)], [.int x1, .ref 0, .int 0, .ref 85], gh S a b sc ar lo, ex, 0, 0)) (i := .invokevirtual 52) (tg := []) (q := 86) (As := [.ref 0, .int x1]) (rest := [.int 0, .ref 85]) (M1 := an_X9_breaks) rfl rfl (by decide) rfl ⟨_, rfl⟩ trivial e (st := 0) (en := 9) (hp := 12) (ix := 13) rfl (Nat.le_of_ble_eq_true rfl) (Nat.le_of_ble_eq_true rfl) rfl
set_option maxRecDepth 20000 in
theorem lc_breaker {X : Nat × (Nat → Int32)} {S a b : Nat} {sc : Nat → Int32} {ar : Nat → Nat → Int32} {lo : Nat → Int64} {ex : Bool} (hW : Wd S a b) (hI : Iv S sc ar) (x1 : Int32) (d : Nat) : cl X S a b (d + 2) 182 [.ref 0, .int x1, .ref 85] sc ar lo ex (fun x sc' ar' lo' => Iv S sc' ar' ∧ Fr [] [] sc ar sc' ar' ∧ ((x = 0 ∧ ∃ v : Int32, (True) ∧ lo' 0 = v.toInt64) ∨ (x = 1 ∧ (True) ∧ sc' = sc ∧ ar' = ar))) := by
  obtain ⟨o, h9, e⟩ := sf_X9_breaker (X := X) (lo := lo) (ex := ex) hW hI x1 d
  rcases h9 with ⟨x, sc', ar', ⟨hI', hF', hx⟩, rfl⟩ | ⟨hT, rfl⟩
  · refine ⟨0, sc', ar', vp_updL lo 0 x.toInt64, ex, 0, 0, ⟨hI', hF', Or.inl ⟨rfl, x, hx, rfl⟩⟩, by decide, by decide, ?_⟩
    refine ev_of (M := an_L_breaker) rfl (Nat.le_of_ble_eq_true rfl) ?_
    refine go_n 4 (fr' := (4, [(0, .ref 0), (1, .int x1), (2, .ref 85)], [.int x1, .ref 0, .int 0, .ref 85], gh S a b sc ar lo, ex, 0, 0)) rfl ?_
    refine go_callS (q := 87) (M1 := an_X9_breaker) rfl rfl (by decide) rfl ⟨_, rfl⟩ trivial e ?_
    refine go_n 4 (fr' := (16, [(0, .ref 0), (1, .int x1), (2, .ref 85)], [.int 0], gh S a b sc' ar' (vp_updL lo 0 x.toInt64), ex, 0, 0)) rfl ?_
    refine go_rt (i := .ireturn) (tg := []) rfl ?_
    rfl
  · refine ⟨1, sc, ar, lo, false, 1, 6, ⟨hI, fr_0, Or.inr ⟨rfl, hT, rfl, rfl⟩⟩, by decide, by decide, ?_⟩
    refine ev_of (M := an_L_breaker) rfl (Nat.le_of_ble_eq_true rfl) ?_
    refine go_n 4 (fr' := (4, [(0, .ref 0), (1, .int x1), (2, .ref 85)], [.int x1, .ref 0, .int 0, .ref 85], gh S a b sc ar lo, ex, 0, 0)) rfl ?_
    exact go_cat (fr := (4, [(0, .ref 0), (1, .int x1), (2, .ref 85)], [.int x1, .ref 0, .int 0, .ref 85], gh S a b sc ar lo, ex, 0, 0)) (i := .invokevirtual 55) (tg := []) (q := 87) (As := [.ref 0, .int x1]) (rest := [.int 0, .ref 85]) (M1 := an_X9_breaker) rfl rfl (by decide) rfl ⟨_, rfl⟩ trivial e (st := 0) (en := 9) (hp := 12) (ix := 13) rfl (Nat.le_of_ble_eq_true rfl) (Nat.le_of_ble_eq_true rfl) rfl
set_option maxRecDepth 20000 in
theorem lc_count {X : Nat × (Nat → Int32)} {S a b : Nat} {sc : Nat → Int32} {ar : Nat → Nat → Int32} {lo : Nat → Int64} {ex : Bool} (hW : Wd S a b) (hI : Iv S sc ar) (n : Nat) (enb : n < 9) (h : Nat) (ehb : h < 2401) (l0 : Nat) (el0b : l0 < 7) (x1 : Int32) (en : sc 1308 = nI n) (eh : sc 11 = nI h) (el0 : sc 2903 = nI l0) (d : Nat) : cl X S a b (d + 3) 183 [.ref 0, .int x1, .ref 85] sc ar lo ex (fun x sc' ar' lo' => Iv S sc' ar' ∧ Fr [] [] sc ar sc' ar' ∧ ((x = 0 ∧ ∃ v : Int32, ((¬ zno x1 10 ∧ v = zct x1 (sc 11) (zcn (ar 5) 1 S) (zcn (ar 5) 0 S) (zcn (ar 5) 2 S) (zcn (ar 5) 3 S) (sc 1308) (sc 2903) (zsm (ar 20) n) (sc 2201) (fo (ar 32) (nI (h / 24)) l0 0 (-1)))) ∧ lo' 0 = v.toInt64) ∨ (x = 1 ∧ (zno x1 10) ∧ sc' = sc ∧ ar' = ar))) := by
  obtain ⟨o, h9, e⟩ := sf_X9_count (X := X) (lo := lo) (ex := ex) hW hI n enb h ehb l0 el0b x1 en eh el0 d
  rcases h9 with ⟨x, sc', ar', ⟨hI', hF', hx⟩, rfl⟩ | ⟨hT, rfl⟩
  · refine ⟨0, sc', ar', vp_updL lo 0 x.toInt64, ex, 0, 0, ⟨hI', hF', Or.inl ⟨rfl, x, hx, rfl⟩⟩, by decide, by decide, ?_⟩
    refine ev_of (M := an_L_count) rfl (Nat.le_of_ble_eq_true rfl) ?_
    refine go_n 4 (fr' := (4, [(0, .ref 0), (1, .int x1), (2, .ref 85)], [.int x1, .ref 0, .int 0, .ref 85], gh S a b sc ar lo, ex, 0, 0)) rfl ?_
    refine go_callS (q := 88) (M1 := an_X9_count) rfl rfl (by decide) rfl ⟨_, rfl⟩ trivial e ?_
    refine go_n 4 (fr' := (16, [(0, .ref 0), (1, .int x1), (2, .ref 85)], [.int 0], gh S a b sc' ar' (vp_updL lo 0 x.toInt64), ex, 0, 0)) rfl ?_
    refine go_rt (i := .ireturn) (tg := []) rfl ?_
    rfl
  · refine ⟨1, sc, ar, lo, false, 1, 6, ⟨hI, fr_0, Or.inr ⟨rfl, hT, rfl, rfl⟩⟩, by decide, by decide, ?_⟩
    refine ev_of (M := an_L_count) rfl (Nat.le_of_ble_eq_true rfl) ?_
    refine go_n 4 (fr' := (4, [(0, .ref 0), (1, .int x1), (2, .ref 85)], [.int x1, .ref 0, .int 0, .ref 85], gh S a b sc ar lo, ex, 0, 0)) rfl ?_
    exact go_cat (fr := (4, [(0, .ref 0), (1, .int x1), (2, .ref 85)], [.int x1, .ref 0, .int 0, .ref 85], gh S a b sc ar lo, ex, 0, 0)) (i := .invokevirtual 58) (tg := []) (q := 88) (As := [.ref 0, .int x1]) (rest := [.int 0, .ref 85]) (M1 := an_X9_count) rfl rfl (by decide) rfl ⟨_, rfl⟩ trivial e (st := 0) (en := 9) (hp := 12) (ix := 13) rfl (Nat.le_of_ble_eq_true rfl) (Nat.le_of_ble_eq_true rfl) rfl
