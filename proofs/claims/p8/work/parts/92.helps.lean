/-! the law's own helpers: a call that is caught -/
section CAUGHT
variable (X : Nat × (Nat → Int32)) (S a b d q : Nat) (As : List Value) (sc : Nat → Int32) (ar : Nat → Nat → Int32) (lo : Nat → Int64) (ex : Bool)
def cl (P : Int32 → (Nat → Int32) → (Nat → Nat → Int32) → (Nat → Int64) → Prop) : Prop := ∃ x sc' ar' lo' ex' n s, P x sc' ar' lo' ∧ n ≤ 1 ∧ s ≤ 6 ∧ ai_Ev an_ms an_lk X 35 d q As (gh S a b sc ar lo) ex (.inl (some (.int x), gh S a b sc' ar' lo', ex', n, s))
end CAUGHT
section CAUGHTT
variable {X : Nat × (Nat → Int32)} {S a b d q : Nat} {As : List Value} {sc : Nat → Int32} {ar : Nat → Nat → Int32} {lo : Nat → Int64} {ex : Bool} {M : ai_M} {Q : ai_O → Prop} {pc nc ns : Nat} {lv : List (Nat × Value)} {st rest : List Value} {i : Instr} {tg : List Nat} {M1 : ai_M}
theorem to_cl {P : Int32 → (Nat → Int32) → (Nat → Nat → Int32) → (Nat → Int64) → Prop} (h1 : ai_as M.co pc = some (i, tg)) (hca : ai_ca (an_lk M.cn) i st (gh S a b sc ar lo) = some (q, As, rest)) (hq0 : q ≠ 0) (hM1 : an_ms[q]? = some M1) (hrc : ai_rc i As (gh S a b sc ar lo) M1.cn) (c : cl X S a b d q As sc ar lo ex P) (k : ∀ x sc' ar' lo' ex' n s, P x sc' ar' lo' → n ≤ 1 → s ≤ 6 → ag_To X d M (pc + 3, lv, .int x :: rest, gh S a b sc' ar' lo', ex', nc + n, ns + s) Q) : ag_To X d M (pc, lv, st, gh S a b sc ar lo, ex, nc, ns) Q := by
  obtain ⟨x, sc', ar', lo', ex', n, s, hP, hn, hs, e⟩ := c
  obtain ⟨o, hQ, g⟩ := k x sc' ar' lo' (ex && ex') n s hP hn hs
  exact ⟨o, hQ, go_call (fr := (pc, lv, st, gh S a b sc ar lo, ex, nc, ns)) h1 hca hq0 hM1 hrc ai_ni_l e g⟩
variable {r : ai_H × Bool × Nat × Nat}
theorem to_ldx {i : Nat} {tg : List Nat} (h1 : ai_as M.co pc = some (.iaload, tg)) (hi : i < X.1) (hn : X.1 < 2 ^ 31) (k : ag_To X d M (pc + 1, lv, .int (X.2 i) :: st, r) Q) : ag_To X d M (pc, lv, .int (nI i) :: .ref 1000000 :: st, r) Q := to_of (fun _ w => go_st h1 (by simp only [ai_st, ai_ial, ai_in_nI hi hn, if_true, nI_clamp (show i < 2 ^ 31 by omega)]) w) k
theorem to_lenx {tg : List Nat} (h1 : ai_as M.co pc = some (.arraylength, tg)) (k : ag_To X d M (pc + 1, lv, .int (nI X.1) :: st, r) Q) : ag_To X d M (pc, lv, .ref 1000000 :: st, r) Q := to_of (fun _ w => go_st h1 (by simp only [ai_st, ai_len, if_true]; rfl) w) k
end CAUGHTT
set_option maxRecDepth 20000 in
theorem lc_house {X : Nat × (Nat → Int32)} {S a b : Nat} {sc : Nat → Int32} {ar : Nat → Nat → Int32} {lo : Nat → Int64} {ex : Bool} (hW : Wd S a b) (hI : Iv S sc ar) (x1 : Int32) (x2 : Int32) (x3 : Int32) (d : Nat) : cl X S a b (d + 4) 169 [.ref 0, .int x1, .int x2, .int x3, .ref 85] sc ar lo ex (fun x sc' ar' lo' => Iv S sc' ar' ∧ Fr [] [5, 6, 7, 8, 9, 10] sc ar sc' ar') := by
  obtain ⟨o, h, e⟩ := sf_X9_house (X := X) (lo := lo) (ex := ex) hW hI x1 x2 x3 d
  rcases h with ⟨x, sc', ar', ⟨hI', hF', hx⟩, rfl⟩ | ⟨hT, rfl⟩
  · obtain ⟨n, hn, rfl⟩ := hx
    rcases (show n = 0 ∨ n = 1 by omega) with rfl | rfl
    · refine ⟨0, sc', ar', vp_updL lo 0 0, ex, 0, 0, ⟨hI', hF'⟩, by decide, by decide, ?_⟩
      refine ev_of (M := an_L_house) rfl (Nat.le_of_ble_eq_true rfl) ?_
      refine go_n 6 (fr' := (7, [(0, .ref 0), (1, .int x1), (2, .int x2), (3, .int x3), (4, .ref 85)], [.int x3, .int x2, .int x1, .ref 0, .int 0, .ref 85], gh S a b sc ar lo, ex, 0, 0)) rfl ?_
      refine go_callS (q := 73) (M1 := an_X9_house) rfl rfl (by decide) rfl ⟨_, rfl⟩ trivial e ?_
      refine go_if_eq (t := 17) rfl (fun _ => ?_) (fun w => absurd rfl w)
      refine go_n 4 (fr' := (27, [(0, .ref 0), (1, .int x1), (2, .int x2), (3, .int x3), (4, .ref 85)], [.int 0], gh S a b sc' ar' (vp_updL lo 0 0), ex, 0, 0)) rfl ?_
      refine go_rt (i := .ireturn) (tg := []) rfl ?_
      rfl
    · refine ⟨0, sc', ar', vp_updL lo 0 1, ex, 0, 0, ⟨hI', hF'⟩, by decide, by decide, ?_⟩
      refine ev_of (M := an_L_house) rfl (Nat.le_of_ble_eq_true rfl) ?_
      refine go_n 6 (fr' := (7, [(0, .ref 0), (1, .int x1), (2, .int x2), (3, .int x3), (4, .ref 85)], [.int x3, .int x2, .int x1, .ref 0, .int 0, .ref 85], gh S a b sc ar lo, ex, 0, 0)) rfl ?_
      refine go_callS (q := 73) (M1 := an_X9_house) rfl rfl (by decide) rfl ⟨_, rfl⟩ trivial e ?_
      refine go_if_eq (t := 17) rfl (fun w => absurd w (by decide)) (fun _ => ?_)
      refine go_n 5 (fr' := (27, [(0, .ref 0), (1, .int x1), (2, .int x2), (3, .int x3), (4, .ref 85)], [.int 0], gh S a b sc' ar' (vp_updL lo 0 1), ex, 0, 0)) rfl ?_
      refine go_rt (i := .ireturn) (tg := []) rfl ?_
      rfl
  · refine ⟨1, sc, ar, lo, false, 1, 6, ⟨hI, fr_0⟩, by decide, by decide, ?_⟩
    refine ev_of (M := an_L_house) rfl (Nat.le_of_ble_eq_true rfl) ?_
    refine go_n 6 (fr' := (7, [(0, .ref 0), (1, .int x1), (2, .int x2), (3, .int x3), (4, .ref 85)], [.int x3, .int x2, .int x1, .ref 0, .int 0, .ref 85], gh S a b sc ar lo, ex, 0, 0)) rfl ?_
    exact go_cat (fr := (7, [(0, .ref 0), (1, .int x1), (2, .int x2), (3, .int x3), (4, .ref 85)], [.int x3, .int x2, .int x1, .ref 0, .int 0, .ref 85], gh S a b sc ar lo, ex, 0, 0)) (i := .invokevirtual 7) (tg := []) (q := 73) (As := [.ref 0, .int x1, .int x2, .int x3]) (rest := [.int 0, .ref 85]) (M1 := an_X9_house) rfl rfl (by decide) rfl ⟨_, rfl⟩ trivial e (st := 0) (en := 19) (hp := 22) (ix := 13) rfl (Nat.le_of_ble_eq_true rfl) (Nat.le_of_ble_eq_true rfl) rfl
set_option maxRecDepth 20000 in
theorem lc_well {X : Nat × (Nat → Int32)} {S a b : Nat} {sc : Nat → Int32} {ar : Nat → Nat → Int32} {lo : Nat → Int64} {ex : Bool} (hW : Wd S a b) (hI : Iv S sc ar) (x1 : Int32) (k2 : Nat) (hk2 : k2 < 2) (d : Nat) : cl X S a b (d + 4) 170 [.ref 0, .int x1, .int (nI k2), .ref 85] sc ar lo ex (fun x sc' ar' lo' => Iv S sc' ar' ∧ Fr [] [12] sc ar sc' ar') := by
  obtain ⟨o, h, e⟩ := sf_X9_well (X := X) (lo := lo) (ex := ex) hW hI x1 k2 hk2 d
  rcases h with ⟨x, sc', ar', ⟨hI', hF', hx⟩, rfl⟩ | ⟨hT, rfl⟩
  · obtain ⟨n, hn, rfl⟩ := hx
    rcases (show n = 0 ∨ n = 1 by omega) with rfl | rfl
    · refine ⟨0, sc', ar', vp_updL lo 0 0, ex, 0, 0, ⟨hI', hF'⟩, by decide, by decide, ?_⟩
      refine ev_of (M := an_L_well) rfl (Nat.le_of_ble_eq_true rfl) ?_
      refine go_n 5 (fr' := (5, [(0, .ref 0), (1, .int x1), (2, .int (nI k2)), (3, .ref 85)], [.int (nI k2), .int x1, .ref 0, .int 0, .ref 85], gh S a b sc ar lo, ex, 0, 0)) rfl ?_
      refine go_callS (q := 74) (M1 := an_X9_well) rfl rfl (by decide) rfl ⟨_, rfl⟩ trivial e ?_
      refine go_if_eq (t := 15) rfl (fun _ => ?_) (fun w => absurd rfl w)
      refine go_n 4 (fr' := (25, [(0, .ref 0), (1, .int x1), (2, .int (nI k2)), (3, .ref 85)], [.int 0], gh S a b sc' ar' (vp_updL lo 0 0), ex, 0, 0)) rfl ?_
      refine go_rt (i := .ireturn) (tg := []) rfl ?_
      rfl
    · refine ⟨0, sc', ar', vp_updL lo 0 1, ex, 0, 0, ⟨hI', hF'⟩, by decide, by decide, ?_⟩
      refine ev_of (M := an_L_well) rfl (Nat.le_of_ble_eq_true rfl) ?_
      refine go_n 5 (fr' := (5, [(0, .ref 0), (1, .int x1), (2, .int (nI k2)), (3, .ref 85)], [.int (nI k2), .int x1, .ref 0, .int 0, .ref 85], gh S a b sc ar lo, ex, 0, 0)) rfl ?_
      refine go_callS (q := 74) (M1 := an_X9_well) rfl rfl (by decide) rfl ⟨_, rfl⟩ trivial e ?_
      refine go_if_eq (t := 15) rfl (fun w => absurd w (by decide)) (fun _ => ?_)
      refine go_n 5 (fr' := (25, [(0, .ref 0), (1, .int x1), (2, .int (nI k2)), (3, .ref 85)], [.int 0], gh S a b sc' ar' (vp_updL lo 0 1), ex, 0, 0)) rfl ?_
      refine go_rt (i := .ireturn) (tg := []) rfl ?_
      rfl
  · refine ⟨1, sc, ar, lo, false, 1, 6, ⟨hI, fr_0⟩, by decide, by decide, ?_⟩
    refine ev_of (M := an_L_well) rfl (Nat.le_of_ble_eq_true rfl) ?_
    refine go_n 5 (fr' := (5, [(0, .ref 0), (1, .int x1), (2, .int (nI k2)), (3, .ref 85)], [.int (nI k2), .int x1, .ref 0, .int 0, .ref 85], gh S a b sc ar lo, ex, 0, 0)) rfl ?_
    exact go_cat (fr := (5, [(0, .ref 0), (1, .int x1), (2, .int (nI k2)), (3, .ref 85)], [.int (nI k2), .int x1, .ref 0, .int 0, .ref 85], gh S a b sc ar lo, ex, 0, 0)) (i := .invokevirtual 15) (tg := []) (q := 74) (As := [.ref 0, .int x1, .int (nI k2)]) (rest := [.int 0, .ref 85]) (M1 := an_X9_well) rfl rfl (by decide) rfl ⟨_, rfl⟩ trivial e (st := 0) (en := 17) (hp := 20) (ix := 13) rfl (Nat.le_of_ble_eq_true rfl) (Nat.le_of_ble_eq_true rfl) rfl
set_option maxRecDepth 20000 in
theorem lc_wind {X : Nat × (Nat → Int32)} {S a b : Nat} {sc : Nat → Int32} {ar : Nat → Nat → Int32} {lo : Nat → Int64} {ex : Bool} (hW : Wd S a b) (hI : Iv S sc ar) (x1 : Int32) (d : Nat) : cl X S a b (d + 2) 171 [.ref 0, .int x1, .ref 85] sc ar lo ex (fun x sc' ar' lo' => Iv S sc' ar' ∧ Fr [112] [] sc ar sc' ar' ∧ ((x = 0 ∧ (0 ≤ x1 ∧ x1 ≤ 4) ∧ lo' 0 = (sc 112).toInt64 ∧ sc' 112 = x1) ∨ (x = 1 ∧ ¬ (0 ≤ x1 ∧ x1 ≤ 4) ∧ sc' 112 = sc 112))) := by
  obtain ⟨o, h, e⟩ := sf_X9_wind (X := X) (lo := lo) (ex := ex) hW hI x1 d
  rcases h with ⟨x, sc', ar', ⟨hI', hF', hx⟩, rfl⟩ | ⟨hT, rfl⟩
  · refine ⟨0, sc', ar', vp_updL lo 0 x.toInt64, ex, 0, 0, ⟨hI', hF', Or.inl ⟨rfl, hx.1, by rw [hx.2.1]; rfl, hx.2.2⟩⟩, by decide, by decide, ?_⟩
    refine ev_of (M := an_L_wind) rfl (Nat.le_of_ble_eq_true rfl) ?_
    refine go_n 4 (fr' := (4, [(0, .ref 0), (1, .int x1), (2, .ref 85)], [.int x1, .ref 0, .int 0, .ref 85], gh S a b sc ar lo, ex, 0, 0)) rfl ?_
    refine go_callS (q := 75) (M1 := an_X9_wind) rfl rfl (by decide) rfl ⟨_, rfl⟩ trivial e ?_
    refine go_n 4 (fr' := (16, [(0, .ref 0), (1, .int x1), (2, .ref 85)], [.int 0], gh S a b sc' ar' (vp_updL lo 0 x.toInt64), ex, 0, 0)) rfl ?_
    refine go_rt (i := .ireturn) (tg := []) rfl ?_
    rfl
  · refine ⟨1, sc, ar, lo, false, 1, 6, ⟨hI, fr_0, Or.inr ⟨rfl, hT, rfl⟩⟩, by decide, by decide, ?_⟩
    refine ev_of (M := an_L_wind) rfl (Nat.le_of_ble_eq_true rfl) ?_
    refine go_n 4 (fr' := (4, [(0, .ref 0), (1, .int x1), (2, .ref 85)], [.int x1, .ref 0, .int 0, .ref 85], gh S a b sc ar lo, ex, 0, 0)) rfl ?_
    exact go_cat (fr := (4, [(0, .ref 0), (1, .int x1), (2, .ref 85)], [.int x1, .ref 0, .int 0, .ref 85], gh S a b sc ar lo, ex, 0, 0)) (i := .invokevirtual 19) (tg := []) (q := 75) (As := [.ref 0, .int x1]) (rest := [.int 0, .ref 85]) (M1 := an_X9_wind) rfl rfl (by decide) rfl ⟨_, rfl⟩ trivial e (st := 0) (en := 9) (hp := 12) (ix := 23) rfl (Nat.le_of_ble_eq_true rfl) (Nat.le_of_ble_eq_true rfl) rfl
set_option maxRecDepth 20000 in
theorem lc_company {X : Nat × (Nat → Int32)} {S a b : Nat} {sc : Nat → Int32} {ar : Nat → Nat → Int32} {lo : Nat → Int64} {ex : Bool} (hW : Wd S a b) (hI : Iv S sc ar) (x1 : Int32) (x2 : Int32) (x3 : Int32) (d : Nat) : cl X S a b (d + 4) 172 [.ref 0, .int x1, .int x2, .int x3, .ref 85] sc ar lo ex (fun x sc' ar' lo' => Iv S sc' ar' ∧ Fr [1308] [14, 15, 16, 17] sc ar sc' ar' ∧ ((x = 0 ∧ (0 ≤ x3 ∧ x3 < nI S) ∧ ∃ y : Int32, co_P 1308 x1 x2 y sc sc' ∧ lo' 0 = y.toInt64) ∨ (x = 1 ∧ ¬ (0 ≤ x3 ∧ x3 < nI S) ∧ sc' 1308 = sc 1308))) := by
  obtain ⟨o, h, e⟩ := sf_X9_company (X := X) (lo := lo) (ex := ex) hW hI x1 x2 x3 d
  rcases h with ⟨x, sc', ar', ⟨hI', hF', hx⟩, rfl⟩ | ⟨hT, rfl⟩
  · refine ⟨0, sc', ar', vp_updL lo 0 x.toInt64, ex, 0, 0, ⟨hI', hF', Or.inl ⟨rfl, hx.1, x, hx.2, rfl⟩⟩, by decide, by decide, ?_⟩
    refine ev_of (M := an_L_company) rfl (Nat.le_of_ble_eq_true rfl) ?_
    refine go_n 6 (fr' := (7, [(0, .ref 0), (1, .int x1), (2, .int x2), (3, .int x3), (4, .ref 85)], [.int x3, .int x2, .int x1, .ref 0, .int 0, .ref 85], gh S a b sc ar lo, ex, 0, 0)) rfl ?_
    refine go_callS (q := 76) (M1 := an_X9_company) rfl rfl (by decide) rfl ⟨_, rfl⟩ trivial e ?_
    refine go_n 4 (fr' := (20, [(0, .ref 0), (1, .int x1), (2, .int x2), (3, .int x3), (4, .ref 85)], [.int 0], gh S a b sc' ar' (vp_updL lo 0 x.toInt64), ex, 0, 0)) rfl ?_
    refine go_rt (i := .ireturn) (tg := []) rfl ?_
    rfl
  · refine ⟨1, sc, ar, lo, false, 1, 6, ⟨hI, fr_0, Or.inr ⟨rfl, hT, rfl⟩⟩, by decide, by decide, ?_⟩
    refine ev_of (M := an_L_company) rfl (Nat.le_of_ble_eq_true rfl) ?_
    refine go_n 6 (fr' := (7, [(0, .ref 0), (1, .int x1), (2, .int x2), (3, .int x3), (4, .ref 85)], [.int x3, .int x2, .int x1, .ref 0, .int 0, .ref 85], gh S a b sc ar lo, ex, 0, 0)) rfl ?_
    exact go_cat (fr := (7, [(0, .ref 0), (1, .int x1), (2, .int x2), (3, .int x3), (4, .ref 85)], [.int x3, .int x2, .int x1, .ref 0, .int 0, .ref 85], gh S a b sc ar lo, ex, 0, 0)) (i := .invokevirtual 25) (tg := []) (q := 76) (As := [.ref 0, .int x1, .int x2, .int x3]) (rest := [.int 0, .ref 85]) (M1 := an_X9_company) rfl rfl (by decide) rfl ⟨_, rfl⟩ trivial e (st := 0) (en := 12) (hp := 15) (ix := 13) rfl (Nat.le_of_ble_eq_true rfl) (Nat.le_of_ble_eq_true rfl) rfl
set_option maxRecDepth 20000 in
theorem lc_law {X : Nat × (Nat → Int32)} {S a b : Nat} {sc : Nat → Int32} {ar : Nat → Nat → Int32} {lo : Nat → Int64} {ex : Bool} (hW : Wd S a b) (hI : Iv S sc ar) (x1 : Int32) (x2 : Int32) (hB : Be sc ar) (d : Nat) : cl X S a b (d + 32) 173 [.ref 0, .int x1, .int x2, .ref 85] sc ar lo ex (fun x sc' ar' lo' => Iv S sc' ar' ∧ Fr [10, 2201, 2401, 2402, 2404, 2405, 2602, 2604, 2605, 2903] [25, 27, 28, 30, 31, 32] sc ar sc' ar' ∧ ((x = 0 ∧ ∃ (tk : Nat → Int32) (pl g : Nat → Nat) (sz : Nat), (∀ n l : Nat, x1 = nI n → n ≤ 400 → sc 2903 = nI l → l < 6 → Sm (ar 23) n tk pl g sz) ∧ LwO tk pl sz 2201 10 2903 x1 x2 sc sc' ∧ Be sc' ar') ∨ (x = 1 ∧ LwT 2201 x1 x2 sc ∧ sc' = sc ∧ ar' = ar))) := by
  obtain ⟨o, h, e⟩ := sf_X9_law (X := X) (lo := lo) (ex := ex) hW hI x1 x2 hB d
  rcases h with ⟨x, sc', ar', ⟨hI', hF', hx⟩, rfl⟩ | ⟨hT, rfl⟩
  · refine ⟨0, sc', ar', vp_updL lo 0 x.toInt64, ex, 0, 0, ⟨hI', hF', Or.inl ⟨rfl, hx⟩⟩, by decide, by decide, ?_⟩
    refine ev_of (M := an_L_law) rfl (Nat.le_of_ble_eq_true rfl) ?_
    refine go_n 5 (fr' := (5, [(0, .ref 0), (1, .int x1), (2, .int x2), (3, .ref 85)], [.int x2, .int x1, .ref 0, .int 0, .ref 85], gh S a b sc ar lo, ex, 0, 0)) rfl ?_
    refine go_callS (q := 78) (M1 := an_X9_law) rfl rfl (by decide) rfl ⟨_, rfl⟩ trivial e ?_
    refine go_n 4 (fr' := (18, [(0, .ref 0), (1, .int x1), (2, .int x2), (3, .ref 85)], [.int 0], gh S a b sc' ar' (vp_updL lo 0 x.toInt64), ex, 0, 0)) rfl ?_
    refine go_rt (i := .ireturn) (tg := []) rfl ?_
    rfl
  · refine ⟨1, sc, ar, lo, false, 1, 6, ⟨hI, fr_0, Or.inr ⟨rfl, hT, rfl, rfl⟩⟩, by decide, by decide, ?_⟩
    refine ev_of (M := an_L_law) rfl (Nat.le_of_ble_eq_true rfl) ?_
    refine go_n 5 (fr' := (5, [(0, .ref 0), (1, .int x1), (2, .int x2), (3, .ref 85)], [.int x2, .int x1, .ref 0, .int 0, .ref 85], gh S a b sc ar lo, ex, 0, 0)) rfl ?_
    exact go_cat (fr := (5, [(0, .ref 0), (1, .int x1), (2, .int x2), (3, .ref 85)], [.int x2, .int x1, .ref 0, .int 0, .ref 85], gh S a b sc ar lo, ex, 0, 0)) (i := .invokevirtual 29) (tg := []) (q := 78) (As := [.ref 0, .int x1, .int x2]) (rest := [.int 0, .ref 85]) (M1 := an_X9_law) rfl rfl (by decide) rfl ⟨_, rfl⟩ trivial e (st := 0) (en := 10) (hp := 13) (ix := 23) rfl (Nat.le_of_ble_eq_true rfl) (Nat.le_of_ble_eq_true rfl) rfl
set_option maxRecDepth 20000 in
theorem lc_light {X : Nat × (Nat → Int32)} {S a b : Nat} {sc : Nat → Int32} {ar : Nat → Nat → Int32} {lo : Nat → Int64} {ex : Bool} (hW : Wd S a b) (hI : Iv S sc ar) (x1 : Int32) (d : Nat) : cl X S a b (d + 8) 174 [.ref 0, .int x1, .ref 85] sc ar lo ex (fun x sc' ar' lo' => Iv S sc' ar' ∧ Fr [9, 3300, 3301, 3304] [5, 17, 18, 34, 35, 48] sc ar sc' ar') := by
  obtain ⟨o, h, e⟩ := sf_X9_light (X := X) (lo := lo) (ex := ex) hW hI x1 d
  rcases h with ⟨x, sc', ar', ⟨hI', hF', hx⟩, rfl⟩ | ⟨hT, rfl⟩
  · refine ⟨0, sc', ar', vp_updL lo 0 x.toInt64, ex, 0, 0, ⟨hI', hF'⟩, by decide, by decide, ?_⟩
    refine ev_of (M := an_L_light) rfl (Nat.le_of_ble_eq_true rfl) ?_
    refine go_n 4 (fr' := (4, [(0, .ref 0), (1, .int x1), (2, .ref 85)], [.int x1, .ref 0, .int 0, .ref 85], gh S a b sc ar lo, ex, 0, 0)) rfl ?_
    refine go_callS (q := 80) (M1 := an_X9_light) rfl rfl (by decide) rfl ⟨_, rfl⟩ trivial e ?_
    refine go_n 4 (fr' := (16, [(0, .ref 0), (1, .int x1), (2, .ref 85)], [.int 0], gh S a b sc' ar' (vp_updL lo 0 x.toInt64), ex, 0, 0)) rfl ?_
    refine go_rt (i := .ireturn) (tg := []) rfl ?_
    rfl
  · refine ⟨1, sc, ar, lo, false, 1, 6, ⟨hI, fr_0⟩, by decide, by decide, ?_⟩
    refine ev_of (M := an_L_light) rfl (Nat.le_of_ble_eq_true rfl) ?_
    refine go_n 4 (fr' := (4, [(0, .ref 0), (1, .int x1), (2, .ref 85)], [.int x1, .ref 0, .int 0, .ref 85], gh S a b sc ar lo, ex, 0, 0)) rfl ?_
    exact go_cat (fr := (4, [(0, .ref 0), (1, .int x1), (2, .ref 85)], [.int x1, .ref 0, .int 0, .ref 85], gh S a b sc ar lo, ex, 0, 0)) (i := .invokevirtual 33) (tg := []) (q := 80) (As := [.ref 0, .int x1]) (rest := [.int 0, .ref 85]) (M1 := an_X9_light) rfl rfl (by decide) rfl ⟨_, rfl⟩ trivial e (st := 0) (en := 9) (hp := 12) (ix := 13) rfl (Nat.le_of_ble_eq_true rfl) (Nat.le_of_ble_eq_true rfl) rfl
set_option maxRecDepth 20000 in
theorem lc_send {X : Nat × (Nat → Int32)} {S a b : Nat} {sc : Nat → Int32} {ar : Nat → Nat → Int32} {lo : Nat → Int64} {ex : Bool} (hW : Wd S a b) (hI : Iv S sc ar) (x1 : Int32) (x2 : Int32) (d : Nat) : cl X S a b (d + 5) 175 [.ref 0, .int x1, .int x2, .ref 85] sc ar lo ex (fun x sc' ar' lo' => Iv S sc' ar' ∧ Fr [] [11, 17, 18] sc ar sc' ar') := by
  obtain ⟨o, h, e⟩ := sf_X9_send (X := X) (lo := lo) (ex := ex) hW hI x1 x2 d
  rcases h with ⟨x, sc', ar', ⟨hI', hF', hx⟩, rfl⟩ | ⟨hT, rfl⟩
  · obtain ⟨n, hn, rfl⟩ := hx
    rcases (show n = 0 ∨ n = 1 by omega) with rfl | rfl
    · refine ⟨0, sc', ar', vp_updL lo 0 0, ex, 0, 0, ⟨hI', hF'⟩, by decide, by decide, ?_⟩
      refine ev_of (M := an_L_send) rfl (Nat.le_of_ble_eq_true rfl) ?_
      refine go_n 5 (fr' := (5, [(0, .ref 0), (1, .int x1), (2, .int x2), (3, .ref 85)], [.int x2, .int x1, .ref 0, .int 0, .ref 85], gh S a b sc ar lo, ex, 0, 0)) rfl ?_
      refine go_callS (q := 81) (M1 := an_X9_send) rfl rfl (by decide) rfl ⟨_, rfl⟩ trivial e ?_
      refine go_if_eq (t := 15) rfl (fun _ => ?_) (fun w => absurd rfl w)
      refine go_n 4 (fr' := (25, [(0, .ref 0), (1, .int x1), (2, .int x2), (3, .ref 85)], [.int 0], gh S a b sc' ar' (vp_updL lo 0 0), ex, 0, 0)) rfl ?_
      refine go_rt (i := .ireturn) (tg := []) rfl ?_
      rfl
    · refine ⟨0, sc', ar', vp_updL lo 0 1, ex, 0, 0, ⟨hI', hF'⟩, by decide, by decide, ?_⟩
      refine ev_of (M := an_L_send) rfl (Nat.le_of_ble_eq_true rfl) ?_
      refine go_n 5 (fr' := (5, [(0, .ref 0), (1, .int x1), (2, .int x2), (3, .ref 85)], [.int x2, .int x1, .ref 0, .int 0, .ref 85], gh S a b sc ar lo, ex, 0, 0)) rfl ?_
      refine go_callS (q := 81) (M1 := an_X9_send) rfl rfl (by decide) rfl ⟨_, rfl⟩ trivial e ?_
      refine go_if_eq (t := 15) rfl (fun w => absurd w (by decide)) (fun _ => ?_)
      refine go_n 5 (fr' := (25, [(0, .ref 0), (1, .int x1), (2, .int x2), (3, .ref 85)], [.int 0], gh S a b sc' ar' (vp_updL lo 0 1), ex, 0, 0)) rfl ?_
      refine go_rt (i := .ireturn) (tg := []) rfl ?_
      rfl
  · refine ⟨1, sc, ar, lo, false, 1, 6, ⟨hI, fr_0⟩, by decide, by decide, ?_⟩
    refine ev_of (M := an_L_send) rfl (Nat.le_of_ble_eq_true rfl) ?_
    refine go_n 5 (fr' := (5, [(0, .ref 0), (1, .int x1), (2, .int x2), (3, .ref 85)], [.int x2, .int x1, .ref 0, .int 0, .ref 85], gh S a b sc ar lo, ex, 0, 0)) rfl ?_
    exact go_cat (fr := (5, [(0, .ref 0), (1, .int x1), (2, .int x2), (3, .ref 85)], [.int x2, .int x1, .ref 0, .int 0, .ref 85], gh S a b sc ar lo, ex, 0, 0)) (i := .invokevirtual 36) (tg := []) (q := 81) (As := [.ref 0, .int x1, .int x2]) (rest := [.int 0, .ref 85]) (M1 := an_X9_send) rfl rfl (by decide) rfl ⟨_, rfl⟩ trivial e (st := 0) (en := 17) (hp := 20) (ix := 13) rfl (Nat.le_of_ble_eq_true rfl) (Nat.le_of_ble_eq_true rfl) rfl
set_option maxRecDepth 20000 in
theorem lc_pull {X : Nat × (Nat → Int32)} {S a b : Nat} {sc : Nat → Int32} {ar : Nat → Nat → Int32} {lo : Nat → Int64} {ex : Bool} (hW : Wd S a b) (hI : Iv S sc ar) (x1 : Int32) (x2 : Int32) (d : Nat) : cl X S a b (d + 5) 176 [.ref 0, .int x1, .int x2, .ref 85] sc ar lo ex (fun x sc' ar' lo' => Iv S sc' ar' ∧ Fr [] [11, 17, 18] sc ar sc' ar') := by
  obtain ⟨o, h, e⟩ := sf_X9_pull (X := X) (lo := lo) (ex := ex) hW hI x1 x2 d
  rcases h with ⟨x, sc', ar', ⟨hI', hF', hx⟩, rfl⟩ | ⟨hT, rfl⟩
  · obtain ⟨n, hn, rfl⟩ := hx
    rcases (show n = 0 ∨ n = 1 by omega) with rfl | rfl
    · refine ⟨0, sc', ar', vp_updL lo 0 0, ex, 0, 0, ⟨hI', hF'⟩, by decide, by decide, ?_⟩
      refine ev_of (M := an_L_pull) rfl (Nat.le_of_ble_eq_true rfl) ?_
      refine go_n 5 (fr' := (5, [(0, .ref 0), (1, .int x1), (2, .int x2), (3, .ref 85)], [.int x2, .int x1, .ref 0, .int 0, .ref 85], gh S a b sc ar lo, ex, 0, 0)) rfl ?_
      refine go_callS (q := 82) (M1 := an_X9_pull) rfl rfl (by decide) rfl ⟨_, rfl⟩ trivial e ?_
      refine go_if_eq (t := 15) rfl (fun _ => ?_) (fun w => absurd rfl w)
      refine go_n 4 (fr' := (25, [(0, .ref 0), (1, .int x1), (2, .int x2), (3, .ref 85)], [.int 0], gh S a b sc' ar' (vp_updL lo 0 0), ex, 0, 0)) rfl ?_
      refine go_rt (i := .ireturn) (tg := []) rfl ?_
      rfl
    · refine ⟨0, sc', ar', vp_updL lo 0 1, ex, 0, 0, ⟨hI', hF'⟩, by decide, by decide, ?_⟩
      refine ev_of (M := an_L_pull) rfl (Nat.le_of_ble_eq_true rfl) ?_
      refine go_n 5 (fr' := (5, [(0, .ref 0), (1, .int x1), (2, .int x2), (3, .ref 85)], [.int x2, .int x1, .ref 0, .int 0, .ref 85], gh S a b sc ar lo, ex, 0, 0)) rfl ?_
      refine go_callS (q := 82) (M1 := an_X9_pull) rfl rfl (by decide) rfl ⟨_, rfl⟩ trivial e ?_
      refine go_if_eq (t := 15) rfl (fun w => absurd w (by decide)) (fun _ => ?_)
      refine go_n 5 (fr' := (25, [(0, .ref 0), (1, .int x1), (2, .int x2), (3, .ref 85)], [.int 0], gh S a b sc' ar' (vp_updL lo 0 1), ex, 0, 0)) rfl ?_
      refine go_rt (i := .ireturn) (tg := []) rfl ?_
      rfl
  · refine ⟨1, sc, ar, lo, false, 1, 6, ⟨hI, fr_0⟩, by decide, by decide, ?_⟩
    refine ev_of (M := an_L_pull) rfl (Nat.le_of_ble_eq_true rfl) ?_
    refine go_n 5 (fr' := (5, [(0, .ref 0), (1, .int x1), (2, .int x2), (3, .ref 85)], [.int x2, .int x1, .ref 0, .int 0, .ref 85], gh S a b sc ar lo, ex, 0, 0)) rfl ?_
    exact go_cat (fr := (5, [(0, .ref 0), (1, .int x1), (2, .int x2), (3, .ref 85)], [.int x2, .int x1, .ref 0, .int 0, .ref 85], gh S a b sc ar lo, ex, 0, 0)) (i := .invokevirtual 40) (tg := []) (q := 82) (As := [.ref 0, .int x1, .int x2]) (rest := [.int 0, .ref 85]) (M1 := an_X9_pull) rfl rfl (by decide) rfl ⟨_, rfl⟩ trivial e (st := 0) (en := 17) (hp := 20) (ix := 13) rfl (Nat.le_of_ble_eq_true rfl) (Nat.le_of_ble_eq_true rfl) rfl
set_option maxRecDepth 20000 in
theorem lc_hours {X : Nat × (Nat → Int32)} {S a b : Nat} {sc : Nat → Int32} {ar : Nat → Nat → Int32} {lo : Nat → Int64} {ex : Bool} (hW : Wd S a b) (hI : Iv S sc ar) (x1 : Int32) (d : Nat) : cl X S a b (d + 9) 177 [.ref 0, .int x1, .ref 85] sc ar lo ex (fun x sc' ar' lo' => Iv S sc' ar' ∧ Fr [9, 11, 3300, 3301, 3304, 3603] [5, 8, 9, 10, 11, 16, 17, 18, 19, 20, 21, 34, 35, 37, 38, 48] sc ar sc' ar' ∧ ((x = 0 ∧ ∃ h n : Nat, sc 11 = nI h ∧ x1 = nI n ∧ n ≤ 100 ∧ h + n ≤ 2400 ∧ lo' 0 = (nI (h + n)).toInt64 ∧ sc' 11 = nI (h + n)) ∨ (x = 1 ∧ (∀ h n : Nat, sc 11 = nI h → x1 = nI n → n ≤ 100 → h + n ≤ 2400 → False) ∧ sc' 11 = sc 11))) := by
  obtain ⟨o, h, e⟩ := sf_X9_hours (X := X) (lo := lo) (ex := ex) hW hI x1 d
  rcases h with ⟨x, sc', ar', ⟨hI', hF', hx⟩, rfl⟩ | ⟨hT, rfl⟩
  · refine ⟨0, sc', ar', vp_updL lo 0 x.toInt64, ex, 0, 0, ⟨hI', hF', Or.inl ⟨rfl, hx.elim fun h w => w.elim fun n u => ⟨h, n, u.1, u.2.1, u.2.2.1, u.2.2.2.1, by rw [u.2.2.2.2.1]; rfl, u.2.2.2.2.2⟩⟩⟩, by decide, by decide, ?_⟩
    refine ev_of (M := an_L_hours) rfl (Nat.le_of_ble_eq_true rfl) ?_
    refine go_n 4 (fr' := (4, [(0, .ref 0), (1, .int x1), (2, .ref 85)], [.int x1, .ref 0, .int 0, .ref 85], gh S a b sc ar lo, ex, 0, 0)) rfl ?_
    refine go_callS (q := 83) (M1 := an_X9_hours) rfl rfl (by decide) rfl ⟨_, rfl⟩ trivial e ?_
    refine go_n 4 (fr' := (16, [(0, .ref 0), (1, .int x1), (2, .ref 85)], [.int 0], gh S a b sc' ar' (vp_updL lo 0 x.toInt64), ex, 0, 0)) rfl ?_
    refine go_rt (i := .ireturn) (tg := []) rfl ?_
    rfl
  · refine ⟨1, sc, ar, lo, false, 1, 6, ⟨hI, fr_0, Or.inr ⟨rfl, hT, rfl⟩⟩, by decide, by decide, ?_⟩
    refine ev_of (M := an_L_hours) rfl (Nat.le_of_ble_eq_true rfl) ?_
    refine go_n 4 (fr' := (4, [(0, .ref 0), (1, .int x1), (2, .ref 85)], [.int x1, .ref 0, .int 0, .ref 85], gh S a b sc ar lo, ex, 0, 0)) rfl ?_
    exact go_cat (fr := (4, [(0, .ref 0), (1, .int x1), (2, .ref 85)], [.int x1, .ref 0, .int 0, .ref 85], gh S a b sc ar lo, ex, 0, 0)) (i := .invokevirtual 43) (tg := []) (q := 83) (As := [.ref 0, .int x1]) (rest := [.int 0, .ref 85]) (M1 := an_X9_hours) rfl rfl (by decide) rfl ⟨_, rfl⟩ trivial e (st := 0) (en := 9) (hp := 12) (ix := 23) rfl (Nat.le_of_ble_eq_true rfl) (Nat.le_of_ble_eq_true rfl) rfl
set_option maxRecDepth 20000 in
theorem lc_cell_ {X : Nat × (Nat → Int32)} {S a b : Nat} {sc : Nat → Int32} {ar : Nat → Nat → Int32} {lo : Nat → Int64} {ex : Bool} (hW : Wd S a b) (hI : Iv S sc ar) (x1 : Int32) (x2 : Int32) (d : Nat) : cl X S a b (d + 4) 178 [.ref 0, .int x1, .int x2, .ref 85] sc ar lo ex (fun x sc' ar' lo' => Iv S sc' ar' ∧ Fr [] [] sc ar sc' ar') := by
  obtain ⟨o, h, e⟩ := sf_X9_cell (X := X) (lo := lo) (ex := ex) hW hI x1 x2 d
  rcases h with ⟨x, sc', ar', ⟨hI', hF', hx⟩, rfl⟩ | ⟨hT, rfl⟩
  · refine ⟨0, sc', ar', vp_updL lo 0 x.toInt64, ex, 0, 0, ⟨hI', hF'⟩, by decide, by decide, ?_⟩
    refine ev_of (M := an_L_cell_) rfl (Nat.le_of_ble_eq_true rfl) ?_
    refine go_n 5 (fr' := (5, [(0, .ref 0), (1, .int x1), (2, .int x2), (3, .ref 85)], [.int x2, .int x1, .ref 0, .int 0, .ref 85], gh S a b sc ar lo, ex, 0, 0)) rfl ?_
    refine go_callS (q := 84) (M1 := an_X9_cell) rfl rfl (by decide) rfl ⟨_, rfl⟩ trivial e ?_
    refine go_n 4 (fr' := (18, [(0, .ref 0), (1, .int x1), (2, .int x2), (3, .ref 85)], [.int 0], gh S a b sc' ar' (vp_updL lo 0 x.toInt64), ex, 0, 0)) rfl ?_
    refine go_rt (i := .ireturn) (tg := []) rfl ?_
    rfl
  · refine ⟨1, sc, ar, lo, false, 1, 6, ⟨hI, fr_0⟩, by decide, by decide, ?_⟩
    refine ev_of (M := an_L_cell_) rfl (Nat.le_of_ble_eq_true rfl) ?_
    refine go_n 5 (fr' := (5, [(0, .ref 0), (1, .int x1), (2, .int x2), (3, .ref 85)], [.int x2, .int x1, .ref 0, .int 0, .ref 85], gh S a b sc ar lo, ex, 0, 0)) rfl ?_
    exact go_cat (fr := (5, [(0, .ref 0), (1, .int x1), (2, .int x2), (3, .ref 85)], [.int x2, .int x1, .ref 0, .int 0, .ref 85], gh S a b sc ar lo, ex, 0, 0)) (i := .invokevirtual 46) (tg := []) (q := 84) (As := [.ref 0, .int x1, .int x2]) (rest := [.int 0, .ref 85]) (M1 := an_X9_cell) rfl rfl (by decide) rfl ⟨_, rfl⟩ trivial e (st := 0) (en := 10) (hp := 13) (ix := 13) rfl (Nat.le_of_ble_eq_true rfl) (Nat.le_of_ble_eq_true rfl) rfl
set_option maxRecDepth 20000 in
theorem lc_of {X : Nat × (Nat → Int32)} {S a b : Nat} {sc : Nat → Int32} {ar : Nat → Nat → Int32} {lo : Nat → Int64} {ex : Bool} (hW : Wd S a b) (hI : Iv S sc ar) (x1 : Int32) (x2 : Int32) (d : Nat) : cl X S a b (d + 4) 179 [.ref 0, .int x1, .int x2, .ref 85] sc ar lo ex (fun x sc' ar' lo' => Iv S sc' ar' ∧ Fr [] [] sc ar sc' ar') := by
  obtain ⟨o, h, e⟩ := sf_X9_of (X := X) (lo := lo) (ex := ex) hW hI x1 x2 d
  rcases h with ⟨x, sc', ar', ⟨hI', hF', hx⟩, rfl⟩ | ⟨hT, rfl⟩
  · refine ⟨0, sc', ar', vp_updL lo 0 x.toInt64, ex, 0, 0, ⟨hI', hF'⟩, by decide, by decide, ?_⟩
    refine ev_of (M := an_L_of) rfl (Nat.le_of_ble_eq_true rfl) ?_
    refine go_n 5 (fr' := (5, [(0, .ref 0), (1, .int x1), (2, .int x2), (3, .ref 85)], [.int x2, .int x1, .ref 0, .int 0, .ref 85], gh S a b sc ar lo, ex, 0, 0)) rfl ?_
    refine go_callS (q := 85) (M1 := an_X9_of) rfl rfl (by decide) rfl ⟨_, rfl⟩ trivial e ?_
    refine go_n 4 (fr' := (18, [(0, .ref 0), (1, .int x1), (2, .int x2), (3, .ref 85)], [.int 0], gh S a b sc' ar' (vp_updL lo 0 x.toInt64), ex, 0, 0)) rfl ?_
    refine go_rt (i := .ireturn) (tg := []) rfl ?_
    rfl
  · refine ⟨1, sc, ar, lo, false, 1, 6, ⟨hI, fr_0⟩, by decide, by decide, ?_⟩
    refine ev_of (M := an_L_of) rfl (Nat.le_of_ble_eq_true rfl) ?_
    refine go_n 5 (fr' := (5, [(0, .ref 0), (1, .int x1), (2, .int x2), (3, .ref 85)], [.int x2, .int x1, .ref 0, .int 0, .ref 85], gh S a b sc ar lo, ex, 0, 0)) rfl ?_
    exact go_cat (fr := (5, [(0, .ref 0), (1, .int x1), (2, .int x2), (3, .ref 85)], [.int x2, .int x1, .ref 0, .int 0, .ref 85], gh S a b sc ar lo, ex, 0, 0)) (i := .invokevirtual 49) (tg := []) (q := 85) (As := [.ref 0, .int x1, .int x2]) (rest := [.int 0, .ref 85]) (M1 := an_X9_of) rfl rfl (by decide) rfl ⟨_, rfl⟩ trivial e (st := 0) (en := 10) (hp := 13) (ix := 13) rfl (Nat.le_of_ble_eq_true rfl) (Nat.le_of_ble_eq_true rfl) rfl
set_option maxRecDepth 20000 in
theorem lc_breaks {X : Nat × (Nat → Int32)} {S a b : Nat} {sc : Nat → Int32} {ar : Nat → Nat → Int32} {lo : Nat → Int64} {ex : Bool} (hW : Wd S a b) (hI : Iv S sc ar) (x1 : Int32) (d : Nat) : cl X S a b (d + 7) 180 [.ref 0, .int x1, .ref 85] sc ar lo ex (fun x sc' ar' lo' => Iv S sc' ar' ∧ Fr [3901, 3911, 3912] [40, 41, 42, 43, 44, 45, 46, 47] sc ar sc' ar') := by
  obtain ⟨o, h, e⟩ := sf_X9_breaks (X := X) (lo := lo) (ex := ex) hW hI x1 d
  rcases h with ⟨x, sc', ar', ⟨hI', hF', hx⟩, rfl⟩ | ⟨hT, rfl⟩
  · refine ⟨0, sc', ar', vp_updL lo 0 x.toInt64, ex, 0, 0, ⟨hI', hF'⟩, by decide, by decide, ?_⟩
    refine ev_of (M := an_L_breaks) rfl (Nat.le_of_ble_eq_true rfl) ?_
    refine go_n 4 (fr' := (4, [(0, .ref 0), (1, .int x1), (2, .ref 85)], [.int x1, .ref 0, .int 0, .ref 85], gh S a b sc ar lo, ex, 0, 0)) rfl ?_
    refine go_callS (q := 86) (M1 := an_X9_breaks) rfl rfl (by decide) rfl ⟨_, rfl⟩ trivial e ?_
    refine go_n 4 (fr' := (16, [(0, .ref 0), (1, .int x1), (2, .ref 85)], [.int 0], gh S a b sc' ar' (vp_updL lo 0 x.toInt64), ex, 0, 0)) rfl ?_
    refine go_rt (i := .ireturn) (tg := []) rfl ?_
    rfl
  · refine ⟨1, sc, ar, lo, false, 1, 6, ⟨hI, fr_0⟩, by decide, by decide, ?_⟩
    refine ev_of (M := an_L_breaks) rfl (Nat.le_of_ble_eq_true rfl) ?_
    refine go_n 4 (fr' := (4, [(0, .ref 0), (1, .int x1), (2, .ref 85)], [.int x1, .ref 0, .int 0, .ref 85], gh S a b sc ar lo, ex, 0, 0)) rfl ?_
    exact go_cat (fr := (4, [(0, .ref 0), (1, .int x1), (2, .ref 85)], [.int x1, .ref 0, .int 0, .ref 85], gh S a b sc ar lo, ex, 0, 0)) (i := .invokevirtual 52) (tg := []) (q := 86) (As := [.ref 0, .int x1]) (rest := [.int 0, .ref 85]) (M1 := an_X9_breaks) rfl rfl (by decide) rfl ⟨_, rfl⟩ trivial e (st := 0) (en := 9) (hp := 12) (ix := 13) rfl (Nat.le_of_ble_eq_true rfl) (Nat.le_of_ble_eq_true rfl) rfl
set_option maxRecDepth 20000 in
theorem lc_breaker {X : Nat × (Nat → Int32)} {S a b : Nat} {sc : Nat → Int32} {ar : Nat → Nat → Int32} {lo : Nat → Int64} {ex : Bool} (hW : Wd S a b) (hI : Iv S sc ar) (x1 : Int32) (d : Nat) : cl X S a b (d + 2) 181 [.ref 0, .int x1, .ref 85] sc ar lo ex (fun x sc' ar' lo' => Iv S sc' ar' ∧ Fr [] [] sc ar sc' ar') := by
  obtain ⟨o, h, e⟩ := sf_X9_breaker (X := X) (lo := lo) (ex := ex) hW hI x1 d
  rcases h with ⟨x, sc', ar', ⟨hI', hF', hx⟩, rfl⟩ | ⟨hT, rfl⟩
  · refine ⟨0, sc', ar', vp_updL lo 0 x.toInt64, ex, 0, 0, ⟨hI', hF'⟩, by decide, by decide, ?_⟩
    refine ev_of (M := an_L_breaker) rfl (Nat.le_of_ble_eq_true rfl) ?_
    refine go_n 4 (fr' := (4, [(0, .ref 0), (1, .int x1), (2, .ref 85)], [.int x1, .ref 0, .int 0, .ref 85], gh S a b sc ar lo, ex, 0, 0)) rfl ?_
    refine go_callS (q := 87) (M1 := an_X9_breaker) rfl rfl (by decide) rfl ⟨_, rfl⟩ trivial e ?_
    refine go_n 4 (fr' := (16, [(0, .ref 0), (1, .int x1), (2, .ref 85)], [.int 0], gh S a b sc' ar' (vp_updL lo 0 x.toInt64), ex, 0, 0)) rfl ?_
    refine go_rt (i := .ireturn) (tg := []) rfl ?_
    rfl
  · refine ⟨1, sc, ar, lo, false, 1, 6, ⟨hI, fr_0⟩, by decide, by decide, ?_⟩
    refine ev_of (M := an_L_breaker) rfl (Nat.le_of_ble_eq_true rfl) ?_
    refine go_n 4 (fr' := (4, [(0, .ref 0), (1, .int x1), (2, .ref 85)], [.int x1, .ref 0, .int 0, .ref 85], gh S a b sc ar lo, ex, 0, 0)) rfl ?_
    exact go_cat (fr := (4, [(0, .ref 0), (1, .int x1), (2, .ref 85)], [.int x1, .ref 0, .int 0, .ref 85], gh S a b sc ar lo, ex, 0, 0)) (i := .invokevirtual 55) (tg := []) (q := 87) (As := [.ref 0, .int x1]) (rest := [.int 0, .ref 85]) (M1 := an_X9_breaker) rfl rfl (by decide) rfl ⟨_, rfl⟩ trivial e (st := 0) (en := 9) (hp := 12) (ix := 13) rfl (Nat.le_of_ble_eq_true rfl) (Nat.le_of_ble_eq_true rfl) rfl
set_option maxRecDepth 20000 in
theorem lc_count {X : Nat × (Nat → Int32)} {S a b : Nat} {sc : Nat → Int32} {ar : Nat → Nat → Int32} {lo : Nat → Int64} {ex : Bool} (hW : Wd S a b) (hI : Iv S sc ar) (x1 : Int32) (d : Nat) : cl X S a b (d + 3) 182 [.ref 0, .int x1, .ref 85] sc ar lo ex (fun x sc' ar' lo' => Iv S sc' ar' ∧ Fr [] [] sc ar sc' ar') := by
  obtain ⟨o, h, e⟩ := sf_X9_count (X := X) (lo := lo) (ex := ex) hW hI x1 d
  rcases h with ⟨x, sc', ar', ⟨hI', hF', hx⟩, rfl⟩ | ⟨hT, rfl⟩
  · refine ⟨0, sc', ar', vp_updL lo 0 x.toInt64, ex, 0, 0, ⟨hI', hF'⟩, by decide, by decide, ?_⟩
    refine ev_of (M := an_L_count) rfl (Nat.le_of_ble_eq_true rfl) ?_
    refine go_n 4 (fr' := (4, [(0, .ref 0), (1, .int x1), (2, .ref 85)], [.int x1, .ref 0, .int 0, .ref 85], gh S a b sc ar lo, ex, 0, 0)) rfl ?_
    refine go_callS (q := 88) (M1 := an_X9_count) rfl rfl (by decide) rfl ⟨_, rfl⟩ trivial e ?_
    refine go_n 4 (fr' := (16, [(0, .ref 0), (1, .int x1), (2, .ref 85)], [.int 0], gh S a b sc' ar' (vp_updL lo 0 x.toInt64), ex, 0, 0)) rfl ?_
    refine go_rt (i := .ireturn) (tg := []) rfl ?_
    rfl
  · refine ⟨1, sc, ar, lo, false, 1, 6, ⟨hI, fr_0⟩, by decide, by decide, ?_⟩
    refine ev_of (M := an_L_count) rfl (Nat.le_of_ble_eq_true rfl) ?_
    refine go_n 4 (fr' := (4, [(0, .ref 0), (1, .int x1), (2, .ref 85)], [.int x1, .ref 0, .int 0, .ref 85], gh S a b sc ar lo, ex, 0, 0)) rfl ?_
    exact go_cat (fr := (4, [(0, .ref 0), (1, .int x1), (2, .ref 85)], [.int x1, .ref 0, .int 0, .ref 85], gh S a b sc ar lo, ex, 0, 0)) (i := .invokevirtual 58) (tg := []) (q := 88) (As := [.ref 0, .int x1]) (rest := [.int 0, .ref 85]) (M1 := an_X9_count) rfl rfl (by decide) rfl ⟨_, rfl⟩ trivial e (st := 0) (en := 9) (hp := 12) (ix := 13) rfl (Nat.le_of_ble_eq_true rfl) (Nat.le_of_ble_eq_true rfl) rfl
