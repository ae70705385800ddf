set_option maxRecDepth 20000 in
theorem rx_readExpression6 {X : Nat × (Nat → Int32)} {S a b : Nat} {lo : Nat → Int64} {ex : Bool} {T tk : Nat → Int32} {pl g : Nat → Nat} {sz n : Nat} (hW : Wd S a b) (hsm : Sm T n tk pl g sz) (hlen4 : n ≤ 400) (hne : ∀ t, t < n → ¬ T t = -1) (h : Nat)  (d : Nat)  : RxOk X S a b lo ex T tk pl g sz n (d + 6) 128 6 h ((Sum.inr : Nat → Nat ⊕ Nat)) (fun (_ : Nat) (_ : Nat → Int32) => (0 : Int32)) := by
  obtain ⟨ha1, ha8, hb1, hb8, hab, hS1, hS⟩ := id hW
  intro sc ar l c e B j hI hl el ec eB hB4 eb hz hp hT hr
  refine cv_of (M := an_X10_readExpression) rfl (Nat.le_of_ble_eq_true rfl) ?_
  have hF : Fr [4934, 4935, 4937, 4938, 4939, 4940, 4941, 4942] [71] sc ar sc ar := fr_0
  refine to_eq (fr' := (0, [(0, .ref 49), (1, .int 6)], [], gh S a b sc ar lo, ex, 0, 0)) rfl ?_
  refine to_n 1 (fr' := (1, [(0, .ref 49), (1, .int 6)], [.ref 49], gh S a b sc ar lo, ex, 0, 0)) rfl ?_
  refine to_getR (v := (sc 4937)) rfl rfl rfl rfl rfl ?_
  refine to_n 1 (fr' := (5, [(0, .ref 49), (1, .int 6)], [.int 1, .int (sc 4937)], gh S a b sc ar lo, ex, 0, 0)) rfl ?_
  refine to_ic_eq (t := 25) rfl (fun q1 => ?_) (fun q1 => ?_)
  · refine to_n 10 (fr' := (51, [(0, .ref 49), (1, .int 6), (2, .int 1)], [.int 2, .ref 49], gh S a b sc ar lo, ex, 0, 0)) rfl ?_
    refine to_cv (q := 125) (M1 := an_X10_wrong) (rest := []) rfl rfl (by decide) rfl ⟨_, rfl⟩ (sf_X10_wrong hW hI 2 (d + 4)) (fun sc2 ar2 hx2 => ?_)
    obtain ⟨hI2, hG2, hx2⟩ := hx2
    have hb2 := hx2.1 (by decide)
    have bp2 : sc2 4942 = nI (pl j) := (hx2.2 eb).trans hr.2.2.1
    have k2_4907 : sc2 4907 = (nI l) := (hG2.1 4907 (by decide)).trans el
    have k2_4934 : sc2 4934 = (nI c) := (hG2.1 4934 (by decide)).trans ec
    have k2_4939 : sc2 4939 = (nI B) := (hG2.1 4939 (by decide)).trans eB
    have hk2 : ∀ x, x < 700 * l + c → ar2 71 x = ar 71 x := kp_st (fun _ _ => rfl) hG2 (by decide)
    have hF2 := fr_t hF hG2 (by decide) (by decide)
    refine to_eq (fr' := (54, [(0, .ref 49), (1, .int 6), (2, .int 1)], [], gh S a b sc2 ar2 lo, ex, 0, 0)) rfl ?_
    refine to_n 1 (fr' := (55, [(0, .ref 49), (1, .int 6), (2, .int 1)], [.ref 49], gh S a b sc2 ar2 lo, ex, 0, 0)) rfl ?_
    refine to_getR (v := (sc2 4941)) rfl rfl rfl rfl rfl ?_
    refine to_if_eq_F (t := 62) rfl hb2 ?_
    exact to_rt (i := .return_) (tg := []) rfl rfl ⟨_, _, ⟨hI2, hF2, ⟨hk2, Or.inl hb2, Or.inr ⟨hb2, j, rfl, bp2⟩, fun w => absurd w hb2⟩⟩, rfl⟩
  · refine to_n 1 (fr' := (9, [(0, .ref 49), (1, .int 6)], [.ref 49], gh S a b sc ar lo, ex, 0, 0)) rfl ?_
    refine to_getR (v := (sc 4937)) rfl rfl rfl rfl rfl ?_
    refine to_n 1 (fr' := (13, [(0, .ref 49), (1, .int 6)], [.int 2, .int (sc 4937)], gh S a b sc ar lo, ex, 0, 0)) rfl ?_
    refine to_ic_eq (t := 25) rfl (fun q3 => ?_) (fun q3 => ?_)
    · refine to_n 10 (fr' := (51, [(0, .ref 49), (1, .int 6), (2, .int 1)], [.int 2, .ref 49], gh S a b sc ar lo, ex, 0, 0)) rfl ?_
      refine to_cv (q := 125) (M1 := an_X10_wrong) (rest := []) rfl rfl (by decide) rfl ⟨_, rfl⟩ (sf_X10_wrong hW hI 2 (d + 4)) (fun sc4 ar4 hx4 => ?_)
      obtain ⟨hI4, hG4, hx4⟩ := hx4
      have hb4 := hx4.1 (by decide)
      have bp4 : sc4 4942 = nI (pl j) := (hx4.2 eb).trans hr.2.2.1
      have k4_4907 : sc4 4907 = (nI l) := (hG4.1 4907 (by decide)).trans el
      have k4_4934 : sc4 4934 = (nI c) := (hG4.1 4934 (by decide)).trans ec
      have k4_4939 : sc4 4939 = (nI B) := (hG4.1 4939 (by decide)).trans eB
      have hk4 : ∀ x, x < 700 * l + c → ar4 71 x = ar 71 x := kp_st (fun _ _ => rfl) hG4 (by decide)
      have hF4 := fr_t hF hG4 (by decide) (by decide)
      refine to_eq (fr' := (54, [(0, .ref 49), (1, .int 6), (2, .int 1)], [], gh S a b sc4 ar4 lo, ex, 0, 0)) rfl ?_
      refine to_n 1 (fr' := (55, [(0, .ref 49), (1, .int 6), (2, .int 1)], [.ref 49], gh S a b sc4 ar4 lo, ex, 0, 0)) rfl ?_
      refine to_getR (v := (sc4 4941)) rfl rfl rfl rfl rfl ?_
      refine to_if_eq_F (t := 62) rfl hb4 ?_
      exact to_rt (i := .return_) (tg := []) rfl rfl ⟨_, _, ⟨hI4, hF4, ⟨hk4, Or.inl hb4, Or.inr ⟨hb4, j, rfl, bp4⟩, fun w => absurd w hb4⟩⟩, rfl⟩
    · refine to_n 2 (fr' := (19, [(0, .ref 49), (1, .int 6)], [.int 40, .ref 49], gh S a b sc ar lo, ex, 0, 0)) rfl ?_
      refine to_cp (q := 124) (M1 := an_X10_isSign) (rest := []) rfl rfl (by decide) rfl ⟨_, rfl⟩ (is_X10_isSign hW hI 40 (d + 4)) (fun x5 hx5 => ?_)
      obtain ⟨⟨n5, hn5, rfl⟩, hp5⟩ := hx5
      rw [ob_s (x := (40, -4)) hsm hr (by decide)] at hp5
      refine to_eq (fr' := (22, [(0, .ref 49), (1, .int 6)], [.int (nI n5)], gh S a b sc ar lo, ex, 0, 0)) rfl ?_
      refine to_nf_eq (t := 29) (x := n5) rfl (by omega) (fun q6 => ?_) (fun q6 => ?_)
      · refine to_n 6 (fr' := (37, [(0, .ref 49), (1, .int 6), (2, .int 0)], [.int 1, .ref 49], gh S a b sc ar lo, ex, 0, 0)) rfl ?_
        refine to_cv (q := 125) (M1 := an_X10_wrong) (rest := []) rfl rfl (by decide) rfl ⟨_, rfl⟩ (sf_X10_wrong hW hI 1 (d + 4)) (fun sc7 ar7 hx7 => ?_)
        obtain ⟨hI7, hG7, hx7⟩ := hx7
        have hb7 := hx7.1 (by decide)
        have bp7 : sc7 4942 = nI (pl j) := (hx7.2 eb).trans hr.2.2.1
        have k7_4907 : sc7 4907 = (nI l) := (hG7.1 4907 (by decide)).trans el
        have k7_4934 : sc7 4934 = (nI c) := (hG7.1 4934 (by decide)).trans ec
        have k7_4939 : sc7 4939 = (nI B) := (hG7.1 4939 (by decide)).trans eB
        have hk7 : ∀ x, x < 700 * l + c → ar7 71 x = ar 71 x := kp_st (fun _ _ => rfl) hG7 (by decide)
        have hF7 := fr_t hF hG7 (by decide) (by decide)
        refine to_eq (fr' := (40, [(0, .ref 49), (1, .int 6), (2, .int 0)], [], gh S a b sc7 ar7 lo, ex, 0, 0)) rfl ?_
        refine to_n 2 (fr' := (55, [(0, .ref 49), (1, .int 6), (2, .int 0)], [.ref 49], gh S a b sc7 ar7 lo, ex, 0, 0)) rfl ?_
        refine to_getR (v := (sc7 4941)) rfl rfl rfl rfl rfl ?_
        refine to_if_eq_F (t := 62) rfl hb7 ?_
        exact to_rt (i := .return_) (tg := []) rfl rfl ⟨_, _, ⟨hI7, hF7, ⟨hk7, Or.inl hb7, Or.inr ⟨hb7, j, rfl, bp7⟩, fun w => absurd w hb7⟩⟩, rfl⟩
      · refine to_n 10 (fr' := (51, [(0, .ref 49), (1, .int 6), (2, .int 1)], [.int 2, .ref 49], gh S a b sc ar lo, ex, 0, 0)) rfl ?_
        refine to_cv (q := 125) (M1 := an_X10_wrong) (rest := []) rfl rfl (by decide) rfl ⟨_, rfl⟩ (sf_X10_wrong hW hI 2 (d + 4)) (fun sc8 ar8 hx8 => ?_)
        obtain ⟨hI8, hG8, hx8⟩ := hx8
        have hb8 := hx8.1 (by decide)
        have bp8 : sc8 4942 = nI (pl j) := (hx8.2 eb).trans hr.2.2.1
        have k8_4907 : sc8 4907 = (nI l) := (hG8.1 4907 (by decide)).trans el
        have k8_4934 : sc8 4934 = (nI c) := (hG8.1 4934 (by decide)).trans ec
        have k8_4939 : sc8 4939 = (nI B) := (hG8.1 4939 (by decide)).trans eB
        have hk8 : ∀ x, x < 700 * l + c → ar8 71 x = ar 71 x := kp_st (fun _ _ => rfl) hG8 (by decide)
        have hF8 := fr_t hF hG8 (by decide) (by decide)
        refine to_eq (fr' := (54, [(0, .ref 49), (1, .int 6), (2, .int 1)], [], gh S a b sc8 ar8 lo, ex, 0, 0)) rfl ?_
        refine to_n 1 (fr' := (55, [(0, .ref 49), (1, .int 6), (2, .int 1)], [.ref 49], gh S a b sc8 ar8 lo, ex, 0, 0)) rfl ?_
        refine to_getR (v := (sc8 4941)) rfl rfl rfl rfl rfl ?_
        refine to_if_eq_F (t := 62) rfl hb8 ?_
        exact to_rt (i := .return_) (tg := []) rfl rfl ⟨_, _, ⟨hI8, hF8, ⟨hk8, Or.inl hb8, Or.inr ⟨hb8, j, rfl, bp8⟩, fun w => absurd w hb8⟩⟩, rfl⟩
theorem rx_all {X : Nat × (Nat → Int32)} {S a b : Nat} {lo : Nat → Int64} {ex : Bool} {T tk : Nat → Int32} {pl g : Nat → Nat} {sz n : Nat} (hW : Wd S a b) (hsm : Sm T n tk pl g sz) (hlen4 : n ≤ 400) (hne : ∀ t, t < n → ¬ T t = -1) : ∀ (r w : Nat), w + r = 6 → ∀ d : Nat, RxOk X S a b lo ex T tk pl g sz n (d + (6 + 4 * r)) 128 w (1 + 3 * r) (pEx tk sz r) (vEx tk sz r) := by
  have hse := se_sm hsm
  intro r
  induction r with
  | zero =>
    intro w hw d
    obtain rfl : w = 6 := by omega
    exact rx_readExpression6 hW hsm hlen4 hne 1 d
  | succ r ih =>
    intro w hw d
    have e0 : d + (6 + 4 * r) = (d + 1 + 4 * r) + 5 := by omega
    have h0 : RxOk X S a b lo ex T tk pl g sz n ((d + 1 + 4 * r) + 5) 128 (w + 1) (1 + 3 * r) (pEx tk sz r) (vEx tk sz r) := e0 ▸ ih (w + 1) (by omega) d
    have h1 := rx_readPart hW hsm hlen4 hne w (1 + 3 * r) (by omega) (pEx tk sz r) (vEx tk sz r) (d + 1 + 4 * r) h0
    have h2 := rx_readSum hW hsm hlen4 hne w (1 + 3 * r) (pEx tk sz r) (vEx tk sz r) hse (pg_pt hse (pg_ex hse r)) (d + 1 + 4 * r + 1) h1
    have h3 := rx_readTest hW hsm hlen4 hne w (1 + 3 * r + 1) (pEx tk sz r) (vEx tk sz r) (d + 1 + 4 * r + 2) h2
    have h4 := rx_readExpression hW hsm hlen4 hne w (1 + 3 * r + 1 + 1) (by omega) (pEx tk sz r) (vEx tk sz r) hse (pg_ts hse (pg_ex hse r)) (d + 1 + 4 * r + 3) h3
    have e1 : d + 1 + 4 * r + 3 + 6 = d + (6 + 4 * (r + 1)) := by omega
    have e2 : 1 + 3 * r + 1 + 1 + 1 = 1 + 3 * (r + 1) := by omega
    rw [e1, e2] at h4
    exact h4
theorem rx_expr {X : Nat × (Nat → Int32)} {S a b : Nat} {lo : Nat → Int64} {ex : Bool} {T tk : Nat → Int32} {pl g : Nat → Nat} {sz n : Nat} (hW : Wd S a b) (hsm : Sm T n tk pl g sz) (hlen4 : n ≤ 400) (hne : ∀ t, t < n → ¬ T t = -1) (d : Nat) : RxOk X S a b lo ex T tk pl g sz n (d + 30) 128 0 19 (pEx tk sz 6) (vEx tk sz 6) := rx_all hW hsm hlen4 hne 6 0 rfl d
theorem tk_ag {C D : Nat → Int32} {t : Nat} (hD : ∀ x, x < t → D x = C x) : ∀ (n i top : Nat), tk C n i t top → tk D n i t top
  | 0, _, _, h => h
  | n + 1, i, top, h => fun w => by
    have e := hD i w
    obtain ⟨h1, h2, h3, h4⟩ := h w
    rw [e]
    exact ⟨fun v => ⟨(h1 v).1, (h1 v).2.1, tk_ag hD n _ _ (h1 v).2.2⟩, fun v v2 => ⟨(h2 v v2).1, tk_ag hD n _ _ (h2 v v2).2⟩, fun v v2 v3 => ⟨(h3 v v2 v3).1, tk_ag hD n _ _ (h3 v v2 v3).2⟩, fun v v2 v3 => ⟨(h4 v v2 v3).1, tk_ag hD n _ _ (h4 v v2 v3).2⟩⟩
/-- n rules of law l stand in the rows R (where each begins) and C; c codes so far -/
def Ru (R C : Nat → Int32) (l n c : Nat) : Prop := ∃ F : Nat → Nat, F n = c ∧ (∀ r, r < n → R (13 * l + r) = nI (F r)) ∧ ∀ r, r < n → F r ≤ c ∧ F (r + 1) ≤ c ∧ tk C 701 (700 * l + F r) (700 * l + F (r + 1)) 0
theorem ru_0 {R C : Nat → Int32} {l c : Nat} : Ru R C l 0 c := ⟨fun _ => c, rfl, fun r h => absurd h (Nat.not_lt_zero _), fun r h => absurd h (Nat.not_lt_zero _)⟩
theorem ru_put {R C C' : Nat → Int32} {l n c c' h : Nat} (hu : Ru R C l n c) (hC : ∀ x, x < 700 * l + c → C' x = C x) (sg : seg C' (700 * l + c) (700 * l + c') h) (hh : h ≤ 150) (hcc : c ≤ c') (hc : c' ≤ 700) : Ru (upd R (13 * l + n) (nI c)) C' l (n + 1) c' := by
  obtain ⟨F, f1, f2, f3⟩ := hu
  refine ⟨fun r => if r = n + 1 then c' else F r, if_pos rfl, fun r hr => ?_, fun r hr => ?_⟩
  · show upd R (13 * l + n) (nI c) (13 * l + r) = nI (if r = n + 1 then c' else F r)
    rw [if_neg (by omega)]
    by_cases e : r = n
    · subst e
      rw [up_eq, f1]
    · rw [up_ne (by omega)]
      exact f2 r (by omega)
  · show (if r = n + 1 then c' else F r) ≤ c' ∧ (if r + 1 = n + 1 then c' else F (r + 1)) ≤ c' ∧ tk C' 701 (700 * l + (if r = n + 1 then c' else F r)) (700 * l + (if r + 1 = n + 1 then c' else F (r + 1))) 0
    rw [if_neg (show ¬ r = n + 1 by omega)]
    by_cases e : r = n
    · subst e
      rw [if_pos rfl, f1]
      exact ⟨hcc, Nat.le_refl _, seg_tk sg hh (by omega) (by omega)⟩
    · rw [if_neg (show ¬ r + 1 = n + 1 by omega)]
      obtain ⟨g0, g1, g2⟩ := f3 r (by omega)
      exact ⟨by omega, by omega, tk_ag (fun x hx => hC x (by omega)) 701 _ 0 g2⟩
theorem ru_ag {R R' C C' : Nat → Int32} {l n c : Nat} (hu : Ru R C l n c) (hR : R' = R) (hC : C' = C) : Ru R' C' l n c := hR ▸ hC ▸ hu
/-- what the law's rows say when it has been read -/
def Ln (ar : Nat → Nat → Int32) (l : Nat) : Prop := ∃ m : Nat, m < 13 ∧ ar 69 l = nI m ∧ ∃ F : Nat → Nat, (∀ r, r ≤ m → F r ≤ 700 ∧ ar 70 (13 * l + r) = nI (F r)) ∧ ∀ r, r < m → tk (ar 71) 701 (700 * l + F r) (700 * l + F (r + 1)) 0
def Kl (ar ar' : Nat → Nat → Int32) (l : Nat) : Prop := (∀ x, x < 700 * l → ar' 71 x = ar 71 x) ∧ (∀ x, x < 13 * l → ar' 70 x = ar 70 x) ∧ (∀ x, x < l → ar' 69 x = ar 69 x)
