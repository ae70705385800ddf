/-! the reference reads a law -/
def RuV (R C P : Nat → Int32) (l n c : Nat) (tk : Nat → Int32) (sz j : Nat) : Prop := ∃ (F : Nat → Nat) (ts : Nat → Int32) (Vs : Nat → zVal), F n = c ∧ (∀ r, r < n → R (13 * l + r) = nI (F r) ∧ F r ≤ c ∧ F (r + 1) ≤ c ∧ sgr C (700 * l + F r) (700 * l + F (r + 1)) (Vs r) ∧ ((ts r = -12 ∧ P (12 * l + r) = 0) ∨ (ts r = -13 ∧ P (12 * l + r) = 1))) ∧ ∀ kn, vLw tk sz kn 13 0 0 (0, 0) = vLw tk sz kn (13 - n) n j (zfd ts Vs kn n)
theorem ruv_0 {R C P : Nat → Int32} {l c : Nat} {tk : Nat → Int32} {sz : Nat} : RuV R C P l 0 c tk sz 0 := ⟨fun _ => c, fun _ => 0, fun _ _ => 0, rfl, fun r h => absurd h (Nat.not_lt_zero _), fun _ => rfl⟩
theorem ruv_c {R C P P' : Nat → Int32} {l n c : Nat} {tk : Nat → Int32} {sz j : Nat} (h : RuV R C P l n c tk sz j) (e : P' = P) : RuV R C P' l n c tk sz j := e ▸ h
theorem ruv_put {R C C' P R' P' tk : Nat → Int32} {l n c c' sz j k : Nat} {t p : Int32} {V : zVal} (h : RuV R C P l n c tk sz j) (hC : ∀ x, x < 700 * l + c → C' x = C x) (sg : sgr C' (700 * l + c) (700 * l + c') V) (hcc : c ≤ c') (eR : R' = upd R (13 * l + n) (nI c)) (eP : P' = upd P (12 * l + n) p) (ht : (t = -12 ∧ p = 0) ∨ (t = -13 ∧ p = 1)) (hv : ∀ kn s, vLw tk sz kn (13 - n) n j s = vLw tk sz kn (13 - (n + 1)) (n + 1) k (zrs t (V kn) s)) : RuV R' C' P' l (n + 1) c' tk sz k := by
  obtain ⟨F, ts, Vs, f1, f2, f3⟩ := h
  subst eR
  subst eP
  refine ⟨fun r => if r = n + 1 then c' else F r, fun r => if r = n then t else ts r, fun r => if r = n then V else Vs r, if_pos rfl, fun r hr => ?_, fun kn => ?_⟩
  · show upd R (13 * l + n) (nI c) (13 * l + r) = nI (if r = n + 1 then c' else F r) ∧ (if r = n + 1 then c' else F r) ≤ c' ∧ (if r + 1 = n + 1 then c' else F (r + 1)) ≤ c' ∧ sgr C' (700 * l + (if r = n + 1 then c' else F r)) (700 * l + (if r + 1 = n + 1 then c' else F (r + 1))) (if r = n then V else Vs r) ∧ (((if r = n then t else ts r) = -12 ∧ upd P (12 * l + n) p (12 * l + r) = 0) ∨ ((if r = n then t else ts r) = -13 ∧ upd P (12 * l + n) p (12 * l + r) = 1))
    rw [if_neg (show ¬ r = n + 1 by omega)]
    by_cases e : r = n
    · subst e
      rw [if_pos rfl, if_pos rfl, if_pos rfl, f1, up_eq, up_eq]
      exact ⟨rfl, hcc, Nat.le_refl _, sg, ht⟩
    · rw [if_neg (show ¬ r + 1 = n + 1 by omega), if_neg e, if_neg e, up_ne (by omega), up_ne (by omega)]
      obtain ⟨g0, g1, g2, g3, g4⟩ := f2 r (by omega)
      exact ⟨g0, by omega, by omega, sgr_ag g3 hC (by omega), g4⟩
  · rw [f3 kn, hv kn]
    show _ = vLw tk sz kn (13 - (n + 1)) (n + 1) k (zrs (if n = n then t else ts n) ((if n = n then V else Vs n) kn) (zfd (fun r => if r = n then t else ts r) (fun r => if r = n then V else Vs r) kn n))
    rw [if_pos rfl, if_pos rfl, zfd_ag (ts := ts) (Vs := Vs) n (fun r hr => ⟨if_neg (by omega), if_neg (by omega)⟩)]
/-- what the law's rows come to -/
def LnV (ar : Nat → Nat → Int32) (l : Nat) (tk : Nat → Int32) (sz : Nat) : Prop := (∀ r, r < (ar 69 l).toNatClampNeg → (ar 69 l).toNatClampNeg ≤ 12 ∧ (ar 70 (13 * l + r + 1)).toNatClampNeg ≤ 700 ∧ ∃ V, sgr (ar 71) (700 * l + (ar 70 (13 * l + r)).toNatClampNeg) (700 * l + (ar 70 (13 * l + r + 1)).toNatClampNeg) V) ∧ ∀ kx : Int32 → Int32, zrul kx (ar 71) (ar 70) (ar 73) l 0 (ar 69 l).toNatClampNeg = (vLw tk sz (fun i => kx (nI i)) 13 0 0 (0, 0)).1 ∧ zrul kx (ar 71) (ar 70) (ar 73) l 1 (ar 69 l).toNatClampNeg = (vLw tk sz (fun i => kx (nI i)) 13 0 0 (0, 0)).2
theorem lnv_of {R M : Nat → Int32} {ar : Nat → Nat → Int32} {l n c : Nat} {tk : Nat → Int32} {sz j : Nat} (hu : RuV R (ar 71) (ar 73) l n c tk sz j) (e70 : ar 70 = upd R (13 * l + n) (nI c)) (e69 : ar 69 = upd M l (nI n)) (hn : n ≤ 12) (hc : c ≤ 700) (hl : l < 6) (hj : tk j = -1) : LnV ar l tk sz := by
  obtain ⟨F, ts, Vs, f1, f2, f3⟩ := hu
  have e9 : (ar 69 l).toNatClampNeg = n := by
    rw [e69, up_eq, nI_clamp (by omega)]
  have hF : ∀ r, r ≤ n → F r ≤ 700 ∧ ar 70 (13 * l + r) = nI (F r) := fun r hr => by
    by_cases e : r = n
    · subst e
      exact ⟨by omega, by rw [e70, up_eq, f1]⟩
    · obtain ⟨g0, g1, -, -, -⟩ := f2 r (by omega)
      exact ⟨by omega, by rw [e70, up_ne (by omega)]; exact g0⟩
  unfold LnV
  rw [e9]
  refine ⟨fun r hr => ?_, fun kx => ?_⟩
  · obtain ⟨a1, a2⟩ := hF r (by omega)
    obtain ⟨b1, b2⟩ := hF (r + 1) (by omega)
    have b2' : ar 70 (13 * l + r + 1) = nI (F (r + 1)) := b2
    rw [a2, b2', nI_clamp (by omega), nI_clamp (by omega)]
    exact ⟨hn, b1, _, (f2 r hr).2.2.2.1⟩
  · have z := zrul_fd hF (fun r hr => (f2 r hr).2.2.2) kx n (Nat.le_refl _)
    rw [z.1, z.2, f3, show 13 - n = (12 - n) + 1 by omega]
    show _ = (if tk j = -1 then _ else _ : Int32 × Int32).1 ∧ _ = (if tk j = -1 then _ else _ : Int32 × Int32).2
    rw [if_pos hj]
    exact ⟨rfl, rfl⟩
theorem ln_of {R M : Nat → Int32} {ar : Nat → Nat → Int32} {l n c : Nat} (hu : Ru R (ar 71) l n c) (e70 : ar 70 = upd R (13 * l + n) (nI c)) (e69 : ar 69 = upd M l (nI n)) (hn : n ≤ 12) (hc : c ≤ 700) : Ln ar l := by
  obtain ⟨F, f1, f2, f3⟩ := hu
  refine ⟨n, by omega, by rw [e69]; exact up_eq, F, fun r hr => ?_, fun r hr => (f3 r hr).2.2⟩
  by_cases e : r = n
  · subst e
    exact ⟨by omega, by rw [e70, up_eq, f1]⟩
  · obtain ⟨g0, -, -⟩ := f3 r (by omega)
    exact ⟨by omega, by rw [e70, up_ne (by omega)]; exact f2 r (by omega)⟩
set_option maxRecDepth 20000 in
theorem rd_readLaw {X : Nat × (Nat → Int32)} {S a b : Nat} {sc : Nat → Int32} {ar : Nat → Nat → Int32} {lo : Nat → Int64} {ex : Bool} (hW : Wd S a b) (hI : Iv S sc ar) (l r : Nat) (hl : l < 6) (hr : r ≤ 400) (tk : Nat → Int32) (pl g : Nat → Nat) (sz : Nat) (hsm0 : Sm (ar 67) r tk pl g sz) (hne0 : ∀ t, t < r → ¬ ar 67 t = -1) (el : sc 4907 = nI l) (ec : sc 4934 = 0) (ea : sc 4935 = 0) (er : sc 4936 = nI r) (eb : sc 4941 = 0) (d : Nat)  : cv X S a b (d + 32) 127 [.ref 49] sc ar lo ex (fun sc' ar' => Iv S sc' ar' ∧ Fr [4934, 4935, 4937, 4938, 4939, 4940, 4941, 4942] [69, 70, 71, 73] sc ar sc' ar' ∧ (Kl ar ar' l ∧ (¬ sc' 4941 = 0 ∨ (sc' 4941 = 0 ∧ Ln ar' l)) ∧ ((sc' 4941 = 0 ∧ ∃ k, pLw tk sz 13 0 0 = .inl k) ∨ (¬ sc' 4941 = 0 ∧ ∃ k, pLw tk sz 13 0 0 = .inr k ∧ sc' 4942 = nI (pl k))) ∧ (∀ x, x < 12 * l → ar' 73 x = ar 73 x) ∧ (sc' 4941 = 0 → LnV ar' l tk sz))) := by
  obtain ⟨ha1, ha8, hb1, hb8, hab, hS1, hS⟩ := id hW
  obtain ⟨T, hTT⟩ : ∃ T, T = ar 67 := ⟨_, rfl⟩
  obtain ⟨n, hnn⟩ : ∃ n, n = r := ⟨_, rfl⟩
  have hsm : Sm T n tk pl g sz := by rw [hTT, hnn]; exact hsm0
  have hlen4 : n ≤ 400 := by omega
  have hne : ∀ t, t < n → ¬ T t = -1 := by rw [hTT, hnn]; exact hne0
  refine cv_of (M := an_X10_readLaw) rfl (Nat.le_of_ble_eq_true rfl) ?_
  have hF : Fr [4934, 4935, 4937, 4938, 4939, 4940, 4941, 4942] [69, 70, 71, 73] sc ar sc ar := fr_0
  refine to_eq (fr' := (0, [(0, .ref 49)], [], gh S a b sc ar lo, ex, 0, 0)) rfl ?_
  have c6 : ∀ m : Nat, ∀ (nr : Nat) (c1 : Nat) (B1 : Nat) (j1 : Nat) (sc1 : Nat → Int32) (ar1 : Nat → Nat → Int32), 401 ≤ B1 + m → sc1 4934 = nI c1 → sc1 4939 = nI B1 → sc1 4907 = nI l → sc1 4941 = 0 → Pz sc1 → 2 * c1 ≤ 3 * B1 → B1 ≤ 400 → Kl ar ar1 l → Ru (ar1 70) (ar1 71) l nr c1 → nr ≤ 12 → Rs T tk pl g sz n j1 sc1 → ar1 67 = T → pLw tk sz 13 0 0 = pLw tk sz (13 - nr) nr j1 → RuV (ar1 70) (ar1 71) (ar1 73) l nr c1 tk sz j1 → (∀ x, x < 12 * l → ar1 73 x = ar 73 x) → Iv S sc1 ar1 → Fr [4934, 4935, 4937, 4938, 4939, 4940, 4941, 4942] [69, 70, 71, 73] sc ar sc1 ar1 → ag_To X (d + 31) an_X10_readLaw (6, [(0, .ref 49), (1, .int (nI nr))], [], gh S a b sc1 ar1 lo, ex, 0, 0) (qv S a b lo ex (fun sc' ar' => Iv S sc' ar' ∧ Fr [4934, 4935, 4937, 4938, 4939, 4940, 4941, 4942] [69, 70, 71, 73] sc ar sc' ar' ∧ (Kl ar ar' l ∧ (¬ sc' 4941 = 0 ∨ (sc' 4941 = 0 ∧ Ln ar' l)) ∧ ((sc' 4941 = 0 ∧ ∃ k, pLw tk sz 13 0 0 = .inl k) ∨ (¬ sc' 4941 = 0 ∧ ∃ k, pLw tk sz 13 0 0 = .inr k ∧ sc' 4942 = nI (pl k))) ∧ (∀ x, x < 12 * l → ar' 73 x = ar 73 x) ∧ (sc' 4941 = 0 → LnV ar' l tk sz)))) := by
    intro m
    induction m with
    | zero =>
      intro nr c1 B1 j1 sc1 ar1 hm hc6_0 hc6_1 hc6_2 hc6_3 hc6_4 hc6_5 hc6_6 hc6_7 hc6_8 hc6_9 hc6_10 hc6_11 hc6_12 hc6_13 hc6_14 hI1 hF1
      exfalso
      omega
    | succ m ih =>
      intro nr c1 B1 j1 sc1 ar1 hm hc6_0 hc6_1 hc6_2 hc6_3 hc6_4 hc6_5 hc6_6 hc6_7 hc6_8 hc6_9 hc6_10 hc6_11 hc6_12 hc6_13 hc6_14 hI1 hF1
      refine to_n 1 (fr' := (7, [(0, .ref 49), (1, .int (nI nr))], [.ref 49], gh S a b sc1 ar1 lo, ex, 0, 0)) rfl ?_
      refine to_getR (v := 0) rfl rfl rfl rfl hc6_3 ?_
      refine to_n 2 (fr' := (14, [(0, .ref 49), (1, .int (nI nr))], [.ref 49], gh S a b sc1 ar1 lo, ex, 0, 0)) rfl ?_
      refine to_getR (v := (sc1 4937)) rfl rfl rfl rfl rfl ?_
      refine to_if_eq (t := 147) rfl (fun q2 => ?_) (fun q2 => ?_)
      · refine to_n 1 (fr' := (148, [(0, .ref 49), (1, .int (nI nr))], [.ref 49], gh S a b sc1 ar1 lo, ex, 0, 0)) rfl ?_
        refine to_get rfl rfl rfl rfl ?_
        refine to_n 2 (fr' := (154, [(0, .ref 49), (1, .int (nI nr))], [.ref 49, .int 13, .ref 70], gh S a b sc1 ar1 lo, ex, 0, 0)) rfl ?_
        refine to_getR (v := (nI l)) rfl rfl rfl rfl hc6_2 ?_
        refine to_mulN (x := 13) (y := l) rfl ?_
        refine to_n 1 (fr' := (159, [(0, .ref 49), (1, .int (nI nr))], [.int (nI nr), .int (nI (13 * l)), .ref 70], gh S a b sc1 ar1 lo, ex, 0, 0)) rfl ?_
        refine to_addN (x := (13 * l)) (y := nr) rfl ?_
        refine to_n 1 (fr' := (161, [(0, .ref 49), (1, .int (nI nr))], [.ref 49, .int (nI ((13 * l) + nr)), .ref 70], gh S a b sc1 ar1 lo, ex, 0, 0)) rfl ?_
        refine to_getR (v := (nI c1)) rfl rfl rfl rfl hc6_0 ?_
        refine to_iasR (i := ((13 * l) + nr)) (h' := gh S a b sc1 (uA ar1 70 (upd (ar1 70) ((13 * l) + nr) (nI c1))) lo) rfl rfl (by omega) (by omega) rfl ?_
        have hI3 := ia_70 (i := ((13 * l) + nr)) (v := (nI c1)) hI1 (rl_n (n := c1) (by omega))
        have hF3 := fr_a (c := 70) (g := (upd (ar1 70) ((13 * l) + nr) (nI c1))) hF1 (by decide)
        have hk3s : ∀ x, x < 700 * l + c1 → (uA ar1 70 (upd (ar1 70) ((13 * l) + nr) (nI c1))) 71 x = ar1 71 x := (fun _ _ => rfl)
        have e3_70 : (uA ar1 70 (upd (ar1 70) ((13 * l) + nr) (nI c1))) 70 = (upd (ar1 70) ((13 * l) + nr) (nI c1)) := rfl
        have e3_69 : (uA ar1 70 (upd (ar1 70) ((13 * l) + nr) (nI c1))) 69 = (ar1 69) := rfl
        have e3_73 : (uA ar1 70 (upd (ar1 70) ((13 * l) + nr) (nI c1))) 73 = (ar1 73) := rfl
        refine to_n 1 (fr' := (166, [(0, .ref 49), (1, .int (nI nr))], [.ref 49], gh S a b sc1 (uA ar1 70 (upd (ar1 70) ((13 * l) + nr) (nI c1))) lo, ex, 0, 0)) rfl ?_
        refine to_get rfl rfl rfl rfl ?_
        refine to_n 1 (fr' := (170, [(0, .ref 49), (1, .int (nI nr))], [.ref 49, .ref 69], gh S a b sc1 (uA ar1 70 (upd (ar1 70) ((13 * l) + nr) (nI c1))) lo, ex, 0, 0)) rfl ?_
        refine to_getR (v := (nI l)) rfl rfl rfl rfl hc6_2 ?_
        refine to_n 1 (fr' := (174, [(0, .ref 49), (1, .int (nI nr))], [.int (nI nr), .int (nI l), .ref 69], gh S a b sc1 (uA ar1 70 (upd (ar1 70) ((13 * l) + nr) (nI c1))) lo, ex, 0, 0)) rfl ?_
        refine to_iasR (i := l) (h' := gh S a b sc1 (uA (uA ar1 70 (upd (ar1 70) ((13 * l) + nr) (nI c1))) 69 (upd ((uA ar1 70 (upd (ar1 70) ((13 * l) + nr) (nI c1))) 69) l (nI nr))) lo) rfl rfl (by omega) (by omega) rfl ?_
        have hI4 := ia_69 (i := l) (v := (nI nr)) hI3 (rl_n (n := nr) (by omega))
        have hF4 := fr_a (c := 69) (g := (upd ((uA ar1 70 (upd (ar1 70) ((13 * l) + nr) (nI c1))) 69) l (nI nr))) hF3 (by decide)
        have hk4s : ∀ x, x < 700 * l + c1 → (uA (uA ar1 70 (upd (ar1 70) ((13 * l) + nr) (nI c1))) 69 (upd ((uA ar1 70 (upd (ar1 70) ((13 * l) + nr) (nI c1))) 69) l (nI nr))) 71 x = ar1 71 x := hk3s
        have e4_70 : (uA (uA ar1 70 (upd (ar1 70) ((13 * l) + nr) (nI c1))) 69 (upd ((uA ar1 70 (upd (ar1 70) ((13 * l) + nr) (nI c1))) 69) l (nI nr))) 70 = (upd (ar1 70) ((13 * l) + nr) (nI c1)) := e3_70
        have e4_69 : (uA (uA ar1 70 (upd (ar1 70) ((13 * l) + nr) (nI c1))) 69 (upd ((uA ar1 70 (upd (ar1 70) ((13 * l) + nr) (nI c1))) 69) l (nI nr))) 69 = (upd (ar1 69) l (nI nr)) := by rw [← e3_69]; rfl
        have e4_73 : (uA (uA ar1 70 (upd (ar1 70) ((13 * l) + nr) (nI c1))) 69 (upd ((uA ar1 70 (upd (ar1 70) ((13 * l) + nr) (nI c1))) 69) l (nI nr))) 73 = (ar1 73) := e3_73
        exact to_rt (i := .return_) (tg := []) rfl rfl ⟨_, _, ⟨hI4, hF4, ⟨⟨(fun x w => (hk4s x (by omega)).trans (hc6_7.1 x w)), (fun x w => by rw [e4_70]; exact ((up_ne (by omega)).trans (hc6_7.2.1 x w))), (fun x w => by rw [e4_69]; exact ((up_ne (by omega)).trans (hc6_7.2.2 x w)))⟩, Or.inr ⟨hc6_3, ln_of hc6_8 e4_70 e4_69 (by omega) (by omega)⟩, Or.inl ⟨hc6_3, j1, (hc6_12.trans (by rw [show 13 - nr = (12 - nr) + 1 by omega]; simp only [pLw, if_pos ((ob_0 hsm hc6_10).mp q2)]))⟩, (fun x w => by rw [e4_73]; exact (hc6_14 x w)), fun _ => lnv_of (ruv_c hc6_13 e4_73) e4_70 e4_69 (by omega) (by omega) (by omega) ((ob_0 hsm hc6_10).mp q2)⟩⟩, rfl⟩
      · refine to_n 2 (fr' := (23, [(0, .ref 49), (1, .int (nI nr))], [.ref 1000031, .ref 49], gh S a b sc1 ar1 lo, ex, 0, 0)) rfl ?_
        refine to_cp (q := 123) (M1 := an_X10_isWord) (rest := []) rfl rfl (by decide) rfl ⟨_, rfl⟩ (iw_X10_isWord hW hI1 30 (by omega) (pl j1) (en_ g sz n j1) (rs_le hsm hc6_10 hlen4) hc6_10.2.2.1 hc6_10.2.2.2.2.1 (d + 30)) (fun x5 hx5 => ?_)
        obtain ⟨⟨n5, hn5, rfl⟩, hp5⟩ := hx5
        rw [hc6_11, ob_w (x := (4, -13)) hsm hc6_10 (by decide) (by decide +kernel)] at hp5
        refine to_eq (fr' := (26, [(0, .ref 49), (1, .int (nI nr))], [.int (nI n5)], gh S a b sc1 ar1 lo, ex, 0, 0)) rfl ?_
        refine to_n 2 (fr' := (28, [(0, .ref 49), (1, .int (nI nr)), (2, .int (nI n5))], [.int (nI n5)], gh S a b sc1 ar1 lo, ex, 0, 0)) rfl ?_
        refine to_nf_ne (t := 48) (x := n5) rfl (by omega) (fun q6 => ?_) (fun q6 => ?_)
        · refine to_n 2 (fr' := (51, [(0, .ref 49), (1, .int (nI nr)), (2, .int (nI n5))], [.int 12, .int (nI nr)], gh S a b sc1 ar1 lo, ex, 0, 0)) rfl ?_
          refine to_nc_ne (t := 59) (x := nr) (y := 12) rfl (by omega) (by omega) (fun q7 => ?_) (fun q7 => ?_)
          · refine to_n 1 (fr' := (60, [(0, .ref 49), (1, .int (nI nr)), (2, .int (nI n5))], [.ref 49], gh S a b sc1 ar1 lo, ex, 0, 0)) rfl ?_
            refine to_getR (v := 0) rfl rfl rfl rfl hc6_3 ?_
            refine to_n 2 (fr' := (68, [(0, .ref 49), (1, .int (nI nr)), (2, .int (nI n5))], [.ref 49], gh S a b sc1 ar1 lo, ex, 0, 0)) rfl ?_
            refine to_get rfl rfl rfl rfl ?_
            refine to_n 2 (fr' := (74, [(0, .ref 49), (1, .int (nI nr)), (2, .int (nI n5))], [.ref 49, .int 12, .ref 73], gh S a b sc1 ar1 lo, ex, 0, 0)) rfl ?_
            refine to_getR (v := (nI l)) rfl rfl rfl rfl hc6_2 ?_
            refine to_mulN (x := 12) (y := l) rfl ?_
            refine to_n 1 (fr' := (79, [(0, .ref 49), (1, .int (nI nr)), (2, .int (nI n5))], [.int (nI nr), .int (nI (12 * l)), .ref 73], gh S a b sc1 ar1 lo, ex, 0, 0)) rfl ?_
            refine to_addN (x := (12 * l)) (y := nr) rfl ?_
            refine to_n 1 (fr' := (81, [(0, .ref 49), (1, .int (nI nr)), (2, .int (nI n5))], [.int (nI n5), .int (nI ((12 * l) + nr)), .ref 73], gh S a b sc1 ar1 lo, ex, 0, 0)) rfl ?_
            refine to_zasR (i := ((12 * l) + nr)) (h' := gh S a b sc1 (uA ar1 73 (upd (ar1 73) ((12 * l) + nr) (vp_nar .boolean (nI n5)))) lo) rfl rfl (by omega) (by omega) rfl ?_
            have hI8 := ia_73 (g := (upd (ar1 73) ((12 * l) + nr) (vp_nar .boolean (nI n5)))) hI1
            have hF8 := fr_a (c := 73) (g := (upd (ar1 73) ((12 * l) + nr) (vp_nar .boolean (nI n5)))) hF1 (by decide)
            have hk8s : ∀ x, x < 700 * l + c1 → (uA ar1 73 (upd (ar1 73) ((12 * l) + nr) (vp_nar .boolean (nI n5)))) 71 x = ar1 71 x := (fun _ _ => rfl)
            have e8_70 : (uA ar1 73 (upd (ar1 73) ((12 * l) + nr) (vp_nar .boolean (nI n5)))) 70 = (ar1 70) := rfl
            have e8_69 : (uA ar1 73 (upd (ar1 73) ((12 * l) + nr) (vp_nar .boolean (nI n5)))) 69 = (ar1 69) := rfl
            have e8_73 : (uA ar1 73 (upd (ar1 73) ((12 * l) + nr) (vp_nar .boolean (nI n5)))) 73 = (upd (ar1 73) ((12 * l) + nr) (vp_nar .boolean (nI n5))) := rfl
            refine to_n 1 (fr' := (83, [(0, .ref 49), (1, .int (nI nr)), (2, .int (nI n5))], [.ref 49], gh S a b sc1 (uA ar1 73 (upd (ar1 73) ((12 * l) + nr) (vp_nar .boolean (nI n5)))) lo, ex, 0, 0)) rfl ?_
            refine to_get rfl rfl rfl rfl ?_
            refine to_n 2 (fr' := (89, [(0, .ref 49), (1, .int (nI nr)), (2, .int (nI n5))], [.ref 49, .int 13, .ref 70], gh S a b sc1 (uA ar1 73 (upd (ar1 73) ((12 * l) + nr) (vp_nar .boolean (nI n5)))) lo, ex, 0, 0)) rfl ?_
            refine to_getR (v := (nI l)) rfl rfl rfl rfl hc6_2 ?_
            refine to_mulN (x := 13) (y := l) rfl ?_
            refine to_n 1 (fr' := (94, [(0, .ref 49), (1, .int (nI nr)), (2, .int (nI n5))], [.int (nI nr), .int (nI (13 * l)), .ref 70], gh S a b sc1 (uA ar1 73 (upd (ar1 73) ((12 * l) + nr) (vp_nar .boolean (nI n5)))) lo, ex, 0, 0)) rfl ?_
            refine to_addN (x := (13 * l)) (y := nr) rfl ?_
            refine to_n 1 (fr' := (96, [(0, .ref 49), (1, .int (nI nr)), (2, .int (nI n5))], [.ref 49, .int (nI ((13 * l) + nr)), .ref 70], gh S a b sc1 (uA ar1 73 (upd (ar1 73) ((12 * l) + nr) (vp_nar .boolean (nI n5)))) lo, ex, 0, 0)) rfl ?_
            refine to_getR (v := (nI c1)) rfl rfl rfl rfl hc6_0 ?_
            refine to_iasR (i := ((13 * l) + nr)) (h' := gh S a b sc1 (uA (uA ar1 73 (upd (ar1 73) ((12 * l) + nr) (vp_nar .boolean (nI n5)))) 70 (upd ((uA ar1 73 (upd (ar1 73) ((12 * l) + nr) (vp_nar .boolean (nI n5)))) 70) ((13 * l) + nr) (nI c1))) lo) rfl rfl (by omega) (by omega) rfl ?_
            have hI9 := ia_70 (i := ((13 * l) + nr)) (v := (nI c1)) hI8 (rl_n (n := c1) (by omega))
            have hF9 := fr_a (c := 70) (g := (upd ((uA ar1 73 (upd (ar1 73) ((12 * l) + nr) (vp_nar .boolean (nI n5)))) 70) ((13 * l) + nr) (nI c1))) hF8 (by decide)
            have hk9s : ∀ x, x < 700 * l + c1 → (uA (uA ar1 73 (upd (ar1 73) ((12 * l) + nr) (vp_nar .boolean (nI n5)))) 70 (upd ((uA ar1 73 (upd (ar1 73) ((12 * l) + nr) (vp_nar .boolean (nI n5)))) 70) ((13 * l) + nr) (nI c1))) 71 x = ar1 71 x := hk8s
            have e9_70 : (uA (uA ar1 73 (upd (ar1 73) ((12 * l) + nr) (vp_nar .boolean (nI n5)))) 70 (upd ((uA ar1 73 (upd (ar1 73) ((12 * l) + nr) (vp_nar .boolean (nI n5)))) 70) ((13 * l) + nr) (nI c1))) 70 = (upd (ar1 70) ((13 * l) + nr) (nI c1)) := by rw [← e8_70]; rfl
            have e9_69 : (uA (uA ar1 73 (upd (ar1 73) ((12 * l) + nr) (vp_nar .boolean (nI n5)))) 70 (upd ((uA ar1 73 (upd (ar1 73) ((12 * l) + nr) (vp_nar .boolean (nI n5)))) 70) ((13 * l) + nr) (nI c1))) 69 = (ar1 69) := e8_69
            have e9_73 : (uA (uA ar1 73 (upd (ar1 73) ((12 * l) + nr) (vp_nar .boolean (nI n5)))) 70 (upd ((uA ar1 73 (upd (ar1 73) ((12 * l) + nr) (vp_nar .boolean (nI n5)))) 70) ((13 * l) + nr) (nI c1))) 73 = (upd (ar1 73) ((12 * l) + nr) (vp_nar .boolean (nI n5))) := e8_73
            refine to_n 1 (fr' := (103, [(0, .ref 49), (1, .int ((nI nr) + 1)), (2, .int (nI n5))], [], gh S a b sc1 (uA (uA ar1 73 (upd (ar1 73) ((12 * l) + nr) (vp_nar .boolean (nI n5)))) 70 (upd ((uA ar1 73 (upd (ar1 73) ((12 * l) + nr) (vp_nar .boolean (nI n5)))) 70) ((13 * l) + nr) (nI c1))) lo, ex, 0, 0)) rfl ?_
            rw [nI_1 nr]
            refine to_n 1 (fr' := (104, [(0, .ref 49), (1, .int (nI (nr + 1))), (2, .int (nI n5))], [.ref 49], gh S a b sc1 (uA (uA ar1 73 (upd (ar1 73) ((12 * l) + nr) (vp_nar .boolean (nI n5)))) 70 (upd ((uA ar1 73 (upd (ar1 73) ((12 * l) + nr) (vp_nar .boolean (nI n5)))) 70) ((13 * l) + nr) (nI c1))) lo, ex, 0, 0)) rfl ?_
            refine to_cv (q := 122) (M1 := an_X10_step) (rest := []) rfl rfl (by decide) rfl ⟨_, rfl⟩ (st_nextx hW hI9 hc6_1 (by omega) hc6_4 (ob_no hsm hc6_10 (or_t hp5 q6 hn5) (by decide)) hsm hlen4 hne hc6_11 hc6_10 (d + 29)) (fun sc10 ar10 hx10 => ?_)
            obtain ⟨hI10, hG10, hz10, ⟨B10, eB10, hB10, hC10⟩, rs10⟩ := hx10
            have t10 : ar10 67 = T := (hG10.2 67 (by decide)).trans hc6_11
            have k10_4907 : sc10 4907 = (nI l) := (hG10.1 4907 (by decide)).trans hc6_2
            have k10_4934 : sc10 4934 = (nI c1) := (hG10.1 4934 (by decide)).trans hc6_0
            have k10_4941 : sc10 4941 = 0 := (hG10.1 4941 (by decide)).trans hc6_3
            have hk10 : ∀ x, x < 700 * l + c1 → ar10 71 x = ar1 71 x := kp_st hk9s hG10 (by decide)
            have hF10 := fr_t hF9 hG10 (by decide) (by decide)
            have e10_70 : ar10 70 = (upd (ar1 70) ((13 * l) + nr) (nI c1)) := (hG10.2 70 (by decide)).trans e9_70
            have e10_69 : ar10 69 = (ar1 69) := (hG10.2 69 (by decide)).trans e9_69
            have e10_73 : ar10 73 = (upd (ar1 73) ((12 * l) + nr) (vp_nar .boolean (nI n5))) := (hG10.2 73 (by decide)).trans e9_73
            refine to_eq (fr' := (107, [(0, .ref 49), (1, .int (nI (nr + 1))), (2, .int (nI n5))], [], gh S a b sc10 ar10 lo, ex, 0, 0)) rfl ?_
            refine to_n 2 (fr' := (109, [(0, .ref 49), (1, .int (nI (nr + 1))), (2, .int (nI n5))], [.int 0, .ref 49], gh S a b sc10 ar10 lo, ex, 0, 0)) rfl ?_
            refine to_cv (q := 128) (M1 := an_X10_readExpression) (rest := []) rfl rfl (by decide) rfl ⟨_, rfl⟩ (rx_expr hW hsm hlen4 hne (d + 1) sc10 ar10 l c1 3 B10 (ad_ sz j1) hI10 (by omega) k10_4907 k10_4934 eB10 (by omega) k10_4941 hz10 (by omega) t10 rs10) (fun sc11 ar11 hx11 => ?_)
            obtain ⟨hI11, hG11, hu11, hr11, hy11, hd11⟩ := hx11
            have k11_4907 : sc11 4907 = nI l := (hG11.1 4907 (by decide)).trans k10_4907
            have hk11 : ∀ x, x < 700 * l + c1 → ar11 71 x = ar1 71 x := fun x w => (hu11 x (by omega)).trans (hk10 x w)
            have hF11 := fr_t hF10 hG11 (by decide) (by decide)
            have t11 : ar11 67 = T := (hG11.2 67 (by decide)).trans t10
            have e11_70 : ar11 70 = (upd (ar1 70) ((13 * l) + nr) (nI c1)) := (hG11.2 70 (by decide)).trans e10_70
            have e11_69 : ar11 69 = (ar1 69) := (hG11.2 69 (by decide)).trans e10_69
            have e11_73 : ar11 73 = (upd (ar1 73) ((12 * l) + nr) (vp_nar .boolean (nI n5))) := (hG11.2 73 (by decide)).trans e10_73
            rcases hy11 with ⟨hb11, k11, ey11, rs11⟩ | ⟨hb11, k11, ey11, bp11⟩
            · rcases hr11 with hbb11 | ⟨-, hz11, c11, B11, ec11, eB11, hcc11, hBB11, hB11, hpo11, sg11⟩
              · exact absurd hb11 hbb11
              · have sd11 := hd11 hb11 c11 (by omega) ec11
                refine to_eq (fr' := (112, [(0, .ref 49), (1, .int (nI (nr + 1))), (2, .int (nI n5))], [], gh S a b sc11 ar11 lo, ex, 0, 0)) rfl ?_
                refine to_n 1 (fr' := (113, [(0, .ref 49), (1, .int (nI (nr + 1))), (2, .int (nI n5))], [.ref 49], gh S a b sc11 ar11 lo, ex, 0, 0)) rfl ?_
                refine to_getR (v := 0) rfl rfl rfl rfl hb11 ?_
                refine to_n 3 (fr' := (122, [(0, .ref 49), (1, .int (nI (nr + 1))), (2, .int (nI n5))], [.int 59, .ref 49], gh S a b sc11 ar11 lo, ex, 0, 0)) rfl ?_
                refine to_cp (q := 124) (M1 := an_X10_isSign) (rest := []) rfl rfl (by decide) rfl ⟨_, rfl⟩ (is_X10_isSign hW hI11 59 (d + 30)) (fun x12 hx12 => ?_)
                obtain ⟨⟨n12, hn12, rfl⟩, hp12⟩ := hx12
                rw [ob_s (x := (59, -6)) hsm rs11 (by decide)] at hp12
                refine to_eq (fr' := (125, [(0, .ref 49), (1, .int (nI (nr + 1))), (2, .int (nI n5))], [.int (nI n12)], gh S a b sc11 ar11 lo, ex, 0, 0)) rfl ?_
                refine to_nf_ne (t := 133) (x := n12) rfl (by omega) (fun q13 => ?_) (fun q13 => ?_)
                · refine to_n 1 (fr' := (134, [(0, .ref 49), (1, .int (nI (nr + 1))), (2, .int (nI n5))], [.ref 49], gh S a b sc11 ar11 lo, ex, 0, 0)) rfl ?_
                  refine to_getR (v := 0) rfl rfl rfl rfl hb11 ?_
                  refine to_n 2 (fr' := (141, [(0, .ref 49), (1, .int (nI (nr + 1))), (2, .int (nI n5))], [.ref 49], gh S a b sc11 ar11 lo, ex, 0, 0)) rfl ?_
                  refine to_cv (q := 122) (M1 := an_X10_step) (rest := []) rfl rfl (by decide) rfl ⟨_, rfl⟩ (st_nextx hW hI11 eB11 (by omega) hz11 (ob_no hsm rs11 (or_t hp12 q13 hn12) (by decide)) hsm hlen4 hne t11 rs11 (d + 29)) (fun sc14 ar14 hx14 => ?_)
                  obtain ⟨hI14, hG14, hz14, ⟨B14, eB14, hB14, hC14⟩, rs14⟩ := hx14
                  have t14 : ar14 67 = T := (hG14.2 67 (by decide)).trans t11
                  have k14_4907 : sc14 4907 = (nI l) := (hG14.1 4907 (by decide)).trans k11_4907
                  have k14_4934 : sc14 4934 = (nI c11) := (hG14.1 4934 (by decide)).trans ec11
                  have k14_4941 : sc14 4941 = 0 := (hG14.1 4941 (by decide)).trans hb11
                  have hk14 : ∀ x, x < 700 * l + c1 → ar14 71 x = ar1 71 x := kp_st hk11 hG14 (by decide)
                  have sg14_0 := sg_st sg11 hG14 (by decide)
                  have sd14_0 := sgr_st sd11 hG14 (by decide)
                  have hF14 := fr_t hF11 hG14 (by decide) (by decide)
                  have e14_70 : ar14 70 = (upd (ar1 70) ((13 * l) + nr) (nI c1)) := (hG14.2 70 (by decide)).trans e11_70
                  have e14_69 : ar14 69 = (ar1 69) := (hG14.2 69 (by decide)).trans e11_69
                  have e14_73 : ar14 73 = (upd (ar1 73) ((12 * l) + nr) (vp_nar .boolean (nI n5))) := (hG14.2 73 (by decide)).trans e11_73
                  refine to_eq (fr' := (144, [(0, .ref 49), (1, .int (nI (nr + 1))), (2, .int (nI n5))], [], gh S a b sc14 ar14 lo, ex, 0, 0)) rfl ?_
                  refine to_n 1 (fr' := (6, [(0, .ref 49), (1, .int (nI (nr + 1))), (2, .int (nI n5))], [], gh S a b sc14 ar14 lo, ex, 0, 0)) rfl ?_
                  refine to_lv (lv := [(0, .ref 49), (1, .int (nI (nr + 1)))]) rfl ⟨rfl, rfl, trivial⟩ ?_
                  exact ih (nr + 1) c11 B14 (ad_ sz k11) sc14 ar14 (by omega) k14_4934 eB14 k14_4907 k14_4941 hz14 (by omega) (by omega) ⟨(fun x w => (hk14 x (by omega)).trans (hc6_7.1 x w)), (fun x w => by rw [e14_70]; exact ((up_ne (by omega)).trans (hc6_7.2.1 x w))), (fun x w => by rw [e14_69]; exact (hc6_7.2.2 x w))⟩ (by rw [e14_70]; exact ru_put hc6_8 hk14 sg14_0 (by omega) (by omega) (by omega)) (by omega) rs14 t14 (hc6_12.trans (by rw [show 13 - nr = (13 - (nr + 1)) + 1 by omega]; simp only [pLw, if_neg (fun w => q2 ((ob_0 hsm hc6_10).mpr w)), pRl, if_pos (Or.inr (or_t hp5 q6 hn5) : tk j1 = -12 ∨ tk j1 = -13), if_pos (show nr < 12 by omega), ey11, if_pos (or_t hp12 q13 hn12)])) (ruv_put hc6_13 hk14 sd14_0 (by omega) e14_70 e14_73 (Or.inr ⟨or_t hp5 q6 hn5, by rw [show n5 = 1 by omega]; rfl⟩) (fun kn s => by rw [show 13 - nr = (13 - (nr + 1)) + 1 by omega]; simp only [vLw, if_neg (fun w => q2 ((ob_0 hsm hc6_10).mpr w)), (show pRl tk sz nr j1 = .inl (ad_ sz k11) from by simp only [pRl, if_pos (Or.inr (or_t hp5 q6 hn5) : tk j1 = -12 ∨ tk j1 = -13), if_pos (show nr < 12 by omega), ey11, if_pos (or_t hp12 q13 hn12)])])) (fun x w => by rw [e14_73]; exact ((up_ne (by omega)).trans (hc6_14 x w))) hI14 hF14
                · refine to_n 2 (fr' := (130, [(0, .ref 49), (1, .int (nI (nr + 1))), (2, .int (nI n5))], [.int 1, .ref 49], gh S a b sc11 ar11 lo, ex, 0, 0)) rfl ?_
                  refine to_cv (q := 125) (M1 := an_X10_wrong) (rest := []) rfl rfl (by decide) rfl ⟨_, rfl⟩ (sf_X10_wrong hW hI11 1 (d + 30)) (fun sc15 ar15 hx15 => ?_)
                  obtain ⟨hI15, hG15, hx15⟩ := hx15
                  have hb15 := hx15.1 (by decide)
                  have bp15 : sc15 4942 = nI (pl k11) := (hx15.2 hb11).trans rs11.2.2.1
                  have k15_4907 : sc15 4907 = (nI l) := (hG15.1 4907 (by decide)).trans k11_4907
                  have k15_4934 : sc15 4934 = (nI c11) := (hG15.1 4934 (by decide)).trans ec11
                  have k15_4939 : sc15 4939 = (nI B11) := (hG15.1 4939 (by decide)).trans eB11
                  have hk15 : ∀ x, x < 700 * l + c1 → ar15 71 x = ar1 71 x := kp_st hk11 hG15 (by decide)
                  have sg15_0 := sg_st sg11 hG15 (by decide)
                  have sd15_0 := sgr_st sd11 hG15 (by decide)
                  have hF15 := fr_t hF11 hG15 (by decide) (by decide)
                  have e15_70 : ar15 70 = (upd (ar1 70) ((13 * l) + nr) (nI c1)) := (hG15.2 70 (by decide)).trans e11_70
                  have e15_69 : ar15 69 = (ar1 69) := (hG15.2 69 (by decide)).trans e11_69
                  have e15_73 : ar15 73 = (upd (ar1 73) ((12 * l) + nr) (vp_nar .boolean (nI n5))) := (hG15.2 73 (by decide)).trans e11_73
                  refine to_eq (fr' := (133, [(0, .ref 49), (1, .int (nI (nr + 1))), (2, .int (nI n5))], [], gh S a b sc15 ar15 lo, ex, 0, 0)) rfl ?_
                  refine to_n 1 (fr' := (134, [(0, .ref 49), (1, .int (nI (nr + 1))), (2, .int (nI n5))], [.ref 49], gh S a b sc15 ar15 lo, ex, 0, 0)) rfl ?_
                  refine to_getR (v := (sc15 4941)) rfl rfl rfl rfl rfl ?_
                  refine to_if_ne_T (t := 144) rfl hb15 ?_
                  refine to_n 2 (fr' := (7, [(0, .ref 49), (1, .int (nI (nr + 1))), (2, .int (nI n5))], [.ref 49], gh S a b sc15 ar15 lo, ex, 0, 0)) rfl ?_
                  refine to_getR (v := (sc15 4941)) rfl rfl rfl rfl rfl ?_
                  refine to_if_ne_T (t := 147) rfl hb15 ?_
                  refine to_n 1 (fr' := (148, [(0, .ref 49), (1, .int (nI (nr + 1))), (2, .int (nI n5))], [.ref 49], gh S a b sc15 ar15 lo, ex, 0, 0)) rfl ?_
                  refine to_get rfl rfl rfl rfl ?_
                  refine to_n 2 (fr' := (154, [(0, .ref 49), (1, .int (nI (nr + 1))), (2, .int (nI n5))], [.ref 49, .int 13, .ref 70], gh S a b sc15 ar15 lo, ex, 0, 0)) rfl ?_
                  refine to_getR (v := (nI l)) rfl rfl rfl rfl k15_4907 ?_
                  refine to_mulN (x := 13) (y := l) rfl ?_
                  refine to_n 1 (fr' := (159, [(0, .ref 49), (1, .int (nI (nr + 1))), (2, .int (nI n5))], [.int (nI (nr + 1)), .int (nI (13 * l)), .ref 70], gh S a b sc15 ar15 lo, ex, 0, 0)) rfl ?_
                  refine to_addN (x := (13 * l)) (y := (nr + 1)) rfl ?_
                  refine to_n 1 (fr' := (161, [(0, .ref 49), (1, .int (nI (nr + 1))), (2, .int (nI n5))], [.ref 49, .int (nI ((13 * l) + (nr + 1))), .ref 70], gh S a b sc15 ar15 lo, ex, 0, 0)) rfl ?_
                  refine to_getR (v := (nI c11)) rfl rfl rfl rfl k15_4934 ?_
                  refine to_iasR (i := ((13 * l) + (nr + 1))) (h' := gh S a b sc15 (uA ar15 70 (upd (ar15 70) ((13 * l) + (nr + 1)) (nI c11))) lo) rfl rfl (by omega) (by omega) rfl ?_
                  have hI16 := ia_70 (i := ((13 * l) + (nr + 1))) (v := (nI c11)) hI15 (rl_n (n := c11) (by omega))
                  have hF16 := fr_a (c := 70) (g := (upd (ar15 70) ((13 * l) + (nr + 1)) (nI c11))) hF15 (by decide)
                  have hk16s : ∀ x, x < 700 * l + c1 → (uA ar15 70 (upd (ar15 70) ((13 * l) + (nr + 1)) (nI c11))) 71 x = ar1 71 x := hk15
                  have e16_70 : (uA ar15 70 (upd (ar15 70) ((13 * l) + (nr + 1)) (nI c11))) 70 = (upd (upd (ar1 70) ((13 * l) + nr) (nI c1)) ((13 * l) + (nr + 1)) (nI c11)) := by rw [← e15_70]; rfl
                  have e16_69 : (uA ar15 70 (upd (ar15 70) ((13 * l) + (nr + 1)) (nI c11))) 69 = (ar1 69) := e15_69
                  have e16_73 : (uA ar15 70 (upd (ar15 70) ((13 * l) + (nr + 1)) (nI c11))) 73 = (upd (ar1 73) ((12 * l) + nr) (vp_nar .boolean (nI n5))) := e15_73
                  refine to_n 1 (fr' := (166, [(0, .ref 49), (1, .int (nI (nr + 1))), (2, .int (nI n5))], [.ref 49], gh S a b sc15 (uA ar15 70 (upd (ar15 70) ((13 * l) + (nr + 1)) (nI c11))) lo, ex, 0, 0)) rfl ?_
                  refine to_get rfl rfl rfl rfl ?_
                  refine to_n 1 (fr' := (170, [(0, .ref 49), (1, .int (nI (nr + 1))), (2, .int (nI n5))], [.ref 49, .ref 69], gh S a b sc15 (uA ar15 70 (upd (ar15 70) ((13 * l) + (nr + 1)) (nI c11))) lo, ex, 0, 0)) rfl ?_
                  refine to_getR (v := (nI l)) rfl rfl rfl rfl k15_4907 ?_
                  refine to_n 1 (fr' := (174, [(0, .ref 49), (1, .int (nI (nr + 1))), (2, .int (nI n5))], [.int (nI (nr + 1)), .int (nI l), .ref 69], gh S a b sc15 (uA ar15 70 (upd (ar15 70) ((13 * l) + (nr + 1)) (nI c11))) lo, ex, 0, 0)) rfl ?_
                  refine to_iasR (i := l) (h' := gh S a b sc15 (uA (uA ar15 70 (upd (ar15 70) ((13 * l) + (nr + 1)) (nI c11))) 69 (upd ((uA ar15 70 (upd (ar15 70) ((13 * l) + (nr + 1)) (nI c11))) 69) l (nI (nr + 1)))) lo) rfl rfl (by omega) (by omega) rfl ?_
                  have hI17 := ia_69 (i := l) (v := (nI (nr + 1))) hI16 (rl_n (n := (nr + 1)) (by omega))
                  have hF17 := fr_a (c := 69) (g := (upd ((uA ar15 70 (upd (ar15 70) ((13 * l) + (nr + 1)) (nI c11))) 69) l (nI (nr + 1)))) hF16 (by decide)
                  have hk17s : ∀ x, x < 700 * l + c1 → (uA (uA ar15 70 (upd (ar15 70) ((13 * l) + (nr + 1)) (nI c11))) 69 (upd ((uA ar15 70 (upd (ar15 70) ((13 * l) + (nr + 1)) (nI c11))) 69) l (nI (nr + 1)))) 71 x = ar1 71 x := hk16s
                  have e17_70 : (uA (uA ar15 70 (upd (ar15 70) ((13 * l) + (nr + 1)) (nI c11))) 69 (upd ((uA ar15 70 (upd (ar15 70) ((13 * l) + (nr + 1)) (nI c11))) 69) l (nI (nr + 1)))) 70 = (upd (upd (ar1 70) ((13 * l) + nr) (nI c1)) ((13 * l) + (nr + 1)) (nI c11)) := e16_70
                  have e17_69 : (uA (uA ar15 70 (upd (ar15 70) ((13 * l) + (nr + 1)) (nI c11))) 69 (upd ((uA ar15 70 (upd (ar15 70) ((13 * l) + (nr + 1)) (nI c11))) 69) l (nI (nr + 1)))) 69 = (upd (ar1 69) l (nI (nr + 1))) := by rw [← e16_69]; rfl
                  have e17_73 : (uA (uA ar15 70 (upd (ar15 70) ((13 * l) + (nr + 1)) (nI c11))) 69 (upd ((uA ar15 70 (upd (ar15 70) ((13 * l) + (nr + 1)) (nI c11))) 69) l (nI (nr + 1)))) 73 = (upd (ar1 73) ((12 * l) + nr) (vp_nar .boolean (nI n5))) := e16_73
                  exact to_rt (i := .return_) (tg := []) rfl rfl ⟨_, _, ⟨hI17, hF17, ⟨⟨(fun x w => (hk17s x (by omega)).trans (hc6_7.1 x w)), (fun x w => by rw [e17_70]; exact ((up_ne (by omega)).trans ((up_ne (by omega)).trans (hc6_7.2.1 x w)))), (fun x w => by rw [e17_69]; exact ((up_ne (by omega)).trans (hc6_7.2.2 x w)))⟩, Or.inl hb15, Or.inr ⟨hb15, k11, (hc6_12.trans (by rw [show 13 - nr = (12 - nr) + 1 by omega]; simp only [pLw, if_neg (fun w => q2 ((ob_0 hsm hc6_10).mpr w)), pRl, if_pos (Or.inr (or_t hp5 q6 hn5) : tk j1 = -12 ∨ tk j1 = -13), if_pos (show nr < 12 by omega), ey11, if_neg (or_f hp12 q13)])), bp15⟩, (fun x w => by rw [e17_73]; exact ((up_ne (by omega)).trans (hc6_14 x w))), fun w => absurd w hb15⟩⟩, rfl⟩
            · refine to_eq (fr' := (112, [(0, .ref 49), (1, .int (nI (nr + 1))), (2, .int (nI n5))], [], gh S a b sc11 ar11 lo, ex, 0, 0)) rfl ?_
              refine to_n 1 (fr' := (113, [(0, .ref 49), (1, .int (nI (nr + 1))), (2, .int (nI n5))], [.ref 49], gh S a b sc11 ar11 lo, ex, 0, 0)) rfl ?_
              refine to_getR (v := (sc11 4941)) rfl rfl rfl rfl rfl ?_
              refine to_if_ne_T (t := 133) rfl hb11 ?_
              refine to_n 1 (fr' := (134, [(0, .ref 49), (1, .int (nI (nr + 1))), (2, .int (nI n5))], [.ref 49], gh S a b sc11 ar11 lo, ex, 0, 0)) rfl ?_
              refine to_getR (v := (sc11 4941)) rfl rfl rfl rfl rfl ?_
              refine to_if_ne_T (t := 144) rfl hb11 ?_
              refine to_n 2 (fr' := (7, [(0, .ref 49), (1, .int (nI (nr + 1))), (2, .int (nI n5))], [.ref 49], gh S a b sc11 ar11 lo, ex, 0, 0)) rfl ?_
              refine to_getR (v := (sc11 4941)) rfl rfl rfl rfl rfl ?_
              refine to_if_ne_T (t := 147) rfl hb11 ?_
              refine to_n 1 (fr' := (148, [(0, .ref 49), (1, .int (nI (nr + 1))), (2, .int (nI n5))], [.ref 49], gh S a b sc11 ar11 lo, ex, 0, 0)) rfl ?_
              refine to_get rfl rfl rfl rfl ?_
              refine to_n 2 (fr' := (154, [(0, .ref 49), (1, .int (nI (nr + 1))), (2, .int (nI n5))], [.ref 49, .int 13, .ref 70], gh S a b sc11 ar11 lo, ex, 0, 0)) rfl ?_
              refine to_getR (v := (nI l)) rfl rfl rfl rfl k11_4907 ?_
              refine to_mulN (x := 13) (y := l) rfl ?_
              refine to_n 1 (fr' := (159, [(0, .ref 49), (1, .int (nI (nr + 1))), (2, .int (nI n5))], [.int (nI (nr + 1)), .int (nI (13 * l)), .ref 70], gh S a b sc11 ar11 lo, ex, 0, 0)) rfl ?_
              refine to_addN (x := (13 * l)) (y := (nr + 1)) rfl ?_
              refine to_n 1 (fr' := (161, [(0, .ref 49), (1, .int (nI (nr + 1))), (2, .int (nI n5))], [.ref 49, .int (nI ((13 * l) + (nr + 1))), .ref 70], gh S a b sc11 ar11 lo, ex, 0, 0)) rfl ?_
              obtain ⟨n18, hn18, e18⟩ := iv_s4934 hI11
              refine to_getR (v := (nI n18)) rfl rfl rfl rfl e18 ?_
              refine to_iasR (i := ((13 * l) + (nr + 1))) (h' := gh S a b sc11 (uA ar11 70 (upd (ar11 70) ((13 * l) + (nr + 1)) (nI n18))) lo) rfl rfl (by omega) (by omega) rfl ?_
              have hI19 := ia_70 (i := ((13 * l) + (nr + 1))) (v := (nI n18)) hI11 (rl_n (n := n18) (by omega))
              have hF19 := fr_a (c := 70) (g := (upd (ar11 70) ((13 * l) + (nr + 1)) (nI n18))) hF11 (by decide)
              have hk19s : ∀ x, x < 700 * l + c1 → (uA ar11 70 (upd (ar11 70) ((13 * l) + (nr + 1)) (nI n18))) 71 x = ar1 71 x := hk11
              have e19_70 : (uA ar11 70 (upd (ar11 70) ((13 * l) + (nr + 1)) (nI n18))) 70 = (upd (upd (ar1 70) ((13 * l) + nr) (nI c1)) ((13 * l) + (nr + 1)) (nI n18)) := by rw [← e11_70]; rfl
              have e19_69 : (uA ar11 70 (upd (ar11 70) ((13 * l) + (nr + 1)) (nI n18))) 69 = (ar1 69) := e11_69
              have e19_73 : (uA ar11 70 (upd (ar11 70) ((13 * l) + (nr + 1)) (nI n18))) 73 = (upd (ar1 73) ((12 * l) + nr) (vp_nar .boolean (nI n5))) := e11_73
              refine to_n 1 (fr' := (166, [(0, .ref 49), (1, .int (nI (nr + 1))), (2, .int (nI n5))], [.ref 49], gh S a b sc11 (uA ar11 70 (upd (ar11 70) ((13 * l) + (nr + 1)) (nI n18))) lo, ex, 0, 0)) rfl ?_
              refine to_get rfl rfl rfl rfl ?_
              refine to_n 1 (fr' := (170, [(0, .ref 49), (1, .int (nI (nr + 1))), (2, .int (nI n5))], [.ref 49, .ref 69], gh S a b sc11 (uA ar11 70 (upd (ar11 70) ((13 * l) + (nr + 1)) (nI n18))) lo, ex, 0, 0)) rfl ?_
              refine to_getR (v := (nI l)) rfl rfl rfl rfl k11_4907 ?_
              refine to_n 1 (fr' := (174, [(0, .ref 49), (1, .int (nI (nr + 1))), (2, .int (nI n5))], [.int (nI (nr + 1)), .int (nI l), .ref 69], gh S a b sc11 (uA ar11 70 (upd (ar11 70) ((13 * l) + (nr + 1)) (nI n18))) lo, ex, 0, 0)) rfl ?_
              refine to_iasR (i := l) (h' := gh S a b sc11 (uA (uA ar11 70 (upd (ar11 70) ((13 * l) + (nr + 1)) (nI n18))) 69 (upd ((uA ar11 70 (upd (ar11 70) ((13 * l) + (nr + 1)) (nI n18))) 69) l (nI (nr + 1)))) lo) rfl rfl (by omega) (by omega) rfl ?_
              have hI20 := ia_69 (i := l) (v := (nI (nr + 1))) hI19 (rl_n (n := (nr + 1)) (by omega))
              have hF20 := fr_a (c := 69) (g := (upd ((uA ar11 70 (upd (ar11 70) ((13 * l) + (nr + 1)) (nI n18))) 69) l (nI (nr + 1)))) hF19 (by decide)
              have hk20s : ∀ x, x < 700 * l + c1 → (uA (uA ar11 70 (upd (ar11 70) ((13 * l) + (nr + 1)) (nI n18))) 69 (upd ((uA ar11 70 (upd (ar11 70) ((13 * l) + (nr + 1)) (nI n18))) 69) l (nI (nr + 1)))) 71 x = ar1 71 x := hk19s
              have e20_70 : (uA (uA ar11 70 (upd (ar11 70) ((13 * l) + (nr + 1)) (nI n18))) 69 (upd ((uA ar11 70 (upd (ar11 70) ((13 * l) + (nr + 1)) (nI n18))) 69) l (nI (nr + 1)))) 70 = (upd (upd (ar1 70) ((13 * l) + nr) (nI c1)) ((13 * l) + (nr + 1)) (nI n18)) := e19_70
              have e20_69 : (uA (uA ar11 70 (upd (ar11 70) ((13 * l) + (nr + 1)) (nI n18))) 69 (upd ((uA ar11 70 (upd (ar11 70) ((13 * l) + (nr + 1)) (nI n18))) 69) l (nI (nr + 1)))) 69 = (upd (ar1 69) l (nI (nr + 1))) := by rw [← e19_69]; rfl
              have e20_73 : (uA (uA ar11 70 (upd (ar11 70) ((13 * l) + (nr + 1)) (nI n18))) 69 (upd ((uA ar11 70 (upd (ar11 70) ((13 * l) + (nr + 1)) (nI n18))) 69) l (nI (nr + 1)))) 73 = (upd (ar1 73) ((12 * l) + nr) (vp_nar .boolean (nI n5))) := e19_73
              exact to_rt (i := .return_) (tg := []) rfl rfl ⟨_, _, ⟨hI20, hF20, ⟨⟨(fun x w => (hk20s x (by omega)).trans (hc6_7.1 x w)), (fun x w => by rw [e20_70]; exact ((up_ne (by omega)).trans ((up_ne (by omega)).trans (hc6_7.2.1 x w)))), (fun x w => by rw [e20_69]; exact ((up_ne (by omega)).trans (hc6_7.2.2 x w)))⟩, Or.inl hb11, Or.inr ⟨hb11, k11, (hc6_12.trans (by rw [show 13 - nr = (12 - nr) + 1 by omega]; simp only [pLw, if_neg (fun w => q2 ((ob_0 hsm hc6_10).mpr w)), pRl, if_pos (Or.inr (or_t hp5 q6 hn5) : tk j1 = -12 ∨ tk j1 = -13), if_pos (show nr < 12 by omega), ey11])), bp11⟩, (fun x w => by rw [e20_73]; exact ((up_ne (by omega)).trans (hc6_14 x w))), fun w => absurd w hb11⟩⟩, rfl⟩
          · refine to_n 2 (fr' := (56, [(0, .ref 49), (1, .int (nI nr)), (2, .int (nI n5))], [.int 2, .ref 49], gh S a b sc1 ar1 lo, ex, 0, 0)) rfl ?_
            refine to_cv (q := 125) (M1 := an_X10_wrong) (rest := []) rfl rfl (by decide) rfl ⟨_, rfl⟩ (sf_X10_wrong hW hI1 2 (d + 30)) (fun sc21 ar21 hx21 => ?_)
            obtain ⟨hI21, hG21, hx21⟩ := hx21
            have hb21 := hx21.1 (by decide)
            have bp21 : sc21 4942 = nI (pl j1) := (hx21.2 hc6_3).trans hc6_10.2.2.1
            have k21_4907 : sc21 4907 = (nI l) := (hG21.1 4907 (by decide)).trans hc6_2
            have k21_4934 : sc21 4934 = (nI c1) := (hG21.1 4934 (by decide)).trans hc6_0
            have k21_4939 : sc21 4939 = (nI B1) := (hG21.1 4939 (by decide)).trans hc6_1
            have hk21 : ∀ x, x < 700 * l + c1 → ar21 71 x = ar1 71 x := kp_st (fun _ _ => rfl) hG21 (by decide)
            have hF21 := fr_t hF1 hG21 (by decide) (by decide)
            have e21_70 : ar21 70 = (ar1 70) := (hG21.2 70 (by decide)).trans rfl
            have e21_69 : ar21 69 = (ar1 69) := (hG21.2 69 (by decide)).trans rfl
            have e21_73 : ar21 73 = (ar1 73) := (hG21.2 73 (by decide)).trans rfl
            refine to_eq (fr' := (59, [(0, .ref 49), (1, .int (nI nr)), (2, .int (nI n5))], [], gh S a b sc21 ar21 lo, ex, 0, 0)) rfl ?_
            refine to_n 1 (fr' := (60, [(0, .ref 49), (1, .int (nI nr)), (2, .int (nI n5))], [.ref 49], gh S a b sc21 ar21 lo, ex, 0, 0)) rfl ?_
            refine to_getR (v := (sc21 4941)) rfl rfl rfl rfl rfl ?_
            refine to_if_eq_F (t := 67) rfl hb21 ?_
            exact to_rt (i := .return_) (tg := []) rfl rfl ⟨_, _, ⟨hI21, hF21, ⟨⟨(fun x w => (hk21 x (by omega)).trans (hc6_7.1 x w)), (fun x w => by rw [e21_70]; exact (hc6_7.2.1 x w)), (fun x w => by rw [e21_69]; exact (hc6_7.2.2 x w))⟩, Or.inl hb21, Or.inr ⟨hb21, j1, (hc6_12.trans (by rw [show 13 - nr = (12 - nr) + 1 by omega]; simp only [pLw, if_neg (fun w => q2 ((ob_0 hsm hc6_10).mpr w)), pRl, if_pos (Or.inr (or_t hp5 q6 hn5) : tk j1 = -12 ∨ tk j1 = -13), if_neg (show ¬ nr < 12 by omega)])), bp21⟩, (fun x w => by rw [e21_73]; exact (hc6_14 x w)), fun w => absurd w hb21⟩⟩, rfl⟩
        · refine to_n 2 (fr' := (34, [(0, .ref 49), (1, .int (nI nr)), (2, .int (nI n5))], [.ref 1000032, .ref 49], gh S a b sc1 ar1 lo, ex, 0, 0)) rfl ?_
          refine to_cp (q := 123) (M1 := an_X10_isWord) (rest := []) rfl rfl (by decide) rfl ⟨_, rfl⟩ (iw_X10_isWord hW hI1 31 (by omega) (pl j1) (en_ g sz n j1) (rs_le hsm hc6_10 hlen4) hc6_10.2.2.1 hc6_10.2.2.2.2.1 (d + 30)) (fun x22 hx22 => ?_)
          obtain ⟨⟨n22, hn22, rfl⟩, hp22⟩ := hx22
          rw [hc6_11, ob_w (x := (3, -12)) hsm hc6_10 (by decide) (by decide +kernel)] at hp22
          refine to_eq (fr' := (37, [(0, .ref 49), (1, .int (nI nr)), (2, .int (nI n5))], [.int (nI n22)], gh S a b sc1 ar1 lo, ex, 0, 0)) rfl ?_
          refine to_nf_ne (t := 48) (x := n22) rfl (by omega) (fun q23 => ?_) (fun q23 => ?_)
          · refine to_n 2 (fr' := (51, [(0, .ref 49), (1, .int (nI nr)), (2, .int (nI n5))], [.int 12, .int (nI nr)], gh S a b sc1 ar1 lo, ex, 0, 0)) rfl ?_
            refine to_nc_ne (t := 59) (x := nr) (y := 12) rfl (by omega) (by omega) (fun q24 => ?_) (fun q24 => ?_)
            · refine to_n 1 (fr' := (60, [(0, .ref 49), (1, .int (nI nr)), (2, .int (nI n5))], [.ref 49], gh S a b sc1 ar1 lo, ex, 0, 0)) rfl ?_
              refine to_getR (v := 0) rfl rfl rfl rfl hc6_3 ?_
              refine to_n 2 (fr' := (68, [(0, .ref 49), (1, .int (nI nr)), (2, .int (nI n5))], [.ref 49], gh S a b sc1 ar1 lo, ex, 0, 0)) rfl ?_
              refine to_get rfl rfl rfl rfl ?_
              refine to_n 2 (fr' := (74, [(0, .ref 49), (1, .int (nI nr)), (2, .int (nI n5))], [.ref 49, .int 12, .ref 73], gh S a b sc1 ar1 lo, ex, 0, 0)) rfl ?_
              refine to_getR (v := (nI l)) rfl rfl rfl rfl hc6_2 ?_
              refine to_mulN (x := 12) (y := l) rfl ?_
              refine to_n 1 (fr' := (79, [(0, .ref 49), (1, .int (nI nr)), (2, .int (nI n5))], [.int (nI nr), .int (nI (12 * l)), .ref 73], gh S a b sc1 ar1 lo, ex, 0, 0)) rfl ?_
              refine to_addN (x := (12 * l)) (y := nr) rfl ?_
              refine to_n 1 (fr' := (81, [(0, .ref 49), (1, .int (nI nr)), (2, .int (nI n5))], [.int (nI n5), .int (nI ((12 * l) + nr)), .ref 73], gh S a b sc1 ar1 lo, ex, 0, 0)) rfl ?_
              refine to_zasR (i := ((12 * l) + nr)) (h' := gh S a b sc1 (uA ar1 73 (upd (ar1 73) ((12 * l) + nr) (vp_nar .boolean (nI n5)))) lo) rfl rfl (by omega) (by omega) rfl ?_
              have hI25 := ia_73 (g := (upd (ar1 73) ((12 * l) + nr) (vp_nar .boolean (nI n5)))) hI1
              have hF25 := fr_a (c := 73) (g := (upd (ar1 73) ((12 * l) + nr) (vp_nar .boolean (nI n5)))) hF1 (by decide)
              have hk25s : ∀ x, x < 700 * l + c1 → (uA ar1 73 (upd (ar1 73) ((12 * l) + nr) (vp_nar .boolean (nI n5)))) 71 x = ar1 71 x := (fun _ _ => rfl)
              have e25_70 : (uA ar1 73 (upd (ar1 73) ((12 * l) + nr) (vp_nar .boolean (nI n5)))) 70 = (ar1 70) := rfl
              have e25_69 : (uA ar1 73 (upd (ar1 73) ((12 * l) + nr) (vp_nar .boolean (nI n5)))) 69 = (ar1 69) := rfl
              have e25_73 : (uA ar1 73 (upd (ar1 73) ((12 * l) + nr) (vp_nar .boolean (nI n5)))) 73 = (upd (ar1 73) ((12 * l) + nr) (vp_nar .boolean (nI n5))) := rfl
              refine to_n 1 (fr' := (83, [(0, .ref 49), (1, .int (nI nr)), (2, .int (nI n5))], [.ref 49], gh S a b sc1 (uA ar1 73 (upd (ar1 73) ((12 * l) + nr) (vp_nar .boolean (nI n5)))) lo, ex, 0, 0)) rfl ?_
              refine to_get rfl rfl rfl rfl ?_
              refine to_n 2 (fr' := (89, [(0, .ref 49), (1, .int (nI nr)), (2, .int (nI n5))], [.ref 49, .int 13, .ref 70], gh S a b sc1 (uA ar1 73 (upd (ar1 73) ((12 * l) + nr) (vp_nar .boolean (nI n5)))) lo, ex, 0, 0)) rfl ?_
              refine to_getR (v := (nI l)) rfl rfl rfl rfl hc6_2 ?_
              refine to_mulN (x := 13) (y := l) rfl ?_
              refine to_n 1 (fr' := (94, [(0, .ref 49), (1, .int (nI nr)), (2, .int (nI n5))], [.int (nI nr), .int (nI (13 * l)), .ref 70], gh S a b sc1 (uA ar1 73 (upd (ar1 73) ((12 * l) + nr) (vp_nar .boolean (nI n5)))) lo, ex, 0, 0)) rfl ?_
              refine to_addN (x := (13 * l)) (y := nr) rfl ?_
              refine to_n 1 (fr' := (96, [(0, .ref 49), (1, .int (nI nr)), (2, .int (nI n5))], [.ref 49, .int (nI ((13 * l) + nr)), .ref 70], gh S a b sc1 (uA ar1 73 (upd (ar1 73) ((12 * l) + nr) (vp_nar .boolean (nI n5)))) lo, ex, 0, 0)) rfl ?_
              refine to_getR (v := (nI c1)) rfl rfl rfl rfl hc6_0 ?_
              refine to_iasR (i := ((13 * l) + nr)) (h' := gh S a b sc1 (uA (uA ar1 73 (upd (ar1 73) ((12 * l) + nr) (vp_nar .boolean (nI n5)))) 70 (upd ((uA ar1 73 (upd (ar1 73) ((12 * l) + nr) (vp_nar .boolean (nI n5)))) 70) ((13 * l) + nr) (nI c1))) lo) rfl rfl (by omega) (by omega) rfl ?_
              have hI26 := ia_70 (i := ((13 * l) + nr)) (v := (nI c1)) hI25 (rl_n (n := c1) (by omega))
              have hF26 := fr_a (c := 70) (g := (upd ((uA ar1 73 (upd (ar1 73) ((12 * l) + nr) (vp_nar .boolean (nI n5)))) 70) ((13 * l) + nr) (nI c1))) hF25 (by decide)
              have hk26s : ∀ x, x < 700 * l + c1 → (uA (uA ar1 73 (upd (ar1 73) ((12 * l) + nr) (vp_nar .boolean (nI n5)))) 70 (upd ((uA ar1 73 (upd (ar1 73) ((12 * l) + nr) (vp_nar .boolean (nI n5)))) 70) ((13 * l) + nr) (nI c1))) 71 x = ar1 71 x := hk25s
              have e26_70 : (uA (uA ar1 73 (upd (ar1 73) ((12 * l) + nr) (vp_nar .boolean (nI n5)))) 70 (upd ((uA ar1 73 (upd (ar1 73) ((12 * l) + nr) (vp_nar .boolean (nI n5)))) 70) ((13 * l) + nr) (nI c1))) 70 = (upd (ar1 70) ((13 * l) + nr) (nI c1)) := by rw [← e25_70]; rfl
              have e26_69 : (uA (uA ar1 73 (upd (ar1 73) ((12 * l) + nr) (vp_nar .boolean (nI n5)))) 70 (upd ((uA ar1 73 (upd (ar1 73) ((12 * l) + nr) (vp_nar .boolean (nI n5)))) 70) ((13 * l) + nr) (nI c1))) 69 = (ar1 69) := e25_69
              have e26_73 : (uA (uA ar1 73 (upd (ar1 73) ((12 * l) + nr) (vp_nar .boolean (nI n5)))) 70 (upd ((uA ar1 73 (upd (ar1 73) ((12 * l) + nr) (vp_nar .boolean (nI n5)))) 70) ((13 * l) + nr) (nI c1))) 73 = (upd (ar1 73) ((12 * l) + nr) (vp_nar .boolean (nI n5))) := e25_73
              refine to_n 1 (fr' := (103, [(0, .ref 49), (1, .int ((nI nr) + 1)), (2, .int (nI n5))], [], gh S a b sc1 (uA (uA ar1 73 (upd (ar1 73) ((12 * l) + nr) (vp_nar .boolean (nI n5)))) 70 (upd ((uA ar1 73 (upd (ar1 73) ((12 * l) + nr) (vp_nar .boolean (nI n5)))) 70) ((13 * l) + nr) (nI c1))) lo, ex, 0, 0)) rfl ?_
              rw [nI_1 nr]
              refine to_n 1 (fr' := (104, [(0, .ref 49), (1, .int (nI (nr + 1))), (2, .int (nI n5))], [.ref 49], gh S a b sc1 (uA (uA ar1 73 (upd (ar1 73) ((12 * l) + nr) (vp_nar .boolean (nI n5)))) 70 (upd ((uA ar1 73 (upd (ar1 73) ((12 * l) + nr) (vp_nar .boolean (nI n5)))) 70) ((13 * l) + nr) (nI c1))) lo, ex, 0, 0)) rfl ?_
              refine to_cv (q := 122) (M1 := an_X10_step) (rest := []) rfl rfl (by decide) rfl ⟨_, rfl⟩ (st_nextx hW hI26 hc6_1 (by omega) hc6_4 (ob_no hsm hc6_10 (or_t hp22 q23 hn22) (by decide)) hsm hlen4 hne hc6_11 hc6_10 (d + 29)) (fun sc27 ar27 hx27 => ?_)
              obtain ⟨hI27, hG27, hz27, ⟨B27, eB27, hB27, hC27⟩, rs27⟩ := hx27
              have t27 : ar27 67 = T := (hG27.2 67 (by decide)).trans hc6_11
              have k27_4907 : sc27 4907 = (nI l) := (hG27.1 4907 (by decide)).trans hc6_2
              have k27_4934 : sc27 4934 = (nI c1) := (hG27.1 4934 (by decide)).trans hc6_0
              have k27_4941 : sc27 4941 = 0 := (hG27.1 4941 (by decide)).trans hc6_3
              have hk27 : ∀ x, x < 700 * l + c1 → ar27 71 x = ar1 71 x := kp_st hk26s hG27 (by decide)
              have hF27 := fr_t hF26 hG27 (by decide) (by decide)
              have e27_70 : ar27 70 = (upd (ar1 70) ((13 * l) + nr) (nI c1)) := (hG27.2 70 (by decide)).trans e26_70
              have e27_69 : ar27 69 = (ar1 69) := (hG27.2 69 (by decide)).trans e26_69
              have e27_73 : ar27 73 = (upd (ar1 73) ((12 * l) + nr) (vp_nar .boolean (nI n5))) := (hG27.2 73 (by decide)).trans e26_73
              refine to_eq (fr' := (107, [(0, .ref 49), (1, .int (nI (nr + 1))), (2, .int (nI n5))], [], gh S a b sc27 ar27 lo, ex, 0, 0)) rfl ?_
              refine to_n 2 (fr' := (109, [(0, .ref 49), (1, .int (nI (nr + 1))), (2, .int (nI n5))], [.int 0, .ref 49], gh S a b sc27 ar27 lo, ex, 0, 0)) rfl ?_
              refine to_cv (q := 128) (M1 := an_X10_readExpression) (rest := []) rfl rfl (by decide) rfl ⟨_, rfl⟩ (rx_expr hW hsm hlen4 hne (d + 1) sc27 ar27 l c1 3 B27 (ad_ sz j1) hI27 (by omega) k27_4907 k27_4934 eB27 (by omega) k27_4941 hz27 (by omega) t27 rs27) (fun sc28 ar28 hx28 => ?_)
              obtain ⟨hI28, hG28, hu28, hr28, hy28, hd28⟩ := hx28
              have k28_4907 : sc28 4907 = nI l := (hG28.1 4907 (by decide)).trans k27_4907
              have hk28 : ∀ x, x < 700 * l + c1 → ar28 71 x = ar1 71 x := fun x w => (hu28 x (by omega)).trans (hk27 x w)
              have hF28 := fr_t hF27 hG28 (by decide) (by decide)
              have t28 : ar28 67 = T := (hG28.2 67 (by decide)).trans t27
              have e28_70 : ar28 70 = (upd (ar1 70) ((13 * l) + nr) (nI c1)) := (hG28.2 70 (by decide)).trans e27_70
              have e28_69 : ar28 69 = (ar1 69) := (hG28.2 69 (by decide)).trans e27_69
              have e28_73 : ar28 73 = (upd (ar1 73) ((12 * l) + nr) (vp_nar .boolean (nI n5))) := (hG28.2 73 (by decide)).trans e27_73
              rcases hy28 with ⟨hb28, k28, ey28, rs28⟩ | ⟨hb28, k28, ey28, bp28⟩
              · rcases hr28 with hbb28 | ⟨-, hz28, c28, B28, ec28, eB28, hcc28, hBB28, hB28, hpo28, sg28⟩
                · exact absurd hb28 hbb28
                · have sd28 := hd28 hb28 c28 (by omega) ec28
                  refine to_eq (fr' := (112, [(0, .ref 49), (1, .int (nI (nr + 1))), (2, .int (nI n5))], [], gh S a b sc28 ar28 lo, ex, 0, 0)) rfl ?_
                  refine to_n 1 (fr' := (113, [(0, .ref 49), (1, .int (nI (nr + 1))), (2, .int (nI n5))], [.ref 49], gh S a b sc28 ar28 lo, ex, 0, 0)) rfl ?_
                  refine to_getR (v := 0) rfl rfl rfl rfl hb28 ?_
                  refine to_n 3 (fr' := (122, [(0, .ref 49), (1, .int (nI (nr + 1))), (2, .int (nI n5))], [.int 59, .ref 49], gh S a b sc28 ar28 lo, ex, 0, 0)) rfl ?_
                  refine to_cp (q := 124) (M1 := an_X10_isSign) (rest := []) rfl rfl (by decide) rfl ⟨_, rfl⟩ (is_X10_isSign hW hI28 59 (d + 30)) (fun x29 hx29 => ?_)
                  obtain ⟨⟨n29, hn29, rfl⟩, hp29⟩ := hx29
                  rw [ob_s (x := (59, -6)) hsm rs28 (by decide)] at hp29
                  refine to_eq (fr' := (125, [(0, .ref 49), (1, .int (nI (nr + 1))), (2, .int (nI n5))], [.int (nI n29)], gh S a b sc28 ar28 lo, ex, 0, 0)) rfl ?_
                  refine to_nf_ne (t := 133) (x := n29) rfl (by omega) (fun q30 => ?_) (fun q30 => ?_)
                  · refine to_n 1 (fr' := (134, [(0, .ref 49), (1, .int (nI (nr + 1))), (2, .int (nI n5))], [.ref 49], gh S a b sc28 ar28 lo, ex, 0, 0)) rfl ?_
                    refine to_getR (v := 0) rfl rfl rfl rfl hb28 ?_
                    refine to_n 2 (fr' := (141, [(0, .ref 49), (1, .int (nI (nr + 1))), (2, .int (nI n5))], [.ref 49], gh S a b sc28 ar28 lo, ex, 0, 0)) rfl ?_
                    refine to_cv (q := 122) (M1 := an_X10_step) (rest := []) rfl rfl (by decide) rfl ⟨_, rfl⟩ (st_nextx hW hI28 eB28 (by omega) hz28 (ob_no hsm rs28 (or_t hp29 q30 hn29) (by decide)) hsm hlen4 hne t28 rs28 (d + 29)) (fun sc31 ar31 hx31 => ?_)
                    obtain ⟨hI31, hG31, hz31, ⟨B31, eB31, hB31, hC31⟩, rs31⟩ := hx31
                    have t31 : ar31 67 = T := (hG31.2 67 (by decide)).trans t28
                    have k31_4907 : sc31 4907 = (nI l) := (hG31.1 4907 (by decide)).trans k28_4907
                    have k31_4934 : sc31 4934 = (nI c28) := (hG31.1 4934 (by decide)).trans ec28
                    have k31_4941 : sc31 4941 = 0 := (hG31.1 4941 (by decide)).trans hb28
                    have hk31 : ∀ x, x < 700 * l + c1 → ar31 71 x = ar1 71 x := kp_st hk28 hG31 (by decide)
                    have sg31_0 := sg_st sg28 hG31 (by decide)
                    have sd31_0 := sgr_st sd28 hG31 (by decide)
                    have hF31 := fr_t hF28 hG31 (by decide) (by decide)
                    have e31_70 : ar31 70 = (upd (ar1 70) ((13 * l) + nr) (nI c1)) := (hG31.2 70 (by decide)).trans e28_70
                    have e31_69 : ar31 69 = (ar1 69) := (hG31.2 69 (by decide)).trans e28_69
                    have e31_73 : ar31 73 = (upd (ar1 73) ((12 * l) + nr) (vp_nar .boolean (nI n5))) := (hG31.2 73 (by decide)).trans e28_73
                    refine to_eq (fr' := (144, [(0, .ref 49), (1, .int (nI (nr + 1))), (2, .int (nI n5))], [], gh S a b sc31 ar31 lo, ex, 0, 0)) rfl ?_
                    refine to_n 1 (fr' := (6, [(0, .ref 49), (1, .int (nI (nr + 1))), (2, .int (nI n5))], [], gh S a b sc31 ar31 lo, ex, 0, 0)) rfl ?_
                    refine to_lv (lv := [(0, .ref 49), (1, .int (nI (nr + 1)))]) rfl ⟨rfl, rfl, trivial⟩ ?_
                    exact ih (nr + 1) c28 B31 (ad_ sz k28) sc31 ar31 (by omega) k31_4934 eB31 k31_4907 k31_4941 hz31 (by omega) (by omega) ⟨(fun x w => (hk31 x (by omega)).trans (hc6_7.1 x w)), (fun x w => by rw [e31_70]; exact ((up_ne (by omega)).trans (hc6_7.2.1 x w))), (fun x w => by rw [e31_69]; exact (hc6_7.2.2 x w))⟩ (by rw [e31_70]; exact ru_put hc6_8 hk31 sg31_0 (by omega) (by omega) (by omega)) (by omega) rs31 t31 (hc6_12.trans (by rw [show 13 - nr = (13 - (nr + 1)) + 1 by omega]; simp only [pLw, if_neg (fun w => q2 ((ob_0 hsm hc6_10).mpr w)), pRl, if_pos (Or.inl (or_t hp22 q23 hn22) : tk j1 = -12 ∨ tk j1 = -13), if_pos (show nr < 12 by omega), ey28, if_pos (or_t hp29 q30 hn29)])) (ruv_put hc6_13 hk31 sd31_0 (by omega) e31_70 e31_73 (Or.inl ⟨or_t hp22 q23 hn22, by rw [show n5 = 0 by omega]; rfl⟩) (fun kn s => by rw [show 13 - nr = (13 - (nr + 1)) + 1 by omega]; simp only [vLw, if_neg (fun w => q2 ((ob_0 hsm hc6_10).mpr w)), (show pRl tk sz nr j1 = .inl (ad_ sz k28) from by simp only [pRl, if_pos (Or.inl (or_t hp22 q23 hn22) : tk j1 = -12 ∨ tk j1 = -13), if_pos (show nr < 12 by omega), ey28, if_pos (or_t hp29 q30 hn29)])])) (fun x w => by rw [e31_73]; exact ((up_ne (by omega)).trans (hc6_14 x w))) hI31 hF31
                  · refine to_n 2 (fr' := (130, [(0, .ref 49), (1, .int (nI (nr + 1))), (2, .int (nI n5))], [.int 1, .ref 49], gh S a b sc28 ar28 lo, ex, 0, 0)) rfl ?_
                    refine to_cv (q := 125) (M1 := an_X10_wrong) (rest := []) rfl rfl (by decide) rfl ⟨_, rfl⟩ (sf_X10_wrong hW hI28 1 (d + 30)) (fun sc32 ar32 hx32 => ?_)
                    obtain ⟨hI32, hG32, hx32⟩ := hx32
                    have hb32 := hx32.1 (by decide)
                    have bp32 : sc32 4942 = nI (pl k28) := (hx32.2 hb28).trans rs28.2.2.1
                    have k32_4907 : sc32 4907 = (nI l) := (hG32.1 4907 (by decide)).trans k28_4907
                    have k32_4934 : sc32 4934 = (nI c28) := (hG32.1 4934 (by decide)).trans ec28
                    have k32_4939 : sc32 4939 = (nI B28) := (hG32.1 4939 (by decide)).trans eB28
                    have hk32 : ∀ x, x < 700 * l + c1 → ar32 71 x = ar1 71 x := kp_st hk28 hG32 (by decide)
                    have sg32_0 := sg_st sg28 hG32 (by decide)
                    have sd32_0 := sgr_st sd28 hG32 (by decide)
                    have hF32 := fr_t hF28 hG32 (by decide) (by decide)
                    have e32_70 : ar32 70 = (upd (ar1 70) ((13 * l) + nr) (nI c1)) := (hG32.2 70 (by decide)).trans e28_70
                    have e32_69 : ar32 69 = (ar1 69) := (hG32.2 69 (by decide)).trans e28_69
                    have e32_73 : ar32 73 = (upd (ar1 73) ((12 * l) + nr) (vp_nar .boolean (nI n5))) := (hG32.2 73 (by decide)).trans e28_73
                    refine to_eq (fr' := (133, [(0, .ref 49), (1, .int (nI (nr + 1))), (2, .int (nI n5))], [], gh S a b sc32 ar32 lo, ex, 0, 0)) rfl ?_
                    refine to_n 1 (fr' := (134, [(0, .ref 49), (1, .int (nI (nr + 1))), (2, .int (nI n5))], [.ref 49], gh S a b sc32 ar32 lo, ex, 0, 0)) rfl ?_
                    refine to_getR (v := (sc32 4941)) rfl rfl rfl rfl rfl ?_
                    refine to_if_ne_T (t := 144) rfl hb32 ?_
                    refine to_n 2 (fr' := (7, [(0, .ref 49), (1, .int (nI (nr + 1))), (2, .int (nI n5))], [.ref 49], gh S a b sc32 ar32 lo, ex, 0, 0)) rfl ?_
                    refine to_getR (v := (sc32 4941)) rfl rfl rfl rfl rfl ?_
                    refine to_if_ne_T (t := 147) rfl hb32 ?_
                    refine to_n 1 (fr' := (148, [(0, .ref 49), (1, .int (nI (nr + 1))), (2, .int (nI n5))], [.ref 49], gh S a b sc32 ar32 lo, ex, 0, 0)) rfl ?_
                    refine to_get rfl rfl rfl rfl ?_
                    refine to_n 2 (fr' := (154, [(0, .ref 49), (1, .int (nI (nr + 1))), (2, .int (nI n5))], [.ref 49, .int 13, .ref 70], gh S a b sc32 ar32 lo, ex, 0, 0)) rfl ?_
                    refine to_getR (v := (nI l)) rfl rfl rfl rfl k32_4907 ?_
                    refine to_mulN (x := 13) (y := l) rfl ?_
                    refine to_n 1 (fr' := (159, [(0, .ref 49), (1, .int (nI (nr + 1))), (2, .int (nI n5))], [.int (nI (nr + 1)), .int (nI (13 * l)), .ref 70], gh S a b sc32 ar32 lo, ex, 0, 0)) rfl ?_
                    refine to_addN (x := (13 * l)) (y := (nr + 1)) rfl ?_
                    refine to_n 1 (fr' := (161, [(0, .ref 49), (1, .int (nI (nr + 1))), (2, .int (nI n5))], [.ref 49, .int (nI ((13 * l) + (nr + 1))), .ref 70], gh S a b sc32 ar32 lo, ex, 0, 0)) rfl ?_
                    refine to_getR (v := (nI c28)) rfl rfl rfl rfl k32_4934 ?_
                    refine to_iasR (i := ((13 * l) + (nr + 1))) (h' := gh S a b sc32 (uA ar32 70 (upd (ar32 70) ((13 * l) + (nr + 1)) (nI c28))) lo) rfl rfl (by omega) (by omega) rfl ?_
                    have hI33 := ia_70 (i := ((13 * l) + (nr + 1))) (v := (nI c28)) hI32 (rl_n (n := c28) (by omega))
                    have hF33 := fr_a (c := 70) (g := (upd (ar32 70) ((13 * l) + (nr + 1)) (nI c28))) hF32 (by decide)
                    have hk33s : ∀ x, x < 700 * l + c1 → (uA ar32 70 (upd (ar32 70) ((13 * l) + (nr + 1)) (nI c28))) 71 x = ar1 71 x := hk32
                    have e33_70 : (uA ar32 70 (upd (ar32 70) ((13 * l) + (nr + 1)) (nI c28))) 70 = (upd (upd (ar1 70) ((13 * l) + nr) (nI c1)) ((13 * l) + (nr + 1)) (nI c28)) := by rw [← e32_70]; rfl
                    have e33_69 : (uA ar32 70 (upd (ar32 70) ((13 * l) + (nr + 1)) (nI c28))) 69 = (ar1 69) := e32_69
                    have e33_73 : (uA ar32 70 (upd (ar32 70) ((13 * l) + (nr + 1)) (nI c28))) 73 = (upd (ar1 73) ((12 * l) + nr) (vp_nar .boolean (nI n5))) := e32_73
                    refine to_n 1 (fr' := (166, [(0, .ref 49), (1, .int (nI (nr + 1))), (2, .int (nI n5))], [.ref 49], gh S a b sc32 (uA ar32 70 (upd (ar32 70) ((13 * l) + (nr + 1)) (nI c28))) lo, ex, 0, 0)) rfl ?_
                    refine to_get rfl rfl rfl rfl ?_
                    refine to_n 1 (fr' := (170, [(0, .ref 49), (1, .int (nI (nr + 1))), (2, .int (nI n5))], [.ref 49, .ref 69], gh S a b sc32 (uA ar32 70 (upd (ar32 70) ((13 * l) + (nr + 1)) (nI c28))) lo, ex, 0, 0)) rfl ?_
                    refine to_getR (v := (nI l)) rfl rfl rfl rfl k32_4907 ?_
                    refine to_n 1 (fr' := (174, [(0, .ref 49), (1, .int (nI (nr + 1))), (2, .int (nI n5))], [.int (nI (nr + 1)), .int (nI l), .ref 69], gh S a b sc32 (uA ar32 70 (upd (ar32 70) ((13 * l) + (nr + 1)) (nI c28))) lo, ex, 0, 0)) rfl ?_
                    refine to_iasR (i := l) (h' := gh S a b sc32 (uA (uA ar32 70 (upd (ar32 70) ((13 * l) + (nr + 1)) (nI c28))) 69 (upd ((uA ar32 70 (upd (ar32 70) ((13 * l) + (nr + 1)) (nI c28))) 69) l (nI (nr + 1)))) lo) rfl rfl (by omega) (by omega) rfl ?_
                    have hI34 := ia_69 (i := l) (v := (nI (nr + 1))) hI33 (rl_n (n := (nr + 1)) (by omega))
                    have hF34 := fr_a (c := 69) (g := (upd ((uA ar32 70 (upd (ar32 70) ((13 * l) + (nr + 1)) (nI c28))) 69) l (nI (nr + 1)))) hF33 (by decide)
                    have hk34s : ∀ x, x < 700 * l + c1 → (uA (uA ar32 70 (upd (ar32 70) ((13 * l) + (nr + 1)) (nI c28))) 69 (upd ((uA ar32 70 (upd (ar32 70) ((13 * l) + (nr + 1)) (nI c28))) 69) l (nI (nr + 1)))) 71 x = ar1 71 x := hk33s
                    have e34_70 : (uA (uA ar32 70 (upd (ar32 70) ((13 * l) + (nr + 1)) (nI c28))) 69 (upd ((uA ar32 70 (upd (ar32 70) ((13 * l) + (nr + 1)) (nI c28))) 69) l (nI (nr + 1)))) 70 = (upd (upd (ar1 70) ((13 * l) + nr) (nI c1)) ((13 * l) + (nr + 1)) (nI c28)) := e33_70
                    have e34_69 : (uA (uA ar32 70 (upd (ar32 70) ((13 * l) + (nr + 1)) (nI c28))) 69 (upd ((uA ar32 70 (upd (ar32 70) ((13 * l) + (nr + 1)) (nI c28))) 69) l (nI (nr + 1)))) 69 = (upd (ar1 69) l (nI (nr + 1))) := by rw [← e33_69]; rfl
                    have e34_73 : (uA (uA ar32 70 (upd (ar32 70) ((13 * l) + (nr + 1)) (nI c28))) 69 (upd ((uA ar32 70 (upd (ar32 70) ((13 * l) + (nr + 1)) (nI c28))) 69) l (nI (nr + 1)))) 73 = (upd (ar1 73) ((12 * l) + nr) (vp_nar .boolean (nI n5))) := e33_73
                    exact to_rt (i := .return_) (tg := []) rfl rfl ⟨_, _, ⟨hI34, hF34, ⟨⟨(fun x w => (hk34s x (by omega)).trans (hc6_7.1 x w)), (fun x w => by rw [e34_70]; exact ((up_ne (by omega)).trans ((up_ne (by omega)).trans (hc6_7.2.1 x w)))), (fun x w => by rw [e34_69]; exact ((up_ne (by omega)).trans (hc6_7.2.2 x w)))⟩, Or.inl hb32, Or.inr ⟨hb32, k28, (hc6_12.trans (by rw [show 13 - nr = (12 - nr) + 1 by omega]; simp only [pLw, if_neg (fun w => q2 ((ob_0 hsm hc6_10).mpr w)), pRl, if_pos (Or.inl (or_t hp22 q23 hn22) : tk j1 = -12 ∨ tk j1 = -13), if_pos (show nr < 12 by omega), ey28, if_neg (or_f hp29 q30)])), bp32⟩, (fun x w => by rw [e34_73]; exact ((up_ne (by omega)).trans (hc6_14 x w))), fun w => absurd w hb32⟩⟩, rfl⟩
              · refine to_eq (fr' := (112, [(0, .ref 49), (1, .int (nI (nr + 1))), (2, .int (nI n5))], [], gh S a b sc28 ar28 lo, ex, 0, 0)) rfl ?_
                refine to_n 1 (fr' := (113, [(0, .ref 49), (1, .int (nI (nr + 1))), (2, .int (nI n5))], [.ref 49], gh S a b sc28 ar28 lo, ex, 0, 0)) rfl ?_
                refine to_getR (v := (sc28 4941)) rfl rfl rfl rfl rfl ?_
                refine to_if_ne_T (t := 133) rfl hb28 ?_
                refine to_n 1 (fr' := (134, [(0, .ref 49), (1, .int (nI (nr + 1))), (2, .int (nI n5))], [.ref 49], gh S a b sc28 ar28 lo, ex, 0, 0)) rfl ?_
                refine to_getR (v := (sc28 4941)) rfl rfl rfl rfl rfl ?_
                refine to_if_ne_T (t := 144) rfl hb28 ?_
                refine to_n 2 (fr' := (7, [(0, .ref 49), (1, .int (nI (nr + 1))), (2, .int (nI n5))], [.ref 49], gh S a b sc28 ar28 lo, ex, 0, 0)) rfl ?_
                refine to_getR (v := (sc28 4941)) rfl rfl rfl rfl rfl ?_
                refine to_if_ne_T (t := 147) rfl hb28 ?_
                refine to_n 1 (fr' := (148, [(0, .ref 49), (1, .int (nI (nr + 1))), (2, .int (nI n5))], [.ref 49], gh S a b sc28 ar28 lo, ex, 0, 0)) rfl ?_
                refine to_get rfl rfl rfl rfl ?_
                refine to_n 2 (fr' := (154, [(0, .ref 49), (1, .int (nI (nr + 1))), (2, .int (nI n5))], [.ref 49, .int 13, .ref 70], gh S a b sc28 ar28 lo, ex, 0, 0)) rfl ?_
                refine to_getR (v := (nI l)) rfl rfl rfl rfl k28_4907 ?_
                refine to_mulN (x := 13) (y := l) rfl ?_
                refine to_n 1 (fr' := (159, [(0, .ref 49), (1, .int (nI (nr + 1))), (2, .int (nI n5))], [.int (nI (nr + 1)), .int (nI (13 * l)), .ref 70], gh S a b sc28 ar28 lo, ex, 0, 0)) rfl ?_
                refine to_addN (x := (13 * l)) (y := (nr + 1)) rfl ?_
                refine to_n 1 (fr' := (161, [(0, .ref 49), (1, .int (nI (nr + 1))), (2, .int (nI n5))], [.ref 49, .int (nI ((13 * l) + (nr + 1))), .ref 70], gh S a b sc28 ar28 lo, ex, 0, 0)) rfl ?_
                obtain ⟨n35, hn35, e35⟩ := iv_s4934 hI28
                refine to_getR (v := (nI n35)) rfl rfl rfl rfl e35 ?_
                refine to_iasR (i := ((13 * l) + (nr + 1))) (h' := gh S a b sc28 (uA ar28 70 (upd (ar28 70) ((13 * l) + (nr + 1)) (nI n35))) lo) rfl rfl (by omega) (by omega) rfl ?_
                have hI36 := ia_70 (i := ((13 * l) + (nr + 1))) (v := (nI n35)) hI28 (rl_n (n := n35) (by omega))
                have hF36 := fr_a (c := 70) (g := (upd (ar28 70) ((13 * l) + (nr + 1)) (nI n35))) hF28 (by decide)
                have hk36s : ∀ x, x < 700 * l + c1 → (uA ar28 70 (upd (ar28 70) ((13 * l) + (nr + 1)) (nI n35))) 71 x = ar1 71 x := hk28
                have e36_70 : (uA ar28 70 (upd (ar28 70) ((13 * l) + (nr + 1)) (nI n35))) 70 = (upd (upd (ar1 70) ((13 * l) + nr) (nI c1)) ((13 * l) + (nr + 1)) (nI n35)) := by rw [← e28_70]; rfl
                have e36_69 : (uA ar28 70 (upd (ar28 70) ((13 * l) + (nr + 1)) (nI n35))) 69 = (ar1 69) := e28_69
                have e36_73 : (uA ar28 70 (upd (ar28 70) ((13 * l) + (nr + 1)) (nI n35))) 73 = (upd (ar1 73) ((12 * l) + nr) (vp_nar .boolean (nI n5))) := e28_73
                refine to_n 1 (fr' := (166, [(0, .ref 49), (1, .int (nI (nr + 1))), (2, .int (nI n5))], [.ref 49], gh S a b sc28 (uA ar28 70 (upd (ar28 70) ((13 * l) + (nr + 1)) (nI n35))) lo, ex, 0, 0)) rfl ?_
                refine to_get rfl rfl rfl rfl ?_
                refine to_n 1 (fr' := (170, [(0, .ref 49), (1, .int (nI (nr + 1))), (2, .int (nI n5))], [.ref 49, .ref 69], gh S a b sc28 (uA ar28 70 (upd (ar28 70) ((13 * l) + (nr + 1)) (nI n35))) lo, ex, 0, 0)) rfl ?_
                refine to_getR (v := (nI l)) rfl rfl rfl rfl k28_4907 ?_
                refine to_n 1 (fr' := (174, [(0, .ref 49), (1, .int (nI (nr + 1))), (2, .int (nI n5))], [.int (nI (nr + 1)), .int (nI l), .ref 69], gh S a b sc28 (uA ar28 70 (upd (ar28 70) ((13 * l) + (nr + 1)) (nI n35))) lo, ex, 0, 0)) rfl ?_
                refine to_iasR (i := l) (h' := gh S a b sc28 (uA (uA ar28 70 (upd (ar28 70) ((13 * l) + (nr + 1)) (nI n35))) 69 (upd ((uA ar28 70 (upd (ar28 70) ((13 * l) + (nr + 1)) (nI n35))) 69) l (nI (nr + 1)))) lo) rfl rfl (by omega) (by omega) rfl ?_
                have hI37 := ia_69 (i := l) (v := (nI (nr + 1))) hI36 (rl_n (n := (nr + 1)) (by omega))
                have hF37 := fr_a (c := 69) (g := (upd ((uA ar28 70 (upd (ar28 70) ((13 * l) + (nr + 1)) (nI n35))) 69) l (nI (nr + 1)))) hF36 (by decide)
                have hk37s : ∀ x, x < 700 * l + c1 → (uA (uA ar28 70 (upd (ar28 70) ((13 * l) + (nr + 1)) (nI n35))) 69 (upd ((uA ar28 70 (upd (ar28 70) ((13 * l) + (nr + 1)) (nI n35))) 69) l (nI (nr + 1)))) 71 x = ar1 71 x := hk36s
                have e37_70 : (uA (uA ar28 70 (upd (ar28 70) ((13 * l) + (nr + 1)) (nI n35))) 69 (upd ((uA ar28 70 (upd (ar28 70) ((13 * l) + (nr + 1)) (nI n35))) 69) l (nI (nr + 1)))) 70 = (upd (upd (ar1 70) ((13 * l) + nr) (nI c1)) ((13 * l) + (nr + 1)) (nI n35)) := e36_70
                have e37_69 : (uA (uA ar28 70 (upd (ar28 70) ((13 * l) + (nr + 1)) (nI n35))) 69 (upd ((uA ar28 70 (upd (ar28 70) ((13 * l) + (nr + 1)) (nI n35))) 69) l (nI (nr + 1)))) 69 = (upd (ar1 69) l (nI (nr + 1))) := by rw [← e36_69]; rfl
                have e37_73 : (uA (uA ar28 70 (upd (ar28 70) ((13 * l) + (nr + 1)) (nI n35))) 69 (upd ((uA ar28 70 (upd (ar28 70) ((13 * l) + (nr + 1)) (nI n35))) 69) l (nI (nr + 1)))) 73 = (upd (ar1 73) ((12 * l) + nr) (vp_nar .boolean (nI n5))) := e36_73
                exact to_rt (i := .return_) (tg := []) rfl rfl ⟨_, _, ⟨hI37, hF37, ⟨⟨(fun x w => (hk37s x (by omega)).trans (hc6_7.1 x w)), (fun x w => by rw [e37_70]; exact ((up_ne (by omega)).trans ((up_ne (by omega)).trans (hc6_7.2.1 x w)))), (fun x w => by rw [e37_69]; exact ((up_ne (by omega)).trans (hc6_7.2.2 x w)))⟩, Or.inl hb28, Or.inr ⟨hb28, k28, (hc6_12.trans (by rw [show 13 - nr = (12 - nr) + 1 by omega]; simp only [pLw, if_neg (fun w => q2 ((ob_0 hsm hc6_10).mpr w)), pRl, if_pos (Or.inl (or_t hp22 q23 hn22) : tk j1 = -12 ∨ tk j1 = -13), if_pos (show nr < 12 by omega), ey28])), bp28⟩, (fun x w => by rw [e37_73]; exact ((up_ne (by omega)).trans (hc6_14 x w))), fun w => absurd w hb28⟩⟩, rfl⟩
            · refine to_n 2 (fr' := (56, [(0, .ref 49), (1, .int (nI nr)), (2, .int (nI n5))], [.int 2, .ref 49], gh S a b sc1 ar1 lo, ex, 0, 0)) rfl ?_
              refine to_cv (q := 125) (M1 := an_X10_wrong) (rest := []) rfl rfl (by decide) rfl ⟨_, rfl⟩ (sf_X10_wrong hW hI1 2 (d + 30)) (fun sc38 ar38 hx38 => ?_)
              obtain ⟨hI38, hG38, hx38⟩ := hx38
              have hb38 := hx38.1 (by decide)
              have bp38 : sc38 4942 = nI (pl j1) := (hx38.2 hc6_3).trans hc6_10.2.2.1
              have k38_4907 : sc38 4907 = (nI l) := (hG38.1 4907 (by decide)).trans hc6_2
              have k38_4934 : sc38 4934 = (nI c1) := (hG38.1 4934 (by decide)).trans hc6_0
              have k38_4939 : sc38 4939 = (nI B1) := (hG38.1 4939 (by decide)).trans hc6_1
              have hk38 : ∀ x, x < 700 * l + c1 → ar38 71 x = ar1 71 x := kp_st (fun _ _ => rfl) hG38 (by decide)
              have hF38 := fr_t hF1 hG38 (by decide) (by decide)
              have e38_70 : ar38 70 = (ar1 70) := (hG38.2 70 (by decide)).trans rfl
              have e38_69 : ar38 69 = (ar1 69) := (hG38.2 69 (by decide)).trans rfl
              have e38_73 : ar38 73 = (ar1 73) := (hG38.2 73 (by decide)).trans rfl
              refine to_eq (fr' := (59, [(0, .ref 49), (1, .int (nI nr)), (2, .int (nI n5))], [], gh S a b sc38 ar38 lo, ex, 0, 0)) rfl ?_
              refine to_n 1 (fr' := (60, [(0, .ref 49), (1, .int (nI nr)), (2, .int (nI n5))], [.ref 49], gh S a b sc38 ar38 lo, ex, 0, 0)) rfl ?_
              refine to_getR (v := (sc38 4941)) rfl rfl rfl rfl rfl ?_
              refine to_if_eq_F (t := 67) rfl hb38 ?_
              exact to_rt (i := .return_) (tg := []) rfl rfl ⟨_, _, ⟨hI38, hF38, ⟨⟨(fun x w => (hk38 x (by omega)).trans (hc6_7.1 x w)), (fun x w => by rw [e38_70]; exact (hc6_7.2.1 x w)), (fun x w => by rw [e38_69]; exact (hc6_7.2.2 x w))⟩, Or.inl hb38, Or.inr ⟨hb38, j1, (hc6_12.trans (by rw [show 13 - nr = (12 - nr) + 1 by omega]; simp only [pLw, if_neg (fun w => q2 ((ob_0 hsm hc6_10).mpr w)), pRl, if_pos (Or.inl (or_t hp22 q23 hn22) : tk j1 = -12 ∨ tk j1 = -13), if_neg (show ¬ nr < 12 by omega)])), bp38⟩, (fun x w => by rw [e38_73]; exact (hc6_14 x w)), fun w => absurd w hb38⟩⟩, rfl⟩
          · refine to_n 2 (fr' := (42, [(0, .ref 49), (1, .int (nI nr)), (2, .int (nI n5))], [.int 1, .ref 49], gh S a b sc1 ar1 lo, ex, 0, 0)) rfl ?_
            refine to_cv (q := 125) (M1 := an_X10_wrong) (rest := []) rfl rfl (by decide) rfl ⟨_, rfl⟩ (sf_X10_wrong hW hI1 1 (d + 30)) (fun sc39 ar39 hx39 => ?_)
            obtain ⟨hI39, hG39, hx39⟩ := hx39
            have hb39 := hx39.1 (by decide)
            have bp39 : sc39 4942 = nI (pl j1) := (hx39.2 hc6_3).trans hc6_10.2.2.1
            have k39_4907 : sc39 4907 = (nI l) := (hG39.1 4907 (by decide)).trans hc6_2
            have k39_4934 : sc39 4934 = (nI c1) := (hG39.1 4934 (by decide)).trans hc6_0
            have k39_4939 : sc39 4939 = (nI B1) := (hG39.1 4939 (by decide)).trans hc6_1
            have hk39 : ∀ x, x < 700 * l + c1 → ar39 71 x = ar1 71 x := kp_st (fun _ _ => rfl) hG39 (by decide)
            have hF39 := fr_t hF1 hG39 (by decide) (by decide)
            have e39_70 : ar39 70 = (ar1 70) := (hG39.2 70 (by decide)).trans rfl
            have e39_69 : ar39 69 = (ar1 69) := (hG39.2 69 (by decide)).trans rfl
            have e39_73 : ar39 73 = (ar1 73) := (hG39.2 73 (by decide)).trans rfl
            refine to_eq (fr' := (45, [(0, .ref 49), (1, .int (nI nr)), (2, .int (nI n5))], [], gh S a b sc39 ar39 lo, ex, 0, 0)) rfl ?_
            refine to_n 2 (fr' := (60, [(0, .ref 49), (1, .int (nI nr)), (2, .int (nI n5))], [.ref 49], gh S a b sc39 ar39 lo, ex, 0, 0)) rfl ?_
            refine to_getR (v := (sc39 4941)) rfl rfl rfl rfl rfl ?_
            refine to_if_eq_F (t := 67) rfl hb39 ?_
            exact to_rt (i := .return_) (tg := []) rfl rfl ⟨_, _, ⟨hI39, hF39, ⟨⟨(fun x w => (hk39 x (by omega)).trans (hc6_7.1 x w)), (fun x w => by rw [e39_70]; exact (hc6_7.2.1 x w)), (fun x w => by rw [e39_69]; exact (hc6_7.2.2 x w))⟩, Or.inl hb39, Or.inr ⟨hb39, j1, (hc6_12.trans (by rw [show 13 - nr = (12 - nr) + 1 by omega]; simp only [pLw, if_neg (fun w => q2 ((ob_0 hsm hc6_10).mpr w)), pRl, if_neg (fun w => w.elim (or_f hp22 q23) (or_f hp5 q6) : ¬ (tk j1 = -12 ∨ tk j1 = -13))])), bp39⟩, (fun x w => by rw [e39_73]; exact (hc6_14 x w)), fun w => absurd w hb39⟩⟩, rfl⟩
  refine to_n 1 (fr' := (1, [(0, .ref 49)], [.ref 49], gh S a b sc ar lo, ex, 0, 0)) rfl ?_
  refine to_cv (q := 122) (M1 := an_X10_step) (rest := []) rfl rfl (by decide) rfl ⟨_, rfl⟩ (sf_X10_step hW hI 0 r (by omega) (by omega) ea er hne0 (d + 29)) (fun sc40 ar40 hx40 => ?_)
  obtain ⟨hI40, hG40, B40, q40, v1, v2, v3, v4, v5, v6, v7, v8, v9⟩ := hx40
  have rs40 : Rs T tk pl g sz n 0 sc40 := rs_at hsm hsm.1 (by rw [hsm.2.2.1, hTT, hnn]; exact v8) (by rw [hTT, hnn]; exact v9) (by rw [hnn]; exact (hG40.1 4936 (by decide)).trans er) v1 v2 v3
  have t40 : ar40 67 = T := (hG40.2 67 (by decide)).trans hTT.symm
  have hz40 : Pz sc40 := ⟨B40, q40, r, v1, v2, v3, (hG40.1 4936 (by decide)).trans er, v5, v6, by omega, v7⟩
  have k40_4907 : sc40 4907 = (nI l) := (hG40.1 4907 (by decide)).trans el
  have k40_4934 : sc40 4934 = (nI 0) := (hG40.1 4934 (by decide)).trans ec
  have k40_4941 : sc40 4941 = 0 := (hG40.1 4941 (by decide)).trans eb
  have hk40 : ∀ x, x < 700 * l + 0 → ar40 71 x = ar 71 x := kp_st (fun _ _ => rfl) hG40 (by decide)
  have hF40 := fr_t hF hG40 (by decide) (by decide)
  have e40_70 : ar40 70 = (ar 70) := (hG40.2 70 (by decide)).trans rfl
  have e40_69 : ar40 69 = (ar 69) := (hG40.2 69 (by decide)).trans rfl
  have e40_73 : ar40 73 = (ar 73) := (hG40.2 73 (by decide)).trans rfl
  refine to_eq (fr' := (4, [(0, .ref 49)], [], gh S a b sc40 ar40 lo, ex, 0, 0)) rfl ?_
  refine to_n 2 (fr' := (6, [(0, .ref 49), (1, .int 0)], [], gh S a b sc40 ar40 lo, ex, 0, 0)) rfl ?_
  exact c6 401 0 0 B40 0 sc40 ar40 (by omega) k40_4934 v1 k40_4907 k40_4941 hz40 (by omega) (by omega) ⟨(fun x w => hk40 x (by omega)), (fun x w => congrFun e40_70 x), (fun x w => congrFun e40_69 x)⟩ ru_0 (by omega) rs40 t40 rfl ruv_0 (fun x w => congrFun e40_73 x) hI40 hF40
theorem lw_more {sc sc' : Nat → Int32} {ar ar' : Nat → Nat → Int32} {l : Nat} (h : Lw sc ar) (hl : l < 6) (e0 : sc 4907 = nI l) (e1 : sc' 4907 = nI (l + 1)) (hk : Kl ar ar' l) (hn : Ln ar' l) : Lw sc' ar' := by
  intro n k m r f g w0 hn7 hk1 w1 hm hr w2 hf w3 hg
  obtain rfl : l + 1 = n := (nI_eq (by omega) (by omega)).mp (e1.symm.trans w0)
  by_cases e : k = l
  · subst e
    obtain ⟨m', hm', q1, F, q2, q3⟩ := hn
    obtain rfl : m' = m := (nI_eq (by omega) (by omega)).mp (q1.symm.trans w1)
    obtain ⟨b1, b2⟩ := q2 r (by omega)
    obtain ⟨b3, b4⟩ := q2 (r + 1) (by omega)
    obtain rfl : F r = f := (nI_eq (by omega) (by omega)).mp (b2.symm.trans w2)
    obtain rfl : F (r + 1) = g := (nI_eq (by omega) (by omega)).mp (b4.symm.trans w3)
    exact q3 r hr
  · have hkl : k < l := by omega
    have u1 := (hk.2.2 k hkl).symm.trans w1
    have u2 := (hk.2.1 (13 * k + r) (by omega)).symm.trans w2
    have u3 := (hk.2.1 (13 * k + r + 1) (by omega)).symm.trans w3
    exact tk_ag (fun x hx => hk.1 x (by omega)) 701 _ 0 (h l k m r f g e0 (by omega) hkl u1 hm hr u2 hf u3 hg)
theorem lw_kl {sc sc' : Nat → Int32} {ar ar' : Nat → Nat → Int32} {l : Nat} (h : Lw sc ar) (hl : l < 7) (e0 : sc 4907 = nI l) (e1 : sc' 4907 = nI l) (hk : Kl ar ar' l) : Lw sc' ar' := by
  intro n k m r f g w0 hn7 hkl w1 hm hr w2 hf w3 hg
  obtain rfl : l = n := (nI_eq (by omega) (by omega)).mp (e1.symm.trans w0)
  have u1 := (hk.2.2 k hkl).symm.trans w1
  have u2 := (hk.2.1 (13 * k + r) (by omega)).symm.trans w2
  have u3 := (hk.2.1 (13 * k + r + 1) (by omega)).symm.trans w3
  exact tk_ag (fun x hx => hk.1 x (by omega)) 701 _ 0 (h l k m r f g e0 (by omega) hkl u1 hm hr u2 hf u3 hg)
/-- what the reference's law leaves -/
def LrO (tk : Nat → Int32) (sz : Nat) (x2 : Int32) (sc sc' : Nat → Int32) (ar ar' : Nat → Nat → Int32) : Prop := ∀ l : Nat, l < 7 → sc 4907 = nI l → (sc' 4907 = nI l ∧ Kl ar ar' l ∧ (∀ x, x < 12 * l → ar' 73 x = ar 73 x) ∧ ar' 68 = ar 68) ∨ (l < 6 ∧ sc' 4907 = nI (l + 1) ∧ Kl ar ar' l ∧ (∀ x, x < 12 * l → ar' 73 x = ar 73 x) ∧ ar' 68 = upd (ar 68) l x2 ∧ LnV ar' l tk sz)
theorem lro_0 {tk : Nat → Int32} {sz l0 : Nat} {x2 : Int32} {sc sc' : Nat → Int32} {ar ar' : Nat → Nat → Int32} (h0 : l0 < 7) (e0 : sc 4907 = nI l0) (h : sc' 4907 = nI l0) (hk : Kl ar ar' l0) (h7 : ∀ x, x < 12 * l0 → ar' 73 x = ar 73 x) (a : ar' 68 = ar 68) : LrO tk sz x2 sc sc' ar ar' := fun l hl e => by
  obtain rfl : l0 = l := (nI_eq (by omega) (by omega)).mp (e0.symm.trans e)
  exact Or.inl ⟨h, hk, h7, a⟩
theorem lro_1 {tk : Nat → Int32} {sz l0 : Nat} {x2 : Int32} {sc sc' : Nat → Int32} {ar ar' : Nat → Nat → Int32} (h0 : l0 < 6) (e0 : sc 4907 = nI l0) (h : sc' 4907 = nI (l0 + 1)) (hk : Kl ar ar' l0) (h7 : ∀ x, x < 12 * l0 → ar' 73 x = ar 73 x) (a : ar' 68 = upd (ar 68) l0 x2) (hv : LnV ar' l0 tk sz) : LrO tk sz x2 sc sc' ar ar' := fun l hl e => by
  obtain rfl : l0 = l := (nI_eq (by omega) (by omega)).mp (e0.symm.trans e)
  exact Or.inr ⟨h0, h, hk, h7, a, hv⟩
theorem kl_0 {ar ar' : Nat → Nat → Int32} {l : Nat} (h1 : ar' 71 = ar 71) (h2 : ar' 70 = ar 70) (h3 : ar' 69 = ar 69) : Kl ar ar' l := ⟨fun x _ => congrFun h1 x, fun x _ => congrFun h2 x, fun x _ => congrFun h3 x⟩
set_option maxRecDepth 20000 in
theorem sf_X10_law {X : Nat × (Nat → Int32)} {S a b : Nat} {sc : Nat → Int32} {ar : Nat → Nat → Int32} {lo : Nat → Int64} {ex : Bool} (hW : Wd S a b) (hI : Iv S sc ar) (x1 : Int32) (x2 : Int32) (tk : Nat → Int32) (pl g : Nat → Nat) (sz : Nat) (hst : ∀ s n : Nat, s ≤ 400 → sc 4908 = nI s → x1 = nI n → n ≤ s → (0 ≤ x2 ∧ x2 ≤ 100) → ∀ l : Nat, sc 4907 = nI l → l < 6 → (Sm (ar 67) n tk pl g sz ∧ ∀ t, t < n → ¬ ar 67 t = -1)) (hL : Lw sc ar) (d : Nat)  : ci X S a b (d + 33) 132 [.ref 49, .int x1, .int x2] sc ar lo ex (fun x sc' ar' => Iv S sc' ar' ∧ Fr [4901, 4907, 4908, 4909, 4934, 4935, 4936, 4937, 4938, 4939, 4940, 4941, 4942] [68, 69, 70, 71, 73] sc ar sc' ar' ∧ (Lw sc' ar' ∧ (LwO tk pl sz 4908 4909 4907 x1 x2 sc sc' ∨ (LwT 4908 x1 x2 sc ∧ (sc' 4908 = sc 4908 ∧ sc' 4909 = sc 4909 ∧ sc' 4907 = sc 4907 ∧ sc' 4901 = 1))) ∧ LrO tk sz x2 sc sc' ar ar')) := by
  obtain ⟨ha1, ha8, hb1, hb8, hab, hS1, hS⟩ := id hW
  obtain ⟨n0, hn0, en⟩ := iv_s4907 hI
  obtain ⟨s0, hs0, es0⟩ := iv_s4908 hI
  refine ci_of (M := an_X10_law) rfl (Nat.le_of_ble_eq_true rfl) ?_
  have hF : Fr [4901, 4907, 4908, 4909, 4934, 4935, 4936, 4937, 4938, 4939, 4940, 4941, 4942] [68, 69, 70, 71, 73] sc ar sc ar := fr_0
  refine to_eq (fr' := (0, [(0, .ref 49), (1, .int x1), (2, .int x2)], [], gh S a b sc ar lo, ex, 0, 0)) rfl ?_
  refine to_n 2 (fr' := (2, [(0, .ref 49), (1, .int x1), (2, .int x2)], [.int 0, .ref 49], gh S a b sc ar lo, ex, 0, 0)) rfl ?_
  refine to_putR (h' := gh S a b (upd sc 4901 0) ar lo) rfl rfl rfl (Nat.le_of_ble_eq_true rfl) rfl rfl ?_
  have hI1 := ip_4901 (v := 0) hI 
  have hF1 := fr_s (k := 4901) (v := 0) hF (by decide)
  refine to_n 1 (fr' := (6, [(0, .ref 49), (1, .int x1), (2, .int x2)], [.int x1], gh S a b (upd sc 4901 0) ar lo, ex, 0, 0)) rfl ?_
  refine to_if_lt (t := 27) rfl (fun q2 => ?_) (fun q2 => ?_)
  · refine to_n 1 (fr' := (28, [(0, .ref 49), (1, .int x1), (2, .int x2)], [.ref 49], gh S a b (upd sc 4901 0) ar lo, ex, 0, 0)) rfl ?_
    refine to_ci (q := 109) (M1 := an_X10_fail) (rest := []) rfl rfl (by decide) rfl ⟨_, rfl⟩ (sf_X10_fail hW hI1  (d + 31)) (fun x4 sc4 ar4 hx4 => ?_)
    obtain ⟨hI4, hG4, hx4⟩ := hx4
    have hF4 := fr_t hF1 hG4 (by decide) (by decide)
    have k4_4907 : sc4 4907 = (nI n0) := (hG4.1 4907 (by decide)).trans en
    have hp4 := hx4
    have hLf4 : Fr [4901, 4908, 4909] [] sc ar sc4 ar4 := fr_t (fr_s (k := 4901) (v := 0) fr_0 (by decide)) hG4 (by decide) (by decide)
    refine to_eq (fr' := (31, [(0, .ref 49), (1, .int x1), (2, .int x2)], [.int x4], gh S a b sc4 ar4 lo, ex, 0, 0)) rfl ?_
    exact to_rt (i := .ireturn) (tg := []) rfl rfl ⟨_, _, _, ⟨hI4, hF4, ⟨(lw_fr (L := [4901, 4908, 4909]) (A := []) hL hLf4 (by decide) (by decide) (by decide) (by decide)), (Or.inr ⟨(fun s n hs es e hn hx => nI_neg (by omega) q2 e.symm), ⟨hG4.1 4908 (by decide), hG4.1 4909 (by decide), hG4.1 4907 (by decide), hp4⟩⟩), (lro_0 (by omega) en ((hG4.1 4907 (by decide)).trans en) (kl_0 (hG4.2 71 (by decide)) (hG4.2 70 (by decide)) (hG4.2 69 (by decide))) (fun x _ => congrFun (hG4.2 73 (by decide)) x) (hG4.2 68 (by decide)))⟩⟩, rfl⟩
  · obtain ⟨n3, hn3, e3⟩ := nI_of q2
    refine to_eq (fr' := (9, [(0, .ref 49), (1, .int (nI n3)), (2, .int x2)], [], gh S a b (upd sc 4901 0) ar lo, ex, 0, 0)) (by rw [e3]) ?_
    refine to_eq (fr' := (9, [(0, .ref 49), (1, .int (nI n3)), (2, .int x2)], [], gh S a b (upd sc 4901 0) ar lo, ex, 0, 0)) rfl ?_
    refine to_n 2 (fr' := (11, [(0, .ref 49), (1, .int (nI n3)), (2, .int x2)], [.ref 49, .int (nI n3)], gh S a b (upd sc 4901 0) ar lo, ex, 0, 0)) rfl ?_
    refine to_getR (v := (nI s0)) rfl rfl rfl rfl es0 ?_
    refine to_nc_gt (t := 27) (x := n3) (y := s0) rfl (by omega) (by omega) (fun q5 => ?_) (fun q5 => ?_)
    · refine to_n 1 (fr' := (28, [(0, .ref 49), (1, .int (nI n3)), (2, .int x2)], [.ref 49], gh S a b (upd sc 4901 0) ar lo, ex, 0, 0)) rfl ?_
      refine to_ci (q := 109) (M1 := an_X10_fail) (rest := []) rfl rfl (by decide) rfl ⟨_, rfl⟩ (sf_X10_fail hW hI1  (d + 31)) (fun x6 sc6 ar6 hx6 => ?_)
      obtain ⟨hI6, hG6, hx6⟩ := hx6
      have hF6 := fr_t hF1 hG6 (by decide) (by decide)
      have k6_4907 : sc6 4907 = (nI n0) := (hG6.1 4907 (by decide)).trans en
      have hp6 := hx6
      have hLf6 : Fr [4901, 4908, 4909] [] sc ar sc6 ar6 := fr_t (fr_s (k := 4901) (v := 0) fr_0 (by decide)) hG6 (by decide) (by decide)
      refine to_eq (fr' := (31, [(0, .ref 49), (1, .int (nI n3)), (2, .int x2)], [.int x6], gh S a b sc6 ar6 lo, ex, 0, 0)) rfl ?_
      exact to_rt (i := .ireturn) (tg := []) rfl rfl ⟨_, _, _, ⟨hI6, hF6, ⟨(lw_fr (L := [4901, 4908, 4909]) (A := []) hL hLf6 (by decide) (by decide) (by decide) (by decide)), (Or.inr ⟨(fun s n hs es e hn hx => by have a1 : s0 = s := (nI_eq (by omega) (by omega)).mp (es0.symm.trans es); have a2 : n3 = n := (nI_eq (by omega) (by omega)).mp (e3.symm.trans e); omega), ⟨hG6.1 4908 (by decide), hG6.1 4909 (by decide), hG6.1 4907 (by decide), hp6⟩⟩), (lro_0 (by omega) en ((hG6.1 4907 (by decide)).trans en) (kl_0 (hG6.2 71 (by decide)) (hG6.2 70 (by decide)) (hG6.2 69 (by decide))) (fun x _ => congrFun (hG6.2 73 (by decide)) x) (hG6.2 68 (by decide)))⟩⟩, rfl⟩
    · refine to_n 1 (fr' := (18, [(0, .ref 49), (1, .int (nI n3)), (2, .int x2)], [.int x2], gh S a b (upd sc 4901 0) ar lo, ex, 0, 0)) rfl ?_
      refine to_if_lt (t := 27) rfl (fun q7 => ?_) (fun q7 => ?_)
      · refine to_n 1 (fr' := (28, [(0, .ref 49), (1, .int (nI n3)), (2, .int x2)], [.ref 49], gh S a b (upd sc 4901 0) ar lo, ex, 0, 0)) rfl ?_
        refine to_ci (q := 109) (M1 := an_X10_fail) (rest := []) rfl rfl (by decide) rfl ⟨_, rfl⟩ (sf_X10_fail hW hI1  (d + 31)) (fun x8 sc8 ar8 hx8 => ?_)
        obtain ⟨hI8, hG8, hx8⟩ := hx8
        have hF8 := fr_t hF1 hG8 (by decide) (by decide)
        have k8_4907 : sc8 4907 = (nI n0) := (hG8.1 4907 (by decide)).trans en
        have hp8 := hx8
        have hLf8 : Fr [4901, 4908, 4909] [] sc ar sc8 ar8 := fr_t (fr_s (k := 4901) (v := 0) fr_0 (by decide)) hG8 (by decide) (by decide)
        refine to_eq (fr' := (31, [(0, .ref 49), (1, .int (nI n3)), (2, .int x2)], [.int x8], gh S a b sc8 ar8 lo, ex, 0, 0)) rfl ?_
        exact to_rt (i := .ireturn) (tg := []) rfl rfl ⟨_, _, _, ⟨hI8, hF8, ⟨(lw_fr (L := [4901, 4908, 4909]) (A := []) hL hLf8 (by decide) (by decide) (by decide) (by decide)), (Or.inr ⟨(fun s n hs es e hn hx => Int32.not_lt.mpr hx.1 q7), ⟨hG8.1 4908 (by decide), hG8.1 4909 (by decide), hG8.1 4907 (by decide), hp8⟩⟩), (lro_0 (by omega) en ((hG8.1 4907 (by decide)).trans en) (kl_0 (hG8.2 71 (by decide)) (hG8.2 70 (by decide)) (hG8.2 69 (by decide))) (fun x _ => congrFun (hG8.2 73 (by decide)) x) (hG8.2 68 (by decide)))⟩⟩, rfl⟩
      · refine to_n 2 (fr' := (24, [(0, .ref 49), (1, .int (nI n3)), (2, .int x2)], [.int 100, .int x2], gh S a b (upd sc 4901 0) ar lo, ex, 0, 0)) rfl ?_
        refine to_ic_le (t := 32) rfl (fun q9 => ?_) (fun q9 => ?_)
        · refine to_n 2 (fr' := (34, [(0, .ref 49), (1, .int (nI n3)), (2, .int x2)], [.int 0, .ref 49], gh S a b (upd sc 4901 0) ar lo, ex, 0, 0)) rfl ?_
          refine to_putR (h' := gh S a b (upd (upd sc 4901 0) 4908 0) ar lo) rfl rfl rfl (Nat.le_of_ble_eq_true rfl) rfl rfl ?_
          have hI10 := ip_4908 (v := 0) hI1 (rl_n (n := 0) (by omega))
          have hF10 := fr_s (k := 4908) (v := 0) hF1 (by decide)
          refine to_n 2 (fr' := (39, [(0, .ref 49), (1, .int (nI n3)), (2, .int x2)], [.int (-1), .ref 49], gh S a b (upd (upd sc 4901 0) 4908 0) ar lo, ex, 0, 0)) rfl ?_
          refine to_putR (h' := gh S a b (upd (upd (upd sc 4901 0) 4908 0) 4909 (-1)) ar lo) rfl rfl rfl (Nat.le_of_ble_eq_true rfl) rfl rfl ?_
          have hI11 := ip_4909 (v := (-1)) hI10 
          have hF11 := fr_s (k := 4909) (v := (-1)) hF10 (by decide)
          refine to_n 1 (fr' := (43, [(0, .ref 49), (1, .int (nI n3)), (2, .int x2)], [.ref 49], gh S a b (upd (upd (upd sc 4901 0) 4908 0) 4909 (-1)) ar lo, ex, 0, 0)) rfl ?_
          refine to_getR (v := (nI n0)) rfl rfl rfl rfl en ?_
          refine to_n 1 (fr' := (48, [(0, .ref 49), (1, .int (nI n3)), (2, .int x2)], [.int 6, .int (nI n0)], gh S a b (upd (upd (upd sc 4901 0) 4908 0) 4909 (-1)) ar lo, ex, 0, 0)) rfl ?_
          refine to_nc_ne (t := 54) (x := n0) (y := 6) rfl (by omega) (by omega) (fun q12 => ?_) (fun q12 => ?_)
          · refine to_n 2 (fr' := (56, [(0, .ref 49), (1, .int (nI n3)), (2, .int x2)], [.int (nI n3), .ref 49], gh S a b (upd (upd (upd sc 4901 0) 4908 0) 4909 (-1)) ar lo, ex, 0, 0)) rfl ?_
            refine to_putR (h' := gh S a b (upd (upd (upd (upd sc 4901 0) 4908 0) 4909 (-1)) 4936 (nI n3)) ar lo) rfl rfl rfl (Nat.le_of_ble_eq_true rfl) rfl rfl ?_
            have hI13 := ip_4936 (v := (nI n3)) hI11 (rl_n (n := n3) (by omega))
            have hF13 := fr_s (k := 4936) (v := (nI n3)) hF11 (by decide)
            refine to_n 2 (fr' := (61, [(0, .ref 49), (1, .int (nI n3)), (2, .int x2)], [.int 0, .ref 49], gh S a b (upd (upd (upd (upd sc 4901 0) 4908 0) 4909 (-1)) 4936 (nI n3)) ar lo, ex, 0, 0)) rfl ?_
            refine to_putR (h' := gh S a b (upd (upd (upd (upd (upd sc 4901 0) 4908 0) 4909 (-1)) 4936 (nI n3)) 4935 0) ar lo) rfl rfl rfl (Nat.le_of_ble_eq_true rfl) rfl rfl ?_
            have hI14 := ip_4935 (v := 0) hI13 (rl_n (n := 0) (by omega))
            have hF14 := fr_s (k := 4935) (v := 0) hF13 (by decide)
            refine to_n 2 (fr' := (66, [(0, .ref 49), (1, .int (nI n3)), (2, .int x2)], [.int 0, .ref 49], gh S a b (upd (upd (upd (upd (upd sc 4901 0) 4908 0) 4909 (-1)) 4936 (nI n3)) 4935 0) ar lo, ex, 0, 0)) rfl ?_
            refine to_putR (h' := gh S a b (upd (upd (upd (upd (upd (upd sc 4901 0) 4908 0) 4909 (-1)) 4936 (nI n3)) 4935 0) 4941 0) ar lo) rfl rfl rfl (Nat.le_of_ble_eq_true rfl) rfl rfl ?_
            have hI15 := ip_4941 (v := 0) hI14 
            have hF15 := fr_s (k := 4941) (v := 0) hF14 (by decide)
            refine to_n 2 (fr' := (71, [(0, .ref 49), (1, .int (nI n3)), (2, .int x2)], [.int 0, .ref 49], gh S a b (upd (upd (upd (upd (upd (upd sc 4901 0) 4908 0) 4909 (-1)) 4936 (nI n3)) 4935 0) 4941 0) ar lo, ex, 0, 0)) rfl ?_
            refine to_putR (h' := gh S a b (upd (upd (upd (upd (upd (upd (upd sc 4901 0) 4908 0) 4909 (-1)) 4936 (nI n3)) 4935 0) 4941 0) 4934 0) ar lo) rfl rfl rfl (Nat.le_of_ble_eq_true rfl) rfl rfl ?_
            have hI16 := ip_4934 (v := 0) hI15 (rl_n (n := 0) (by omega))
            have hF16 := fr_s (k := 4934) (v := 0) hF15 (by decide)
            refine to_n 1 (fr' := (75, [(0, .ref 49), (1, .int (nI n3)), (2, .int x2)], [.ref 49], gh S a b (upd (upd (upd (upd (upd (upd (upd sc 4901 0) 4908 0) 4909 (-1)) 4936 (nI n3)) 4935 0) 4941 0) 4934 0) ar lo, ex, 0, 0)) rfl ?_
            refine to_cv (q := 127) (M1 := an_X10_readLaw) (rest := []) rfl rfl (by decide) rfl ⟨_, rfl⟩ (rd_readLaw hW hI16 n0 n3 (by omega) (by omega) tk pl g sz (hst s0 n3 (by omega) es0 e3 (by omega) ⟨Int32.not_lt.mp q7, q9⟩ n0 en (by omega)).1 (hst s0 n3 (by omega) es0 e3 (by omega) ⟨Int32.not_lt.mp q7, q9⟩ n0 en (by omega)).2 en rfl rfl rfl rfl d) (fun sc17 ar17 hx17 => ?_)
            obtain ⟨hI17, hG17, hk17, hr17, hy17, h7317, hlv17⟩ := hx17
            have hF17 := fr_t hF16 hG17 (by decide) (by decide)
            have k17_4907 : sc17 4907 = (nI n0) := (hG17.1 4907 (by decide)).trans en
            rcases hr17 with hb17 | ⟨hb17, hn17⟩
            · have k17_4908 : sc17 4908 = 0 := (hG17.1 4908 (by decide)).trans rfl
              have k17_4909 : sc17 4909 = -1 := (hG17.1 4909 (by decide)).trans rfl
              refine to_eq (fr' := (78, [(0, .ref 49), (1, .int (nI n3)), (2, .int x2)], [], gh S a b sc17 ar17 lo, ex, 0, 0)) rfl ?_
              refine to_n 1 (fr' := (79, [(0, .ref 49), (1, .int (nI n3)), (2, .int x2)], [.ref 49], gh S a b sc17 ar17 lo, ex, 0, 0)) rfl ?_
              refine to_getR (v := (sc17 4941)) rfl rfl rfl rfl rfl ?_
              refine to_if_eq_F (t := 100) rfl hb17 ?_
              refine to_n 2 (fr' := (87, [(0, .ref 49), (1, .int (nI n3)), (2, .int x2)], [.ref 49, .ref 49], gh S a b sc17 ar17 lo, ex, 0, 0)) rfl ?_
              refine to_getR (v := (sc17 4942)) rfl rfl rfl rfl rfl ?_
              refine to_putR (h' := gh S a b (upd sc17 4909 (sc17 4942)) ar17 lo) rfl rfl rfl (Nat.le_of_ble_eq_true rfl) rfl rfl ?_
              have hI18 := ip_4909 (v := (sc17 4942)) hI17 
              have hF18 := fr_s (k := 4909) (v := (sc17 4942)) hF17 (by decide)
              refine to_n 2 (fr' := (95, [(0, .ref 49), (1, .int (nI n3)), (2, .int x2)], [.ref 49, .int (-1)], gh S a b (upd sc17 4909 (sc17 4942)) ar17 lo, ex, 0, 0)) rfl ?_
              refine to_getR (v := ((upd sc17 4909 (sc17 4942)) 4941)) rfl rfl rfl rfl rfl ?_
              refine to_n 1 (fr' := (99, [(0, .ref 49), (1, .int (nI n3)), (2, .int x2)], [.int ((-1) - ((upd sc17 4909 (sc17 4942)) 4941))], gh S a b (upd sc17 4909 (sc17 4942)) ar17 lo, ex, 0, 0)) rfl ?_
              exact to_rt (i := .ireturn) (tg := []) rfl rfl ⟨_, _, _, ⟨hI18, hF18, ⟨(lw_kl hL (by omega) en k17_4907 hk17), (Or.inl ⟨s0, n3, n0, by omega, es0, e3, by omega, ⟨Int32.not_lt.mp q7, q9⟩, k17_4908, by omega, en, Or.inr ⟨by omega, hy17.elim (fun w => absurd w.1 hb17) (fun w => w.2.elim fun k u => ⟨k, Or.inr ⟨u.1, u.2, k17_4907⟩⟩)⟩⟩), (lro_0 (by omega) en k17_4907 hk17 h7317 (hG17.2 68 (by decide)))⟩⟩, rfl⟩
            · have k17_4908 : sc17 4908 = 0 := (hG17.1 4908 (by decide)).trans rfl
              have k17_4909 : sc17 4909 = -1 := (hG17.1 4909 (by decide)).trans rfl
              refine to_eq (fr' := (78, [(0, .ref 49), (1, .int (nI n3)), (2, .int x2)], [], gh S a b sc17 ar17 lo, ex, 0, 0)) rfl ?_
              refine to_n 1 (fr' := (79, [(0, .ref 49), (1, .int (nI n3)), (2, .int x2)], [.ref 49], gh S a b sc17 ar17 lo, ex, 0, 0)) rfl ?_
              refine to_getR (v := 0) rfl rfl rfl rfl hb17 ?_
              refine to_n 2 (fr' := (101, [(0, .ref 49), (1, .int (nI n3)), (2, .int x2)], [.ref 49], gh S a b sc17 ar17 lo, ex, 0, 0)) rfl ?_
              refine to_get rfl rfl rfl rfl ?_
              refine to_n 1 (fr' := (105, [(0, .ref 49), (1, .int (nI n3)), (2, .int x2)], [.ref 49, .ref 68], gh S a b sc17 ar17 lo, ex, 0, 0)) rfl ?_
              refine to_getR (v := (nI n0)) rfl rfl rfl rfl k17_4907 ?_
              refine to_n 1 (fr' := (109, [(0, .ref 49), (1, .int (nI n3)), (2, .int x2)], [.int x2, .int (nI n0), .ref 68], gh S a b sc17 ar17 lo, ex, 0, 0)) rfl ?_
              refine to_iasR (i := n0) (h' := gh S a b sc17 (uA ar17 68 (upd (ar17 68) n0 x2)) lo) rfl rfl (by omega) (by omega) rfl ?_
              have hI19 := ia_68 (g := (upd (ar17 68) n0 x2)) hI17
              have hF19 := fr_a (c := 68) (g := (upd (ar17 68) n0 x2)) hF17 (by decide)
              refine to_n 2 (fr' := (112, [(0, .ref 49), (1, .int (nI n3)), (2, .int x2)], [.ref 49, .ref 49], gh S a b sc17 (uA ar17 68 (upd (ar17 68) n0 x2)) lo, ex, 0, 0)) rfl ?_
              refine to_getR (v := (nI n0)) rfl rfl rfl rfl k17_4907 ?_
              refine to_n 1 (fr' := (116, [(0, .ref 49), (1, .int (nI n3)), (2, .int x2)], [.int 1, .int (nI n0), .ref 49], gh S a b sc17 (uA ar17 68 (upd (ar17 68) n0 x2)) lo, ex, 0, 0)) rfl ?_
              refine to_addN (x := n0) (y := 1) rfl ?_
              refine to_putR (h' := gh S a b (upd sc17 4907 (nI (n0 + 1))) (uA ar17 68 (upd (ar17 68) n0 x2)) lo) rfl rfl rfl (Nat.le_of_ble_eq_true rfl) rfl rfl ?_
              have hI20 := ip_4907 (v := (nI (n0 + 1))) hI19 (rl_n (n := (n0 + 1)) (by omega))
              have hF20 := fr_s (k := 4907) (v := (nI (n0 + 1))) hF19 (by decide)
              refine to_n 1 (fr' := (121, [(0, .ref 49), (1, .int (nI n3)), (2, .int x2)], [.ref 49], gh S a b (upd sc17 4907 (nI (n0 + 1))) (uA ar17 68 (upd (ar17 68) n0 x2)) lo, ex, 0, 0)) rfl ?_
              refine to_getR (v := (nI (n0 + 1))) rfl rfl rfl rfl rfl ?_
              refine to_n 1 (fr' := (125, [(0, .ref 49), (1, .int (nI n3)), (2, .int x2)], [.int 1, .int (nI (n0 + 1))], gh S a b (upd sc17 4907 (nI (n0 + 1))) (uA ar17 68 (upd (ar17 68) n0 x2)) lo, ex, 0, 0)) rfl ?_
              refine to_subN (x := (n0 + 1)) (y := 1) rfl (by omega) ?_
              exact to_rt (i := .ireturn) (tg := []) rfl rfl ⟨_, _, _, ⟨hI20, hF20, ⟨(lw_more hL (by omega) en rfl hk17 hn17), (Or.inl ⟨s0, n3, n0, by omega, es0, e3, by omega, ⟨Int32.not_lt.mp q7, q9⟩, k17_4908, by omega, en, Or.inr ⟨by omega, hy17.elim (fun w => w.2.elim fun k u => ⟨k, Or.inl ⟨u, k17_4909, rfl⟩⟩) (fun w => absurd hb17 w.1)⟩⟩), (lro_1 (by omega) en rfl hk17 h7317 (by rw [uA_s]; exact congrArg (fun f => upd f n0 x2) (hG17.2 68 (by decide))) (hlv17 hb17))⟩⟩, rfl⟩
          · refine to_n 1 (fr' := (53, [(0, .ref 49), (1, .int (nI n3)), (2, .int x2)], [.int (-9)], gh S a b (upd (upd (upd sc 4901 0) 4908 0) 4909 (-1)) ar lo, ex, 0, 0)) rfl ?_
            exact to_rt (i := .ireturn) (tg := []) rfl rfl ⟨_, _, _, ⟨hI11, hF11, ⟨(lw_fr (L := [4901, 4908, 4909]) (A := []) hL (fr_s (k := 4909) (v := (-1)) (fr_s (k := 4908) (v := 0) (fr_s (k := 4901) (v := 0) fr_0 (by decide)) (by decide)) (by decide)) (by decide) (by decide) (by decide) (by decide)), (Or.inl ⟨s0, n3, n0, by omega, es0, e3, by omega, ⟨Int32.not_lt.mp q7, q9⟩, rfl, by omega, en, Or.inl ⟨by omega, rfl, (show _ = nI n0 from en).trans (congrArg nI (by omega))⟩⟩), (lro_0 (by omega) en (show _ = nI n0 from en) (kl_0 rfl rfl rfl) (fun _ _ => rfl) rfl)⟩⟩, rfl⟩
        · refine to_n 1 (fr' := (28, [(0, .ref 49), (1, .int (nI n3)), (2, .int x2)], [.ref 49], gh S a b (upd sc 4901 0) ar lo, ex, 0, 0)) rfl ?_
          refine to_ci (q := 109) (M1 := an_X10_fail) (rest := []) rfl rfl (by decide) rfl ⟨_, rfl⟩ (sf_X10_fail hW hI1  (d + 31)) (fun x21 sc21 ar21 hx21 => ?_)
          obtain ⟨hI21, hG21, hx21⟩ := hx21
          have hF21 := fr_t hF1 hG21 (by decide) (by decide)
          have k21_4907 : sc21 4907 = (nI n0) := (hG21.1 4907 (by decide)).trans en
          have hp21 := hx21
          have hLf21 : Fr [4901, 4908, 4909] [] sc ar sc21 ar21 := fr_t (fr_s (k := 4901) (v := 0) fr_0 (by decide)) hG21 (by decide) (by decide)
          refine to_eq (fr' := (31, [(0, .ref 49), (1, .int (nI n3)), (2, .int x2)], [.int x21], gh S a b sc21 ar21 lo, ex, 0, 0)) rfl ?_
          exact to_rt (i := .ireturn) (tg := []) rfl rfl ⟨_, _, _, ⟨hI21, hF21, ⟨(lw_fr (L := [4901, 4908, 4909]) (A := []) hL hLf21 (by decide) (by decide) (by decide) (by decide)), (Or.inr ⟨(fun s n hs es e hn hx => q9 hx.2), ⟨hG21.1 4908 (by decide), hG21.1 4909 (by decide), hG21.1 4907 (by decide), hp21⟩⟩), (lro_0 (by omega) en ((hG21.1 4907 (by decide)).trans en) (kl_0 (hG21.2 71 (by decide)) (hG21.2 70 (by decide)) (hG21.2 69 (by decide))) (fun x _ => congrFun (hG21.2 73 (by decide)) x) (hG21.2 68 (by decide)))⟩⟩, rfl⟩
