/-! BYTES, as both sides hold them -/
def By (x y : Int32) : Prop := ∃ z : Int32, x = vp_nar .byte (z.toInt8.toInt32) ∧ y = z &&& 255
theorem by_nat (z : Int32) : ∃ m : Nat, m < 256 ∧ z &&& 255 = nI m ∧ z.toInt8 = (nI m).toInt8 := by
  refine ⟨z.toBitVec.toNat % 256, Nat.mod_lt _ (by decide), ?_, ?_⟩
  · apply Int32.toBitVec_inj.mp
    apply BitVec.eq_of_toNat_eq
    rw [Int32.toBitVec_and, BitVec.toNat_and]
    show z.toBitVec.toNat &&& (2 ^ 8 - 1) = (BitVec.ofNat 32 (z.toBitVec.toNat % 256)).toNat
    rw [BitVec.toNat_ofNat, Nat.mod_eq_of_lt (show z.toBitVec.toNat % 256 < 2 ^ 32 by omega), Nat.and_two_pow_sub_one_eq_mod]
  · apply Int8.toBitVec_inj.mp
    apply BitVec.eq_of_toNat_eq
    show (z.toBitVec.signExtend 8).toNat = ((BitVec.ofNat 32 (z.toBitVec.toNat % 256)).signExtend 8).toNat
    rw [BitVec.signExtend_eq_setWidth_of_le _ (by decide), BitVec.signExtend_eq_setWidth_of_le _ (by decide), BitVec.toNat_setWidth, BitVec.toNat_setWidth, BitVec.toNat_ofNat]
    omega
theorem by_all {P : Int32 → Int32 → Prop} {x y : Int32} (h : ∀ m, m < 256 → P (vp_nar .byte ((nI m).toInt8.toInt32)) (nI m)) (b : By x y) : P x y := by
  obtain ⟨z, rfl, rfl⟩ := b
  obtain ⟨m, hm, e1, e2⟩ := by_nat z
  rw [e1, e2]
  exact h m hm
theorem by_sp {x y : Int32} (b : By x y) : isp x ↔ isp y := by_all (P := fun x y => (x = 32 ∨ x = 10) ↔ (y = 32 ∨ y = 10)) (by decide +kernel) b
theorem by_lt {x y : Int32} (b : By x y) : ilt x ↔ ilt y := by_all (P := fun x y => (97 ≤ x ∧ x ≤ 122) ↔ (97 ≤ y ∧ y ≤ 122)) (by decide +kernel) b
theorem by_dg {x y : Int32} (b : By x y) : idg x ↔ idg y := by_all (P := fun x y => (48 ≤ x ∧ x ≤ 57) ↔ (48 ≤ y ∧ y ≤ 57)) (by decide +kernel) b
theorem by_dge {x y : Int32} (b : By x y) : idg x → y = x := by_all (P := fun x y => (48 ≤ x ∧ x ≤ 57) → y = x) (by decide +kernel) b
theorem by_ne {x y : Int32} (b : By x y) : ¬ y = -1 := by_all (P := fun _ y => ¬ y = -1) (by decide +kernel) b
theorem by_sg {x y : Int32} (b : By x y) : sgc y = sgc x := by_all (P := fun x y => sgc y = sgc x) (by decide +kernel) b
theorem by_c {x y : Int32} (b : By x y) : ∀ c, c < 128 → (x = nI c ↔ y = nI c) := by_all (P := fun x y => ∀ c, c < 128 → (x = nI c ↔ y = nI c)) (by decide +kernel) b
theorem tx_asc : ∀ i, i < 16 → 3 ≤ i → ∀ k, k < (ai_tx i).length → ∃ c, c < 128 ∧ (ai_tx i).getD k 0 = nI c := by decide +kernel
section BYTES
variable {T T' : Nat → Int32} {n : Nat}
theorem rn_by {P : Int32 → Prop} {p q : Nat} (hP : ∀ x y, By x y → (P x ↔ P y)) (hb : ∀ t, t < n → By (T t) (T' t)) (h : rn_ P T n p q) : rn_ P T' n p q := by
  obtain ⟨h1, h2, h3, h4⟩ := h
  exact ⟨h1, h2, fun k a b => (hP _ _ (hb k (by omega))).mp (h3 k a b), fun w u => h4 w ((hP _ _ (hb q w)).mpr u)⟩
theorem wd_by {p e i : Nat} (hi : i < 16) (hi3 : 3 ≤ i) (he : e ≤ n) (hb : ∀ t, t < n → By (T t) (T' t)) : wd_ T p e i ↔ wd_ T' p e i := by
  unfold wd_
  refine and_congr_right (fun h1 => forall_congr' (fun k => ?_))
  refine ⟨fun h hk => ?_, fun h hk => ?_⟩
  · obtain ⟨c, hc, ec⟩ := tx_asc i hi hi3 k hk
    rw [ec]
    exact (by_c (hb (p + k) (by omega)) c hc).mp ((h hk).trans ec)
  · obtain ⟨c, hc, ec⟩ := tx_asc i hi hi3 k hk
    rw [ec]
    exact (by_c (hb (p + k) (by omega)) c hc).mpr ((h hk).trans ec)
theorem wc_by {p e : Nat} {c : Int32} (he : e ≤ n) (hb : ∀ t, t < n → By (T t) (T' t)) (h : Wc T p e c) : Wc T' p e c :=
  ⟨fun x hx => (wd_by ((show ∀ x, x ∈ wcd → x.1 < 16 ∧ 3 ≤ x.1 by decide +kernel) x hx).1 ((show ∀ x, x ∈ wcd → x.1 < 16 ∧ 3 ≤ x.1 by decide +kernel) x hx).2 he hb).symm.trans (h.1 x hx), h.2⟩
theorem nv_by {p : Nat} : ∀ k, (∀ t, p ≤ t → t < p + k → T' t = T t) → nv_ T' p k = nv_ T p k
  | 0, _ => rfl
  | k + 1, h => by rw [nv_, nv_, nv_by k (fun t a b => h t a (by omega)), h (p + k) (by omega) (by omega)]
theorem ta_by {p e : Nat} {c : Int32} (hp : p < n) (hb : ∀ t, t < n → By (T t) (T' t)) (h : TokAt T n p c e) : TokAt T' n p c e := by
  have hle := (ta_lt h hp).2
  have b := hb p hp
  rcases h with ⟨h1, h2, h3⟩ | ⟨h0, h1, h2, h3⟩ | ⟨h0, h1, h2, h3⟩
  · exact Or.inl ⟨(by_lt b).mp h1, rn_by (fun _ _ => by_lt) hb h2, wc_by hle hb h3⟩
  · refine Or.inr (Or.inl ⟨fun w => h0 ((by_lt b).mpr w), (by_dg b).mp h1, rn_by (fun _ _ => by_dg) hb h2, h3.imp id (fun u => ⟨u.1, u.2.trans ?_⟩)⟩)
    have l := h2.1
    exact (nv_by (e - p) (fun t a b => by_dge (hb t (by omega)) (h2.2.2.1 t a (by omega)))).symm
  · exact Or.inr (Or.inr ⟨fun w => h0 ((by_lt b).mpr w), fun w => h1 ((by_dg b).mpr w), h2, h3.trans (by_sg b).symm⟩)
theorem sm_by {tk : Nat → Int32} {pl g : Nat → Nat} {sz : Nat} (hb : ∀ t, t < n → By (T t) (T' t)) (h : Sm T n tk pl g sz) : Sm T' n tk pl g sz := by
  obtain ⟨m1, m2, m3, m4, m5, m6, m7⟩ := h
  exact ⟨m1, m2, m3, fun j hj => ⟨(m4 j hj).1, rn_by (fun _ _ => by_sp) hb (m4 j hj).2.1, ta_by (m4 j hj).1 hb (m4 j hj).2.2⟩, m5, rn_by (fun _ _ => by_sp) hb m6, m7⟩
end BYTES
/-! what is kept: fault, tape, book -/
def Rf (sc : Nat → Int32) (ar : Nat → Nat → Int32) : Prop := (sc 10 = sc 4909 ∧ sc 2201 = sc 4908 ∧ sc 2903 = sc 4907) ∧ Be sc ar ∧ ∀ s t : Nat, s ≤ 400 → sc 2201 = nI s → t < s → By (ar 23 t) (ar 67 t)
section KEPT
variable {sc sc1 sc2 : Nat → Int32} {ar ar1 ar2 : Nat → Nat → Int32} {L A L1 A1 L2 A2 : List Nat}
theorem rf_f (R : Rf sc ar) (f : Fr L A sc ar sc1 ar1) (hL : 10 ∉ L ∧ 4909 ∉ L ∧ 2201 ∉ L ∧ 4908 ∉ L ∧ 2903 ∉ L ∧ 4907 ∉ L) (hA : 23 ∉ A ∧ 67 ∉ A ∧ 31 ∉ A) : Rf sc1 ar1 := by
  obtain ⟨⟨r1, r2, r3⟩, b, h⟩ := R
  refine ⟨⟨?_, ?_, ?_⟩, be_fr b f hL.2.2.2.2.1 hA.2.2, fun s t hs e ht => ?_⟩
  · rw [f.1 10 hL.1, f.1 4909 hL.2.1]
    exact r1
  · rw [f.1 2201 hL.2.2.1, f.1 4908 hL.2.2.2.1]
    exact r2
  · rw [f.1 2903 hL.2.2.2.2.1, f.1 4907 hL.2.2.2.2.2]
    exact r3
  · rw [f.2 23 hA.1, f.2 67 hA.2.1]
    exact h s t hs ((f.1 2201 hL.2.2.1).symm.trans e) ht
theorem rf_feed {x y x1 x2 x3 x4 x5 : Int32} (R : Rf sc ar) (h : fe_P 2201 x sc sc1 ∧ ((x = -1 ∧ ar1 23 = ar 23) ∨ ∃ s : Nat, sc 2201 = nI s ∧ s + 20 ≤ 400 ∧ (∀ t, t < s → ar1 23 t = ar 23 t) ∧ ∀ m, m < 20 → ar1 23 (s + m) = vp_nar .byte ((fz_ x1 x2 x3 x4 x5 m).toInt8.toInt32))) (f1 : Fr L1 A1 sc ar sc1 ar1) (g : fe_P 4908 y sc1 sc2 ∧ ((y = -1 ∧ ar2 67 = ar1 67) ∨ ∃ s : Nat, sc1 4908 = nI s ∧ s + 20 ≤ 400 ∧ (∀ t, t < s → ar2 67 t = ar1 67 t) ∧ ∀ m, m < 20 → ar2 67 (s + m) = fz_ x1 x2 x3 x4 x5 m &&& 255)) (f2 : Fr L2 A2 sc1 ar1 sc2 ar2) (d1 : 10 ∉ L1 ∧ 4909 ∉ L1 ∧ 4908 ∉ L1 ∧ 2903 ∉ L1 ∧ 4907 ∉ L1 ∧ 67 ∉ A1 ∧ 31 ∉ A1) (d2 : 10 ∉ L2 ∧ 4909 ∉ L2 ∧ 2201 ∉ L2 ∧ 2903 ∉ L2 ∧ 4907 ∉ L2 ∧ 23 ∉ A2 ∧ 31 ∉ A2) : Rf sc2 ar2 := by
  obtain ⟨⟨r1, r2, r3⟩, b, hb⟩ := R
  obtain ⟨a1, a2, a3, a4, a5, a6, a7⟩ := d1
  obtain ⟨c1, c2, c3, c4, c5, c6, c7⟩ := d2
  obtain ⟨e1, e2⟩ := fe_eq h.1 g.1 ((f1.1 4908 a3).trans r2.symm)
  have k1 : sc2 2201 = sc1 2201 := f2.1 2201 c3
  refine ⟨⟨?_, k1.trans e2, ?_⟩, be_fr (be_fr b f1 a4 a7) f2 c4 c7, fun s t hs e ht => ?_⟩
  · rw [f2.1 10 c1, f1.1 10 a1, f2.1 4909 c2, f1.1 4909 a2]
    exact r1
  · rw [f2.1 2903 c4, f1.1 2903 a4, f2.1 4907 c5, f1.1 4907 a5]
    exact r3
  · rw [f2.2 23 c6]
    obtain ⟨s0, hs0, es0, hp⟩ := h.1
    rcases hp with ⟨p1, p2, p3⟩ | ⟨p1, p2, p3⟩
    · have es : s = s0 + 20 := (nI_eq (by omega) (by omega)).mp (e.symm.trans (k1.trans p3))
      rcases h.2 with ⟨w, _⟩ | ⟨s1, v1, v2, v3, v4⟩
      · exact absurd (p2.symm.trans w) (nI_neg (by omega) (by decide))
      · rcases g.2 with ⟨w, _⟩ | ⟨s2, u1, u2, u3, u4⟩
        · exact absurd (p2.symm.trans (e1.symm.trans w)) (nI_neg (by omega) (by decide))
        · obtain rfl : s0 = s1 := (nI_eq (by omega) (by omega)).mp (es0.symm.trans v1)
          obtain rfl : s0 = s2 := (nI_eq (by omega) (by omega)).mp (es0.symm.trans (r2.trans ((f1.1 4908 a3).symm.trans u1)))
          by_cases w : t < s0
          · rw [v3 t w, u3 t w, f1.2 67 a6]
            exact hb s0 t (by omega) es0 w
          · have et : t = s0 + (t - s0) := by omega
            rw [et, v4 (t - s0) (by omega), u4 (t - s0) (by omega)]
            exact ⟨_, rfl, rfl⟩
    · have es : s = s0 := (nI_eq (by omega) (by omega)).mp (e.symm.trans (k1.trans (p3.trans es0)))
      rcases h.2 with ⟨_, w⟩ | ⟨s1, v1, v2, v3, v4⟩
      · rcases g.2 with ⟨_, u⟩ | ⟨s2, u1, u2, u3, u4⟩
        · rw [w, u, f1.2 67 a6]
          exact hb s t hs (by rw [es]; exact es0) ht
        · have := (nI_eq (by omega) (by omega)).mp (es0.symm.trans (r2.trans ((f1.1 4908 a3).symm.trans u1)))
          omega
      · have := (nI_eq (by omega) (by omega)).mp (es0.symm.trans v1)
        omega
theorem rf_law {tk : Nat → Int32} {pl : Nat → Nat} {sz : Nat} {x1 x2 : Int32} (R : Rf sc ar) (wo : LwO tk pl sz 2201 10 2903 x1 x2 sc sc1) (wb : Be sc1 ar1) (f1 : Fr L1 A1 sc ar sc1 ar1) (g : LwO tk pl sz 4908 4909 4907 x1 x2 sc1 sc2 ∨ (LwT 4908 x1 x2 sc1 ∧ (sc2 4908 = sc1 4908 ∧ sc2 4909 = sc1 4909 ∧ sc2 4907 = sc1 4907))) (f2 : Fr L2 A2 sc1 ar1 sc2 ar2) (d1 : 4909 ∉ L1 ∧ 4908 ∉ L1 ∧ 4907 ∉ L1) (d2 : 10 ∉ L2 ∧ 2201 ∉ L2 ∧ 2903 ∉ L2 ∧ 31 ∉ A2) : Rf sc2 ar2 := by
  obtain ⟨⟨r1, r2, r3⟩, b, hb⟩ := R
  obtain ⟨a1, a2, a3⟩ := d1
  obtain ⟨c1, c2, c3, c4⟩ := d2
  rcases g with g | ⟨gt, _⟩
  · obtain ⟨e1, e2, e3⟩ := lwo_eq wo g ((f1.1 4907 a3).trans r3.symm)
    refine ⟨⟨(f2.1 10 c1).trans e2, (f2.1 2201 c2).trans e1, (f2.1 2903 c3).trans e3⟩, be_fr wb f2 c3 c4, fun s t hs e ht => ?_⟩
    obtain ⟨s0, n0, l0, _, _, _, _, _, h6, _⟩ := wo
    have := (nI_eq (a := 0) (by omega) (by omega)).mp (show nI 0 = nI s from h6.symm.trans ((f2.1 2201 c2).symm.trans e))
    omega
  · obtain ⟨s, n, l, h1, h2, h3, h4, h5, _⟩ := wo
    exact (gt s n h1 ((f1.1 4908 a2).trans (r2.symm.trans h2)) h3 h4 h5).elim
theorem rf_lawt {tk : Nat → Int32} {pl : Nat → Nat} {sz : Nat} {x1 x2 : Int32} (R : Rf sc ar) (wt : LwT 2201 x1 x2 sc) (g : LwO tk pl sz 4908 4909 4907 x1 x2 sc sc2 ∨ (LwT 4908 x1 x2 sc ∧ (sc2 4908 = sc 4908 ∧ sc2 4909 = sc 4909 ∧ sc2 4907 = sc 4907))) (f2 : Fr L2 A2 sc ar sc2 ar2) (d2 : 10 ∉ L2 ∧ 2201 ∉ L2 ∧ 2903 ∉ L2 ∧ 31 ∉ A2 ∧ 23 ∉ A2 ∧ 67 ∉ A2) : Rf sc2 ar2 := by
  obtain ⟨⟨r1, r2, r3⟩, b, hb⟩ := R
  obtain ⟨c1, c2, c3, c4, c5, c6⟩ := d2
  rcases g with ⟨s, n, l, h1, h2, h3, h4, h5, _⟩ | ⟨_, g1, g2, g3⟩
  · exact (wt s n h1 (r2.trans h2) h3 h4 h5).elim
  · refine ⟨⟨(f2.1 10 c1).trans (r1.trans g2.symm), (f2.1 2201 c2).trans (r2.trans g1.symm), (f2.1 2903 c3).trans (r3.trans g3.symm)⟩, be_fr b f2 c3 c4, fun s t hs e ht => ?_⟩
    rw [f2.2 23 c5, f2.2 67 c6]
    exact hb s t hs ((f2.1 2201 c2).symm.trans e) ht
theorem rf_st {tk : Nat → Int32} {pl g : Nat → Nat} {sz : Nat} {x1 x2 : Int32} (R : Rf sc ar) (f1 : Fr L1 A1 sc ar sc1 ar1) (d1 : 4908 ∉ L1 ∧ 4907 ∉ L1 ∧ 67 ∉ A1) (h : ∀ n l : Nat, x1 = nI n → n ≤ 400 → sc 2903 = nI l → l < 6 → Sm (ar 23) n tk pl g sz) : ∀ s n : Nat, s ≤ 400 → sc1 4908 = nI s → x1 = nI n → n ≤ s → (0 ≤ x2 ∧ x2 ≤ 100) → ∀ l : Nat, sc1 4907 = nI l → l < 6 → (Sm (ar1 67) n tk pl g sz ∧ ∀ t, t < n → ¬ ar1 67 t = -1) := by
  intro s n hs es en hn hx l el hl
  rw [f1.2 67 d1.2.2]
  have e0 : sc 2201 = nI s := R.1.2.1.trans ((f1.1 4908 d1.1).symm.trans es)
  refine ⟨?_, fun t ht => by_ne (R.2.2 s t hs e0 (by omega))⟩
  exact sm_by (fun t ht => R.2.2 s t hs e0 (by omega)) (h n l en (by omega) (R.1.2.2.trans ((f1.1 4907 d1.2.1).symm.trans el)) hl)
end KEPT
/-! the law, call after call -/
theorem lg_self (x : Int64) : lg_cmp x x = 0 := by
  unfold lg_cmp
  rw [if_neg (Int64.lt_irrefl), if_pos rfl]
set_option maxRecDepth 20000 in
theorem lw_loop {X : Nat × (Nat → Int32)} {S a b B BS : Nat} (hW : Wd S a b) (hX : X.1 ≤ 3074) (d : Nat) : ∀ (m i : Nat) (sc : Nat → Int32) (ar : Nat → Nat → Int32) (lo : Nat → Int64) (ex : Bool) (nc ns : Nat), X.1 ≤ i + 6 * m → i ≤ 4000 → Iv S sc ar → Lw sc ar → Rf sc ar → nc + m ≤ B → ns + 6 * m ≤ BS → ag_To X (d + 33) an_law (43, [(0, .ref 1000000), (1, .ref 0), (2, .ref 49), (3, .ref 85), (4, .int (nI i))], [], gh S a b sc ar lo, ex, nc, ns) (fun o => ∃ h9 ex9 nc9 ns9, nc9 ≤ B ∧ ns9 ≤ BS ∧ o = .inl (some (.int 1), h9, ex9, nc9, ns9)) := by
  obtain ⟨ha1, ha8, hb1, hb8, hab, hS1, hS⟩ := id hW
  intro m
  induction m with
  | zero =>
    intro i sc ar lo ex nc ns hm hi hI hLw hR hB hBS
    refine to_n 2 (fr' := (46, [(0, .ref 1000000), (1, .ref 0), (2, .ref 49), (3, .ref 85), (4, .int (nI i))], [.ref 1000000, .int (nI i)], gh S a b sc ar lo, ex, nc, ns)) rfl ?_
    refine to_lenx rfl ?_
    refine to_n 1 (fr' := (49, [(0, .ref 1000000), (1, .ref 0), (2, .ref 49), (3, .ref 85), (4, .int (nI i))], [.int 6, .int (nI X.1), .int (nI i)], gh S a b sc ar lo, ex, nc, ns)) rfl ?_
    rcases Nat.lt_or_ge X.1 6 with w | w
    · refine to_n 1 (fr' := (50, [(0, .ref 1000000), (1, .ref 0), (2, .ref 49), (3, .ref 85), (4, .int (nI i))], [.int ((nI X.1) - (nI 6)), .int (nI i)], gh S a b sc ar lo, ex, nc, ns)) rfl ?_
      refine to_ic_gt_T (t := 760) rfl (neg_lt (by omega) (sub_neg w (by omega))) ?_
      refine to_n 1 (fr' := (761, [(0, .ref 1000000), (1, .ref 0), (2, .ref 49), (3, .ref 85), (4, .int (nI i))], [.int 1], gh S a b sc ar lo, ex, nc, ns)) rfl ?_
      exact to_rt (i := .ireturn) (tg := []) rfl rfl ⟨_, _, _, _, by omega, by omega, rfl⟩
    · refine to_subN (x := X.1) (y := 6) rfl (by omega) ?_
      refine to_nc_gt_T (t := 760) (x := i) (y := X.1 - 6) rfl (by omega) (by omega) (by omega) ?_
      refine to_n 1 (fr' := (761, [(0, .ref 1000000), (1, .ref 0), (2, .ref 49), (3, .ref 85), (4, .int (nI i))], [.int 1], gh S a b sc ar lo, ex, nc, ns)) rfl ?_
      exact to_rt (i := .ireturn) (tg := []) rfl rfl ⟨_, _, _, _, by omega, by omega, rfl⟩
  | succ m ih =>
    intro i sc ar lo ex nc ns hm hi hI hLw hR hB hBS
    refine to_n 2 (fr' := (46, [(0, .ref 1000000), (1, .ref 0), (2, .ref 49), (3, .ref 85), (4, .int (nI i))], [.ref 1000000, .int (nI i)], gh S a b sc ar lo, ex, nc, ns)) rfl ?_
    refine to_lenx rfl ?_
    refine to_n 1 (fr' := (49, [(0, .ref 1000000), (1, .ref 0), (2, .ref 49), (3, .ref 85), (4, .int (nI i))], [.int 6, .int (nI X.1), .int (nI i)], gh S a b sc ar lo, ex, nc, ns)) rfl ?_
    rcases Nat.lt_or_ge X.1 6 with w | w
    · refine to_n 1 (fr' := (50, [(0, .ref 1000000), (1, .ref 0), (2, .ref 49), (3, .ref 85), (4, .int (nI i))], [.int ((nI X.1) - (nI 6)), .int (nI i)], gh S a b sc ar lo, ex, nc, ns)) rfl ?_
      refine to_ic_gt_T (t := 760) rfl (neg_lt (by omega) (sub_neg w (by omega))) ?_
      refine to_n 1 (fr' := (761, [(0, .ref 1000000), (1, .ref 0), (2, .ref 49), (3, .ref 85), (4, .int (nI i))], [.int 1], gh S a b sc ar lo, ex, nc, ns)) rfl ?_
      exact to_rt (i := .ireturn) (tg := []) rfl rfl ⟨_, _, _, _, by omega, by omega, rfl⟩
    · refine to_subN (x := X.1) (y := 6) rfl (by omega) ?_
      refine to_nc_gt (t := 760) (x := i) (y := X.1 - 6) rfl (by omega) (by omega) (fun q => ?_) (fun q => ?_)
      · refine to_n 1 (fr' := (761, [(0, .ref 1000000), (1, .ref 0), (2, .ref 49), (3, .ref 85), (4, .int (nI i))], [.int 1], gh S a b sc ar lo, ex, nc, ns)) rfl ?_
        exact to_rt (i := .ireturn) (tg := []) rfl rfl ⟨_, _, _, _, by omega, by omega, rfl⟩
      · refine to_n 2 (fr' := (56, [(0, .ref 1000000), (1, .ref 0), (2, .ref 49), (3, .ref 85), (4, .int (nI i))], [.int (nI i), .ref 1000000], gh S a b sc ar lo, ex, nc, ns)) rfl ?_
        refine to_ldx (i := i) rfl (by omega) (by omega) ?_
        refine to_n 2 (fr' := (60, [(0, .ref 1000000), (1, .ref 0), (2, .ref 49), (3, .ref 85), (4, .int (nI i))], [.int ((X.2 i) &&& 15)], gh S a b sc ar lo, ex, nc, ns)) rfl ?_
        refine to_tb (x := ((X.2 i) &&& 15)) rfl rfl (by decide) (fun t ht => ?_)
        obtain rfl | rfl | rfl | rfl | rfl | rfl | rfl | rfl | rfl | rfl | rfl | rfl | rfl | rfl | rfl | rfl | rfl : t = 140 ∨ t = 192 ∨ t = 248 ∨ t = 276 ∨ t = 328 ∨ t = 401 ∨ t = 441 ∨ t = 454 ∨ t = 482 ∨ t = 522 ∨ t = 562 ∨ t = 590 ∨ t = 630 ∨ t = 670 ∨ t = 698 ∨ t = 726 ∨ t = 754 := by simpa using to_mem (l := [140, 192, 248, 276, 328, 401, 441, 454, 482, 522, 562, 590, 630, 670, 698, 726, 754]) ht (by decide)
        · refine to_eq (fr' := (140, [(0, .ref 1000000), (1, .ref 0), (2, .ref 49), (3, .ref 85), (4, .int (nI i))], [], gh S a b sc ar lo, ex, nc, ns)) rfl ?_
          refine to_n 4 (fr' := (145, [(0, .ref 1000000), (1, .ref 0), (2, .ref 49), (3, .ref 85), (4, .int (nI i))], [.int 1, .int (nI i), .ref 1000000, .ref 0], gh S a b sc ar lo, ex, nc, ns)) rfl ?_
          refine to_addN (x := i) (y := 1) rfl ?_
          refine to_ldx (i := (i + 1)) rfl (by omega) (by omega) ?_
          refine to_n 3 (fr' := (151, [(0, .ref 1000000), (1, .ref 0), (2, .ref 49), (3, .ref 85), (4, .int (nI i))], [.int 2, .int (nI i), .ref 1000000, .int (X.2 (i + 1)), .ref 0], gh S a b sc ar lo, ex, nc, ns)) rfl ?_
          refine to_addN (x := i) (y := 2) rfl ?_
          refine to_ldx (i := (i + 2)) rfl (by omega) (by omega) ?_
          refine to_n 3 (fr' := (157, [(0, .ref 1000000), (1, .ref 0), (2, .ref 49), (3, .ref 85), (4, .int (nI i))], [.int 3, .int (nI i), .ref 1000000, .int (X.2 (i + 2)), .int (X.2 (i + 1)), .ref 0], gh S a b sc ar lo, ex, nc, ns)) rfl ?_
          refine to_addN (x := i) (y := 3) rfl ?_
          refine to_ldx (i := (i + 3)) rfl (by omega) (by omega) ?_
          refine to_n 1 (fr' := (160, [(0, .ref 1000000), (1, .ref 0), (2, .ref 49), (3, .ref 85), (4, .int (nI i))], [.ref 85, .int (X.2 (i + 3)), .int (X.2 (i + 2)), .int (X.2 (i + 1)), .ref 0], gh S a b sc ar lo, ex, nc, ns)) rfl ?_
          refine to_cl (q := 169) (M1 := an_L_house) (rest := []) rfl rfl (by decide) rfl trivial (lc_house hW hI (X.2 (i + 1)) (X.2 (i + 2)) (X.2 (i + 3)) (d + 29)) (fun x1 sc1 ar1 lo1 ex1 nn1 ss1 hx1 hn1 hs1 => ?_)
          obtain ⟨hI1, hG1⟩ := hx1
          have hL1 : Lw sc1 ar1 := lw_fr hLw hG1 (by decide) (by decide) (by decide) (by decide)
          have hR1 : Rf sc1 ar1 := rf_f hR hG1 (by decide) (by decide)
          refine to_eq (fr' := (163, [(0, .ref 1000000), (1, .ref 0), (2, .ref 49), (3, .ref 85), (4, .int (nI i))], [.int x1], gh S a b sc1 ar1 lo1, ex1, (nc + nn1), (ns + ss1))) rfl ?_
          refine to_n 5 (fr' := (170, [(0, .ref 1000000), (1, .ref 0), (2, .ref 49), (3, .ref 85), (4, .int (nI i)), (5, .int x1)], [.int 1, .int (nI i), .ref 1000000, .ref 49], gh S a b sc1 ar1 lo1, ex1, (nc + nn1), (ns + ss1))) rfl ?_
          refine to_addN (x := i) (y := 1) rfl ?_
          refine to_ldx (i := (i + 1)) rfl (by omega) (by omega) ?_
          refine to_n 3 (fr' := (176, [(0, .ref 1000000), (1, .ref 0), (2, .ref 49), (3, .ref 85), (4, .int (nI i)), (5, .int x1)], [.int 2, .int (nI i), .ref 1000000, .int (X.2 (i + 1)), .ref 49], gh S a b sc1 ar1 lo1, ex1, (nc + nn1), (ns + ss1))) rfl ?_
          refine to_addN (x := i) (y := 2) rfl ?_
          refine to_ldx (i := (i + 2)) rfl (by omega) (by omega) ?_
          refine to_n 3 (fr' := (182, [(0, .ref 1000000), (1, .ref 0), (2, .ref 49), (3, .ref 85), (4, .int (nI i)), (5, .int x1)], [.int 3, .int (nI i), .ref 1000000, .int (X.2 (i + 2)), .int (X.2 (i + 1)), .ref 49], gh S a b sc1 ar1 lo1, ex1, (nc + nn1), (ns + ss1))) rfl ?_
          refine to_addN (x := i) (y := 3) rfl ?_
          refine to_ldx (i := (i + 3)) rfl (by omega) (by omega) ?_
          refine to_ci (q := 113) (M1 := an_X10_house) (rest := []) rfl rfl (by decide) rfl ⟨_, rfl⟩ (sf_X10_house hW hI1 (X.2 (i + 1)) (X.2 (i + 2)) (X.2 (i + 3)) (d + 31)) (fun x2 sc2 ar2 hx2 => ?_)
          obtain ⟨hI2, hG2, hx2⟩ := hx2
          have hL2 : Lw sc2 ar2 := lw_fr hL1 hG2 (by decide) (by decide) (by decide) (by decide)
          clear hx2
          have hR2 : Rf sc2 ar2 := rf_f hR1 hG2 (by decide) (by decide)
          refine to_eq (fr' := (187, [(0, .ref 1000000), (1, .ref 0), (2, .ref 49), (3, .ref 85), (4, .int (nI i)), (5, .int x1)], [.int x2], gh S a b sc2 ar2 lo1, ex1, (nc + nn1), (ns + ss1))) rfl ?_
          refine to_n 3 (fr' := (757, [(0, .ref 1000000), (1, .ref 0), (2, .ref 49), (3, .ref 85), (4, .int ((nI i) + 6)), (5, .int x1), (6, .int x2)], [], gh S a b sc2 ar2 lo1, ex1, (nc + nn1), (ns + ss1))) rfl ?_
          rw [show ((nI i) + 6 : Int32) = nI (i + 6) from nI_add _ 6]
          refine to_n 1 (fr' := (43, [(0, .ref 1000000), (1, .ref 0), (2, .ref 49), (3, .ref 85), (4, .int (nI (i + 6))), (5, .int x1), (6, .int x2)], [], gh S a b sc2 ar2 lo1, ex1, (nc + nn1), (ns + ss1))) rfl ?_
          refine to_lv (lv := [(0, .ref 1000000), (1, .ref 0), (2, .ref 49), (3, .ref 85), (4, .int (nI (i + 6)))]) rfl ⟨rfl, rfl, rfl, rfl, rfl, trivial⟩ ?_
          exact ih (i + 6) sc2 ar2 lo1 ex1 (nc + nn1) (ns + ss1) (by omega) (by omega) hI2 hL2 hR2 (by omega) (by omega)
        · refine to_eq (fr' := (192, [(0, .ref 1000000), (1, .ref 0), (2, .ref 49), (3, .ref 85), (4, .int (nI i))], [], gh S a b sc ar lo, ex, nc, ns)) rfl ?_
          refine to_n 4 (fr' := (197, [(0, .ref 1000000), (1, .ref 0), (2, .ref 49), (3, .ref 85), (4, .int (nI i))], [.int 1, .int (nI i), .ref 1000000, .ref 0], gh S a b sc ar lo, ex, nc, ns)) rfl ?_
          refine to_addN (x := i) (y := 1) rfl ?_
          refine to_ldx (i := (i + 1)) rfl (by omega) (by omega) ?_
          refine to_n 3 (fr' := (203, [(0, .ref 1000000), (1, .ref 0), (2, .ref 49), (3, .ref 85), (4, .int (nI i))], [.int 2, .int (nI i), .ref 1000000, .int (X.2 (i + 1)), .ref 0], gh S a b sc ar lo, ex, nc, ns)) rfl ?_
          refine to_addN (x := i) (y := 2) rfl ?_
          refine to_ldx (i := (i + 2)) rfl (by omega) (by omega) ?_
          refine to_if_eq (t := 212) rfl (fun q3 => ?_) (fun q3 => ?_)
          · refine to_n 2 (fr' := (214, [(0, .ref 1000000), (1, .ref 0), (2, .ref 49), (3, .ref 85), (4, .int (nI i))], [.ref 85, .int 0, .int (X.2 (i + 1)), .ref 0], gh S a b sc ar lo, ex, nc, ns)) rfl ?_
            refine to_cl (q := 170) (M1 := an_L_well) (rest := []) rfl rfl (by decide) rfl trivial (lc_well hW hI (X.2 (i + 1)) 0 (by omega) (d + 29)) (fun x4 sc4 ar4 lo4 ex4 nn4 ss4 hx4 hn4 hs4 => ?_)
            obtain ⟨hI4, hG4⟩ := hx4
            have hL4 : Lw sc4 ar4 := lw_fr hLw hG4 (by decide) (by decide) (by decide) (by decide)
            have hR4 : Rf sc4 ar4 := rf_f hR hG4 (by decide) (by decide)
            refine to_eq (fr' := (217, [(0, .ref 1000000), (1, .ref 0), (2, .ref 49), (3, .ref 85), (4, .int (nI i))], [.int x4], gh S a b sc4 ar4 lo4, ex4, (nc + nn4), (ns + ss4))) rfl ?_
            refine to_n 5 (fr' := (224, [(0, .ref 1000000), (1, .ref 0), (2, .ref 49), (3, .ref 85), (4, .int (nI i)), (5, .int x4)], [.int 1, .int (nI i), .ref 1000000, .ref 49], gh S a b sc4 ar4 lo4, ex4, (nc + nn4), (ns + ss4))) rfl ?_
            refine to_addN (x := i) (y := 1) rfl ?_
            refine to_ldx (i := (i + 1)) rfl (by omega) (by omega) ?_
            refine to_n 3 (fr' := (230, [(0, .ref 1000000), (1, .ref 0), (2, .ref 49), (3, .ref 85), (4, .int (nI i)), (5, .int x4)], [.int 2, .int (nI i), .ref 1000000, .int (X.2 (i + 1)), .ref 49], gh S a b sc4 ar4 lo4, ex4, (nc + nn4), (ns + ss4))) rfl ?_
            refine to_addN (x := i) (y := 2) rfl ?_
            refine to_ldx (i := (i + 2)) rfl (by omega) (by omega) ?_
            refine to_if_eq (t := 239) rfl (fun q5 => ?_) (fun q5 => ?_)
            · refine to_n 1 (fr' := (240, [(0, .ref 1000000), (1, .ref 0), (2, .ref 49), (3, .ref 85), (4, .int (nI i)), (5, .int x4)], [.int 0, .int (X.2 (i + 1)), .ref 49], gh S a b sc4 ar4 lo4, ex4, (nc + nn4), (ns + ss4))) rfl ?_
              refine to_ci (q := 114) (M1 := an_X10_well) (rest := []) rfl rfl (by decide) rfl ⟨_, rfl⟩ (sf_X10_well hW hI4 (X.2 (i + 1)) 0 (by omega) (d + 31)) (fun x6 sc6 ar6 hx6 => ?_)
              obtain ⟨hI6, hG6, hx6⟩ := hx6
              have hL6 : Lw sc6 ar6 := lw_fr hL4 hG6 (by decide) (by decide) (by decide) (by decide)
              clear hx6
              have hR6 : Rf sc6 ar6 := rf_f hR4 hG6 (by decide) (by decide)
              refine to_eq (fr' := (243, [(0, .ref 1000000), (1, .ref 0), (2, .ref 49), (3, .ref 85), (4, .int (nI i)), (5, .int x4)], [.int x6], gh S a b sc6 ar6 lo4, ex4, (nc + nn4), (ns + ss4))) rfl ?_
              refine to_n 3 (fr' := (757, [(0, .ref 1000000), (1, .ref 0), (2, .ref 49), (3, .ref 85), (4, .int ((nI i) + 6)), (5, .int x4), (6, .int x6)], [], gh S a b sc6 ar6 lo4, ex4, (nc + nn4), (ns + ss4))) rfl ?_
              rw [show ((nI i) + 6 : Int32) = nI (i + 6) from nI_add _ 6]
              refine to_n 1 (fr' := (43, [(0, .ref 1000000), (1, .ref 0), (2, .ref 49), (3, .ref 85), (4, .int (nI (i + 6))), (5, .int x4), (6, .int x6)], [], gh S a b sc6 ar6 lo4, ex4, (nc + nn4), (ns + ss4))) rfl ?_
              refine to_lv (lv := [(0, .ref 1000000), (1, .ref 0), (2, .ref 49), (3, .ref 85), (4, .int (nI (i + 6)))]) rfl ⟨rfl, rfl, rfl, rfl, rfl, trivial⟩ ?_
              exact ih (i + 6) sc6 ar6 lo4 ex4 (nc + nn4) (ns + ss4) (by omega) (by omega) hI6 hL6 hR6 (by omega) (by omega)
            · refine to_n 2 (fr' := (240, [(0, .ref 1000000), (1, .ref 0), (2, .ref 49), (3, .ref 85), (4, .int (nI i)), (5, .int x4)], [.int 1, .int (X.2 (i + 1)), .ref 49], gh S a b sc4 ar4 lo4, ex4, (nc + nn4), (ns + ss4))) rfl ?_
              refine to_ci (q := 114) (M1 := an_X10_well) (rest := []) rfl rfl (by decide) rfl ⟨_, rfl⟩ (sf_X10_well hW hI4 (X.2 (i + 1)) 1 (by omega) (d + 31)) (fun x7 sc7 ar7 hx7 => ?_)
              obtain ⟨hI7, hG7, hx7⟩ := hx7
              have hL7 : Lw sc7 ar7 := lw_fr hL4 hG7 (by decide) (by decide) (by decide) (by decide)
              clear hx7
              have hR7 : Rf sc7 ar7 := rf_f hR4 hG7 (by decide) (by decide)
              refine to_eq (fr' := (243, [(0, .ref 1000000), (1, .ref 0), (2, .ref 49), (3, .ref 85), (4, .int (nI i)), (5, .int x4)], [.int x7], gh S a b sc7 ar7 lo4, ex4, (nc + nn4), (ns + ss4))) rfl ?_
              refine to_n 3 (fr' := (757, [(0, .ref 1000000), (1, .ref 0), (2, .ref 49), (3, .ref 85), (4, .int ((nI i) + 6)), (5, .int x4), (6, .int x7)], [], gh S a b sc7 ar7 lo4, ex4, (nc + nn4), (ns + ss4))) rfl ?_
              rw [show ((nI i) + 6 : Int32) = nI (i + 6) from nI_add _ 6]
              refine to_n 1 (fr' := (43, [(0, .ref 1000000), (1, .ref 0), (2, .ref 49), (3, .ref 85), (4, .int (nI (i + 6))), (5, .int x4), (6, .int x7)], [], gh S a b sc7 ar7 lo4, ex4, (nc + nn4), (ns + ss4))) rfl ?_
              refine to_lv (lv := [(0, .ref 1000000), (1, .ref 0), (2, .ref 49), (3, .ref 85), (4, .int (nI (i + 6)))]) rfl ⟨rfl, rfl, rfl, rfl, rfl, trivial⟩ ?_
              exact ih (i + 6) sc7 ar7 lo4 ex4 (nc + nn4) (ns + ss4) (by omega) (by omega) hI7 hL7 hR7 (by omega) (by omega)
          · refine to_n 3 (fr' := (214, [(0, .ref 1000000), (1, .ref 0), (2, .ref 49), (3, .ref 85), (4, .int (nI i))], [.ref 85, .int 1, .int (X.2 (i + 1)), .ref 0], gh S a b sc ar lo, ex, nc, ns)) rfl ?_
            refine to_cl (q := 170) (M1 := an_L_well) (rest := []) rfl rfl (by decide) rfl trivial (lc_well hW hI (X.2 (i + 1)) 1 (by omega) (d + 29)) (fun x8 sc8 ar8 lo8 ex8 nn8 ss8 hx8 hn8 hs8 => ?_)
            obtain ⟨hI8, hG8⟩ := hx8
            have hL8 : Lw sc8 ar8 := lw_fr hLw hG8 (by decide) (by decide) (by decide) (by decide)
            have hR8 : Rf sc8 ar8 := rf_f hR hG8 (by decide) (by decide)
            refine to_eq (fr' := (217, [(0, .ref 1000000), (1, .ref 0), (2, .ref 49), (3, .ref 85), (4, .int (nI i))], [.int x8], gh S a b sc8 ar8 lo8, ex8, (nc + nn8), (ns + ss8))) rfl ?_
            refine to_n 5 (fr' := (224, [(0, .ref 1000000), (1, .ref 0), (2, .ref 49), (3, .ref 85), (4, .int (nI i)), (5, .int x8)], [.int 1, .int (nI i), .ref 1000000, .ref 49], gh S a b sc8 ar8 lo8, ex8, (nc + nn8), (ns + ss8))) rfl ?_
            refine to_addN (x := i) (y := 1) rfl ?_
            refine to_ldx (i := (i + 1)) rfl (by omega) (by omega) ?_
            refine to_n 3 (fr' := (230, [(0, .ref 1000000), (1, .ref 0), (2, .ref 49), (3, .ref 85), (4, .int (nI i)), (5, .int x8)], [.int 2, .int (nI i), .ref 1000000, .int (X.2 (i + 1)), .ref 49], gh S a b sc8 ar8 lo8, ex8, (nc + nn8), (ns + ss8))) rfl ?_
            refine to_addN (x := i) (y := 2) rfl ?_
            refine to_ldx (i := (i + 2)) rfl (by omega) (by omega) ?_
            refine to_if_eq (t := 239) rfl (fun q9 => ?_) (fun q9 => ?_)
            · refine to_n 1 (fr' := (240, [(0, .ref 1000000), (1, .ref 0), (2, .ref 49), (3, .ref 85), (4, .int (nI i)), (5, .int x8)], [.int 0, .int (X.2 (i + 1)), .ref 49], gh S a b sc8 ar8 lo8, ex8, (nc + nn8), (ns + ss8))) rfl ?_
              refine to_ci (q := 114) (M1 := an_X10_well) (rest := []) rfl rfl (by decide) rfl ⟨_, rfl⟩ (sf_X10_well hW hI8 (X.2 (i + 1)) 0 (by omega) (d + 31)) (fun x10 sc10 ar10 hx10 => ?_)
              obtain ⟨hI10, hG10, hx10⟩ := hx10
              have hL10 : Lw sc10 ar10 := lw_fr hL8 hG10 (by decide) (by decide) (by decide) (by decide)
              clear hx10
              have hR10 : Rf sc10 ar10 := rf_f hR8 hG10 (by decide) (by decide)
              refine to_eq (fr' := (243, [(0, .ref 1000000), (1, .ref 0), (2, .ref 49), (3, .ref 85), (4, .int (nI i)), (5, .int x8)], [.int x10], gh S a b sc10 ar10 lo8, ex8, (nc + nn8), (ns + ss8))) rfl ?_
              refine to_n 3 (fr' := (757, [(0, .ref 1000000), (1, .ref 0), (2, .ref 49), (3, .ref 85), (4, .int ((nI i) + 6)), (5, .int x8), (6, .int x10)], [], gh S a b sc10 ar10 lo8, ex8, (nc + nn8), (ns + ss8))) rfl ?_
              rw [show ((nI i) + 6 : Int32) = nI (i + 6) from nI_add _ 6]
              refine to_n 1 (fr' := (43, [(0, .ref 1000000), (1, .ref 0), (2, .ref 49), (3, .ref 85), (4, .int (nI (i + 6))), (5, .int x8), (6, .int x10)], [], gh S a b sc10 ar10 lo8, ex8, (nc + nn8), (ns + ss8))) rfl ?_
              refine to_lv (lv := [(0, .ref 1000000), (1, .ref 0), (2, .ref 49), (3, .ref 85), (4, .int (nI (i + 6)))]) rfl ⟨rfl, rfl, rfl, rfl, rfl, trivial⟩ ?_
              exact ih (i + 6) sc10 ar10 lo8 ex8 (nc + nn8) (ns + ss8) (by omega) (by omega) hI10 hL10 hR10 (by omega) (by omega)
            · refine to_n 2 (fr' := (240, [(0, .ref 1000000), (1, .ref 0), (2, .ref 49), (3, .ref 85), (4, .int (nI i)), (5, .int x8)], [.int 1, .int (X.2 (i + 1)), .ref 49], gh S a b sc8 ar8 lo8, ex8, (nc + nn8), (ns + ss8))) rfl ?_
              refine to_ci (q := 114) (M1 := an_X10_well) (rest := []) rfl rfl (by decide) rfl ⟨_, rfl⟩ (sf_X10_well hW hI8 (X.2 (i + 1)) 1 (by omega) (d + 31)) (fun x11 sc11 ar11 hx11 => ?_)
              obtain ⟨hI11, hG11, hx11⟩ := hx11
              have hL11 : Lw sc11 ar11 := lw_fr hL8 hG11 (by decide) (by decide) (by decide) (by decide)
              clear hx11
              have hR11 : Rf sc11 ar11 := rf_f hR8 hG11 (by decide) (by decide)
              refine to_eq (fr' := (243, [(0, .ref 1000000), (1, .ref 0), (2, .ref 49), (3, .ref 85), (4, .int (nI i)), (5, .int x8)], [.int x11], gh S a b sc11 ar11 lo8, ex8, (nc + nn8), (ns + ss8))) rfl ?_
              refine to_n 3 (fr' := (757, [(0, .ref 1000000), (1, .ref 0), (2, .ref 49), (3, .ref 85), (4, .int ((nI i) + 6)), (5, .int x8), (6, .int x11)], [], gh S a b sc11 ar11 lo8, ex8, (nc + nn8), (ns + ss8))) rfl ?_
              rw [show ((nI i) + 6 : Int32) = nI (i + 6) from nI_add _ 6]
              refine to_n 1 (fr' := (43, [(0, .ref 1000000), (1, .ref 0), (2, .ref 49), (3, .ref 85), (4, .int (nI (i + 6))), (5, .int x8), (6, .int x11)], [], gh S a b sc11 ar11 lo8, ex8, (nc + nn8), (ns + ss8))) rfl ?_
              refine to_lv (lv := [(0, .ref 1000000), (1, .ref 0), (2, .ref 49), (3, .ref 85), (4, .int (nI (i + 6)))]) rfl ⟨rfl, rfl, rfl, rfl, rfl, trivial⟩ ?_
              exact ih (i + 6) sc11 ar11 lo8 ex8 (nc + nn8) (ns + ss8) (by omega) (by omega) hI11 hL11 hR11 (by omega) (by omega)
        · refine to_eq (fr' := (248, [(0, .ref 1000000), (1, .ref 0), (2, .ref 49), (3, .ref 85), (4, .int (nI i))], [], gh S a b sc ar lo, ex, nc, ns)) rfl ?_
          refine to_n 4 (fr' := (253, [(0, .ref 1000000), (1, .ref 0), (2, .ref 49), (3, .ref 85), (4, .int (nI i))], [.int 1, .int (nI i), .ref 1000000, .ref 0], gh S a b sc ar lo, ex, nc, ns)) rfl ?_
          refine to_addN (x := i) (y := 1) rfl ?_
          refine to_ldx (i := (i + 1)) rfl (by omega) (by omega) ?_
          refine to_n 1 (fr' := (256, [(0, .ref 1000000), (1, .ref 0), (2, .ref 49), (3, .ref 85), (4, .int (nI i))], [.ref 85, .int (X.2 (i + 1)), .ref 0], gh S a b sc ar lo, ex, nc, ns)) rfl ?_
          refine to_cl (q := 171) (M1 := an_L_wind) (rest := []) rfl rfl (by decide) rfl trivial (lc_wind hW hI (X.2 (i + 1)) (d + 31)) (fun x12 sc12 ar12 lo12 ex12 nn12 ss12 hx12 hn12 hs12 => ?_)
          obtain ⟨hI12, hG12, hx12⟩ := hx12
          have hL12 : Lw sc12 ar12 := lw_fr hLw hG12 (by decide) (by decide) (by decide) (by decide)
          clear hx12
          have hR12 : Rf sc12 ar12 := rf_f hR hG12 (by decide) (by decide)
          refine to_eq (fr' := (259, [(0, .ref 1000000), (1, .ref 0), (2, .ref 49), (3, .ref 85), (4, .int (nI i))], [.int x12], gh S a b sc12 ar12 lo12, ex12, (nc + nn12), (ns + ss12))) rfl ?_
          refine to_n 5 (fr' := (266, [(0, .ref 1000000), (1, .ref 0), (2, .ref 49), (3, .ref 85), (4, .int (nI i)), (5, .int x12)], [.int 1, .int (nI i), .ref 1000000, .ref 49], gh S a b sc12 ar12 lo12, ex12, (nc + nn12), (ns + ss12))) rfl ?_
          refine to_addN (x := i) (y := 1) rfl ?_
          refine to_ldx (i := (i + 1)) rfl (by omega) (by omega) ?_
          refine to_ci (q := 115) (M1 := an_X10_wind) (rest := []) rfl rfl (by decide) rfl ⟨_, rfl⟩ (sf_X10_wind hW hI12 (X.2 (i + 1)) (d + 31)) (fun x13 sc13 ar13 hx13 => ?_)
          obtain ⟨hI13, hG13, hx13⟩ := hx13
          have hL13 : Lw sc13 ar13 := lw_fr hL12 hG13 (by decide) (by decide) (by decide) (by decide)
          clear hx13
          have hR13 : Rf sc13 ar13 := rf_f hR12 hG13 (by decide) (by decide)
          refine to_eq (fr' := (271, [(0, .ref 1000000), (1, .ref 0), (2, .ref 49), (3, .ref 85), (4, .int (nI i)), (5, .int x12)], [.int x13], gh S a b sc13 ar13 lo12, ex12, (nc + nn12), (ns + ss12))) rfl ?_
          refine to_n 3 (fr' := (757, [(0, .ref 1000000), (1, .ref 0), (2, .ref 49), (3, .ref 85), (4, .int ((nI i) + 6)), (5, .int x12), (6, .int x13)], [], gh S a b sc13 ar13 lo12, ex12, (nc + nn12), (ns + ss12))) rfl ?_
          rw [show ((nI i) + 6 : Int32) = nI (i + 6) from nI_add _ 6]
          refine to_n 1 (fr' := (43, [(0, .ref 1000000), (1, .ref 0), (2, .ref 49), (3, .ref 85), (4, .int (nI (i + 6))), (5, .int x12), (6, .int x13)], [], gh S a b sc13 ar13 lo12, ex12, (nc + nn12), (ns + ss12))) rfl ?_
          refine to_lv (lv := [(0, .ref 1000000), (1, .ref 0), (2, .ref 49), (3, .ref 85), (4, .int (nI (i + 6)))]) rfl ⟨rfl, rfl, rfl, rfl, rfl, trivial⟩ ?_
          exact ih (i + 6) sc13 ar13 lo12 ex12 (nc + nn12) (ns + ss12) (by omega) (by omega) hI13 hL13 hR13 (by omega) (by omega)
        · refine to_eq (fr' := (276, [(0, .ref 1000000), (1, .ref 0), (2, .ref 49), (3, .ref 85), (4, .int (nI i))], [], gh S a b sc ar lo, ex, nc, ns)) rfl ?_
          refine to_n 4 (fr' := (281, [(0, .ref 1000000), (1, .ref 0), (2, .ref 49), (3, .ref 85), (4, .int (nI i))], [.int 1, .int (nI i), .ref 1000000, .ref 0], gh S a b sc ar lo, ex, nc, ns)) rfl ?_
          refine to_addN (x := i) (y := 1) rfl ?_
          refine to_ldx (i := (i + 1)) rfl (by omega) (by omega) ?_
          refine to_n 3 (fr' := (287, [(0, .ref 1000000), (1, .ref 0), (2, .ref 49), (3, .ref 85), (4, .int (nI i))], [.int 2, .int (nI i), .ref 1000000, .int (X.2 (i + 1)), .ref 0], gh S a b sc ar lo, ex, nc, ns)) rfl ?_
          refine to_addN (x := i) (y := 2) rfl ?_
          refine to_ldx (i := (i + 2)) rfl (by omega) (by omega) ?_
          refine to_n 3 (fr' := (293, [(0, .ref 1000000), (1, .ref 0), (2, .ref 49), (3, .ref 85), (4, .int (nI i))], [.int 3, .int (nI i), .ref 1000000, .int (X.2 (i + 2)), .int (X.2 (i + 1)), .ref 0], gh S a b sc ar lo, ex, nc, ns)) rfl ?_
          refine to_addN (x := i) (y := 3) rfl ?_
          refine to_ldx (i := (i + 3)) rfl (by omega) (by omega) ?_
          refine to_n 1 (fr' := (296, [(0, .ref 1000000), (1, .ref 0), (2, .ref 49), (3, .ref 85), (4, .int (nI i))], [.ref 85, .int (X.2 (i + 3)), .int (X.2 (i + 2)), .int (X.2 (i + 1)), .ref 0], gh S a b sc ar lo, ex, nc, ns)) rfl ?_
          refine to_cl (q := 172) (M1 := an_L_company) (rest := []) rfl rfl (by decide) rfl trivial (lc_company hW hI (X.2 (i + 1)) (X.2 (i + 2)) (X.2 (i + 3)) (d + 29)) (fun x14 sc14 ar14 lo14 ex14 nn14 ss14 hx14 hn14 hs14 => ?_)
          obtain ⟨hI14, hG14, hx14⟩ := hx14
          have hL14 : Lw sc14 ar14 := lw_fr hLw hG14 (by decide) (by decide) (by decide) (by decide)
          clear hx14
          have hR14 : Rf sc14 ar14 := rf_f hR hG14 (by decide) (by decide)
          refine to_eq (fr' := (299, [(0, .ref 1000000), (1, .ref 0), (2, .ref 49), (3, .ref 85), (4, .int (nI i))], [.int x14], gh S a b sc14 ar14 lo14, ex14, (nc + nn14), (ns + ss14))) rfl ?_
          refine to_n 5 (fr' := (306, [(0, .ref 1000000), (1, .ref 0), (2, .ref 49), (3, .ref 85), (4, .int (nI i)), (5, .int x14)], [.int 1, .int (nI i), .ref 1000000, .ref 49], gh S a b sc14 ar14 lo14, ex14, (nc + nn14), (ns + ss14))) rfl ?_
          refine to_addN (x := i) (y := 1) rfl ?_
          refine to_ldx (i := (i + 1)) rfl (by omega) (by omega) ?_
          refine to_n 3 (fr' := (312, [(0, .ref 1000000), (1, .ref 0), (2, .ref 49), (3, .ref 85), (4, .int (nI i)), (5, .int x14)], [.int 2, .int (nI i), .ref 1000000, .int (X.2 (i + 1)), .ref 49], gh S a b sc14 ar14 lo14, ex14, (nc + nn14), (ns + ss14))) rfl ?_
          refine to_addN (x := i) (y := 2) rfl ?_
          refine to_ldx (i := (i + 2)) rfl (by omega) (by omega) ?_
          refine to_n 3 (fr' := (318, [(0, .ref 1000000), (1, .ref 0), (2, .ref 49), (3, .ref 85), (4, .int (nI i)), (5, .int x14)], [.int 3, .int (nI i), .ref 1000000, .int (X.2 (i + 2)), .int (X.2 (i + 1)), .ref 49], gh S a b sc14 ar14 lo14, ex14, (nc + nn14), (ns + ss14))) rfl ?_
          refine to_addN (x := i) (y := 3) rfl ?_
          refine to_ldx (i := (i + 3)) rfl (by omega) (by omega) ?_
          refine to_ci (q := 116) (M1 := an_X10_company) (rest := []) rfl rfl (by decide) rfl ⟨_, rfl⟩ (sf_X10_company hW hI14 (X.2 (i + 1)) (X.2 (i + 2)) (X.2 (i + 3)) (d + 31)) (fun x15 sc15 ar15 hx15 => ?_)
          obtain ⟨hI15, hG15, hx15⟩ := hx15
          have hL15 : Lw sc15 ar15 := lw_fr hL14 hG15 (by decide) (by decide) (by decide) (by decide)
          clear hx15
          have hR15 : Rf sc15 ar15 := rf_f hR14 hG15 (by decide) (by decide)
          refine to_eq (fr' := (323, [(0, .ref 1000000), (1, .ref 0), (2, .ref 49), (3, .ref 85), (4, .int (nI i)), (5, .int x14)], [.int x15], gh S a b sc15 ar15 lo14, ex14, (nc + nn14), (ns + ss14))) rfl ?_
          refine to_n 3 (fr' := (757, [(0, .ref 1000000), (1, .ref 0), (2, .ref 49), (3, .ref 85), (4, .int ((nI i) + 6)), (5, .int x14), (6, .int x15)], [], gh S a b sc15 ar15 lo14, ex14, (nc + nn14), (ns + ss14))) rfl ?_
          rw [show ((nI i) + 6 : Int32) = nI (i + 6) from nI_add _ 6]
          refine to_n 1 (fr' := (43, [(0, .ref 1000000), (1, .ref 0), (2, .ref 49), (3, .ref 85), (4, .int (nI (i + 6))), (5, .int x14), (6, .int x15)], [], gh S a b sc15 ar15 lo14, ex14, (nc + nn14), (ns + ss14))) rfl ?_
          refine to_lv (lv := [(0, .ref 1000000), (1, .ref 0), (2, .ref 49), (3, .ref 85), (4, .int (nI (i + 6)))]) rfl ⟨rfl, rfl, rfl, rfl, rfl, trivial⟩ ?_
          exact ih (i + 6) sc15 ar15 lo14 ex14 (nc + nn14) (ns + ss14) (by omega) (by omega) hI15 hL15 hR15 (by omega) (by omega)
        · refine to_eq (fr' := (328, [(0, .ref 1000000), (1, .ref 0), (2, .ref 49), (3, .ref 85), (4, .int (nI i))], [], gh S a b sc ar lo, ex, nc, ns)) rfl ?_
          refine to_n 4 (fr' := (333, [(0, .ref 1000000), (1, .ref 0), (2, .ref 49), (3, .ref 85), (4, .int (nI i))], [.int 1, .int (nI i), .ref 1000000, .ref 0], gh S a b sc ar lo, ex, nc, ns)) rfl ?_
          refine to_addN (x := i) (y := 1) rfl ?_
          refine to_ldx (i := (i + 1)) rfl (by omega) (by omega) ?_
          refine to_n 3 (fr' := (339, [(0, .ref 1000000), (1, .ref 0), (2, .ref 49), (3, .ref 85), (4, .int (nI i))], [.int 2, .int (nI i), .ref 1000000, .int (X.2 (i + 1)), .ref 0], gh S a b sc ar lo, ex, nc, ns)) rfl ?_
          refine to_addN (x := i) (y := 2) rfl ?_
          refine to_ldx (i := (i + 2)) rfl (by omega) (by omega) ?_
          refine to_n 3 (fr' := (345, [(0, .ref 1000000), (1, .ref 0), (2, .ref 49), (3, .ref 85), (4, .int (nI i))], [.int 3, .int (nI i), .ref 1000000, .int (X.2 (i + 2)), .int (X.2 (i + 1)), .ref 0], gh S a b sc ar lo, ex, nc, ns)) rfl ?_
          refine to_addN (x := i) (y := 3) rfl ?_
          refine to_ldx (i := (i + 3)) rfl (by omega) (by omega) ?_
          refine to_n 3 (fr' := (351, [(0, .ref 1000000), (1, .ref 0), (2, .ref 49), (3, .ref 85), (4, .int (nI i))], [.int 4, .int (nI i), .ref 1000000, .int (X.2 (i + 3)), .int (X.2 (i + 2)), .int (X.2 (i + 1)), .ref 0], gh S a b sc ar lo, ex, nc, ns)) rfl ?_
          refine to_addN (x := i) (y := 4) rfl ?_
          refine to_ldx (i := (i + 4)) rfl (by omega) (by omega) ?_
          refine to_n 3 (fr' := (357, [(0, .ref 1000000), (1, .ref 0), (2, .ref 49), (3, .ref 85), (4, .int (nI i))], [.int 5, .int (nI i), .ref 1000000, .int (X.2 (i + 4)), .int (X.2 (i + 3)), .int (X.2 (i + 2)), .int (X.2 (i + 1)), .ref 0], gh S a b sc ar lo, ex, nc, ns)) rfl ?_
          refine to_addN (x := i) (y := 5) rfl ?_
          refine to_ldx (i := (i + 5)) rfl (by omega) (by omega) ?_
          refine to_ci (q := 77) (M1 := an_X9_feed) (rest := []) rfl rfl (by decide) rfl ⟨_, rfl⟩ (sf_X9_feed hW hI (X.2 (i + 1)) (X.2 (i + 2)) (X.2 (i + 3)) (X.2 (i + 4)) (X.2 (i + 5)) (d + 31)) (fun x16 sc16 ar16 hx16 => ?_)
          obtain ⟨hI16, hG16, hx16⟩ := hx16
          have hL16 : Lw sc16 ar16 := lw_fr hLw hG16 (by decide) (by decide) (by decide) (by decide)
          refine to_eq (fr' := (362, [(0, .ref 1000000), (1, .ref 0), (2, .ref 49), (3, .ref 85), (4, .int (nI i))], [.int x16], gh S a b sc16 ar16 lo, ex, nc, ns)) rfl ?_
          refine to_n 5 (fr' := (368, [(0, .ref 1000000), (1, .ref 0), (2, .ref 49), (3, .ref 85), (4, .int (nI i))], [.int 1, .int (nI i), .ref 1000000, .ref 49], gh S a b sc16 ar16 lo, ex, nc, ns)) rfl ?_
          refine to_addN (x := i) (y := 1) rfl ?_
          refine to_ldx (i := (i + 1)) rfl (by omega) (by omega) ?_
          refine to_n 3 (fr' := (374, [(0, .ref 1000000), (1, .ref 0), (2, .ref 49), (3, .ref 85), (4, .int (nI i))], [.int 2, .int (nI i), .ref 1000000, .int (X.2 (i + 1)), .ref 49], gh S a b sc16 ar16 lo, ex, nc, ns)) rfl ?_
          refine to_addN (x := i) (y := 2) rfl ?_
          refine to_ldx (i := (i + 2)) rfl (by omega) (by omega) ?_
          refine to_n 3 (fr' := (380, [(0, .ref 1000000), (1, .ref 0), (2, .ref 49), (3, .ref 85), (4, .int (nI i))], [.int 3, .int (nI i), .ref 1000000, .int (X.2 (i + 2)), .int (X.2 (i + 1)), .ref 49], gh S a b sc16 ar16 lo, ex, nc, ns)) rfl ?_
          refine to_addN (x := i) (y := 3) rfl ?_
          refine to_ldx (i := (i + 3)) rfl (by omega) (by omega) ?_
          refine to_n 3 (fr' := (386, [(0, .ref 1000000), (1, .ref 0), (2, .ref 49), (3, .ref 85), (4, .int (nI i))], [.int 4, .int (nI i), .ref 1000000, .int (X.2 (i + 3)), .int (X.2 (i + 2)), .int (X.2 (i + 1)), .ref 49], gh S a b sc16 ar16 lo, ex, nc, ns)) rfl ?_
          refine to_addN (x := i) (y := 4) rfl ?_
          refine to_ldx (i := (i + 4)) rfl (by omega) (by omega) ?_
          refine to_n 3 (fr' := (392, [(0, .ref 1000000), (1, .ref 0), (2, .ref 49), (3, .ref 85), (4, .int (nI i))], [.int 5, .int (nI i), .ref 1000000, .int (X.2 (i + 4)), .int (X.2 (i + 3)), .int (X.2 (i + 2)), .int (X.2 (i + 1)), .ref 49], gh S a b sc16 ar16 lo, ex, nc, ns)) rfl ?_
          refine to_addN (x := i) (y := 5) rfl ?_
          refine to_ldx (i := (i + 5)) rfl (by omega) (by omega) ?_
          refine to_ci (q := 117) (M1 := an_X10_feed) (rest := []) rfl rfl (by decide) rfl ⟨_, rfl⟩ (sf_X10_feed hW hI16 (X.2 (i + 1)) (X.2 (i + 2)) (X.2 (i + 3)) (X.2 (i + 4)) (X.2 (i + 5)) (d + 32)) (fun x17 sc17 ar17 hx17 => ?_)
          obtain ⟨hI17, hG17, hx17⟩ := hx17
          have hL17 : Lw sc17 ar17 := lw_fr hL16 hG17 (by decide) (by decide) (by decide) (by decide)
          have hR17 : Rf sc17 ar17 := rf_feed hR hx16 hG16 hx17 hG17 (by decide) (by decide)
          clear hx16 hx17
          refine to_eq (fr' := (397, [(0, .ref 1000000), (1, .ref 0), (2, .ref 49), (3, .ref 85), (4, .int (nI i))], [.int x17], gh S a b sc17 ar17 lo, ex, nc, ns)) rfl ?_
          refine to_n 3 (fr' := (757, [(0, .ref 1000000), (1, .ref 0), (2, .ref 49), (3, .ref 85), (4, .int ((nI i) + 6))], [], gh S a b sc17 ar17 lo, ex, nc, ns)) rfl ?_
          rw [show ((nI i) + 6 : Int32) = nI (i + 6) from nI_add _ 6]
          refine to_n 1 (fr' := (43, [(0, .ref 1000000), (1, .ref 0), (2, .ref 49), (3, .ref 85), (4, .int (nI (i + 6)))], [], gh S a b sc17 ar17 lo, ex, nc, ns)) rfl ?_
          exact ih (i + 6) sc17 ar17 lo ex nc ns (by omega) (by omega) hI17 hL17 hR17 (by omega) (by omega)
        · refine to_eq (fr' := (401, [(0, .ref 1000000), (1, .ref 0), (2, .ref 49), (3, .ref 85), (4, .int (nI i))], [], gh S a b sc ar lo, ex, nc, ns)) rfl ?_
          refine to_n 4 (fr' := (406, [(0, .ref 1000000), (1, .ref 0), (2, .ref 49), (3, .ref 85), (4, .int (nI i))], [.int 1, .int (nI i), .ref 1000000, .ref 0], gh S a b sc ar lo, ex, nc, ns)) rfl ?_
          refine to_addN (x := i) (y := 1) rfl ?_
          refine to_ldx (i := (i + 1)) rfl (by omega) (by omega) ?_
          refine to_n 3 (fr' := (412, [(0, .ref 1000000), (1, .ref 0), (2, .ref 49), (3, .ref 85), (4, .int (nI i))], [.int 2, .int (nI i), .ref 1000000, .int (X.2 (i + 1)), .ref 0], gh S a b sc ar lo, ex, nc, ns)) rfl ?_
          refine to_addN (x := i) (y := 2) rfl ?_
          refine to_ldx (i := (i + 2)) rfl (by omega) (by omega) ?_
          refine to_n 1 (fr' := (415, [(0, .ref 1000000), (1, .ref 0), (2, .ref 49), (3, .ref 85), (4, .int (nI i))], [.ref 85, .int (X.2 (i + 2)), .int (X.2 (i + 1)), .ref 0], gh S a b sc ar lo, ex, nc, ns)) rfl ?_
          refine to_cl (q := 173) (M1 := an_L_law) (rest := []) rfl rfl (by decide) rfl trivial (lc_law hW hI (X.2 (i + 1)) (X.2 (i + 2)) hR.2.1 (d + 1)) (fun x18 sc18 ar18 lo18 ex18 nn18 ss18 hx18 hn18 hs18 => ?_)
          obtain ⟨hI18, hG18, hx18⟩ := hx18
          have hL18 : Lw sc18 ar18 := lw_fr hLw hG18 (by decide) (by decide) (by decide) (by decide)
          refine to_eq (fr' := (418, [(0, .ref 1000000), (1, .ref 0), (2, .ref 49), (3, .ref 85), (4, .int (nI i))], [.int x18], gh S a b sc18 ar18 lo18, ex18, (nc + nn18), (ns + ss18))) rfl ?_
          refine to_n 5 (fr' := (425, [(0, .ref 1000000), (1, .ref 0), (2, .ref 49), (3, .ref 85), (4, .int (nI i)), (5, .int x18)], [.int 1, .int (nI i), .ref 1000000, .ref 49], gh S a b sc18 ar18 lo18, ex18, (nc + nn18), (ns + ss18))) rfl ?_
          refine to_addN (x := i) (y := 1) rfl ?_
          refine to_ldx (i := (i + 1)) rfl (by omega) (by omega) ?_
          refine to_n 3 (fr' := (431, [(0, .ref 1000000), (1, .ref 0), (2, .ref 49), (3, .ref 85), (4, .int (nI i)), (5, .int x18)], [.int 2, .int (nI i), .ref 1000000, .int (X.2 (i + 1)), .ref 49], gh S a b sc18 ar18 lo18, ex18, (nc + nn18), (ns + ss18))) rfl ?_
          refine to_addN (x := i) (y := 2) rfl ?_
          refine to_ldx (i := (i + 2)) rfl (by omega) (by omega) ?_
          rcases hx18 with ⟨rfl, tk, pl, g, sz, wsm, wo, wb⟩ | ⟨rfl, wt, ws, wa⟩
          · refine to_ci (q := 131) (M1 := an_X10_law) (rest := []) rfl rfl (by decide) rfl ⟨_, rfl⟩ (sf_X10_law hW hI18 (X.2 (i + 1)) (X.2 (i + 2)) tk pl g sz (rf_st hR hG18 (by decide) wsm) hL18 d) (fun x19 sc19 ar19 hx19 => ?_)
            obtain ⟨hI19, hG19, hL19, hx19⟩ := hx19
            have hR19 : Rf sc19 ar19 := rf_law hR wo wb hG18 hx19 hG19 (by decide) (by decide)
            clear wsm wo wb hx19
            refine to_eq (fr' := (436, [(0, .ref 1000000), (1, .ref 0), (2, .ref 49), (3, .ref 85), (4, .int (nI i)), (5, .int 0)], [.int x19], gh S a b sc19 ar19 lo18, ex18, (nc + nn18), (ns + ss18))) rfl ?_
            refine to_n 3 (fr' := (757, [(0, .ref 1000000), (1, .ref 0), (2, .ref 49), (3, .ref 85), (4, .int ((nI i) + 6)), (5, .int 0), (6, .int x19)], [], gh S a b sc19 ar19 lo18, ex18, (nc + nn18), (ns + ss18))) rfl ?_
            rw [show ((nI i) + 6 : Int32) = nI (i + 6) from nI_add _ 6]
            refine to_n 1 (fr' := (43, [(0, .ref 1000000), (1, .ref 0), (2, .ref 49), (3, .ref 85), (4, .int (nI (i + 6))), (5, .int 0), (6, .int x19)], [], gh S a b sc19 ar19 lo18, ex18, (nc + nn18), (ns + ss18))) rfl ?_
            refine to_lv (lv := [(0, .ref 1000000), (1, .ref 0), (2, .ref 49), (3, .ref 85), (4, .int (nI (i + 6)))]) rfl ⟨rfl, rfl, rfl, rfl, rfl, trivial⟩ ?_
            exact ih (i + 6) sc19 ar19 lo18 ex18 (nc + nn18) (ns + ss18) (by omega) (by omega) hI19 hL19 hR19 (by omega) (by omega)
          · subst ws
            subst wa
            refine to_ci (q := 131) (M1 := an_X10_law) (rest := []) rfl rfl (by decide) rfl ⟨_, rfl⟩ (sf_X10_law hW hI18 (X.2 (i + 1)) (X.2 (i + 2)) (fun _ => 0) (fun _ => 0) (fun _ => 0) 0 (fun s n hs es e hn hx => (wt s n hs (hR.1.2.1.trans es) e hn hx).elim) hL18 d) (fun x20 sc20 ar20 hx20 => ?_)
            obtain ⟨hI20, hG20, hL20, hx20⟩ := hx20
            have hR20 : Rf sc20 ar20 := rf_lawt hR wt hx20 hG20 (by decide)
            clear wt hx20
            refine to_eq (fr' := (436, [(0, .ref 1000000), (1, .ref 0), (2, .ref 49), (3, .ref 85), (4, .int (nI i)), (5, .int 1)], [.int x20], gh S a b sc20 ar20 lo18, ex18, (nc + nn18), (ns + ss18))) rfl ?_
            refine to_n 3 (fr' := (757, [(0, .ref 1000000), (1, .ref 0), (2, .ref 49), (3, .ref 85), (4, .int ((nI i) + 6)), (5, .int 1), (6, .int x20)], [], gh S a b sc20 ar20 lo18, ex18, (nc + nn18), (ns + ss18))) rfl ?_
            rw [show ((nI i) + 6 : Int32) = nI (i + 6) from nI_add _ 6]
            refine to_n 1 (fr' := (43, [(0, .ref 1000000), (1, .ref 0), (2, .ref 49), (3, .ref 85), (4, .int (nI (i + 6))), (5, .int 1), (6, .int x20)], [], gh S a b sc20 ar20 lo18, ex18, (nc + nn18), (ns + ss18))) rfl ?_
            refine to_lv (lv := [(0, .ref 1000000), (1, .ref 0), (2, .ref 49), (3, .ref 85), (4, .int (nI (i + 6)))]) rfl ⟨rfl, rfl, rfl, rfl, rfl, trivial⟩ ?_
            exact ih (i + 6) sc20 ar20 lo18 ex18 (nc + nn18) (ns + ss18) (by omega) (by omega) hI20 hL20 hR20 (by omega) (by omega)
        · refine to_eq (fr' := (441, [(0, .ref 1000000), (1, .ref 0), (2, .ref 49), (3, .ref 85), (4, .int (nI i))], [], gh S a b sc ar lo, ex, nc, ns)) rfl ?_
          refine to_n 1 (fr' := (442, [(0, .ref 1000000), (1, .ref 0), (2, .ref 49), (3, .ref 85), (4, .int (nI i))], [.ref 0], gh S a b sc ar lo, ex, nc, ns)) rfl ?_
          refine to_ci (q := 79) (M1 := an_X9_fault) (rest := []) rfl rfl (by decide) rfl ⟨_, rfl⟩ (sf_X9_fault hW hI  (d + 32)) (fun x21 sc21 ar21 hx21 => ?_)
          obtain ⟨hI21, hG21, hx21⟩ := hx21
          have hL21 : Lw sc21 ar21 := lw_fr hLw hG21 (by decide) (by decide) (by decide) (by decide)
          have hR21 : Rf sc21 ar21 := rf_f hR hG21 (by decide) (by decide)
          refine to_eq (fr' := (445, [(0, .ref 1000000), (1, .ref 0), (2, .ref 49), (3, .ref 85), (4, .int (nI i))], [.int x21], gh S a b sc21 ar21 lo, ex, nc, ns)) rfl ?_
          refine to_n 1 (fr' := (446, [(0, .ref 1000000), (1, .ref 0), (2, .ref 49), (3, .ref 85), (4, .int (nI i))], [.ref 49, .int x21], gh S a b sc21 ar21 lo, ex, nc, ns)) rfl ?_
          refine to_ci (q := 132) (M1 := an_X10_fault) (rest := [.int x21]) rfl rfl (by decide) rfl ⟨_, rfl⟩ (sf_X10_fault hW hI21  (d + 32)) (fun x22 sc22 ar22 hx22 => ?_)
          obtain ⟨hI22, hG22, hx22⟩ := hx22
          have hL22 : Lw sc22 ar22 := lw_fr hL21 hG22 (by decide) (by decide) (by decide) (by decide)
          have hR22 : Rf sc22 ar22 := rf_f hR21 hG22 (by decide) (by decide)
          have hv22 := hx21.trans (hR.1.1.trans ((hG21.1 4909 (by decide)).symm.trans hx22.symm))
          refine to_eq (fr' := (449, [(0, .ref 1000000), (1, .ref 0), (2, .ref 49), (3, .ref 85), (4, .int (nI i))], [.int x22, .int x21], gh S a b sc22 ar22 lo, ex, nc, ns)) rfl ?_
          refine to_ic_eq_T (t := 754) rfl hv22 ?_
          refine to_n 1 (fr' := (757, [(0, .ref 1000000), (1, .ref 0), (2, .ref 49), (3, .ref 85), (4, .int ((nI i) + 6))], [], gh S a b sc22 ar22 lo, ex, nc, ns)) rfl ?_
          rw [show ((nI i) + 6 : Int32) = nI (i + 6) from nI_add _ 6]
          refine to_n 1 (fr' := (43, [(0, .ref 1000000), (1, .ref 0), (2, .ref 49), (3, .ref 85), (4, .int (nI (i + 6)))], [], gh S a b sc22 ar22 lo, ex, nc, ns)) rfl ?_
          exact ih (i + 6) sc22 ar22 lo ex nc ns (by omega) (by omega) hI22 hL22 hR22 (by omega) (by omega)
        · refine to_eq (fr' := (454, [(0, .ref 1000000), (1, .ref 0), (2, .ref 49), (3, .ref 85), (4, .int (nI i))], [], gh S a b sc ar lo, ex, nc, ns)) rfl ?_
          refine to_n 4 (fr' := (459, [(0, .ref 1000000), (1, .ref 0), (2, .ref 49), (3, .ref 85), (4, .int (nI i))], [.int 1, .int (nI i), .ref 1000000, .ref 0], gh S a b sc ar lo, ex, nc, ns)) rfl ?_
          refine to_addN (x := i) (y := 1) rfl ?_
          refine to_ldx (i := (i + 1)) rfl (by omega) (by omega) ?_
          refine to_n 1 (fr' := (462, [(0, .ref 1000000), (1, .ref 0), (2, .ref 49), (3, .ref 85), (4, .int (nI i))], [.ref 85, .int (X.2 (i + 1)), .ref 0], gh S a b sc ar lo, ex, nc, ns)) rfl ?_
          refine to_cl (q := 174) (M1 := an_L_light) (rest := []) rfl rfl (by decide) rfl trivial (lc_light hW hI (X.2 (i + 1)) (d + 25)) (fun x23 sc23 ar23 lo23 ex23 nn23 ss23 hx23 hn23 hs23 => ?_)
          obtain ⟨hI23, hG23⟩ := hx23
          have hL23 : Lw sc23 ar23 := lw_fr hLw hG23 (by decide) (by decide) (by decide) (by decide)
          have hR23 : Rf sc23 ar23 := rf_f hR hG23 (by decide) (by decide)
          refine to_eq (fr' := (465, [(0, .ref 1000000), (1, .ref 0), (2, .ref 49), (3, .ref 85), (4, .int (nI i))], [.int x23], gh S a b sc23 ar23 lo23, ex23, (nc + nn23), (ns + ss23))) rfl ?_
          refine to_n 5 (fr' := (472, [(0, .ref 1000000), (1, .ref 0), (2, .ref 49), (3, .ref 85), (4, .int (nI i)), (5, .int x23)], [.int 1, .int (nI i), .ref 1000000, .ref 49], gh S a b sc23 ar23 lo23, ex23, (nc + nn23), (ns + ss23))) rfl ?_
          refine to_addN (x := i) (y := 1) rfl ?_
          refine to_ldx (i := (i + 1)) rfl (by omega) (by omega) ?_
          refine to_ci (q := 143) (M1 := an_X10_light) (rest := []) rfl rfl (by decide) rfl ⟨_, rfl⟩ (sf_X10_light hW hI23 (X.2 (i + 1)) hL23 (d + 26)) (fun x24 sc24 ar24 hx24 => ?_)
          obtain ⟨hI24, hG24, hx24⟩ := hx24
          have hL24 : Lw sc24 ar24 := lw_fr hL23 hG24 (by decide) (by decide) (by decide) (by decide)
          clear hx24
          have hR24 : Rf sc24 ar24 := rf_f hR23 hG24 (by decide) (by decide)
          refine to_eq (fr' := (477, [(0, .ref 1000000), (1, .ref 0), (2, .ref 49), (3, .ref 85), (4, .int (nI i)), (5, .int x23)], [.int x24], gh S a b sc24 ar24 lo23, ex23, (nc + nn23), (ns + ss23))) rfl ?_
          refine to_n 3 (fr' := (757, [(0, .ref 1000000), (1, .ref 0), (2, .ref 49), (3, .ref 85), (4, .int ((nI i) + 6)), (5, .int x23), (6, .int x24)], [], gh S a b sc24 ar24 lo23, ex23, (nc + nn23), (ns + ss23))) rfl ?_
          rw [show ((nI i) + 6 : Int32) = nI (i + 6) from nI_add _ 6]
          refine to_n 1 (fr' := (43, [(0, .ref 1000000), (1, .ref 0), (2, .ref 49), (3, .ref 85), (4, .int (nI (i + 6))), (5, .int x23), (6, .int x24)], [], gh S a b sc24 ar24 lo23, ex23, (nc + nn23), (ns + ss23))) rfl ?_
          refine to_lv (lv := [(0, .ref 1000000), (1, .ref 0), (2, .ref 49), (3, .ref 85), (4, .int (nI (i + 6)))]) rfl ⟨rfl, rfl, rfl, rfl, rfl, trivial⟩ ?_
          exact ih (i + 6) sc24 ar24 lo23 ex23 (nc + nn23) (ns + ss23) (by omega) (by omega) hI24 hL24 hR24 (by omega) (by omega)
        · refine to_eq (fr' := (482, [(0, .ref 1000000), (1, .ref 0), (2, .ref 49), (3, .ref 85), (4, .int (nI i))], [], gh S a b sc ar lo, ex, nc, ns)) rfl ?_
          refine to_n 4 (fr' := (487, [(0, .ref 1000000), (1, .ref 0), (2, .ref 49), (3, .ref 85), (4, .int (nI i))], [.int 1, .int (nI i), .ref 1000000, .ref 0], gh S a b sc ar lo, ex, nc, ns)) rfl ?_
          refine to_addN (x := i) (y := 1) rfl ?_
          refine to_ldx (i := (i + 1)) rfl (by omega) (by omega) ?_
          refine to_n 3 (fr' := (493, [(0, .ref 1000000), (1, .ref 0), (2, .ref 49), (3, .ref 85), (4, .int (nI i))], [.int 2, .int (nI i), .ref 1000000, .int (X.2 (i + 1)), .ref 0], gh S a b sc ar lo, ex, nc, ns)) rfl ?_
          refine to_addN (x := i) (y := 2) rfl ?_
          refine to_ldx (i := (i + 2)) rfl (by omega) (by omega) ?_
          refine to_n 1 (fr' := (496, [(0, .ref 1000000), (1, .ref 0), (2, .ref 49), (3, .ref 85), (4, .int (nI i))], [.ref 85, .int (X.2 (i + 2)), .int (X.2 (i + 1)), .ref 0], gh S a b sc ar lo, ex, nc, ns)) rfl ?_
          refine to_cl (q := 175) (M1 := an_L_send) (rest := []) rfl rfl (by decide) rfl trivial (lc_send hW hI (X.2 (i + 1)) (X.2 (i + 2)) (d + 28)) (fun x25 sc25 ar25 lo25 ex25 nn25 ss25 hx25 hn25 hs25 => ?_)
          obtain ⟨hI25, hG25⟩ := hx25
          have hL25 : Lw sc25 ar25 := lw_fr hLw hG25 (by decide) (by decide) (by decide) (by decide)
          have hR25 : Rf sc25 ar25 := rf_f hR hG25 (by decide) (by decide)
          refine to_eq (fr' := (499, [(0, .ref 1000000), (1, .ref 0), (2, .ref 49), (3, .ref 85), (4, .int (nI i))], [.int x25], gh S a b sc25 ar25 lo25, ex25, (nc + nn25), (ns + ss25))) rfl ?_
          refine to_n 5 (fr' := (506, [(0, .ref 1000000), (1, .ref 0), (2, .ref 49), (3, .ref 85), (4, .int (nI i)), (5, .int x25)], [.int 1, .int (nI i), .ref 1000000, .ref 49], gh S a b sc25 ar25 lo25, ex25, (nc + nn25), (ns + ss25))) rfl ?_
          refine to_addN (x := i) (y := 1) rfl ?_
          refine to_ldx (i := (i + 1)) rfl (by omega) (by omega) ?_
          refine to_n 3 (fr' := (512, [(0, .ref 1000000), (1, .ref 0), (2, .ref 49), (3, .ref 85), (4, .int (nI i)), (5, .int x25)], [.int 2, .int (nI i), .ref 1000000, .int (X.2 (i + 1)), .ref 49], gh S a b sc25 ar25 lo25, ex25, (nc + nn25), (ns + ss25))) rfl ?_
          refine to_addN (x := i) (y := 2) rfl ?_
          refine to_ldx (i := (i + 2)) rfl (by omega) (by omega) ?_
          refine to_ci (q := 145) (M1 := an_X10_send) (rest := []) rfl rfl (by decide) rfl ⟨_, rfl⟩ (sf_X10_send hW hI25 (X.2 (i + 1)) (X.2 (i + 2)) (d + 30)) (fun x26 sc26 ar26 hx26 => ?_)
          obtain ⟨hI26, hG26, hx26⟩ := hx26
          have hL26 : Lw sc26 ar26 := lw_fr hL25 hG26 (by decide) (by decide) (by decide) (by decide)
          clear hx26
          have hR26 : Rf sc26 ar26 := rf_f hR25 hG26 (by decide) (by decide)
          refine to_eq (fr' := (517, [(0, .ref 1000000), (1, .ref 0), (2, .ref 49), (3, .ref 85), (4, .int (nI i)), (5, .int x25)], [.int x26], gh S a b sc26 ar26 lo25, ex25, (nc + nn25), (ns + ss25))) rfl ?_
          refine to_n 3 (fr' := (757, [(0, .ref 1000000), (1, .ref 0), (2, .ref 49), (3, .ref 85), (4, .int ((nI i) + 6)), (5, .int x25), (6, .int x26)], [], gh S a b sc26 ar26 lo25, ex25, (nc + nn25), (ns + ss25))) rfl ?_
          rw [show ((nI i) + 6 : Int32) = nI (i + 6) from nI_add _ 6]
          refine to_n 1 (fr' := (43, [(0, .ref 1000000), (1, .ref 0), (2, .ref 49), (3, .ref 85), (4, .int (nI (i + 6))), (5, .int x25), (6, .int x26)], [], gh S a b sc26 ar26 lo25, ex25, (nc + nn25), (ns + ss25))) rfl ?_
          refine to_lv (lv := [(0, .ref 1000000), (1, .ref 0), (2, .ref 49), (3, .ref 85), (4, .int (nI (i + 6)))]) rfl ⟨rfl, rfl, rfl, rfl, rfl, trivial⟩ ?_
          exact ih (i + 6) sc26 ar26 lo25 ex25 (nc + nn25) (ns + ss25) (by omega) (by omega) hI26 hL26 hR26 (by omega) (by omega)
        · refine to_eq (fr' := (522, [(0, .ref 1000000), (1, .ref 0), (2, .ref 49), (3, .ref 85), (4, .int (nI i))], [], gh S a b sc ar lo, ex, nc, ns)) rfl ?_
          refine to_n 4 (fr' := (527, [(0, .ref 1000000), (1, .ref 0), (2, .ref 49), (3, .ref 85), (4, .int (nI i))], [.int 1, .int (nI i), .ref 1000000, .ref 0], gh S a b sc ar lo, ex, nc, ns)) rfl ?_
          refine to_addN (x := i) (y := 1) rfl ?_
          refine to_ldx (i := (i + 1)) rfl (by omega) (by omega) ?_
          refine to_n 3 (fr' := (533, [(0, .ref 1000000), (1, .ref 0), (2, .ref 49), (3, .ref 85), (4, .int (nI i))], [.int 2, .int (nI i), .ref 1000000, .int (X.2 (i + 1)), .ref 0], gh S a b sc ar lo, ex, nc, ns)) rfl ?_
          refine to_addN (x := i) (y := 2) rfl ?_
          refine to_ldx (i := (i + 2)) rfl (by omega) (by omega) ?_
          refine to_n 1 (fr' := (536, [(0, .ref 1000000), (1, .ref 0), (2, .ref 49), (3, .ref 85), (4, .int (nI i))], [.ref 85, .int (X.2 (i + 2)), .int (X.2 (i + 1)), .ref 0], gh S a b sc ar lo, ex, nc, ns)) rfl ?_
          refine to_cl (q := 176) (M1 := an_L_pull) (rest := []) rfl rfl (by decide) rfl trivial (lc_pull hW hI (X.2 (i + 1)) (X.2 (i + 2)) (d + 28)) (fun x27 sc27 ar27 lo27 ex27 nn27 ss27 hx27 hn27 hs27 => ?_)
          obtain ⟨hI27, hG27⟩ := hx27
          have hL27 : Lw sc27 ar27 := lw_fr hLw hG27 (by decide) (by decide) (by decide) (by decide)
          have hR27 : Rf sc27 ar27 := rf_f hR hG27 (by decide) (by decide)
          refine to_eq (fr' := (539, [(0, .ref 1000000), (1, .ref 0), (2, .ref 49), (3, .ref 85), (4, .int (nI i))], [.int x27], gh S a b sc27 ar27 lo27, ex27, (nc + nn27), (ns + ss27))) rfl ?_
          refine to_n 5 (fr' := (546, [(0, .ref 1000000), (1, .ref 0), (2, .ref 49), (3, .ref 85), (4, .int (nI i)), (5, .int x27)], [.int 1, .int (nI i), .ref 1000000, .ref 49], gh S a b sc27 ar27 lo27, ex27, (nc + nn27), (ns + ss27))) rfl ?_
          refine to_addN (x := i) (y := 1) rfl ?_
          refine to_ldx (i := (i + 1)) rfl (by omega) (by omega) ?_
          refine to_n 3 (fr' := (552, [(0, .ref 1000000), (1, .ref 0), (2, .ref 49), (3, .ref 85), (4, .int (nI i)), (5, .int x27)], [.int 2, .int (nI i), .ref 1000000, .int (X.2 (i + 1)), .ref 49], gh S a b sc27 ar27 lo27, ex27, (nc + nn27), (ns + ss27))) rfl ?_
          refine to_addN (x := i) (y := 2) rfl ?_
          refine to_ldx (i := (i + 2)) rfl (by omega) (by omega) ?_
          refine to_ci (q := 146) (M1 := an_X10_pull) (rest := []) rfl rfl (by decide) rfl ⟨_, rfl⟩ (sf_X10_pull hW hI27 (X.2 (i + 1)) (X.2 (i + 2)) (d + 30)) (fun x28 sc28 ar28 hx28 => ?_)
          obtain ⟨hI28, hG28, hx28⟩ := hx28
          have hL28 : Lw sc28 ar28 := lw_fr hL27 hG28 (by decide) (by decide) (by decide) (by decide)
          clear hx28
          have hR28 : Rf sc28 ar28 := rf_f hR27 hG28 (by decide) (by decide)
          refine to_eq (fr' := (557, [(0, .ref 1000000), (1, .ref 0), (2, .ref 49), (3, .ref 85), (4, .int (nI i)), (5, .int x27)], [.int x28], gh S a b sc28 ar28 lo27, ex27, (nc + nn27), (ns + ss27))) rfl ?_
          refine to_n 3 (fr' := (757, [(0, .ref 1000000), (1, .ref 0), (2, .ref 49), (3, .ref 85), (4, .int ((nI i) + 6)), (5, .int x27), (6, .int x28)], [], gh S a b sc28 ar28 lo27, ex27, (nc + nn27), (ns + ss27))) rfl ?_
          rw [show ((nI i) + 6 : Int32) = nI (i + 6) from nI_add _ 6]
          refine to_n 1 (fr' := (43, [(0, .ref 1000000), (1, .ref 0), (2, .ref 49), (3, .ref 85), (4, .int (nI (i + 6))), (5, .int x27), (6, .int x28)], [], gh S a b sc28 ar28 lo27, ex27, (nc + nn27), (ns + ss27))) rfl ?_
          refine to_lv (lv := [(0, .ref 1000000), (1, .ref 0), (2, .ref 49), (3, .ref 85), (4, .int (nI (i + 6)))]) rfl ⟨rfl, rfl, rfl, rfl, rfl, trivial⟩ ?_
          exact ih (i + 6) sc28 ar28 lo27 ex27 (nc + nn27) (ns + ss27) (by omega) (by omega) hI28 hL28 hR28 (by omega) (by omega)
        · refine to_eq (fr' := (562, [(0, .ref 1000000), (1, .ref 0), (2, .ref 49), (3, .ref 85), (4, .int (nI i))], [], gh S a b sc ar lo, ex, nc, ns)) rfl ?_
          refine to_n 4 (fr' := (567, [(0, .ref 1000000), (1, .ref 0), (2, .ref 49), (3, .ref 85), (4, .int (nI i))], [.int 1, .int (nI i), .ref 1000000, .ref 0], gh S a b sc ar lo, ex, nc, ns)) rfl ?_
          refine to_addN (x := i) (y := 1) rfl ?_
          refine to_ldx (i := (i + 1)) rfl (by omega) (by omega) ?_
          refine to_n 1 (fr' := (570, [(0, .ref 1000000), (1, .ref 0), (2, .ref 49), (3, .ref 85), (4, .int (nI i))], [.ref 85, .int (X.2 (i + 1)), .ref 0], gh S a b sc ar lo, ex, nc, ns)) rfl ?_
          refine to_cl (q := 177) (M1 := an_L_hours) (rest := []) rfl rfl (by decide) rfl trivial (lc_hours hW hI (X.2 (i + 1)) (d + 24)) (fun x29 sc29 ar29 lo29 ex29 nn29 ss29 hx29 hn29 hs29 => ?_)
          obtain ⟨hI29, hG29, hx29⟩ := hx29
          have hL29 : Lw sc29 ar29 := lw_fr hLw hG29 (by decide) (by decide) (by decide) (by decide)
          clear hx29
          have hR29 : Rf sc29 ar29 := rf_f hR hG29 (by decide) (by decide)
          refine to_eq (fr' := (573, [(0, .ref 1000000), (1, .ref 0), (2, .ref 49), (3, .ref 85), (4, .int (nI i))], [.int x29], gh S a b sc29 ar29 lo29, ex29, (nc + nn29), (ns + ss29))) rfl ?_
          refine to_n 5 (fr' := (580, [(0, .ref 1000000), (1, .ref 0), (2, .ref 49), (3, .ref 85), (4, .int (nI i)), (5, .int x29)], [.int 1, .int (nI i), .ref 1000000, .ref 49], gh S a b sc29 ar29 lo29, ex29, (nc + nn29), (ns + ss29))) rfl ?_
          refine to_addN (x := i) (y := 1) rfl ?_
          refine to_ldx (i := (i + 1)) rfl (by omega) (by omega) ?_
          refine to_ci (q := 156) (M1 := an_X10_hours) (rest := []) rfl rfl (by decide) rfl ⟨_, rfl⟩ (sf_X10_hours hW hI29 (X.2 (i + 1)) hL29 (d + 26)) (fun x30 sc30 ar30 hx30 => ?_)
          obtain ⟨hI30, hG30, hx30⟩ := hx30
          have hL30 : Lw sc30 ar30 := lw_fr hL29 hG30 (by decide) (by decide) (by decide) (by decide)
          clear hx30
          have hR30 : Rf sc30 ar30 := rf_f hR29 hG30 (by decide) (by decide)
          refine to_eq (fr' := (585, [(0, .ref 1000000), (1, .ref 0), (2, .ref 49), (3, .ref 85), (4, .int (nI i)), (5, .int x29)], [.int x30], gh S a b sc30 ar30 lo29, ex29, (nc + nn29), (ns + ss29))) rfl ?_
          refine to_n 3 (fr' := (757, [(0, .ref 1000000), (1, .ref 0), (2, .ref 49), (3, .ref 85), (4, .int ((nI i) + 6)), (5, .int x29), (6, .int x30)], [], gh S a b sc30 ar30 lo29, ex29, (nc + nn29), (ns + ss29))) rfl ?_
          rw [show ((nI i) + 6 : Int32) = nI (i + 6) from nI_add _ 6]
          refine to_n 1 (fr' := (43, [(0, .ref 1000000), (1, .ref 0), (2, .ref 49), (3, .ref 85), (4, .int (nI (i + 6))), (5, .int x29), (6, .int x30)], [], gh S a b sc30 ar30 lo29, ex29, (nc + nn29), (ns + ss29))) rfl ?_
          refine to_lv (lv := [(0, .ref 1000000), (1, .ref 0), (2, .ref 49), (3, .ref 85), (4, .int (nI (i + 6)))]) rfl ⟨rfl, rfl, rfl, rfl, rfl, trivial⟩ ?_
          exact ih (i + 6) sc30 ar30 lo29 ex29 (nc + nn29) (ns + ss29) (by omega) (by omega) hI30 hL30 hR30 (by omega) (by omega)
        · refine to_eq (fr' := (590, [(0, .ref 1000000), (1, .ref 0), (2, .ref 49), (3, .ref 85), (4, .int (nI i))], [], gh S a b sc ar lo, ex, nc, ns)) rfl ?_
          refine to_n 4 (fr' := (595, [(0, .ref 1000000), (1, .ref 0), (2, .ref 49), (3, .ref 85), (4, .int (nI i))], [.int 1, .int (nI i), .ref 1000000, .ref 0], gh S a b sc ar lo, ex, nc, ns)) rfl ?_
          refine to_addN (x := i) (y := 1) rfl ?_
          refine to_ldx (i := (i + 1)) rfl (by omega) (by omega) ?_
          refine to_n 3 (fr' := (601, [(0, .ref 1000000), (1, .ref 0), (2, .ref 49), (3, .ref 85), (4, .int (nI i))], [.int 2, .int (nI i), .ref 1000000, .int (X.2 (i + 1)), .ref 0], gh S a b sc ar lo, ex, nc, ns)) rfl ?_
          refine to_addN (x := i) (y := 2) rfl ?_
          refine to_ldx (i := (i + 2)) rfl (by omega) (by omega) ?_
          refine to_n 1 (fr' := (604, [(0, .ref 1000000), (1, .ref 0), (2, .ref 49), (3, .ref 85), (4, .int (nI i))], [.ref 85, .int (X.2 (i + 2)), .int (X.2 (i + 1)), .ref 0], gh S a b sc ar lo, ex, nc, ns)) rfl ?_
          refine to_cl (q := 178) (M1 := an_L_cell_) (rest := []) rfl rfl (by decide) rfl trivial (lc_cell_ hW hI (X.2 (i + 1)) (X.2 (i + 2)) (d + 29)) (fun x31 sc31 ar31 lo31 ex31 nn31 ss31 hx31 hn31 hs31 => ?_)
          obtain ⟨hI31, hG31⟩ := hx31
          have hL31 : Lw sc31 ar31 := lw_fr hLw hG31 (by decide) (by decide) (by decide) (by decide)
          have hR31 : Rf sc31 ar31 := rf_f hR hG31 (by decide) (by decide)
          refine to_eq (fr' := (607, [(0, .ref 1000000), (1, .ref 0), (2, .ref 49), (3, .ref 85), (4, .int (nI i))], [.int x31], gh S a b sc31 ar31 lo31, ex31, (nc + nn31), (ns + ss31))) rfl ?_
          refine to_n 5 (fr' := (614, [(0, .ref 1000000), (1, .ref 0), (2, .ref 49), (3, .ref 85), (4, .int (nI i)), (5, .int x31)], [.int 1, .int (nI i), .ref 1000000, .ref 49], gh S a b sc31 ar31 lo31, ex31, (nc + nn31), (ns + ss31))) rfl ?_
          refine to_addN (x := i) (y := 1) rfl ?_
          refine to_ldx (i := (i + 1)) rfl (by omega) (by omega) ?_
          refine to_n 3 (fr' := (620, [(0, .ref 1000000), (1, .ref 0), (2, .ref 49), (3, .ref 85), (4, .int (nI i)), (5, .int x31)], [.int 2, .int (nI i), .ref 1000000, .int (X.2 (i + 1)), .ref 49], gh S a b sc31 ar31 lo31, ex31, (nc + nn31), (ns + ss31))) rfl ?_
          refine to_addN (x := i) (y := 2) rfl ?_
          refine to_ldx (i := (i + 2)) rfl (by omega) (by omega) ?_
          refine to_ci (q := 157) (M1 := an_X10_cell) (rest := []) rfl rfl (by decide) rfl ⟨_, rfl⟩ (sf_X10_cell hW hI31 (X.2 (i + 1)) (X.2 (i + 2)) (d + 31)) (fun x32 sc32 ar32 hx32 => ?_)
          obtain ⟨hI32, hG32, hx32⟩ := hx32
          have hL32 : Lw sc32 ar32 := lw_fr hL31 hG32 (by decide) (by decide) (by decide) (by decide)
          clear hx32
          have hR32 : Rf sc32 ar32 := rf_f hR31 hG32 (by decide) (by decide)
          refine to_eq (fr' := (625, [(0, .ref 1000000), (1, .ref 0), (2, .ref 49), (3, .ref 85), (4, .int (nI i)), (5, .int x31)], [.int x32], gh S a b sc32 ar32 lo31, ex31, (nc + nn31), (ns + ss31))) rfl ?_
          refine to_n 3 (fr' := (757, [(0, .ref 1000000), (1, .ref 0), (2, .ref 49), (3, .ref 85), (4, .int ((nI i) + 6)), (5, .int x31), (6, .int x32)], [], gh S a b sc32 ar32 lo31, ex31, (nc + nn31), (ns + ss31))) rfl ?_
          rw [show ((nI i) + 6 : Int32) = nI (i + 6) from nI_add _ 6]
          refine to_n 1 (fr' := (43, [(0, .ref 1000000), (1, .ref 0), (2, .ref 49), (3, .ref 85), (4, .int (nI (i + 6))), (5, .int x31), (6, .int x32)], [], gh S a b sc32 ar32 lo31, ex31, (nc + nn31), (ns + ss31))) rfl ?_
          refine to_lv (lv := [(0, .ref 1000000), (1, .ref 0), (2, .ref 49), (3, .ref 85), (4, .int (nI (i + 6)))]) rfl ⟨rfl, rfl, rfl, rfl, rfl, trivial⟩ ?_
          exact ih (i + 6) sc32 ar32 lo31 ex31 (nc + nn31) (ns + ss31) (by omega) (by omega) hI32 hL32 hR32 (by omega) (by omega)
        · refine to_eq (fr' := (630, [(0, .ref 1000000), (1, .ref 0), (2, .ref 49), (3, .ref 85), (4, .int (nI i))], [], gh S a b sc ar lo, ex, nc, ns)) rfl ?_
          refine to_n 4 (fr' := (635, [(0, .ref 1000000), (1, .ref 0), (2, .ref 49), (3, .ref 85), (4, .int (nI i))], [.int 1, .int (nI i), .ref 1000000, .ref 0], gh S a b sc ar lo, ex, nc, ns)) rfl ?_
          refine to_addN (x := i) (y := 1) rfl ?_
          refine to_ldx (i := (i + 1)) rfl (by omega) (by omega) ?_
          refine to_n 3 (fr' := (641, [(0, .ref 1000000), (1, .ref 0), (2, .ref 49), (3, .ref 85), (4, .int (nI i))], [.int 2, .int (nI i), .ref 1000000, .int (X.2 (i + 1)), .ref 0], gh S a b sc ar lo, ex, nc, ns)) rfl ?_
          refine to_addN (x := i) (y := 2) rfl ?_
          refine to_ldx (i := (i + 2)) rfl (by omega) (by omega) ?_
          refine to_n 1 (fr' := (644, [(0, .ref 1000000), (1, .ref 0), (2, .ref 49), (3, .ref 85), (4, .int (nI i))], [.ref 85, .int (X.2 (i + 2)), .int (X.2 (i + 1)), .ref 0], gh S a b sc ar lo, ex, nc, ns)) rfl ?_
          refine to_cl (q := 179) (M1 := an_L_of) (rest := []) rfl rfl (by decide) rfl trivial (lc_of hW hI (X.2 (i + 1)) (X.2 (i + 2)) (d + 29)) (fun x33 sc33 ar33 lo33 ex33 nn33 ss33 hx33 hn33 hs33 => ?_)
          obtain ⟨hI33, hG33⟩ := hx33
          have hL33 : Lw sc33 ar33 := lw_fr hLw hG33 (by decide) (by decide) (by decide) (by decide)
          have hR33 : Rf sc33 ar33 := rf_f hR hG33 (by decide) (by decide)
          refine to_eq (fr' := (647, [(0, .ref 1000000), (1, .ref 0), (2, .ref 49), (3, .ref 85), (4, .int (nI i))], [.int x33], gh S a b sc33 ar33 lo33, ex33, (nc + nn33), (ns + ss33))) rfl ?_
          refine to_n 5 (fr' := (654, [(0, .ref 1000000), (1, .ref 0), (2, .ref 49), (3, .ref 85), (4, .int (nI i)), (5, .int x33)], [.int 1, .int (nI i), .ref 1000000, .ref 49], gh S a b sc33 ar33 lo33, ex33, (nc + nn33), (ns + ss33))) rfl ?_
          refine to_addN (x := i) (y := 1) rfl ?_
          refine to_ldx (i := (i + 1)) rfl (by omega) (by omega) ?_
          refine to_n 3 (fr' := (660, [(0, .ref 1000000), (1, .ref 0), (2, .ref 49), (3, .ref 85), (4, .int (nI i)), (5, .int x33)], [.int 2, .int (nI i), .ref 1000000, .int (X.2 (i + 1)), .ref 49], gh S a b sc33 ar33 lo33, ex33, (nc + nn33), (ns + ss33))) rfl ?_
          refine to_addN (x := i) (y := 2) rfl ?_
          refine to_ldx (i := (i + 2)) rfl (by omega) (by omega) ?_
          refine to_ci (q := 158) (M1 := an_X10_of) (rest := []) rfl rfl (by decide) rfl ⟨_, rfl⟩ (sf_X10_of hW hI33 (X.2 (i + 1)) (X.2 (i + 2)) (d + 31)) (fun x34 sc34 ar34 hx34 => ?_)
          obtain ⟨hI34, hG34, hx34⟩ := hx34
          have hL34 : Lw sc34 ar34 := lw_fr hL33 hG34 (by decide) (by decide) (by decide) (by decide)
          clear hx34
          have hR34 : Rf sc34 ar34 := rf_f hR33 hG34 (by decide) (by decide)
          refine to_eq (fr' := (665, [(0, .ref 1000000), (1, .ref 0), (2, .ref 49), (3, .ref 85), (4, .int (nI i)), (5, .int x33)], [.int x34], gh S a b sc34 ar34 lo33, ex33, (nc + nn33), (ns + ss33))) rfl ?_
          refine to_n 3 (fr' := (757, [(0, .ref 1000000), (1, .ref 0), (2, .ref 49), (3, .ref 85), (4, .int ((nI i) + 6)), (5, .int x33), (6, .int x34)], [], gh S a b sc34 ar34 lo33, ex33, (nc + nn33), (ns + ss33))) rfl ?_
          rw [show ((nI i) + 6 : Int32) = nI (i + 6) from nI_add _ 6]
          refine to_n 1 (fr' := (43, [(0, .ref 1000000), (1, .ref 0), (2, .ref 49), (3, .ref 85), (4, .int (nI (i + 6))), (5, .int x33), (6, .int x34)], [], gh S a b sc34 ar34 lo33, ex33, (nc + nn33), (ns + ss33))) rfl ?_
          refine to_lv (lv := [(0, .ref 1000000), (1, .ref 0), (2, .ref 49), (3, .ref 85), (4, .int (nI (i + 6)))]) rfl ⟨rfl, rfl, rfl, rfl, rfl, trivial⟩ ?_
          exact ih (i + 6) sc34 ar34 lo33 ex33 (nc + nn33) (ns + ss33) (by omega) (by omega) hI34 hL34 hR34 (by omega) (by omega)
        · refine to_eq (fr' := (670, [(0, .ref 1000000), (1, .ref 0), (2, .ref 49), (3, .ref 85), (4, .int (nI i))], [], gh S a b sc ar lo, ex, nc, ns)) rfl ?_
          refine to_n 4 (fr' := (675, [(0, .ref 1000000), (1, .ref 0), (2, .ref 49), (3, .ref 85), (4, .int (nI i))], [.int 1, .int (nI i), .ref 1000000, .ref 0], gh S a b sc ar lo, ex, nc, ns)) rfl ?_
          refine to_addN (x := i) (y := 1) rfl ?_
          refine to_ldx (i := (i + 1)) rfl (by omega) (by omega) ?_
          refine to_n 1 (fr' := (678, [(0, .ref 1000000), (1, .ref 0), (2, .ref 49), (3, .ref 85), (4, .int (nI i))], [.ref 85, .int (X.2 (i + 1)), .ref 0], gh S a b sc ar lo, ex, nc, ns)) rfl ?_
          refine to_cl (q := 180) (M1 := an_L_breaks) (rest := []) rfl rfl (by decide) rfl trivial (lc_breaks hW hI (X.2 (i + 1)) (d + 26)) (fun x35 sc35 ar35 lo35 ex35 nn35 ss35 hx35 hn35 hs35 => ?_)
          obtain ⟨hI35, hG35⟩ := hx35
          have hL35 : Lw sc35 ar35 := lw_fr hLw hG35 (by decide) (by decide) (by decide) (by decide)
          have hR35 : Rf sc35 ar35 := rf_f hR hG35 (by decide) (by decide)
          refine to_eq (fr' := (681, [(0, .ref 1000000), (1, .ref 0), (2, .ref 49), (3, .ref 85), (4, .int (nI i))], [.int x35], gh S a b sc35 ar35 lo35, ex35, (nc + nn35), (ns + ss35))) rfl ?_
          refine to_n 5 (fr' := (688, [(0, .ref 1000000), (1, .ref 0), (2, .ref 49), (3, .ref 85), (4, .int (nI i)), (5, .int x35)], [.int 1, .int (nI i), .ref 1000000, .ref 49], gh S a b sc35 ar35 lo35, ex35, (nc + nn35), (ns + ss35))) rfl ?_
          refine to_addN (x := i) (y := 1) rfl ?_
          refine to_ldx (i := (i + 1)) rfl (by omega) (by omega) ?_
          refine to_ci (q := 164) (M1 := an_X10_breaks) (rest := []) rfl rfl (by decide) rfl ⟨_, rfl⟩ (sf_X10_breaks hW hI35 (X.2 (i + 1)) (d + 28)) (fun x36 sc36 ar36 hx36 => ?_)
          obtain ⟨hI36, hG36, hx36⟩ := hx36
          have hL36 : Lw sc36 ar36 := lw_fr hL35 hG36 (by decide) (by decide) (by decide) (by decide)
          clear hx36
          have hR36 : Rf sc36 ar36 := rf_f hR35 hG36 (by decide) (by decide)
          refine to_eq (fr' := (693, [(0, .ref 1000000), (1, .ref 0), (2, .ref 49), (3, .ref 85), (4, .int (nI i)), (5, .int x35)], [.int x36], gh S a b sc36 ar36 lo35, ex35, (nc + nn35), (ns + ss35))) rfl ?_
          refine to_n 3 (fr' := (757, [(0, .ref 1000000), (1, .ref 0), (2, .ref 49), (3, .ref 85), (4, .int ((nI i) + 6)), (5, .int x35), (6, .int x36)], [], gh S a b sc36 ar36 lo35, ex35, (nc + nn35), (ns + ss35))) rfl ?_
          rw [show ((nI i) + 6 : Int32) = nI (i + 6) from nI_add _ 6]
          refine to_n 1 (fr' := (43, [(0, .ref 1000000), (1, .ref 0), (2, .ref 49), (3, .ref 85), (4, .int (nI (i + 6))), (5, .int x35), (6, .int x36)], [], gh S a b sc36 ar36 lo35, ex35, (nc + nn35), (ns + ss35))) rfl ?_
          refine to_lv (lv := [(0, .ref 1000000), (1, .ref 0), (2, .ref 49), (3, .ref 85), (4, .int (nI (i + 6)))]) rfl ⟨rfl, rfl, rfl, rfl, rfl, trivial⟩ ?_
          exact ih (i + 6) sc36 ar36 lo35 ex35 (nc + nn35) (ns + ss35) (by omega) (by omega) hI36 hL36 hR36 (by omega) (by omega)
        · refine to_eq (fr' := (698, [(0, .ref 1000000), (1, .ref 0), (2, .ref 49), (3, .ref 85), (4, .int (nI i))], [], gh S a b sc ar lo, ex, nc, ns)) rfl ?_
          refine to_n 4 (fr' := (703, [(0, .ref 1000000), (1, .ref 0), (2, .ref 49), (3, .ref 85), (4, .int (nI i))], [.int 1, .int (nI i), .ref 1000000, .ref 0], gh S a b sc ar lo, ex, nc, ns)) rfl ?_
          refine to_addN (x := i) (y := 1) rfl ?_
          refine to_ldx (i := (i + 1)) rfl (by omega) (by omega) ?_
          refine to_n 1 (fr' := (706, [(0, .ref 1000000), (1, .ref 0), (2, .ref 49), (3, .ref 85), (4, .int (nI i))], [.ref 85, .int (X.2 (i + 1)), .ref 0], gh S a b sc ar lo, ex, nc, ns)) rfl ?_
          refine to_cl (q := 181) (M1 := an_L_breaker) (rest := []) rfl rfl (by decide) rfl trivial (lc_breaker hW hI (X.2 (i + 1)) (d + 31)) (fun x37 sc37 ar37 lo37 ex37 nn37 ss37 hx37 hn37 hs37 => ?_)
          obtain ⟨hI37, hG37⟩ := hx37
          have hL37 : Lw sc37 ar37 := lw_fr hLw hG37 (by decide) (by decide) (by decide) (by decide)
          have hR37 : Rf sc37 ar37 := rf_f hR hG37 (by decide) (by decide)
          refine to_eq (fr' := (709, [(0, .ref 1000000), (1, .ref 0), (2, .ref 49), (3, .ref 85), (4, .int (nI i))], [.int x37], gh S a b sc37 ar37 lo37, ex37, (nc + nn37), (ns + ss37))) rfl ?_
          refine to_n 5 (fr' := (716, [(0, .ref 1000000), (1, .ref 0), (2, .ref 49), (3, .ref 85), (4, .int (nI i)), (5, .int x37)], [.int 1, .int (nI i), .ref 1000000, .ref 49], gh S a b sc37 ar37 lo37, ex37, (nc + nn37), (ns + ss37))) rfl ?_
          refine to_addN (x := i) (y := 1) rfl ?_
          refine to_ldx (i := (i + 1)) rfl (by omega) (by omega) ?_
          refine to_ci (q := 165) (M1 := an_X10_breaker) (rest := []) rfl rfl (by decide) rfl ⟨_, rfl⟩ (sf_X10_breaker hW hI37 (X.2 (i + 1)) (d + 31)) (fun x38 sc38 ar38 hx38 => ?_)
          obtain ⟨hI38, hG38, hx38⟩ := hx38
          have hL38 : Lw sc38 ar38 := lw_fr hL37 hG38 (by decide) (by decide) (by decide) (by decide)
          clear hx38
          have hR38 : Rf sc38 ar38 := rf_f hR37 hG38 (by decide) (by decide)
          refine to_eq (fr' := (721, [(0, .ref 1000000), (1, .ref 0), (2, .ref 49), (3, .ref 85), (4, .int (nI i)), (5, .int x37)], [.int x38], gh S a b sc38 ar38 lo37, ex37, (nc + nn37), (ns + ss37))) rfl ?_
          refine to_n 3 (fr' := (757, [(0, .ref 1000000), (1, .ref 0), (2, .ref 49), (3, .ref 85), (4, .int ((nI i) + 6)), (5, .int x37), (6, .int x38)], [], gh S a b sc38 ar38 lo37, ex37, (nc + nn37), (ns + ss37))) rfl ?_
          rw [show ((nI i) + 6 : Int32) = nI (i + 6) from nI_add _ 6]
          refine to_n 1 (fr' := (43, [(0, .ref 1000000), (1, .ref 0), (2, .ref 49), (3, .ref 85), (4, .int (nI (i + 6))), (5, .int x37), (6, .int x38)], [], gh S a b sc38 ar38 lo37, ex37, (nc + nn37), (ns + ss37))) rfl ?_
          refine to_lv (lv := [(0, .ref 1000000), (1, .ref 0), (2, .ref 49), (3, .ref 85), (4, .int (nI (i + 6)))]) rfl ⟨rfl, rfl, rfl, rfl, rfl, trivial⟩ ?_
          exact ih (i + 6) sc38 ar38 lo37 ex37 (nc + nn37) (ns + ss37) (by omega) (by omega) hI38 hL38 hR38 (by omega) (by omega)
        · refine to_eq (fr' := (726, [(0, .ref 1000000), (1, .ref 0), (2, .ref 49), (3, .ref 85), (4, .int (nI i))], [], gh S a b sc ar lo, ex, nc, ns)) rfl ?_
          refine to_n 4 (fr' := (731, [(0, .ref 1000000), (1, .ref 0), (2, .ref 49), (3, .ref 85), (4, .int (nI i))], [.int 1, .int (nI i), .ref 1000000, .ref 0], gh S a b sc ar lo, ex, nc, ns)) rfl ?_
          refine to_addN (x := i) (y := 1) rfl ?_
          refine to_ldx (i := (i + 1)) rfl (by omega) (by omega) ?_
          refine to_n 1 (fr' := (734, [(0, .ref 1000000), (1, .ref 0), (2, .ref 49), (3, .ref 85), (4, .int (nI i))], [.ref 85, .int (X.2 (i + 1)), .ref 0], gh S a b sc ar lo, ex, nc, ns)) rfl ?_
          refine to_cl (q := 182) (M1 := an_L_count) (rest := []) rfl rfl (by decide) rfl trivial (lc_count hW hI (X.2 (i + 1)) (d + 30)) (fun x39 sc39 ar39 lo39 ex39 nn39 ss39 hx39 hn39 hs39 => ?_)
          obtain ⟨hI39, hG39⟩ := hx39
          have hL39 : Lw sc39 ar39 := lw_fr hLw hG39 (by decide) (by decide) (by decide) (by decide)
          have hR39 : Rf sc39 ar39 := rf_f hR hG39 (by decide) (by decide)
          refine to_eq (fr' := (737, [(0, .ref 1000000), (1, .ref 0), (2, .ref 49), (3, .ref 85), (4, .int (nI i))], [.int x39], gh S a b sc39 ar39 lo39, ex39, (nc + nn39), (ns + ss39))) rfl ?_
          refine to_n 5 (fr' := (744, [(0, .ref 1000000), (1, .ref 0), (2, .ref 49), (3, .ref 85), (4, .int (nI i)), (5, .int x39)], [.int 1, .int (nI i), .ref 1000000, .ref 49], gh S a b sc39 ar39 lo39, ex39, (nc + nn39), (ns + ss39))) rfl ?_
          refine to_addN (x := i) (y := 1) rfl ?_
          refine to_ldx (i := (i + 1)) rfl (by omega) (by omega) ?_
          refine to_ci (q := 166) (M1 := an_X10_count) (rest := []) rfl rfl (by decide) rfl ⟨_, rfl⟩ (sf_X10_count hW hI39 (X.2 (i + 1)) (d + 31)) (fun x40 sc40 ar40 hx40 => ?_)
          obtain ⟨hI40, hG40, hx40⟩ := hx40
          have hL40 : Lw sc40 ar40 := lw_fr hL39 hG40 (by decide) (by decide) (by decide) (by decide)
          clear hx40
          have hR40 : Rf sc40 ar40 := rf_f hR39 hG40 (by decide) (by decide)
          refine to_eq (fr' := (749, [(0, .ref 1000000), (1, .ref 0), (2, .ref 49), (3, .ref 85), (4, .int (nI i)), (5, .int x39)], [.int x40], gh S a b sc40 ar40 lo39, ex39, (nc + nn39), (ns + ss39))) rfl ?_
          refine to_n 3 (fr' := (757, [(0, .ref 1000000), (1, .ref 0), (2, .ref 49), (3, .ref 85), (4, .int ((nI i) + 6)), (5, .int x39), (6, .int x40)], [], gh S a b sc40 ar40 lo39, ex39, (nc + nn39), (ns + ss39))) rfl ?_
          rw [show ((nI i) + 6 : Int32) = nI (i + 6) from nI_add _ 6]
          refine to_n 1 (fr' := (43, [(0, .ref 1000000), (1, .ref 0), (2, .ref 49), (3, .ref 85), (4, .int (nI (i + 6))), (5, .int x39), (6, .int x40)], [], gh S a b sc40 ar40 lo39, ex39, (nc + nn39), (ns + ss39))) rfl ?_
          refine to_lv (lv := [(0, .ref 1000000), (1, .ref 0), (2, .ref 49), (3, .ref 85), (4, .int (nI (i + 6)))]) rfl ⟨rfl, rfl, rfl, rfl, rfl, trivial⟩ ?_
          exact ih (i + 6) sc40 ar40 lo39 ex39 (nc + nn39) (ns + ss39) (by omega) (by omega) hI40 hL40 hR40 (by omega) (by omega)
        · refine to_eq (fr' := (754, [(0, .ref 1000000), (1, .ref 0), (2, .ref 49), (3, .ref 85), (4, .int (nI i))], [], gh S a b sc ar lo, ex, nc, ns)) rfl ?_
          refine to_n 1 (fr' := (757, [(0, .ref 1000000), (1, .ref 0), (2, .ref 49), (3, .ref 85), (4, .int ((nI i) + 6))], [], gh S a b sc ar lo, ex, nc, ns)) rfl ?_
          rw [show ((nI i) + 6 : Int32) = nI (i + 6) from nI_add _ 6]
          refine to_n 1 (fr' := (43, [(0, .ref 1000000), (1, .ref 0), (2, .ref 49), (3, .ref 85), (4, .int (nI (i + 6)))], [], gh S a b sc ar lo, ex, nc, ns)) rfl ?_
          exact ih (i + 6) sc ar lo ex nc ns (by omega) (by omega) hI hLw hR (by omega) (by omega)
