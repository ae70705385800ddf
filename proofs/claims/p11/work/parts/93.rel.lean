/-! BYTES, as both sides hold them -/
def By (x y : Int32) : Prop := ∃ z : Int32, x = vp_nar .byte (z.toInt8.toInt32) ∧ y = z &&& 255
theorem by_nat (z : Int32) : ∃ m : Nat, m < 256 ∧ z &&& 255 = nI m ∧ z.toInt8 = (nI m).toInt8 := by
  refine ⟨z.toBitVec.toNat % 256, Nat.mod_lt _ (by decide), ?_, ?_⟩
  · apply Int32.toBitVec_inj.mp
    apply BitVec.eq_of_toNat_eq
    rw [Int32.toBitVec_and, BitVec.toNat_and]
    show z.toBitVec.toNat &&& (2 ^ 8 - 1) = (BitVec.ofNat 32 (z.toBitVec.toNat % 256)).toNat
    rw [BitVec.toNat_ofNat, Nat.mod_eq_of_lt (show z.toBitVec.toNat % 256 < 2 ^ 32 by omega), Nat.and_two_pow_sub_one_eq_mod]
  · apply Int8.toBitVec_inj.mp
    apply BitVec.eq_of_toNat_eq
    show (z.toBitVec.signExtend 8).toNat = ((BitVec.ofNat 32 (z.toBitVec.toNat % 256)).signExtend 8).toNat
    rw [BitVec.signExtend_eq_setWidth_of_le _ (by decide), BitVec.signExtend_eq_setWidth_of_le _ (by decide), BitVec.toNat_setWidth, BitVec.toNat_setWidth, BitVec.toNat_ofNat]
    omega
theorem by_all {P : Int32 → Int32 → Prop} {x y : Int32} (h : ∀ m, m < 256 → P (vp_nar .byte ((nI m).toInt8.toInt32)) (nI m)) (b : By x y) : P x y := by
  obtain ⟨z, rfl, rfl⟩ := b
  obtain ⟨m, hm, e1, e2⟩ := by_nat z
  rw [e1, e2]
  exact h m hm
theorem by_sp {x y : Int32} (b : By x y) : isp x ↔ isp y := by_all (P := fun x y => (x = 32 ∨ x = 10) ↔ (y = 32 ∨ y = 10)) (by decide +kernel) b
theorem by_lt {x y : Int32} (b : By x y) : ilt x ↔ ilt y := by_all (P := fun x y => (97 ≤ x ∧ x ≤ 122) ↔ (97 ≤ y ∧ y ≤ 122)) (by decide +kernel) b
theorem by_dg {x y : Int32} (b : By x y) : idg x ↔ idg y := by_all (P := fun x y => (48 ≤ x ∧ x ≤ 57) ↔ (48 ≤ y ∧ y ≤ 57)) (by decide +kernel) b
theorem by_dge {x y : Int32} (b : By x y) : idg x → y = x := by_all (P := fun x y => (48 ≤ x ∧ x ≤ 57) → y = x) (by decide +kernel) b
theorem by_ne {x y : Int32} (b : By x y) : ¬ y = -1 := by_all (P := fun _ y => ¬ y = -1) (by decide +kernel) b
theorem by_sg {x y : Int32} (b : By x y) : sgc y = sgc x := by_all (P := fun x y => sgc y = sgc x) (by decide +kernel) b
theorem by_c {x y : Int32} (b : By x y) : ∀ c, c < 128 → (x = nI c ↔ y = nI c) := by_all (P := fun x y => ∀ c, c < 128 → (x = nI c ↔ y = nI c)) (by decide +kernel) b
theorem tx_asc : ∀ i, i < 16 → 3 ≤ i → ∀ k, k < (ai_tx i).length → ∃ c, c < 128 ∧ (ai_tx i).getD k 0 = nI c := by decide +kernel
section BYTES
variable {T T' : Nat → Int32} {n : Nat}
theorem rn_by {P : Int32 → Prop} {p q : Nat} (hP : ∀ x y, By x y → (P x ↔ P y)) (hb : ∀ t, t < n → By (T t) (T' t)) (h : rn_ P T n p q) : rn_ P T' n p q := by
  obtain ⟨h1, h2, h3, h4⟩ := h
  exact ⟨h1, h2, fun k a b => (hP _ _ (hb k (by omega))).mp (h3 k a b), fun w u => h4 w ((hP _ _ (hb q w)).mpr u)⟩
theorem wd_by {p e i : Nat} (hi : i < 16) (hi3 : 3 ≤ i) (he : e ≤ n) (hb : ∀ t, t < n → By (T t) (T' t)) : wd_ T p e i ↔ wd_ T' p e i := by
  unfold wd_
  refine and_congr_right (fun h1 => forall_congr' (fun k => ?_))
  refine ⟨fun h hk => ?_, fun h hk => ?_⟩
  · obtain ⟨c, hc, ec⟩ := tx_asc i hi hi3 k hk
    rw [ec]
    exact (by_c (hb (p + k) (by omega)) c hc).mp ((h hk).trans ec)
  · obtain ⟨c, hc, ec⟩ := tx_asc i hi hi3 k hk
    rw [ec]
    exact (by_c (hb (p + k) (by omega)) c hc).mpr ((h hk).trans ec)
theorem wc_by {p e : Nat} {c : Int32} (he : e ≤ n) (hb : ∀ t, t < n → By (T t) (T' t)) (h : Wc T p e c) : Wc T' p e c :=
  ⟨fun x hx => (wd_by ((show ∀ x, x ∈ wcd → x.1 < 16 ∧ 3 ≤ x.1 by decide +kernel) x hx).1 ((show ∀ x, x ∈ wcd → x.1 < 16 ∧ 3 ≤ x.1 by decide +kernel) x hx).2 he hb).symm.trans (h.1 x hx), h.2⟩
theorem nv_by {p : Nat} : ∀ k, (∀ t, p ≤ t → t < p + k → T' t = T t) → nv_ T' p k = nv_ T p k
  | 0, _ => rfl
  | k + 1, h => by rw [nv_, nv_, nv_by k (fun t a b => h t a (by omega)), h (p + k) (by omega) (by omega)]
theorem ta_by {p e : Nat} {c : Int32} (hp : p < n) (hb : ∀ t, t < n → By (T t) (T' t)) (h : TokAt T n p c e) : TokAt T' n p c e := by
  have hle := (ta_lt h hp).2
  have b := hb p hp
  rcases h with ⟨h1, h2, h3⟩ | ⟨h0, h1, h2, h3⟩ | ⟨h0, h1, h2, h3⟩
  · exact Or.inl ⟨(by_lt b).mp h1, rn_by (fun _ _ => by_lt) hb h2, wc_by hle hb h3⟩
  · refine Or.inr (Or.inl ⟨fun w => h0 ((by_lt b).mpr w), (by_dg b).mp h1, rn_by (fun _ _ => by_dg) hb h2, h3.imp id (fun u => ⟨u.1, u.2.trans ?_⟩)⟩)
    have l := h2.1
    exact (nv_by (e - p) (fun t a b => by_dge (hb t (by omega)) (h2.2.2.1 t a (by omega)))).symm
  · exact Or.inr (Or.inr ⟨fun w => h0 ((by_lt b).mpr w), fun w => h1 ((by_dg b).mpr w), h2, h3.trans (by_sg b).symm⟩)
theorem sm_by {tk : Nat → Int32} {pl g : Nat → Nat} {sz : Nat} (hb : ∀ t, t < n → By (T t) (T' t)) (h : Sm T n tk pl g sz) : Sm T' n tk pl g sz := by
  obtain ⟨m1, m2, m3, m4, m5, m6, m7⟩ := h
  exact ⟨m1, m2, m3, fun j hj => ⟨(m4 j hj).1, rn_by (fun _ _ => by_sp) hb (m4 j hj).2.1, ta_by (m4 j hj).1 hb (m4 j hj).2.2⟩, m5, rn_by (fun _ _ => by_sp) hb m6, m7⟩
end BYTES
/-! what is kept: fault, tape, book -/
def Rf (sc : Nat → Int32) (ar : Nat → Nat → Int32) : Prop := (sc 10 = sc 4909 ∧ sc 2201 = sc 4908 ∧ sc 2903 = sc 4907) ∧ Be sc ar ∧ ∀ s t : Nat, s ≤ 400 → sc 2201 = nI s → t < s → By (ar 23 t) (ar 67 t)
section KEPT
variable {sc sc1 sc2 : Nat → Int32} {ar ar1 ar2 : Nat → Nat → Int32} {L A L1 A1 L2 A2 : List Nat}
theorem rf_f (R : Rf sc ar) (f : Fr L A sc ar sc1 ar1) (hL : 10 ∉ L ∧ 4909 ∉ L ∧ 2201 ∉ L ∧ 4908 ∉ L ∧ 2903 ∉ L ∧ 4907 ∉ L) (hA : 23 ∉ A ∧ 67 ∉ A ∧ 31 ∉ A) : Rf sc1 ar1 := by
  obtain ⟨⟨r1, r2, r3⟩, b, h⟩ := R
  refine ⟨⟨?_, ?_, ?_⟩, be_fr b f hL.2.2.2.2.1 hA.2.2, fun s t hs e ht => ?_⟩
  · rw [f.1 10 hL.1, f.1 4909 hL.2.1]
    exact r1
  · rw [f.1 2201 hL.2.2.1, f.1 4908 hL.2.2.2.1]
    exact r2
  · rw [f.1 2903 hL.2.2.2.2.1, f.1 4907 hL.2.2.2.2.2]
    exact r3
  · rw [f.2 23 hA.1, f.2 67 hA.2.1]
    exact h s t hs ((f.1 2201 hL.2.2.1).symm.trans e) ht
theorem rf_feed {x y x1 x2 x3 x4 x5 : Int32} (R : Rf sc ar) (h : fe_P 2201 x sc sc1 ∧ ((x = -1 ∧ ar1 23 = ar 23) ∨ ∃ s : Nat, sc 2201 = nI s ∧ s + 20 ≤ 400 ∧ (∀ t, t < s → ar1 23 t = ar 23 t) ∧ ∀ m, m < 20 → ar1 23 (s + m) = vp_nar .byte ((fz_ x1 x2 x3 x4 x5 m).toInt8.toInt32))) (f1 : Fr L1 A1 sc ar sc1 ar1) (g : fe_P 4908 y sc1 sc2 ∧ ((y = -1 ∧ ar2 67 = ar1 67) ∨ ∃ s : Nat, sc1 4908 = nI s ∧ s + 20 ≤ 400 ∧ (∀ t, t < s → ar2 67 t = ar1 67 t) ∧ ∀ m, m < 20 → ar2 67 (s + m) = fz_ x1 x2 x3 x4 x5 m &&& 255)) (f2 : Fr L2 A2 sc1 ar1 sc2 ar2) (d1 : 10 ∉ L1 ∧ 4909 ∉ L1 ∧ 4908 ∉ L1 ∧ 2903 ∉ L1 ∧ 4907 ∉ L1 ∧ 67 ∉ A1 ∧ 31 ∉ A1) (d2 : 10 ∉ L2 ∧ 4909 ∉ L2 ∧ 2201 ∉ L2 ∧ 2903 ∉ L2 ∧ 4907 ∉ L2 ∧ 23 ∉ A2 ∧ 31 ∉ A2) : Rf sc2 ar2 := by
  obtain ⟨⟨r1, r2, r3⟩, b, hb⟩ := R
  obtain ⟨a1, a2, a3, a4, a5, a6, a7⟩ := d1
  obtain ⟨c1, c2, c3, c4, c5, c6, c7⟩ := d2
  obtain ⟨e1, e2⟩ := fe_eq h.1 g.1 ((f1.1 4908 a3).trans r2.symm)
  have k1 : sc2 2201 = sc1 2201 := f2.1 2201 c3
  refine ⟨⟨?_, k1.trans e2, ?_⟩, be_fr (be_fr b f1 a4 a7) f2 c4 c7, fun s t hs e ht => ?_⟩
  · rw [f2.1 10 c1, f1.1 10 a1, f2.1 4909 c2, f1.1 4909 a2]
    exact r1
  · rw [f2.1 2903 c4, f1.1 2903 a4, f2.1 4907 c5, f1.1 4907 a5]
    exact r3
  · rw [f2.2 23 c6]
    obtain ⟨s0, hs0, es0, hp⟩ := h.1
    rcases hp with ⟨p1, p2, p3⟩ | ⟨p1, p2, p3⟩
    · have es : s = s0 + 20 := (nI_eq (by omega) (by omega)).mp (e.symm.trans (k1.trans p3))
      rcases h.2 with ⟨w, _⟩ | ⟨s1, v1, v2, v3, v4⟩
      · exact absurd (p2.symm.trans w) (nI_neg (by omega) (by decide))
      · rcases g.2 with ⟨w, _⟩ | ⟨s2, u1, u2, u3, u4⟩
        · exact absurd (p2.symm.trans (e1.symm.trans w)) (nI_neg (by omega) (by decide))
        · obtain rfl : s0 = s1 := (nI_eq (by omega) (by omega)).mp (es0.symm.trans v1)
          obtain rfl : s0 = s2 := (nI_eq (by omega) (by omega)).mp (es0.symm.trans (r2.trans ((f1.1 4908 a3).symm.trans u1)))
          by_cases w : t < s0
          · rw [v3 t w, u3 t w, f1.2 67 a6]
            exact hb s0 t (by omega) es0 w
          · have et : t = s0 + (t - s0) := by omega
            rw [et, v4 (t - s0) (by omega), u4 (t - s0) (by omega)]
            exact ⟨_, rfl, rfl⟩
    · have es : s = s0 := (nI_eq (by omega) (by omega)).mp (e.symm.trans (k1.trans (p3.trans es0)))
      rcases h.2 with ⟨_, w⟩ | ⟨s1, v1, v2, v3, v4⟩
      · rcases g.2 with ⟨_, u⟩ | ⟨s2, u1, u2, u3, u4⟩
        · rw [w, u, f1.2 67 a6]
          exact hb s t hs (by rw [es]; exact es0) ht
        · have := (nI_eq (by omega) (by omega)).mp (es0.symm.trans (r2.trans ((f1.1 4908 a3).symm.trans u1)))
          omega
      · have := (nI_eq (by omega) (by omega)).mp (es0.symm.trans v1)
        omega
theorem rf_law {tk : Nat → Int32} {pl : Nat → Nat} {sz : Nat} {x1 x2 : Int32} (R : Rf sc ar) (wo : LwO tk pl sz 2201 10 2903 x1 x2 sc sc1) (wb : Be sc1 ar1) (f1 : Fr L1 A1 sc ar sc1 ar1) (g : LwO tk pl sz 4908 4909 4907 x1 x2 sc1 sc2 ∨ (LwT 4908 x1 x2 sc1 ∧ (sc2 4908 = sc1 4908 ∧ sc2 4909 = sc1 4909 ∧ sc2 4907 = sc1 4907))) (f2 : Fr L2 A2 sc1 ar1 sc2 ar2) (d1 : 4909 ∉ L1 ∧ 4908 ∉ L1 ∧ 4907 ∉ L1) (d2 : 10 ∉ L2 ∧ 2201 ∉ L2 ∧ 2903 ∉ L2 ∧ 31 ∉ A2) : Rf sc2 ar2 := by
  obtain ⟨⟨r1, r2, r3⟩, b, hb⟩ := R
  obtain ⟨a1, a2, a3⟩ := d1
  obtain ⟨c1, c2, c3, c4⟩ := d2
  rcases g with g | ⟨gt, _⟩
  · obtain ⟨e1, e2, e3⟩ := lwo_eq wo g ((f1.1 4907 a3).trans r3.symm)
    refine ⟨⟨(f2.1 10 c1).trans e2, (f2.1 2201 c2).trans e1, (f2.1 2903 c3).trans e3⟩, be_fr wb f2 c3 c4, fun s t hs e ht => ?_⟩
    obtain ⟨s0, n0, l0, _, _, _, _, _, h6, _⟩ := wo
    have := (nI_eq (a := 0) (by omega) (by omega)).mp (show nI 0 = nI s from h6.symm.trans ((f2.1 2201 c2).symm.trans e))
    omega
  · obtain ⟨s, n, l, h1, h2, h3, h4, h5, _⟩ := wo
    exact (gt s n h1 ((f1.1 4908 a2).trans (r2.symm.trans h2)) h3 h4 h5).elim
theorem rf_lawt {tk : Nat → Int32} {pl : Nat → Nat} {sz : Nat} {x1 x2 : Int32} (R : Rf sc ar) (wt : LwT 2201 x1 x2 sc) (g : LwO tk pl sz 4908 4909 4907 x1 x2 sc sc2 ∨ (LwT 4908 x1 x2 sc ∧ (sc2 4908 = sc 4908 ∧ sc2 4909 = sc 4909 ∧ sc2 4907 = sc 4907))) (f2 : Fr L2 A2 sc ar sc2 ar2) (d2 : 10 ∉ L2 ∧ 2201 ∉ L2 ∧ 2903 ∉ L2 ∧ 31 ∉ A2 ∧ 23 ∉ A2 ∧ 67 ∉ A2) : Rf sc2 ar2 := by
  obtain ⟨⟨r1, r2, r3⟩, b, hb⟩ := R
  obtain ⟨c1, c2, c3, c4, c5, c6⟩ := d2
  rcases g with ⟨s, n, l, h1, h2, h3, h4, h5, _⟩ | ⟨_, g1, g2, g3⟩
  · exact (wt s n h1 (r2.trans h2) h3 h4 h5).elim
  · refine ⟨⟨(f2.1 10 c1).trans (r1.trans g2.symm), (f2.1 2201 c2).trans (r2.trans g1.symm), (f2.1 2903 c3).trans (r3.trans g3.symm)⟩, be_fr b f2 c3 c4, fun s t hs e ht => ?_⟩
    rw [f2.2 23 c5, f2.2 67 c6]
    exact hb s t hs ((f2.1 2201 c2).symm.trans e) ht
theorem rf_st {tk : Nat → Int32} {pl g : Nat → Nat} {sz : Nat} {x1 x2 : Int32} (R : Rf sc ar) (f1 : Fr L1 A1 sc ar sc1 ar1) (d1 : 4908 ∉ L1 ∧ 4907 ∉ L1 ∧ 67 ∉ A1) (h : ∀ n l : Nat, x1 = nI n → n ≤ 400 → sc 2903 = nI l → l < 6 → Sm (ar 23) n tk pl g sz) : ∀ s n : Nat, s ≤ 400 → sc1 4908 = nI s → x1 = nI n → n ≤ s → (0 ≤ x2 ∧ x2 ≤ 100) → ∀ l : Nat, sc1 4907 = nI l → l < 6 → (Sm (ar1 67) n tk pl g sz ∧ ∀ t, t < n → ¬ ar1 67 t = -1) := by
  intro s n hs es en hn hx l el hl
  rw [f1.2 67 d1.2.2]
  have e0 : sc 2201 = nI s := R.1.2.1.trans ((f1.1 4908 d1.1).symm.trans es)
  refine ⟨?_, fun t ht => by_ne (R.2.2 s t hs e0 (by omega))⟩
  exact sm_by (fun t ht => R.2.2 s t hs e0 (by omega)) (h n l en (by omega) (R.1.2.2.trans ((f1.1 4907 d1.2.1).symm.trans el)) hl)
end KEPT
/-! WHAT IS KEPT between class and reference, the whole state -/
def Rn (n l0 h : Nat) (sc : Nat → Int32) : Prop := (n < 9 ∧ l0 < 7 ∧ h < 2401) ∧ sc 1308 = nI n ∧ sc 4906 = nI n ∧ sc 2903 = nI l0 ∧ sc 4907 = nI l0 ∧ sc 11 = nI h ∧ sc 4904 = nI h ∧ sc 112 = sc 4905
def ZLs (l0 : Nat) (ar : Nat → Nat → Int32) : Prop := ∀ l, l < l0 → ∀ kx : Int32 → Int32, (zEv (fun i => kx (nI i)) (ar 30) (ar 31) l).1 = zrul kx (ar 71) (ar 70) (ar 73) l 0 (ar 69 l).toNatClampNeg ∧ (zEv (fun i => kx (nI i)) (ar 30) (ar 31) l).2 = zrul kx (ar 71) (ar 70) (ar 73) l 1 (ar 69 l).toNatClampNeg
def Ry (l0 : Nat) (ar : Nat → Nat → Int32) : Prop := zBk l0 (ar 30) (ar 31) ∧ LDs l0 (ar 69) (ar 70) (ar 71) ∧ ZLs l0 ar ∧ ar 32 = ar 68 ∧ ∀ l m, l ≤ m → m < l0 → (ar 31 l).toNatClampNeg ≤ (ar 31 m).toNatClampNeg
/-- class and reference side by side, whatever stands beyond the cells -/
def Gh (S n : Nat) (ar : Nat → Nat → Int32) (v w : Nat → Nat → Int32) : Prop := ZS S n v w ∧ WA S v (zV ar) ∧ WA S w (zVr ar)
def Rz (S n : Nat) (sc : Nat → Int32) (ar : Nat → Nat → Int32) : Prop := (∃ v w, Gh S n ar v w) ∧ sc 4910 = zsm (ar 20) n ∧ ∀ c, n ≤ c → ar 20 c = 0
def Rl (S a b n l0 h : Nat) (sc : Nat → Int32) (ar : Nat → Nat → Int32) : Prop := Rf sc ar ∧ Gd S a b ar ∧ Rn n l0 h sc ∧ Ry l0 ar ∧ Rz S n sc ar
theorem zl_law {S l0 : Nat} {ar : Nat → Nat → Int32} (R : Ry l0 ar) : ZLaw S l0 (ar 30) (ar 31) (ar 71) (ar 70) (ar 73) (ar 69) := fun l hl kn kx hk => by
  have e : zEv kn (ar 30) (ar 31) l = zEv (fun i => kx (nI i)) (ar 30) (ar 31) l := zEv_eq (w := fun _ => 0) R.1 hl (fun i hi => (hk i hi).symm)
  rw [e]
  obtain ⟨h1, h2⟩ := R.2.2.1 l hl kx
  rw [h1]
  exact ⟨Iff.rfl, h2⟩
section KEPT2
variable {S a b n l0 h : Nat} {sc sc1 sc2 : Nat → Int32} {ar ar1 ar2 : Nat → Nat → Int32} {L A L1 A1 L2 A2 : List Nat}
theorem fr_cut {L' A' : List Nat} (f : Fr L A sc ar sc1 ar1) (hL : ∀ k, k ∈ L → k ∈ L' ∨ sc1 k = sc k) (hA : ∀ k, k ∈ A → k ∈ A' ∨ ar1 k = ar k) : Fr L' A' sc ar sc1 ar1 := by
  refine ⟨fun k hk => ?_, fun c hc => ?_⟩
  · by_cases w : k ∈ L
    · exact (hL k w).resolve_left hk
    · exact f.1 k w
  · by_cases w : c ∈ A
    · exact (hA c w).resolve_left hc
    · exact f.2 c w
abbrev Zr1 (A : List Nat) : Prop := 5 ∉ A ∧ 6 ∉ A ∧ 7 ∉ A ∧ 8 ∉ A ∧ 9 ∉ A ∧ 10 ∉ A ∧ 11 ∉ A ∧ 12 ∉ A ∧ 14 ∉ A ∧ 15 ∉ A ∧ 16 ∉ A ∧ 17 ∉ A ∧ 18 ∉ A ∧ 19 ∉ A ∧ 20 ∉ A ∧ 21 ∉ A
abbrev Zr2 (A : List Nat) : Prop := 51 ∉ A ∧ 52 ∉ A ∧ 53 ∉ A ∧ 54 ∉ A ∧ 55 ∉ A ∧ 56 ∉ A ∧ 57 ∉ A ∧ 58 ∉ A ∧ 59 ∉ A ∧ 60 ∉ A ∧ 61 ∉ A ∧ 62 ∉ A ∧ 66 ∉ A ∧ 63 ∉ A ∧ 64 ∉ A ∧ 65 ∉ A
theorem zV_f (f : Fr L A sc ar sc1 ar1) (hA : Zr1 A) : zV ar1 = zV ar := by
  obtain ⟨h5, h6, h7, h8, h9, h10, h11, h12, h14, h15, h16, h17, h18, h19, h20, h21⟩ := hA
  exact zV_ext (zr_all (P := fun r => ar1 r = zV ar r) (f.2 5 h5) (f.2 6 h6) (f.2 7 h7) (f.2 8 h8) (f.2 9 h9) (f.2 10 h10) (f.2 11 h11) (f.2 12 h12) (f.2 14 h14) (f.2 15 h15) (f.2 16 h16) (f.2 17 h17) (f.2 18 h18) (f.2 19 h19) (f.2 20 h20) (f.2 21 h21)) zv0_V
theorem zVr_f (f : Fr L A sc ar sc1 ar1) (hA : Zr2 A) : zVr ar1 = zVr ar := by
  obtain ⟨h5, h6, h7, h8, h9, h10, h11, h12, h14, h15, h16, h17, h18, h19, h20, h21⟩ := hA
  exact zVr_ext (zr_all (P := fun r => zVr ar1 r = zVr ar r) (f.2 51 h5) (f.2 52 h6) (f.2 53 h7) (f.2 54 h8) (f.2 55 h9) (f.2 56 h10) (f.2 57 h11) (f.2 58 h12) (f.2 59 h14) (f.2 60 h15) (f.2 61 h16) (f.2 62 h17) (f.2 66 h18) (f.2 63 h19) (f.2 64 h20) (f.2 65 h21)) zv0_r
abbrev Nl (L : List Nat) : Prop := 1308 ∉ L ∧ 4906 ∉ L ∧ 2903 ∉ L ∧ 4907 ∉ L ∧ 11 ∉ L ∧ 4904 ∉ L ∧ 112 ∉ L ∧ 4905 ∉ L
abbrev Fl (L : List Nat) : Prop := 10 ∉ L ∧ 4909 ∉ L ∧ 2201 ∉ L ∧ 4908 ∉ L ∧ 2903 ∉ L ∧ 4907 ∉ L
abbrev Fa (A : List Nat) : Prop := 23 ∉ A ∧ 67 ∉ A ∧ 31 ∉ A
abbrev Ga (A : List Nat) : Prop := 2 ∉ A ∧ 3 ∉ A ∧ 4 ∉ A
abbrev Ya (A : List Nat) : Prop := 30 ∉ A ∧ 31 ∉ A ∧ 69 ∉ A ∧ 70 ∉ A ∧ 71 ∉ A ∧ 73 ∉ A ∧ 32 ∉ A ∧ 68 ∉ A
theorem rn_f (R : Rn n l0 h sc) (f : Fr L A sc ar sc1 ar1) (hL : Nl L) : Rn n l0 h sc1 := by
  obtain ⟨r0, r1, r2, r3, r4, r5, r6, r7⟩ := R
  obtain ⟨d1, d2, d3, d4, d5, d6, d7, d8⟩ := hL
  exact ⟨r0, (f.1 _ d1).trans r1, (f.1 _ d2).trans r2, (f.1 _ d3).trans r3, (f.1 _ d4).trans r4, (f.1 _ d5).trans r5, (f.1 _ d6).trans r6, (f.1 _ d7).trans (r7.trans (f.1 _ d8).symm)⟩
theorem ry_f (R : Ry l0 ar) (f : Fr L A sc ar sc1 ar1) (hA : Ya A) : Ry l0 ar1 := by
  obtain ⟨d1, d2, d3, d4, d5, d6, d7, d8⟩ := hA
  unfold Ry ZLs
  rw [f.2 30 d1, f.2 31 d2, f.2 69 d3, f.2 70 d4, f.2 71 d5, f.2 73 d6, f.2 32 d7, f.2 68 d8]
  exact R
theorem rz_f (R : Rz S n sc ar) (f : Fr L A sc ar sc1 ar1) (hL : 4910 ∉ L) (h1 : Zr1 A) (h2 : Zr2 A) : Rz S n sc1 ar1 := by
  unfold Rz Gh
  rw [zV_f f h1, zVr_f f h2, f.1 4910 hL, f.2 20 h1.2.2.2.2.2.2.2.2.2.2.2.2.2.2.1]
  exact R
/-- what does not touch the houses and companies -/
theorem rl_o (R : Rl S a b n l0 h sc ar) (f : Fr L A sc ar sc1 ar1) (h1 : Nl L) (h2 : Fl L) (h3 : Fa A) (h4 : Ga A) (h5 : Ya A) (hz : Rz S n sc1 ar1) : Rl S a b n l0 h sc1 ar1 := ⟨rf_f R.1 f h2 h3, gd_fr R.2.1 f h4.1 h4.2.1 h4.2.2, rn_f R.2.2.1 f h1, ry_f R.2.2.2.1 f h5, hz⟩
theorem rl_f (R : Rl S a b n l0 h sc ar) (f : Fr L A sc ar sc1 ar1) (h0 : 4910 ∉ L) (h1 : Nl L) (h2 : Fl L) (h3 : Fa A) (h4 : Ga A) (h5 : Ya A) (h6 : Zr1 A) (h7 : Zr2 A) : Rl S a b n l0 h sc1 ar1 := rl_o R f h1 h2 h3 h4 h5 (rz_f R.2.2.2.2 f h0 h6 h7)
/-- the rows of both, side by side -/
theorem zs_r {v w : Nat → Nat → Int32} (G : Gh S n ar v w) : zag S (ar 5) (ar 51) ∧ zag S (ar 6) (ar 52) ∧ zag S (ar 7) (ar 53) ∧ zag S (ar 8) (ar 54) ∧ zag S (ar 9) (ar 55) ∧ zag S (ar 10) (ar 56) ∧ zag S (ar 11) (ar 57) ∧ zag S (ar 12) (ar 58) ∧ ar 14 = ar 59 ∧ ar 15 = ar 60 ∧ ar 16 = ar 61 ∧ ar 17 = ar 62 ∧ ar 19 = ar 63 ∧ ar 20 = ar 64 ∧ ar 21 = ar 65 := by
  obtain ⟨hs, hv, hw⟩ := G
  have c : ∀ r, 5 ≤ r ∧ r ≤ 12 → zag S (zV ar r) (zVr ar r) := fun r hr k hk => by
    rw [← (hv r).1 hr k hk, ← (hw r).1 hr k hk, hs.1 r (by omega)]
  have d : ∀ r, ¬ (5 ≤ r ∧ r ≤ 12) → ¬ r = 18 → zV ar r = zVr ar r := fun r hr h18 => by
    rw [← (hv r).2 hr, ← (hw r).2 hr, hs.1 r h18]
  exact ⟨c 5 (by decide), c 6 (by decide), c 7 (by decide), c 8 (by decide), c 9 (by decide), c 10 (by decide), c 11 (by decide), c 12 (by decide), d 14 (by decide) (by decide), d 15 (by decide) (by decide), d 16 (by decide) (by decide), d 17 (by decide) (by decide), d 19 (by decide) (by decide), d 20 (by decide) (by decide), d 21 (by decide) (by decide)⟩
/-- both views again, out of the class's and what the rows have in common -/
theorem gh_mk {v w : Nat → Nat → Int32} (hs : ZS S n v w) (hv : WA S v (zV ar)) (h18 : w 18 = ar 66) (h5 : zag S (ar 5) (ar 51)) (h6 : zag S (ar 6) (ar 52)) (h7 : zag S (ar 7) (ar 53)) (h8 : zag S (ar 8) (ar 54)) (h9 : zag S (ar 9) (ar 55)) (h10 : zag S (ar 10) (ar 56)) (h11 : zag S (ar 11) (ar 57)) (h12 : zag S (ar 12) (ar 58)) (h14 : ar 14 = ar 59) (h15 : ar 15 = ar 60) (h16 : ar 16 = ar 61) (h17 : ar 17 = ar 62) (h19 : ar 19 = ar 63) (h20 : ar 20 = ar 64) (h21 : ar 21 = ar 65) : ∃ v w, Gh S n ar v w := by
  refine ⟨v, w, hs, hv, fun r => ⟨fun hr k hk => ?_, fun hr => ?_⟩⟩
  · rw [← hs.1 r (by omega), (hv r).1 hr k hk]
    rcases (show r = 5 ∨ r = 6 ∨ r = 7 ∨ r = 8 ∨ r = 9 ∨ r = 10 ∨ r = 11 ∨ r = 12 by omega) with rfl | rfl | rfl | rfl | rfl | rfl | rfl | rfl
    · exact h5 k hk
    · exact h6 k hk
    · exact h7 k hk
    · exact h8 k hk
    · exact h9 k hk
    · exact h10 k hk
    · exact h11 k hk
    · exact h12 k hk
  · by_cases u : r = 18
    · rw [u]
      exact h18
    · rw [← hs.1 r u, (hv r).2 hr]
      cases hz : zr r with
      | true =>
        have hz' := hz
        unfold zr at hz'
        rw [decide_eq_true_eq] at hz'
        rcases (show r = 14 ∨ r = 15 ∨ r = 16 ∨ r = 17 ∨ r = 19 ∨ r = 20 ∨ r = 21 by omega) with rfl | rfl | rfl | rfl | rfl | rfl | rfl
        · exact h14
        · exact h15
        · exact h16
        · exact h17
        · exact h19
        · exact h20
        · exact h21
      | false => rw [zv0_V r hz, zv0_r r hz]
theorem zag_f {r q : Nat} (f : Fr L A sc ar sc1 ar1) (h1 : r ∉ A) (h2 : q ∉ A) (e : zag S (ar r) (ar q)) : zag S (ar1 r) (ar1 q) := by
  rw [f.2 r h1, f.2 q h2]
  exact e
/-- two answers, compared: numbers; yes and no -/
def Cp (x : Int32) (lo : Nat → Int64) (y : Int32) (sc : Nat → Int32) : Prop := (x = 0 ∧ sc 4901 = 0 ∧ lo 0 = y.toInt64) ∨ (x = 1 ∧ sc 4901 = 1)

def Cb (x : Int32) (lo : Nat → Int64) (y : Int32) (sc : Nat → Int32) : Prop := (x = 0 ∧ sc 4901 = 0 ∧ Lb y (lo 0)) ∨ (x = 1 ∧ sc 4901 = 1)
theorem in_no {k : Nat} {x : Int32} (hS : S ≤ 64) (hk : k < S) (e : x = nI k) (w : ¬ (0 ≤ x ∧ x < nI S)) : False := w (by rw [e]; exact has_in hk (by omega))
end KEPT2
theorem zho_ag {S k : Nat} {x2 x3 x y : Int32} {st wo wa fu wm we du st' wo' wa' fu' wm' we' du' a1 a2 a3 a4 a5 a6 b1 b2 b3 b4 b5 b6 : Nat → Int32} (hk : k < S) (h1 : zag S st st') (h2 : zag S wo wo') (h3 : zag S wa wa') (h4 : zag S fu fu') (h5 : zag S wm wm') (h6 : zag S we we') (h7 : zag S du du') (h : zho k x2 x3 x st wo wa fu wm we du a1 a2 a3 a4 a5 a6) (g : zho k x2 x3 y st' wo' wa' fu' wm' we' du' b1 b2 b3 b4 b5 b6) : y = x ∧ zag S a1 b1 ∧ zag S a2 b2 ∧ zag S a3 b3 ∧ zag S a4 b4 ∧ zag S a5 b5 ∧ zag S a6 b6 := by
  have e1 := h1 k hk
  have e7 := h7 k hk
  unfold zho zbd at h g
  rw [← e1, ← e7] at g
  rcases h with ⟨w, h⟩ | ⟨w, h⟩
  · rcases g with ⟨_, g⟩ | ⟨u, _⟩
    · rcases h with ⟨hx, hc, rfl, rfl, rfl, rfl, rfl, rfl⟩ | ⟨hx, hc, rfl, rfl, rfl, rfl, rfl, rfl⟩
      · rcases g with ⟨gx, _, rfl, rfl, rfl, rfl, rfl, rfl⟩ | ⟨_, gc, _⟩
        · exact ⟨gx.trans hx.symm, zag_u h1 rfl, zag_u h2 rfl, zag_u h3 rfl, zag_u h4 rfl, zag_u h5 rfl, zag_u h6 rfl⟩
        · exact absurd hc gc
      · rcases g with ⟨_, gc, _⟩ | ⟨gx, _, rfl, rfl, rfl, rfl, rfl, rfl⟩
        · exact absurd gc hc
        · exact ⟨gx.trans hx.symm, h1, h2, h3, h4, h5, h6⟩
    · exact absurd w u
  · rcases g with ⟨u, _⟩ | ⟨_, g⟩
    · exact absurd u w
    · obtain ⟨hx, rfl, rfl, rfl, rfl, rfl, rfl⟩ := h
      obtain ⟨gx, rfl, rfl, rfl, rfl, rfl, rfl⟩ := g
      exact ⟨gx.trans hx.symm, h1, h2, h3, h4, h5, h6⟩
theorem zwe_ag {S k : Nat} {q x y : Int32} {st du st' du' a1 b1 : Nat → Int32} (hk : k < S) (h1 : zag S st st') (h2 : zag S du du') (h : zwe k q x st du a1) (g : zwe k q y st' du' b1) : y = x ∧ zag S a1 b1 := by
  have e1 := h1 k hk
  have e2 := h2 k hk
  unfold zwe at h g
  rw [← e1, ← e2] at g
  rcases h with ⟨hx, hc, rfl⟩ | ⟨hx, hc, rfl⟩
  · rcases g with ⟨gx, _, rfl⟩ | ⟨_, gc, _⟩
    · exact ⟨gx.trans hx.symm, zag_u h2 rfl⟩
    · exact absurd hc gc
  · rcases g with ⟨_, gc, _⟩ | ⟨gx, _, rfl⟩
    · exact absurd gc hc
    · exact ⟨gx.trans hx.symm, h2⟩
theorem zar_ag {S c k : Nat} {d q x : Int32} {st st' ro ro' go pu b1 b2 b3 : Nat → Int32} (hk : k < S) (h1 : zag S st st') (h2 : zag S ro ro') (g : zar c k d q x st' ro' go pu b1 b2 b3) : ∃ r1 : Nat → Int32, zag S r1 b1 ∧ zar c k d q x st ro go pu r1 b2 b3 := by
  have e1 := h1 k hk
  unfold zar at g
  rw [← e1] at g
  rcases g with ⟨gx, gc, rfl, g2, g3⟩ | ⟨gx, gc, rfl, g2, g3⟩
  · refine ⟨fgl 64 (nI c) ro, fun j hj => ?_, Or.inl ⟨gx, gc, rfl, g2, g3⟩⟩
    unfold fgl
    rw [h2 j hj]
  · exact ⟨ro, h2, Or.inr ⟨gx, gc, rfl, g2, g3⟩⟩
theorem zs_12 {S n : Nat} {v w : Nat → Nat → Int32} {f : Nat → Int32} (hs : ZS S n v w) : ZS S n (uA v 12 f) (uA w 12 f) := ⟨fun r hr => by
  unfold uA
  split
  · rfl
  · exact hs.1 r hr, hs.2⟩
theorem pr_cell {S a b n l0 h : Nat} {sc sc1 sc2 : Nat → Int32} {ar ar1 ar2 : Nat → Nat → Int32} {lo1 : Nat → Int64} {x y : Int32} {x1 : Int32} {x2 : Int32}  (hS : S ≤ 64) (R : Rl S a b n l0 h sc ar) (h1 : ((x = 0 ∧ ∃ v : Int32, ((∃ k : Nat, k < S ∧ x1 = nI k ∧ ¬ zno x2 8 ∧ v = zce x2 (ar 5 k) (ar 6 k) (ar 7 k) (ar 8 k) (ar 9 k) (ar 10 k) (ar 11 k) (ar 12 k))) ∧ lo1 0 = v.toInt64) ∨ (x = 1 ∧ ((¬ (0 ≤ x1 ∧ x1 < nI S) ∨ zno x2 8)) ∧ sc1 = sc ∧ ar1 = ar))) (f1 : Fr [] [] sc ar sc1 ar1) (g : (((∃ k : Nat, k < S ∧ x1 = nI k ∧ ¬ zno x2 8 ∧ y = zce x2 (ar1 51 k) (ar1 52 k) (ar1 53 k) (ar1 54 k) (ar1 55 k) (ar1 56 k) (ar1 57 k) (ar1 58 k) ∧ sc2 4901 = 0) ∨ ((¬ (0 ≤ x1 ∧ x1 < nI S) ∨ zno x2 8) ∧ sc2 4901 = 1)))) (f2 : Fr [4901] [] sc1 ar1 sc2 ar2) : Rl S a b n l0 h sc2 ar2 ∧ Cp x lo1 y sc2 := by
  have F : Fr [4901] [] sc ar sc2 ar2 := fr_t (fr_t fr_0 f1 (by decide) (by decide)) f2 (by decide) (by decide)
  have hS := hS
  obtain ⟨rf, gd, rn, ry, ⟨vv, ww, hGh⟩, hq, hb0⟩ := id R
  obtain ⟨e5, e6, e7, e8, e9, e10, e11, e12, e14, e15, e16, e17, e19, e20, e21⟩ := zs_r hGh
  obtain ⟨hs, hva, hwa⟩ := hGh
  have v18 : vv 18 = ar 18 := (hva 18).2 (by decide)
  have w18 : ww 18 = ar 66 := (hwa 18).2 (by decide)
  have v17 : vv 17 = ar 17 := (hva 17).2 (by decide)
  refine ⟨rl_f R F (by decide) (by decide) (by decide) (by decide) (by decide) (by decide) (by decide) (by decide), ?_⟩
  rcases h1 with ⟨rfl, v, ⟨k, hk, ek, hz, hv⟩, hl⟩ | ⟨rfl, hT, rfl, rfl⟩
  · rcases g with ⟨k', hk', ek', gz, gv, g0⟩ | ⟨gT, g0⟩
    · obtain rfl : k = k' := (nI_eq (by omega) (by omega)).mp (ek.symm.trans ek')
      refine Or.inl ⟨rfl, g0, ?_⟩
      rw [hl, hv, gv, f1.2 51 (by decide), f1.2 52 (by decide), f1.2 53 (by decide), f1.2 54 (by decide), f1.2 55 (by decide), f1.2 56 (by decide), f1.2 57 (by decide), f1.2 58 (by decide), ← e5 k hk, ← e6 k hk, ← e7 k hk, ← e8 k hk, ← e9 k hk, ← e10 k hk, ← e11 k hk, ← e12 k hk]
    · exact gT.elim (fun w => (in_no hS hk ek w).elim) (fun w => absurd w hz)
  · rcases g with ⟨k', hk', ek', gz, gv, g0⟩ | ⟨gT, g0⟩
    · exact hT.elim (fun w => (in_no hS hk' ek' w).elim) (fun w => absurd w gz)
    · exact Or.inr ⟨rfl, g0⟩
theorem pr_of {S a b n l0 h : Nat} {sc sc1 sc2 : Nat → Int32} {ar ar1 ar2 : Nat → Nat → Int32} {lo1 : Nat → Int64} {x y : Int32} {x1 : Int32} {x2 : Int32}  (hS : S ≤ 64) (R : Rl S a b n l0 h sc ar) (h1 : ((x = 0 ∧ ∃ v : Int32, ((∃ k : Nat, k < n ∧ x1 = nI k ∧ ¬ zno x2 8 ∧ v = zof x2 (ar 14 k) (ar 15 k) (ar 16 k) (ar 17 k) (ar 18 k) (ar 19 k) (ar 20 k) (ar 21 k))) ∧ lo1 0 = v.toInt64) ∨ (x = 1 ∧ ((¬ (0 ≤ x1 ∧ x1 < nI n) ∨ zno x2 8)) ∧ sc1 = sc ∧ ar1 = ar))) (f1 : Fr [] [] sc ar sc1 ar1) (g : (((∃ k : Nat, k < n ∧ x1 = nI k ∧ ¬ zno x2 8 ∧ y = zof x2 (ar1 59 k) (ar1 60 k) (ar1 61 k) (ar1 62 k) (if ar1 62 k = -1 then 0 else ar1 66 k) (ar1 63 k) (ar1 64 k) (ar1 65 k) ∧ sc2 4901 = 0) ∨ ((¬ (0 ≤ x1 ∧ x1 < nI n) ∨ zno x2 8) ∧ sc2 4901 = 1)))) (f2 : Fr [4901] [] sc1 ar1 sc2 ar2) : Rl S a b n l0 h sc2 ar2 ∧ Cp x lo1 y sc2 := by
  have F : Fr [4901] [] sc ar sc2 ar2 := fr_t (fr_t fr_0 f1 (by decide) (by decide)) f2 (by decide) (by decide)
  have hS := hS
  obtain ⟨rf, gd, rn, ry, ⟨vv, ww, hGh⟩, hq, hb0⟩ := id R
  obtain ⟨e5, e6, e7, e8, e9, e10, e11, e12, e14, e15, e16, e17, e19, e20, e21⟩ := zs_r hGh
  obtain ⟨hs, hva, hwa⟩ := hGh
  have v18 : vv 18 = ar 18 := (hva 18).2 (by decide)
  have w18 : ww 18 = ar 66 := (hwa 18).2 (by decide)
  have v17 : vv 17 = ar 17 := (hva 17).2 (by decide)
  refine ⟨rl_f R F (by decide) (by decide) (by decide) (by decide) (by decide) (by decide) (by decide) (by decide), ?_⟩
  have hn := rn.1.1
  rcases h1 with ⟨rfl, v, ⟨k, hk, ek, hz, hv⟩, hl⟩ | ⟨rfl, hT, rfl, rfl⟩
  · rcases g with ⟨k', hk', ek', gz, gv, g0⟩ | ⟨gT, g0⟩
    · obtain rfl : k = k' := (nI_eq (by omega) (by omega)).mp (ek.symm.trans ek')
      refine Or.inl ⟨rfl, g0, ?_⟩
      have e18 : ar 18 k = if ar 17 k = -1 then 0 else ar 66 k := by
        have t1 := hs.2.1.1 k
        rw [v17, v18, w18] at t1
        rw [t1]
        by_cases w : ar 17 k = -1
        · rw [if_neg (fun u => u.2 w), if_pos w]
        · rw [if_pos ⟨hk, w⟩, if_neg w]
      rw [hl, hv, gv, f1.2 59 (by decide), f1.2 60 (by decide), f1.2 61 (by decide), f1.2 62 (by decide), f1.2 63 (by decide), f1.2 64 (by decide), f1.2 65 (by decide), f1.2 66 (by decide), e18, ← e14, ← e15, ← e16, ← e17, ← e19, ← e20, ← e21]
    · exact gT.elim (fun w => (in_no (S := n) (by omega) hk ek w).elim) (fun w => absurd w hz)
  · rcases g with ⟨k', hk', ek', gz, gv, g0⟩ | ⟨gT, g0⟩
    · exact hT.elim (fun w => (in_no (S := n) (by omega) hk' ek' w).elim) (fun w => absurd w gz)
    · exact Or.inr ⟨rfl, g0⟩
theorem pr_count {S a b n l0 h : Nat} {sc sc1 sc2 : Nat → Int32} {ar ar1 ar2 : Nat → Nat → Int32} {lo1 : Nat → Int64} {x y : Int32} {x1 : Int32}  (hS : S ≤ 64) (R : Rl S a b n l0 h sc ar) (h1 : ((x = 0 ∧ ∃ v : Int32, ((¬ zno x1 10 ∧ v = zct x1 (sc 11) (zcn (ar 5) 1 S) (zcn (ar 5) 0 S) (zcn (ar 5) 2 S) (zcn (ar 5) 3 S) (sc 1308) (sc 2903) (zsm (ar 20) n) (sc 2201) (fo (ar 32) (nI (h / 24)) l0 0 (-1)))) ∧ lo1 0 = v.toInt64) ∨ (x = 1 ∧ (zno x1 10) ∧ sc1 = sc ∧ ar1 = ar))) (f1 : Fr [] [] sc ar sc1 ar1) (g : (((¬ zno x1 10 ∧ y = zct x1 (sc1 4904) (zcn (ar1 51) 1 S) (zcn (ar1 51) 0 S) (zcn (ar1 51) 2 S) (zcn (ar1 51) 3 S) (sc1 4906) (sc1 4907) (sc1 4910) (sc1 4908) (fo (ar1 68) (nI (h / 24)) l0 0 (-1)) ∧ sc2 4901 = 0) ∨ (zno x1 10 ∧ sc2 4901 = 1)))) (f2 : Fr [4901] [] sc1 ar1 sc2 ar2) : Rl S a b n l0 h sc2 ar2 ∧ Cp x lo1 y sc2 := by
  have F : Fr [4901] [] sc ar sc2 ar2 := fr_t (fr_t fr_0 f1 (by decide) (by decide)) f2 (by decide) (by decide)
  have hS := hS
  obtain ⟨rf, gd, rn, ry, ⟨vv, ww, hGh⟩, hq, hb0⟩ := id R
  obtain ⟨e5, e6, e7, e8, e9, e10, e11, e12, e14, e15, e16, e17, e19, e20, e21⟩ := zs_r hGh
  obtain ⟨hs, hva, hwa⟩ := hGh
  have v18 : vv 18 = ar 18 := (hva 18).2 (by decide)
  have w18 : ww 18 = ar 66 := (hwa 18).2 (by decide)
  have v17 : vv 17 = ar 17 := (hva 17).2 (by decide)
  refine ⟨rl_f R F (by decide) (by decide) (by decide) (by decide) (by decide) (by decide) (by decide) (by decide), ?_⟩
  rcases h1 with ⟨rfl, v, ⟨hz, hv⟩, hl⟩ | ⟨rfl, hT, rfl, rfl⟩
  · rcases g with ⟨gz, gv, g0⟩ | ⟨gT, g0⟩
    · refine Or.inl ⟨rfl, g0, ?_⟩
      rw [hl, hv, gv, f1.2 51 (by decide), f1.1 4904 (by decide), f1.1 4906 (by decide), f1.1 4907 (by decide), f1.1 4908 (by decide), f1.1 4910 (by decide), f1.2 68 (by decide), ← zcn_ag e5 S (Nat.le_refl _), ← zcn_ag e5 S (Nat.le_refl _), ← zcn_ag e5 S (Nat.le_refl _), ← zcn_ag e5 S (Nat.le_refl _), hq, ← ry.2.2.2.1, rn.2.2.2.2.2.1, rn.2.2.2.2.2.2.1, rn.2.1, rn.2.2.1, rn.2.2.2.1, rn.2.2.2.2.1, rf.1.2.1]
    · exact absurd gT hz
  · rcases g with ⟨gz, gv, g0⟩ | ⟨gT, g0⟩
    · exact absurd hT gz
    · exact Or.inr ⟨rfl, g0⟩
theorem pr_house {S a b n l0 h : Nat} {sc sc1 sc2 : Nat → Int32} {ar ar1 ar2 : Nat → Nat → Int32} {lo1 : Nat → Int64} {x y : Int32} {x1 : Int32} {x2 : Int32} {x3 : Int32}  (hS : S ≤ 64) (R : Rl S a b n l0 h sc ar) (h1 : ((x = 0 ∧ ∃ v : Int32, (rl v 2 ∧ (∃ n : Nat, n < S ∧ x1 = nI n ∧ zho n x2 x3 v (ar 5) (ar 6) (ar 7) (ar 8) (ar 9) (ar 10) (ar 12) (ar1 5) (ar1 6) (ar1 7) (ar1 8) (ar1 9) (ar1 10))) ∧ Lb v (lo1 0)) ∨ (x = 1 ∧ (¬ (0 ≤ x1 ∧ x1 < nI S)) ∧ sc1 = sc ∧ ar1 = ar))) (f1 : Fr [] [5, 6, 7, 8, 9, 10] sc ar sc1 ar1) (g : (rl y 2 ∧ ((∃ n : Nat, n < S ∧ x1 = nI n ∧ zho n x2 x3 y (ar1 51) (ar1 52) (ar1 53) (ar1 54) (ar1 55) (ar1 56) (ar1 58) (ar2 51) (ar2 52) (ar2 53) (ar2 54) (ar2 55) (ar2 56) ∧ sc2 4901 = 0) ∨ (¬ (0 ≤ x1 ∧ x1 < nI S) ∧ ar2 51 = ar1 51 ∧ ar2 52 = ar1 52 ∧ ar2 53 = ar1 53 ∧ ar2 54 = ar1 54 ∧ ar2 55 = ar1 55 ∧ ar2 56 = ar1 56 ∧ sc2 4901 = 1)))) (f2 : Fr [4901] [51, 52, 53, 54, 55, 56] sc1 ar1 sc2 ar2) : Rl S a b n l0 h sc2 ar2 ∧ Cb x lo1 y sc2 := by
  have F : Fr [4901] [5, 6, 7, 8, 9, 10, 51, 52, 53, 54, 55, 56] sc ar sc2 ar2 := fr_t (fr_t fr_0 f1 (by decide) (by decide)) f2 (by decide) (by decide)
  have hS := hS
  obtain ⟨rf, gd, rn, ry, ⟨vv, ww, hGh⟩, hq, hb0⟩ := id R
  obtain ⟨e5, e6, e7, e8, e9, e10, e11, e12, e14, e15, e16, e17, e19, e20, e21⟩ := zs_r hGh
  obtain ⟨hs, hva, hwa⟩ := hGh
  have v18 : vv 18 = ar 18 := (hva 18).2 (by decide)
  have w18 : ww 18 = ar 66 := (hwa 18).2 (by decide)
  have v17 : vv 17 = ar 17 := (hva 17).2 (by decide)
  obtain ⟨yb, g⟩ := g
  rcases h1 with ⟨rfl, v, ⟨vb, k, hk, ek, hz⟩, hl⟩ | ⟨rfl, hT, rfl, rfl⟩
  · rcases g with ⟨k', hk', ek', gz, g0⟩ | ⟨gT, _⟩
    · obtain rfl : k = k' := (nI_eq (by omega) (by omega)).mp (ek.symm.trans ek')
      rw [f1.2 51 (by decide), f1.2 52 (by decide), f1.2 53 (by decide), f1.2 54 (by decide), f1.2 55 (by decide), f1.2 56 (by decide), f1.2 58 (by decide)] at gz
      obtain ⟨dy, d5, d6, d7, d8, d9, d10⟩ := zho_ag hk e5 e6 e7 e8 e9 e10 e12 hz gz
      rw [← f2.2 5 (by decide)] at d5
      rw [← f2.2 6 (by decide)] at d6
      rw [← f2.2 7 (by decide)] at d7
      rw [← f2.2 8 (by decide)] at d8
      rw [← f2.2 9 (by decide)] at d9
      rw [← f2.2 10 (by decide)] at d10
      refine ⟨rl_o R F (by decide) (by decide) (by decide) (by decide) (by decide) ⟨?_, (F.1 4910 (by decide)).trans (hq.trans (by rw [F.2 20 (by decide)])), fun c hc => (congrFun (F.2 20 (by decide)) c).trans (hb0 c hc)⟩, Or.inl ⟨rfl, g0, by rw [dy]; exact hl⟩⟩
      rcases hz with ⟨_, ⟨_, ⟨_, w0, w1⟩, c5, c6, c7, c8, c9, c10⟩ | ⟨_, _, c5, c6, c7, c8, c9, c10⟩⟩ | ⟨_, _, c5, c6, c7, c8, c9, c10⟩
      · have V1 : zV ar2 = uA (uA (uA (uA (uA (uA (zV ar) 5 (upd ((zV ar) 5) k 0)) 6 (upd ((zV ar) 6) k x2)) 7 (upd ((zV ar) 7) k x3)) 8 (upd ((zV ar) 8) k x2)) 9 (upd ((zV ar) 9) k 0)) 10 (upd ((zV ar) 10) k 0) := zV_ext (zr_all (P := fun r => ar2 r = uA (uA (uA (uA (uA (uA (zV ar) 5 (upd ((zV ar) 5) k 0)) 6 (upd ((zV ar) 6) k x2)) 7 (upd ((zV ar) 7) k x3)) 8 (upd ((zV ar) 8) k x2)) 9 (upd ((zV ar) 9) k 0)) 10 (upd ((zV ar) 10) k 0) r) ((f2.2 5 (by decide)).trans c5) ((f2.2 6 (by decide)).trans c6) ((f2.2 7 (by decide)).trans c7) ((f2.2 8 (by decide)).trans c8) ((f2.2 9 (by decide)).trans c9) ((f2.2 10 (by decide)).trans c10) (F.2 11 (by decide)) (F.2 12 (by decide)) (F.2 14 (by decide)) (F.2 15 (by decide)) (F.2 16 (by decide)) (F.2 17 (by decide)) (F.2 18 (by decide)) (F.2 19 (by decide)) (F.2 20 (by decide)) (F.2 21 (by decide))) (zv0_u (zv0_u (zv0_u (zv0_u (zv0_u (zv0_u (zv0_V) rfl) rfl) rfl) rfl) rfl) rfl)
        have q5 : vv 5 k = ar 5 k := (hva 5).1 (by decide) k hk
        exact gh_mk (zs_st (f6 := upd (vv 6) k x2) (f7 := upd (vv 7) k x3) (f8 := upd (vv 8) k x2) (f9 := upd (vv 9) k 0) (f10 := upd (vv 10) k 0) hS hk hs ⟨by rw [q5]; exact w0, by rw [q5]; exact w1⟩) (by rw [V1]; exact (WA_u1 (WA_u1 (WA_u1 (WA_u1 (WA_u1 (WA_u1 hva (by decide) (zag_u ((hva 5).1 (by decide)) rfl)) (by decide) (zag_u ((hva 6).1 (by decide)) rfl)) (by decide) (zag_u ((hva 7).1 (by decide)) rfl)) (by decide) (zag_u ((hva 8).1 (by decide)) rfl)) (by decide) (zag_u ((hva 9).1 (by decide)) rfl)) (by decide) (zag_u ((hva 10).1 (by decide)) rfl))) (w18.trans (F.2 66 (by decide)).symm) d5 d6 d7 d8 d9 d10 (zag_f F (by decide) (by decide) e11) (zag_f F (by decide) (by decide) e12) ((F.2 14 (by decide)).trans (e14.trans (F.2 59 (by decide)).symm)) ((F.2 15 (by decide)).trans (e15.trans (F.2 60 (by decide)).symm)) ((F.2 16 (by decide)).trans (e16.trans (F.2 61 (by decide)).symm)) ((F.2 17 (by decide)).trans (e17.trans (F.2 62 (by decide)).symm)) ((F.2 19 (by decide)).trans (e19.trans (F.2 63 (by decide)).symm)) ((F.2 20 (by decide)).trans (e20.trans (F.2 64 (by decide)).symm)) ((F.2 21 (by decide)).trans (e21.trans (F.2 65 (by decide)).symm))
      · have V1 : zV ar2 = zV ar := zV_ext (zr_all (P := fun r => ar2 r = zV ar r) ((f2.2 5 (by decide)).trans c5) ((f2.2 6 (by decide)).trans c6) ((f2.2 7 (by decide)).trans c7) ((f2.2 8 (by decide)).trans c8) ((f2.2 9 (by decide)).trans c9) ((f2.2 10 (by decide)).trans c10) (F.2 11 (by decide)) (F.2 12 (by decide)) (F.2 14 (by decide)) (F.2 15 (by decide)) (F.2 16 (by decide)) (F.2 17 (by decide)) (F.2 18 (by decide)) (F.2 19 (by decide)) (F.2 20 (by decide)) (F.2 21 (by decide))) (zv0_V)
        exact gh_mk hs (by rw [V1]; exact hva) (w18.trans (F.2 66 (by decide)).symm) d5 d6 d7 d8 d9 d10 (zag_f F (by decide) (by decide) e11) (zag_f F (by decide) (by decide) e12) ((F.2 14 (by decide)).trans (e14.trans (F.2 59 (by decide)).symm)) ((F.2 15 (by decide)).trans (e15.trans (F.2 60 (by decide)).symm)) ((F.2 16 (by decide)).trans (e16.trans (F.2 61 (by decide)).symm)) ((F.2 17 (by decide)).trans (e17.trans (F.2 62 (by decide)).symm)) ((F.2 19 (by decide)).trans (e19.trans (F.2 63 (by decide)).symm)) ((F.2 20 (by decide)).trans (e20.trans (F.2 64 (by decide)).symm)) ((F.2 21 (by decide)).trans (e21.trans (F.2 65 (by decide)).symm))
      · have V1 : zV ar2 = zV ar := zV_ext (zr_all (P := fun r => ar2 r = zV ar r) ((f2.2 5 (by decide)).trans c5) ((f2.2 6 (by decide)).trans c6) ((f2.2 7 (by decide)).trans c7) ((f2.2 8 (by decide)).trans c8) ((f2.2 9 (by decide)).trans c9) ((f2.2 10 (by decide)).trans c10) (F.2 11 (by decide)) (F.2 12 (by decide)) (F.2 14 (by decide)) (F.2 15 (by decide)) (F.2 16 (by decide)) (F.2 17 (by decide)) (F.2 18 (by decide)) (F.2 19 (by decide)) (F.2 20 (by decide)) (F.2 21 (by decide))) (zv0_V)
        exact gh_mk hs (by rw [V1]; exact hva) (w18.trans (F.2 66 (by decide)).symm) d5 d6 d7 d8 d9 d10 (zag_f F (by decide) (by decide) e11) (zag_f F (by decide) (by decide) e12) ((F.2 14 (by decide)).trans (e14.trans (F.2 59 (by decide)).symm)) ((F.2 15 (by decide)).trans (e15.trans (F.2 60 (by decide)).symm)) ((F.2 16 (by decide)).trans (e16.trans (F.2 61 (by decide)).symm)) ((F.2 17 (by decide)).trans (e17.trans (F.2 62 (by decide)).symm)) ((F.2 19 (by decide)).trans (e19.trans (F.2 63 (by decide)).symm)) ((F.2 20 (by decide)).trans (e20.trans (F.2 64 (by decide)).symm)) ((F.2 21 (by decide)).trans (e21.trans (F.2 65 (by decide)).symm))
    · exact (in_no hS hk ek gT).elim
  · rcases g with ⟨k', hk', ek', gz, g0⟩ | ⟨gT, d5, d6, d7, d8, d9, d10, g0⟩
    · exact (in_no hS hk' ek' hT).elim
    · refine ⟨?_, Or.inr ⟨rfl, g0⟩⟩
      have F2 := fr_cut (L' := [4901]) (A' := []) f2 (fun k hk => Or.inl hk) (fun r hr => by
        simp only [List.mem_cons, List.not_mem_nil, or_false] at hr
        rcases hr with rfl | rfl | rfl | rfl | rfl | rfl
        · exact Or.inr d5
        · exact Or.inr d6
        · exact Or.inr d7
        · exact Or.inr d8
        · exact Or.inr d9
        · exact Or.inr d10)
      exact rl_f R F2 (by decide) (by decide) (by decide) (by decide) (by decide) (by decide) (by decide) (by decide)
theorem pr_well {S a b n l0 h : Nat} {sc sc1 sc2 : Nat → Int32} {ar ar1 ar2 : Nat → Nat → Int32} {lo1 : Nat → Int64} {x y : Int32} {x1 : Int32} {k2 : Nat}  (hS : S ≤ 64) (R : Rl S a b n l0 h sc ar) (h1 : ((x = 0 ∧ ∃ v : Int32, (rl v 2 ∧ (∃ n : Nat, n < S ∧ x1 = nI n ∧ zwe n (nI k2) v (ar 5) (ar 12) (ar1 12))) ∧ Lb v (lo1 0)) ∨ (x = 1 ∧ (¬ (0 ≤ x1 ∧ x1 < nI S)) ∧ sc1 = sc ∧ ar1 = ar))) (f1 : Fr [] [12] sc ar sc1 ar1) (g : (rl y 2 ∧ ((∃ n : Nat, n < S ∧ x1 = nI n ∧ zwe n (nI k2) y (ar1 51) (ar1 58) (ar2 58) ∧ sc2 4901 = 0) ∨ (¬ (0 ≤ x1 ∧ x1 < nI S) ∧ ar2 58 = ar1 58 ∧ sc2 4901 = 1)))) (f2 : Fr [4901] [58] sc1 ar1 sc2 ar2) : Rl S a b n l0 h sc2 ar2 ∧ Cb x lo1 y sc2 := by
  have F : Fr [4901] [12, 58] sc ar sc2 ar2 := fr_t (fr_t fr_0 f1 (by decide) (by decide)) f2 (by decide) (by decide)
  have hS := hS
  obtain ⟨rf, gd, rn, ry, ⟨vv, ww, hGh⟩, hq, hb0⟩ := id R
  obtain ⟨e5, e6, e7, e8, e9, e10, e11, e12, e14, e15, e16, e17, e19, e20, e21⟩ := zs_r hGh
  obtain ⟨hs, hva, hwa⟩ := hGh
  have v18 : vv 18 = ar 18 := (hva 18).2 (by decide)
  have w18 : ww 18 = ar 66 := (hwa 18).2 (by decide)
  have v17 : vv 17 = ar 17 := (hva 17).2 (by decide)
  obtain ⟨yb, g⟩ := g
  rcases h1 with ⟨rfl, v, ⟨vb, k, hk, ek, hz⟩, hl⟩ | ⟨rfl, hT, rfl, rfl⟩
  · rcases g with ⟨k', hk', ek', gz, g0⟩ | ⟨gT, _⟩
    · obtain rfl : k = k' := (nI_eq (by omega) (by omega)).mp (ek.symm.trans ek')
      rw [f1.2 51 (by decide), f1.2 58 (by decide)] at gz
      obtain ⟨dy, d12⟩ := zwe_ag hk e5 e12 hz gz
      rw [← f2.2 12 (by decide)] at d12
      refine ⟨?_, Or.inl ⟨rfl, g0, by rw [dy]; exact hl⟩⟩
      have V1 : zV ar2 = uA (zV ar) 12 (ar1 12) := zV_ext (zr_all (P := fun r => ar2 r = uA (zV ar) 12 (ar1 12) r) (F.2 5 (by decide)) (F.2 6 (by decide)) (F.2 7 (by decide)) (F.2 8 (by decide)) (F.2 9 (by decide)) (F.2 10 (by decide)) (F.2 11 (by decide)) (f2.2 12 (by decide)) (F.2 14 (by decide)) (F.2 15 (by decide)) (F.2 16 (by decide)) (F.2 17 (by decide)) (F.2 18 (by decide)) (F.2 19 (by decide)) (F.2 20 (by decide)) (F.2 21 (by decide))) (zv0_u zv0_V rfl)
      refine rl_o R F (by decide) (by decide) (by decide) (by decide) (by decide) ⟨?_, (F.1 4910 (by decide)).trans (hq.trans (by rw [F.2 20 (by decide)])), fun c hc => (congrFun (F.2 20 (by decide)) c).trans (hb0 c hc)⟩
      exact gh_mk (zs_12 (f := ar1 12) hs) (by rw [V1]; exact WA_u1 hva (by decide) zag_r) (w18.trans (F.2 66 (by decide)).symm) (zag_f F (by decide) (by decide) e5) (zag_f F (by decide) (by decide) e6) (zag_f F (by decide) (by decide) e7) (zag_f F (by decide) (by decide) e8) (zag_f F (by decide) (by decide) e9) (zag_f F (by decide) (by decide) e10) (zag_f F (by decide) (by decide) e11) d12 ((F.2 14 (by decide)).trans (e14.trans (F.2 59 (by decide)).symm)) ((F.2 15 (by decide)).trans (e15.trans (F.2 60 (by decide)).symm)) ((F.2 16 (by decide)).trans (e16.trans (F.2 61 (by decide)).symm)) ((F.2 17 (by decide)).trans (e17.trans (F.2 62 (by decide)).symm)) ((F.2 19 (by decide)).trans (e19.trans (F.2 63 (by decide)).symm)) ((F.2 20 (by decide)).trans (e20.trans (F.2 64 (by decide)).symm)) ((F.2 21 (by decide)).trans (e21.trans (F.2 65 (by decide)).symm))
    · exact (in_no hS hk ek gT).elim
  · rcases g with ⟨k', hk', ek', gz, g0⟩ | ⟨gT, d12, g0⟩
    · exact (in_no hS hk' ek' hT).elim
    · refine ⟨?_, Or.inr ⟨rfl, g0⟩⟩
      have F2 := fr_cut (L' := [4901]) (A' := []) f2 (fun k hk => Or.inl hk) (fun r hr => by
        simp only [List.mem_cons, List.not_mem_nil, or_false] at hr
        rcases hr with rfl
        exact Or.inr d12)
      exact rl_f R F2 (by decide) (by decide) (by decide) (by decide) (by decide) (by decide) (by decide) (by decide)
theorem pr_wind {S a b n l0 h : Nat} {sc sc1 sc2 : Nat → Int32} {ar ar1 ar2 : Nat → Nat → Int32} {lo1 : Nat → Int64} {x y : Int32} {x1 : Int32}  (hS : S ≤ 64) (R : Rl S a b n l0 h sc ar) (h1 : ((x = 0 ∧ ∃ v : Int32, (((0 ≤ x1 ∧ x1 ≤ 4) ∧ v = sc 112 ∧ sc1 112 = x1)) ∧ lo1 0 = v.toInt64) ∨ (x = 1 ∧ (¬ (0 ≤ x1 ∧ x1 ≤ 4)) ∧ sc1 = sc ∧ ar1 = ar))) (f1 : Fr [112] [] sc ar sc1 ar1) (g : (((0 ≤ x1 ∧ x1 ≤ 4 ∧ y = sc1 4905 ∧ sc2 4905 = x1 ∧ sc2 4901 = 0) ∨ (¬ (0 ≤ x1 ∧ x1 ≤ 4) ∧ sc2 4905 = sc1 4905 ∧ sc2 4901 = 1)))) (f2 : Fr [4901, 4905] [] sc1 ar1 sc2 ar2) : Rl S a b n l0 h sc2 ar2 ∧ Cp x lo1 y sc2 := by
  have F : Fr [112, 4901, 4905] [] sc ar sc2 ar2 := fr_t (fr_t fr_0 f1 (by decide) (by decide)) f2 (by decide) (by decide)
  have hS := hS
  obtain ⟨rf, gd, rn, ry, ⟨vv, ww, hGh⟩, hq, hb0⟩ := id R
  obtain ⟨e5, e6, e7, e8, e9, e10, e11, e12, e14, e15, e16, e17, e19, e20, e21⟩ := zs_r hGh
  obtain ⟨hs, hva, hwa⟩ := hGh
  have v18 : vv 18 = ar 18 := (hva 18).2 (by decide)
  have w18 : ww 18 = ar 66 := (hwa 18).2 (by decide)
  have v17 : vv 17 = ar 17 := (hva 17).2 (by decide)
  have mk : sc2 112 = sc2 4905 → Rl S a b n l0 h sc2 ar2 := fun w => by
    obtain ⟨r0, r1, r2, r3, r4, r5, r6, r7⟩ := rn
    exact ⟨rf_f rf F (by decide) (by decide), gd_fr gd F (by decide) (by decide) (by decide), ⟨r0, (F.1 _ (by decide)).trans r1, (F.1 _ (by decide)).trans r2, (F.1 _ (by decide)).trans r3, (F.1 _ (by decide)).trans r4, (F.1 _ (by decide)).trans r5, (F.1 _ (by decide)).trans r6, w⟩, ry_f ry F (by decide), rz_f ⟨⟨vv, ww, hs, hva, hwa⟩, hq, hb0⟩ F (by decide) (by decide) (by decide)⟩
  rcases h1 with ⟨rfl, v, ⟨h0, hv, hw⟩, hl⟩ | ⟨rfl, hT, rfl, rfl⟩
  · rcases g with ⟨g1, g2, gv, gw, g0⟩ | ⟨gT, gw, g0⟩
    · refine ⟨mk ((f2.1 112 (by decide)).trans (hw.trans gw.symm)), Or.inl ⟨rfl, g0, ?_⟩⟩
      rw [hl, hv, gv, f1.1 4905 (by decide), rn.2.2.2.2.2.2.2]
    · exact absurd h0 gT
  · rcases g with ⟨g1, g2, gv, gw, g0⟩ | ⟨gT, gw, g0⟩
    · exact absurd ⟨g1, g2⟩ hT
    · exact ⟨mk ((f2.1 112 (by decide)).trans (rn.2.2.2.2.2.2.2.trans gw.symm)), Or.inr ⟨rfl, g0⟩⟩
theorem pr_company {S a b n l0 h : Nat} {sc sc1 sc2 : Nat → Int32} {ar ar1 ar2 : Nat → Nat → Int32} {lo1 : Nat → Int64} {x y : Int32} {x1 : Int32} {x2 : Int32} {x3 : Int32}  (hS : S ≤ 64) (R : Rl S a b n l0 h sc ar) (h1 : ((x = 0 ∧ ∃ v : Int32, ((∃ k : Nat, k < S ∧ x3 = nI k ∧ co_P 1308 x1 x2 v sc sc1 ∧ zen 1308 14 15 16 17 x1 x2 (nI k) v sc sc1 ar ar1)) ∧ lo1 0 = v.toInt64) ∨ (x = 1 ∧ (¬ (0 ≤ x3 ∧ x3 < nI S)) ∧ sc1 = sc ∧ ar1 = ar))) (f1 : Fr [1308] [14, 15, 16, 17] sc ar sc1 ar1) (g : (((∃ k : Nat, k < S ∧ x3 = nI k ∧ co_P 4906 x1 x2 y sc1 sc2 ∧ zen 4906 59 60 61 62 x1 x2 (nI k) y sc1 sc2 ar1 ar2 ∧ sc2 4901 = 0) ∨ (¬ (0 ≤ x3 ∧ x3 < nI S) ∧ sc2 4906 = sc1 4906 ∧ ar2 59 = ar1 59 ∧ ar2 60 = ar1 60 ∧ ar2 61 = ar1 61 ∧ ar2 62 = ar1 62 ∧ sc2 4901 = 1)))) (f2 : Fr [4901, 4906] [59, 60, 61, 62] sc1 ar1 sc2 ar2) : (∃ n2 : Nat, Rl S a b n2 l0 h sc2 ar2) ∧ Cp x lo1 y sc2 := by
  have F : Fr [1308, 4901, 4906] [14, 15, 16, 17, 59, 60, 61, 62] sc ar sc2 ar2 := fr_t (fr_t fr_0 f1 (by decide) (by decide)) f2 (by decide) (by decide)
  have hS := hS
  obtain ⟨rf, gd, rn, ry, ⟨vv, ww, hGh⟩, hq, hb0⟩ := id R
  obtain ⟨e5, e6, e7, e8, e9, e10, e11, e12, e14, e15, e16, e17, e19, e20, e21⟩ := zs_r hGh
  obtain ⟨hs, hva, hwa⟩ := hGh
  have v18 : vv 18 = ar 18 := (hva 18).2 (by decide)
  have w18 : ww 18 = ar 66 := (hwa 18).2 (by decide)
  have v17 : vv 17 = ar 17 := (hva 17).2 (by decide)
  obtain ⟨r0, r1, r2, r3, r4, r5, r6, r7⟩ := id rn
  have stay : sc2 1308 = sc 1308 → sc2 4906 = sc 4906 → ar2 14 = ar 14 → ar2 15 = ar 15 → ar2 16 = ar 16 → ar2 17 = ar 17 → ar2 59 = ar 59 → ar2 60 = ar 60 → ar2 61 = ar 61 → ar2 62 = ar 62 → Rl S a b n l0 h sc2 ar2 := fun s1 s2 c14 c15 c16 c17 b14 b15 b16 b17 => by
    have F2 := fr_cut (L' := [4901]) (A' := []) F (fun k hk => by
      simp only [List.mem_cons, List.not_mem_nil, or_false] at hk ⊢
      rcases hk with rfl | rfl | rfl
      · exact Or.inr s1
      · exact Or.inl rfl
      · exact Or.inr s2) (fun r hr => by
      simp only [List.mem_cons, List.not_mem_nil, or_false] at hr
      rcases hr with rfl | rfl | rfl | rfl | rfl | rfl | rfl | rfl
      · exact Or.inr c14
      · exact Or.inr c15
      · exact Or.inr c16
      · exact Or.inr c17
      · exact Or.inr b14
      · exact Or.inr b15
      · exact Or.inr b16
      · exact Or.inr b17)
    exact rl_f R F2 (by decide) (by decide) (by decide) (by decide) (by decide) (by decide) (by decide) (by decide)
  have q1 : sc2 1308 = sc1 1308 := f2.1 1308 (by decide)
  have q2 : sc1 4906 = sc 4906 := f1.1 4906 (by decide)
  rcases h1 with ⟨rfl, v, ⟨k, hk, ek, hp, hz⟩, hl⟩ | ⟨rfl, hT, rfl, rfl⟩
  · rcases g with ⟨k', hk', ek', gp, gz, g0⟩ | ⟨gT, _⟩
    · obtain rfl : k = k' := (nI_eq (by omega) (by omega)).mp (ek.symm.trans ek')
      obtain ⟨dy, dn⟩ := co_eq hp gp (q2.trans (r2.trans r1.symm))
      refine ⟨?_, Or.inl ⟨rfl, g0, by rw [dy]; exact hl⟩⟩
      rcases hz with ⟨hx, s1, c14, c15, c16, c17⟩ | ⟨s, h8, es, hx, s1, c14, c15, c16, c17⟩
      · rcases gz with ⟨gx, s2, d14, d15, d16, d17⟩ | ⟨s', h8', es', gx, s2, d14, d15, d16, d17⟩
        · exact ⟨n, stay (q1.trans s1) (s2.trans q2) ((f2.2 14 (by decide)).trans c14) ((f2.2 15 (by decide)).trans c15) ((f2.2 16 (by decide)).trans c16) ((f2.2 17 (by decide)).trans c17) (d14.trans (f1.2 59 (by decide))) (d15.trans (f1.2 60 (by decide))) (d16.trans (f1.2 61 (by decide))) (d17.trans (f1.2 62 (by decide)))⟩
        · exact absurd (gx.symm.trans (dy.trans hx)) (nI_neg (by omega) (by decide))
      · obtain rfl : n = s := (nI_eq (by omega) (by omega)).mp (r1.symm.trans es)
        rcases gz with ⟨gx, s2, d14, d15, d16, d17⟩ | ⟨s', h8', es', gx, s2, d14, d15, d16, d17⟩
        · exact absurd (hx.symm.trans (dy.symm.trans gx)) (nI_neg (by omega) (by decide))
        · obtain rfl : n = s' := (nI_eq (by omega) (by omega)).mp (r2.symm.trans (q2.symm.trans es'))
          have V1 : zV ar2 = uA (uA (uA (uA (zV ar) 14 (upd ((zV ar) 14) n x1)) 15 (upd ((zV ar) 15) n x2)) 16 (upd ((zV ar) 16) n (nI k))) 17 (upd ((zV ar) 17) n (-1)) := zV_ext (zr_all (P := fun r => ar2 r = uA (uA (uA (uA (zV ar) 14 (upd ((zV ar) 14) n x1)) 15 (upd ((zV ar) 15) n x2)) 16 (upd ((zV ar) 16) n (nI k))) 17 (upd ((zV ar) 17) n (-1)) r) (F.2 5 (by decide)) (F.2 6 (by decide)) (F.2 7 (by decide)) (F.2 8 (by decide)) (F.2 9 (by decide)) (F.2 10 (by decide)) (F.2 11 (by decide)) (F.2 12 (by decide)) ((f2.2 14 (by decide)).trans c14) ((f2.2 15 (by decide)).trans c15) ((f2.2 16 (by decide)).trans c16) ((f2.2 17 (by decide)).trans c17) (F.2 18 (by decide)) (F.2 19 (by decide)) (F.2 20 (by decide)) (F.2 21 (by decide))) (zv0_u (zv0_u (zv0_u (zv0_u (zv0_V) rfl) rfl) rfl) rfl)
          have v14 : vv 14 = ar 14 := (hva 14).2 (by decide)
          have v15 : vv 15 = ar 15 := (hva 15).2 (by decide)
          have v16 : vv 16 = ar 16 := (hva 16).2 (by decide)
          have t14 : ar2 14 = ar2 59 := by rw [f2.2 14 (by decide), c14, d14, f1.2 59 (by decide), e14]
          have t15 : ar2 15 = ar2 60 := by rw [f2.2 15 (by decide), c15, d15, f1.2 60 (by decide), e15]
          have t16 : ar2 16 = ar2 61 := by rw [f2.2 16 (by decide), c16, d16, f1.2 61 (by decide), e16]
          have t17 : ar2 17 = ar2 62 := by rw [f2.2 17 (by decide), c17, d17, f1.2 62 (by decide), e17]
          refine ⟨n + 1, rf_f rf F (by decide) (by decide), gd_fr gd F (by decide) (by decide) (by decide), ⟨⟨by omega, r0.2.1, r0.2.2⟩, q1.trans s1, s2, (F.1 _ (by decide)).trans r3, (F.1 _ (by decide)).trans r4, (F.1 _ (by decide)).trans r5, (F.1 _ (by decide)).trans r6, (F.1 _ (by decide)).trans (r7.trans (F.1 _ (by decide)).symm)⟩, ry_f ry F (by decide), ?_, ?_, fun c hc => (congrFun (F.2 20 (by decide)) c).trans (hb0 c (by omega))⟩
          · refine gh_mk (zs_co (x1 := x1) (x2 := x2) (x3 := nI k) hS h8 hs) ?_ (w18.trans (F.2 66 (by decide)).symm) (zag_f F (by decide) (by decide) e5) (zag_f F (by decide) (by decide) e6) (zag_f F (by decide) (by decide) e7) (zag_f F (by decide) (by decide) e8) (zag_f F (by decide) (by decide) e9) (zag_f F (by decide) (by decide) e10) (zag_f F (by decide) (by decide) e11) (zag_f F (by decide) (by decide) e12) t14 t15 t16 t17 ((F.2 19 (by decide)).trans (e19.trans (F.2 63 (by decide)).symm)) ((F.2 20 (by decide)).trans (e20.trans (F.2 64 (by decide)).symm)) ((F.2 21 (by decide)).trans (e21.trans (F.2 65 (by decide)).symm))
            rw [V1]
            exact WA_u2 (WA_u2 (WA_u2 (WA_u2 hva (by decide) (by rw [v14]; rfl)) (by decide) (by rw [v15]; rfl)) (by decide) (by rw [v16]; rfl)) (by decide) (by rw [v17]; rfl)
          · rw [F.1 4910 (by decide), F.2 20 (by decide), hq]
            show zsm (ar 20) n = zsm (ar 20) n + ar 20 n
            rw [hb0 n (Nat.le_refl _)]
            exact (Int32.add_zero _).symm
    · exact (in_no hS hk ek gT).elim
  · rcases g with ⟨k', hk', ek', gp, gz, g0⟩ | ⟨gT, s2, d14, d15, d16, d17, g0⟩
    · exact (in_no hS hk' ek' hT).elim
    · exact ⟨⟨n, stay (f2.1 1308 (by decide)) s2 (f2.2 14 (by decide)) (f2.2 15 (by decide)) (f2.2 16 (by decide)) (f2.2 17 (by decide)) d14 d15 d16 d17⟩, Or.inr ⟨rfl, g0⟩⟩
theorem pr_breaks {S a b n l0 h : Nat} {sc sc1 sc2 : Nat → Int32} {ar ar1 ar2 : Nat → Nat → Int32} {lo1 : Nat → Int64} {x y : Int32} {x1 : Int32}  (hS : S ≤ 64) (R : Rl S a b n l0 h sc ar) (h1 : ((x = 0 ∧ ∃ v : Int32, (True) ∧ lo1 0 = v.toInt64) ∨ (x = 1 ∧ (True) ∧ sc1 = sc ∧ ar1 = ar))) (f1 : Fr [3901, 3911, 3912] [40, 41, 42, 43, 44, 45, 46, 47] sc ar sc1 ar1) (g : (True)) (f2 : Fr [4901, 4952] [77, 78, 79, 80, 81, 82, 83, 84] sc1 ar1 sc2 ar2) : Rl S a b n l0 h sc2 ar2 := by
  have F : Fr [3901, 3911, 3912, 4901, 4952] [40, 41, 42, 43, 44, 45, 46, 47, 77, 78, 79, 80, 81, 82, 83, 84] sc ar sc2 ar2 := fr_t (fr_t fr_0 f1 (by decide) (by decide)) f2 (by decide) (by decide)
  have hS := hS
  obtain ⟨rf, gd, rn, ry, ⟨vv, ww, hGh⟩, hq, hb0⟩ := id R
  obtain ⟨e5, e6, e7, e8, e9, e10, e11, e12, e14, e15, e16, e17, e19, e20, e21⟩ := zs_r hGh
  obtain ⟨hs, hva, hwa⟩ := hGh
  have v18 : vv 18 = ar 18 := (hva 18).2 (by decide)
  have w18 : ww 18 = ar 66 := (hwa 18).2 (by decide)
  have v17 : vv 17 = ar 17 := (hva 17).2 (by decide)
  exact rl_f R F (by decide) (by decide) (by decide) (by decide) (by decide) (by decide) (by decide) (by decide)
theorem pr_breaker {S a b n l0 h : Nat} {sc sc1 sc2 : Nat → Int32} {ar ar1 ar2 : Nat → Nat → Int32} {lo1 : Nat → Int64} {x y : Int32} {x1 : Int32}  (hS : S ≤ 64) (R : Rl S a b n l0 h sc ar) (h1 : ((x = 0 ∧ ∃ v : Int32, (True) ∧ lo1 0 = v.toInt64) ∨ (x = 1 ∧ (True) ∧ sc1 = sc ∧ ar1 = ar))) (f1 : Fr [] [] sc ar sc1 ar1) (g : (True)) (f2 : Fr [4901] [] sc1 ar1 sc2 ar2) : Rl S a b n l0 h sc2 ar2 := by
  have F : Fr [4901] [] sc ar sc2 ar2 := fr_t (fr_t fr_0 f1 (by decide) (by decide)) f2 (by decide) (by decide)
  have hS := hS
  obtain ⟨rf, gd, rn, ry, ⟨vv, ww, hGh⟩, hq, hb0⟩ := id R
  obtain ⟨e5, e6, e7, e8, e9, e10, e11, e12, e14, e15, e16, e17, e19, e20, e21⟩ := zs_r hGh
  obtain ⟨hs, hva, hwa⟩ := hGh
  have v18 : vv 18 = ar 18 := (hva 18).2 (by decide)
  have w18 : ww 18 = ar 66 := (hwa 18).2 (by decide)
  have v17 : vv 17 = ar 17 := (hva 17).2 (by decide)
  exact rl_f R F (by decide) (by decide) (by decide) (by decide) (by decide) (by decide) (by decide) (by decide)
theorem zor_ag {S c k : Nat} {d x : Int32} {st st' ro ro' go pu b1 b2 b3 : Nat → Int32} (hS : S ≤ 64) (hk : k < S) (h1 : zag S st st') (h2 : zag S ro ro') (hr : ∀ c, rq (go c) S) (g : zor c k d x st' ro' go pu b1 b2 b3) : ∃ r1 : Nat → Int32, zag S r1 b1 ∧ zor c k d x st ro go pu r1 b2 b3 := by
  have e1 := h1 k hk
  unfold zor at g
  rw [← e1] at g
  rcases g with ⟨gx, gc, rfl, g2, g3⟩ | ⟨gx, gc, rfl, g2, g3⟩
  · refine ⟨if ¬ go c = -1 ∧ ro (go c).toNatClampNeg = nI c then upd ro (go c).toNatClampNeg (-1) else ro, ?_, Or.inl ⟨gx, gc, rfl, g2, g3⟩⟩
    by_cases w : go c = -1
    · rw [if_neg (fun u => u.1 w), if_neg (fun u => u.1 w)]
      exact h2
    · have hg : (go c).toNatClampNeg < S := by
        rcases hr c with e | ⟨m, hm, e⟩
        · exact absurd e w
        · rw [e, nI_clamp (by omega)]
          exact hm
      rw [h2 _ hg]
      split
      · exact zag_u h2 rfl
      · exact h2
  · exact ⟨ro, h2, Or.inr ⟨gx, gc, rfl, g2, g3⟩⟩
theorem pr_send {S a b n l0 h : Nat} {sc sc1 sc2 : Nat → Int32} {ar ar1 ar2 : Nat → Nat → Int32} {lo1 : Nat → Int64} {x y : Int32} {x1 : Int32} {x2 : Int32}  (hS : S ≤ 64) (R : Rl S a b n l0 h sc ar) (h1 : ((x = 0 ∧ ∃ v : Int32, (rl v 2 ∧ (∃ c k : Nat, c < n ∧ x1 = nI c ∧ k < S ∧ x2 = nI k ∧ zor c k 1 v (ar 5) (ar 11) (ar 17) (ar 18) (ar1 11) (ar1 17) (ar1 18))) ∧ Lb v (lo1 0)) ∨ (x = 1 ∧ ((¬ (0 ≤ x1 ∧ x1 < nI n) ∨ ¬ (0 ≤ x2 ∧ x2 < nI S))) ∧ sc1 = sc ∧ ar1 = ar))) (f1 : Fr [] [11, 17, 18] sc ar sc1 ar1) (g : (rl y 2 ∧ ((∃ c k : Nat, c < n ∧ x1 = nI c ∧ k < S ∧ x2 = nI k ∧ zar c k 1 0 y (ar1 51) (ar1 57) (ar1 62) (ar1 66) (ar2 57) (ar2 62) (ar2 66) ∧ sc2 4901 = 0) ∨ ((¬ (0 ≤ x1 ∧ x1 < nI n) ∨ ¬ (0 ≤ x2 ∧ x2 < nI S)) ∧ ar2 57 = ar1 57 ∧ ar2 62 = ar1 62 ∧ ar2 66 = ar1 66 ∧ sc2 4901 = 1)))) (f2 : Fr [4901] [57, 62, 66] sc1 ar1 sc2 ar2) : Rl S a b n l0 h sc2 ar2 ∧ Cb x lo1 y sc2 := by
  have F : Fr [4901] [11, 17, 18, 57, 62, 66] sc ar sc2 ar2 := fr_t (fr_t fr_0 f1 (by decide) (by decide)) f2 (by decide) (by decide)
  have hS := hS
  obtain ⟨rf, gd, rn, ry, ⟨vv, ww, hGh⟩, hq, hb0⟩ := id R
  obtain ⟨e5, e6, e7, e8, e9, e10, e11, e12, e14, e15, e16, e17, e19, e20, e21⟩ := zs_r hGh
  obtain ⟨hs, hva, hwa⟩ := hGh
  have v18 : vv 18 = ar 18 := (hva 18).2 (by decide)
  have w18 : ww 18 = ar 66 := (hwa 18).2 (by decide)
  have v17 : vv 17 = ar 17 := (hva 17).2 (by decide)
  obtain ⟨yb, g⟩ := g
  have hn := rn.1.1
  rcases h1 with ⟨rfl, v, ⟨vb, c, k, hc, ec, hk, ek, hz⟩, hl⟩ | ⟨rfl, hT, rfl, rfl⟩
  · rcases g with ⟨c', k', hc', ec', hk', ek', gz, g0⟩ | ⟨gT, _⟩
    · obtain rfl : k = k' := (nI_eq (by omega) (by omega)).mp (ek.symm.trans ek')
      obtain rfl : c = c' := (nI_eq (by omega) (by omega)).mp (ec.symm.trans ec')
      rw [f1.2 51 (by decide), f1.2 57 (by decide), f1.2 62 (by decide), f1.2 66 (by decide)] at gz
      have w17 : ww 17 = ar 62 := (hwa 17).2 (by decide)
      obtain ⟨r1, y1, gz⟩ := zar_ag (st := ww 5) (ro := ww 11) hk ((hwa 5).1 (by decide)) ((hwa 11).1 (by decide)) gz
      obtain ⟨r2, y2, hz⟩ := zor_ag (st := vv 5) (ro := vv 11) hS hk ((hva 5).1 (by decide)) ((hva 11).1 (by decide)) (fun c => by rw [← v17]; exact hs.2.2.2.1 c) hz
      rw [← w17, ← w18] at gz
      rw [← v17, ← v18] at hz
      obtain ⟨dy, t1, t2, z⟩ := zs_or (d := 1) (q := 0) hS hn hc hk (Or.inl ⟨rfl, rfl⟩) hs hz gz
      have t11 : zag S (ar2 11) (ar2 57) := fun j hj => by
        rw [f2.2 11 (by decide), ← y2 j hj, ← t1]
        exact y1 j hj
      have t17 : ar2 17 = ar2 62 := by rw [f2.2 17 (by decide), t2]
      refine ⟨?_, Or.inl ⟨rfl, g0, by rw [dy]; exact hl⟩⟩
      have V1 : zV ar2 = uA (uA (uA (zV ar) 11 (ar1 11)) 17 (ar1 17)) 18 (ar1 18) := zV_ext (zr_all (P := fun r => ar2 r = uA (uA (uA (zV ar) 11 (ar1 11)) 17 (ar1 17)) 18 (ar1 18) r) (F.2 5 (by decide)) (F.2 6 (by decide)) (F.2 7 (by decide)) (F.2 8 (by decide)) (F.2 9 (by decide)) (F.2 10 (by decide)) (f2.2 11 (by decide)) (F.2 12 (by decide)) (F.2 14 (by decide)) (F.2 15 (by decide)) (F.2 16 (by decide)) (f2.2 17 (by decide)) (f2.2 18 (by decide)) (F.2 19 (by decide)) (F.2 20 (by decide)) (F.2 21 (by decide))) (zv0_u (zv0_u (zv0_u (zv0_V) rfl) rfl) rfl)
      refine rl_o R F (by decide) (by decide) (by decide) (by decide) (by decide) ⟨?_, (F.1 4910 (by decide)).trans (hq.trans (by rw [F.2 20 (by decide)])), fun c hc => (congrFun (F.2 20 (by decide)) c).trans (hb0 c hc)⟩
      exact gh_mk z (by rw [V1]; exact WA_u2 (WA_u2 (WA_u1 hva (by decide) y2) (by decide) rfl) (by decide) rfl) rfl (zag_f F (by decide) (by decide) e5) (zag_f F (by decide) (by decide) e6) (zag_f F (by decide) (by decide) e7) (zag_f F (by decide) (by decide) e8) (zag_f F (by decide) (by decide) e9) (zag_f F (by decide) (by decide) e10) t11 (zag_f F (by decide) (by decide) e12) ((F.2 14 (by decide)).trans (e14.trans (F.2 59 (by decide)).symm)) ((F.2 15 (by decide)).trans (e15.trans (F.2 60 (by decide)).symm)) ((F.2 16 (by decide)).trans (e16.trans (F.2 61 (by decide)).symm)) t17 ((F.2 19 (by decide)).trans (e19.trans (F.2 63 (by decide)).symm)) ((F.2 20 (by decide)).trans (e20.trans (F.2 64 (by decide)).symm)) ((F.2 21 (by decide)).trans (e21.trans (F.2 65 (by decide)).symm))
    · exact gT.elim (fun w => (in_no (S := n) (by omega) hc ec w).elim) (fun w => (in_no hS hk ek w).elim)
  · rcases g with ⟨c', k', hc', ec', hk', ek', gz, g0⟩ | ⟨gT, d11, d17, d18, g0⟩
    · exact hT.elim (fun w => (in_no (S := n) (by omega) hc' ec' w).elim) (fun w => (in_no hS hk' ek' w).elim)
    · refine ⟨?_, Or.inr ⟨rfl, g0⟩⟩
      have F2 := fr_cut (L' := [4901]) (A' := []) f2 (fun k hk => Or.inl hk) (fun r hr => by
        simp only [List.mem_cons, List.not_mem_nil, or_false] at hr
        rcases hr with rfl | rfl | rfl
        · exact Or.inr d11
        · exact Or.inr d17
        · exact Or.inr d18)
      exact rl_f R F2 (by decide) (by decide) (by decide) (by decide) (by decide) (by decide) (by decide) (by decide)
theorem pr_pull {S a b n l0 h : Nat} {sc sc1 sc2 : Nat → Int32} {ar ar1 ar2 : Nat → Nat → Int32} {lo1 : Nat → Int64} {x y : Int32} {x1 : Int32} {x2 : Int32}  (hS : S ≤ 64) (R : Rl S a b n l0 h sc ar) (h1 : ((x = 0 ∧ ∃ v : Int32, (rl v 2 ∧ (∃ c k : Nat, c < n ∧ x1 = nI c ∧ k < S ∧ x2 = nI k ∧ zor c k 0 v (ar 5) (ar 11) (ar 17) (ar 18) (ar1 11) (ar1 17) (ar1 18))) ∧ Lb v (lo1 0)) ∨ (x = 1 ∧ ((¬ (0 ≤ x1 ∧ x1 < nI n) ∨ ¬ (0 ≤ x2 ∧ x2 < nI S))) ∧ sc1 = sc ∧ ar1 = ar))) (f1 : Fr [] [11, 17, 18] sc ar sc1 ar1) (g : (rl y 2 ∧ ((∃ c k : Nat, c < n ∧ x1 = nI c ∧ k < S ∧ x2 = nI k ∧ zar c k 0 1 y (ar1 51) (ar1 57) (ar1 62) (ar1 66) (ar2 57) (ar2 62) (ar2 66) ∧ sc2 4901 = 0) ∨ ((¬ (0 ≤ x1 ∧ x1 < nI n) ∨ ¬ (0 ≤ x2 ∧ x2 < nI S)) ∧ ar2 57 = ar1 57 ∧ ar2 62 = ar1 62 ∧ ar2 66 = ar1 66 ∧ sc2 4901 = 1)))) (f2 : Fr [4901] [57, 62, 66] sc1 ar1 sc2 ar2) : Rl S a b n l0 h sc2 ar2 ∧ Cb x lo1 y sc2 := by
  have F : Fr [4901] [11, 17, 18, 57, 62, 66] sc ar sc2 ar2 := fr_t (fr_t fr_0 f1 (by decide) (by decide)) f2 (by decide) (by decide)
  have hS := hS
  obtain ⟨rf, gd, rn, ry, ⟨vv, ww, hGh⟩, hq, hb0⟩ := id R
  obtain ⟨e5, e6, e7, e8, e9, e10, e11, e12, e14, e15, e16, e17, e19, e20, e21⟩ := zs_r hGh
  obtain ⟨hs, hva, hwa⟩ := hGh
  have v18 : vv 18 = ar 18 := (hva 18).2 (by decide)
  have w18 : ww 18 = ar 66 := (hwa 18).2 (by decide)
  have v17 : vv 17 = ar 17 := (hva 17).2 (by decide)
  obtain ⟨yb, g⟩ := g
  have hn := rn.1.1
  rcases h1 with ⟨rfl, v, ⟨vb, c, k, hc, ec, hk, ek, hz⟩, hl⟩ | ⟨rfl, hT, rfl, rfl⟩
  · rcases g with ⟨c', k', hc', ec', hk', ek', gz, g0⟩ | ⟨gT, _⟩
    · obtain rfl : k = k' := (nI_eq (by omega) (by omega)).mp (ek.symm.trans ek')
      obtain rfl : c = c' := (nI_eq (by omega) (by omega)).mp (ec.symm.trans ec')
      rw [f1.2 51 (by decide), f1.2 57 (by decide), f1.2 62 (by decide), f1.2 66 (by decide)] at gz
      have w17 : ww 17 = ar 62 := (hwa 17).2 (by decide)
      obtain ⟨r1, y1, gz⟩ := zar_ag (st := ww 5) (ro := ww 11) hk ((hwa 5).1 (by decide)) ((hwa 11).1 (by decide)) gz
      obtain ⟨r2, y2, hz⟩ := zor_ag (st := vv 5) (ro := vv 11) hS hk ((hva 5).1 (by decide)) ((hva 11).1 (by decide)) (fun c => by rw [← v17]; exact hs.2.2.2.1 c) hz
      rw [← w17, ← w18] at gz
      rw [← v17, ← v18] at hz
      obtain ⟨dy, t1, t2, z⟩ := zs_or (d := 0) (q := 1) hS hn hc hk (Or.inr ⟨rfl, rfl⟩) hs hz gz
      have t11 : zag S (ar2 11) (ar2 57) := fun j hj => by
        rw [f2.2 11 (by decide), ← y2 j hj, ← t1]
        exact y1 j hj
      have t17 : ar2 17 = ar2 62 := by rw [f2.2 17 (by decide), t2]
      refine ⟨?_, Or.inl ⟨rfl, g0, by rw [dy]; exact hl⟩⟩
      have V1 : zV ar2 = uA (uA (uA (zV ar) 11 (ar1 11)) 17 (ar1 17)) 18 (ar1 18) := zV_ext (zr_all (P := fun r => ar2 r = uA (uA (uA (zV ar) 11 (ar1 11)) 17 (ar1 17)) 18 (ar1 18) r) (F.2 5 (by decide)) (F.2 6 (by decide)) (F.2 7 (by decide)) (F.2 8 (by decide)) (F.2 9 (by decide)) (F.2 10 (by decide)) (f2.2 11 (by decide)) (F.2 12 (by decide)) (F.2 14 (by decide)) (F.2 15 (by decide)) (F.2 16 (by decide)) (f2.2 17 (by decide)) (f2.2 18 (by decide)) (F.2 19 (by decide)) (F.2 20 (by decide)) (F.2 21 (by decide))) (zv0_u (zv0_u (zv0_u (zv0_V) rfl) rfl) rfl)
      refine rl_o R F (by decide) (by decide) (by decide) (by decide) (by decide) ⟨?_, (F.1 4910 (by decide)).trans (hq.trans (by rw [F.2 20 (by decide)])), fun c hc => (congrFun (F.2 20 (by decide)) c).trans (hb0 c hc)⟩
      exact gh_mk z (by rw [V1]; exact WA_u2 (WA_u2 (WA_u1 hva (by decide) y2) (by decide) rfl) (by decide) rfl) rfl (zag_f F (by decide) (by decide) e5) (zag_f F (by decide) (by decide) e6) (zag_f F (by decide) (by decide) e7) (zag_f F (by decide) (by decide) e8) (zag_f F (by decide) (by decide) e9) (zag_f F (by decide) (by decide) e10) t11 (zag_f F (by decide) (by decide) e12) ((F.2 14 (by decide)).trans (e14.trans (F.2 59 (by decide)).symm)) ((F.2 15 (by decide)).trans (e15.trans (F.2 60 (by decide)).symm)) ((F.2 16 (by decide)).trans (e16.trans (F.2 61 (by decide)).symm)) t17 ((F.2 19 (by decide)).trans (e19.trans (F.2 63 (by decide)).symm)) ((F.2 20 (by decide)).trans (e20.trans (F.2 64 (by decide)).symm)) ((F.2 21 (by decide)).trans (e21.trans (F.2 65 (by decide)).symm))
    · exact gT.elim (fun w => (in_no (S := n) (by omega) hc ec w).elim) (fun w => (in_no hS hk ek w).elim)
  · rcases g with ⟨c', k', hc', ec', hk', ek', gz, g0⟩ | ⟨gT, d11, d17, d18, g0⟩
    · exact hT.elim (fun w => (in_no (S := n) (by omega) hc' ec' w).elim) (fun w => (in_no hS hk' ek' w).elim)
    · refine ⟨?_, Or.inr ⟨rfl, g0⟩⟩
      have F2 := fr_cut (L' := [4901]) (A' := []) f2 (fun k hk => Or.inl hk) (fun r hr => by
        simp only [List.mem_cons, List.not_mem_nil, or_false] at hr
        rcases hr with rfl | rfl | rfl
        · exact Or.inr d11
        · exact Or.inr d17
        · exact Or.inr d18)
      exact rl_f R F2 (by decide) (by decide) (by decide) (by decide) (by decide) (by decide) (by decide) (by decide)
theorem pr_light {S a b n l0 h : Nat} {sc sc1 sc2 : Nat → Int32} {ar ar1 ar2 : Nat → Nat → Int32} {lo1 : Nat → Int64} {x y : Int32} {x1 : Int32}  (hS : S ≤ 64) (R : Rl S a b n l0 h sc ar) (h1 : ((x = 0 ∧ ∃ v : Int32, ((∃ k : Nat, k < S ∧ x1 = nI k ∧ ((¬ ar 5 k = 0 ∧ v = -1 ∧ ar1 5 = ar 5 ∧ ar1 17 = ar 17 ∧ ar1 18 = ar 18) ∨ (ar 5 k = 0 ∧ ar1 5 = upd (ar 5) k 1 ∧ zli a n h k (fo (ar 32) (nI (h / 24)) l0 0 (-1)) (zcn (upd (ar 5) k 1) 1 S) (ar 7) (ar 6) (ar 8) (ar 14) (ar 15) (ar 16) (ar 30) (ar 31) (ar 17) (ar 18) (ar1 17) (ar1 18) ∧ v = zcn (ar1 17) (nI k) n)))) ∧ lo1 0 = v.toInt64) ∨ (x = 1 ∧ (¬ (0 ≤ x1 ∧ x1 < nI S)) ∧ sc1 = sc ∧ ar1 = ar))) (f1 : Fr [9, 3300, 3301, 3304] [5, 17, 18, 34, 35, 48] sc ar sc1 ar1) (g : (((∃ k : Nat, k < S ∧ x1 = nI k ∧ ((¬ ar1 51 k = 0 ∧ y = -1 ∧ ar2 51 = ar1 51 ∧ ar2 62 = ar1 62 ∧ ar2 66 = ar1 66) ∨ (ar1 51 k = 0 ∧ ar2 51 = upd (ar1 51) k 1 ∧ ar2 62 = zpw (zrW a h (fo (ar1 68) (nI (h / 24)) l0 0 (-1)) (zcn (upd (ar1 51) k 1) 1 S) (ar1 53) (ar1 52) (ar1 54) (ar1 59) (ar1 60) (ar1 61) (ar1 71) (ar1 70) (ar1 73) (ar1 69) k (zng n (nI k) 1 (ar1 62) (ar1 66))) (zng n (nI k) 1 (ar1 62) (ar1 66)) n ∧ ar2 66 = zpw (zrP a h (fo (ar1 68) (nI (h / 24)) l0 0 (-1)) (zcn (upd (ar1 51) k 1) 1 S) (ar1 53) (ar1 52) (ar1 54) (ar1 59) (ar1 60) (ar1 61) (ar1 71) (ar1 70) (ar1 73) (ar1 69) k (zng n (nI k) 1 (ar1 62) (ar1 66)) (ar1 66)) (ar1 66) n ∧ y = zcn (ar2 62) (nI k) n)) ∧ sc2 4901 = 0) ∨ (¬ (0 ≤ x1 ∧ x1 < nI S) ∧ ar2 51 = ar1 51 ∧ ar2 62 = ar1 62 ∧ ar2 66 = ar1 66 ∧ sc2 4901 = 1)))) (f2 : Fr [4901, 4943] [51, 62, 66, 72] sc1 ar1 sc2 ar2) : Rl S a b n l0 h sc2 ar2 ∧ Cp x lo1 y sc2 := by
  have F : Fr [9, 3300, 3301, 3304, 4901, 4943] [5, 17, 18, 34, 35, 48, 51, 62, 66, 72] sc ar sc2 ar2 := fr_t (fr_t fr_0 f1 (by decide) (by decide)) f2 (by decide) (by decide)
  have hS := hS
  obtain ⟨rf, gd, rn, ry, ⟨vv, ww, hGh⟩, hq, hb0⟩ := id R
  obtain ⟨e5, e6, e7, e8, e9, e10, e11, e12, e14, e15, e16, e17, e19, e20, e21⟩ := zs_r hGh
  obtain ⟨hs, hva, hwa⟩ := hGh
  have v18 : vv 18 = ar 18 := (hva 18).2 (by decide)
  have w18 : ww 18 = ar 66 := (hwa 18).2 (by decide)
  have v17 : vv 17 = ar 17 := (hva 17).2 (by decide)
  have hn := rn.1.1
  have stay : ar2 5 = ar 5 → ar2 17 = ar 17 → ar2 18 = ar 18 → ar2 51 = ar 51 → ar2 62 = ar 62 → ar2 66 = ar 66 → Rl S a b n l0 h sc2 ar2 := fun c5 c17 c18 d5 d17 d18 => by
    have F2 := fr_cut (L' := [9, 3300, 3301, 3304, 4901, 4943]) (A' := [34, 35, 48, 72]) F (fun k hk => Or.inl hk) (fun r hr => by
      simp only [List.mem_cons, List.not_mem_nil, or_false] at hr ⊢
      rcases hr with rfl | rfl | rfl | rfl | rfl | rfl | rfl | rfl | rfl | rfl
      · exact Or.inr c5
      · exact Or.inr c17
      · exact Or.inr c18
      · exact Or.inl (by decide)
      · exact Or.inl (by decide)
      · exact Or.inl (by decide)
      · exact Or.inr d5
      · exact Or.inr d17
      · exact Or.inr d18
      · exact Or.inl (by decide))
    exact rl_f R F2 (by decide) (by decide) (by decide) (by decide) (by decide) (by decide) (by decide) (by decide)
  rcases h1 with ⟨rfl, v, ⟨k, hk, ek, hz⟩, hl⟩ | ⟨rfl, hT, rfl, rfl⟩
  · rcases g with ⟨k', hk', ek', gz, g0⟩ | ⟨gT, _⟩
    · obtain rfl : k = k' := (nI_eq (by omega) (by omega)).mp (ek.symm.trans ek')
      rcases hz with ⟨h0, hv, c5, c17, c18⟩ | ⟨h0, c5, hli, hv⟩
      · rcases gz with ⟨_, gv, d5, d17, d18⟩ | ⟨g5, _⟩
        · exact ⟨stay ((f2.2 5 (by decide)).trans c5) ((f2.2 17 (by decide)).trans c17) ((f2.2 18 (by decide)).trans c18) (d5.trans (f1.2 51 (by decide))) (d17.trans (f1.2 62 (by decide))) (d18.trans (f1.2 66 (by decide))), Or.inl ⟨rfl, g0, by rw [hl, hv, gv]⟩⟩
        · rw [f1.2 51 (by decide), ← e5 k hk] at g5
          exact absurd g5 h0
      · rcases gz with ⟨g5, _⟩ | ⟨_, d5, d17, d18, gv⟩
        · rw [f1.2 51 (by decide), ← e5 k hk] at g5
          exact absurd h0 g5
        · rw [f1.2 51 (by decide), f1.2 52 (by decide), f1.2 53 (by decide), f1.2 54 (by decide), f1.2 59 (by decide), f1.2 60 (by decide), f1.2 61 (by decide), f1.2 62 (by decide), f1.2 66 (by decide), f1.2 68 (by decide), f1.2 69 (by decide), f1.2 70 (by decide), f1.2 71 (by decide), f1.2 73 (by decide)] at d17 d18
          have HV : WA S (uA vv 5 (upd (vv 5) k 1)) (uA (zV ar) 5 (upd (ar 5) k 1)) := WA_u1 hva (by decide) (zag_u ((hva 5).1 (by decide)) rfl)
          have HW : WA S (uA ww 5 (upd (ww 5) k 1)) (uA (zVr ar) 5 (upd (ar 51) k 1)) := WA_u1 hwa (by decide) (zag_u ((hwa 5).1 (by decide)) rfl)
          have q5 : vv 5 k = ar 5 k := (hva 5).1 (by decide) k hk
          have w17 : ww 17 = ar 62 := (hwa 17).2 (by decide)
          have j1 := zrbW_ag (a := a) (h := h) (x1 := fo (ar 32) (nI (h / 24)) l0 0 (-1)) (co := ar 30) (en := ar 31) (go := fgl n (nI k) (ar 17)) hk HV
          have hli' : zli a n h k (fo (ar 32) (nI (h / 24)) l0 0 (-1)) (zcn (upd (vv 5) k 1) 1 S) (vv 7) (vv 6) (vv 8) (vv 14) (vv 15) (vv 16) (ar 30) (ar 31) (vv 17) (vv 18) (ar1 17) (ar1 18) := by
            rw [v17, v18]
            exact ⟨hli.1.trans (congrArg (fun f => zpw f (fgl n (nI k) (ar 17)) n) j1.symm), hli.2⟩
          have k1 := zrW_ag (a := a) (l0 := l0) (h := h) (da := ar 32) (C := ar 71) (R := ar 70) (P := ar 73) (M := ar 69) (go := zng n (nI k) 1 (ar 62) (ar 66)) hk HW
          have k2 := zrP_ag (a := a) (l0 := l0) (h := h) (da := ar 32) (C := ar 71) (R := ar 70) (P := ar 73) (M := ar 69) (go := zng n (nI k) 1 (ar 62) (ar 66)) (pu := ar 66) hk HW
          rw [← ry.2.2.2.1] at d17 d18
          have k1' := d17.trans (congrArg (fun f => zpw f (zng n (nI k) 1 (ar 62) (ar 66)) n) k1.symm)
          have k2' := d18.trans (congrArg (fun f => zpw f (ar 66) n) k2.symm)
          obtain ⟨z1, z2⟩ := zs_li (co := ar 30) (en := ar 31) (C := ar 71) (R := ar 70) (P := ar 73) (M := ar 69) hS hk hs (q5.trans h0) (fun c k => zlaw_c rn.1.2.1 (zl_law (S := S) ry)) hli'
          have x5 : vv 5 = ww 5 := hs.1 5 (by decide)
          have x6 : vv 6 = ww 6 := hs.1 6 (by decide)
          have x7 : vv 7 = ww 7 := hs.1 7 (by decide)
          have x8 : vv 8 = ww 8 := hs.1 8 (by decide)
          have x14 : vv 14 = ww 14 := hs.1 14 (by decide)
          have x15 : vv 15 = ww 15 := hs.1 15 (by decide)
          have x16 : vv 16 = ww 16 := hs.1 16 (by decide)
          have x17 : vv 17 = ww 17 := hs.1 17 (by decide)
          rw [x5, x6, x7, x8, x14, x15, x16, x17, w17, w18] at z1
          rw [x6, x7, x8, x14, x15, x16, x17, w17, w18] at z2
          have t1 : ar1 17 = ar2 62 := z1.trans k1'.symm
          have z3 : ZS S n (uA (uA (uA vv 5 (upd (vv 5) k 1)) 17 (ar1 17)) 18 (ar1 18)) (uA (uA (uA ww 5 (upd (ww 5) k 1)) 17 (ar1 17)) 18 (ar2 66)) := by
            have e66 : ar2 66 = _ := k2'
            rw [e66]
            rw [x5] at z2 ⊢
            exact z2
          have V1 : zV ar2 = uA (uA (uA (zV ar) 5 (upd ((zV ar) 5) k 1)) 17 (ar1 17)) 18 (ar1 18) := zV_ext (zr_all (P := fun r => ar2 r = uA (uA (uA (zV ar) 5 (upd ((zV ar) 5) k 1)) 17 (ar1 17)) 18 (ar1 18) r) ((f2.2 5 (by decide)).trans c5) (F.2 6 (by decide)) (F.2 7 (by decide)) (F.2 8 (by decide)) (F.2 9 (by decide)) (F.2 10 (by decide)) (F.2 11 (by decide)) (F.2 12 (by decide)) (F.2 14 (by decide)) (F.2 15 (by decide)) (F.2 16 (by decide)) (f2.2 17 (by decide)) (f2.2 18 (by decide)) (F.2 19 (by decide)) (F.2 20 (by decide)) (F.2 21 (by decide))) (zv0_u (zv0_u (zv0_u (zv0_V) rfl) rfl) rfl)
          have d5' : zag S (ar2 5) (ar2 51) := by
            rw [f2.2 5 (by decide), c5, d5, f1.2 51 (by decide)]
            exact zag_u e5 rfl
          refine ⟨rl_o R F (by decide) (by decide) (by decide) (by decide) (by decide) ⟨?_, (F.1 4910 (by decide)).trans (hq.trans (by rw [F.2 20 (by decide)])), fun c hc => (congrFun (F.2 20 (by decide)) c).trans (hb0 c hc)⟩, Or.inl ⟨rfl, g0, by rw [hl, hv, gv, t1]⟩⟩
          exact gh_mk z3 (by rw [V1]; exact WA_u2 (WA_u2 HV (by decide) rfl) (by decide) rfl) rfl d5' (zag_f F (by decide) (by decide) e6) (zag_f F (by decide) (by decide) e7) (zag_f F (by decide) (by decide) e8) (zag_f F (by decide) (by decide) e9) (zag_f F (by decide) (by decide) e10) (zag_f F (by decide) (by decide) e11) (zag_f F (by decide) (by decide) e12) ((F.2 14 (by decide)).trans (e14.trans (F.2 59 (by decide)).symm)) ((F.2 15 (by decide)).trans (e15.trans (F.2 60 (by decide)).symm)) ((F.2 16 (by decide)).trans (e16.trans (F.2 61 (by decide)).symm)) ((f2.2 17 (by decide)).trans t1) ((F.2 19 (by decide)).trans (e19.trans (F.2 63 (by decide)).symm)) ((F.2 20 (by decide)).trans (e20.trans (F.2 64 (by decide)).symm)) ((F.2 21 (by decide)).trans (e21.trans (F.2 65 (by decide)).symm))
    · exact (in_no hS hk ek gT).elim
  · rcases g with ⟨k', hk', ek', gz, g0⟩ | ⟨gT, d5, d17, d18, g0⟩
    · exact (in_no hS hk' ek' hT).elim
    · exact ⟨stay (f2.2 5 (by decide)) (f2.2 17 (by decide)) (f2.2 18 (by decide)) d5 d17 d18, Or.inr ⟨rfl, g0⟩⟩
theorem zgR_hi {a n k : Nat} {go pl q : Nat → Int32} {c : Nat} (hc : n ≤ c) (s : zR3) : ∀ i, i ≤ n → (zit (zgR a k go pl q) i s).2.1 c = s.2.1 c
  | 0, _ => rfl
  | i + 1, hi => by
    rw [← zgR_hi (a := a) (k := k) (go := go) (pl := pl) (q := q) hc s i (by omega)]
    show (zgR a k go pl q i (zit (zgR a k go pl q) i s)).2.1 c = _
    generalize zit (zgR a k go pl q) i s = u
    unfold zgR
    split
    · split
      · rfl
      · exact if_neg (by omega)
    · rfl
theorem zgRs_hi {a n : Nat} {st go pl q : Nat → Int32} {c : Nat} (hc : n ≤ c) (s : zR3) : ∀ i, (zit (zgRs a n st go pl q) i s).2.1 c = s.2.1 c
  | 0 => rfl
  | i + 1 => by
    rw [← zgRs_hi (a := a) (st := st) (go := go) (pl := pl) (q := q) hc s i]
    show (zgRs a n st go pl q i (zit (zgRs a n st go pl q) i s)).2.1 c = _
    generalize zit (zgRs a n st go pl q) i s = u
    unfold zgRs
    split
    · exact zgR_hi hc u n (Nat.le_refl _)
    · rfl
theorem wHs_hi {S a b n l0 h0 : Nat} {wi : Int32} {da C R P M : Nat → Int32} {s : (Nat → Nat → Int32) × Int32} {c : Nat} (hc : n ≤ c) : ∀ i, (wHs S a b n l0 h0 wi da C R P M i s).1 20 c = s.1 20 c
  | 0 => rfl
  | i + 1 => by
    rw [← wHs_hi (S := S) (a := a) (b := b) (l0 := l0) (h0 := h0) (wi := wi) (da := da) (C := C) (R := R) (P := P) (M := M) (s := s) hc i]
    show wH S a b n l0 (h0 + i) wi (wHs S a b n l0 h0 wi da C R P M i s).2 da C R P M (wHs S a b n l0 h0 wi da C R P M i s).1 20 c = _
    rw [wH_20]
    generalize wHs S a b n l0 h0 wi da C R P M i s = u
    exact zgRs_hi hc (u.1 11, u.1 20, u.2) S
theorem pr_hours {S a b n l0 h : Nat} {sc sc1 sc2 : Nat → Int32} {ar ar1 ar2 : Nat → Nat → Int32} {lo1 : Nat → Int64} {x y : Int32} {x1 : Int32}  (hS : S ≤ 64) (R : Rl S a b n l0 h sc ar) (h1 : ((x = 0 ∧ ∃ v : Int32, (∃ h0 nn : Nat, sc 11 = nI h0 ∧ x1 = nI nn ∧ nn ≤ 100 ∧ h0 + nn ≤ 2400 ∧ v = nI (h0 + nn) ∧ sc1 11 = nI (h0 + nn) ∧ zV ar1 = zHs S a b n l0 h0 (sc 112) (ar 30) (ar 31) (ar 32) nn (zV ar)) ∧ lo1 0 = v.toInt64) ∨ (x = 1 ∧ (∀ h n : Nat, sc 11 = nI h → x1 = nI n → n ≤ 100 → h + n ≤ 2400 → False) ∧ sc1 = sc ∧ ar1 = ar))) (f1 : Fr [9, 11, 3300, 3301, 3304, 3603] [5, 8, 9, 10, 11, 16, 17, 18, 19, 20, 21, 34, 35, 37, 38, 48] sc ar sc1 ar1) (g : (((∃ h0 nn : Nat, sc1 4904 = nI h0 ∧ x1 = nI nn ∧ nn ≤ 100 ∧ h0 + nn ≤ 2400 ∧ y = nI (h0 + nn) ∧ sc2 4904 = nI (h0 + nn) ∧ (zVr ar2, sc2 4910) = wHs S a b n l0 h0 (sc1 4905) (ar1 68) (ar1 71) (ar1 70) (ar1 73) (ar1 69) nn (zVr ar1, sc1 4910) ∧ sc2 4901 = 0) ∨ ((∀ h n : Nat, sc1 4904 = nI h → x1 = nI n → n ≤ 100 → h + n ≤ 2400 → False) ∧ sc2 4904 = sc1 4904 ∧ zVr ar2 = zVr ar1 ∧ sc2 4910 = sc1 4910 ∧ sc2 4901 = 1)))) (f2 : Fr [4901, 4904, 4910, 4943] [51, 54, 55, 56, 57, 61, 62, 63, 64, 65, 66, 72, 74, 75, 76] sc1 ar1 sc2 ar2) : (∃ h2 : Nat, Rl S a b n l0 h2 sc2 ar2) ∧ Cp x lo1 y sc2 := by
  have F : Fr [9, 11, 3300, 3301, 3304, 3603, 4901, 4904, 4910, 4943] [5, 8, 9, 10, 11, 16, 17, 18, 19, 20, 21, 34, 35, 37, 38, 48, 51, 54, 55, 56, 57, 61, 62, 63, 64, 65, 66, 72, 74, 75, 76] sc ar sc2 ar2 := fr_t (fr_t fr_0 f1 (by decide) (by decide)) f2 (by decide) (by decide)
  have hS := hS
  obtain ⟨rf, gd, rn, ry, ⟨vv, ww, hGh⟩, hq, hb0⟩ := id R
  obtain ⟨e5, e6, e7, e8, e9, e10, e11, e12, e14, e15, e16, e17, e19, e20, e21⟩ := zs_r hGh
  obtain ⟨hs, hva, hwa⟩ := hGh
  have v18 : vv 18 = ar 18 := (hva 18).2 (by decide)
  have w18 : ww 18 = ar 66 := (hwa 18).2 (by decide)
  have v17 : vv 17 = ar 17 := (hva 17).2 (by decide)
  obtain ⟨r0, r1, r2, r3, r4, r5, r6, r7⟩ := id rn
  have hn := r0.1
  rcases h1 with ⟨rfl, v, ⟨h0, nn, eh, en, hn1, hn2, hv, hh, hz⟩, hl⟩ | ⟨rfl, hT, rfl, rfl⟩
  · have q0 : sc1 4904 = sc 4904 := f1.1 4904 (by decide)
    obtain rfl : h = h0 := (nI_eq (by omega) (by omega)).mp (r5.symm.trans eh)
    rcases g with ⟨h0', nn', eh', en', _, _, gv, gh, gz, g0⟩ | ⟨gT, _⟩
    · obtain rfl : nn = nn' := (nI_eq (by omega) (by omega)).mp (en.symm.trans en')
      obtain rfl : h = h0' := (nI_eq (by omega) (by omega)).mp (r6.symm.trans (q0.symm.trans eh'))
      refine ⟨⟨h + nn, ?_⟩, Or.inl ⟨rfl, g0, by rw [hl, hv, gv]⟩⟩
      rw [f1.2 68 (by decide), f1.2 71 (by decide), f1.2 70 (by decide), f1.2 73 (by decide), f1.2 69 (by decide), f1.1 4905 (by decide), f1.1 4910 (by decide), zVr_f f1 (by decide), ← ry.2.2.2.1, ← r7] at gz
      have V1 : zV ar2 = zHs S a b n l0 h (sc 112) (ar 30) (ar 31) (ar 32) nn (zV ar) := (zV_f f2 (by decide)).trans hz
      have V2 : zVr ar2 = (wHs S a b n l0 h (sc 112) (ar 32) (ar 71) (ar 70) (ar 73) (ar 69) nn (zVr ar, sc 4910)).1 := congrArg Prod.fst gz
      have V3 : sc2 4910 = (wHs S a b n l0 h (sc 112) (ar 32) (ar 71) (ar 70) (ar 73) (ar 69) nn (zVr ar, sc 4910)).2 := congrArg Prod.snd gz
      obtain ⟨z1, z2, z3⟩ := zs_Hs2 (a := a) (b := b) (h0 := h) (wi := sc 112) (t := sc 4910) (da := ar 32) hS hn r0.2.1 (zl_law (S := S) ry) hs hwa nn
      have z4 := va_Hs (a := a) (b := b) (h0 := h) (wi := sc 112) (t := sc 4910) (da := ar 32) hS hn r0.2.1 (zl_law (S := S) ry) hs hva nn
      rw [← V2] at z2
      rw [← V1] at z4
      have e20' : ar2 20 = zVr ar2 20 := ((z4 20).2 (by decide)).symm.trans ((z1.1 20 (by decide)).trans ((z2 20).2 (by decide)))
      refine ⟨rf_f rf F (by decide) (by decide), gd_fr gd F (by decide) (by decide) (by decide), ⟨⟨r0.1, r0.2.1, by omega⟩, (F.1 _ (by decide)).trans r1, (F.1 _ (by decide)).trans r2, (F.1 _ (by decide)).trans r3, (F.1 _ (by decide)).trans r4, (f2.1 11 (by decide)).trans hh, gh, (F.1 _ (by decide)).trans (r7.trans (F.1 _ (by decide)).symm)⟩, ry_f ry F (by decide), ⟨_, _, z1, z4, z2⟩, ?_, fun c hc => ?_⟩
      · rw [e20', V2, V3]
        exact zsm_Hs (s := (zVr ar, sc 4910)) (hq.trans (by rw [e20]; rfl)) nn
      · rw [e20', V2, wHs_hi hc nn]
        show ar 64 c = 0
        rw [← e20]
        exact hb0 c hc
    · exact (gT h nn (q0.trans r6) en hn1 hn2).elim
  · rcases g with ⟨h0', nn', eh', en', gn1, gn2, gv, gh, gz, g0⟩ | ⟨gT, gh, gz, gq, g0⟩
    · exact (hT h0' nn' (r5.trans (r6.symm.trans eh')) en' gn1 gn2).elim
    · refine ⟨⟨h, ?_⟩, Or.inr ⟨rfl, g0⟩⟩
      refine ⟨rf_f rf f2 (by decide) (by decide), gd_fr gd f2 (by decide) (by decide) (by decide), ⟨r0, (f2.1 _ (by decide)).trans r1, (f2.1 _ (by decide)).trans r2, (f2.1 _ (by decide)).trans r3, (f2.1 _ (by decide)).trans r4, (f2.1 _ (by decide)).trans r5, gh.trans r6, (f2.1 _ (by decide)).trans (r7.trans (f2.1 _ (by decide)).symm)⟩, ry_f ry f2 (by decide), ⟨vv, ww, hs, ?_, ?_⟩, ?_, fun c hc => ?_⟩
      · rw [zV_f f2 (by decide)]
        exact hva
      · rw [gz]
        exact hwa
      · rw [gq, f2.2 20 (by decide)]
        exact hq
      · rw [f2.2 20 (by decide)]
        exact hb0 c hc
theorem pr_feed {S a b n l0 h : Nat} {sc sc1 sc2 : Nat → Int32} {ar ar1 ar2 : Nat → Nat → Int32} {x y : Int32} {x1 : Int32} {x2 : Int32} {x3 : Int32} {x4 : Int32} {x5 : Int32} (R : Rl S a b n l0 h sc ar) (h1 : (fe_P 2201 x sc sc1 ∧ ((x = -1 ∧ ar1 23 = ar 23) ∨ ∃ s : Nat, sc 2201 = nI s ∧ s + 20 ≤ 400 ∧ (∀ t, t < s → ar1 23 t = ar 23 t) ∧ ∀ m, m < 20 → ar1 23 (s + m) = vp_nar .byte ((fz_ x1 x2 x3 x4 x5 m).toInt8.toInt32)))) (f1 : Fr [2201] [23] sc ar sc1 ar1) (g : ((fe_P 4908 y sc1 sc2 ∧ ((y = -1 ∧ ar2 67 = ar1 67) ∨ ∃ s : Nat, sc1 4908 = nI s ∧ s + 20 ≤ 400 ∧ (∀ t, t < s → ar2 67 t = ar1 67 t) ∧ ∀ m, m < 20 → ar2 67 (s + m) = fz_ x1 x2 x3 x4 x5 m &&& 255)))) (f2 : Fr [4901, 4908] [67] sc1 ar1 sc2 ar2) : Rl S a b n l0 h sc2 ar2 := by
  have F : Fr [2201, 4901, 4908] [23, 67] sc ar sc2 ar2 := fr_t (fr_t fr_0 f1 (by decide) (by decide)) f2 (by decide) (by decide)
  obtain ⟨rf, gd, rn, ry, rz⟩ := id R
  exact ⟨rf_feed rf h1 f1 g f2 (by decide) (by decide), gd_fr gd F (by decide) (by decide) (by decide), rn_f rn F (by decide), ry_f ry F (by decide), rz_f rz F (by decide) (by decide) (by decide)⟩
theorem pr_fault {S a b n l0 h : Nat} {sc sc1 sc2 : Nat → Int32} {ar ar1 ar2 : Nat → Nat → Int32} {x y : Int32}  (R : Rl S a b n l0 h sc ar) (h1 : x = sc 10) (f1 : Fr [] [] sc ar sc1 ar1) (g : (y = sc1 4909)) (f2 : Fr [4901] [] sc1 ar1 sc2 ar2) : Rl S a b n l0 h sc2 ar2 := by
  have F : Fr [4901] [] sc ar sc2 ar2 := fr_t (fr_t fr_0 f1 (by decide) (by decide)) f2 (by decide) (by decide)
  obtain ⟨rf, gd, rn, ry, rz⟩ := id R
  exact rl_f R F (by decide) (by decide) (by decide) (by decide) (by decide) (by decide) (by decide) (by decide)
theorem kl_ld {l0 : Nat} {ar ar' : Nat → Nat → Int32} (h : LDs l0 (ar 69) (ar 70) (ar 71)) (k : Kl ar ar' l0) : ∀ l r : Nat, l < l0 → r < (ar' 69 l).toNatClampNeg → (ar' 69 l).toNatClampNeg ≤ 12 ∧ (ar' 70 (13 * l + r + 1)).toNatClampNeg ≤ 700 ∧ ∃ V, sgr (ar' 71) (700 * l + (ar' 70 (13 * l + r)).toNatClampNeg) (700 * l + (ar' 70 (13 * l + r + 1)).toNatClampNeg) V := by
  intro l r hl hr
  rw [k.2.2 l hl] at hr ⊢
  obtain ⟨h1, h2, V, h3⟩ := h l r hl hr
  rw [k.2.1 (13 * l + r) (by omega), k.2.1 (13 * l + r + 1) (by omega)]
  exact ⟨h1, h2, V, sgr_ag (k := 700 * l0) h3 (fun x hx => k.1 x hx) (by omega)⟩
theorem kl_ru {l0 l : Nat} {ar ar' : Nat → Nat → Int32} (h : LDs l0 (ar 69) (ar 70) (ar 71)) (k : Kl ar ar' l0) (k73 : ∀ x, x < 12 * l0 → ar' 73 x = ar 73 x) (hl : l < l0) (kx : Int32 → Int32) (pay : Int32) : ∀ m, m ≤ (ar 69 l).toNatClampNeg → zrul kx (ar' 71) (ar' 70) (ar' 73) l pay m = zrul kx (ar 71) (ar 70) (ar 73) l pay m
  | 0, _ => rfl
  | m + 1, hm => by
    obtain ⟨h1, h2, V, h3⟩ := h l m hl (by omega)
    have e1 := k.2.1 (13 * l + m) (by omega)
    have e2 := k.2.1 (13 * l + m + 1) (by omega)
    have e3 := k73 (12 * l + m) (by omega)
    have e4 := kl_ru h k k73 hl kx pay m (by omega)
    have e5 : zev kx (ar' 71) (700 * l + (ar 70 (13 * l + m)).toNatClampNeg) (700 * l + (ar 70 (13 * l + m + 1)).toNatClampNeg) = zev kx (ar 71) (700 * l + (ar 70 (13 * l + m)).toNatClampNeg) (700 * l + (ar 70 (13 * l + m + 1)).toNatClampNeg) := (sgr_ev (sgr_ag (k := 700 * l0) h3 (fun x hx => k.1 x hx) (by omega)) (by omega) kx).trans (sgr_ev h3 (by omega) kx).symm
    unfold zrul
    rw [e1, e2, e3, e4, e5]
theorem pr_law {S a b n l0 h : Nat} {sc sc1 sc2 : Nat → Int32} {ar ar1 ar2 : Nat → Nat → Int32} {tk : Nat → Int32} {pl : Nat → Nat} {sz : Nat} {x1 x2 : Int32} (R : Rl S a b n l0 h sc ar) (wo : LwO tk pl sz 2201 10 2903 x1 x2 sc sc1) (wb : Be sc1 ar1) (wc : LcO tk sz x2 sc sc1 ar ar1) (f1 : Fr [10, 2201, 2401, 2402, 2404, 2405, 2602, 2604, 2605, 2903] [25, 27, 28, 30, 31, 32] sc ar sc1 ar1) (g : LwO tk pl sz 4908 4909 4907 x1 x2 sc1 sc2 ∨ (LwT 4908 x1 x2 sc1 ∧ (sc2 4908 = sc1 4908 ∧ sc2 4909 = sc1 4909 ∧ sc2 4907 = sc1 4907 ∧ sc2 4901 = 1))) (gr : LrO tk sz x2 sc1 sc2 ar1 ar2) (f2 : Fr [4901, 4907, 4908, 4909, 4934, 4935, 4936, 4937, 4938, 4939, 4940, 4941, 4942] [68, 69, 70, 71, 73] sc1 ar1 sc2 ar2) : ∃ l2 : Nat, Rl S a b n l2 h sc2 ar2 := by
  obtain ⟨rf, gd, rn, ry, rz⟩ := id R
  obtain ⟨r0, r1, r2, r3, r4, r5, r6, r7⟩ := id rn
  have hl0 := r0.2.1
  have F : Fr [10, 2201, 2401, 2402, 2404, 2405, 2602, 2604, 2605, 2903, 4901, 4907, 4908, 4909, 4934, 4935, 4936, 4937, 4938, 4939, 4940, 4941, 4942] [25, 27, 28, 30, 31, 32, 68, 69, 70, 71, 73] sc ar sc2 ar2 := fr_t (fr_t fr_0 f1 (by decide) (by decide)) f2 (by decide) (by decide)
  have rf2 : Rf sc2 ar2 := rf_law rf wo wb f1 (g.imp id (fun w => ⟨w.1, w.2.1, w.2.2.1, w.2.2.2.1⟩)) f2 (by decide) (by decide)
  have gd2 : Gd S a b ar2 := gd_fr gd F (by decide) (by decide) (by decide)
  have rz2 : Rz S n sc2 ar2 := rz_f rz F (by decide) (by decide) (by decide)
  have rnk : ∀ l2 : Nat, l2 < 7 → sc2 2903 = nI l2 → Rn n l2 h sc2 := fun l2 hl e => ⟨⟨r0.1, hl, r0.2.2⟩, (F.1 _ (by decide)).trans r1, (F.1 _ (by decide)).trans r2, e, rf2.1.2.2.symm.trans e, (F.1 _ (by decide)).trans r5, (F.1 _ (by decide)).trans r6, (F.1 _ (by decide)).trans (r7.trans (F.1 _ (by decide)).symm)⟩
  have e07 : sc1 4907 = nI l0 := (f1.1 4907 (by decide)).trans r4
  obtain ⟨y1, y2, y3, y4, y5⟩ := ry
  have a30 : ar2 30 = ar1 30 := f2.2 30 (by decide)
  have a31 : ar2 31 = ar1 31 := f2.2 31 (by decide)
  have a32 : ar2 32 = ar1 32 := f2.2 32 (by decide)
  have b68 : ar1 68 = ar 68 := f1.2 68 (by decide)
  have b69 : ar1 69 = ar 69 := f1.2 69 (by decide)
  have b70 : ar1 70 = ar 70 := f1.2 70 (by decide)
  have b71 : ar1 71 = ar 71 := f1.2 71 (by decide)
  have b73 : ar1 73 = ar 73 := f1.2 73 (by decide)
  have y2' : LDs l0 (ar1 69) (ar1 70) (ar1 71) := by
    rw [b69, b70, b71]
    exact y2
  have q29 : sc2 2903 = sc1 2903 := f2.1 2903 (by decide)
  rcases wc l0 hl0 r3 with ⟨c1, c2, c3, c4⟩ | ⟨c0, c1, c2, be, c, hbe, hc, ebe, c3, c4, c5, c6⟩
  · rcases gr l0 hl0 e07 with ⟨d1, d2, d3, d4⟩ | ⟨d0, d1, _⟩
    · refine ⟨l0, rf2, gd2, rnk l0 hl0 (q29.trans c1), ⟨?_, kl_ld y2' d2, fun l hl kx => ?_, ?_, ?_⟩, rz2⟩
      · rw [a30, a31, c2, c3]
        exact y1
      · rw [a30, a31, c2, c3]
        have hm : (ar2 69 l).toNatClampNeg = (ar1 69 l).toNatClampNeg := congrArg _ (d2.2.2 l hl)
        rw [hm, kl_ru y2' d2 d3 hl kx 0 _ (Nat.le_refl _), kl_ru y2' d2 d3 hl kx 1 _ (Nat.le_refl _), b69, b70, b71, b73]
        exact y3 l hl kx
      · rw [a32, c4, d4, b68]
        exact y4
      · rw [a31, c3]
        exact y5
    · have := (nI_eq (by omega) (by omega)).mp (d1.symm.trans (rf2.1.2.2.symm.trans (q29.trans c1)))
      omega
  · rcases gr l0 hl0 e07 with ⟨d1, _⟩ | ⟨d0, d1, d2, d3, d4, d5⟩
    · have := (nI_eq (by omega) (by omega)).mp (d1.symm.trans (rf2.1.2.2.symm.trans (q29.trans c1)))
      omega
    · have en_o : ∀ l, l < l0 → ar1 31 l = ar 31 l := fun l hl => by
        rw [c3]
        exact ug_ne (by omega)
      have be_o : ∀ l, l < l0 → zbe (ar1 31) l = zbe (ar 31) l := fun l hl => by
        unfold zbe
        split
        · rfl
        · exact en_o (l - 1) (by omega)
      have en_n : (ar1 31 l0).toNatClampNeg = be + c := by
        rw [c3, ug_eq, nI_clamp (by omega)]
      have le_b : ∀ l, l < l0 → (ar 31 l).toNatClampNeg ≤ be := fun l hl => by
        have u := y5 l (l0 - 1) (by omega) (by omega)
        have w : zbe (ar 31) l0 = ar 31 (l0 - 1) := if_neg (by omega)
        rw [← w, ebe, nI_clamp (by omega)] at u
        exact u
      have ag : ∀ l, l < l0 → ∀ x, (zbe (ar 31) l).toNatClampNeg ≤ x → x < (zbe (ar 31) l).toNatClampNeg + ((ar 31 l).toNatClampNeg - (zbe (ar 31) l).toNatClampNeg) → ar1 30 x = ar 30 x := fun l hl x hx hx2 => by
        have := le_b l hl
        exact c4 x (by omega)
      refine ⟨l0 + 1, rf2, gd2, rnk (l0 + 1) (by omega) (q29.trans c1), ⟨fun l hl => ?_, fun l r hl hr => ?_, fun l hl kx => ?_, ?_, fun l m hlm hm => ?_⟩, rz2⟩
      · rw [a30, a31]
        by_cases u : l = l0
        · rw [u]
          exact c5
        · rw [en_o l (by omega), be_o l (by omega)]
          exact zok_ag _ _ _ (ag l (by omega)) (y1 l (by omega))
      · by_cases u : l = l0
        · rw [u] at hr ⊢
          exact d5.1 r hr
        · exact kl_ld y2' d2 l r (by omega) hr
      · rw [a30, a31]
        by_cases u : l = l0
        · rw [u, c6, (d5.2 kx).1, (d5.2 kx).2]
          exact ⟨rfl, rfl⟩
        · have hl' : l < l0 := by omega
          have ev : zEv (fun i => kx (nI i)) (ar1 30) (ar1 31) l = zEv (fun i => kx (nI i)) (ar 30) (ar 31) l := by
            unfold zEv zrl
            rw [en_o l hl', be_o l hl', zrun_ag _ _ _ (ag l hl')]
          have hm : (ar2 69 l).toNatClampNeg = (ar1 69 l).toNatClampNeg := congrArg _ (d2.2.2 l hl')
          rw [ev, hm, kl_ru y2' d2 d3 hl' kx 0 _ (Nat.le_refl _), kl_ru y2' d2 d3 hl' kx 1 _ (Nat.le_refl _), b69, b70, b71, b73]
          exact y3 l hl' kx
      · rw [a32, c2, d4, b68, y4]
      · rw [a31]
        by_cases u : m = l0
        · rw [u, en_n]
          by_cases w : l = l0
          · rw [w, en_n]
            exact Nat.le_refl _
          · rw [en_o l (by omega)]
            have := le_b l (by omega)
            omega
        · rw [en_o l (by omega), en_o m (by omega)]
          exact y5 l m hlm (by omega)
theorem pr_lawt {S a b n l0 h : Nat} {sc sc2 : Nat → Int32} {ar ar2 : Nat → Nat → Int32} {tk : Nat → Int32} {pl : Nat → Nat} {sz : Nat} {x1 x2 : Int32} (R : Rl S a b n l0 h sc ar) (wt : LwT 2201 x1 x2 sc) (g : LwO tk pl sz 4908 4909 4907 x1 x2 sc sc2 ∨ (LwT 4908 x1 x2 sc ∧ (sc2 4908 = sc 4908 ∧ sc2 4909 = sc 4909 ∧ sc2 4907 = sc 4907 ∧ sc2 4901 = 1))) (gr : LrO tk sz x2 sc sc2 ar ar2) (f2 : Fr [4901, 4907, 4908, 4909, 4934, 4935, 4936, 4937, 4938, 4939, 4940, 4941, 4942] [68, 69, 70, 71, 73] sc ar sc2 ar2) : ∃ l2 : Nat, Rl S a b n l2 h sc2 ar2 := by
  obtain ⟨rf, gd, rn, ry, rz⟩ := id R
  obtain ⟨r0, r1, r2, r3, r4, r5, r6, r7⟩ := id rn
  obtain ⟨y1, y2, y3, y4, y5⟩ := ry
  have hl0 := r0.2.1
  have q29 : sc2 2903 = sc 2903 := f2.1 2903 (by decide)
  have rf2 : Rf sc2 ar2 := rf_lawt rf wt (g.imp id (fun w => ⟨w.1, w.2.1, w.2.2.1, w.2.2.2.1⟩)) f2 (by decide)
  have a30 : ar2 30 = ar 30 := f2.2 30 (by decide)
  have a31 : ar2 31 = ar 31 := f2.2 31 (by decide)
  have a32 : ar2 32 = ar 32 := f2.2 32 (by decide)
  rcases gr l0 hl0 r4 with ⟨d1, d2, d3, d4⟩ | ⟨d0, d1, _⟩
  · refine ⟨l0, rf2, gd_fr gd f2 (by decide) (by decide) (by decide), ⟨r0, (f2.1 _ (by decide)).trans r1, (f2.1 _ (by decide)).trans r2, q29.trans r3, d1, (f2.1 _ (by decide)).trans r5, (f2.1 _ (by decide)).trans r6, (f2.1 _ (by decide)).trans (r7.trans (f2.1 _ (by decide)).symm)⟩, ⟨?_, kl_ld y2 d2, fun l hl kx => ?_, ?_, ?_⟩, rz_f rz f2 (by decide) (by decide) (by decide)⟩
    · rw [a30, a31]
      exact y1
    · rw [a30, a31]
      have hm : (ar2 69 l).toNatClampNeg = (ar 69 l).toNatClampNeg := congrArg _ (d2.2.2 l hl)
      rw [hm, kl_ru y2 d2 d3 hl kx 0 _ (Nat.le_refl _), kl_ru y2 d2 d3 hl kx 1 _ (Nat.le_refl _)]
      exact y3 l hl kx
    · rw [a32, d4]
      exact y4
    · rw [a31]
      exact y5
  · have := (nI_eq (by omega) (by omega)).mp (d1.symm.trans (rf2.1.2.2.symm.trans (q29.trans r3)))
    omega
