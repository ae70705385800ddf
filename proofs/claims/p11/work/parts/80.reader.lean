/-! THE PARSER, over the tokens tk (sz of them) alone: inl k, read up to k; inr k, a fault at k -/
section PARSER
variable (tk : Nat → Int32) (sz : Nat)
def ad_ (sz j : Nat) : Nat := if j + 1 < sz then j + 1 else j
def pLp (J : List Int32) (f : Nat → Nat ⊕ Nat) : Nat → Nat → Nat ⊕ Nat
  | 0, j => .inl j
  | m + 1, j => if tk j ∈ J then (match f (ad_ sz j) with
    | .inl k => pLp J f m k
    | .inr k => .inr k) else .inl j
def pNn (c : Int32) : Prop := 0 ≤ c ∨ (c ≤ -20 ∧ -27 ≤ c)
def pPt (E : Nat → Nat ⊕ Nat) (j : Nat) : Nat ⊕ Nat := if tk j = -4 then (match E (ad_ sz j) with
    | .inl k => if tk k = -5 then .inl (ad_ sz k) else .inr k
    | .inr k => .inr k) else if 0 ≤ tk j ∨ (tk j ≤ -20 ∧ -27 ≤ tk j) then .inl (ad_ sz j) else .inr j
def pSm (E : Nat → Nat ⊕ Nat) (j : Nat) : Nat ⊕ Nat := match pPt tk sz E j with
  | .inl k => pLp tk sz [-7, -8, -9] (pPt tk sz E) 401 k
  | .inr k => .inr k
def pT2 (E : Nat → Nat ⊕ Nat) (j : Nat) : Nat ⊕ Nat := match pSm tk sz E j with
  | .inl k => if tk k = -10 ∨ tk k = -11 then pSm tk sz E (ad_ sz k) else .inl k
  | .inr k => .inr k
def pTs (E : Nat → Nat ⊕ Nat) (j : Nat) : Nat ⊕ Nat := if tk j = -16 then pT2 tk sz E (ad_ sz j) else pT2 tk sz E j
def pEx : Nat → Nat → Nat ⊕ Nat
  | 0, j => .inr j
  | r + 1, j => match pTs tk sz (pEx r) j with
    | .inl k => pLp tk sz [-14, -15] (pTs tk sz (pEx r)) 401 k
    | .inr k => .inr k
def pRl (n j : Nat) : Nat ⊕ Nat := if tk j = -12 ∨ tk j = -13 then (if n < 12 then (match pEx tk sz 6 (ad_ sz j) with
    | .inl k => if tk k = -6 then .inl (ad_ sz k) else .inr k
    | .inr k => .inr k) else .inr j) else .inr j
def pLw : Nat → Nat → Nat → Nat ⊕ Nat
  | 0, _, j => .inl j
  | m + 1, n, j => if tk j = -1 then .inl j else (match pRl tk sz n j with
    | .inl k => pLw m (n + 1) k
    | .inr k => .inr k)
/-- the stream's end is its last token, and no other -/
def Se (tk : Nat → Int32) (sz : Nat) : Prop := 1 ≤ sz ∧ sz ≤ 401 ∧ tk (sz - 1) = -1
def pg_ (sz : Nat) (f : Nat → Nat ⊕ Nat) : Prop := ∀ j k, j < sz → f j = .inl k → j < k ∧ k < sz
variable {tk : Nat → Int32} {sz : Nat}
theorem ad_up {j : Nat} (h : Se tk sz) (hj : j < sz) (w : ¬ tk j = -1) : ad_ sz j = j + 1 ∧ j + 1 < sz := by
  have u : j + 1 < sz := by
    rcases Nat.lt_or_ge (j + 1) sz with u | u
    · exact u
    · have e : j = sz - 1 := by omega
      rw [e] at w
      exact absurd h.2.2 w
  exact ⟨if_pos u, u⟩
theorem pl_le {J : List Int32} {f : Nat → Nat ⊕ Nat} (h : Se tk sz) (hJ : -1 ∉ J) (hf : pg_ sz f) : ∀ m j k, j < sz → pLp tk sz J f m j = .inl k → j ≤ k ∧ k < sz := by
  intro m
  induction m with
  | zero =>
    intro j k hj e
    have e' : (Sum.inl j : Nat ⊕ Nat) = .inl k := e
    cases e'
    exact ⟨Nat.le_refl _, hj⟩
  | succ m ih =>
    intro j k hj e
    by_cases u : tk j ∈ J
    · obtain ⟨a1, a2⟩ := ad_up h hj (fun w => hJ (w ▸ u))
      rw [pLp, if_pos u, a1] at e
      cases e2 : f (j + 1) with
      | inl k2 =>
        rw [e2] at e
        obtain ⟨b1, b2⟩ := hf (j + 1) k2 a2 e2
        obtain ⟨c1, c2⟩ := ih k2 k b2 e
        exact ⟨by omega, c2⟩
      | inr k2 =>
        rw [e2] at e
        have e' : (Sum.inr k2 : Nat ⊕ Nat) = .inl k := e
        cases e'
    · rw [pLp, if_neg u] at e
      cases e
      exact ⟨Nat.le_refl _, hj⟩
theorem pl_fuel {J : List Int32} {f : Nat → Nat ⊕ Nat} (h : Se tk sz) (hJ : -1 ∉ J) (hf : pg_ sz f) : ∀ m m' j, j < sz → sz ≤ j + m → sz ≤ j + m' → pLp tk sz J f m j = pLp tk sz J f m' j := by
  intro m
  induction m with
  | zero => intro m' j hj a; omega
  | succ m ih =>
    intro m' j hj a b
    cases m' with
    | zero => omega
    | succ m' =>
      by_cases u : tk j ∈ J
      · obtain ⟨a1, a2⟩ := ad_up h hj (fun w => hJ (w ▸ u))
        rw [pLp, pLp, if_pos u, if_pos u, a1]
        cases e2 : f (j + 1) with
        | inl k2 =>
          obtain ⟨b1, b2⟩ := hf (j + 1) k2 a2 e2
          exact ih m' k2 b2 (by omega) (by omega)
        | inr k2 => rfl
      · rw [pLp, pLp, if_neg u, if_neg u]
theorem pg_pt {E : Nat → Nat ⊕ Nat} (h : Se tk sz) (hE : pg_ sz E) : pg_ sz (pPt tk sz E) := by
  intro j k hj e
  by_cases u : tk j = -4
  · obtain ⟨a1, a2⟩ := ad_up h hj (fun w => absurd (u.symm.trans w) (by decide))
    rw [pPt, if_pos u, a1] at e
    cases e2 : E (j + 1) with
    | inl k2 =>
      rw [e2] at e
      obtain ⟨b1, b2⟩ := hE (j + 1) k2 a2 e2
      by_cases v : tk k2 = -5
      · obtain ⟨c1, c2⟩ := ad_up h b2 (fun w => absurd (v.symm.trans w) (by decide))
        simp only [if_pos v, c1] at e
        cases e
        exact ⟨by omega, c2⟩
      · simp only [if_neg v] at e
        cases e
    | inr k2 =>
      rw [e2] at e
      have e' : (Sum.inr k2 : Nat ⊕ Nat) = .inl k := e
      cases e'
  · rw [pPt, if_neg u] at e
    by_cases v : 0 ≤ tk j ∨ (tk j ≤ -20 ∧ -27 ≤ tk j)
    · obtain ⟨a1, a2⟩ := ad_up h hj (fun w => by rw [w] at v; exact absurd v (by decide))
      rw [if_pos v, a1] at e
      cases e
      exact ⟨by omega, a2⟩
    · rw [if_neg v] at e
      cases e
theorem pg_sm {E : Nat → Nat ⊕ Nat} (h : Se tk sz) (hE : pg_ sz E) : pg_ sz (pSm tk sz E) := by
  intro j k hj e
  cases e2 : pPt tk sz E j with
  | inl k2 =>
    rw [pSm, e2] at e
    obtain ⟨b1, b2⟩ := pg_pt h hE j k2 hj e2
    obtain ⟨c1, c2⟩ := pl_le h (by decide) (pg_pt h hE) 401 k2 k b2 e
    exact ⟨by omega, c2⟩
  | inr k2 =>
    rw [pSm, e2] at e
    have e' : (Sum.inr k2 : Nat ⊕ Nat) = .inl k := e
    cases e'
theorem pg_t2 {E : Nat → Nat ⊕ Nat} (h : Se tk sz) (hE : pg_ sz E) : pg_ sz (pT2 tk sz E) := by
  intro j k hj e
  cases e2 : pSm tk sz E j with
  | inl k2 =>
    obtain ⟨b1, b2⟩ := pg_sm h hE j k2 hj e2
    by_cases v : tk k2 = -10 ∨ tk k2 = -11
    · obtain ⟨c1, c2⟩ := ad_up h b2 (fun w => by rw [w] at v; exact absurd v (by decide))
      simp only [pT2, e2, if_pos v, c1] at e
      obtain ⟨d1, d2⟩ := pg_sm h hE (k2 + 1) k c2 e
      exact ⟨by omega, d2⟩
    · simp only [pT2, e2, if_neg v] at e
      cases e
      exact ⟨b1, b2⟩
  | inr k2 =>
    rw [pT2, e2] at e
    have e' : (Sum.inr k2 : Nat ⊕ Nat) = .inl k := e
    cases e'
theorem pg_ts {E : Nat → Nat ⊕ Nat} (h : Se tk sz) (hE : pg_ sz E) : pg_ sz (pTs tk sz E) := by
  intro j k hj e
  by_cases u : tk j = -16
  · obtain ⟨a1, a2⟩ := ad_up h hj (fun w => absurd (u.symm.trans w) (by decide))
    rw [pTs, if_pos u, a1] at e
    obtain ⟨d1, d2⟩ := pg_t2 h hE (j + 1) k a2 e
    exact ⟨by omega, d2⟩
  · rw [pTs, if_neg u] at e
    exact pg_t2 h hE j k hj e
theorem pg_ex (h : Se tk sz) : ∀ r, pg_ sz (pEx tk sz r) := by
  intro r
  induction r with
  | zero =>
    intro j k hj e
    have e' : (Sum.inr j : Nat ⊕ Nat) = .inl k := e
    cases e'
  | succ r ih =>
    intro j k hj e
    cases e2 : pTs tk sz (pEx tk sz r) j with
    | inl k2 =>
      rw [pEx, e2] at e
      obtain ⟨b1, b2⟩ := pg_ts h ih j k2 hj e2
      obtain ⟨c1, c2⟩ := pl_le h (by decide) (pg_ts h ih) 401 k2 k b2 e
      exact ⟨by omega, c2⟩
    | inr k2 =>
      rw [pEx, e2] at e
      have e' : (Sum.inr k2 : Nat ⊕ Nat) = .inl k := e
      cases e'
theorem pl_one {J : List Int32} {f : Nat → Nat ⊕ Nat} {m j k : Nat} (u : tk j ∈ J) (e : f (ad_ sz j) = .inl k) : pLp tk sz J f (m + 1) j = pLp tk sz J f m k := by
  simp only [pLp, if_pos u, e]
/-- one step of the loop, with the whole fuel -/
theorem pl_go {J : List Int32} {f : Nat → Nat ⊕ Nat} {j k : Nat} (h : Se tk sz) (hJ : -1 ∉ J) (hf : pg_ sz f) (hj : j < sz) (u : tk j ∈ J) (e : f (ad_ sz j) = .inl k) : pLp tk sz J f 401 j = pLp tk sz J f 401 k := by
  obtain ⟨a1, a2⟩ := ad_up h hj (fun w => hJ (w ▸ u))
  have hk := hf (ad_ sz j) k (by omega) e
  have h2 := h.2.1
  rw [show pLp tk sz J f 401 j = pLp tk sz J f 400 k from pl_one (m := 400) u e]
  exact pl_fuel h hJ hf 400 401 k hk.2 (by omega) (by omega)
theorem pl_bad {J : List Int32} {f : Nat → Nat ⊕ Nat} {m j k : Nat} (u : tk j ∈ J) (e : f (ad_ sz j) = .inr k) : pLp tk sz J f (m + 1) j = .inr k := by
  simp only [pLp, if_pos u, e]
theorem pl_out {J : List Int32} {f : Nat → Nat ⊕ Nat} {m j : Nat} (u : ¬ tk j ∈ J) : pLp tk sz J f (m + 1) j = .inl j := by
  simp only [pLp, if_neg u]
end PARSER
/-! VALUES: what the parser's pieces say -/
theorem jm_1 {c : Int32} {J : List Int32} (h : c ∈ J) (hJ : -1 ∉ J) : ¬ c = -1 := fun w => hJ (w ▸ h)
theorem nn_1 {c : Int32} (h : 0 ≤ c ∨ (c ≤ -20 ∧ -27 ≤ c)) : ¬ c = -1 := fun w => by
  rw [w] at h
  exact absurd h (by decide)
theorem nm_c {c : Int32} (h1 : c ≤ -20) (h2 : -27 ≤ c) : ∃ n : Nat, n < 8 ∧ -20 - c = nI n ∧ c = -20 - nI n := by
  have h3 : (0 : Int32) ≤ -20 - c := by grind
  have h4 : -20 - c < (8 : Int32) := by grind
  obtain ⟨n, hn, e⟩ := nI_of (Int32.not_lt.mpr h3)
  rw [e] at h4
  refine ⟨n, (nI_ltI (b := 8) hn (by omega)).mp h4, e, ?_⟩
  rw [← e]
  grind
section VALUES
variable (tk : Nat → Int32) (sz : Nat)
def vPt (E : Nat → zVal) (j : Nat) : zVal := if tk j = -4 then E (ad_ sz j) else if 0 ≤ tk j then (fun _ => tk j) else fun kn => kn (-20 - tk j).toNatClampNeg
def vLp (J : List Int32) (f : Nat → Nat ⊕ Nat) (v : Nat → zVal) : Nat → Nat → zVal → zVal
  | 0, _, a => a
  | m + 1, j, a => if tk j ∈ J then (match f (ad_ sz j) with
    | .inl k => vLp J f v m k (zJn (tk j) a (v (ad_ sz j)))
    | .inr _ => a) else a
def vSm (E : Nat → Nat ⊕ Nat) (vE : Nat → zVal) (j : Nat) : zVal := match pPt tk sz E j with
  | .inl k => vLp tk sz [-7, -8, -9] (pPt tk sz E) (vPt tk sz vE) 401 k (vPt tk sz vE j)
  | .inr _ => vPt tk sz vE j
def vT2 (E : Nat → Nat ⊕ Nat) (vE : Nat → zVal) (j : Nat) : zVal := match pSm tk sz E j with
  | .inl k => if tk k = -10 ∨ tk k = -11 then zJn (tk k) (vSm tk sz E vE j) (vSm tk sz E vE (ad_ sz k)) else vSm tk sz E vE j
  | .inr _ => vSm tk sz E vE j
def vTs (E : Nat → Nat ⊕ Nat) (vE : Nat → zVal) (j : Nat) : zVal := if tk j = -16 then zNo (vT2 tk sz E vE (ad_ sz j)) else vT2 tk sz E vE j
def vE1 (E : Nat → Nat ⊕ Nat) (vE : Nat → zVal) (j : Nat) : zVal := match pTs tk sz E j with
  | .inl k => vLp tk sz [-14, -15] (pTs tk sz E) (vTs tk sz E vE) 401 k (vTs tk sz E vE j)
  | .inr _ => vTs tk sz E vE j
def vEx : Nat → Nat → zVal
  | 0, _ => fun _ => 0
  | r + 1, j => vE1 tk sz (pEx tk sz r) (vEx r) j
def vLw (kn : Nat → Int32) : Nat → Nat → Nat → Int32 × Int32 → Int32 × Int32
  | 0, _, _, s => s
  | m + 1, n, j, s => if tk j = -1 then s else (match pRl tk sz n j with
    | .inl k => vLw kn m (n + 1) k (zrs (tk j) (vEx tk sz 6 (ad_ sz j) kn) s)
    | .inr _ => s)
variable {tk : Nat → Int32} {sz : Nat}
theorem vl_on {J : List Int32} {f : Nat → Nat ⊕ Nat} {v : Nat → zVal} {m j k : Nat} {a : zVal} (u : tk j ∈ J) (e : f (ad_ sz j) = .inl k) : vLp tk sz J f v (m + 1) j a = vLp tk sz J f v m k (zJn (tk j) a (v (ad_ sz j))) := by
  simp only [vLp, if_pos u, e]
theorem vl_out {J : List Int32} {f : Nat → Nat ⊕ Nat} {v : Nat → zVal} {m j : Nat} {a : zVal} (u : ¬ tk j ∈ J) : vLp tk sz J f v (m + 1) j a = a := by
  simp only [vLp, if_neg u]
theorem vl_fuel {J : List Int32} {f : Nat → Nat ⊕ Nat} {v : Nat → zVal} (h : Se tk sz) (hJ : -1 ∉ J) (hf : pg_ sz f) : ∀ m m' j a, j < sz → sz ≤ j + m → sz ≤ j + m' → vLp tk sz J f v m j a = vLp tk sz J f v m' j a := by
  intro m
  induction m with
  | zero => intro m' j a hj b; omega
  | succ m ih =>
    intro m' j a hj b c
    cases m' with
    | zero => omega
    | succ m' =>
      by_cases u : tk j ∈ J
      · obtain ⟨a1, a2⟩ := ad_up h hj (fun w => hJ (w ▸ u))
        rw [vLp, vLp, if_pos u, if_pos u, a1]
        cases e2 : f (j + 1) with
        | inl k2 =>
          obtain ⟨b1, b2⟩ := hf (j + 1) k2 a2 e2
          exact ih m' k2 _ b2 (by omega) (by omega)
        | inr k2 => rfl
      · rw [vLp, vLp, if_neg u, if_neg u]
theorem vl_go {J : List Int32} {f : Nat → Nat ⊕ Nat} {v : Nat → zVal} {j k : Nat} {a : zVal} (h : Se tk sz) (hJ : -1 ∉ J) (hf : pg_ sz f) (hj : j < sz) (u : tk j ∈ J) (e : f (ad_ sz j) = .inl k) : vLp tk sz J f v 401 j a = vLp tk sz J f v 401 k (zJn (tk j) a (v (ad_ sz j))) := by
  obtain ⟨a1, a2⟩ := ad_up h hj (fun w => hJ (w ▸ u))
  have hk := hf (ad_ sz j) k (by omega) e
  have h2 := h.2.1
  rw [show vLp tk sz J f v 401 j a = vLp tk sz J f v 400 k (zJn (tk j) a (v (ad_ sz j))) from vl_on (m := 400) u e]
  exact vl_fuel h hJ hf 400 401 k _ hk.2 (by omega) (by omega)
theorem zsC_pt {co : Nat → Int32} {i h j : Nat} {E : Nat → zVal} (hh : 1 ≤ h) (e : co i = tk j) (h4 : ¬ tk j = -4) (hv : 0 ≤ tk j ∨ (tk j ≤ -20 ∧ -27 ≤ tk j)) : zsC co i (i + 1) h (vPt tk sz E j) := by
  by_cases u : 0 ≤ tk j
  · refine zsC_v (zsC_num hh e u) ?_
    unfold vPt
    rw [if_neg h4, if_pos u]
  · obtain ⟨w1, w2⟩ := hv.resolve_left u
    obtain ⟨n, hn, en, -⟩ := nm_c w1 w2
    refine zsC_v (zsC_nam hh e u hn en) ?_
    unfold vPt
    rw [if_neg h4, if_neg u, en, nI_clamp (by omega)]
end VALUES
/-! the class's reader against the parser -/
def Cs (tk : Nat → Int32) (sz j : Nat) (sc : Nat → Int32) (ar : Nat → Nat → Int32) : Prop := j < sz ∧ sc 2602 = nI sz ∧ sc 2404 = nI j ∧ sc 2405 = tk j ∧ ∀ i, i < sz → ar 27 i = tk i
theorem cs_fr {tk : Nat → Int32} {sz j : Nat} {L A : List Nat} {sc sc' : Nat → Int32} {ar ar' : Nat → Nat → Int32} (h : Cs tk sz j sc ar) (f : Fr L A sc ar sc' ar') (hL : 2602 ∉ L ∧ 2404 ∉ L ∧ 2405 ∉ L) (hA : 27 ∉ A) : Cs tk sz j sc' ar' := by
  obtain ⟨h1, h2, h3, h4, h5⟩ := h
  exact ⟨h1, (f.1 _ hL.1).trans h2, (f.1 _ hL.2.1).trans h3, (f.1 _ hL.2.2).trans h4, fun i hi => (congrFun (f.2 27 hA) i).trans (h5 i hi)⟩
theorem cs_ad {tk : Nat → Int32} {sz j : Nat} {L : List Nat} {sc sc' : Nat → Int32} {ar ar' : Nat → Nat → Int32} (h : Cs tk sz j sc ar) (f : Fr L [] sc ar sc' ar') (hL : 2602 ∉ L) (w : sc' 2404 = nI (ad_ sz j) ∧ ((j + 1 < sz ∧ sc' 2405 = ar 27 (j + 1)) ∨ (¬ j + 1 < sz ∧ sc' 2405 = sc 2405))) : Cs tk sz (ad_ sz j) sc' ar' := by
  obtain ⟨h1, h2, h3, h4, h5⟩ := h
  have h5' : ∀ i, i < sz → ar' 27 i = tk i := fun i hi => (congrFun (f.2 27 List.not_mem_nil) i).trans (h5 i hi)
  rcases w with ⟨w1, ⟨u, w2⟩ | ⟨u, w2⟩⟩
  · have e : ad_ sz j = j + 1 := if_pos u
    rw [e] at w1 ⊢
    exact ⟨u, (f.1 _ hL).trans h2, w1, w2.trans (h5 _ u), h5'⟩
  · have e : ad_ sz j = j := if_neg u
    rw [e] at w1 ⊢
    exact ⟨h1, (f.1 _ hL).trans h2, w1, w2.trans h4, h5'⟩
def CrOk (X : Nat × (Nat → Int32)) (S a b : Nat) (lo : Nat → Int64) (ex : Bool) (tk : Nat → Int32) (sz D q w h : Nat) (F : Nat → Nat ⊕ Nat) (V : Nat → zVal) : Prop := ∀ (sc : Nat → Int32) (ar : Nat → Nat → Int32) (j c e : Nat), Iv S sc ar → Cs tk sz j sc ar → sc 2401 = nI c → c + e ≤ j → ci X S a b D q [.ref 24, .int (nI w)] sc ar lo ex (fun x sc' ar' => Iv S sc' ar' ∧ Fr [2401, 2402, 2404, 2405] [25] sc ar sc' ar' ∧ rl x 2 ∧ (∃ k, Cs tk sz k sc' ar' ∧ ((F j = .inl k ∧ x = 1 ∧ ∃ c' : Nat, sc' 2401 = nI c' ∧ c' + e ≤ k ∧ (∀ y, y < c → ar' 25 y = ar 25 y) ∧ zsC (ar' 25) c c' h (V j)) ∨ (F j = .inr k ∧ x = 0))))
def pE1 (tk : Nat → Int32) (sz : Nat) (E : Nat → Nat ⊕ Nat) (j : Nat) : Nat ⊕ Nat := match pTs tk sz E j with
  | .inl k => pLp tk sz [-14, -15] (pTs tk sz E) 401 k
  | .inr k => .inr k
theorem pl_on {tk : Nat → Int32} {sz : Nat} {J : List Int32} {f : Nat → Nat ⊕ Nat} {m j k : Nat} (u : tk j ∈ J) (e : f (ad_ sz j) = .inl k) : pLp tk sz J f (m + 1) j = pLp tk sz J f m k := by
  simp only [pLp, if_pos u, e]
theorem pl_gt {tk : Nat → Int32} {sz j k : Nat} {J : List Int32} {f : Nat → Nat ⊕ Nat} (h : Se tk sz) (hf : pg_ sz f) (hj : j < sz) (u : tk j ∈ J) (hJ : -1 ∉ J) (e : f (ad_ sz j) = .inl k) : j + 2 ≤ k := by
  obtain ⟨a1, a2⟩ := ad_up h hj (fun w => hJ (w ▸ u))
  have := hf (ad_ sz j) k (by omega) e
  omega
theorem x_1 {x : Int32} (h : x = 1) : x = nI 1 := h
theorem x_0 {x : Int32} (h : x = 0) : x = nI 0 := h
set_option maxRecDepth 20000 in
theorem sf_X5_advance {X : Nat × (Nat → Int32)} {S a b : Nat} {sc : Nat → Int32} {ar : Nat → Nat → Int32} {lo : Nat → Int64} {ex : Bool} (hW : Wd S a b) (hI : Iv S sc ar) (j sz : Nat) (hj : j < sz ∧ sz ≤ 401) (ej : sc 2404 = nI j) (ez : sc 2602 = nI sz) (d : Nat)  : cv X S a b (d + 1) 53 [.ref 24] sc ar lo ex (fun sc' ar' => Iv S sc' ar' ∧ Fr [2404, 2405] [] sc ar sc' ar' ∧ (sc' 2404 = nI (ad_ sz j) ∧ ((j + 1 < sz ∧ sc' 2405 = ar 27 (j + 1)) ∨ (¬ j + 1 < sz ∧ sc' 2405 = sc 2405)))) := by
  obtain ⟨ha1, ha8, hb1, hb8, hab, hS1, hS⟩ := id hW
  refine cv_of (M := an_X5_advance) rfl (Nat.le_of_ble_eq_true rfl) ?_
  have hF : Fr [2404, 2405] [] sc ar sc ar := fr_0
  refine to_eq (fr' := (0, [(0, .ref 24)], [], gh S a b sc ar lo, ex, 0, 0)) rfl ?_
  refine to_n 1 (fr' := (1, [(0, .ref 24)], [.ref 24], gh S a b sc ar lo, ex, 0, 0)) rfl ?_
  refine to_getR (v := (nI j)) rfl rfl rfl rfl ej ?_
  refine to_n 1 (fr' := (5, [(0, .ref 24)], [.int 1, .int (nI j)], gh S a b sc ar lo, ex, 0, 0)) rfl ?_
  refine to_addN (x := j) (y := 1) rfl ?_
  refine to_n 1 (fr' := (7, [(0, .ref 24)], [.ref 24, .int (nI (j + 1))], gh S a b sc ar lo, ex, 0, 0)) rfl ?_
  refine to_get rfl rfl rfl rfl ?_
  refine to_getR (v := (nI sz)) rfl rfl rfl rfl ez ?_
  refine to_nc_ge (t := 42) (x := (j + 1)) (y := sz) rfl (by omega) (by omega) (fun q1 => ?_) (fun q1 => ?_)
  · exact to_rt (i := .return_) (tg := []) rfl rfl ⟨_, _, ⟨hI, hF, ⟨by rw [show ad_ sz j = j from if_neg (by omega)]; exact ej, Or.inr ⟨by omega, rfl⟩⟩⟩, rfl⟩
  · refine to_n 2 (fr' := (18, [(0, .ref 24)], [.ref 24, .ref 24], gh S a b sc ar lo, ex, 0, 0)) rfl ?_
    refine to_getR (v := (nI j)) rfl rfl rfl rfl ej ?_
    refine to_n 1 (fr' := (22, [(0, .ref 24)], [.int 1, .int (nI j), .ref 24], gh S a b sc ar lo, ex, 0, 0)) rfl ?_
    refine to_addN (x := j) (y := 1) rfl ?_
    refine to_putR (h' := gh S a b (upd sc 2404 (nI (j + 1))) ar lo) rfl rfl rfl (Nat.le_of_ble_eq_true rfl) rfl rfl ?_
    have hI2 := ip_2404 (v := (nI (j + 1))) hI (rl_n (n := (j + 1)) (by omega))
    have hF2 := fr_s (k := 2404) (v := (nI (j + 1))) hF (by decide)
    refine to_n 2 (fr' := (28, [(0, .ref 24)], [.ref 24, .ref 24], gh S a b (upd sc 2404 (nI (j + 1))) ar lo, ex, 0, 0)) rfl ?_
    refine to_get rfl rfl rfl rfl ?_
    refine to_get rfl rfl rfl rfl ?_
    refine to_n 1 (fr' := (35, [(0, .ref 24)], [.ref 24, .ref 27, .ref 24], gh S a b (upd sc 2404 (nI (j + 1))) ar lo, ex, 0, 0)) rfl ?_
    refine to_getR (v := (nI (j + 1))) rfl rfl rfl rfl rfl ?_
    refine to_ialR (i := (j + 1)) (v := ((ar 27) (j + 1))) rfl (by decide) rfl (by omega) (by omega) rfl ?_
    refine to_putR (h' := gh S a b (upd (upd sc 2404 (nI (j + 1))) 2405 ((ar 27) (j + 1))) ar lo) rfl rfl rfl (Nat.le_of_ble_eq_true rfl) rfl rfl ?_
    have hI3 := ip_2405 (v := ((ar 27) (j + 1))) hI2 
    have hF3 := fr_s (k := 2405) (v := ((ar 27) (j + 1))) hF2 (by decide)
    exact to_rt (i := .return_) (tg := []) rfl rfl ⟨_, _, ⟨hI3, hF3, ⟨by rw [show ad_ sz j = j + 1 from if_pos (by omega)]; rfl, Or.inl ⟨by omega, rfl⟩⟩⟩, rfl⟩
set_option maxRecDepth 20000 in
theorem sf_X5_emit {X : Nat × (Nat → Int32)} {S a b : Nat} {sc : Nat → Int32} {ar : Nat → Nat → Int32} {lo : Nat → Int64} {ex : Bool} (hW : Wd S a b) (hI : Iv S sc ar) (x1 : Int32) (c : Nat) (hc : c < 400) (ec : sc 2401 = nI c) (d : Nat)  : cv X S a b (d + 1) 52 [.ref 24, .int x1] sc ar lo ex (fun sc' ar' => Iv S sc' ar' ∧ Fr [2401] [25] sc ar sc' ar' ∧ (sc' 2401 = nI (c + 1) ∧ ar' 25 = upd (ar 25) c x1)) := by
  obtain ⟨ha1, ha8, hb1, hb8, hab, hS1, hS⟩ := id hW
  refine cv_of (M := an_X5_emit) rfl (Nat.le_of_ble_eq_true rfl) ?_
  have hF : Fr [2401] [25] sc ar sc ar := fr_0
  refine to_eq (fr' := (0, [(0, .ref 24), (1, .int x1)], [], gh S a b sc ar lo, ex, 0, 0)) rfl ?_
  refine to_n 1 (fr' := (1, [(0, .ref 24), (1, .int x1)], [.ref 24], gh S a b sc ar lo, ex, 0, 0)) rfl ?_
  refine to_getR (v := (nI c)) rfl rfl rfl rfl ec ?_
  refine to_n 1 (fr' := (5, [(0, .ref 24), (1, .int x1)], [.ref 24, .int (nI c)], gh S a b sc ar lo, ex, 0, 0)) rfl ?_
  refine to_get rfl rfl rfl rfl ?_
  refine to_len rfl (by decide) rfl (by decide) ?_
  refine to_eq (fr' := (9, [(0, .ref 24), (1, .int x1)], [.int (nI 400), .int (nI c)], gh S a b sc ar lo, ex, 0, 0)) rfl ?_
  refine to_nc_ge_F (t := 32) (x := c) (y := 400) rfl (by omega) (by omega) (by omega) ?_
  refine to_n 1 (fr' := (13, [(0, .ref 24), (1, .int x1)], [.ref 24], gh S a b sc ar lo, ex, 0, 0)) rfl ?_
  refine to_get rfl rfl rfl rfl ?_
  refine to_n 1 (fr' := (17, [(0, .ref 24), (1, .int x1)], [.ref 24, .ref 25], gh S a b sc ar lo, ex, 0, 0)) rfl ?_
  refine to_getR (v := (nI c)) rfl rfl rfl rfl ec ?_
  refine to_n 1 (fr' := (21, [(0, .ref 24), (1, .int x1)], [.int x1, .int (nI c), .ref 25], gh S a b sc ar lo, ex, 0, 0)) rfl ?_
  refine to_iasR (i := c) (h' := gh S a b sc (uA ar 25 (upd (ar 25) c x1)) lo) rfl rfl (by omega) (by omega) rfl ?_
  have hI1 := ia_25 (g := (upd (ar 25) c x1)) hI
  have hF1 := fr_a (c := 25) (g := (upd (ar 25) c x1)) hF (by decide)
  refine to_n 2 (fr' := (24, [(0, .ref 24), (1, .int x1)], [.ref 24, .ref 24], gh S a b sc (uA ar 25 (upd (ar 25) c x1)) lo, ex, 0, 0)) rfl ?_
  refine to_getR (v := (nI c)) rfl rfl rfl rfl ec ?_
  refine to_n 1 (fr' := (28, [(0, .ref 24), (1, .int x1)], [.int 1, .int (nI c), .ref 24], gh S a b sc (uA ar 25 (upd (ar 25) c x1)) lo, ex, 0, 0)) rfl ?_
  refine to_addN (x := c) (y := 1) rfl ?_
  refine to_putR (h' := gh S a b (upd sc 2401 (nI (c + 1))) (uA ar 25 (upd (ar 25) c x1)) lo) rfl rfl rfl (Nat.le_of_ble_eq_true rfl) rfl rfl ?_
  have hI2 := ip_2401 (v := (nI (c + 1))) hI1 (rl_n (n := (c + 1)) (by omega))
  have hF2 := fr_s (k := 2401) (v := (nI (c + 1))) hF1 (by decide)
  exact to_rt (i := .return_) (tg := []) rfl rfl ⟨_, _, ⟨hI2, hF2, ⟨rfl, rfl⟩⟩, rfl⟩
set_option maxRecDepth 20000 in
theorem sf_X5_fail {X : Nat × (Nat → Int32)} {S a b : Nat} {sc : Nat → Int32} {ar : Nat → Nat → Int32} {lo : Nat → Int64} {ex : Bool} (hW : Wd S a b) (hI : Iv S sc ar) (x1 : Int32) (d : Nat)  : ci X S a b (d + 1) 51 [.ref 24, .int x1] sc ar lo ex (fun x sc' ar' => Iv S sc' ar' ∧ Fr [2402] [] sc ar sc' ar' ∧ x = 0) := by
  obtain ⟨ha1, ha8, hb1, hb8, hab, hS1, hS⟩ := id hW
  refine ci_of (M := an_X5_fail) rfl (Nat.le_of_ble_eq_true rfl) ?_
  have hF : Fr [2402] [] sc ar sc ar := fr_0
  refine to_eq (fr' := (0, [(0, .ref 24), (1, .int x1)], [], gh S a b sc ar lo, ex, 0, 0)) rfl ?_
  refine to_n 2 (fr' := (2, [(0, .ref 24), (1, .int x1)], [.int x1, .ref 24], gh S a b sc ar lo, ex, 0, 0)) rfl ?_
  refine to_putR (h' := gh S a b (upd sc 2402 x1) ar lo) rfl rfl rfl (Nat.le_of_ble_eq_true rfl) rfl rfl ?_
  have hI1 := ip_2402 (v := x1) hI 
  have hF1 := fr_s (k := 2402) (v := x1) hF (by decide)
  refine to_n 1 (fr' := (6, [(0, .ref 24), (1, .int x1)], [.int 0], gh S a b (upd sc 2402 x1) ar lo, ex, 0, 0)) rfl ?_
  exact to_rt (i := .ireturn) (tg := []) rfl rfl ⟨_, _, _, ⟨hI1, hF1, rfl⟩, rfl⟩
set_option maxRecDepth 20000 in
theorem sf_X5_isNumberOrName {X : Nat × (Nat → Int32)} {S a b : Nat} {sc : Nat → Int32} {ar : Nat → Nat → Int32} {lo : Nat → Int64} {ex : Bool} (hW : Wd S a b) (hI : Iv S sc ar)  (d : Nat)  : cp X S a b (d + 1) 48 [.ref 24] sc ar lo ex (fun x => rl x 2 ∧ ((x = 1 ∧ (0 ≤ sc 2405 ∨ (sc 2405 ≤ -20 ∧ -27 ≤ sc 2405))) ∨ (x = 0 ∧ ¬ (0 ≤ sc 2405 ∨ (sc 2405 ≤ -20 ∧ -27 ≤ sc 2405))))) := by
  obtain ⟨ha1, ha8, hb1, hb8, hab, hS1, hS⟩ := id hW
  refine cp_of (M := an_X5_isNumberOrName) rfl (Nat.le_of_ble_eq_true rfl) ?_
  refine to_eq (fr' := (0, [(0, .ref 24)], [], gh S a b sc ar lo, ex, 0, 0)) rfl ?_
  refine to_n 1 (fr' := (1, [(0, .ref 24)], [.ref 24], gh S a b sc ar lo, ex, 0, 0)) rfl ?_
  refine to_getR (v := (sc 2405)) rfl rfl rfl rfl rfl ?_
  refine to_if_ge (t := 25) rfl (fun q1 => ?_) (fun q1 => ?_)
  · refine to_n 2 (fr' := (30, [(0, .ref 24)], [.int 1], gh S a b sc ar lo, ex, 0, 0)) rfl ?_
    exact to_rt (i := .ireturn) (tg := []) rfl rfl ⟨_, ⟨rl_n (n := 1) (by omega), (Or.inl ⟨rfl, Or.inl q1⟩)⟩, rfl⟩
  · refine to_n 1 (fr' := (8, [(0, .ref 24)], [.ref 24], gh S a b sc ar lo, ex, 0, 0)) rfl ?_
    refine to_getR (v := (sc 2405)) rfl rfl rfl rfl rfl ?_
    refine to_n 1 (fr' := (13, [(0, .ref 24)], [.int (-20), .int (sc 2405)], gh S a b sc ar lo, ex, 0, 0)) rfl ?_
    refine to_ic_gt (t := 29) rfl (fun q2 => ?_) (fun q2 => ?_)
    · refine to_n 1 (fr' := (30, [(0, .ref 24)], [.int 0], gh S a b sc ar lo, ex, 0, 0)) rfl ?_
      exact to_rt (i := .ireturn) (tg := []) rfl rfl ⟨_, ⟨rl_n (n := 0) (by omega), (Or.inr ⟨rfl, fun w => w.elim q1 (fun u => Int32.not_lt.mpr u.1 q2)⟩)⟩, rfl⟩
    · refine to_n 1 (fr' := (17, [(0, .ref 24)], [.ref 24], gh S a b sc ar lo, ex, 0, 0)) rfl ?_
      refine to_getR (v := (sc 2405)) rfl rfl rfl rfl rfl ?_
      refine to_n 1 (fr' := (22, [(0, .ref 24)], [.int (-27), .int (sc 2405)], gh S a b sc ar lo, ex, 0, 0)) rfl ?_
      refine to_ic_lt (t := 29) rfl (fun q3 => ?_) (fun q3 => ?_)
      · refine to_n 1 (fr' := (30, [(0, .ref 24)], [.int 0], gh S a b sc ar lo, ex, 0, 0)) rfl ?_
        exact to_rt (i := .ireturn) (tg := []) rfl rfl ⟨_, ⟨rl_n (n := 0) (by omega), (Or.inr ⟨rfl, fun w => w.elim q1 (fun u => Int32.not_lt.mpr u.2 q3)⟩)⟩, rfl⟩
      · refine to_n 2 (fr' := (30, [(0, .ref 24)], [.int 1], gh S a b sc ar lo, ex, 0, 0)) rfl ?_
        exact to_rt (i := .ireturn) (tg := []) rfl rfl ⟨_, ⟨rl_n (n := 1) (by omega), (Or.inl ⟨rfl, Or.inr ⟨Int32.not_lt.mp q2, Int32.not_lt.mp q3⟩⟩)⟩, rfl⟩
set_option maxRecDepth 20000 in
theorem sf_X5_beginsPart {X : Nat × (Nat → Int32)} {S a b : Nat} {sc : Nat → Int32} {ar : Nat → Nat → Int32} {lo : Nat → Int64} {ex : Bool} (hW : Wd S a b) (hI : Iv S sc ar)  (d : Nat)  : cp X S a b (d + 2) 49 [.ref 24] sc ar lo ex (fun x => rl x 2) := by
  obtain ⟨ha1, ha8, hb1, hb8, hab, hS1, hS⟩ := id hW
  refine cp_of (M := an_X5_beginsPart) rfl (Nat.le_of_ble_eq_true rfl) ?_
  refine to_eq (fr' := (0, [(0, .ref 24)], [], gh S a b sc ar lo, ex, 0, 0)) rfl ?_
  refine to_n 1 (fr' := (1, [(0, .ref 24)], [.ref 24], gh S a b sc ar lo, ex, 0, 0)) rfl ?_
  refine to_getR (v := (sc 2405)) rfl rfl rfl rfl rfl ?_
  refine to_n 1 (fr' := (6, [(0, .ref 24)], [.int (-4), .int (sc 2405)], gh S a b sc ar lo, ex, 0, 0)) rfl ?_
  refine to_ic_eq (t := 25) rfl (fun q1 => ?_) (fun q1 => ?_)
  · refine to_n 2 (fr' := (30, [(0, .ref 24)], [.int 1], gh S a b sc ar lo, ex, 0, 0)) rfl ?_
    exact to_rt (i := .ireturn) (tg := []) rfl rfl ⟨_, rl_n (n := 1) (by omega), rfl⟩
  · refine to_n 1 (fr' := (10, [(0, .ref 24)], [.ref 24], gh S a b sc ar lo, ex, 0, 0)) rfl ?_
    refine to_getR (v := (sc 2405)) rfl rfl rfl rfl rfl ?_
    refine to_n 1 (fr' := (15, [(0, .ref 24)], [.int (-3), .int (sc 2405)], gh S a b sc ar lo, ex, 0, 0)) rfl ?_
    refine to_ic_eq (t := 25) rfl (fun q2 => ?_) (fun q2 => ?_)
    · refine to_n 2 (fr' := (30, [(0, .ref 24)], [.int 1], gh S a b sc ar lo, ex, 0, 0)) rfl ?_
      exact to_rt (i := .ireturn) (tg := []) rfl rfl ⟨_, rl_n (n := 1) (by omega), rfl⟩
    · refine to_n 1 (fr' := (19, [(0, .ref 24)], [.ref 24], gh S a b sc ar lo, ex, 0, 0)) rfl ?_
      refine to_cp (q := 48) (M1 := an_X5_isNumberOrName) (rest := []) rfl rfl (by decide) rfl ⟨_, rfl⟩ (sf_X5_isNumberOrName hW hI  d) (fun x3 hx3 => ?_)
      obtain ⟨hx3, hp3⟩ := hx3
      obtain ⟨n3, hn3, rfl⟩ := hx3
      refine to_eq (fr' := (22, [(0, .ref 24)], [.int (nI n3)], gh S a b sc ar lo, ex, 0, 0)) rfl ?_
      refine to_nf_eq (t := 29) (x := n3) rfl (by omega) (fun q4 => ?_) (fun q4 => ?_)
      · refine to_n 1 (fr' := (30, [(0, .ref 24)], [.int 0], gh S a b sc ar lo, ex, 0, 0)) rfl ?_
        exact to_rt (i := .ireturn) (tg := []) rfl rfl ⟨_, rl_n (n := 0) (by omega), rfl⟩
      · refine to_n 2 (fr' := (30, [(0, .ref 24)], [.int 1], gh S a b sc ar lo, ex, 0, 0)) rfl ?_
        exact to_rt (i := .ireturn) (tg := []) rfl rfl ⟨_, rl_n (n := 1) (by omega), rfl⟩
set_option maxRecDepth 20000 in
theorem sf_X5_faultOfPart {X : Nat × (Nat → Int32)} {S a b : Nat} {sc : Nat → Int32} {ar : Nat → Nat → Int32} {lo : Nat → Int64} {ex : Bool} (hW : Wd S a b) (hI : Iv S sc ar)  (d : Nat)  : cp X S a b (d + 1) 50 [.ref 24] sc ar lo ex (fun x => True) := by
  obtain ⟨ha1, ha8, hb1, hb8, hab, hS1, hS⟩ := id hW
  refine cp_of (M := an_X5_faultOfPart) rfl (Nat.le_of_ble_eq_true rfl) ?_
  refine to_eq (fr' := (0, [(0, .ref 24)], [], gh S a b sc ar lo, ex, 0, 0)) rfl ?_
  refine to_n 1 (fr' := (1, [(0, .ref 24)], [.ref 24], gh S a b sc ar lo, ex, 0, 0)) rfl ?_
  refine to_getR (v := (sc 2405)) rfl rfl rfl rfl rfl ?_
  refine to_n 1 (fr' := (6, [(0, .ref 24)], [.int (-3), .int (sc 2405)], gh S a b sc ar lo, ex, 0, 0)) rfl ?_
  refine to_ic_ne (t := 11) rfl (fun q1 => ?_) (fun q1 => ?_)
  · refine to_n 1 (fr' := (12, [(0, .ref 24)], [.ref 24], gh S a b sc ar lo, ex, 0, 0)) rfl ?_
    refine to_getR (v := (sc 2405)) rfl rfl rfl rfl rfl ?_
    refine to_n 1 (fr' := (17, [(0, .ref 24)], [.int (-12), .int (sc 2405)], gh S a b sc ar lo, ex, 0, 0)) rfl ?_
    refine to_ic_gt (t := 33) rfl (fun q2 => ?_) (fun q2 => ?_)
    · refine to_n 1 (fr' := (34, [(0, .ref 24)], [.int 1], gh S a b sc ar lo, ex, 0, 0)) rfl ?_
      exact to_rt (i := .ireturn) (tg := []) rfl rfl ⟨_, trivial, rfl⟩
    · refine to_n 1 (fr' := (21, [(0, .ref 24)], [.ref 24], gh S a b sc ar lo, ex, 0, 0)) rfl ?_
      refine to_getR (v := (sc 2405)) rfl rfl rfl rfl rfl ?_
      refine to_n 1 (fr' := (26, [(0, .ref 24)], [.int (-17), .int (sc 2405)], gh S a b sc ar lo, ex, 0, 0)) rfl ?_
      refine to_ic_lt (t := 33) rfl (fun q3 => ?_) (fun q3 => ?_)
      · refine to_n 1 (fr' := (34, [(0, .ref 24)], [.int 1], gh S a b sc ar lo, ex, 0, 0)) rfl ?_
        exact to_rt (i := .ireturn) (tg := []) rfl rfl ⟨_, trivial, rfl⟩
      · refine to_n 2 (fr' := (34, [(0, .ref 24)], [.int 3], gh S a b sc ar lo, ex, 0, 0)) rfl ?_
        exact to_rt (i := .ireturn) (tg := []) rfl rfl ⟨_, trivial, rfl⟩
  · refine to_n 1 (fr' := (10, [(0, .ref 24)], [.int 2], gh S a b sc ar lo, ex, 0, 0)) rfl ?_
    exact to_rt (i := .ireturn) (tg := []) rfl rfl ⟨_, trivial, rfl⟩
set_option maxRecDepth 20000 in
theorem sf_X5_place {X : Nat × (Nat → Int32)} {S a b : Nat} {sc : Nat → Int32} {ar : Nat → Nat → Int32} {lo : Nat → Int64} {ex : Bool} (hW : Wd S a b) (hI : Iv S sc ar) (j : Nat) (hj : j < 401) (ej : sc 2404 = nI j) (d : Nat)  : cp X S a b (d + 1) 42 [.ref 24] sc ar lo ex (fun x => x = ar 28 j) := by
  obtain ⟨ha1, ha8, hb1, hb8, hab, hS1, hS⟩ := id hW
  refine cp_of (M := an_X5_place) rfl (Nat.le_of_ble_eq_true rfl) ?_
  refine to_eq (fr' := (0, [(0, .ref 24)], [], gh S a b sc ar lo, ex, 0, 0)) rfl ?_
  refine to_n 1 (fr' := (1, [(0, .ref 24)], [.ref 24], gh S a b sc ar lo, ex, 0, 0)) rfl ?_
  refine to_get rfl rfl rfl rfl ?_
  refine to_get rfl rfl rfl rfl ?_
  refine to_n 1 (fr' := (8, [(0, .ref 24)], [.ref 24, .ref 28], gh S a b sc ar lo, ex, 0, 0)) rfl ?_
  refine to_getR (v := (nI j)) rfl rfl rfl rfl ej ?_
  refine to_ialR (i := j) (v := ((ar 28) j)) rfl (by decide) rfl (by omega) (by omega) rfl ?_
  exact to_rt (i := .ireturn) (tg := []) rfl rfl ⟨_, rfl, rfl⟩
set_option maxRecDepth 20000 in
theorem cr_readPart {X : Nat × (Nat → Int32)} {S a b : Nat} {lo : Nat → Int64} {ex : Bool} {tk : Nat → Int32} {sz : Nat} (hW : Wd S a b) (hse : Se tk sz) (w : Nat) (hw : w < 13) (h : Nat) (hh : 1 ≤ h) (E : Nat → Nat ⊕ Nat) (vE : Nat → zVal) (d : Nat) (hE : CrOk X S a b lo ex tk sz (d + 3) 44 (w + 1) h E vE) : CrOk X S a b lo ex tk sz (d + 4) 47 w h (pPt tk sz E) (vPt tk sz vE) := by
  obtain ⟨ha1, ha8, hb1, hb8, hab, hS1, hS⟩ := id hW
  have hsz := hse.2.1
  intro sc ar j c e hI hc ec hce
  have hj := hc.1
  refine ci_of (M := an_X5_readPart) rfl (Nat.le_of_ble_eq_true rfl) ?_
  have hF : Fr [2401, 2402, 2404, 2405] [25] sc ar sc ar := fr_0
  refine to_eq (fr' := (0, [(0, .ref 24), (1, .int (nI w))], [], gh S a b sc ar lo, ex, 0, 0)) rfl ?_
  refine to_n 1 (fr' := (1, [(0, .ref 24), (1, .int (nI w))], [.ref 24], gh S a b sc ar lo, ex, 0, 0)) rfl ?_
  refine to_getR (v := (tk j)) rfl rfl rfl rfl hc.2.2.2.1 ?_
  refine to_n 1 (fr' := (6, [(0, .ref 24), (1, .int (nI w))], [.int (-4), .int (tk j)], gh S a b sc ar lo, ex, 0, 0)) rfl ?_
  refine to_ic_ne (t := 40) rfl (fun q1 => ?_) (fun q1 => ?_)
  · refine to_n 1 (fr' := (41, [(0, .ref 24), (1, .int (nI w))], [.ref 24], gh S a b sc ar lo, ex, 0, 0)) rfl ?_
    refine to_cp (q := 48) (M1 := an_X5_isNumberOrName) (rest := []) rfl rfl (by decide) rfl ⟨_, rfl⟩ (sf_X5_isNumberOrName hW hI (d + 2)) (fun x2 hx2 => ?_)
    obtain ⟨⟨n2, hn2, rfl⟩, hp2⟩ := hx2
    rw [hc.2.2.2.1] at hp2
    refine to_eq (fr' := (44, [(0, .ref 24), (1, .int (nI w))], [.int (nI n2)], gh S a b sc ar lo, ex, 0, 0)) rfl ?_
    refine to_nf_eq (t := 58) (x := n2) rfl (by omega) (fun q3 => ?_) (fun q3 => ?_)
    · refine to_n 2 (fr' := (60, [(0, .ref 24), (1, .int (nI w))], [.ref 24, .ref 24], gh S a b sc ar lo, ex, 0, 0)) rfl ?_
      refine to_cp (q := 50) (M1 := an_X5_faultOfPart) (rest := [.ref 24]) rfl rfl (by decide) rfl ⟨_, rfl⟩ (sf_X5_faultOfPart hW hI (d + 2)) (fun x4 hx4 => ?_)
      refine to_eq (fr' := (63, [(0, .ref 24), (1, .int (nI w))], [.int x4, .ref 24], gh S a b sc ar lo, ex, 0, 0)) rfl ?_
      refine to_ci (q := 51) (M1 := an_X5_fail) (rest := []) rfl rfl (by decide) rfl ⟨_, rfl⟩ (sf_X5_fail hW hI x4 (d + 2)) (fun x5 sc5 ar5 hx5 => ?_)
      obtain ⟨hI5, hG5, rfl⟩ := hx5
      have hF5 := fr_t hF hG5 (by decide) (by decide)
      have cs5 := cs_fr hc hG5 (by decide) (by decide)
      refine to_eq (fr' := (66, [(0, .ref 24), (1, .int (nI w))], [.int 0], gh S a b sc5 ar5 lo, ex, 0, 0)) rfl ?_
      exact to_rt (i := .ireturn) (tg := []) rfl rfl ⟨_, _, _, ⟨hI5, hF5, ⟨rl_n (n := 0) (by omega), ⟨j, cs5, Or.inr ⟨(by simp only [pPt, if_neg q1, if_neg (or_f hp2 q3)]), rfl⟩⟩⟩⟩, rfl⟩
    · refine to_n 2 (fr' := (49, [(0, .ref 24), (1, .int (nI w))], [.ref 24, .ref 24], gh S a b sc ar lo, ex, 0, 0)) rfl ?_
      refine to_getR (v := (tk j)) rfl rfl rfl rfl hc.2.2.2.1 ?_
      have lt6 := hc.1
      have ad6 := ad_up hse hc.1 (nn_1 (or_t hp2 q3 hn2))
      refine to_cv (q := 52) (M1 := an_X5_emit) (rest := []) rfl rfl (by decide) rfl ⟨_, rfl⟩ (sf_X5_emit hW hI (tk j) c (by omega) ec (d + 2)) (fun sc6 ar6 hx6 => ?_)
      obtain ⟨hI6, hG6, hs6, ha6⟩ := hx6
      have hF6 := fr_t hF hG6 (by decide) (by decide)
      have cs6 := cs_fr hc hG6 (by decide) (by decide)
      have hu6 : ∀ y, y < c → ar6 25 y = ar 25 y := fun y hy => by rw [ha6]; exact ug_ne (by omega)
      have hv6 : ar6 25 c = (tk j) := by rw [ha6]; exact ug_eq
      have kp6 : ∀ y, y < c → ar6 25 y = ar 25 y := fun y hy => (hu6 y (by omega)).trans ((fun _ _ => rfl) y hy)
      have sn6 := zsC_pt (tk := tk) (sz := sz) (i := c) (h := h) (j := j) (E := vE) hh hv6 q1 (or_t hp2 q3 hn2)
      refine to_eq (fr' := (55, [(0, .ref 24), (1, .int (nI w))], [], gh S a b sc6 ar6 lo, ex, 0, 0)) rfl ?_
      refine to_n 2 (fr' := (68, [(0, .ref 24), (1, .int (nI w))], [.ref 24], gh S a b sc6 ar6 lo, ex, 0, 0)) rfl ?_
      have ad7 := ad_up hse cs6.1 (nn_1 (or_t hp2 q3 hn2))
      refine to_cv (q := 53) (M1 := an_X5_advance) (rest := []) rfl rfl (by decide) rfl ⟨_, rfl⟩ (sf_X5_advance hW hI6 j sz ⟨cs6.1, hsz⟩ cs6.2.2.1 cs6.2.1 (d + 2)) (fun sc7 ar7 hx7 => ?_)
      obtain ⟨hI7, hG7, hx7⟩ := hx7
      have hF7 := fr_t hF6 hG7 (by decide) (by decide)
      have cs7 := cs_ad cs6 hG7 (by decide) hx7
      have ec7 : sc7 2401 = nI (c + 1) := (hG7.1 2401 (by decide)).trans hs6
      have kp7 : ∀ y, y < c → ar7 25 y = ar 25 y := fun y hy => (congrFun (hG7.2 25 (by decide)) y).trans (kp6 y hy)
      have sg7_0 := zsC_fr sn6 hG7 (by decide)
      refine to_eq (fr' := (71, [(0, .ref 24), (1, .int (nI w))], [], gh S a b sc7 ar7 lo, ex, 0, 0)) rfl ?_
      refine to_n 1 (fr' := (72, [(0, .ref 24), (1, .int (nI w))], [.int 1], gh S a b sc7 ar7 lo, ex, 0, 0)) rfl ?_
      exact to_rt (i := .ireturn) (tg := []) rfl rfl ⟨_, _, _, ⟨hI7, hF7, ⟨rl_n (n := 1) (by omega), ⟨(ad_ sz j), cs7, Or.inl ⟨(by simp only [pPt, if_neg q1, if_pos (or_t hp2 q3 hn2)]), rfl, (c + 1), ec7, by omega, kp7, zsC_v (zsC_le sg7_0 (by omega)) rfl⟩⟩⟩⟩, rfl⟩
  · refine to_n 1 (fr' := (10, [(0, .ref 24), (1, .int (nI w))], [.ref 24], gh S a b sc ar lo, ex, 0, 0)) rfl ?_
    have ad8 := ad_up hse hc.1 (fun w => absurd (q1.symm.trans w) (by decide))
    refine to_cv (q := 53) (M1 := an_X5_advance) (rest := []) rfl rfl (by decide) rfl ⟨_, rfl⟩ (sf_X5_advance hW hI j sz ⟨hc.1, hsz⟩ hc.2.2.1 hc.2.1 (d + 2)) (fun sc8 ar8 hx8 => ?_)
    obtain ⟨hI8, hG8, hx8⟩ := hx8
    have hF8 := fr_t hF hG8 (by decide) (by decide)
    have cs8 := cs_ad hc hG8 (by decide) hx8
    have ec8 : sc8 2401 = nI c := (hG8.1 2401 (by decide)).trans ec
    have kp8 : ∀ y, y < c → ar8 25 y = ar 25 y := fun y hy => (congrFun (hG8.2 25 (by decide)) y).trans ((fun _ _ => rfl) y hy)
    refine to_eq (fr' := (13, [(0, .ref 24), (1, .int (nI w))], [], gh S a b sc8 ar8 lo, ex, 0, 0)) rfl ?_
    refine to_n 3 (fr' := (16, [(0, .ref 24), (1, .int (nI w))], [.int 1, .int (nI w), .ref 24], gh S a b sc8 ar8 lo, ex, 0, 0)) rfl ?_
    refine to_addN (x := w) (y := 1) rfl ?_
    refine to_ci (q := 44) (M1 := an_X5_readExpr) (rest := []) rfl rfl (by decide) rfl ⟨_, rfl⟩ (hE sc8 ar8 (ad_ sz j) c (e + 1) hI8 cs8 ec8 (by omega)) (fun x9 sc9 ar9 hx9 => ?_)
    obtain ⟨hI9, hG9, -, k9, cs9, hr9⟩ := hx9
    have hF9 := fr_t hF8 hG9 (by decide) (by decide)
    rcases hr9 with ⟨e9, rfl, c9, ec9, ce9, kq9, sg9⟩ | ⟨e9, rfl⟩
    · have le9 := sg9.1
      have kp9 : ∀ y, y < c → ar9 25 y = ar 25 y := fun y hy => (kq9 y (by omega)).trans (kp8 y hy)
      refine to_eq (fr' := (20, [(0, .ref 24), (1, .int (nI w))], [.int 1], gh S a b sc9 ar9 lo, ex, 0, 0)) rfl ?_
      refine to_n 2 (fr' := (26, [(0, .ref 24), (1, .int (nI w))], [.ref 24], gh S a b sc9 ar9 lo, ex, 0, 0)) rfl ?_
      refine to_getR (v := (tk k9)) rfl rfl rfl rfl cs9.2.2.2.1 ?_
      refine to_n 1 (fr' := (31, [(0, .ref 24), (1, .int (nI w))], [.int (-5), .int (tk k9)], gh S a b sc9 ar9 lo, ex, 0, 0)) rfl ?_
      refine to_ic_eq (t := 67) rfl (fun q10 => ?_) (fun q10 => ?_)
      · refine to_n 1 (fr' := (68, [(0, .ref 24), (1, .int (nI w))], [.ref 24], gh S a b sc9 ar9 lo, ex, 0, 0)) rfl ?_
        have ad11 := ad_up hse cs9.1 (fun w => absurd (q10.symm.trans w) (by decide))
        refine to_cv (q := 53) (M1 := an_X5_advance) (rest := []) rfl rfl (by decide) rfl ⟨_, rfl⟩ (sf_X5_advance hW hI9 k9 sz ⟨cs9.1, hsz⟩ cs9.2.2.1 cs9.2.1 (d + 2)) (fun sc11 ar11 hx11 => ?_)
        obtain ⟨hI11, hG11, hx11⟩ := hx11
        have hF11 := fr_t hF9 hG11 (by decide) (by decide)
        have cs11 := cs_ad cs9 hG11 (by decide) hx11
        have ec11 : sc11 2401 = nI c9 := (hG11.1 2401 (by decide)).trans ec9
        have kp11 : ∀ y, y < c → ar11 25 y = ar 25 y := fun y hy => (congrFun (hG11.2 25 (by decide)) y).trans (kp9 y hy)
        have sg11_0 := zsC_fr sg9 hG11 (by decide)
        refine to_eq (fr' := (71, [(0, .ref 24), (1, .int (nI w))], [], gh S a b sc11 ar11 lo, ex, 0, 0)) rfl ?_
        refine to_n 1 (fr' := (72, [(0, .ref 24), (1, .int (nI w))], [.int 1], gh S a b sc11 ar11 lo, ex, 0, 0)) rfl ?_
        exact to_rt (i := .ireturn) (tg := []) rfl rfl ⟨_, _, _, ⟨hI11, hF11, ⟨rl_n (n := 1) (by omega), ⟨(ad_ sz k9), cs11, Or.inl ⟨(by simp only [pPt, if_pos q1, e9, if_pos q10]), rfl, c9, ec11, by omega, kp11, zsC_v (zsC_le sg11_0 (by omega)) (by simp only [vPt, if_pos q1])⟩⟩⟩⟩, rfl⟩
      · refine to_n 2 (fr' := (36, [(0, .ref 24), (1, .int (nI w))], [.int 1, .ref 24], gh S a b sc9 ar9 lo, ex, 0, 0)) rfl ?_
        refine to_ci (q := 51) (M1 := an_X5_fail) (rest := []) rfl rfl (by decide) rfl ⟨_, rfl⟩ (sf_X5_fail hW hI9 1 (d + 2)) (fun x12 sc12 ar12 hx12 => ?_)
        obtain ⟨hI12, hG12, rfl⟩ := hx12
        have hF12 := fr_t hF9 hG12 (by decide) (by decide)
        have cs12 := cs_fr cs9 hG12 (by decide) (by decide)
        refine to_eq (fr' := (39, [(0, .ref 24), (1, .int (nI w))], [.int 0], gh S a b sc12 ar12 lo, ex, 0, 0)) rfl ?_
        exact to_rt (i := .ireturn) (tg := []) rfl rfl ⟨_, _, _, ⟨hI12, hF12, ⟨rl_n (n := 0) (by omega), ⟨k9, cs12, Or.inr ⟨(by simp only [pPt, if_pos q1, e9, if_neg q10]), rfl⟩⟩⟩⟩, rfl⟩
    · refine to_eq (fr' := (20, [(0, .ref 24), (1, .int (nI w))], [.int 0], gh S a b sc9 ar9 lo, ex, 0, 0)) rfl ?_
      refine to_n 2 (fr' := (24, [(0, .ref 24), (1, .int (nI w))], [.int 0], gh S a b sc9 ar9 lo, ex, 0, 0)) rfl ?_
      exact to_rt (i := .ireturn) (tg := []) rfl rfl ⟨_, _, _, ⟨hI9, hF9, ⟨rl_n (n := 0) (by omega), ⟨k9, cs9, Or.inr ⟨(by simp only [pPt, if_pos q1, e9]), rfl⟩⟩⟩⟩, rfl⟩
set_option maxRecDepth 20000 in
theorem cr_readSum {X : Nat × (Nat → Int32)} {S a b : Nat} {lo : Nat → Int64} {ex : Bool} {tk : Nat → Int32} {sz : Nat} (hW : Wd S a b) (hse : Se tk sz) (w : Nat) (hw : w < 13) (h : Nat) (hh : 1 ≤ h) (E : Nat → Nat ⊕ Nat) (vE : Nat → zVal) (hpg : pg_ sz (pPt tk sz E)) (d : Nat) (hE : CrOk X S a b lo ex tk sz (d + 4) 47 w h (pPt tk sz E) (vPt tk sz vE)) : CrOk X S a b lo ex tk sz (d + 5) 46 w (h + 1) (pSm tk sz E) (vSm tk sz E vE) := by
  obtain ⟨ha1, ha8, hb1, hb8, hab, hS1, hS⟩ := id hW
  have hsz := hse.2.1
  intro sc ar j c e hI hc ec hce
  have hj := hc.1
  refine ci_of (M := an_X5_readSum) rfl (Nat.le_of_ble_eq_true rfl) ?_
  have hF : Fr [2401, 2402, 2404, 2405] [25] sc ar sc ar := fr_0
  refine to_eq (fr' := (0, [(0, .ref 24), (1, .int (nI w))], [], gh S a b sc ar lo, ex, 0, 0)) rfl ?_
  have c12 : ∀ m : Nat, ∀ (i : Nat) (j1 : Nat) (c1 : Nat) (sc1 : Nat → Int32) (ar1 : Nat → Nat → Int32), i + m = 400 → Cs tk sz j1 sc1 ar1 → pSm tk sz E j = pLp tk sz [-7, -8, -9] (pPt tk sz E) (401 - i) j1 → i + 1 ≤ j1 → sc1 2401 = nI c1 → c1 + e ≤ j1 → (∀ y, y < c → ar1 25 y = ar 25 y) → (∃ W : zVal, zsC (ar1 25) c c1 (h + 1) W ∧ vSm tk sz E vE j = vLp tk sz [-7, -8, -9] (pPt tk sz E) (vPt tk sz vE) (401 - i) j1 W) → Iv S sc1 ar1 → Fr [2401, 2402, 2404, 2405] [25] sc ar sc1 ar1 → ag_To X (d + 4) an_X5_readSum (12, [(0, .ref 24), (1, .int (nI w)), (2, .int (nI i))], [], gh S a b sc1 ar1 lo, ex, 0, 0) (qi S a b lo ex (fun x sc' ar' => Iv S sc' ar' ∧ Fr [2401, 2402, 2404, 2405] [25] sc ar sc' ar' ∧ rl x 2 ∧ (∃ k, Cs tk sz k sc' ar' ∧ ((pSm tk sz E j = .inl k ∧ x = 1 ∧ ∃ c' : Nat, sc' 2401 = nI c' ∧ c' + e ≤ k ∧ (∀ y, y < c → ar' 25 y = ar 25 y) ∧ zsC (ar' 25) c c' (h + 1) (vSm tk sz E vE j)) ∨ (pSm tk sz E j = .inr k ∧ x = 0))))) := by
    intro m
    induction m with
    | zero =>
      intro i j1 c1 sc1 ar1 hm hc12_0 hc12_1 hc12_2 hc12_3 hc12_4 hc12_5 hc12_6 hI1 hF1
      have hj1 := hc12_0.1
      exfalso
      omega
    | succ m ih =>
      intro i j1 c1 sc1 ar1 hm hc12_0 hc12_1 hc12_2 hc12_3 hc12_4 hc12_5 hc12_6 hI1 hF1
      have hj1 := hc12_0.1
      obtain ⟨W, sw12, ew12⟩ := hc12_6
      have lw12 := sw12.1
      refine to_n 2 (fr' := (16, [(0, .ref 24), (1, .int (nI w)), (2, .int (nI i))], [.int 400, .int (nI i)], gh S a b sc1 ar1 lo, ex, 0, 0)) rfl ?_
      refine to_nc_ge_F (t := 76) (x := i) (y := 400) rfl (by omega) (by omega) (by omega) ?_
      refine to_n 1 (fr' := (20, [(0, .ref 24), (1, .int (nI w)), (2, .int (nI i))], [.ref 24], gh S a b sc1 ar1 lo, ex, 0, 0)) rfl ?_
      refine to_getR (v := (tk j1)) rfl rfl rfl rfl hc12_0.2.2.2.1 ?_
      refine to_n 1 (fr' := (25, [(0, .ref 24), (1, .int (nI w)), (2, .int (nI i))], [.int (-7), .int (tk j1)], gh S a b sc1 ar1 lo, ex, 0, 0)) rfl ?_
      refine to_ic_eq (t := 46) rfl (fun q2 => ?_) (fun q2 => ?_)
      · refine to_n 1 (fr' := (47, [(0, .ref 24), (1, .int (nI w)), (2, .int (nI i))], [.ref 24], gh S a b sc1 ar1 lo, ex, 0, 0)) rfl ?_
        refine to_getR (v := (tk j1)) rfl rfl rfl rfl hc12_0.2.2.2.1 ?_
        refine to_n 2 (fr' := (52, [(0, .ref 24), (1, .int (nI w)), (2, .int (nI i)), (3, .int (tk j1))], [.ref 24], gh S a b sc1 ar1 lo, ex, 0, 0)) rfl ?_
        have ad3 := ad_up hse hc12_0.1 (jm_1 (c := tk j1) (J := [-7, -8, -9]) (by rw [q2]; decide) (by decide))
        refine to_cv (q := 53) (M1 := an_X5_advance) (rest := []) rfl rfl (by decide) rfl ⟨_, rfl⟩ (sf_X5_advance hW hI1 j1 sz ⟨hc12_0.1, hsz⟩ hc12_0.2.2.1 hc12_0.2.1 (d + 3)) (fun sc3 ar3 hx3 => ?_)
        obtain ⟨hI3, hG3, hx3⟩ := hx3
        have hF3 := fr_t hF1 hG3 (by decide) (by decide)
        have cs3 := cs_ad hc12_0 hG3 (by decide) hx3
        have ec3 : sc3 2401 = nI c1 := (hG3.1 2401 (by decide)).trans hc12_3
        have kp3 : ∀ y, y < c → ar3 25 y = ar 25 y := fun y hy => (congrFun (hG3.2 25 (by decide)) y).trans (hc12_5 y hy)
        have sg3_0 := zsC_fr sw12 hG3 (by decide)
        refine to_eq (fr' := (55, [(0, .ref 24), (1, .int (nI w)), (2, .int (nI i)), (3, .int (tk j1))], [], gh S a b sc3 ar3 lo, ex, 0, 0)) rfl ?_
        refine to_n 2 (fr' := (57, [(0, .ref 24), (1, .int (nI w)), (2, .int (nI i)), (3, .int (tk j1))], [.int (nI w), .ref 24], gh S a b sc3 ar3 lo, ex, 0, 0)) rfl ?_
        refine to_ci (q := 47) (M1 := an_X5_readPart) (rest := []) rfl rfl (by decide) rfl ⟨_, rfl⟩ (hE sc3 ar3 (ad_ sz j1) c1 (e + 1) hI3 cs3 ec3 (by omega)) (fun x4 sc4 ar4 hx4 => ?_)
        obtain ⟨hI4, hG4, -, k4, cs4, hr4⟩ := hx4
        have hF4 := fr_t hF3 hG4 (by decide) (by decide)
        rcases hr4 with ⟨e4, rfl, c4, ec4, ce4, kq4, sg4⟩ | ⟨e4, rfl⟩
        · have le4 := sg4.1
          have kp4 : ∀ y, y < c → ar4 25 y = ar 25 y := fun y hy => (kq4 y (by omega)).trans (kp3 y hy)
          have sg4_0 := zsC_ag sg3_0 kq4 (by omega)
          refine to_eq (fr' := (60, [(0, .ref 24), (1, .int (nI w)), (2, .int (nI i)), (3, .int (tk j1))], [.int 1], gh S a b sc4 ar4 lo, ex, 0, 0)) rfl ?_
          refine to_n 3 (fr' := (67, [(0, .ref 24), (1, .int (nI w)), (2, .int (nI i)), (3, .int (tk j1))], [.int (tk j1), .ref 24], gh S a b sc4 ar4 lo, ex, 0, 0)) rfl ?_
          have lt5 := cs4.1
          refine to_cv (q := 52) (M1 := an_X5_emit) (rest := []) rfl rfl (by decide) rfl ⟨_, rfl⟩ (sf_X5_emit hW hI4 (tk j1) c4 (by omega) ec4 (d + 3)) (fun sc5 ar5 hx5 => ?_)
          obtain ⟨hI5, hG5, hs5, ha5⟩ := hx5
          have hF5 := fr_t hF4 hG5 (by decide) (by decide)
          have cs5 := cs_fr cs4 hG5 (by decide) (by decide)
          have hu5 : ∀ y, y < c4 → ar5 25 y = ar4 25 y := fun y hy => by rw [ha5]; exact ug_ne (by omega)
          have hv5 : ar5 25 c4 = (tk j1) := by rw [ha5]; exact ug_eq
          have kp5 : ∀ y, y < c → ar5 25 y = ar 25 y := fun y hy => (hu5 y (by omega)).trans (kp4 y hy)
          have sg5_0 := zsC_ag sg4_0 hu5 (by omega)
          have sg5_1 := zsC_ag sg4 hu5 (by omega)
          have sn5 := zsC_bin (h := h + 1) sg5_0 sg5_1 hv5 (zj7_s (show tk j1 ∈ ([-7, -8, -9] : List Int32) from (by rw [q2]; decide))) (by omega) (by omega)
          refine to_eq (fr' := (70, [(0, .ref 24), (1, .int (nI w)), (2, .int (nI i)), (3, .int (tk j1))], [], gh S a b sc5 ar5 lo, ex, 0, 0)) rfl ?_
          refine to_n 1 (fr' := (73, [(0, .ref 24), (1, .int (nI w)), (2, .int ((nI i) + 1)), (3, .int (tk j1))], [], gh S a b sc5 ar5 lo, ex, 0, 0)) rfl ?_
          rw [nI_1 i]
          refine to_n 1 (fr' := (12, [(0, .ref 24), (1, .int (nI w)), (2, .int (nI (i + 1))), (3, .int (tk j1))], [], gh S a b sc5 ar5 lo, ex, 0, 0)) rfl ?_
          refine to_lv (lv := [(0, .ref 24), (1, .int (nI w)), (2, .int (nI (i + 1)))]) rfl ⟨rfl, rfl, rfl, trivial⟩ ?_
          exact ih (i + 1) k4 (c4 + 1) sc5 ar5 (by omega) cs5 (hc12_1.trans (by rw [show 401 - i = (401 - (i + 1)) + 1 by omega]; exact pl_on (by rw [q2]; decide) e4)) (by have := pl_gt (J := [-7, -8, -9]) hse hpg hc12_0.1 (by rw [q2]; decide) (by decide) e4; omega) hs5 (by omega) kp5 ⟨_, sn5, ew12.trans (by rw [show 401 - i = (401 - (i + 1)) + 1 by omega]; exact vl_on (by rw [q2]; decide) e4)⟩ hI5 hF5
        · refine to_eq (fr' := (60, [(0, .ref 24), (1, .int (nI w)), (2, .int (nI i)), (3, .int (tk j1))], [.int 0], gh S a b sc4 ar4 lo, ex, 0, 0)) rfl ?_
          refine to_n 2 (fr' := (64, [(0, .ref 24), (1, .int (nI w)), (2, .int (nI i)), (3, .int (tk j1))], [.int 0], gh S a b sc4 ar4 lo, ex, 0, 0)) rfl ?_
          exact to_rt (i := .ireturn) (tg := []) rfl rfl ⟨_, _, _, ⟨hI4, hF4, ⟨rl_n (n := 0) (by omega), ⟨k4, cs4, Or.inr ⟨(hc12_1.trans (by rw [show 401 - i = (400 - i) + 1 by omega]; exact pl_bad (by rw [q2]; decide) e4)), rfl⟩⟩⟩⟩, rfl⟩
      · refine to_n 1 (fr' := (29, [(0, .ref 24), (1, .int (nI w)), (2, .int (nI i))], [.ref 24], gh S a b sc1 ar1 lo, ex, 0, 0)) rfl ?_
        refine to_getR (v := (tk j1)) rfl rfl rfl rfl hc12_0.2.2.2.1 ?_
        refine to_n 1 (fr' := (34, [(0, .ref 24), (1, .int (nI w)), (2, .int (nI i))], [.int (-8), .int (tk j1)], gh S a b sc1 ar1 lo, ex, 0, 0)) rfl ?_
        refine to_ic_eq (t := 46) rfl (fun q6 => ?_) (fun q6 => ?_)
        · refine to_n 1 (fr' := (47, [(0, .ref 24), (1, .int (nI w)), (2, .int (nI i))], [.ref 24], gh S a b sc1 ar1 lo, ex, 0, 0)) rfl ?_
          refine to_getR (v := (tk j1)) rfl rfl rfl rfl hc12_0.2.2.2.1 ?_
          refine to_n 2 (fr' := (52, [(0, .ref 24), (1, .int (nI w)), (2, .int (nI i)), (3, .int (tk j1))], [.ref 24], gh S a b sc1 ar1 lo, ex, 0, 0)) rfl ?_
          have ad7 := ad_up hse hc12_0.1 (jm_1 (c := tk j1) (J := [-7, -8, -9]) (by rw [q6]; decide) (by decide))
          refine to_cv (q := 53) (M1 := an_X5_advance) (rest := []) rfl rfl (by decide) rfl ⟨_, rfl⟩ (sf_X5_advance hW hI1 j1 sz ⟨hc12_0.1, hsz⟩ hc12_0.2.2.1 hc12_0.2.1 (d + 3)) (fun sc7 ar7 hx7 => ?_)
          obtain ⟨hI7, hG7, hx7⟩ := hx7
          have hF7 := fr_t hF1 hG7 (by decide) (by decide)
          have cs7 := cs_ad hc12_0 hG7 (by decide) hx7
          have ec7 : sc7 2401 = nI c1 := (hG7.1 2401 (by decide)).trans hc12_3
          have kp7 : ∀ y, y < c → ar7 25 y = ar 25 y := fun y hy => (congrFun (hG7.2 25 (by decide)) y).trans (hc12_5 y hy)
          have sg7_0 := zsC_fr sw12 hG7 (by decide)
          refine to_eq (fr' := (55, [(0, .ref 24), (1, .int (nI w)), (2, .int (nI i)), (3, .int (tk j1))], [], gh S a b sc7 ar7 lo, ex, 0, 0)) rfl ?_
          refine to_n 2 (fr' := (57, [(0, .ref 24), (1, .int (nI w)), (2, .int (nI i)), (3, .int (tk j1))], [.int (nI w), .ref 24], gh S a b sc7 ar7 lo, ex, 0, 0)) rfl ?_
          refine to_ci (q := 47) (M1 := an_X5_readPart) (rest := []) rfl rfl (by decide) rfl ⟨_, rfl⟩ (hE sc7 ar7 (ad_ sz j1) c1 (e + 1) hI7 cs7 ec7 (by omega)) (fun x8 sc8 ar8 hx8 => ?_)
          obtain ⟨hI8, hG8, -, k8, cs8, hr8⟩ := hx8
          have hF8 := fr_t hF7 hG8 (by decide) (by decide)
          rcases hr8 with ⟨e8, rfl, c8, ec8, ce8, kq8, sg8⟩ | ⟨e8, rfl⟩
          · have le8 := sg8.1
            have kp8 : ∀ y, y < c → ar8 25 y = ar 25 y := fun y hy => (kq8 y (by omega)).trans (kp7 y hy)
            have sg8_0 := zsC_ag sg7_0 kq8 (by omega)
            refine to_eq (fr' := (60, [(0, .ref 24), (1, .int (nI w)), (2, .int (nI i)), (3, .int (tk j1))], [.int 1], gh S a b sc8 ar8 lo, ex, 0, 0)) rfl ?_
            refine to_n 3 (fr' := (67, [(0, .ref 24), (1, .int (nI w)), (2, .int (nI i)), (3, .int (tk j1))], [.int (tk j1), .ref 24], gh S a b sc8 ar8 lo, ex, 0, 0)) rfl ?_
            have lt9 := cs8.1
            refine to_cv (q := 52) (M1 := an_X5_emit) (rest := []) rfl rfl (by decide) rfl ⟨_, rfl⟩ (sf_X5_emit hW hI8 (tk j1) c8 (by omega) ec8 (d + 3)) (fun sc9 ar9 hx9 => ?_)
            obtain ⟨hI9, hG9, hs9, ha9⟩ := hx9
            have hF9 := fr_t hF8 hG9 (by decide) (by decide)
            have cs9 := cs_fr cs8 hG9 (by decide) (by decide)
            have hu9 : ∀ y, y < c8 → ar9 25 y = ar8 25 y := fun y hy => by rw [ha9]; exact ug_ne (by omega)
            have hv9 : ar9 25 c8 = (tk j1) := by rw [ha9]; exact ug_eq
            have kp9 : ∀ y, y < c → ar9 25 y = ar 25 y := fun y hy => (hu9 y (by omega)).trans (kp8 y hy)
            have sg9_0 := zsC_ag sg8_0 hu9 (by omega)
            have sg9_1 := zsC_ag sg8 hu9 (by omega)
            have sn9 := zsC_bin (h := h + 1) sg9_0 sg9_1 hv9 (zj7_s (show tk j1 ∈ ([-7, -8, -9] : List Int32) from (by rw [q6]; decide))) (by omega) (by omega)
            refine to_eq (fr' := (70, [(0, .ref 24), (1, .int (nI w)), (2, .int (nI i)), (3, .int (tk j1))], [], gh S a b sc9 ar9 lo, ex, 0, 0)) rfl ?_
            refine to_n 1 (fr' := (73, [(0, .ref 24), (1, .int (nI w)), (2, .int ((nI i) + 1)), (3, .int (tk j1))], [], gh S a b sc9 ar9 lo, ex, 0, 0)) rfl ?_
            rw [nI_1 i]
            refine to_n 1 (fr' := (12, [(0, .ref 24), (1, .int (nI w)), (2, .int (nI (i + 1))), (3, .int (tk j1))], [], gh S a b sc9 ar9 lo, ex, 0, 0)) rfl ?_
            refine to_lv (lv := [(0, .ref 24), (1, .int (nI w)), (2, .int (nI (i + 1)))]) rfl ⟨rfl, rfl, rfl, trivial⟩ ?_
            exact ih (i + 1) k8 (c8 + 1) sc9 ar9 (by omega) cs9 (hc12_1.trans (by rw [show 401 - i = (401 - (i + 1)) + 1 by omega]; exact pl_on (by rw [q6]; decide) e8)) (by have := pl_gt (J := [-7, -8, -9]) hse hpg hc12_0.1 (by rw [q6]; decide) (by decide) e8; omega) hs9 (by omega) kp9 ⟨_, sn9, ew12.trans (by rw [show 401 - i = (401 - (i + 1)) + 1 by omega]; exact vl_on (by rw [q6]; decide) e8)⟩ hI9 hF9
          · refine to_eq (fr' := (60, [(0, .ref 24), (1, .int (nI w)), (2, .int (nI i)), (3, .int (tk j1))], [.int 0], gh S a b sc8 ar8 lo, ex, 0, 0)) rfl ?_
            refine to_n 2 (fr' := (64, [(0, .ref 24), (1, .int (nI w)), (2, .int (nI i)), (3, .int (tk j1))], [.int 0], gh S a b sc8 ar8 lo, ex, 0, 0)) rfl ?_
            exact to_rt (i := .ireturn) (tg := []) rfl rfl ⟨_, _, _, ⟨hI8, hF8, ⟨rl_n (n := 0) (by omega), ⟨k8, cs8, Or.inr ⟨(hc12_1.trans (by rw [show 401 - i = (400 - i) + 1 by omega]; exact pl_bad (by rw [q6]; decide) e8)), rfl⟩⟩⟩⟩, rfl⟩
        · refine to_n 1 (fr' := (38, [(0, .ref 24), (1, .int (nI w)), (2, .int (nI i))], [.ref 24], gh S a b sc1 ar1 lo, ex, 0, 0)) rfl ?_
          refine to_getR (v := (tk j1)) rfl rfl rfl rfl hc12_0.2.2.2.1 ?_
          refine to_n 1 (fr' := (43, [(0, .ref 24), (1, .int (nI w)), (2, .int (nI i))], [.int (-9), .int (tk j1)], gh S a b sc1 ar1 lo, ex, 0, 0)) rfl ?_
          refine to_ic_ne (t := 76) rfl (fun q10 => ?_) (fun q10 => ?_)
          · refine to_n 1 (fr' := (77, [(0, .ref 24), (1, .int (nI w)), (2, .int (nI i))], [.int 1], gh S a b sc1 ar1 lo, ex, 0, 0)) rfl ?_
            exact to_rt (i := .ireturn) (tg := []) rfl rfl ⟨_, _, _, ⟨hI1, hF1, ⟨rl_n (n := 1) (by omega), ⟨j1, hc12_0, Or.inl ⟨(hc12_1.trans (by rw [show 401 - i = (400 - i) + 1 by omega]; exact pl_out (by simp only [List.mem_cons, List.not_mem_nil, or_false, not_or]; exact ⟨q2, q6, q10⟩))), rfl, c1, hc12_3, by omega, hc12_5, zsC_v (zsC_le sw12 (by omega)) (ew12.trans (by rw [show 401 - i = (400 - i) + 1 by omega]; exact vl_out (by simp only [List.mem_cons, List.not_mem_nil, or_false, not_or]; exact ⟨q2, q6, q10⟩)))⟩⟩⟩⟩, rfl⟩
          · refine to_n 1 (fr' := (47, [(0, .ref 24), (1, .int (nI w)), (2, .int (nI i))], [.ref 24], gh S a b sc1 ar1 lo, ex, 0, 0)) rfl ?_
            refine to_getR (v := (tk j1)) rfl rfl rfl rfl hc12_0.2.2.2.1 ?_
            refine to_n 2 (fr' := (52, [(0, .ref 24), (1, .int (nI w)), (2, .int (nI i)), (3, .int (tk j1))], [.ref 24], gh S a b sc1 ar1 lo, ex, 0, 0)) rfl ?_
            have ad11 := ad_up hse hc12_0.1 (jm_1 (c := tk j1) (J := [-7, -8, -9]) (by rw [q10]; decide) (by decide))
            refine to_cv (q := 53) (M1 := an_X5_advance) (rest := []) rfl rfl (by decide) rfl ⟨_, rfl⟩ (sf_X5_advance hW hI1 j1 sz ⟨hc12_0.1, hsz⟩ hc12_0.2.2.1 hc12_0.2.1 (d + 3)) (fun sc11 ar11 hx11 => ?_)
            obtain ⟨hI11, hG11, hx11⟩ := hx11
            have hF11 := fr_t hF1 hG11 (by decide) (by decide)
            have cs11 := cs_ad hc12_0 hG11 (by decide) hx11
            have ec11 : sc11 2401 = nI c1 := (hG11.1 2401 (by decide)).trans hc12_3
            have kp11 : ∀ y, y < c → ar11 25 y = ar 25 y := fun y hy => (congrFun (hG11.2 25 (by decide)) y).trans (hc12_5 y hy)
            have sg11_0 := zsC_fr sw12 hG11 (by decide)
            refine to_eq (fr' := (55, [(0, .ref 24), (1, .int (nI w)), (2, .int (nI i)), (3, .int (tk j1))], [], gh S a b sc11 ar11 lo, ex, 0, 0)) rfl ?_
            refine to_n 2 (fr' := (57, [(0, .ref 24), (1, .int (nI w)), (2, .int (nI i)), (3, .int (tk j1))], [.int (nI w), .ref 24], gh S a b sc11 ar11 lo, ex, 0, 0)) rfl ?_
            refine to_ci (q := 47) (M1 := an_X5_readPart) (rest := []) rfl rfl (by decide) rfl ⟨_, rfl⟩ (hE sc11 ar11 (ad_ sz j1) c1 (e + 1) hI11 cs11 ec11 (by omega)) (fun x12 sc12 ar12 hx12 => ?_)
            obtain ⟨hI12, hG12, -, k12, cs12, hr12⟩ := hx12
            have hF12 := fr_t hF11 hG12 (by decide) (by decide)
            rcases hr12 with ⟨e12, rfl, c12, ec12, ce12, kq12, sg12⟩ | ⟨e12, rfl⟩
            · have le12 := sg12.1
              have kp12 : ∀ y, y < c → ar12 25 y = ar 25 y := fun y hy => (kq12 y (by omega)).trans (kp11 y hy)
              have sg12_0 := zsC_ag sg11_0 kq12 (by omega)
              refine to_eq (fr' := (60, [(0, .ref 24), (1, .int (nI w)), (2, .int (nI i)), (3, .int (tk j1))], [.int 1], gh S a b sc12 ar12 lo, ex, 0, 0)) rfl ?_
              refine to_n 3 (fr' := (67, [(0, .ref 24), (1, .int (nI w)), (2, .int (nI i)), (3, .int (tk j1))], [.int (tk j1), .ref 24], gh S a b sc12 ar12 lo, ex, 0, 0)) rfl ?_
              have lt13 := cs12.1
              refine to_cv (q := 52) (M1 := an_X5_emit) (rest := []) rfl rfl (by decide) rfl ⟨_, rfl⟩ (sf_X5_emit hW hI12 (tk j1) c12 (by omega) ec12 (d + 3)) (fun sc13 ar13 hx13 => ?_)
              obtain ⟨hI13, hG13, hs13, ha13⟩ := hx13
              have hF13 := fr_t hF12 hG13 (by decide) (by decide)
              have cs13 := cs_fr cs12 hG13 (by decide) (by decide)
              have hu13 : ∀ y, y < c12 → ar13 25 y = ar12 25 y := fun y hy => by rw [ha13]; exact ug_ne (by omega)
              have hv13 : ar13 25 c12 = (tk j1) := by rw [ha13]; exact ug_eq
              have kp13 : ∀ y, y < c → ar13 25 y = ar 25 y := fun y hy => (hu13 y (by omega)).trans (kp12 y hy)
              have sg13_0 := zsC_ag sg12_0 hu13 (by omega)
              have sg13_1 := zsC_ag sg12 hu13 (by omega)
              have sn13 := zsC_bin (h := h + 1) sg13_0 sg13_1 hv13 (zj7_s (show tk j1 ∈ ([-7, -8, -9] : List Int32) from (by rw [q10]; decide))) (by omega) (by omega)
              refine to_eq (fr' := (70, [(0, .ref 24), (1, .int (nI w)), (2, .int (nI i)), (3, .int (tk j1))], [], gh S a b sc13 ar13 lo, ex, 0, 0)) rfl ?_
              refine to_n 1 (fr' := (73, [(0, .ref 24), (1, .int (nI w)), (2, .int ((nI i) + 1)), (3, .int (tk j1))], [], gh S a b sc13 ar13 lo, ex, 0, 0)) rfl ?_
              rw [nI_1 i]
              refine to_n 1 (fr' := (12, [(0, .ref 24), (1, .int (nI w)), (2, .int (nI (i + 1))), (3, .int (tk j1))], [], gh S a b sc13 ar13 lo, ex, 0, 0)) rfl ?_
              refine to_lv (lv := [(0, .ref 24), (1, .int (nI w)), (2, .int (nI (i + 1)))]) rfl ⟨rfl, rfl, rfl, trivial⟩ ?_
              exact ih (i + 1) k12 (c12 + 1) sc13 ar13 (by omega) cs13 (hc12_1.trans (by rw [show 401 - i = (401 - (i + 1)) + 1 by omega]; exact pl_on (by rw [q10]; decide) e12)) (by have := pl_gt (J := [-7, -8, -9]) hse hpg hc12_0.1 (by rw [q10]; decide) (by decide) e12; omega) hs13 (by omega) kp13 ⟨_, sn13, ew12.trans (by rw [show 401 - i = (401 - (i + 1)) + 1 by omega]; exact vl_on (by rw [q10]; decide) e12)⟩ hI13 hF13
            · refine to_eq (fr' := (60, [(0, .ref 24), (1, .int (nI w)), (2, .int (nI i)), (3, .int (tk j1))], [.int 0], gh S a b sc12 ar12 lo, ex, 0, 0)) rfl ?_
              refine to_n 2 (fr' := (64, [(0, .ref 24), (1, .int (nI w)), (2, .int (nI i)), (3, .int (tk j1))], [.int 0], gh S a b sc12 ar12 lo, ex, 0, 0)) rfl ?_
              exact to_rt (i := .ireturn) (tg := []) rfl rfl ⟨_, _, _, ⟨hI12, hF12, ⟨rl_n (n := 0) (by omega), ⟨k12, cs12, Or.inr ⟨(hc12_1.trans (by rw [show 401 - i = (400 - i) + 1 by omega]; exact pl_bad (by rw [q10]; decide) e12)), rfl⟩⟩⟩⟩, rfl⟩
  refine to_n 2 (fr' := (2, [(0, .ref 24), (1, .int (nI w))], [.int (nI w), .ref 24], gh S a b sc ar lo, ex, 0, 0)) rfl ?_
  refine to_ci (q := 47) (M1 := an_X5_readPart) (rest := []) rfl rfl (by decide) rfl ⟨_, rfl⟩ (hE sc ar j c e hI hc ec (by omega)) (fun x14 sc14 ar14 hx14 => ?_)
  obtain ⟨hI14, hG14, -, k14, cs14, hr14⟩ := hx14
  have hF14 := fr_t hF hG14 (by decide) (by decide)
  rcases hr14 with ⟨e14, rfl, c14, ec14, ce14, kq14, sg14⟩ | ⟨e14, rfl⟩
  · have le14 := sg14.1
    have kp14 : ∀ y, y < c → ar14 25 y = ar 25 y := fun y hy => (kq14 y (by omega)).trans ((fun _ _ => rfl) y hy)
    refine to_eq (fr' := (5, [(0, .ref 24), (1, .int (nI w))], [.int 1], gh S a b sc14 ar14 lo, ex, 0, 0)) rfl ?_
    refine to_n 3 (fr' := (12, [(0, .ref 24), (1, .int (nI w)), (2, .int 0)], [], gh S a b sc14 ar14 lo, ex, 0, 0)) rfl ?_
    exact c12 (400 - 0) 0 k14 c14 sc14 ar14 (by omega) cs14 (by simp only [pSm, e14]) (by have := (hpg j _ hc.1 e14).1; omega) ec14 (by omega) kp14 ⟨_, zsC_le sg14 (by omega), by simp only [vSm, e14]⟩ hI14 hF14
  · refine to_eq (fr' := (5, [(0, .ref 24), (1, .int (nI w))], [.int 0], gh S a b sc14 ar14 lo, ex, 0, 0)) rfl ?_
    refine to_n 2 (fr' := (9, [(0, .ref 24), (1, .int (nI w))], [.int 0], gh S a b sc14 ar14 lo, ex, 0, 0)) rfl ?_
    exact to_rt (i := .ireturn) (tg := []) rfl rfl ⟨_, _, _, ⟨hI14, hF14, ⟨rl_n (n := 0) (by omega), ⟨k14, cs14, Or.inr ⟨(by simp only [pSm, e14]), rfl⟩⟩⟩⟩, rfl⟩
set_option maxRecDepth 20000 in
theorem cr_readTest {X : Nat × (Nat → Int32)} {S a b : Nat} {lo : Nat → Int64} {ex : Bool} {tk : Nat → Int32} {sz : Nat} (hW : Wd S a b) (hse : Se tk sz) (w : Nat) (hw : w < 13) (h : Nat) (hh : 1 ≤ h) (E : Nat → Nat ⊕ Nat) (vE : Nat → zVal) (d : Nat) (hE : CrOk X S a b lo ex tk sz (d + 5) 46 w h (pSm tk sz E) (vSm tk sz E vE)) : CrOk X S a b lo ex tk sz (d + 6) 45 w (h + 1) (pTs tk sz E) (vTs tk sz E vE) := by
  obtain ⟨ha1, ha8, hb1, hb8, hab, hS1, hS⟩ := id hW
  have hsz := hse.2.1
  intro sc ar j c e hI hc ec hce
  have hj := hc.1
  refine ci_of (M := an_X5_readTest) rfl (Nat.le_of_ble_eq_true rfl) ?_
  have hF : Fr [2401, 2402, 2404, 2405] [25] sc ar sc ar := fr_0
  refine to_eq (fr' := (0, [(0, .ref 24), (1, .int (nI w))], [], gh S a b sc ar lo, ex, 0, 0)) rfl ?_
  refine to_n 1 (fr' := (1, [(0, .ref 24), (1, .int (nI w))], [.ref 24], gh S a b sc ar lo, ex, 0, 0)) rfl ?_
  refine to_getR (v := (tk j)) rfl rfl rfl rfl hc.2.2.2.1 ?_
  refine to_n 1 (fr' := (6, [(0, .ref 24), (1, .int (nI w))], [.int (-16), .int (tk j)], gh S a b sc ar lo, ex, 0, 0)) rfl ?_
  refine to_ic_ne (t := 13) rfl (fun q1 => ?_) (fun q1 => ?_)
  · refine to_n 6 (fr' := (25, [(0, .ref 24), (1, .int (nI w)), (2, .int 0)], [.int (nI w), .ref 24], gh S a b sc ar lo, ex, 0, 0)) rfl ?_
    refine to_ci (q := 46) (M1 := an_X5_readSum) (rest := []) rfl rfl (by decide) rfl ⟨_, rfl⟩ (hE sc ar j c e hI hc ec (by omega)) (fun x2 sc2 ar2 hx2 => ?_)
    obtain ⟨hI2, hG2, -, k2, cs2, hr2⟩ := hx2
    have hF2 := fr_t hF hG2 (by decide) (by decide)
    rcases hr2 with ⟨e2, rfl, c2, ec2, ce2, kq2, sg2⟩ | ⟨e2, rfl⟩
    · have le2 := sg2.1
      have kp2 : ∀ y, y < c → ar2 25 y = ar 25 y := fun y hy => (kq2 y (by omega)).trans ((fun _ _ => rfl) y hy)
      refine to_eq (fr' := (28, [(0, .ref 24), (1, .int (nI w)), (2, .int 0)], [.int 1], gh S a b sc2 ar2 lo, ex, 0, 0)) rfl ?_
      refine to_n 2 (fr' := (34, [(0, .ref 24), (1, .int (nI w)), (2, .int 0)], [.ref 24], gh S a b sc2 ar2 lo, ex, 0, 0)) rfl ?_
      refine to_getR (v := (tk k2)) rfl rfl rfl rfl cs2.2.2.2.1 ?_
      refine to_n 1 (fr' := (39, [(0, .ref 24), (1, .int (nI w)), (2, .int 0)], [.int (-10), .int (tk k2)], gh S a b sc2 ar2 lo, ex, 0, 0)) rfl ?_
      refine to_ic_eq (t := 51) rfl (fun q3 => ?_) (fun q3 => ?_)
      · refine to_n 1 (fr' := (52, [(0, .ref 24), (1, .int (nI w)), (2, .int 0)], [.ref 24], gh S a b sc2 ar2 lo, ex, 0, 0)) rfl ?_
        refine to_getR (v := (tk k2)) rfl rfl rfl rfl cs2.2.2.2.1 ?_
        refine to_n 2 (fr' := (57, [(0, .ref 24), (1, .int (nI w)), (2, .int 0), (3, .int (tk k2))], [.ref 24], gh S a b sc2 ar2 lo, ex, 0, 0)) rfl ?_
        have ad4 := ad_up hse cs2.1 (fun w => absurd (q3.symm.trans w) (by decide))
        refine to_cv (q := 53) (M1 := an_X5_advance) (rest := []) rfl rfl (by decide) rfl ⟨_, rfl⟩ (sf_X5_advance hW hI2 k2 sz ⟨cs2.1, hsz⟩ cs2.2.2.1 cs2.2.1 (d + 4)) (fun sc4 ar4 hx4 => ?_)
        obtain ⟨hI4, hG4, hx4⟩ := hx4
        have hF4 := fr_t hF2 hG4 (by decide) (by decide)
        have cs4 := cs_ad cs2 hG4 (by decide) hx4
        have ec4 : sc4 2401 = nI c2 := (hG4.1 2401 (by decide)).trans ec2
        have kp4 : ∀ y, y < c → ar4 25 y = ar 25 y := fun y hy => (congrFun (hG4.2 25 (by decide)) y).trans (kp2 y hy)
        have sg4_0 := zsC_fr sg2 hG4 (by decide)
        refine to_eq (fr' := (60, [(0, .ref 24), (1, .int (nI w)), (2, .int 0), (3, .int (tk k2))], [], gh S a b sc4 ar4 lo, ex, 0, 0)) rfl ?_
        refine to_n 2 (fr' := (62, [(0, .ref 24), (1, .int (nI w)), (2, .int 0), (3, .int (tk k2))], [.int (nI w), .ref 24], gh S a b sc4 ar4 lo, ex, 0, 0)) rfl ?_
        refine to_ci (q := 46) (M1 := an_X5_readSum) (rest := []) rfl rfl (by decide) rfl ⟨_, rfl⟩ (hE sc4 ar4 (ad_ sz k2) c2 (e + 1) hI4 cs4 ec4 (by omega)) (fun x5 sc5 ar5 hx5 => ?_)
        obtain ⟨hI5, hG5, -, k5, cs5, hr5⟩ := hx5
        have hF5 := fr_t hF4 hG5 (by decide) (by decide)
        rcases hr5 with ⟨e5, rfl, c5, ec5, ce5, kq5, sg5⟩ | ⟨e5, rfl⟩
        · have le5 := sg5.1
          have kp5 : ∀ y, y < c → ar5 25 y = ar 25 y := fun y hy => (kq5 y (by omega)).trans (kp4 y hy)
          have sg5_0 := zsC_ag sg4_0 kq5 (by omega)
          refine to_eq (fr' := (65, [(0, .ref 24), (1, .int (nI w)), (2, .int 0), (3, .int (tk k2))], [.int 1], gh S a b sc5 ar5 lo, ex, 0, 0)) rfl ?_
          refine to_n 3 (fr' := (72, [(0, .ref 24), (1, .int (nI w)), (2, .int 0), (3, .int (tk k2))], [.int (tk k2), .ref 24], gh S a b sc5 ar5 lo, ex, 0, 0)) rfl ?_
          have lt6 := cs5.1
          refine to_cv (q := 52) (M1 := an_X5_emit) (rest := []) rfl rfl (by decide) rfl ⟨_, rfl⟩ (sf_X5_emit hW hI5 (tk k2) c5 (by omega) ec5 (d + 4)) (fun sc6 ar6 hx6 => ?_)
          obtain ⟨hI6, hG6, hs6, ha6⟩ := hx6
          have hF6 := fr_t hF5 hG6 (by decide) (by decide)
          have cs6 := cs_fr cs5 hG6 (by decide) (by decide)
          have hu6 : ∀ y, y < c5 → ar6 25 y = ar5 25 y := fun y hy => by rw [ha6]; exact ug_ne (by omega)
          have hv6 : ar6 25 c5 = (tk k2) := by rw [ha6]; exact ug_eq
          have kp6 : ∀ y, y < c → ar6 25 y = ar 25 y := fun y hy => (hu6 y (by omega)).trans (kp5 y hy)
          have sg6_0 := zsC_ag sg5_0 hu6 (by omega)
          have sg6_1 := zsC_ag sg5 hu6 (by omega)
          have sn6 := zsC_bin (h := h + 1) sg6_0 sg6_1 hv6 (zj7_t (v := tk k2) (Or.inl q3)) (by omega) (by omega)
          refine to_eq (fr' := (75, [(0, .ref 24), (1, .int (nI w)), (2, .int 0), (3, .int (tk k2))], [], gh S a b sc6 ar6 lo, ex, 0, 0)) rfl ?_
          refine to_n 3 (fr' := (86, [(0, .ref 24), (1, .int (nI w)), (2, .int 0), (3, .int (tk k2))], [.int 1], gh S a b sc6 ar6 lo, ex, 0, 0)) rfl ?_
          exact to_rt (i := .ireturn) (tg := []) rfl rfl ⟨_, _, _, ⟨hI6, hF6, ⟨rl_n (n := 1) (by omega), ⟨k5, cs6, Or.inl ⟨(by simp only [pTs, if_neg q1, pT2, e2, if_pos (Or.inl q3 : tk k2 = -10 ∨ tk k2 = -11), e5]), rfl, (c5 + 1), hs6, by omega, kp6, zsC_v (zsC_le sn6 (by omega)) (by simp only [vTs, if_neg q1, vT2, e2, if_pos (Or.inl q3 : tk k2 = -10 ∨ tk k2 = -11)])⟩⟩⟩⟩, rfl⟩
        · refine to_eq (fr' := (65, [(0, .ref 24), (1, .int (nI w)), (2, .int 0), (3, .int (tk k2))], [.int 0], gh S a b sc5 ar5 lo, ex, 0, 0)) rfl ?_
          refine to_n 2 (fr' := (69, [(0, .ref 24), (1, .int (nI w)), (2, .int 0), (3, .int (tk k2))], [.int 0], gh S a b sc5 ar5 lo, ex, 0, 0)) rfl ?_
          exact to_rt (i := .ireturn) (tg := []) rfl rfl ⟨_, _, _, ⟨hI5, hF5, ⟨rl_n (n := 0) (by omega), ⟨k5, cs5, Or.inr ⟨(by simp only [pTs, if_neg q1, pT2, e2, if_pos (Or.inl q3 : tk k2 = -10 ∨ tk k2 = -11), e5]), rfl⟩⟩⟩⟩, rfl⟩
      · refine to_n 1 (fr' := (43, [(0, .ref 24), (1, .int (nI w)), (2, .int 0)], [.ref 24], gh S a b sc2 ar2 lo, ex, 0, 0)) rfl ?_
        refine to_getR (v := (tk k2)) rfl rfl rfl rfl cs2.2.2.2.1 ?_
        refine to_n 1 (fr' := (48, [(0, .ref 24), (1, .int (nI w)), (2, .int 0)], [.int (-11), .int (tk k2)], gh S a b sc2 ar2 lo, ex, 0, 0)) rfl ?_
        refine to_ic_ne (t := 75) rfl (fun q7 => ?_) (fun q7 => ?_)
        · refine to_n 3 (fr' := (86, [(0, .ref 24), (1, .int (nI w)), (2, .int 0)], [.int 1], gh S a b sc2 ar2 lo, ex, 0, 0)) rfl ?_
          exact to_rt (i := .ireturn) (tg := []) rfl rfl ⟨_, _, _, ⟨hI2, hF2, ⟨rl_n (n := 1) (by omega), ⟨k2, cs2, Or.inl ⟨(by simp only [pTs, if_neg q1, pT2, e2, if_neg (fun w => w.elim q3 q7 : ¬ (tk k2 = -10 ∨ tk k2 = -11))]), rfl, c2, ec2, by omega, kp2, zsC_v (zsC_le sg2 (by omega)) (by simp only [vTs, if_neg q1, vT2, e2, if_neg (fun w => w.elim q3 q7 : ¬ (tk k2 = -10 ∨ tk k2 = -11))])⟩⟩⟩⟩, rfl⟩
        · refine to_n 1 (fr' := (52, [(0, .ref 24), (1, .int (nI w)), (2, .int 0)], [.ref 24], gh S a b sc2 ar2 lo, ex, 0, 0)) rfl ?_
          refine to_getR (v := (tk k2)) rfl rfl rfl rfl cs2.2.2.2.1 ?_
          refine to_n 2 (fr' := (57, [(0, .ref 24), (1, .int (nI w)), (2, .int 0), (3, .int (tk k2))], [.ref 24], gh S a b sc2 ar2 lo, ex, 0, 0)) rfl ?_
          have ad8 := ad_up hse cs2.1 (fun w => absurd (q7.symm.trans w) (by decide))
          refine to_cv (q := 53) (M1 := an_X5_advance) (rest := []) rfl rfl (by decide) rfl ⟨_, rfl⟩ (sf_X5_advance hW hI2 k2 sz ⟨cs2.1, hsz⟩ cs2.2.2.1 cs2.2.1 (d + 4)) (fun sc8 ar8 hx8 => ?_)
          obtain ⟨hI8, hG8, hx8⟩ := hx8
          have hF8 := fr_t hF2 hG8 (by decide) (by decide)
          have cs8 := cs_ad cs2 hG8 (by decide) hx8
          have ec8 : sc8 2401 = nI c2 := (hG8.1 2401 (by decide)).trans ec2
          have kp8 : ∀ y, y < c → ar8 25 y = ar 25 y := fun y hy => (congrFun (hG8.2 25 (by decide)) y).trans (kp2 y hy)
          have sg8_0 := zsC_fr sg2 hG8 (by decide)
          refine to_eq (fr' := (60, [(0, .ref 24), (1, .int (nI w)), (2, .int 0), (3, .int (tk k2))], [], gh S a b sc8 ar8 lo, ex, 0, 0)) rfl ?_
          refine to_n 2 (fr' := (62, [(0, .ref 24), (1, .int (nI w)), (2, .int 0), (3, .int (tk k2))], [.int (nI w), .ref 24], gh S a b sc8 ar8 lo, ex, 0, 0)) rfl ?_
          refine to_ci (q := 46) (M1 := an_X5_readSum) (rest := []) rfl rfl (by decide) rfl ⟨_, rfl⟩ (hE sc8 ar8 (ad_ sz k2) c2 (e + 1) hI8 cs8 ec8 (by omega)) (fun x9 sc9 ar9 hx9 => ?_)
          obtain ⟨hI9, hG9, -, k9, cs9, hr9⟩ := hx9
          have hF9 := fr_t hF8 hG9 (by decide) (by decide)
          rcases hr9 with ⟨e9, rfl, c9, ec9, ce9, kq9, sg9⟩ | ⟨e9, rfl⟩
          · have le9 := sg9.1
            have kp9 : ∀ y, y < c → ar9 25 y = ar 25 y := fun y hy => (kq9 y (by omega)).trans (kp8 y hy)
            have sg9_0 := zsC_ag sg8_0 kq9 (by omega)
            refine to_eq (fr' := (65, [(0, .ref 24), (1, .int (nI w)), (2, .int 0), (3, .int (tk k2))], [.int 1], gh S a b sc9 ar9 lo, ex, 0, 0)) rfl ?_
            refine to_n 3 (fr' := (72, [(0, .ref 24), (1, .int (nI w)), (2, .int 0), (3, .int (tk k2))], [.int (tk k2), .ref 24], gh S a b sc9 ar9 lo, ex, 0, 0)) rfl ?_
            have lt10 := cs9.1
            refine to_cv (q := 52) (M1 := an_X5_emit) (rest := []) rfl rfl (by decide) rfl ⟨_, rfl⟩ (sf_X5_emit hW hI9 (tk k2) c9 (by omega) ec9 (d + 4)) (fun sc10 ar10 hx10 => ?_)
            obtain ⟨hI10, hG10, hs10, ha10⟩ := hx10
            have hF10 := fr_t hF9 hG10 (by decide) (by decide)
            have cs10 := cs_fr cs9 hG10 (by decide) (by decide)
            have hu10 : ∀ y, y < c9 → ar10 25 y = ar9 25 y := fun y hy => by rw [ha10]; exact ug_ne (by omega)
            have hv10 : ar10 25 c9 = (tk k2) := by rw [ha10]; exact ug_eq
            have kp10 : ∀ y, y < c → ar10 25 y = ar 25 y := fun y hy => (hu10 y (by omega)).trans (kp9 y hy)
            have sg10_0 := zsC_ag sg9_0 hu10 (by omega)
            have sg10_1 := zsC_ag sg9 hu10 (by omega)
            have sn10 := zsC_bin (h := h + 1) sg10_0 sg10_1 hv10 (zj7_t (v := tk k2) (Or.inr q7)) (by omega) (by omega)
            refine to_eq (fr' := (75, [(0, .ref 24), (1, .int (nI w)), (2, .int 0), (3, .int (tk k2))], [], gh S a b sc10 ar10 lo, ex, 0, 0)) rfl ?_
            refine to_n 3 (fr' := (86, [(0, .ref 24), (1, .int (nI w)), (2, .int 0), (3, .int (tk k2))], [.int 1], gh S a b sc10 ar10 lo, ex, 0, 0)) rfl ?_
            exact to_rt (i := .ireturn) (tg := []) rfl rfl ⟨_, _, _, ⟨hI10, hF10, ⟨rl_n (n := 1) (by omega), ⟨k9, cs10, Or.inl ⟨(by simp only [pTs, if_neg q1, pT2, e2, if_pos (Or.inr q7 : tk k2 = -10 ∨ tk k2 = -11), e9]), rfl, (c9 + 1), hs10, by omega, kp10, zsC_v (zsC_le sn10 (by omega)) (by simp only [vTs, if_neg q1, vT2, e2, if_pos (Or.inr q7 : tk k2 = -10 ∨ tk k2 = -11)])⟩⟩⟩⟩, rfl⟩
          · refine to_eq (fr' := (65, [(0, .ref 24), (1, .int (nI w)), (2, .int 0), (3, .int (tk k2))], [.int 0], gh S a b sc9 ar9 lo, ex, 0, 0)) rfl ?_
            refine to_n 2 (fr' := (69, [(0, .ref 24), (1, .int (nI w)), (2, .int 0), (3, .int (tk k2))], [.int 0], gh S a b sc9 ar9 lo, ex, 0, 0)) rfl ?_
            exact to_rt (i := .ireturn) (tg := []) rfl rfl ⟨_, _, _, ⟨hI9, hF9, ⟨rl_n (n := 0) (by omega), ⟨k9, cs9, Or.inr ⟨(by simp only [pTs, if_neg q1, pT2, e2, if_pos (Or.inr q7 : tk k2 = -10 ∨ tk k2 = -11), e9]), rfl⟩⟩⟩⟩, rfl⟩
    · refine to_eq (fr' := (28, [(0, .ref 24), (1, .int (nI w)), (2, .int 0)], [.int 0], gh S a b sc2 ar2 lo, ex, 0, 0)) rfl ?_
      refine to_n 2 (fr' := (32, [(0, .ref 24), (1, .int (nI w)), (2, .int 0)], [.int 0], gh S a b sc2 ar2 lo, ex, 0, 0)) rfl ?_
      exact to_rt (i := .ireturn) (tg := []) rfl rfl ⟨_, _, _, ⟨hI2, hF2, ⟨rl_n (n := 0) (by omega), ⟨k2, cs2, Or.inr ⟨(by simp only [pTs, if_neg q1, pT2, e2]), rfl⟩⟩⟩⟩, rfl⟩
  · refine to_n 6 (fr' := (20, [(0, .ref 24), (1, .int (nI w)), (2, .int 1)], [.ref 24], gh S a b sc ar lo, ex, 0, 0)) rfl ?_
    have ad11 := ad_up hse hc.1 (fun w => absurd (q1.symm.trans w) (by decide))
    refine to_cv (q := 53) (M1 := an_X5_advance) (rest := []) rfl rfl (by decide) rfl ⟨_, rfl⟩ (sf_X5_advance hW hI j sz ⟨hc.1, hsz⟩ hc.2.2.1 hc.2.1 (d + 4)) (fun sc11 ar11 hx11 => ?_)
    obtain ⟨hI11, hG11, hx11⟩ := hx11
    have hF11 := fr_t hF hG11 (by decide) (by decide)
    have cs11 := cs_ad hc hG11 (by decide) hx11
    have ec11 : sc11 2401 = nI c := (hG11.1 2401 (by decide)).trans ec
    have kp11 : ∀ y, y < c → ar11 25 y = ar 25 y := fun y hy => (congrFun (hG11.2 25 (by decide)) y).trans ((fun _ _ => rfl) y hy)
    refine to_eq (fr' := (23, [(0, .ref 24), (1, .int (nI w)), (2, .int 1)], [], gh S a b sc11 ar11 lo, ex, 0, 0)) rfl ?_
    refine to_n 2 (fr' := (25, [(0, .ref 24), (1, .int (nI w)), (2, .int 1)], [.int (nI w), .ref 24], gh S a b sc11 ar11 lo, ex, 0, 0)) rfl ?_
    refine to_ci (q := 46) (M1 := an_X5_readSum) (rest := []) rfl rfl (by decide) rfl ⟨_, rfl⟩ (hE sc11 ar11 (ad_ sz j) c (e + 1) hI11 cs11 ec11 (by omega)) (fun x12 sc12 ar12 hx12 => ?_)
    obtain ⟨hI12, hG12, -, k12, cs12, hr12⟩ := hx12
    have hF12 := fr_t hF11 hG12 (by decide) (by decide)
    rcases hr12 with ⟨e12, rfl, c12, ec12, ce12, kq12, sg12⟩ | ⟨e12, rfl⟩
    · have le12 := sg12.1
      have kp12 : ∀ y, y < c → ar12 25 y = ar 25 y := fun y hy => (kq12 y (by omega)).trans (kp11 y hy)
      refine to_eq (fr' := (28, [(0, .ref 24), (1, .int (nI w)), (2, .int 1)], [.int 1], gh S a b sc12 ar12 lo, ex, 0, 0)) rfl ?_
      refine to_n 2 (fr' := (34, [(0, .ref 24), (1, .int (nI w)), (2, .int 1)], [.ref 24], gh S a b sc12 ar12 lo, ex, 0, 0)) rfl ?_
      refine to_getR (v := (tk k12)) rfl rfl rfl rfl cs12.2.2.2.1 ?_
      refine to_n 1 (fr' := (39, [(0, .ref 24), (1, .int (nI w)), (2, .int 1)], [.int (-10), .int (tk k12)], gh S a b sc12 ar12 lo, ex, 0, 0)) rfl ?_
      refine to_ic_eq (t := 51) rfl (fun q13 => ?_) (fun q13 => ?_)
      · refine to_n 1 (fr' := (52, [(0, .ref 24), (1, .int (nI w)), (2, .int 1)], [.ref 24], gh S a b sc12 ar12 lo, ex, 0, 0)) rfl ?_
        refine to_getR (v := (tk k12)) rfl rfl rfl rfl cs12.2.2.2.1 ?_
        refine to_n 2 (fr' := (57, [(0, .ref 24), (1, .int (nI w)), (2, .int 1), (3, .int (tk k12))], [.ref 24], gh S a b sc12 ar12 lo, ex, 0, 0)) rfl ?_
        have ad14 := ad_up hse cs12.1 (fun w => absurd (q13.symm.trans w) (by decide))
        refine to_cv (q := 53) (M1 := an_X5_advance) (rest := []) rfl rfl (by decide) rfl ⟨_, rfl⟩ (sf_X5_advance hW hI12 k12 sz ⟨cs12.1, hsz⟩ cs12.2.2.1 cs12.2.1 (d + 4)) (fun sc14 ar14 hx14 => ?_)
        obtain ⟨hI14, hG14, hx14⟩ := hx14
        have hF14 := fr_t hF12 hG14 (by decide) (by decide)
        have cs14 := cs_ad cs12 hG14 (by decide) hx14
        have ec14 : sc14 2401 = nI c12 := (hG14.1 2401 (by decide)).trans ec12
        have kp14 : ∀ y, y < c → ar14 25 y = ar 25 y := fun y hy => (congrFun (hG14.2 25 (by decide)) y).trans (kp12 y hy)
        have sg14_0 := zsC_fr sg12 hG14 (by decide)
        refine to_eq (fr' := (60, [(0, .ref 24), (1, .int (nI w)), (2, .int 1), (3, .int (tk k12))], [], gh S a b sc14 ar14 lo, ex, 0, 0)) rfl ?_
        refine to_n 2 (fr' := (62, [(0, .ref 24), (1, .int (nI w)), (2, .int 1), (3, .int (tk k12))], [.int (nI w), .ref 24], gh S a b sc14 ar14 lo, ex, 0, 0)) rfl ?_
        refine to_ci (q := 46) (M1 := an_X5_readSum) (rest := []) rfl rfl (by decide) rfl ⟨_, rfl⟩ (hE sc14 ar14 (ad_ sz k12) c12 (e + 2) hI14 cs14 ec14 (by omega)) (fun x15 sc15 ar15 hx15 => ?_)
        obtain ⟨hI15, hG15, -, k15, cs15, hr15⟩ := hx15
        have hF15 := fr_t hF14 hG15 (by decide) (by decide)
        rcases hr15 with ⟨e15, rfl, c15, ec15, ce15, kq15, sg15⟩ | ⟨e15, rfl⟩
        · have le15 := sg15.1
          have kp15 : ∀ y, y < c → ar15 25 y = ar 25 y := fun y hy => (kq15 y (by omega)).trans (kp14 y hy)
          have sg15_0 := zsC_ag sg14_0 kq15 (by omega)
          refine to_eq (fr' := (65, [(0, .ref 24), (1, .int (nI w)), (2, .int 1), (3, .int (tk k12))], [.int 1], gh S a b sc15 ar15 lo, ex, 0, 0)) rfl ?_
          refine to_n 3 (fr' := (72, [(0, .ref 24), (1, .int (nI w)), (2, .int 1), (3, .int (tk k12))], [.int (tk k12), .ref 24], gh S a b sc15 ar15 lo, ex, 0, 0)) rfl ?_
          have lt16 := cs15.1
          refine to_cv (q := 52) (M1 := an_X5_emit) (rest := []) rfl rfl (by decide) rfl ⟨_, rfl⟩ (sf_X5_emit hW hI15 (tk k12) c15 (by omega) ec15 (d + 4)) (fun sc16 ar16 hx16 => ?_)
          obtain ⟨hI16, hG16, hs16, ha16⟩ := hx16
          have hF16 := fr_t hF15 hG16 (by decide) (by decide)
          have cs16 := cs_fr cs15 hG16 (by decide) (by decide)
          have hu16 : ∀ y, y < c15 → ar16 25 y = ar15 25 y := fun y hy => by rw [ha16]; exact ug_ne (by omega)
          have hv16 : ar16 25 c15 = (tk k12) := by rw [ha16]; exact ug_eq
          have kp16 : ∀ y, y < c → ar16 25 y = ar 25 y := fun y hy => (hu16 y (by omega)).trans (kp15 y hy)
          have sg16_0 := zsC_ag sg15_0 hu16 (by omega)
          have sg16_1 := zsC_ag sg15 hu16 (by omega)
          have sn16 := zsC_bin (h := h + 1) sg16_0 sg16_1 hv16 (zj7_t (v := tk k12) (Or.inl q13)) (by omega) (by omega)
          refine to_eq (fr' := (75, [(0, .ref 24), (1, .int (nI w)), (2, .int 1), (3, .int (tk k12))], [], gh S a b sc16 ar16 lo, ex, 0, 0)) rfl ?_
          refine to_n 4 (fr' := (82, [(0, .ref 24), (1, .int (nI w)), (2, .int 1), (3, .int (tk k12))], [.int (-16), .ref 24], gh S a b sc16 ar16 lo, ex, 0, 0)) rfl ?_
          have lt17 := cs16.1
          refine to_cv (q := 52) (M1 := an_X5_emit) (rest := []) rfl rfl (by decide) rfl ⟨_, rfl⟩ (sf_X5_emit hW hI16 (-16) (c15 + 1) (by omega) hs16 (d + 4)) (fun sc17 ar17 hx17 => ?_)
          obtain ⟨hI17, hG17, hs17, ha17⟩ := hx17
          have hF17 := fr_t hF16 hG17 (by decide) (by decide)
          have cs17 := cs_fr cs16 hG17 (by decide) (by decide)
          have hu17 : ∀ y, y < (c15 + 1) → ar17 25 y = ar16 25 y := fun y hy => by rw [ha17]; exact ug_ne (by omega)
          have hv17 : ar17 25 (c15 + 1) = (-16) := by rw [ha17]; exact ug_eq
          have kp17 : ∀ y, y < c → ar17 25 y = ar 25 y := fun y hy => (hu17 y (by omega)).trans (kp16 y hy)
          have sg17_0 := zsC_ag sn16 hu17 (by omega)
          have sn17 := zsC_not (h := h + 1) (zsC_le sg17_0 (by omega)) (by omega) hv17
          refine to_eq (fr' := (85, [(0, .ref 24), (1, .int (nI w)), (2, .int 1), (3, .int (tk k12))], [], gh S a b sc17 ar17 lo, ex, 0, 0)) rfl ?_
          refine to_n 1 (fr' := (86, [(0, .ref 24), (1, .int (nI w)), (2, .int 1), (3, .int (tk k12))], [.int 1], gh S a b sc17 ar17 lo, ex, 0, 0)) rfl ?_
          exact to_rt (i := .ireturn) (tg := []) rfl rfl ⟨_, _, _, ⟨hI17, hF17, ⟨rl_n (n := 1) (by omega), ⟨k15, cs17, Or.inl ⟨(by simp only [pTs, if_pos q1, pT2, e12, if_pos (Or.inl q13 : tk k12 = -10 ∨ tk k12 = -11), e15]), rfl, ((c15 + 1) + 1), hs17, by omega, kp17, zsC_v (zsC_le sn17 (by omega)) (by simp only [vTs, if_pos q1, vT2, e12, if_pos (Or.inl q13 : tk k12 = -10 ∨ tk k12 = -11)])⟩⟩⟩⟩, rfl⟩
        · refine to_eq (fr' := (65, [(0, .ref 24), (1, .int (nI w)), (2, .int 1), (3, .int (tk k12))], [.int 0], gh S a b sc15 ar15 lo, ex, 0, 0)) rfl ?_
          refine to_n 2 (fr' := (69, [(0, .ref 24), (1, .int (nI w)), (2, .int 1), (3, .int (tk k12))], [.int 0], gh S a b sc15 ar15 lo, ex, 0, 0)) rfl ?_
          exact to_rt (i := .ireturn) (tg := []) rfl rfl ⟨_, _, _, ⟨hI15, hF15, ⟨rl_n (n := 0) (by omega), ⟨k15, cs15, Or.inr ⟨(by simp only [pTs, if_pos q1, pT2, e12, if_pos (Or.inl q13 : tk k12 = -10 ∨ tk k12 = -11), e15]), rfl⟩⟩⟩⟩, rfl⟩
      · refine to_n 1 (fr' := (43, [(0, .ref 24), (1, .int (nI w)), (2, .int 1)], [.ref 24], gh S a b sc12 ar12 lo, ex, 0, 0)) rfl ?_
        refine to_getR (v := (tk k12)) rfl rfl rfl rfl cs12.2.2.2.1 ?_
        refine to_n 1 (fr' := (48, [(0, .ref 24), (1, .int (nI w)), (2, .int 1)], [.int (-11), .int (tk k12)], gh S a b sc12 ar12 lo, ex, 0, 0)) rfl ?_
        refine to_ic_ne (t := 75) rfl (fun q18 => ?_) (fun q18 => ?_)
        · refine to_n 4 (fr' := (82, [(0, .ref 24), (1, .int (nI w)), (2, .int 1)], [.int (-16), .ref 24], gh S a b sc12 ar12 lo, ex, 0, 0)) rfl ?_
          have lt19 := cs12.1
          refine to_cv (q := 52) (M1 := an_X5_emit) (rest := []) rfl rfl (by decide) rfl ⟨_, rfl⟩ (sf_X5_emit hW hI12 (-16) c12 (by omega) ec12 (d + 4)) (fun sc19 ar19 hx19 => ?_)
          obtain ⟨hI19, hG19, hs19, ha19⟩ := hx19
          have hF19 := fr_t hF12 hG19 (by decide) (by decide)
          have cs19 := cs_fr cs12 hG19 (by decide) (by decide)
          have hu19 : ∀ y, y < c12 → ar19 25 y = ar12 25 y := fun y hy => by rw [ha19]; exact ug_ne (by omega)
          have hv19 : ar19 25 c12 = (-16) := by rw [ha19]; exact ug_eq
          have kp19 : ∀ y, y < c → ar19 25 y = ar 25 y := fun y hy => (hu19 y (by omega)).trans (kp12 y hy)
          have sg19_0 := zsC_ag sg12 hu19 (by omega)
          have sn19 := zsC_not (h := h + 1) (zsC_le sg19_0 (by omega)) (by omega) hv19
          refine to_eq (fr' := (85, [(0, .ref 24), (1, .int (nI w)), (2, .int 1)], [], gh S a b sc19 ar19 lo, ex, 0, 0)) rfl ?_
          refine to_n 1 (fr' := (86, [(0, .ref 24), (1, .int (nI w)), (2, .int 1)], [.int 1], gh S a b sc19 ar19 lo, ex, 0, 0)) rfl ?_
          exact to_rt (i := .ireturn) (tg := []) rfl rfl ⟨_, _, _, ⟨hI19, hF19, ⟨rl_n (n := 1) (by omega), ⟨k12, cs19, Or.inl ⟨(by simp only [pTs, if_pos q1, pT2, e12, if_neg (fun w => w.elim q13 q18 : ¬ (tk k12 = -10 ∨ tk k12 = -11))]), rfl, (c12 + 1), hs19, by omega, kp19, zsC_v (zsC_le sn19 (by omega)) (by simp only [vTs, if_pos q1, vT2, e12, if_neg (fun w => w.elim q13 q18 : ¬ (tk k12 = -10 ∨ tk k12 = -11))])⟩⟩⟩⟩, rfl⟩
        · refine to_n 1 (fr' := (52, [(0, .ref 24), (1, .int (nI w)), (2, .int 1)], [.ref 24], gh S a b sc12 ar12 lo, ex, 0, 0)) rfl ?_
          refine to_getR (v := (tk k12)) rfl rfl rfl rfl cs12.2.2.2.1 ?_
          refine to_n 2 (fr' := (57, [(0, .ref 24), (1, .int (nI w)), (2, .int 1), (3, .int (tk k12))], [.ref 24], gh S a b sc12 ar12 lo, ex, 0, 0)) rfl ?_
          have ad20 := ad_up hse cs12.1 (fun w => absurd (q18.symm.trans w) (by decide))
          refine to_cv (q := 53) (M1 := an_X5_advance) (rest := []) rfl rfl (by decide) rfl ⟨_, rfl⟩ (sf_X5_advance hW hI12 k12 sz ⟨cs12.1, hsz⟩ cs12.2.2.1 cs12.2.1 (d + 4)) (fun sc20 ar20 hx20 => ?_)
          obtain ⟨hI20, hG20, hx20⟩ := hx20
          have hF20 := fr_t hF12 hG20 (by decide) (by decide)
          have cs20 := cs_ad cs12 hG20 (by decide) hx20
          have ec20 : sc20 2401 = nI c12 := (hG20.1 2401 (by decide)).trans ec12
          have kp20 : ∀ y, y < c → ar20 25 y = ar 25 y := fun y hy => (congrFun (hG20.2 25 (by decide)) y).trans (kp12 y hy)
          have sg20_0 := zsC_fr sg12 hG20 (by decide)
          refine to_eq (fr' := (60, [(0, .ref 24), (1, .int (nI w)), (2, .int 1), (3, .int (tk k12))], [], gh S a b sc20 ar20 lo, ex, 0, 0)) rfl ?_
          refine to_n 2 (fr' := (62, [(0, .ref 24), (1, .int (nI w)), (2, .int 1), (3, .int (tk k12))], [.int (nI w), .ref 24], gh S a b sc20 ar20 lo, ex, 0, 0)) rfl ?_
          refine to_ci (q := 46) (M1 := an_X5_readSum) (rest := []) rfl rfl (by decide) rfl ⟨_, rfl⟩ (hE sc20 ar20 (ad_ sz k12) c12 (e + 2) hI20 cs20 ec20 (by omega)) (fun x21 sc21 ar21 hx21 => ?_)
          obtain ⟨hI21, hG21, -, k21, cs21, hr21⟩ := hx21
          have hF21 := fr_t hF20 hG21 (by decide) (by decide)
          rcases hr21 with ⟨e21, rfl, c21, ec21, ce21, kq21, sg21⟩ | ⟨e21, rfl⟩
          · have le21 := sg21.1
            have kp21 : ∀ y, y < c → ar21 25 y = ar 25 y := fun y hy => (kq21 y (by omega)).trans (kp20 y hy)
            have sg21_0 := zsC_ag sg20_0 kq21 (by omega)
            refine to_eq (fr' := (65, [(0, .ref 24), (1, .int (nI w)), (2, .int 1), (3, .int (tk k12))], [.int 1], gh S a b sc21 ar21 lo, ex, 0, 0)) rfl ?_
            refine to_n 3 (fr' := (72, [(0, .ref 24), (1, .int (nI w)), (2, .int 1), (3, .int (tk k12))], [.int (tk k12), .ref 24], gh S a b sc21 ar21 lo, ex, 0, 0)) rfl ?_
            have lt22 := cs21.1
            refine to_cv (q := 52) (M1 := an_X5_emit) (rest := []) rfl rfl (by decide) rfl ⟨_, rfl⟩ (sf_X5_emit hW hI21 (tk k12) c21 (by omega) ec21 (d + 4)) (fun sc22 ar22 hx22 => ?_)
            obtain ⟨hI22, hG22, hs22, ha22⟩ := hx22
            have hF22 := fr_t hF21 hG22 (by decide) (by decide)
            have cs22 := cs_fr cs21 hG22 (by decide) (by decide)
            have hu22 : ∀ y, y < c21 → ar22 25 y = ar21 25 y := fun y hy => by rw [ha22]; exact ug_ne (by omega)
            have hv22 : ar22 25 c21 = (tk k12) := by rw [ha22]; exact ug_eq
            have kp22 : ∀ y, y < c → ar22 25 y = ar 25 y := fun y hy => (hu22 y (by omega)).trans (kp21 y hy)
            have sg22_0 := zsC_ag sg21_0 hu22 (by omega)
            have sg22_1 := zsC_ag sg21 hu22 (by omega)
            have sn22 := zsC_bin (h := h + 1) sg22_0 sg22_1 hv22 (zj7_t (v := tk k12) (Or.inr q18)) (by omega) (by omega)
            refine to_eq (fr' := (75, [(0, .ref 24), (1, .int (nI w)), (2, .int 1), (3, .int (tk k12))], [], gh S a b sc22 ar22 lo, ex, 0, 0)) rfl ?_
            refine to_n 4 (fr' := (82, [(0, .ref 24), (1, .int (nI w)), (2, .int 1), (3, .int (tk k12))], [.int (-16), .ref 24], gh S a b sc22 ar22 lo, ex, 0, 0)) rfl ?_
            have lt23 := cs22.1
            refine to_cv (q := 52) (M1 := an_X5_emit) (rest := []) rfl rfl (by decide) rfl ⟨_, rfl⟩ (sf_X5_emit hW hI22 (-16) (c21 + 1) (by omega) hs22 (d + 4)) (fun sc23 ar23 hx23 => ?_)
            obtain ⟨hI23, hG23, hs23, ha23⟩ := hx23
            have hF23 := fr_t hF22 hG23 (by decide) (by decide)
            have cs23 := cs_fr cs22 hG23 (by decide) (by decide)
            have hu23 : ∀ y, y < (c21 + 1) → ar23 25 y = ar22 25 y := fun y hy => by rw [ha23]; exact ug_ne (by omega)
            have hv23 : ar23 25 (c21 + 1) = (-16) := by rw [ha23]; exact ug_eq
            have kp23 : ∀ y, y < c → ar23 25 y = ar 25 y := fun y hy => (hu23 y (by omega)).trans (kp22 y hy)
            have sg23_0 := zsC_ag sn22 hu23 (by omega)
            have sn23 := zsC_not (h := h + 1) (zsC_le sg23_0 (by omega)) (by omega) hv23
            refine to_eq (fr' := (85, [(0, .ref 24), (1, .int (nI w)), (2, .int 1), (3, .int (tk k12))], [], gh S a b sc23 ar23 lo, ex, 0, 0)) rfl ?_
            refine to_n 1 (fr' := (86, [(0, .ref 24), (1, .int (nI w)), (2, .int 1), (3, .int (tk k12))], [.int 1], gh S a b sc23 ar23 lo, ex, 0, 0)) rfl ?_
            exact to_rt (i := .ireturn) (tg := []) rfl rfl ⟨_, _, _, ⟨hI23, hF23, ⟨rl_n (n := 1) (by omega), ⟨k21, cs23, Or.inl ⟨(by simp only [pTs, if_pos q1, pT2, e12, if_pos (Or.inr q18 : tk k12 = -10 ∨ tk k12 = -11), e21]), rfl, ((c21 + 1) + 1), hs23, by omega, kp23, zsC_v (zsC_le sn23 (by omega)) (by simp only [vTs, if_pos q1, vT2, e12, if_pos (Or.inr q18 : tk k12 = -10 ∨ tk k12 = -11)])⟩⟩⟩⟩, rfl⟩
          · refine to_eq (fr' := (65, [(0, .ref 24), (1, .int (nI w)), (2, .int 1), (3, .int (tk k12))], [.int 0], gh S a b sc21 ar21 lo, ex, 0, 0)) rfl ?_
            refine to_n 2 (fr' := (69, [(0, .ref 24), (1, .int (nI w)), (2, .int 1), (3, .int (tk k12))], [.int 0], gh S a b sc21 ar21 lo, ex, 0, 0)) rfl ?_
            exact to_rt (i := .ireturn) (tg := []) rfl rfl ⟨_, _, _, ⟨hI21, hF21, ⟨rl_n (n := 0) (by omega), ⟨k21, cs21, Or.inr ⟨(by simp only [pTs, if_pos q1, pT2, e12, if_pos (Or.inr q18 : tk k12 = -10 ∨ tk k12 = -11), e21]), rfl⟩⟩⟩⟩, rfl⟩
    · refine to_eq (fr' := (28, [(0, .ref 24), (1, .int (nI w)), (2, .int 1)], [.int 0], gh S a b sc12 ar12 lo, ex, 0, 0)) rfl ?_
      refine to_n 2 (fr' := (32, [(0, .ref 24), (1, .int (nI w)), (2, .int 1)], [.int 0], gh S a b sc12 ar12 lo, ex, 0, 0)) rfl ?_
      exact to_rt (i := .ireturn) (tg := []) rfl rfl ⟨_, _, _, ⟨hI12, hF12, ⟨rl_n (n := 0) (by omega), ⟨k12, cs12, Or.inr ⟨(by simp only [pTs, if_pos q1, pT2, e12]), rfl⟩⟩⟩⟩, rfl⟩
set_option maxRecDepth 20000 in
theorem cr_readExpr {X : Nat × (Nat → Int32)} {S a b : Nat} {lo : Nat → Int64} {ex : Bool} {tk : Nat → Int32} {sz : Nat} (hW : Wd S a b) (hse : Se tk sz) (w : Nat) (hw : w < 13) (h : Nat) (hh : 1 ≤ h) (hw6 : w < 6) (E : Nat → Nat ⊕ Nat) (vE : Nat → zVal) (hpg : pg_ sz (pTs tk sz E)) (d : Nat) (hE : CrOk X S a b lo ex tk sz (d + 6) 45 w h (pTs tk sz E) (vTs tk sz E vE)) : CrOk X S a b lo ex tk sz (d + 7) 44 w (h + 1) (pE1 tk sz E) (vE1 tk sz E vE) := by
  obtain ⟨ha1, ha8, hb1, hb8, hab, hS1, hS⟩ := id hW
  have hsz := hse.2.1
  intro sc ar j c e hI hc ec hce
  have hj := hc.1
  refine ci_of (M := an_X5_readExpr) rfl (Nat.le_of_ble_eq_true rfl) ?_
  have hF : Fr [2401, 2402, 2404, 2405] [25] sc ar sc ar := fr_0
  refine to_eq (fr' := (0, [(0, .ref 24), (1, .int (nI w))], [], gh S a b sc ar lo, ex, 0, 0)) rfl ?_
  have c47 : ∀ m : Nat, ∀ (i : Nat) (j1 : Nat) (c1 : Nat) (sc1 : Nat → Int32) (ar1 : Nat → Nat → Int32), i + m = 400 → Cs tk sz j1 sc1 ar1 → pE1 tk sz E j = pLp tk sz [-14, -15] (pTs tk sz E) (401 - i) j1 → i + 1 ≤ j1 → sc1 2401 = nI c1 → c1 + e ≤ j1 → (∀ y, y < c → ar1 25 y = ar 25 y) → (∃ W : zVal, zsC (ar1 25) c c1 (h + 1) W ∧ vE1 tk sz E vE j = vLp tk sz [-14, -15] (pTs tk sz E) (vTs tk sz E vE) (401 - i) j1 W) → Iv S sc1 ar1 → Fr [2401, 2402, 2404, 2405] [25] sc ar sc1 ar1 → ag_To X (d + 6) an_X5_readExpr (47, [(0, .ref 24), (1, .int (nI w)), (2, .int (nI i))], [], gh S a b sc1 ar1 lo, ex, 0, 0) (qi S a b lo ex (fun x sc' ar' => Iv S sc' ar' ∧ Fr [2401, 2402, 2404, 2405] [25] sc ar sc' ar' ∧ rl x 2 ∧ (∃ k, Cs tk sz k sc' ar' ∧ ((pE1 tk sz E j = .inl k ∧ x = 1 ∧ ∃ c' : Nat, sc' 2401 = nI c' ∧ c' + e ≤ k ∧ (∀ y, y < c → ar' 25 y = ar 25 y) ∧ zsC (ar' 25) c c' (h + 1) (vE1 tk sz E vE j)) ∨ (pE1 tk sz E j = .inr k ∧ x = 0))))) := by
    intro m
    induction m with
    | zero =>
      intro i j1 c1 sc1 ar1 hm hc47_0 hc47_1 hc47_2 hc47_3 hc47_4 hc47_5 hc47_6 hI1 hF1
      have hj1 := hc47_0.1
      exfalso
      omega
    | succ m ih =>
      intro i j1 c1 sc1 ar1 hm hc47_0 hc47_1 hc47_2 hc47_3 hc47_4 hc47_5 hc47_6 hI1 hF1
      have hj1 := hc47_0.1
      obtain ⟨W, sw47, ew47⟩ := hc47_6
      have lw47 := sw47.1
      refine to_n 2 (fr' := (51, [(0, .ref 24), (1, .int (nI w)), (2, .int (nI i))], [.int 400, .int (nI i)], gh S a b sc1 ar1 lo, ex, 0, 0)) rfl ?_
      refine to_nc_ge_F (t := 102) (x := i) (y := 400) rfl (by omega) (by omega) (by omega) ?_
      refine to_n 1 (fr' := (55, [(0, .ref 24), (1, .int (nI w)), (2, .int (nI i))], [.ref 24], gh S a b sc1 ar1 lo, ex, 0, 0)) rfl ?_
      refine to_getR (v := (tk j1)) rfl rfl rfl rfl hc47_0.2.2.2.1 ?_
      refine to_n 1 (fr' := (60, [(0, .ref 24), (1, .int (nI w)), (2, .int (nI i))], [.int (-14), .int (tk j1)], gh S a b sc1 ar1 lo, ex, 0, 0)) rfl ?_
      refine to_ic_eq (t := 72) rfl (fun q2 => ?_) (fun q2 => ?_)
      · refine to_n 1 (fr' := (73, [(0, .ref 24), (1, .int (nI w)), (2, .int (nI i))], [.ref 24], gh S a b sc1 ar1 lo, ex, 0, 0)) rfl ?_
        refine to_getR (v := (tk j1)) rfl rfl rfl rfl hc47_0.2.2.2.1 ?_
        refine to_n 2 (fr' := (78, [(0, .ref 24), (1, .int (nI w)), (2, .int (nI i)), (3, .int (tk j1))], [.ref 24], gh S a b sc1 ar1 lo, ex, 0, 0)) rfl ?_
        have ad3 := ad_up hse hc47_0.1 (jm_1 (c := tk j1) (J := [-14, -15]) (by rw [q2]; decide) (by decide))
        refine to_cv (q := 53) (M1 := an_X5_advance) (rest := []) rfl rfl (by decide) rfl ⟨_, rfl⟩ (sf_X5_advance hW hI1 j1 sz ⟨hc47_0.1, hsz⟩ hc47_0.2.2.1 hc47_0.2.1 (d + 5)) (fun sc3 ar3 hx3 => ?_)
        obtain ⟨hI3, hG3, hx3⟩ := hx3
        have hF3 := fr_t hF1 hG3 (by decide) (by decide)
        have cs3 := cs_ad hc47_0 hG3 (by decide) hx3
        have ec3 : sc3 2401 = nI c1 := (hG3.1 2401 (by decide)).trans hc47_3
        have kp3 : ∀ y, y < c → ar3 25 y = ar 25 y := fun y hy => (congrFun (hG3.2 25 (by decide)) y).trans (hc47_5 y hy)
        have sg3_0 := zsC_fr sw47 hG3 (by decide)
        refine to_eq (fr' := (81, [(0, .ref 24), (1, .int (nI w)), (2, .int (nI i)), (3, .int (tk j1))], [], gh S a b sc3 ar3 lo, ex, 0, 0)) rfl ?_
        refine to_n 2 (fr' := (83, [(0, .ref 24), (1, .int (nI w)), (2, .int (nI i)), (3, .int (tk j1))], [.int (nI w), .ref 24], gh S a b sc3 ar3 lo, ex, 0, 0)) rfl ?_
        refine to_ci (q := 45) (M1 := an_X5_readTest) (rest := []) rfl rfl (by decide) rfl ⟨_, rfl⟩ (hE sc3 ar3 (ad_ sz j1) c1 (e + 1) hI3 cs3 ec3 (by omega)) (fun x4 sc4 ar4 hx4 => ?_)
        obtain ⟨hI4, hG4, -, k4, cs4, hr4⟩ := hx4
        have hF4 := fr_t hF3 hG4 (by decide) (by decide)
        rcases hr4 with ⟨e4, rfl, c4, ec4, ce4, kq4, sg4⟩ | ⟨e4, rfl⟩
        · have le4 := sg4.1
          have kp4 : ∀ y, y < c → ar4 25 y = ar 25 y := fun y hy => (kq4 y (by omega)).trans (kp3 y hy)
          have sg4_0 := zsC_ag sg3_0 kq4 (by omega)
          refine to_eq (fr' := (86, [(0, .ref 24), (1, .int (nI w)), (2, .int (nI i)), (3, .int (tk j1))], [.int 1], gh S a b sc4 ar4 lo, ex, 0, 0)) rfl ?_
          refine to_n 3 (fr' := (93, [(0, .ref 24), (1, .int (nI w)), (2, .int (nI i)), (3, .int (tk j1))], [.int (tk j1), .ref 24], gh S a b sc4 ar4 lo, ex, 0, 0)) rfl ?_
          have lt5 := cs4.1
          refine to_cv (q := 52) (M1 := an_X5_emit) (rest := []) rfl rfl (by decide) rfl ⟨_, rfl⟩ (sf_X5_emit hW hI4 (tk j1) c4 (by omega) ec4 (d + 5)) (fun sc5 ar5 hx5 => ?_)
          obtain ⟨hI5, hG5, hs5, ha5⟩ := hx5
          have hF5 := fr_t hF4 hG5 (by decide) (by decide)
          have cs5 := cs_fr cs4 hG5 (by decide) (by decide)
          have hu5 : ∀ y, y < c4 → ar5 25 y = ar4 25 y := fun y hy => by rw [ha5]; exact ug_ne (by omega)
          have hv5 : ar5 25 c4 = (tk j1) := by rw [ha5]; exact ug_eq
          have kp5 : ∀ y, y < c → ar5 25 y = ar 25 y := fun y hy => (hu5 y (by omega)).trans (kp4 y hy)
          have sg5_0 := zsC_ag sg4_0 hu5 (by omega)
          have sg5_1 := zsC_ag sg4 hu5 (by omega)
          have sn5 := zsC_bin (h := h + 1) sg5_0 sg5_1 hv5 (zj7_e (show tk j1 ∈ ([-14, -15] : List Int32) from (by rw [q2]; decide))) (by omega) (by omega)
          refine to_eq (fr' := (96, [(0, .ref 24), (1, .int (nI w)), (2, .int (nI i)), (3, .int (tk j1))], [], gh S a b sc5 ar5 lo, ex, 0, 0)) rfl ?_
          refine to_n 1 (fr' := (99, [(0, .ref 24), (1, .int (nI w)), (2, .int ((nI i) + 1)), (3, .int (tk j1))], [], gh S a b sc5 ar5 lo, ex, 0, 0)) rfl ?_
          rw [nI_1 i]
          refine to_n 1 (fr' := (47, [(0, .ref 24), (1, .int (nI w)), (2, .int (nI (i + 1))), (3, .int (tk j1))], [], gh S a b sc5 ar5 lo, ex, 0, 0)) rfl ?_
          refine to_lv (lv := [(0, .ref 24), (1, .int (nI w)), (2, .int (nI (i + 1)))]) rfl ⟨rfl, rfl, rfl, trivial⟩ ?_
          exact ih (i + 1) k4 (c4 + 1) sc5 ar5 (by omega) cs5 (hc47_1.trans (by rw [show 401 - i = (401 - (i + 1)) + 1 by omega]; exact pl_on (by rw [q2]; decide) e4)) (by have := pl_gt (J := [-14, -15]) hse hpg hc47_0.1 (by rw [q2]; decide) (by decide) e4; omega) hs5 (by omega) kp5 ⟨_, sn5, ew47.trans (by rw [show 401 - i = (401 - (i + 1)) + 1 by omega]; exact vl_on (by rw [q2]; decide) e4)⟩ hI5 hF5
        · refine to_eq (fr' := (86, [(0, .ref 24), (1, .int (nI w)), (2, .int (nI i)), (3, .int (tk j1))], [.int 0], gh S a b sc4 ar4 lo, ex, 0, 0)) rfl ?_
          refine to_n 2 (fr' := (90, [(0, .ref 24), (1, .int (nI w)), (2, .int (nI i)), (3, .int (tk j1))], [.int 0], gh S a b sc4 ar4 lo, ex, 0, 0)) rfl ?_
          exact to_rt (i := .ireturn) (tg := []) rfl rfl ⟨_, _, _, ⟨hI4, hF4, ⟨rl_n (n := 0) (by omega), ⟨k4, cs4, Or.inr ⟨(hc47_1.trans (by rw [show 401 - i = (400 - i) + 1 by omega]; exact pl_bad (by rw [q2]; decide) e4)), rfl⟩⟩⟩⟩, rfl⟩
      · refine to_n 1 (fr' := (64, [(0, .ref 24), (1, .int (nI w)), (2, .int (nI i))], [.ref 24], gh S a b sc1 ar1 lo, ex, 0, 0)) rfl ?_
        refine to_getR (v := (tk j1)) rfl rfl rfl rfl hc47_0.2.2.2.1 ?_
        refine to_n 1 (fr' := (69, [(0, .ref 24), (1, .int (nI w)), (2, .int (nI i))], [.int (-15), .int (tk j1)], gh S a b sc1 ar1 lo, ex, 0, 0)) rfl ?_
        refine to_ic_ne (t := 102) rfl (fun q6 => ?_) (fun q6 => ?_)
        · refine to_n 1 (fr' := (103, [(0, .ref 24), (1, .int (nI w)), (2, .int (nI i))], [.int 1], gh S a b sc1 ar1 lo, ex, 0, 0)) rfl ?_
          exact to_rt (i := .ireturn) (tg := []) rfl rfl ⟨_, _, _, ⟨hI1, hF1, ⟨rl_n (n := 1) (by omega), ⟨j1, hc47_0, Or.inl ⟨(hc47_1.trans (by rw [show 401 - i = (400 - i) + 1 by omega]; exact pl_out (by simp only [List.mem_cons, List.not_mem_nil, or_false, not_or]; exact ⟨q2, q6⟩))), rfl, c1, hc47_3, by omega, hc47_5, zsC_v (zsC_le sw47 (by omega)) (ew47.trans (by rw [show 401 - i = (400 - i) + 1 by omega]; exact vl_out (by simp only [List.mem_cons, List.not_mem_nil, or_false, not_or]; exact ⟨q2, q6⟩)))⟩⟩⟩⟩, rfl⟩
        · refine to_n 1 (fr' := (73, [(0, .ref 24), (1, .int (nI w)), (2, .int (nI i))], [.ref 24], gh S a b sc1 ar1 lo, ex, 0, 0)) rfl ?_
          refine to_getR (v := (tk j1)) rfl rfl rfl rfl hc47_0.2.2.2.1 ?_
          refine to_n 2 (fr' := (78, [(0, .ref 24), (1, .int (nI w)), (2, .int (nI i)), (3, .int (tk j1))], [.ref 24], gh S a b sc1 ar1 lo, ex, 0, 0)) rfl ?_
          have ad7 := ad_up hse hc47_0.1 (jm_1 (c := tk j1) (J := [-14, -15]) (by rw [q6]; decide) (by decide))
          refine to_cv (q := 53) (M1 := an_X5_advance) (rest := []) rfl rfl (by decide) rfl ⟨_, rfl⟩ (sf_X5_advance hW hI1 j1 sz ⟨hc47_0.1, hsz⟩ hc47_0.2.2.1 hc47_0.2.1 (d + 5)) (fun sc7 ar7 hx7 => ?_)
          obtain ⟨hI7, hG7, hx7⟩ := hx7
          have hF7 := fr_t hF1 hG7 (by decide) (by decide)
          have cs7 := cs_ad hc47_0 hG7 (by decide) hx7
          have ec7 : sc7 2401 = nI c1 := (hG7.1 2401 (by decide)).trans hc47_3
          have kp7 : ∀ y, y < c → ar7 25 y = ar 25 y := fun y hy => (congrFun (hG7.2 25 (by decide)) y).trans (hc47_5 y hy)
          have sg7_0 := zsC_fr sw47 hG7 (by decide)
          refine to_eq (fr' := (81, [(0, .ref 24), (1, .int (nI w)), (2, .int (nI i)), (3, .int (tk j1))], [], gh S a b sc7 ar7 lo, ex, 0, 0)) rfl ?_
          refine to_n 2 (fr' := (83, [(0, .ref 24), (1, .int (nI w)), (2, .int (nI i)), (3, .int (tk j1))], [.int (nI w), .ref 24], gh S a b sc7 ar7 lo, ex, 0, 0)) rfl ?_
          refine to_ci (q := 45) (M1 := an_X5_readTest) (rest := []) rfl rfl (by decide) rfl ⟨_, rfl⟩ (hE sc7 ar7 (ad_ sz j1) c1 (e + 1) hI7 cs7 ec7 (by omega)) (fun x8 sc8 ar8 hx8 => ?_)
          obtain ⟨hI8, hG8, -, k8, cs8, hr8⟩ := hx8
          have hF8 := fr_t hF7 hG8 (by decide) (by decide)
          rcases hr8 with ⟨e8, rfl, c8, ec8, ce8, kq8, sg8⟩ | ⟨e8, rfl⟩
          · have le8 := sg8.1
            have kp8 : ∀ y, y < c → ar8 25 y = ar 25 y := fun y hy => (kq8 y (by omega)).trans (kp7 y hy)
            have sg8_0 := zsC_ag sg7_0 kq8 (by omega)
            refine to_eq (fr' := (86, [(0, .ref 24), (1, .int (nI w)), (2, .int (nI i)), (3, .int (tk j1))], [.int 1], gh S a b sc8 ar8 lo, ex, 0, 0)) rfl ?_
            refine to_n 3 (fr' := (93, [(0, .ref 24), (1, .int (nI w)), (2, .int (nI i)), (3, .int (tk j1))], [.int (tk j1), .ref 24], gh S a b sc8 ar8 lo, ex, 0, 0)) rfl ?_
            have lt9 := cs8.1
            refine to_cv (q := 52) (M1 := an_X5_emit) (rest := []) rfl rfl (by decide) rfl ⟨_, rfl⟩ (sf_X5_emit hW hI8 (tk j1) c8 (by omega) ec8 (d + 5)) (fun sc9 ar9 hx9 => ?_)
            obtain ⟨hI9, hG9, hs9, ha9⟩ := hx9
            have hF9 := fr_t hF8 hG9 (by decide) (by decide)
            have cs9 := cs_fr cs8 hG9 (by decide) (by decide)
            have hu9 : ∀ y, y < c8 → ar9 25 y = ar8 25 y := fun y hy => by rw [ha9]; exact ug_ne (by omega)
            have hv9 : ar9 25 c8 = (tk j1) := by rw [ha9]; exact ug_eq
            have kp9 : ∀ y, y < c → ar9 25 y = ar 25 y := fun y hy => (hu9 y (by omega)).trans (kp8 y hy)
            have sg9_0 := zsC_ag sg8_0 hu9 (by omega)
            have sg9_1 := zsC_ag sg8 hu9 (by omega)
            have sn9 := zsC_bin (h := h + 1) sg9_0 sg9_1 hv9 (zj7_e (show tk j1 ∈ ([-14, -15] : List Int32) from (by rw [q6]; decide))) (by omega) (by omega)
            refine to_eq (fr' := (96, [(0, .ref 24), (1, .int (nI w)), (2, .int (nI i)), (3, .int (tk j1))], [], gh S a b sc9 ar9 lo, ex, 0, 0)) rfl ?_
            refine to_n 1 (fr' := (99, [(0, .ref 24), (1, .int (nI w)), (2, .int ((nI i) + 1)), (3, .int (tk j1))], [], gh S a b sc9 ar9 lo, ex, 0, 0)) rfl ?_
            rw [nI_1 i]
            refine to_n 1 (fr' := (47, [(0, .ref 24), (1, .int (nI w)), (2, .int (nI (i + 1))), (3, .int (tk j1))], [], gh S a b sc9 ar9 lo, ex, 0, 0)) rfl ?_
            refine to_lv (lv := [(0, .ref 24), (1, .int (nI w)), (2, .int (nI (i + 1)))]) rfl ⟨rfl, rfl, rfl, trivial⟩ ?_
            exact ih (i + 1) k8 (c8 + 1) sc9 ar9 (by omega) cs9 (hc47_1.trans (by rw [show 401 - i = (401 - (i + 1)) + 1 by omega]; exact pl_on (by rw [q6]; decide) e8)) (by have := pl_gt (J := [-14, -15]) hse hpg hc47_0.1 (by rw [q6]; decide) (by decide) e8; omega) hs9 (by omega) kp9 ⟨_, sn9, ew47.trans (by rw [show 401 - i = (401 - (i + 1)) + 1 by omega]; exact vl_on (by rw [q6]; decide) e8)⟩ hI9 hF9
          · refine to_eq (fr' := (86, [(0, .ref 24), (1, .int (nI w)), (2, .int (nI i)), (3, .int (tk j1))], [.int 0], gh S a b sc8 ar8 lo, ex, 0, 0)) rfl ?_
            refine to_n 2 (fr' := (90, [(0, .ref 24), (1, .int (nI w)), (2, .int (nI i)), (3, .int (tk j1))], [.int 0], gh S a b sc8 ar8 lo, ex, 0, 0)) rfl ?_
            exact to_rt (i := .ireturn) (tg := []) rfl rfl ⟨_, _, _, ⟨hI8, hF8, ⟨rl_n (n := 0) (by omega), ⟨k8, cs8, Or.inr ⟨(hc47_1.trans (by rw [show 401 - i = (400 - i) + 1 by omega]; exact pl_bad (by rw [q6]; decide) e8)), rfl⟩⟩⟩⟩, rfl⟩
  refine to_n 2 (fr' := (3, [(0, .ref 24), (1, .int (nI w))], [.int 6, .int (nI w)], gh S a b sc ar lo, ex, 0, 0)) rfl ?_
  refine to_nc_lt_T (t := 35) (x := w) (y := 6) rfl (by omega) (by omega) (by omega) ?_
  refine to_n 2 (fr' := (37, [(0, .ref 24), (1, .int (nI w))], [.int (nI w), .ref 24], gh S a b sc ar lo, ex, 0, 0)) rfl ?_
  refine to_ci (q := 45) (M1 := an_X5_readTest) (rest := []) rfl rfl (by decide) rfl ⟨_, rfl⟩ (hE sc ar j c e hI hc ec (by omega)) (fun x10 sc10 ar10 hx10 => ?_)
  obtain ⟨hI10, hG10, -, k10, cs10, hr10⟩ := hx10
  have hF10 := fr_t hF hG10 (by decide) (by decide)
  rcases hr10 with ⟨e10, rfl, c10, ec10, ce10, kq10, sg10⟩ | ⟨e10, rfl⟩
  · have le10 := sg10.1
    have kp10 : ∀ y, y < c → ar10 25 y = ar 25 y := fun y hy => (kq10 y (by omega)).trans ((fun _ _ => rfl) y hy)
    refine to_eq (fr' := (40, [(0, .ref 24), (1, .int (nI w))], [.int 1], gh S a b sc10 ar10 lo, ex, 0, 0)) rfl ?_
    refine to_n 3 (fr' := (47, [(0, .ref 24), (1, .int (nI w)), (2, .int 0)], [], gh S a b sc10 ar10 lo, ex, 0, 0)) rfl ?_
    exact c47 (400 - 0) 0 k10 c10 sc10 ar10 (by omega) cs10 (by simp only [pE1, e10]) (by have := (hpg j _ hc.1 e10).1; omega) ec10 (by omega) kp10 ⟨_, zsC_le sg10 (by omega), by simp only [vE1, e10]⟩ hI10 hF10
  · refine to_eq (fr' := (40, [(0, .ref 24), (1, .int (nI w))], [.int 0], gh S a b sc10 ar10 lo, ex, 0, 0)) rfl ?_
    refine to_n 2 (fr' := (44, [(0, .ref 24), (1, .int (nI w))], [.int 0], gh S a b sc10 ar10 lo, ex, 0, 0)) rfl ?_
    exact to_rt (i := .ireturn) (tg := []) rfl rfl ⟨_, _, _, ⟨hI10, hF10, ⟨rl_n (n := 0) (by omega), ⟨k10, cs10, Or.inr ⟨(by simp only [pE1, e10]), rfl⟩⟩⟩⟩, rfl⟩
set_option maxRecDepth 20000 in
theorem cr_readExpr6 {X : Nat × (Nat → Int32)} {S a b : Nat} {lo : Nat → Int64} {ex : Bool} {tk : Nat → Int32} {sz : Nat} (hW : Wd S a b) (hse : Se tk sz)  (h : Nat) (hh : 1 ≤ h)  (d : Nat)  : CrOk X S a b lo ex tk sz (d + 4) 44 6 h (Sum.inr) (fun (_ : Nat) (_ : Nat → Int32) => (0 : Int32)) := by
  obtain ⟨ha1, ha8, hb1, hb8, hab, hS1, hS⟩ := id hW
  have hsz := hse.2.1
  intro sc ar j c e hI hc ec hce
  have hj := hc.1
  refine ci_of (M := an_X5_readExpr) rfl (Nat.le_of_ble_eq_true rfl) ?_
  have hF : Fr [2401, 2402, 2404, 2405] [25] sc ar sc ar := fr_0
  refine to_eq (fr' := (0, [(0, .ref 24), (1, .int 6)], [], gh S a b sc ar lo, ex, 0, 0)) rfl ?_
  refine to_n 5 (fr' := (8, [(0, .ref 24), (1, .int 6)], [.ref 24, .ref 24], gh S a b sc ar lo, ex, 0, 0)) rfl ?_
  refine to_getR (v := (tk j)) rfl rfl rfl rfl hc.2.2.2.1 ?_
  refine to_n 1 (fr' := (13, [(0, .ref 24), (1, .int 6)], [.int (-16), .int (tk j), .ref 24], gh S a b sc ar lo, ex, 0, 0)) rfl ?_
  refine to_ic_eq (t := 23) rfl (fun q1 => ?_) (fun q1 => ?_)
  · refine to_n 2 (fr' := (31, [(0, .ref 24), (1, .int 6)], [.int 2, .ref 24], gh S a b sc ar lo, ex, 0, 0)) rfl ?_
    refine to_ci (q := 51) (M1 := an_X5_fail) (rest := []) rfl rfl (by decide) rfl ⟨_, rfl⟩ (sf_X5_fail hW hI 2 (d + 2)) (fun x2 sc2 ar2 hx2 => ?_)
    obtain ⟨hI2, hG2, rfl⟩ := hx2
    have hF2 := fr_t hF hG2 (by decide) (by decide)
    have cs2 := cs_fr hc hG2 (by decide) (by decide)
    refine to_eq (fr' := (34, [(0, .ref 24), (1, .int 6)], [.int 0], gh S a b sc2 ar2 lo, ex, 0, 0)) rfl ?_
    exact to_rt (i := .ireturn) (tg := []) rfl rfl ⟨_, _, _, ⟨hI2, hF2, ⟨rl_n (n := 0) (by omega), ⟨j, cs2, Or.inr ⟨rfl, rfl⟩⟩⟩⟩, rfl⟩
  · refine to_n 1 (fr' := (17, [(0, .ref 24), (1, .int 6)], [.ref 24, .ref 24], gh S a b sc ar lo, ex, 0, 0)) rfl ?_
    refine to_cp (q := 49) (M1 := an_X5_beginsPart) (rest := [.ref 24]) rfl rfl (by decide) rfl ⟨_, rfl⟩ (sf_X5_beginsPart hW hI (d + 1)) (fun x3 hx3 => ?_)
    obtain ⟨n3, hn3, rfl⟩ := hx3
    refine to_eq (fr' := (20, [(0, .ref 24), (1, .int 6)], [.int (nI n3), .ref 24], gh S a b sc ar lo, ex, 0, 0)) rfl ?_
    refine to_nf_eq (t := 27) (x := n3) rfl (by omega) (fun q4 => ?_) (fun q4 => ?_)
    · refine to_n 1 (fr' := (28, [(0, .ref 24), (1, .int 6)], [.ref 24, .ref 24], gh S a b sc ar lo, ex, 0, 0)) rfl ?_
      refine to_cp (q := 50) (M1 := an_X5_faultOfPart) (rest := [.ref 24]) rfl rfl (by decide) rfl ⟨_, rfl⟩ (sf_X5_faultOfPart hW hI (d + 2)) (fun x5 hx5 => ?_)
      refine to_eq (fr' := (31, [(0, .ref 24), (1, .int 6)], [.int x5, .ref 24], gh S a b sc ar lo, ex, 0, 0)) rfl ?_
      refine to_ci (q := 51) (M1 := an_X5_fail) (rest := []) rfl rfl (by decide) rfl ⟨_, rfl⟩ (sf_X5_fail hW hI x5 (d + 2)) (fun x6 sc6 ar6 hx6 => ?_)
      obtain ⟨hI6, hG6, rfl⟩ := hx6
      have hF6 := fr_t hF hG6 (by decide) (by decide)
      have cs6 := cs_fr hc hG6 (by decide) (by decide)
      refine to_eq (fr' := (34, [(0, .ref 24), (1, .int 6)], [.int 0], gh S a b sc6 ar6 lo, ex, 0, 0)) rfl ?_
      exact to_rt (i := .ireturn) (tg := []) rfl rfl ⟨_, _, _, ⟨hI6, hF6, ⟨rl_n (n := 0) (by omega), ⟨j, cs6, Or.inr ⟨rfl, rfl⟩⟩⟩⟩, rfl⟩
    · refine to_n 2 (fr' := (31, [(0, .ref 24), (1, .int 6)], [.int 2, .ref 24], gh S a b sc ar lo, ex, 0, 0)) rfl ?_
      refine to_ci (q := 51) (M1 := an_X5_fail) (rest := []) rfl rfl (by decide) rfl ⟨_, rfl⟩ (sf_X5_fail hW hI 2 (d + 2)) (fun x7 sc7 ar7 hx7 => ?_)
      obtain ⟨hI7, hG7, rfl⟩ := hx7
      have hF7 := fr_t hF hG7 (by decide) (by decide)
      have cs7 := cs_fr hc hG7 (by decide) (by decide)
      refine to_eq (fr' := (34, [(0, .ref 24), (1, .int 6)], [.int 0], gh S a b sc7 ar7 lo, ex, 0, 0)) rfl ?_
      exact to_rt (i := .ireturn) (tg := []) rfl rfl ⟨_, _, _, ⟨hI7, hF7, ⟨rl_n (n := 0) (by omega), ⟨j, cs7, Or.inr ⟨rfl, rfl⟩⟩⟩⟩, rfl⟩
