/-! BREAKS: counting -/
noncomputable def zcp (P : Nat → Prop) : Nat → Nat
  | 0 => 0
  | n + 1 => zcp P n + @ite _ (P n) (Classical.propDecidable _) 1 0
theorem zcp_y {P : Nat → Prop} {n : Nat} (h : P n) : zcp P (n + 1) = zcp P n + 1 := by
  unfold zcp
  rw [if_pos h]
  cases n <;> rfl
theorem zcp_n {P : Nat → Prop} {n : Nat} (h : ¬ P n) : zcp P (n + 1) = zcp P n := by
  show zcp P n + @ite _ (P n) (Classical.propDecidable _) 1 0 = _
  rw [if_neg h]
  rfl
theorem zcp_le {P Q : Nat → Prop} : ∀ n, (∀ k, k < n → P k → Q k) → zcp P n ≤ zcp Q n
  | 0, _ => Nat.le_refl _
  | n + 1, h => by
    have ih := zcp_le n (fun k hk => h k (by omega))
    by_cases p : P n
    · rw [zcp_y p, zcp_y (h n (by omega) p)]
      omega
    · rw [zcp_n p]
      by_cases q : Q n
      · rw [zcp_y q]
        omega
      · rw [zcp_n q]
        exact ih
theorem zcp_eq {P Q : Nat → Prop} (n : Nat) (h : ∀ k, k < n → (P k ↔ Q k)) : zcp P n = zcp Q n := Nat.le_antisymm (zcp_le n (fun k hk => (h k hk).mp)) (zcp_le n (fun k hk => (h k hk).mpr))
/-- two that exclude each other -/
theorem zcp_or {P Q : Nat → Prop} : ∀ n, (∀ k, k < n → P k → ¬ Q k) → zcp (fun k => P k ∨ Q k) n = zcp P n + zcp Q n
  | 0, _ => rfl
  | n + 1, h => by
    have ih := zcp_or n (fun k hk => h k (by omega))
    by_cases p : P n
    · rw [zcp_y (P := fun k => P k ∨ Q k) (Or.inl p), zcp_y p, zcp_n (h n (by omega) p), ih]
      omega
    · by_cases q : Q n
      · rw [zcp_y (P := fun k => P k ∨ Q k) (Or.inr q), zcp_n p, zcp_y q, ih]
        omega
      · rw [zcp_n (P := fun k => P k ∨ Q k) (fun w => w.elim p q), zcp_n p, zcp_n q, ih]
/-- one taken out -/
theorem zcp_out {P : Nat → Prop} {d : Nat} : ∀ n, d < n → P d → zcp P n = zcp (fun k => P k ∧ ¬ k = d) n + 1
  | 0, h, _ => absurd h (Nat.not_lt_zero _)
  | n + 1, h, p => by
    by_cases e : d = n
    · subst e
      rw [zcp_y p, zcp_n (P := fun k => P k ∧ ¬ k = d) (fun w => w.2 rfl)]
      exact congrArg (· + 1) (zcp_eq d (fun k hk => ⟨fun w => ⟨w, by omega⟩, fun w => w.1⟩))
    · have ih := zcp_out n (by omega) p
      by_cases q : P n
      · rw [zcp_y q, zcp_y (P := fun k => P k ∧ ¬ k = d) ⟨q, fun w => e w.symm⟩, ih]
      · rw [zcp_n q, zcp_n (P := fun k => P k ∧ ¬ k = d) (fun w => q w.1), ih]
/-- a map that loses nothing -/
theorem zcp_in {f : Nat → Nat} {S : Nat} : ∀ (n : Nat) (P Q : Nat → Prop), (∀ c, c < n → P c → f c < S ∧ Q (f c)) → (∀ c c', c < n → c' < n → P c → P c' → f c = f c' → c = c') → zcp P n ≤ zcp Q S
  | 0, _, _, _, _ => Nat.zero_le _
  | n + 1, P, Q, h, g => by
    by_cases p : P n
    · obtain ⟨h1, h2⟩ := h n (by omega) p
      rw [zcp_y p, zcp_out S h1 h2]
      have := zcp_in n P (fun k => Q k ∧ ¬ k = f n) (fun c hc pc => ⟨(h c (by omega) pc).1, (h c (by omega) pc).2, fun e => by
        have := g c n (by omega) (by omega) pc p e
        omega⟩) (fun c c' hc hc' => g c c' (by omega) (by omega))
      omega
    · rw [zcp_n p]
      exact zcp_in n P Q (fun c hc => h c (by omega)) (fun c c' hc hc' => g c c' (by omega) (by omega))
theorem zcp_0 {P : Nat → Prop} : ∀ n, (∀ k, k < n → ¬ P k) → zcp P n = 0
  | 0, _ => rfl
  | n + 1, h => by rw [zcp_n (h n (by omega)), zcp_0 n (fun k hk => h k (by omega))]
theorem zcp_z {P : Nat → Prop} : ∀ n, zcp P n = 0 → ∀ k, k < n → ¬ P k
  | 0, _, k, hk => absurd hk (Nat.not_lt_zero _)
  | n + 1, e, k, hk => fun p => by
    have := zcp_out (n + 1) hk p
    omega
/-- as many of a part as of the whole: the whole -/
theorem zcp_all {P Q : Nat → Prop} (n : Nat) (h : ∀ k, k < n → P k → Q k) (e : zcp Q n ≤ zcp P n) : ∀ k, k < n → Q k → P k := fun k hk q => Classical.byContradiction fun w => by
  have a := zcp_out n hk q
  have b := zcp_le (P := P) (Q := fun k' => Q k' ∧ ¬ k' = k) n (fun j hj pj => ⟨h j hj pj, fun e => w (e ▸ pj)⟩)
  omega
/-! BREAKS: rows of houses and cuts. S cells; A: beside; W: stands; M: menaced; T: beside the told one -/
section BREAKS
variable (S : Nat) (A : Nat → Nat → Prop) (W M T : Nat → Prop)
/-- C keeps the fire from the told one: X is how far it comes -/
def zsep (C X : Nat → Prop) : Prop := (∀ c, C c → W c) ∧ (∀ c, M c → C c ∨ X c) ∧ (∀ c d, X c → A c d → W d → C d ∨ X d) ∧ (∀ c, X c → ¬ T c) ∧ (∀ c, X c → ¬ C c) ∧ ∀ c, X c → W c
def zcut (r : Nat) : Prop := (∃ C X, zsep A W M T C X ∧ zcp C S = r) ∧ ∀ C X, zsep A W M T C X → r ≤ zcp C S
/-- rows: which carry one, from where (S: the fire), to where (S: the told one) -/
def zrow (ca : Nat → Prop) (be af : Nat → Nat) : Prop := ∀ c, ca c → c < S ∧ W c ∧ ((be c = S ∧ M c) ∨ (be c < S ∧ ca (be c) ∧ af (be c) = c ∧ A (be c) c)) ∧ ((af c = S ∧ T c) ∨ (af c < S ∧ ca (af c) ∧ be (af c) = c ∧ A c (af c)))
variable {S A W M T}
theorem zcut_eq {r r' : Nat} (h : zcut S A W M T r) (g : zcut S A W M T r') : r = r' := by
  obtain ⟨⟨C, X, h1, h2⟩, h3⟩ := h
  obtain ⟨⟨C', X', g1, g2⟩, g3⟩ := g
  have := h3 C' X' g1
  have := g3 C X h1
  omega
/-- what goes into a part of the rows goes out of it -/
theorem zrow_cnt {ca C X : Nat → Prop} {be af : Nat → Nat} (h : zrow S A W M T ca be af) (hs : zsep A W M T C X) : zcp (fun c => ca c ∧ be c = S) S + zcp (fun d => ca d ∧ X d ∧ be d < S ∧ ¬ X (be d)) S = zcp (fun d => ca d ∧ C d ∧ (be d = S ∨ X (be d) ∧ be d < S)) S := by
  obtain ⟨s0, s1, s2, s3, s4, s5⟩ := hs
  -- U: those that carry and are come to
  have u1 : zcp (fun c => ca c ∧ X c) S = zcp (fun d => ca d ∧ be d < S ∧ X (be d)) S := by
    refine Nat.le_antisymm ?_ ?_
    · refine zcp_in (f := af) S _ _ (fun c hc p => ?_) (fun c c' hc hc' p p' e => ?_)
      · obtain ⟨_, _, _, o⟩ := h c p.1
        rcases o with ⟨_, o⟩ | ⟨o1, o2, o3, _⟩
        · exact absurd o (s3 c p.2)
        · exact ⟨o1, o2, by rw [o3]; exact hc, by rw [o3]; exact p.2⟩
      · obtain ⟨_, _, _, o⟩ := h c p.1
        obtain ⟨_, _, _, o'⟩ := h c' p'.1
        rcases o with ⟨_, o⟩ | ⟨o1, o2, o3, _⟩
        · exact absurd o (s3 c p.2)
        · rcases o' with ⟨_, o'⟩ | ⟨q1, q2, q3, _⟩
          · exact absurd o' (s3 c' p'.2)
          · rw [← o3, ← q3, e]
    · refine zcp_in (f := be) S _ _ (fun d hd p => ?_) (fun d d' hd hd' p p' e => ?_)
      · obtain ⟨_, _, i, _⟩ := h d p.1
        rcases i with ⟨i, _⟩ | ⟨i1, i2, i3, _⟩
        · have := p.2.1
          omega
        · exact ⟨i1, i2, p.2.2⟩
      · obtain ⟨_, _, i, _⟩ := h d p.1
        obtain ⟨_, _, i', _⟩ := h d' p'.1
        rcases i with ⟨i, _⟩ | ⟨i1, i2, i3, _⟩
        · have := p.2.1
          omega
        · rcases i' with ⟨i', _⟩ | ⟨j1, j2, j3, _⟩
          · have := p'.2.1
            omega
          · rw [← i3, ← j3, e]
  -- by where they come from
  have u2 : zcp (fun c => ca c ∧ X c) S = zcp (fun d => ca d ∧ X d ∧ be d = S) S + (zcp (fun d => ca d ∧ X d ∧ be d < S ∧ X (be d)) S + zcp (fun d => ca d ∧ X d ∧ be d < S ∧ ¬ X (be d)) S) := by
    rw [← zcp_or S (fun k _ p q => q.2.2.2 p.2.2.2), ← zcp_or S (fun k _ p q => by
      have := p.2.2
      rcases q with q | q
      · have := q.2.2.1
        omega
      · have := q.2.2.1
        omega)]
    refine zcp_eq S (fun k hk => ⟨fun p => ?_, fun p => ?_⟩)
    · obtain ⟨_, _, i, _⟩ := h k p.1
      rcases i with ⟨i, _⟩ | ⟨i, _⟩
      · exact Or.inl ⟨p.1, p.2, i⟩
      · by_cases x : X (be k)
        · exact Or.inr (Or.inl ⟨p.1, p.2, i, x⟩)
        · exact Or.inr (Or.inr ⟨p.1, p.2, i, x⟩)
    · rcases p with p | p | p
      · exact ⟨p.1, p.2.1⟩
      · exact ⟨p.1, p.2.1⟩
      · exact ⟨p.1, p.2.1⟩
  have u3 : zcp (fun d => ca d ∧ be d < S ∧ X (be d)) S = zcp (fun d => ca d ∧ X d ∧ be d < S ∧ X (be d)) S + zcp (fun d => ca d ∧ C d ∧ be d < S ∧ X (be d)) S := by
    rw [← zcp_or S (fun k _ p q => s4 k p.2.1 q.2.1)]
    refine zcp_eq S (fun k hk => ⟨fun p => ?_, fun p => ?_⟩)
    · obtain ⟨_, w, i, _⟩ := h k p.1
      rcases i with ⟨i, _⟩ | ⟨i1, i2, i3, i4⟩
      · have := p.2.1
        omega
      · rcases s2 (be k) k p.2.2 i4 w with x | x
        · exact Or.inr ⟨p.1, x, p.2.1, p.2.2⟩
        · exact Or.inl ⟨p.1, x, p.2.1, p.2.2⟩
    · rcases p with p | p
      · exact ⟨p.1, p.2.2⟩
      · exact ⟨p.1, p.2.2⟩
  have u4 : zcp (fun c => ca c ∧ be c = S) S = zcp (fun d => ca d ∧ X d ∧ be d = S) S + zcp (fun d => ca d ∧ C d ∧ be d = S) S := by
    rw [← zcp_or S (fun k _ p q => s4 k p.2.1 q.2.1)]
    refine zcp_eq S (fun k hk => ⟨fun p => ?_, fun p => ?_⟩)
    · obtain ⟨_, w, i, _⟩ := h k p.1
      rcases i with ⟨_, i⟩ | ⟨i, _⟩
      · rcases s1 k i with x | x
        · exact Or.inr ⟨p.1, x, p.2⟩
        · exact Or.inl ⟨p.1, x, p.2⟩
      · have := p.2
        omega
    · rcases p with p | p
      · exact ⟨p.1, p.2.2⟩
      · exact ⟨p.1, p.2.2⟩
  have u5 : zcp (fun d => ca d ∧ C d ∧ (be d = S ∨ X (be d) ∧ be d < S)) S = zcp (fun d => ca d ∧ C d ∧ be d = S) S + zcp (fun d => ca d ∧ C d ∧ be d < S ∧ X (be d)) S := by
    rw [← zcp_or S (fun k _ p q => by
      have := p.2.2
      have := q.2.2.1
      omega)]
    refine zcp_eq S (fun k hk => ⟨fun p => ?_, fun p => ?_⟩)
    · rcases p.2.2 with q | q
      · exact Or.inl ⟨p.1, p.2.1, q⟩
      · exact Or.inr ⟨p.1, p.2.1, q.2, q.1⟩
    · rcases p with p | p
      · exact ⟨p.1, p.2.1, Or.inl p.2.2⟩
      · exact ⟨p.1, p.2.1, Or.inr ⟨p.2.2.2, p.2.2.1⟩⟩
  omega
/-- no cut is smaller than the rows are many -/
theorem zrow_le {ca C X : Nat → Prop} {be af : Nat → Nat} (h : zrow S A W M T ca be af) (hs : zsep A W M T C X) : zcp (fun c => ca c ∧ be c = S) S ≤ zcp C S := by
  have := zrow_cnt h hs
  have := zcp_le (P := fun d => ca d ∧ C d ∧ (be d = S ∨ X (be d) ∧ be d < S)) (Q := C) S (fun k _ p => p.2.1)
  omega
/-- a cut as small as the rows are many: each of it carries, is come to from before it, and no row comes back -/
theorem zrow_eq {ca C X : Nat → Prop} {be af : Nat → Nat} (h : zrow S A W M T ca be af) (hs : zsep A W M T C X) (e : zcp C S ≤ zcp (fun c => ca c ∧ be c = S) S) : (∀ c, c < S → C c → ca c ∧ (be c = S ∨ X (be c) ∧ be c < S)) ∧ ∀ d, d < S → ca d → X d → be d < S → X (be d) := by
  have a := zrow_cnt h hs
  have b := zcp_le (P := fun d => ca d ∧ C d ∧ (be d = S ∨ X (be d) ∧ be d < S)) (Q := C) S (fun k _ p => p.2.1)
  refine ⟨fun c hc p => ?_, fun d hd p q w => ?_⟩
  · have := zcp_all (P := fun d => ca d ∧ C d ∧ (be d = S ∨ X (be d) ∧ be d < S)) (Q := C) S (fun k _ p => p.2.1) (by omega) c hc p
    exact ⟨this.1, this.2.2⟩
  · exact Classical.byContradiction fun u => zcp_z (P := fun d => ca d ∧ X d ∧ be d < S ∧ ¬ X (be d)) S (by omega) d hd ⟨p, q, w, u⟩
end BREAKS
/-! BREAKS: how far one comes when rows may be turned; cuts by that -/
section BREAKS2
variable (S : Nat) (A : Nat → Nat → Prop) (W M T : Nat → Prop)
/-- YE: entries come to, YX: exits come to; nothing more can be come to, and none leads to the told one -/
def zclo (ca : Nat → Prop) (be : Nat → Nat) (YE YX : Nat → Prop) : Prop := (∀ c, M c → YE c) ∧ (∀ c, YE c → ¬ ca c → YX c) ∧ (∀ c, YE c → ca c → be c < S → YX (be c)) ∧ (∀ c d, YX c → A c d → W d → YE d) ∧ (∀ c, YX c → ca c → YE c) ∧ (∀ c, YX c → ¬ T c) ∧ (∀ c, YE c → W c) ∧ ∀ c, YX c → W c
variable {S A W M T}
theorem zclo_sep {ca YE YX : Nat → Prop} {be af : Nat → Nat} (h : zrow S A W M T ca be af) (y : zclo S A W M T ca be YE YX) : zsep A W M T (fun c => YE c ∧ ¬ YX c) YX ∧ zcp (fun c => YE c ∧ ¬ YX c) S = zcp (fun c => ca c ∧ be c = S) S := by
  obtain ⟨y1, y2, y3, y4, y5, y6, y7, y8⟩ := y
  have hs : zsep A W M T (fun c => YE c ∧ ¬ YX c) YX := by
    refine ⟨fun c p => y7 c p.1, fun c p => ?_, fun c d p q w => ?_, y6, fun c p q => q.2 p, y8⟩
    · by_cases x : YX c
      · exact Or.inr x
      · exact Or.inl ⟨y1 c p, x⟩
    · by_cases x : YX d
      · exact Or.inr x
      · exact Or.inl ⟨y4 c d p q w, x⟩
  refine ⟨hs, ?_⟩
  have a := zrow_cnt h hs
  have z : zcp (fun d => ca d ∧ YX d ∧ be d < S ∧ ¬ YX (be d)) S = 0 := zcp_0 S (fun d _ p => p.2.2.2 (y3 d (y5 d p.2.1 p.1) p.1 p.2.2.1))
  have b : zcp (fun d => ca d ∧ (YE d ∧ ¬ YX d) ∧ (be d = S ∨ YX (be d) ∧ be d < S)) S = zcp (fun c => YE c ∧ ¬ YX c) S := zcp_eq S (fun d hd => ⟨fun p => p.2.1, fun p => by
    have c : ca d := Classical.byContradiction fun w => p.2 (y2 d p.1 w)
    obtain ⟨_, _, i, _⟩ := h d c
    rcases i with ⟨i, _⟩ | ⟨i, _⟩
    · exact ⟨c, p, Or.inl i⟩
    · exact ⟨c, p, Or.inr ⟨y3 d p.1 c i, i⟩⟩⟩)
  omega
theorem zclo_max {ca YE YX : Nat → Prop} {be af : Nat → Nat} (h : zrow S A W M T ca be af) (y : zclo S A W M T ca be YE YX) : zcut S A W M T (zcp (fun c => ca c ∧ be c = S) S) := by
  obtain ⟨s, e⟩ := zclo_sep h y
  exact ⟨⟨_, _, s, e⟩, fun C X hs => zrow_le h hs⟩
/-- a cut of the rest, with one more -/
theorem zsep_add {C X : Nat → Prop} {k : Nat} (hk : W k) (hs : zsep A (fun c => W c ∧ ¬ c = k) (fun c => M c ∧ ¬ c = k) T C X) : zsep A W M T (fun c => C c ∨ c = k) X := by
  obtain ⟨s0, s1, s2, s3, s4, s5⟩ := hs
  refine ⟨fun c p => p.elim (fun p => (s0 c p).1) (fun p => p ▸ hk), fun c p => ?_, fun c d p q w => ?_, s3, fun c p q => q.elim (s4 c p) (s5 c p).2, fun c p => (s5 c p).1⟩
  · by_cases e : c = k
    · exact Or.inl (Or.inr e)
    · exact (s1 c ⟨p, e⟩).elim (fun x => Or.inl (Or.inl x)) Or.inr
  · by_cases e : d = k
    · exact Or.inl (Or.inr e)
    · exact (s2 c d p q ⟨w, e⟩).elim (fun x => Or.inl (Or.inl x)) Or.inr
theorem zcp_add {C : Nat → Prop} {k : Nat} (hk : k < S) (n : ¬ C k) : zcp (fun c => C c ∨ c = k) S = zcp C S + 1 := by
  rw [zcp_out (P := fun c => C c ∨ c = k) S hk (Or.inr rfl)]
  exact congrArg (· + 1) (zcp_eq S (fun c _ => ⟨fun p => p.1.resolve_right p.2, fun p => ⟨Or.inl p, fun e => n (e ▸ p)⟩⟩))
/-- a house that is in some smallest cut, by what is come to when its entry is come to -/
theorem brk_y {ca YE YX : Nat → Prop} {be af : Nat → Nat} {k r : Nat} (hk : k < S) (h : zrow S A W M T ca be af) (hr : zcp (fun c => ca c ∧ be c = S) S = r) (y : zclo S A W M T ca be YE YX) (y1 : YE k) (y2 : ¬ YX k) : 1 ≤ r ∧ zcut S A (fun c => W c ∧ ¬ c = k) (fun c => M c ∧ ¬ c = k) T (r - 1) := by
  obtain ⟨s, e⟩ := zclo_sep h y
  have hw : W k := y.2.2.2.2.2.2.1 k y1
  have o := zcp_out (P := fun c => YE c ∧ ¬ YX c) S hk ⟨y1, y2⟩
  refine ⟨by omega, ⟨fun c => (YE c ∧ ¬ YX c) ∧ ¬ c = k, YX, ?_, by omega⟩, fun C X hs => ?_⟩
  · obtain ⟨s0, s1, s2, s3, s4, s5⟩ := s
    refine ⟨fun c p => ⟨s0 c p.1, p.2⟩, fun c p => ?_, fun c d p q w => ?_, s3, fun c p q => s4 c p q.1, fun c p => ⟨s5 c p, fun e => y2 (e ▸ p)⟩⟩
    · exact (s1 c p.1).elim (fun x => Or.inl ⟨x, p.2⟩) Or.inr
    · exact (s2 c d p q w.1).elim (fun x => Or.inl ⟨x, w.2⟩) Or.inr
  · have a := zrow_le h (zsep_add hw hs)
    have n : ¬ C k := fun p => (hs.1 k p).2 rfl
    rw [zcp_add hk n] at a
    omega
theorem brk_n {ca : Nat → Prop} {be af : Nat → Nat} {k r : Nat} (hk : k < S) (hw : W k) (hWS : ∀ c, W c → c < S) (h : zrow S A W M T ca be af) (hr : zcp (fun c => ca c ∧ be c = S) S = r) (h1 : 1 ≤ r) (z : zcut S A (fun c => W c ∧ ¬ c = k) (fun c => M c ∧ ¬ c = k) T (r - 1)) : ca k ∧ ∃ YE YX : Nat → Prop, zclo S A W M T ca be YE YX ∧ YE k ∧ ¬ YX k := by
  obtain ⟨⟨C, X, hs, e⟩, _⟩ := z
  have n : ¬ C k := fun p => (hs.1 k p).2 rfl
  have s := zsep_add hw hs
  have a := zcp_add hk n
  obtain ⟨q1, q2⟩ := zrow_eq h s (by omega)
  obtain ⟨s0, s1, s2, s3, s4, s5⟩ := s
  have hM : ∀ c, M c → W c := fun c p => (s1 c p).elim (s0 c) (s5 c)
  refine ⟨(q1 k hk (Or.inr rfl)).1, fun c => X c ∨ (C c ∨ c = k), X, ⟨fun c p => (s1 c p).elim Or.inr Or.inl, fun c p w => ?_, fun c p w u => ?_, fun c d p q w => (s2 c d p q w).elim Or.inr Or.inl, fun c p _ => Or.inl p, s3, fun c p => p.elim (s5 c) (s0 c), s5⟩, Or.inr (Or.inr rfl), fun p => s4 k p (Or.inr rfl)⟩
  · rcases p with p | p
    · exact p
    · exact absurd (q1 c (hWS c (s0 c p)) p).1 w
  · rcases p with p | p
    · exact q2 c (hWS c (s5 c p)) w p u
    · rcases (q1 c (hWS c (s0 c p)) p).2 with v | v
      · omega
      · exact v.1
/-! one more row: the rows with a hole at the entry of h -/
variable (S A W M T)
def zhol (h : Nat) (ca : Nat → Prop) (be af : Nat → Nat) : Prop := ca h ∧ ∀ c, ca c → c < S ∧ W c ∧ (c = h ∨ (be c = S ∧ M c) ∨ (be c < S ∧ ca (be c) ∧ af (be c) = c ∧ A (be c) c)) ∧ ((af c = S ∧ T c) ∨ (af c < S ∧ ¬ af c = h ∧ ca (af c) ∧ be (af c) = c ∧ A c (af c)))
noncomputable def zhc (h : Nat) (ca : Nat → Prop) (be : Nat → Nat) : Nat := zcp (fun c => ca c ∧ ¬ c = h ∧ be c = S) S
def zup (f : Nat → Nat) (k v : Nat) : Nat → Nat := fun c => if c = k then v else f c
variable {S A W M T}
theorem zup_s {f : Nat → Nat} {k v : Nat} : zup f k v k = v := if_pos rfl
theorem zup_n {f : Nat → Nat} {k v c : Nat} (h : ¬ c = k) : zup f k v c = f c := if_neg h
theorem hol_1 {ca : Nat → Prop} {be af : Nat → Nat} {l : Nat} (h : zrow S A W M T ca be af) (hl : l < S) (hw : W l) (ht : T l) (n : ¬ ca l) : zhol S A W M T l (fun c => c = l ∨ ca c) be (zup af l S) ∧ zhc S l (fun c => c = l ∨ ca c) be = zcp (fun c => ca c ∧ be c = S) S := by
  refine ⟨⟨Or.inl rfl, fun c p => ?_⟩, zcp_eq S (fun c _ => ⟨fun p => ⟨p.1.resolve_left p.2.1, p.2.2⟩, fun p => ⟨Or.inr p.1, fun e => n (e ▸ p.1), p.2⟩⟩)⟩
  by_cases e : c = l
  · subst e
    exact ⟨hl, hw, Or.inl rfl, Or.inl ⟨zup_s, ht⟩⟩
  · obtain ⟨a1, a2, a3, a4⟩ := h c (p.resolve_left e)
    refine ⟨a1, a2, Or.inr ?_, ?_⟩
    · rcases a3 with a3 | ⟨b1, b2, b3, b4⟩
      · exact Or.inl a3
      · exact Or.inr ⟨b1, Or.inr b2, by rw [zup_n (fun (w : be c = l) => n (w ▸ b2))]; exact b3, b4⟩
    · rw [zup_n e]
      rcases a4 with a4 | ⟨b1, b2, b3, b4⟩
      · exact Or.inl a4
      · exact Or.inr ⟨b1, fun w => n (w ▸ b2), Or.inr b2, b3, b4⟩
theorem hol_2 {ca : Nat → Prop} {be af : Nat → Nat} {l d : Nat} (h : zrow S A W M T ca be af) (ht : T l) (c : ca l) (hd : d < S) (e : af l = d) : zhol S A W M T d ca be (zup af l S) ∧ zhc S d ca be = zcp (fun c => ca c ∧ be c = S) S := by
  obtain ⟨l1, l2, l3, l4⟩ := h l c
  rcases l4 with ⟨l4, _⟩ | ⟨m1, m2, m3, m4⟩
  · omega
  · rw [e] at m1 m2 m3 m4
    refine ⟨⟨m2, fun c' p => ?_⟩, zcp_eq S (fun c' _ => ⟨fun p => ⟨p.1, p.2.2⟩, fun p => ⟨p.1, fun w => ?_, p.2⟩⟩)⟩
    · obtain ⟨a1, a2, a3, a4⟩ := h c' p
      refine ⟨a1, a2, ?_, ?_⟩
      · by_cases u : c' = d
        · exact Or.inl u
        · refine Or.inr ?_
          rcases a3 with a3 | ⟨b1, b2, b3, b4⟩
          · exact Or.inl a3
          · refine Or.inr ⟨b1, b2, ?_, b4⟩
            by_cases v : be c' = l
            · exact absurd (b3.symm.trans ((congrArg af v).trans e)) u
            · rw [zup_n v]
              exact b3
      · by_cases v : c' = l
        · subst v
          exact Or.inl ⟨zup_s, ht⟩
        · rw [zup_n v]
          rcases a4 with a4 | ⟨b1, b2, b3, b4⟩
          · exact Or.inl a4
          · exact Or.inr ⟨b1, fun w => v (b3.symm.trans ((congrArg be w).trans m3)), b2, b3, b4⟩
    · have := p.2
      rw [w, m3] at this
      omega
theorem hol_a {ca : Nat → Prop} {be af : Nat → Nat} {d b : Nat} (h : zhol S A W M T d ca be af) (hb : b < S) (hw : W b) (ha : A b d) (n : ¬ ca b) : zhol S A W M T b (fun c => c = b ∨ ca c) (zup be d b) (zup af b d) ∧ zhc S b (fun c => c = b ∨ ca c) (zup be d b) = zhc S d ca be := by
  obtain ⟨hd, h⟩ := h
  have db : ¬ d = b := fun e => n (e ▸ hd)
  refine ⟨⟨Or.inl rfl, fun c p => ?_⟩, zcp_eq S (fun c _ => ⟨fun p => ?_, fun p => ?_⟩)⟩
  · by_cases e : c = b
    · subst e
      exact ⟨hb, hw, Or.inl rfl, Or.inr ⟨by rw [zup_s]; exact (h d hd).1, by rw [zup_s]; exact db, by rw [zup_s]; exact Or.inr hd, by rw [zup_s, zup_s], by rw [zup_s]; exact ha⟩⟩
    · obtain ⟨a1, a2, a3, a4⟩ := h c (p.resolve_left e)
      refine ⟨a1, a2, Or.inr ?_, ?_⟩
      · by_cases u : c = d
        · subst u
          rw [zup_s]
          exact Or.inr ⟨hb, Or.inl rfl, zup_s, ha⟩
        · rw [zup_n u]
          rcases a3.resolve_left u with a3 | ⟨b1, b2, b3, b4⟩
          · exact Or.inl a3
          · exact Or.inr ⟨b1, Or.inr b2, by rw [zup_n (fun (w : be c = b) => n (w ▸ b2))]; exact b3, b4⟩
      · rw [zup_n e]
        rcases a4 with a4 | ⟨b1, b2, b3, b4, b5⟩
        · exact Or.inl a4
        · exact Or.inr ⟨b1, fun w => n (w ▸ b3), Or.inr b3, by rw [zup_n b2]; exact b4, b5⟩
  · obtain ⟨p1, p2, p3⟩ := p
    by_cases u : c = d
    · rw [u, zup_s] at p3
      omega
    · rw [zup_n u] at p3
      exact ⟨p1.resolve_left p2, u, p3⟩
  · obtain ⟨p1, p2, p3⟩ := p
    exact ⟨Or.inr p1, fun e => n (e ▸ p1), by rw [zup_n p2]; exact p3⟩
theorem hol_b {ca : Nat → Prop} {be af : Nat → Nat} {d b d' : Nat} (h : zhol S A W M T d ca be af) (ha : A b d) (hb : ca b) (db : ¬ b = d) (e : af b = d') (hd' : d' < S) : zhol S A W M T d' ca (zup be d b) (zup af b d) ∧ zhc S d' ca (zup be d b) = zhc S d ca be := by
  obtain ⟨hd, h⟩ := h
  obtain ⟨l1, l2, l3, l4⟩ := h b hb
  rcases l4 with ⟨l4, _⟩ | ⟨m1, m2, m3, m4, m5⟩
  · omega
  · rw [e] at m1 m2 m3 m4 m5
    refine ⟨⟨m3, fun c p => ?_⟩, zcp_eq S (fun c _ => ⟨fun p => ?_, fun p => ?_⟩)⟩
    · obtain ⟨a1, a2, a3, a4⟩ := h c p
      refine ⟨a1, a2, ?_, ?_⟩
      · by_cases u : c = d
        · subst u
          exact Or.inr (Or.inr ⟨by rw [zup_s]; exact l1, by rw [zup_s]; exact hb, by rw [zup_s, zup_s], by rw [zup_s]; exact ha⟩)
        · by_cases v : c = d'
          · exact Or.inl v
          · refine Or.inr ?_
            rw [zup_n u]
            rcases a3.resolve_left u with a3 | ⟨b1, b2, b3, b4⟩
            · exact Or.inl a3
            · refine Or.inr ⟨b1, b2, ?_, b4⟩
              by_cases x : be c = b
              · exact absurd (b3.symm.trans ((congrArg af x).trans e)) v
              · rw [zup_n x]
                exact b3
      · by_cases v : c = b
        · subst v
          exact Or.inr ⟨by rw [zup_s]; exact (h d hd).1, by rw [zup_s]; exact fun w => m2 w.symm, by rw [zup_s]; exact hd, by rw [zup_s, zup_s], by rw [zup_s]; exact ha⟩
        · rw [zup_n v]
          rcases a4 with a4 | ⟨b1, b2, b3, b4, b5⟩
          · exact Or.inl a4
          · exact Or.inr ⟨b1, fun w => v (b4.symm.trans ((congrArg be w).trans m4)), b3, by rw [zup_n b2]; exact b4, b5⟩
    · obtain ⟨p1, p2, p3⟩ := p
      by_cases u : c = d
      · rw [u, zup_s] at p3
        omega
      · rw [zup_n u] at p3
        exact ⟨p1, u, p3⟩
    · obtain ⟨p1, p2, p3⟩ := p
      refine ⟨p1, fun w => ?_, by rw [zup_n p2]; exact p3⟩
      rw [w, m4] at p3
      omega
theorem hol_c {ca : Nat → Prop} {be af : Nat → Nat} {d d' : Nat} (h : zhol S A W M T d ca be af) (e : af d = d') (hd' : d' < S) : zhol S A W M T d' (fun c => ca c ∧ ¬ c = d) be af ∧ zhc S d' (fun c => ca c ∧ ¬ c = d) be = zhc S d ca be := by
  obtain ⟨hd, h⟩ := h
  obtain ⟨l1, l2, l3, l4⟩ := h d hd
  rcases l4 with ⟨l4, _⟩ | ⟨m1, m2, m3, m4, m5⟩
  · omega
  · rw [e] at m1 m2 m3 m4 m5
    refine ⟨⟨⟨m3, m2⟩, fun c p => ?_⟩, zcp_eq S (fun c _ => ⟨fun p => ⟨p.1.1, p.1.2, p.2.2⟩, fun p => ⟨⟨p.1, p.2.1⟩, fun w => ?_, p.2.2⟩⟩)⟩
    · obtain ⟨p1, p2⟩ := p
      obtain ⟨a1, a2, a3, a4⟩ := h c p1
      refine ⟨a1, a2, ?_, ?_⟩
      · by_cases v : c = d'
        · exact Or.inl v
        · refine Or.inr ?_
          rcases a3.resolve_left p2 with a3 | ⟨b1, b2, b3, b4⟩
          · exact Or.inl a3
          · refine Or.inr ⟨b1, ⟨b2, fun w => v (b3.symm.trans ((congrArg af w).trans e))⟩, b3, b4⟩
      · rcases a4 with a4 | ⟨b1, b2, b3, b4, b5⟩
        · exact Or.inl a4
        · exact Or.inr ⟨b1, fun w => p2 (b4.symm.trans ((congrArg be w).trans m4)), ⟨b3, b2⟩, b4, b5⟩
    · have := p.2.2
      rw [w, m4] at this
      omega
theorem hol_e {ca : Nat → Prop} {be af : Nat → Nat} {d : Nat} (h : zhol S A W M T d ca be af) (hm : M d) : zrow S A W M T ca (zup be d S) af ∧ zcp (fun c => ca c ∧ zup be d S c = S) S = zhc S d ca be + 1 := by
  obtain ⟨hd, h⟩ := h
  refine ⟨fun c p => ?_, ?_⟩
  · obtain ⟨a1, a2, a3, a4⟩ := h c p
    refine ⟨a1, a2, ?_, ?_⟩
    · by_cases u : c = d
      · subst u
        exact Or.inl ⟨zup_s, hm⟩
      · rw [zup_n u]
        exact a3.resolve_left u
    · rcases a4 with a4 | ⟨b1, b2, b3, b4, b5⟩
      · exact Or.inl a4
      · exact Or.inr ⟨b1, b3, by rw [zup_n b2]; exact b4, b5⟩
  · rw [zcp_out (P := fun c => ca c ∧ zup be d S c = S) S (h d hd).1 ⟨hd, zup_s⟩]
    refine congrArg (· + 1) (zcp_eq S (fun c _ => ⟨fun p => ⟨p.1.1, p.2, ?_⟩, fun p => ⟨⟨p.1, ?_⟩, p.2.1⟩⟩))
    · have := p.1.2
      rw [zup_n p.2] at this
      exact this
    · rw [zup_n p.2.1]
      exact p.2.2
end BREAKS2
/-! BREAKS: a found row is taken over, step by step back -/
section BREAKS3
variable (S : Nat) (A : Nat → Nat → Prop) (W M : Nat → Prop)
/-- what a search leaves: entries are c, exits S + c, the fire 2 * S; each seen one came from one that was seen before -/
def zsee (ca : Nat → Prop) (be : Nat → Nat) (se : Nat → Prop) (cf rk : Nat → Nat) (ex : Nat) : Prop := (∀ n, n < S → se n → W n ∧ ((cf n = 2 * S ∧ (M n ∨ n = ex)) ∨ (∃ b, b < S ∧ cf n = S + b ∧ se (S + b) ∧ rk (S + b) < rk n ∧ ¬ b = n ∧ A b n) ∨ (cf n = S + n ∧ se (S + n) ∧ rk (S + n) < rk n ∧ ca n))) ∧ ∀ c, c < S → se (S + c) → (cf (S + c) = c ∧ se c ∧ rk c < rk (S + c) ∧ ¬ ca c) ∨ ∃ d, d < S ∧ cf (S + c) = d ∧ se d ∧ rk d < rk (S + c) ∧ ca d ∧ be d = c
/-- the state behind the steps that were taken back, at node n -/
def zinv (T : Nat → Prop) (ca0 : Nat → Prop) (af0 : Nat → Nat) (se : Nat → Prop) (cf rk : Nat → Nat) (r n : Nat) (ca : Nat → Prop) (be af : Nat → Nat) : Prop := (∀ c, c < S → se (S + c) → rk (S + c) < rk n → af c = af0 c ∧ (ca c ↔ ca0 c)) ∧ ((n < S ∧ zhol S A W M T n ca be af ∧ zhc S n ca be = r) ∨ (∃ c, c < S ∧ n = S + c ∧ cf n = c ∧ ¬ ca c ∧ zhol S A W M T c (fun x => x = c ∨ ca x) be af ∧ zhc S c (fun x => x = c ∨ ca x) be = r) ∨ ∃ c d, c < S ∧ n = S + c ∧ d < S ∧ cf n = d ∧ ¬ d = c ∧ zhol S A W M T d ca be af ∧ zhc S d ca be = r)
variable {S A W M} {T : Nat → Prop} {ca0 : Nat → Prop} {be0 af0 : Nat → Nat} {se : Nat → Prop} {cf rk : Nat → Nat} {r : Nat}
theorem zrow_b {d c : Nat} (h : zrow S A W M T ca0 be0 af0) (hd : ca0 d) (e : be0 d = c) (hc : c < S) : ca0 c ∧ af0 c = d ∧ d < S := by
  obtain ⟨h1, _, i, _⟩ := h d hd
  rcases i with ⟨i, _⟩ | ⟨i1, i2, i3, i4⟩
  · omega
  · rw [e] at i2 i3
    exact ⟨i2, i3, h1⟩
/-- the last one is bound to the told one -/
theorem aug_0 {l : Nat} (hA : ∀ x, ¬ A x x) (h : zrow S A W M T ca0 be0 af0) (hr : zcp (fun c => ca0 c ∧ be0 c = S) S = r) (p : zsee S A W M ca0 be0 se cf rk S) (hl : l < S) (hs : se (S + l)) (ht : T l) : zinv S A W M T ca0 af0 se cf rk r (S + l) ca0 be0 (zup af0 l S) := by
  refine ⟨fun c hc s k => ⟨zup_n (fun e => by rw [e] at k; omega), Iff.rfl⟩, Or.inr ?_⟩
  rcases p.2 l hl hs with ⟨q1, q2, q3, q4⟩ | ⟨d, q0, q1, q2, q3, q4, q5⟩
  · obtain ⟨z1, z2⟩ := hol_1 h hl (p.1 l hl q2).1 ht q4
    exact Or.inl ⟨l, hl, rfl, q1, q4, z1, z2.trans hr⟩
  · obtain ⟨e1, e2, _⟩ := zrow_b h q4 q5 hl
    obtain ⟨z1, z2⟩ := hol_2 h ht e1 q0 e2
    refine Or.inr ⟨l, d, hl, rfl, q0, q1, fun e => ?_, z1, z2.trans hr⟩
    obtain ⟨_, _, i, _⟩ := h d q4
    rcases i with ⟨i, _⟩ | ⟨_, _, _, i⟩
    · omega
    · rw [q5, ← e] at i
      exact hA _ i
/-- a step back from an exit -/
theorem aug_x1 {c : Nat} {ca : Nat → Prop} {be af : Nat → Nat} (p : zsee S A W M ca0 be0 se cf rk S) (hc : c < S) (hs : se (S + c)) (e : cf (S + c) = c) (v : zinv S A W M T ca0 af0 se cf rk r (S + c) ca be af) : se c ∧ rk c < rk (S + c) ∧ zinv S A W M T ca0 af0 se cf rk r c (fun x => x = c ∨ ca x) be af := by
  have q : se c ∧ rk c < rk (S + c) := by
    rcases p.2 c hc hs with ⟨_, q2, q3, _⟩ | ⟨d, q0, q1, q2, q3, _⟩
    · exact ⟨q2, q3⟩
    · obtain rfl : c = d := e.symm.trans q1
      exact ⟨q2, q3⟩
  refine ⟨q.1, q.2, fun x hx s k => ?_, Or.inl ⟨hc, ?_⟩⟩
  · obtain ⟨u1, u2⟩ := v.1 x hx s (by omega)
    refine ⟨u1, ⟨fun w => u2.mp (w.resolve_left (fun e' => by rw [e'] at k; omega)), fun w => Or.inr (u2.mpr w)⟩⟩
  · rcases v.2 with ⟨v1, _⟩ | ⟨c', _, v2, v3, v4, v5, v6⟩ | ⟨c', d, _, v2, v3, v4, v5, v6⟩
    · omega
    · obtain rfl : c = c' := by omega
      exact ⟨v5, v6⟩
    · exact absurd (v4.symm.trans e) (by omega)
theorem aug_x2 {c d : Nat} {ca : Nat → Prop} {be af : Nat → Nat} (p : zsee S A W M ca0 be0 se cf rk S) (hc : c < S) (hs : se (S + c)) (hd : d < S) (e : cf (S + c) = d) (n : ¬ d = c) (v : zinv S A W M T ca0 af0 se cf rk r (S + c) ca be af) : se d ∧ rk d < rk (S + c) ∧ zinv S A W M T ca0 af0 se cf rk r d ca be af := by
  have q : se d ∧ rk d < rk (S + c) := by
    rcases p.2 c hc hs with ⟨q1, q2, q3, _⟩ | ⟨d', q0, q1, q2, q3, _⟩
    · exact absurd (e.symm.trans q1) n
    · rw [e.symm.trans q1]
      exact ⟨q2, q3⟩
  refine ⟨q.1, q.2, fun x hx s k => v.1 x hx s (by omega), Or.inl ⟨hd, ?_⟩⟩
  rcases v.2 with ⟨v1, _⟩ | ⟨c', _, v2, v3, v4, v5, v6⟩ | ⟨c', d', _, v2, v3, v4, v5, v6⟩
  · omega
  · exact absurd (v3.symm.trans e) (by omega)
  · rw [e.symm.trans v4]
    exact v6
/-- a step back from an entry to its own exit -/
theorem aug_e1 {d : Nat} {ca : Nat → Prop} {be af : Nat → Nat} (hA : ∀ x, ¬ A x x) (h : zrow S A W M T ca0 be0 af0) (p : zsee S A W M ca0 be0 se cf rk S) (hd : d < S) (hs : se d) (e : cf d = S + d) (v : zinv S A W M T ca0 af0 se cf rk r d ca be af) : se (S + d) ∧ rk (S + d) < rk d ∧ zinv S A W M T ca0 af0 se cf rk r (S + d) (fun x => ca x ∧ ¬ x = d) be af := by
  have q : se (S + d) ∧ rk (S + d) < rk d ∧ ca0 d := by
    rcases (p.1 d hd hs).2 with ⟨q, _⟩ | ⟨b, b1, b2, _, _, b5, _⟩ | ⟨_, q2, q3, q4⟩
    · omega
    · omega
    · exact ⟨q2, q3, q4⟩
  obtain ⟨u1, u2⟩ := v.1 d hd q.1 q.2.1
  have hh : zhol S A W M T d ca be af ∧ zhc S d ca be = r := by
    rcases v.2 with ⟨_, v2⟩ | ⟨c', _, v2, _⟩ | ⟨c', d', _, v2, _⟩
    · exact v2
    · omega
    · omega
  refine ⟨q.1, q.2.1, fun x hx s k => ?_, Or.inr (Or.inr ?_)⟩
  · obtain ⟨w1, w2⟩ := v.1 x hx s (by omega)
    have xd : ¬ x = d := fun e' => by
      rw [e'] at k
      omega
    exact ⟨w1, ⟨fun w => w2.mp w.1, fun w => ⟨w2.mpr w, xd⟩⟩⟩
  · rcases p.2 d hd q.1 with ⟨_, _, _, q4⟩ | ⟨d', q0, q1, q2, q3, q4, q5⟩
    · exact absurd q.2.2 q4
    · obtain ⟨e1, e2, _⟩ := zrow_b h q4 q5 hd
      obtain ⟨z1, z2⟩ := hol_c hh.1 (u1.trans e2) q0
      refine ⟨d, d', hd, rfl, q0, q1, fun e' => ?_, z1, z2.trans hh.2⟩
      obtain ⟨_, _, i, _⟩ := h d' q4
      rcases i with ⟨i, _⟩ | ⟨_, _, _, i⟩
      · omega
      · rw [q5, ← e'] at i
        exact hA _ i
/-- a step back from an entry to another's exit -/
theorem aug_e2 {d b : Nat} {ca : Nat → Prop} {be af : Nat → Nat} (hA : ∀ x, ¬ A x x) (h : zrow S A W M T ca0 be0 af0) (p : zsee S A W M ca0 be0 se cf rk S) (hd : d < S) (hs : se d) (hb : b < S) (e : cf d = S + b) (n : ¬ b = d) (v : zinv S A W M T ca0 af0 se cf rk r d ca be af) : se (S + b) ∧ rk (S + b) < rk d ∧ zinv S A W M T ca0 af0 se cf rk r (S + b) ca (zup be d b) (zup af b d) := by
  have q : se (S + b) ∧ rk (S + b) < rk d ∧ A b d := by
    rcases (p.1 d hd hs).2 with ⟨q, _⟩ | ⟨b', b1, b2, b3, b4, b5, b6⟩ | ⟨q1, _⟩
    · omega
    · obtain rfl : b = b' := by omega
      exact ⟨b3, b4, b6⟩
    · omega
  obtain ⟨u1, u2⟩ := v.1 b hb q.1 q.2.1
  have hh : zhol S A W M T d ca be af ∧ zhc S d ca be = r := by
    rcases v.2 with ⟨_, v2⟩ | ⟨c', _, v2, _⟩ | ⟨c', d', _, v2, _⟩
    · exact v2
    · omega
    · omega
  refine ⟨q.1, q.2.1, fun x hx s k => ?_, Or.inr ?_⟩
  · obtain ⟨w1, w2⟩ := v.1 x hx s (by omega)
    have xb : ¬ x = b := fun e' => by
      rw [e'] at k
      omega
    exact ⟨(zup_n xb).trans w1, w2⟩
  · rcases p.2 b hb q.1 with ⟨q1, q2, q3, q4⟩ | ⟨d', q0, q1, q2, q3, q4, q5⟩
    · have nb : ¬ ca b := fun w => q4 (u2.mp w)
      obtain ⟨z1, z2⟩ := hol_a hh.1 hb (p.1 b hb q2).1 q.2.2 nb
      exact Or.inl ⟨b, hb, rfl, q1, nb, z1, z2.trans hh.2⟩
    · obtain ⟨e1, e2, _⟩ := zrow_b h q4 q5 hb
      obtain ⟨z1, z2⟩ := hol_b hh.1 q.2.2 (u2.mpr e1) n (u1.trans e2) q0
      refine Or.inr ⟨b, d', hb, rfl, q0, q1, fun e' => ?_, z1, z2.trans hh.2⟩
      obtain ⟨_, _, i, _⟩ := h d' q4
      rcases i with ⟨i, _⟩ | ⟨_, _, _, i⟩
      · omega
      · rw [q5, ← e'] at i
        exact hA _ i
/-- and from the fire -/
theorem aug_e3 {d : Nat} {ca : Nat → Prop} {be af : Nat → Nat} (hS : 1 ≤ S) (p : zsee S A W M ca0 be0 se cf rk S) (hd : d < S) (hs : se d) (e : cf d = 2 * S) (v : zinv S A W M T ca0 af0 se cf rk r d ca be af) : zrow S A W M T ca (zup be d S) af ∧ zcp (fun c => ca c ∧ zup be d S c = S) S = r + 1 := by
  have q : M d := by
    rcases (p.1 d hd hs).2 with ⟨_, q⟩ | ⟨b', b1, b2, _⟩ | ⟨q1, _⟩
    · exact q.resolve_right (by omega)
    · omega
    · omega
  have hh : zhol S A W M T d ca be af ∧ zhc S d ca be = r := by
    rcases v.2 with ⟨_, v2⟩ | ⟨c', _, v2, _⟩ | ⟨c', d', _, v2, _⟩
    · exact v2
    · omega
    · omega
  obtain ⟨z1, z2⟩ := hol_e hh.1 q
  exact ⟨z1, z2.trans (by rw [hh.2])⟩
/-- what is seen is within whatever is closed -/
theorem zsee_in {ca : Nat → Prop} {be : Nat → Nat} {ex : Nat} {YE YX : Nat → Prop} (hWS : ∀ c, W c → c < S) (p : zsee S A W M ca be se cf rk ex) (y : zclo S A W M T ca be YE YX) (hx : ex < S → YE ex) : ∀ m n, rk n ≤ m → (n < S → se n → YE n) ∧ (∀ c, c < S → n = S + c → se n → YX c) := by
  intro m
  induction m with
  | zero =>
    intro n hn
    refine ⟨fun h1 h2 => ?_, fun c h1 h2 h3 => ?_⟩
    · rcases (p.1 n h1 h2).2 with ⟨_, q | q⟩ | ⟨b, _, _, _, q, _⟩ | ⟨_, _, q, _⟩
      · exact y.1 n q
      · exact q ▸ hx (q ▸ h1)
      · omega
      · omega
    · subst h2
      rcases p.2 c h1 h3 with ⟨_, _, q, _⟩ | ⟨d, _, _, _, q, _⟩
      · omega
      · omega
  | succ m ih =>
    intro n hn
    refine ⟨fun h1 h2 => ?_, fun c h1 h2 h3 => ?_⟩
    · rcases (p.1 n h1 h2).2 with ⟨_, q | q⟩ | ⟨b, b1, b2, b3, b4, b5, b6⟩ | ⟨_, q2, q3, q4⟩
      · exact y.1 n q
      · exact q ▸ hx (q ▸ h1)
      · exact y.2.2.2.1 b n ((ih (S + b) (by omega)).2 b b1 rfl b3) b6 (p.1 n h1 h2).1
      · exact y.2.2.2.2.1 n ((ih (S + n) (by omega)).2 n h1 rfl q2) q4
    · subst h2
      rcases p.2 c h1 h3 with ⟨q1, q2, q3, q4⟩ | ⟨d, q0, q1, q2, q3, q4, q5⟩
      · exact y.2.1 c ((ih c (by omega)).1 h1 q2) q4
      · rw [← q5]
        exact y.2.2.1 d ((ih d (by omega)).1 q0 q2) q4 (by omega)
end BREAKS3
/-! BREAKS: a house is kept: its row is taken out -/
def znx (f : Nat → Nat) (k : Nat) : Nat → Nat
  | 0 => k
  | m + 1 => f (znx f k m)
theorem zcp_one {P : Nat → Prop} (h : ∀ x y, P x → P y → x = y) : ∀ n, zcp P n ≤ 1
  | 0 => Nat.zero_le _
  | n + 1 => by
    by_cases p : P n
    · rw [zcp_y p, zcp_0 n (fun k hk q => by
        have := h k n q p
        omega)]
      omega
    · rw [zcp_n p]
      exact zcp_one h n
/-- more steps than cells: one is come to twice -/
theorem znx_two {f : Nat → Nat} {k S : Nat} (h : ∀ m, m ≤ S → znx f k m < S) : ∃ i j, i < j ∧ j ≤ S ∧ znx f k i = znx f k j := Classical.byContradiction fun w => by
  have a : zcp (fun _ => True) (S + 1) ≤ zcp (fun _ => True) S := zcp_in (f := znx f k) (S + 1) _ _ (fun c hc _ => ⟨h c (by omega), trivial⟩) (fun c c' hc hc' _ _ e => Classical.byContradiction fun n => w (by
    rcases Nat.lt_or_gt_of_ne n with u | u
    · exact ⟨c, c', u, by omega, e⟩
    · exact ⟨c', c, u, by omega, e.symm⟩))
  rw [zcp_y trivial] at a
  omega
section BREAKS4
variable {S : Nat} {A : Nat → Nat → Prop} {W M T : Nat → Prop} {ca : Nat → Prop} {be af : Nat → Nat}
theorem row_be {k : Nat} (h : zrow S A W M T ca be af) (hk : ca k) : ∀ m, (∀ j, j ≤ m → znx be k j < S) → ca (znx be k m) ∧ (1 ≤ m → af (znx be k m) = znx be k (m - 1))
  | 0, _ => ⟨hk, fun w => absurd w (by omega)⟩
  | m + 1, hj => by
    obtain ⟨a1, _⟩ := row_be h hk m (fun j hm => hj j (by omega))
    obtain ⟨_, _, i, _⟩ := h _ a1
    have hm : be (znx be k m) < S := hj (m + 1) (Nat.le_refl _)
    rcases i with ⟨i, _⟩ | ⟨i1, i2, i3, _⟩
    · omega
    · exact ⟨i2, fun _ => i3⟩
theorem row_af {k : Nat} (h : zrow S A W M T ca be af) (hk : ca k) : ∀ m, (∀ j, j ≤ m → znx af k j < S) → ca (znx af k m) ∧ (1 ≤ m → be (znx af k m) = znx af k (m - 1))
  | 0, _ => ⟨hk, fun w => absurd w (by omega)⟩
  | m + 1, hj => by
    obtain ⟨a1, _⟩ := row_af h hk m (fun j hm => hj j (by omega))
    obtain ⟨_, _, _, i⟩ := h _ a1
    have hm : af (znx af k m) < S := hj (m + 1) (Nat.le_refl _)
    rcases i with ⟨i, _⟩ | ⟨i1, i2, i3, _⟩
    · omega
    · exact ⟨i2, fun _ => i3⟩
/-- going round: a step that can be taken back comes to where it began -/
theorem znx_per {f g : Nat → Nat} {k S : Nat} (hf : ∀ m, m ≤ S → znx f k m < S) (hg : ∀ m, m ≤ S → 1 ≤ m → g (znx f k m) = znx f k (m - 1)) : ∃ p, 1 ≤ p ∧ p ≤ S ∧ znx f k p = k := by
  obtain ⟨i, j, h1, h2, h3⟩ := znx_two hf
  have back : ∀ d, d ≤ i → znx f k (i - d) = znx f k (j - d) := by
    intro d
    induction d with
    | zero => exact fun _ => h3
    | succ d ih =>
      intro hd
      have e := ih (by omega)
      have e1 := hg (i - d) (by omega) (by omega)
      have e2 := hg (j - d) (by omega) (by omega)
      rw [show i - (d + 1) = i - d - 1 by omega, show j - (d + 1) = j - d - 1 by omega, ← e1, ← e2, e]
  have e := back i (Nat.le_refl _)
  rw [Nat.sub_self] at e
  exact ⟨j - i, by omega, by omega, e.symm⟩
/-- p steps were taken along f from k: as far as it goes, or as many as there are cells -/
def zfar (S : Nat) (f : Nat → Nat) (k p : Nat) : Prop := p ≤ S ∧ (∀ m, m ≤ p → znx f k m < S) ∧ (p = S ∨ ¬ znx f k (p + 1) < S)
theorem far_cl {f g : Nat → Nat} {k p m : Nat} (h : zfar S f k p) (hg : ∀ m, m ≤ p → 1 ≤ m → g (znx f k m) = znx f k (m - 1)) (hm : m ≤ p) : ¬ f (znx f k m) < S ∨ ∃ j, j ≤ p ∧ f (znx f k m) = znx f k j := by
  obtain ⟨h1, h2, h3⟩ := h
  by_cases e : m = p
  · subst e
    rcases h3 with h3 | h3
    · subst h3
      obtain ⟨q, q1, q2, q3⟩ := znx_per h2 hg
      refine Or.inr ⟨m + 1 - q, by omega, ?_⟩
      have sh : ∀ d, znx f k (q + d) = znx f k d := by
        intro d
        induction d with
        | zero => exact q3
        | succ d ih =>
          show f (znx f k (q + d)) = f (znx f k d)
          rw [ih]
      have := sh (m + 1 - q)
      rw [show q + (m + 1 - q) = m + 1 by omega] at this
      exact this
    · exact Or.inl h3
  · exact Or.inr ⟨m + 1, by omega, rfl⟩
/-- the rows without that of k -/
theorem keep_row {k p q r : Nat} (hS : k < S) (h : zrow S A W M T ca be af) (hk : ca k) (hp : zfar S be k p) (hq : zfar S af k q) (hr : zcp (fun c => ca c ∧ be c = S) S = r) (h1 : 1 ≤ r) (z : zcut S A (fun c => W c ∧ ¬ c = k) (fun c => M c ∧ ¬ c = k) T (r - 1)) : zrow S A (fun c => W c ∧ ¬ c = k) (fun c => M c ∧ ¬ c = k) T (fun c => ca c ∧ ¬ ((∃ m, m ≤ p ∧ c = znx be k m) ∨ ∃ m, m ≤ q ∧ c = znx af k m)) be af ∧ zcp (fun c => (ca c ∧ ¬ ((∃ m, m ≤ p ∧ c = znx be k m) ∨ ∃ m, m ≤ q ∧ c = znx af k m)) ∧ be c = S) S = r - 1 := by
  have rb := fun m hm => row_be h hk m (fun j hj => hp.2.1 j (Nat.le_trans hj hm))
  have ra := fun m hm => row_af h hk m (fun j hj => hq.2.1 j (Nat.le_trans hj hm))
  -- the row is closed
  have cb : ∀ c, ((∃ m, m ≤ p ∧ c = znx be k m) ∨ ∃ m, m ≤ q ∧ c = znx af k m) → be c < S → ((∃ m, m ≤ p ∧ be c = znx be k m) ∨ ∃ m, m ≤ q ∧ be c = znx af k m) := by
    intro c hc hb
    rcases hc with ⟨m, hm, rfl⟩ | ⟨m, hm, rfl⟩
    · rcases far_cl hp (fun m hm => (rb m hm).2) hm with u | u
      · exact absurd hb u
      · exact Or.inl u
    · by_cases e : m = 0
      · subst e
        rcases far_cl hp (fun m hm => (rb m hm).2) (Nat.zero_le p) with u | u
        · exact absurd hb u
        · exact Or.inl u
      · exact Or.inr ⟨m - 1, by omega, (ra m hm).2 (by omega)⟩
  have cf : ∀ c, ((∃ m, m ≤ p ∧ c = znx be k m) ∨ ∃ m, m ≤ q ∧ c = znx af k m) → af c < S → ((∃ m, m ≤ p ∧ af c = znx be k m) ∨ ∃ m, m ≤ q ∧ af c = znx af k m) := by
    intro c hc hb
    rcases hc with ⟨m, hm, rfl⟩ | ⟨m, hm, rfl⟩
    · by_cases e : m = 0
      · subst e
        rcases far_cl hq (fun m hm => (ra m hm).2) (Nat.zero_le q) with u | u
        · exact absurd hb u
        · exact Or.inr u
      · exact Or.inl ⟨m - 1, by omega, (rb m hm).2 (by omega)⟩
    · rcases far_cl hq (fun m hm => (ra m hm).2) hm with u | u
      · exact absurd hb u
      · exact Or.inr u
  generalize hR : (fun c => (∃ m, m ≤ p ∧ c = znx be k m) ∨ ∃ m, m ≤ q ∧ c = znx af k m) = R at *
  have eR : ∀ c, ((∃ m, m ≤ p ∧ c = znx be k m) ∨ ∃ m, m ≤ q ∧ c = znx af k m) = R c := fun c => congrFun hR c
  simp only [eR] at cb cf ⊢
  have kR : R k := by
    rw [← eR]
    exact Or.inl ⟨0, Nat.zero_le _, rfl⟩
  have row : zrow S A (fun c => W c ∧ ¬ c = k) (fun c => M c ∧ ¬ c = k) T (fun c => ca c ∧ ¬ R c) be af := by
    intro c hc
    obtain ⟨a1, a2, a3, a4⟩ := h c hc.1
    have ck : ¬ c = k := fun e => hc.2 (e ▸ kR)
    refine ⟨a1, ⟨a2, ck⟩, ?_, ?_⟩
    · rcases a3 with ⟨i1, i2⟩ | ⟨i1, i2, i3, i4⟩
      · exact Or.inl ⟨i1, i2, ck⟩
      · refine Or.inr ⟨i1, ⟨i2, fun w => hc.2 ?_⟩, i3, i4⟩
        have := cf (be c) w (by rw [i3]; exact a1)
        rw [i3] at this
        exact this
    · rcases a4 with i | ⟨i1, i2, i3, i4⟩
      · exact Or.inl i
      · refine Or.inr ⟨i1, ⟨i2, fun w => hc.2 ?_⟩, i3, i4⟩
        have := cb (af c) w (by rw [i3]; exact a1)
        rw [i3] at this
        exact this
  refine ⟨row, ?_⟩
  obtain ⟨⟨C, X, z1, z2⟩, _⟩ := z
  have up := zrow_le row z1
  have spl : zcp (fun c => ca c ∧ be c = S) S = zcp (fun c => (ca c ∧ ¬ R c) ∧ be c = S) S + zcp (fun c => ca c ∧ R c ∧ be c = S) S := by
    rw [← zcp_or S (fun c _ p q => p.1.2 q.2.1)]
    refine zcp_eq S (fun c _ => ⟨fun p => ?_, fun p => ?_⟩)
    · by_cases x : R c
      · exact Or.inr ⟨p.1, x, p.2⟩
      · exact Or.inl ⟨⟨p.1, x⟩, p.2⟩
    · rcases p with p | p
      · exact ⟨p.1.1, p.2⟩
      · exact ⟨p.1, p.2.2⟩
  -- only the end of the way back comes from the fire
  have end1 : ∀ c, R c → be c = S → c = znx be k p := by
    intro c hc e
    rw [← eR] at hc
    rcases hc with ⟨m, hm, rfl⟩ | ⟨m, hm, rfl⟩
    · by_cases u : m = p
      · rw [u]
      · have := hp.2.1 (m + 1) (by omega)
        have t : be (znx be k m) < S := this
        omega
    · by_cases u : m = 0
      · subst u
        by_cases v : p = 0
        · rw [v]
          rfl
        · have := hp.2.1 1 (by omega)
          have t : be k < S := this
          have e' : be k = S := e
          omega
      · have t := (ra m hm).2 (by omega)
        have := hq.2.1 (m - 1) (by omega)
        rw [← t] at this
        omega
  have one := zcp_one (P := fun c => ca c ∧ R c ∧ be c = S) (fun x y hx hy => (end1 x hx.2.1 hx.2.2).trans (end1 y hy.2.1 hy.2.2).symm) S
  omega
end BREAKS4
/-! BREAKS: the search, as the rows have it -/
def zbs (S a b : Nat) (c d : Nat) : Prop := c < S ∧ d < S ∧ ∃ s, s < 4 ∧ znb a b c s = nI d
def kW (S : Nat) (f : Nat → Int32) (c : Nat) : Prop := c < S ∧ ¬ f c = 0
def kB (S : Nat) (bf : Nat → Int32) (c : Nat) : Nat := if bf c < 0 then S else (bf c).toNatClampNeg
def kA (S : Nat) (af : Nat → Int32) (c : Nat) : Nat := if af c < 0 then S else (af c).toNatClampNeg
def kS (S : Nat) (cF : Nat → Int32) (n : Nat) : Prop := n < 2 * S ∧ ¬ cF n = -1
def kF (S : Nat) (cF : Nat → Int32) (n : Nat) : Nat := if cF n < 0 then 2 * S else (cF n).toNatClampNeg
theorem zbs_ir {S a b x : Nat} (ha : 1 ≤ a) (ha8 : a ≤ 8) (hS : S ≤ 64) : ¬ zbs S a b x x := by
  rintro ⟨h1, _, s, h2, h3⟩
  unfold znb at h3
  have e : ∀ m, m < 1000 → nI m = nI x → m = x := fun m hm w => (nI_eq (by omega) (by omega)).mp w
  have n : ¬ (-1 : Int32) = nI x := fun w => nI_neg (n := x) (by omega) (by decide) w.symm
  have hx : x / a ≤ x := Nat.div_le_self _ _
  have hx2 : x % a ≤ x := Nat.mod_le _ _
  have ax : 0 < x / a → a ≤ x := fun w => Classical.byContradiction fun u => by
    rw [Nat.div_eq_of_lt (by omega)] at w
    omega
  split at h3
  · split at h3
    · rename_i w
      have := e _ (by omega) h3
      have := ax w
      omega
    · exact n h3
  · split at h3
    · split at h3
      · have := e _ (by omega) h3
        omega
      · exact n h3
    · split at h3
      · split at h3
        · have := e _ (by omega) h3
          omega
        · exact n h3
      · split at h3
        · rename_i w1 w2 w3 w4
          have := e _ (by omega) h3
          omega
        · exact n h3
/-- the queue: q nodes are seen, in the order of rk -/
def BQ (S a b : Nat) (sd me cy bf : Nat → Int32) (ex q : Nat) (cF qu : Nat → Int32) : Prop := ∃ rk : Nat → Nat, (∀ i, i < q → ∃ n, n < 2 * S ∧ qu i = nI n ∧ ¬ cF n = -1 ∧ rk n = i) ∧ (∀ n, kS S cF n → rk n < q ∧ qu (rk n) = nI n) ∧ zsee S (zbs S a b) (kW S sd) (kW S me) (kW S cy) (kB S bf) (kS S cF) (kF S cF) rk ex
/-- a step that may be taken: to n, from f -/
def zed (S a b : Nat) (sd me cy bf : Nat → Int32) (ex : Nat) (cF : Nat → Int32) (n : Nat) (f : Int32) : Prop := (n < S ∧ kW S sd n ∧ ((f = -2 ∧ (kW S me n ∨ n = ex)) ∨ (∃ c, c < S ∧ f = nI (S + c) ∧ kS S cF (S + c) ∧ ¬ c = n ∧ zbs S a b c n) ∨ (f = nI (S + n) ∧ kS S cF (S + n) ∧ kW S cy n))) ∨ ∃ c, c < S ∧ n = S + c ∧ ((f = nI c ∧ kS S cF c ∧ ¬ kW S cy c) ∨ ∃ d, d < S ∧ f = nI d ∧ kS S cF d ∧ kW S cy d ∧ kB S bf d = c)
theorem zcp_T : ∀ n, zcp (fun _ => True) n = n
  | 0 => rfl
  | n + 1 => by rw [zcp_y trivial, zcp_T n]
section SEARCH
variable {S a b ex q : Nat} {sd me cy bf cF qu : Nat → Int32}
theorem bq_room {n : Nat} (hS : S ≤ 64) (h : BQ S a b sd me cy bf ex q cF qu) (hn : n < 2 * S) (e : cF n = -1) : q < 2 * S := by
  obtain ⟨rk, h1, h2, h3⟩ := h
  have g : ∀ i, i < q → (qu i).toNatClampNeg < 2 * S ∧ ¬ (qu i).toNatClampNeg = n ∧ rk (qu i).toNatClampNeg = i := fun i hi => by
    obtain ⟨m, m1, m2, m3, m4⟩ := h1 i hi
    rw [m2, nI_clamp (by omega)]
    exact ⟨m1, fun w => m3 (w ▸ e), m4⟩
  have c := zcp_in (f := fun i => (qu i).toNatClampNeg) (S := 2 * S) q (fun _ => True) (fun m => True ∧ ¬ m = n) (fun i hi _ => ⟨(g i hi).1, trivial, (g i hi).2.1⟩) (fun i j hi hj _ _ w => by
    rw [← (g i hi).2.2, ← (g j hj).2.2]
    exact congrArg rk w)
  have o := zcp_out (P := fun _ => True) (2 * S) hn trivial
  rw [zcp_T] at c
  rw [zcp_T] at o
  omega
theorem kS_u {n m : Nat} {f : Int32} (hn : n < 2 * S) (hf : ¬ f = -1) : kS S (upd cF n f) m ↔ m = n ∨ kS S cF m := by
  unfold kS upd
  by_cases e : m = n
  · rw [if_pos e]
    exact ⟨fun _ => Or.inl e, fun _ => ⟨by omega, hf⟩⟩
  · rw [if_neg e]
    exact ⟨fun w => Or.inr w, fun w => w.resolve_left e⟩
theorem zed_m1 {n : Nat} {f : Int32} (hS : S ≤ 64) (h : zed S a b sd me cy bf ex cF n f) : ¬ f = -1 := by
  intro w
  subst w
  rcases h with ⟨_, _, ⟨h, _⟩ | ⟨c, h1, h, _⟩ | ⟨h, _⟩⟩ | ⟨c, h1, h0, ⟨h, _⟩ | ⟨d, h2, h, _⟩⟩
  · exact absurd h (by decide)
  · exact nI_neg (n := S + c) (by omega) (by decide) h.symm
  · exact nI_neg (n := S + n) (by omega) (by decide) h.symm
  · exact nI_neg (n := c) (by omega) (by decide) h.symm
  · exact nI_neg (n := d) (by omega) (by decide) h.symm
theorem kF_n {n m : Nat} {f : Nat → Int32} (hm : m < 1000) (e : f n = nI m) : kF S f n = m := by
  unfold kF
  rw [e, if_neg (nI_pos (by omega)), nI_clamp (by omega)]
theorem kF_2 {n : Nat} {f : Nat → Int32} (e : f n = -2) : kF S f n = 2 * S := if_pos (by rw [e]; decide)
theorem bq_put {n : Nat} {f : Int32} (hS : S ≤ 64) (h : BQ S a b sd me cy bf ex q cF qu) (hn : n < 2 * S) (e : cF n = -1) (hz : zed S a b sd me cy bf ex cF n f) : q < 2 * S ∧ BQ S a b sd me cy bf ex (q + 1) (upd cF n f) (upd qu q (nI n)) := by
  refine ⟨bq_room hS h hn e, ?_⟩
  have hf := zed_m1 hS hz
  obtain ⟨rk, h1, h2, h3, h4⟩ := h
  have ne : ∀ m, kS S cF m → ¬ m = n := fun m hm w => hm.2 (w ▸ e)
  have rk' : ∀ m, kS S cF m → zup rk n q m = rk m := fun m hm => zup_n (ne m hm)
  have kf' : ∀ m, kS S cF m → kF S (upd cF n f) m = kF S cF m := fun m hm => by
    unfold kF upd
    rw [if_neg (ne m hm)]
  have kfn : ∀ m, m < 1000 → f = nI m → kF S (upd cF n f) n = m := fun m hm w => kF_n hm ((if_pos rfl).trans w)
  have up : ∀ m, kS S cF m → kS S (upd cF n f) m := fun m hm => (kS_u hn hf).mpr (Or.inr hm)
  have lt : ∀ m, kS S cF m → zup rk n q m < zup rk n q n := fun m hm => by
    rw [rk' m hm, zup_s]
    exact (h2 m hm).1
  refine ⟨zup rk n q, fun i hi => ?_, fun m hm => ?_, fun m hm hs => ?_, fun c hc hs => ?_⟩
  · by_cases u : i = q
    · subst u
      exact ⟨n, hn, if_pos rfl, by rw [show upd cF n f n = f from if_pos rfl]; exact hf, zup_s⟩
    · obtain ⟨m, m1, m2, m3, m4⟩ := h1 i (by omega)
      have hm : kS S cF m := ⟨m1, m3⟩
      exact ⟨m, m1, (if_neg u).trans m2, (up m hm).2, (rk' m hm).trans m4⟩
  · rcases (kS_u hn hf).mp hm with u | u
    · rw [u, zup_s]
      exact ⟨by omega, if_pos rfl⟩
    · obtain ⟨g1, g2⟩ := h2 m u
      rw [rk' m u]
      exact ⟨by omega, (if_neg (by omega)).trans g2⟩
  · rcases (kS_u hn hf).mp hs with u | u
    · subst u
      rcases hz with ⟨_, z1, z2⟩ | ⟨c, c1, c2, _⟩
      · refine ⟨z1, ?_⟩
        rcases z2 with ⟨z2, z3⟩ | ⟨c, c1, c2, c3, c4, c5⟩ | ⟨z2, z3, z4⟩
        · exact Or.inl ⟨kF_2 ((if_pos rfl).trans z2), z3⟩
        · exact Or.inr (Or.inl ⟨c, c1, kfn _ (by omega) c2, up _ c3, lt _ c3, c4, c5⟩)
        · exact Or.inr (Or.inr ⟨kfn _ (by omega) z2, up _ z3, lt _ z3, z4⟩)
      · omega
    · obtain ⟨g1, g2⟩ := h3 m hm u
      refine ⟨g1, ?_⟩
      rw [kf' m u, rk' m u]
      rcases g2 with g2 | ⟨c, c1, c2, c3, c4, c5, c6⟩ | ⟨z1, z2, z3, z4⟩
      · exact Or.inl g2
      · exact Or.inr (Or.inl ⟨c, c1, c2, up _ c3, by rw [rk' _ c3]; exact c4, c5, c6⟩)
      · exact Or.inr (Or.inr ⟨z1, up _ z2, by rw [rk' _ z2]; exact z3, z4⟩)
  · rcases (kS_u hn hf).mp hs with u | u
    · rcases hz with ⟨z1, _⟩ | ⟨c', c1, c2, c3⟩
      · omega
      · obtain rfl : c = c' := by omega
        rw [u]
        rcases c3 with ⟨z1, z2, z3⟩ | ⟨d, d1, d2, d3, d4, d5⟩
        · exact Or.inl ⟨kfn _ (by omega) z1, up _ z2, lt _ z2, z3⟩
        · exact Or.inr ⟨d, d1, kfn _ (by omega) d2, up _ d3, lt _ d3, d4, d5⟩
    · rw [kf' _ u, rk' _ u]
      rcases h4 c hc u with ⟨z1, z2, z3, z4⟩ | ⟨d, d1, d2, d3, d4, d5, d6⟩
      · exact Or.inl ⟨z1, up _ z2, by rw [rk' _ z2]; exact z3, z4⟩
      · exact Or.inr ⟨d, d1, d2, up _ d3, by rw [rk' _ d3]; exact d4, d5, d6⟩
/-- nothing is seen yet -/
theorem bq_0 (h : ∀ n, n < 2 * S → cF n = -1) : BQ S a b sd me cy bf ex 0 cF qu := ⟨fun _ => 0, fun i hi => absurd hi (Nat.not_lt_zero _), fun n hn => absurd (h n hn.1) hn.2, fun n _ hs => absurd (h n hs.1) hs.2, fun c _ hs => absurd (h (S + c) hs.1) hs.2⟩
/-- what the first h of the queue lead to is seen -/
def BD (S a b t : Nat) (sd cy bf cF qu : Nat → Int32) (h : Nat) : Prop := ∀ i, i < h → ∀ n, n < 2 * S → qu i = nI n → (n < S → (¬ kW S cy n → kS S cF (S + n)) ∧ (kW S cy n → kB S bf n < S → kS S cF (S + kB S bf n))) ∧ ∀ c, c < S → n = S + c → (∀ d, zbs S a b c d → kW S sd d → kS S cF d) ∧ (kW S cy c → kS S cF c) ∧ ¬ zbs S a b c t
theorem bd_clo {t : Nat} (hbW : ∀ d, kW S cy d → kB S bf d < S → kW S sd (kB S bf d)) (hMW : ∀ c, kW S me c → kW S sd c) (h : BQ S a b sd me cy bf ex q cF qu) (hb : BD S a b t sd cy bf cF qu q) (hm : ∀ c, kW S me c → kS S cF c) : zclo S (zbs S a b) (kW S sd) (kW S me) (fun c => zbs S a b c t) (kW S cy) (kB S bf) (fun c => c < S ∧ kS S cF c) (fun c => c < S ∧ kW S sd c ∧ kS S cF (S + c)) := by
  obtain ⟨rk, h1, h2, h3, h4⟩ := h
  have at_ : ∀ n, kS S cF n → _ := fun n hn => hb (rk n) (h2 n hn).1 n hn.1 (h2 n hn).2
  refine ⟨fun c p => ⟨p.1, hm c p⟩, fun c p w => ⟨p.1, (h3 c p.1 p.2).1, ((at_ c p.2).1 p.1).1 w⟩, fun c p w u => ?_, fun c d p q w => ⟨w.1, ((at_ (S + c) p.2.2).2 c p.1 rfl).1 d q w⟩, fun c p w => ⟨p.1, ((at_ (S + c) p.2.2).2 c p.1 rfl).2.1 w⟩, fun c p => ((at_ (S + c) p.2.2).2 c p.1 rfl).2.2, fun c p => (h3 c p.1 p.2).1, fun c p => p.2.1⟩
  have x := ((at_ c p.2).1 p.1).2 w u
  exact ⟨u, hbW c w u, x⟩
/-- what was seen stays as it is -/
def BM (q q' : Nat) (cF qu cF' qu' : Nat → Int32) : Prop := q ≤ q' ∧ (∀ n, ¬ cF n = -1 → cF' n = cF n) ∧ ∀ i, i < q → qu' i = qu i
theorem bm_0 : BM q q cF qu cF qu := ⟨Nat.le_refl _, fun _ _ => rfl, fun _ _ => rfl⟩
theorem bm_t {q1 q2 : Nat} {c1 u1 c2 u2 : Nat → Int32} (h : BM q q1 cF qu c1 u1) (g : BM q1 q2 c1 u1 c2 u2) : BM q q2 cF qu c2 u2 := ⟨Nat.le_trans h.1 g.1, fun n hn => (g.2.1 n (by rw [h.2.1 n hn]; exact hn)).trans (h.2.1 n hn), fun i hi => (g.2.2 i (Nat.lt_of_lt_of_le hi h.1)).trans (h.2.2 i hi)⟩
theorem bm_put {n : Nat} {f v : Int32} (e : cF n = -1) : BM q (q + 1) cF qu (upd cF n f) (upd qu q v) := ⟨by omega, fun m hm => if_neg (fun (w : m = n) => hm (w ▸ e)), fun i hi => if_neg (by omega)⟩
theorem bm_s {q1 n : Nat} {c1 u1 : Nat → Int32} (h : BM q q1 cF qu c1 u1) (hs : kS S cF n) : kS S c1 n := ⟨hs.1, by rw [h.2.1 n hs.2]; exact hs.2⟩
theorem kB_n {n m : Nat} {f : Nat → Int32} (hm : m < 1000) (e : f n = nI m) : kB S f n = m := by
  unfold kB
  rw [e, if_neg (nI_pos (by omega)), nI_clamp (by omega)]
theorem kB_m {n : Nat} {f : Nat → Int32} (e : f n < 0) : kB S f n = S := if_pos e
theorem bq_at {i : Nat} (hS : S ≤ 64) (h : BQ S a b sd me cy bf ex q cF qu) (hi : i < q) : ∃ n, n < 2 * S ∧ qu i = nI n ∧ kS S cF n := by
  obtain ⟨rk, h1, _⟩ := h
  obtain ⟨n, n1, n2, n3, _⟩ := h1 i hi
  exact ⟨n, n1, n2, n1, n3⟩
end SEARCH
theorem kB_no {S c : Nat} {bf : Nat → Int32} (hS : S ≤ 64) (w : ¬ (0 ≤ bf c ∧ bf c < nI S)) : ¬ kB S bf c < S := by
  unfold kB
  split
  · omega
  · rename_i h
    obtain ⟨m, hm, e⟩ := nI_of h
    rw [e, nI_clamp hm]
    intro u
    rw [e] at w
    exact w ⟨Int32.not_lt.mp (nI_pos hm), (nI_ltI hm (by omega)).mpr u⟩
/-- an exit looked round, s sides of it -/
def BX (S a b t k : Nat) (sd cF : Nat → Int32) (i : Nat) : Prop := ∀ s, s < i → ∀ d, d < S → znb a b k s = nI d → (kW S sd d → kS S cF d) ∧ ¬ d = t
theorem bx_0 {S a b t k : Nat} {sd cF : Nat → Int32} : BX S a b t k sd cF 0 := fun s hs => absurd hs (Nat.not_lt_zero _)
theorem bx_s {S a b t k i : Nat} {sd cF cF' : Nat → Int32} (h : BX S a b t k sd cF i) (hm : ∀ n, ¬ cF n = -1 → cF' n = cF n) (hd : ∀ d, d < S → znb a b k i = nI d → (kW S sd d → kS S cF' d) ∧ ¬ d = t) : BX S a b t k sd cF' (i + 1) := fun s hs d h1 h2 => by
  by_cases e : s = i
  · subst e
    exact hd d h1 h2
  · obtain ⟨g1, g2⟩ := h s (by omega) d h1 h2
    exact ⟨fun w => ⟨(g1 w).1, by rw [hm d (g1 w).2]; exact (g1 w).2⟩, g2⟩
theorem bx_4 {S a b t k : Nat} {sd cF : Nat → Int32} (ht : t < S) (h : BX S a b t k sd cF 4) : (∀ d, zbs S a b k d → kW S sd d → kS S cF d) ∧ ¬ zbs S a b k t := ⟨fun d ⟨_, h2, s, h3, h4⟩ w => (h s h3 d h2 h4).1 w, fun ⟨_, _, s, h3, h4⟩ => (h s h3 t ht h4).2 rfl⟩
theorem bq_le {S a b ex q : Nat} {sd me cy bf cF qu : Nat → Int32} (hS : S ≤ 64) (h : BQ S a b sd me cy bf ex q cF qu) : q ≤ 2 * S := by
  obtain ⟨rk, h1, h2, h3⟩ := h
  have g : ∀ i, i < q → (qu i).toNatClampNeg < 2 * S ∧ rk (qu i).toNatClampNeg = i := fun i hi => by
    obtain ⟨m, m1, m2, m3, m4⟩ := h1 i hi
    rw [m2, nI_clamp (by omega)]
    exact ⟨m1, m4⟩
  have c := zcp_in (f := fun i => (qu i).toNatClampNeg) (S := 2 * S) q (fun _ => True) (fun _ => True) (fun i hi _ => ⟨(g i hi).1, trivial⟩) (fun i j hi hj _ _ w => by
    rw [← (g i hi).2, ← (g j hj).2]
    exact congrArg rk w)
  rw [zcp_T, zcp_T] at c
  exact c
theorem ms_s {S i : Nat} {me cF cF' : Nat → Int32} (h : ∀ c, c < i → kW S me c → kS S cF c) (hm : ∀ n, ¬ cF n = -1 → cF' n = cF n) (hi : kW S me i → kS S cF' i) : ∀ c, c < i + 1 → kW S me c → kS S cF' c := fun c hc w => by
  by_cases e : c = i
  · subst e
    exact hi w
  · have g := h c (by omega) w
    exact ⟨g.1, by rw [hm c g.2]; exact g.2⟩
theorem bd_0 {S a b t : Nat} {sd cy bf cF qu : Nat → Int32} : BD S a b t sd cy bf cF qu 0 := fun i hi => absurd hi (Nat.not_lt_zero _)
theorem bd_e {S a b t h q q2 n : Nat} {sd cy bf cF qu cF' qu' : Nat → Int32} (hS : S ≤ 64) (hb : BD S a b t sd cy bf cF qu h) (hq : h < q) (hm : BM q q2 cF qu cF' qu') (hn : n < S) (e : qu h = nI n) (c : (¬ kW S cy n → kS S cF' (S + n)) ∧ (kW S cy n → kB S bf n < S → kS S cF' (S + kB S bf n))) : BD S a b t sd cy bf cF' qu' (h + 1) := fun i hi m hm2 em => by
  rw [hm.2.2 i (by omega)] at em
  by_cases u : i = h
  · subst u
    obtain rfl : n = m := (nI_eq (by omega) (by omega)).mp (e.symm.trans em)
    exact ⟨fun _ => c, fun c' h1 h2 => absurd hn (by omega)⟩
  · obtain ⟨g1, g2⟩ := hb i (by omega) m hm2 em
    exact ⟨fun w => ⟨fun v => bm_s hm ((g1 w).1 v), fun v u => bm_s hm ((g1 w).2 v u)⟩, fun c' h1 h2 => ⟨fun d z w => bm_s hm ((g2 c' h1 h2).1 d z w), fun w => bm_s hm ((g2 c' h1 h2).2.1 w), (g2 c' h1 h2).2.2⟩⟩
theorem bd_x {S a b t h q q2 n k : Nat} {sd cy bf cF qu cF' qu' : Nat → Int32} (hS : S ≤ 64) (hb : BD S a b t sd cy bf cF qu h) (hq : h < q) (hm : BM q q2 cF qu cF' qu') (hk : k < S) (hn : n = S + k) (e : qu h = nI n) (c : (∀ d, zbs S a b k d → kW S sd d → kS S cF' d) ∧ (kW S cy k → kS S cF' k) ∧ ¬ zbs S a b k t) : BD S a b t sd cy bf cF' qu' (h + 1) := fun i hi m hm2 em => by
  rw [hm.2.2 i (by omega)] at em
  by_cases u : i = h
  · subst u
    obtain rfl : n = m := (nI_eq (by omega) (by omega)).mp (e.symm.trans em)
    refine ⟨fun w => absurd w (by omega), fun c' h1 h2 => ?_⟩
    obtain rfl : k = c' := by omega
    exact c
  · obtain ⟨g1, g2⟩ := hb i (by omega) m hm2 em
    exact ⟨fun w => ⟨fun v => bm_s hm ((g1 w).1 v), fun v u => bm_s hm ((g1 w).2 v u)⟩, fun c' h1 h2 => ⟨fun d z w => bm_s hm ((g2 c' h1 h2).1 d z w), fun w => bm_s hm ((g2 c' h1 h2).2.1 w), (g2 c' h1 h2).2.2⟩⟩
theorem bd_le {S a b t h q : Nat} {sd cy bf cF qu : Nat → Int32} (hb : BD S a b t sd cy bf cF qu h) (w : q ≤ h) : BD S a b t sd cy bf cF qu q := fun i hi => hb i (by omega)
/-! BREAKS: a row is added, as the rows have it -/
section ADD
variable {S a b t : Nat} {sd me cy bf af cF : Nat → Int32}
theorem kw_1 {c : Nat} (hc : c < S) : kW S (upd cy c 1) = fun x => x = c ∨ kW S cy x := by
  funext x
  unfold kW upd
  by_cases e : x = c
  · rw [if_pos e]
    exact propext ⟨fun _ => Or.inl e, fun _ => ⟨by omega, by decide⟩⟩
  · rw [if_neg e]
    exact propext ⟨Or.inr, fun w => w.resolve_left e⟩
theorem kw_0 {c : Nat} : kW S (upd cy c 0) = fun x => kW S cy x ∧ ¬ x = c := by
  funext x
  unfold kW upd
  by_cases e : x = c
  · rw [if_pos e]
    exact propext ⟨fun w => absurd rfl w.2, fun w => absurd e w.2⟩
  · rw [if_neg e]
    exact propext ⟨fun w => ⟨w, e⟩, fun w => w.1⟩
theorem kb_u {d c : Nat} (hc : c < 1000) : kB S (upd bf d (nI c)) = zup (kB S bf) d c := by
  funext x
  unfold kB zup upd
  by_cases e : x = d
  · rw [if_pos e, if_pos e, if_neg (nI_pos (by omega)), nI_clamp (by omega)]
  · rw [if_neg e, if_neg e]
theorem kb_2 {d : Nat} : kB S (upd bf d (-2)) = zup (kB S bf) d S := by
  funext x
  unfold kB zup upd
  by_cases e : x = d
  · rw [if_pos e, if_pos e, if_pos (by decide)]
  · rw [if_neg e, if_neg e]
theorem ka_u {d c : Nat} (hc : c < 1000) : kA S (upd af d (nI c)) = zup (kA S af) d c := by
  funext x
  unfold kA zup upd
  by_cases e : x = d
  · rw [if_pos e, if_pos e, if_neg (nI_pos (by omega)), nI_clamp (by omega)]
  · rw [if_neg e, if_neg e]
theorem ka_3 {d : Nat} : kA S (upd af d (-3)) = zup (kA S af) d S := by
  funext x
  unfold kA zup upd
  by_cases e : x = d
  · rw [if_pos e, if_pos e, if_pos (by decide)]
  · rw [if_neg e, if_neg e]
theorem kF_i {n m : Nat} (hR : ∀ n, rt (cF n) (2 * S)) (hS : S ≤ 64) (h : kF S cF n = m) (hm : m < 2 * S) : cF n = nI m := by
  unfold kF at h
  rcases hR n with e | e | ⟨k, hk, e⟩
  · rw [e, if_pos (by decide)] at h
    omega
  · rw [e, if_pos (by decide)] at h
    omega
  · rw [e, if_neg (nI_pos (by omega)), nI_clamp (by omega)] at h
    rw [e, h]
theorem kF_j {n : Nat} (hR : ∀ n, rt (cF n) (2 * S)) (hS : S ≤ 64) (hs : kS S cF n) (h : kF S cF n = 2 * S) : cF n = -2 := by
  unfold kF at h
  rcases hR n with e | e | ⟨k, hk, e⟩
  · exact absurd e hs.2
  · exact e
  · rw [e, if_neg (nI_pos (by omega)), nI_clamp (by omega)] at h
    omega
/-- what one turn leaves -/
def TU (S n : Nat) (x : Int32) (cy bf af cy' bf' af' : Nat → Int32) : Prop := (∀ c : Nat, c < S → n = S + c → x = nI c → cy' = upd cy c 1 ∧ bf' = bf ∧ af' = af) ∧ (∀ c : Nat, c < S → n = S + c → ¬ x = nI c → cy' = cy ∧ bf' = bf ∧ af' = af) ∧ (n < S → x = -2 → cy' = cy ∧ bf' = upd bf n (-2) ∧ af' = af) ∧ (n < S → x = nI (S + n) → cy' = upd cy n 0 ∧ bf' = bf ∧ af' = af) ∧ (n < S → ∀ b : Nat, b < S → ¬ b = n → x = nI (S + b) → cy' = cy ∧ bf' = upd bf n (nI b) ∧ af' = upd af b (nI n))
theorem aug_st {ca0 : Nat → Prop} {be0 af0 rk : Nat → Nat} {r n : Nat} {cy' bf' af' : Nat → Int32} (ha1 : 1 ≤ a) (ha8 : a ≤ 8) (hS1 : 1 ≤ S) (hS : S ≤ 64) (hR : ∀ n, rt (cF n) (2 * S)) (h : zrow S (zbs S a b) (kW S sd) (kW S me) (fun c => zbs S a b c t) ca0 be0 af0) (p : zsee S (zbs S a b) (kW S sd) (kW S me) ca0 be0 (kS S cF) (kF S cF) rk S) (hs : kS S cF n) (v : zinv S (zbs S a b) (kW S sd) (kW S me) (fun c => zbs S a b c t) ca0 af0 (kS S cF) (kF S cF) rk r n (kW S cy) (kB S bf) (kA S af)) (tu : TU S n (cF n) cy bf af cy' bf' af') : (cF n = -2 ∧ zrow S (zbs S a b) (kW S sd) (kW S me) (fun c => zbs S a b c t) (kW S cy') (kB S bf') (kA S af') ∧ zcp (fun c => kW S cy' c ∧ kB S bf' c = S) S = r + 1) ∨ ∃ m, m < 2 * S ∧ cF n = nI m ∧ kS S cF m ∧ rk m < rk n ∧ zinv S (zbs S a b) (kW S sd) (kW S me) (fun c => zbs S a b c t) ca0 af0 (kS S cF) (kF S cF) rk r m (kW S cy') (kB S bf') (kA S af') := by
  obtain ⟨t1, t2, t3, t4, t5⟩ := tu
  have hA : ∀ x, ¬ zbs S a b x x := fun x => zbs_ir ha1 ha8 hS
  have hn := hs.1
  by_cases u : n < S
  · rcases (p.1 n u hs).2 with ⟨q1, q2⟩ | ⟨b', b1, b2, b3, b4, b5, b6⟩ | ⟨q1, q2, q3, q4⟩
    · have e := kF_j hR hS hs q1
      obtain ⟨e1, e2, e3⟩ := t3 u e
      have z := aug_e3 hS1 p u hs q1 v
      refine Or.inl ⟨e, ?_⟩
      rw [e1, e2, e3, kb_2]
      exact z
    · have e := kF_i hR hS b2 (by omega)
      obtain ⟨e1, e2, e3⟩ := t5 u b' b1 b5 e
      obtain ⟨z1, z2, z3⟩ := aug_e2 hA h p u hs b1 b2 b5 v
      refine Or.inr ⟨S + b', by omega, e, z1, z2, ?_⟩
      rw [e1, e2, e3, kb_u (by omega), ka_u (by omega)]
      exact z3
    · have e := kF_i hR hS q1 (by omega)
      obtain ⟨e1, e2, e3⟩ := t4 u e
      obtain ⟨z1, z2, z3⟩ := aug_e1 hA h p u hs q1 v
      refine Or.inr ⟨S + n, by omega, e, z1, z2, ?_⟩
      rw [e1, e2, e3, kw_0]
      exact z3
  · obtain ⟨c, hc, rfl⟩ : ∃ c, c < S ∧ n = S + c := ⟨n - S, by omega, by omega⟩
    rcases p.2 c hc hs with ⟨q1, q2, q3, q4⟩ | ⟨d, q0, q1, q2, q3, q4, q5⟩
    · have e := kF_i hR hS q1 (by omega)
      obtain ⟨e1, e2, e3⟩ := t1 c hc rfl e
      obtain ⟨z1, z2, z3⟩ := aug_x1 p hc hs q1 v
      refine Or.inr ⟨c, by omega, e, z1, z2, ?_⟩
      rw [e1, e2, e3, kw_1 hc]
      exact z3
    · have e := kF_i hR hS q1 (by omega)
      have n1 : ¬ d = c := fun w => by
        obtain ⟨_, _, i, _⟩ := h d q4
        rcases i with ⟨i, _⟩ | ⟨_, _, _, i⟩
        · omega
        · rw [q5, ← w] at i
          exact hA _ i
      obtain ⟨e1, e2, e3⟩ := t2 c hc rfl (fun w => n1 ((nI_eq (by omega) (by omega)).mp (e.symm.trans w)))
      obtain ⟨z1, z2, z3⟩ := aug_x2 p hc hs q0 q1 n1 v
      refine Or.inr ⟨d, by omega, e, z1, z2, ?_⟩
      rw [e1, e2, e3]
      exact z3
end ADD
/-! BREAKS: is a house in some smallest break; a house is kept -/
section KEEP
variable {S a b t : Nat} {sd me cy bf af cF qu : Nat → Int32}
def zdec2 (S a b t : Nat) (sd me : Nat → Int32) (r k : Nat) : Prop := kW S sd k ∧ 1 ≤ r ∧ zcut S (zbs S a b) (fun c => kW S sd c ∧ ¬ c = k) (fun c => kW S me c ∧ ¬ c = k) (fun c => zbs S a b c t) (r - 1)
theorem isb_y {r k q : Nat} (hk : k < S) (hr : zrow S (zbs S a b) (kW S sd) (kW S me) (fun c => zbs S a b c t) (kW S cy) (kB S bf) (kA S af)) (hn : zcp (fun c => kW S cy c ∧ kB S bf c = S) S = r) (hMW : ∀ c, kW S me c → kW S sd c) (hb : BQ S a b sd me cy bf k q cF qu) (hd : BD S a b t sd cy bf cF qu q) (hm : ∀ c, kW S me c → kS S cF c) (hw : k < S → kS S cF k) (e : cF (S + k) = -1) : zdec2 S a b t sd me r k := by
  have y := bd_clo (fun d w u => (hr d w).2.2.1.elim (fun z => absurd z.1 (by omega)) (fun z => (hr _ z.2.1).2.1)) hMW hb hd hm
  have z := brk_y hk hr hn y ⟨hk, hw hk⟩ (fun w => w.2.2.2 e)
  exact ⟨y.2.2.2.2.2.2.1 k ⟨hk, hw hk⟩, z⟩
theorem isb_n0 {r k : Nat} (hk : k < S) (hr : zrow S (zbs S a b) (kW S sd) (kW S me) (fun c => zbs S a b c t) (kW S cy) (kB S bf) (kA S af)) (hn : zcp (fun c => kW S cy c ∧ kB S bf c = S) S = r) (e : cy k = 0) : ¬ zdec2 S a b t sd me r k := fun ⟨h1, h2, h3⟩ => (brk_n hk h1 (fun _ w => w.1) hr hn h2 h3).1.2 e
theorem isb_n {r k q n c : Nat} (hk : k < S) (hr : zrow S (zbs S a b) (kW S sd) (kW S me) (fun c => zbs S a b c t) (kW S cy) (kB S bf) (kA S af)) (hn : zcp (fun c => kW S cy c ∧ kB S bf c = S) S = r) (hb : BQ S a b sd me cy bf k q cF qu) (hc : c < S) (hs : kS S cF (S + c)) (h : c = k ∨ zbs S a b c t) : ¬ zdec2 S a b t sd me r k := fun ⟨h1, h2, h3⟩ => by
  obtain ⟨_, YE, YX, y, y1, y2⟩ := brk_n hk h1 (fun _ w => w.1) hr hn h2 h3
  obtain ⟨rk, _, _, p⟩ := hb
  have z := (zsee_in (fun _ w => w.1) p y (fun _ => y1) (rk (S + c)) (S + c) (Nat.le_refl _)).2 c hc rfl hs
  rcases h with h | h
  · exact y2 (h ▸ z)
  · exact y.2.2.2.2.2.1 c z h
/-- the way along f from k is gone, i steps of it -/
def KG (S : Nat) (f : Nat → Nat) (k : Nat) (cy cy' : Nat → Int32) (i : Nat) : Prop := (∀ m, m ≤ i → znx f k m < S) ∧ ∀ c, kW S cy' c ↔ (kW S cy c ∧ ¬ ∃ m, 1 ≤ m ∧ m ≤ i ∧ c = znx f k m)
theorem kg_0 {f : Nat → Nat} {k : Nat} (hk : k < S) : KG S f k cy cy 0 := ⟨fun m hm => by
  obtain rfl : m = 0 := by omega
  exact hk, fun c => ⟨fun w => ⟨w, fun ⟨m, h1, h2, _⟩ => by omega⟩, fun w => w.1⟩⟩
theorem kg_s {f : Nat → Nat} {k i n : Nat} {cy' : Nat → Int32} (h : KG S f k cy cy' i) (hn : n < S) (e : f (znx f k i) = n) : KG S f k cy (upd cy' n 0) (i + 1) := by
  obtain ⟨h1, h2⟩ := h
  have e' : znx f k (i + 1) = n := e
  refine ⟨fun m hm => ?_, fun c => ?_⟩
  · by_cases u : m = i + 1
    · rw [u, e']
      exact hn
    · exact h1 m (by omega)
  · rw [kw_0]
    show kW S cy' c ∧ ¬ c = n ↔ _
    rw [h2 c]
    refine ⟨fun ⟨⟨w1, w2⟩, w3⟩ => ⟨w1, fun ⟨m, m1, m2, m3⟩ => ?_⟩, fun ⟨w1, w2⟩ => ⟨⟨w1, fun ⟨m, m1, m2, m3⟩ => w2 ⟨m, m1, by omega, m3⟩⟩, fun w => w2 ⟨i + 1, by omega, by omega, w.trans e'.symm⟩⟩⟩
    by_cases u : m = i + 1
    · exact w3 (m3.trans (by rw [u, e']))
    · exact w2 ⟨m, m1, by omega, m3⟩
theorem kg_far {f : Nat → Nat} {k i : Nat} {cy' : Nat → Int32} (h : KG S f k cy cy' i) (hi : i ≤ S) (w : i = S ∨ ¬ f (znx f k i) < S) : zfar S f k i := ⟨hi, h.1, w⟩
/-- the whole of it: both ways, and the house itself -/
theorem kg_all {f g : Nat → Nat} {k p q : Nat} {c1 c2 : Nat → Int32} (h : KG S f k cy c1 p) (h2 : KG S g k c1 c2 q) : ∀ c, kW S (upd c2 k 0) c ↔ (kW S cy c ∧ ¬ ((∃ m, m ≤ p ∧ c = znx f k m) ∨ ∃ m, m ≤ q ∧ c = znx g k m)) := fun c => by
  rw [kw_0]
  show kW S c2 c ∧ ¬ c = k ↔ _
  rw [h2.2 c, h.2 c]
  refine ⟨fun ⟨⟨⟨w1, w2⟩, w3⟩, w4⟩ => ⟨w1, fun u => ?_⟩, fun ⟨w1, w2⟩ => ⟨⟨⟨w1, fun ⟨m, m1, m2, m3⟩ => w2 (Or.inl ⟨m, m2, m3⟩)⟩, fun ⟨m, m1, m2, m3⟩ => w2 (Or.inr ⟨m, m2, m3⟩)⟩, fun e => w2 (Or.inl ⟨0, Nat.zero_le _, e⟩)⟩⟩
  rcases u with ⟨m, m1, m2⟩ | ⟨m, m1, m2⟩
  · by_cases e : m = 0
    · subst e
      exact w4 m2
    · exact w2 ⟨m, by omega, m1, m2⟩
  · by_cases e : m = 0
    · subst e
      exact w4 m2
    · exact w3 ⟨m, by omega, m1, m2⟩
theorem kB_x {c n : Nat} (hn : n < 1000) (e : bf c = nI n) : kB S bf c = n := kB_n hn e
theorem kA_n {n m : Nat} {f : Nat → Int32} (hm : m < 1000) (e : f n = nI m) : kA S f n = m := by
  unfold kA
  rw [e, if_neg (nI_pos (by omega)), nI_clamp (by omega)]
theorem kA_no {c : Nat} (hS : S ≤ 64) (w : ¬ (0 ≤ af c ∧ af c < nI S)) : ¬ kA S af c < S := kB_no (bf := af) hS w
end KEEP
/-! BREAKS: one house after the other -/
def wK (W : Nat → Prop) (K : List Nat) : Nat → Prop := fun c => W c ∧ ¬ c ∈ K
section GREEDY
variable (S : Nat) (A : Nat → Nat → Prop) (W M T : Nat → Prop) (r : Nat)
def zgd (K : List Nat) (i : Nat) : Prop := K.length < r ∧ wK W K i ∧ zcut S A (fun c => wK W K c ∧ ¬ c = i) (fun c => wK M K c ∧ ¬ c = i) T (r - K.length - 1)
noncomputable def zgk : Nat → List Nat
  | 0 => []
  | i + 1 => @ite _ (zgd S A W M T r (zgk i) i) (Classical.propDecidable _) (zgk i ++ [i]) (zgk i)
variable {S A W M T r}
theorem zgk_y {i : Nat} (h : zgd S A W M T r (zgk S A W M T r i) i) : zgk S A W M T r (i + 1) = zgk S A W M T r i ++ [i] := if_pos h
theorem zgk_n {i : Nat} (h : ¬ zgd S A W M T r (zgk S A W M T r i) i) : zgk S A W M T r (i + 1) = zgk S A W M T r i := if_neg h
theorem zgk_lt : ∀ i c, c ∈ zgk S A W M T r i → c < i
  | 0, c, h => absurd h List.not_mem_nil
  | i + 1, c, h => by
    by_cases d : zgd S A W M T r (zgk S A W M T r i) i
    · rw [zgk_y d, List.mem_append, List.mem_singleton] at h
      rcases h with h | h
      · have := zgk_lt i c h
        omega
      · omega
    · rw [zgk_n d] at h
      have := zgk_lt i c h
      omega
theorem zgk_le : ∀ i, (zgk S A W M T r i).length ≤ r
  | 0 => Nat.zero_le _
  | i + 1 => by
    have := zgk_le i
    by_cases d : zgd S A W M T r (zgk S A W M T r i) i
    · rw [zgk_y d, List.length_append]
      have := d.1
      show _ + 1 ≤ r
      omega
    · rw [zgk_n d]
      exact this
/-- none is wanting: the rest changes nothing -/
theorem zgk_st {i : Nat} (h : r ≤ (zgk S A W M T r i).length) : ∀ j, zgk S A W M T r (i + j) = zgk S A W M T r i
  | 0 => rfl
  | j + 1 => by
    have e := zgk_st h j
    have d : ¬ zgd S A W M T r (zgk S A W M T r (i + j)) (i + j) := fun w => by
      have := w.1
      rw [e] at this
      omega
    rw [show i + (j + 1) = (i + j) + 1 by omega, zgk_n d, e]
/-- a cut of the told one's own sides -/
theorem zsep_T (hMW : ∀ c, M c → W c) : zsep A W M T (fun c => W c ∧ T c) (fun c => W c ∧ ¬ T c) := by
  refine ⟨fun c p => p.1, fun c p => ?_, fun c d p q w => ?_, fun c p => p.2, fun c p q => p.2 q.2, fun c p => p.1⟩
  · by_cases t : T c
    · exact Or.inl ⟨hMW c p, t⟩
    · exact Or.inr ⟨hMW c p, t⟩
  · by_cases t : T d
    · exact Or.inl ⟨w, t⟩
    · exact Or.inr ⟨w, t⟩
theorem zcut_4 {ca : Nat → Prop} {be af : Nat → Nat} (hMW : ∀ c, M c → W c) (h : zrow S A W M T ca be af) (hn : zcp (fun c => ca c ∧ be c = S) S = 4) (h4 : zcp (fun c => W c ∧ T c) S ≤ 4) : zcut S A W M T 4 := by
  have a := zrow_le h (zsep_T hMW)
  exact ⟨⟨_, _, zsep_T hMW, by omega⟩, fun C X hs => by
    have := zrow_le h hs
    omega⟩
theorem zrow_0 {be af : Nat → Nat} : zrow S A W M T (fun _ => False) be af := fun c hc => hc.elim
theorem zrow_c {ca ca' W' M' : Nat → Prop} {be af : Nat → Nat} (h : zrow S A W M T ca be af) (e : ∀ c, ca' c ↔ ca c) (eW : ∀ c, W' c ↔ W c) (eM : ∀ c, M' c ↔ M c) : zrow S A W' M' T ca' be af := by
  obtain rfl : ca' = ca := funext fun c => propext (e c)
  obtain rfl : W' = W := funext fun c => propext (eW c)
  obtain rfl : M' = M := funext fun c => propext (eM c)
  exact h
end GREEDY
/-- at most four are beside one -/
theorem zbs_4 {S a b t : Nat} {W : Nat → Prop} (hW : Wd S a b) (ht : t < S) : zcp (fun c => W c ∧ zbs S a b c t) S ≤ 4 := by
  obtain ⟨ha1, ha8, hb1, hb8, hab, hS1, hS⟩ := id hW
  have sym : ∀ c, zbs S a b c t → ∃ s, s < 4 ∧ znb a b t s = nI c := fun c ⟨h1, h2, s, h3, h4⟩ => by
    have z := (znb_ds ha1 hab hS h1 (show t < 1000 by omega) h3 h4).2
    exact zds_nb ha1 hab h2 h1 (by rw [zds_sym]; exact z)
  have g : ∀ c, ∃ s, zbs S a b c t → s < 4 ∧ znb a b t s = nI c := fun c => by
    by_cases h : zbs S a b c t
    · obtain ⟨s, e⟩ := sym c h
      exact ⟨s, fun _ => e⟩
    · exact ⟨0, fun w => absurd w h⟩
  obtain ⟨f, hf⟩ := Classical.axiomOfChoice g
  have := zcp_in (f := f) (S := 4) S (fun c => W c ∧ zbs S a b c t) (fun _ => True) (fun c hc p => ⟨(hf c p.2).1, trivial⟩) (fun c c' hc hc' p p' e => by
    have e1 := (hf c p.2).2
    have e2 := (hf c' p'.2).2
    rw [e] at e1
    exact (nI_eq (by omega) (by omega)).mp (e1.symm.trans e2))
  rw [zcp_T] at this
  exact this
/-! BREAKS: the plan of the class -/
def zbb (S a b : Nat) (st : Nat → Int32) (k : Nat) : Prop := ∃ s, s < 4 ∧ zbu S st (znb a b k s)
def pW (S : Nat) (st : Nat → Int32) (t : Nat) : Nat → Prop := fun c => c < S ∧ st c = 0 ∧ ¬ c = t
def pM (S a b : Nat) (st : Nat → Int32) (t : Nat) : Nat → Prop := fun c => pW S st t c ∧ zbb S a b st c
noncomputable def zpl9 (S a b : Nat) (st : Nat → Int32) (t r : Nat) : Nat → List Nat := zgk S (zbs S a b) (pW S st t) (pM S a b st t) (fun c => zbs S a b c t) r
theorem pl_up {P : Nat → Prop} {f : Nat → Int32} {i : Nat} {v : Int32} (h : ∀ c, c < i → (¬ f c = 0 ↔ P c)) (e : ¬ v = 0 ↔ P i) : ∀ c, c < i + 1 → (¬ upd f i v c = 0 ↔ P c) := fun c hc => by
  unfold upd
  by_cases u : c = i
  · rw [if_pos u, u]
    exact e
  · rw [if_neg u]
    exact h c (by omega)
theorem pl_u0 {f : Nat → Int32} {i : Nat} (h : ∀ c, c < i → f c = 0) : ∀ c, c < i + 1 → upd f i 0 c = 0 := fun c hc => by
  unfold upd
  by_cases u : c = i
  · rw [if_pos u]
  · rw [if_neg u]
    exact h c (by omega)
theorem pl_kW {S : Nat} {P : Nat → Prop} {f : Nat → Int32} (hP : ∀ c, P c → c < S) (h : ∀ c, c < S → (¬ f c = 0 ↔ P c)) : ∀ c, kW S f c ↔ P c := fun c => ⟨fun w => (h c w.1).mp w.2, fun w => ⟨hP c w, (h c (hP c w)).mpr w⟩⟩
theorem pl_z0 {S a b : Nat} {W M T : Nat → Prop} {f bf af : Nat → Int32} (h : ∀ c, c < S → f c = 0) : zrow S (zbs S a b) W M T (kW S f) (kB S bf) (kA S af) ∧ zcp (fun c => kW S f c ∧ kB S bf c = S) S = 0 := ⟨fun c w => absurd (h c w.1) w.2, zcp_0 S (fun c hc w => w.1.2 (h c hc))⟩
theorem gd_r (K : List Nat) (i : Nat) : (K ++ [i]).getD K.length 0 = i := by
  induction K with
  | nil => rfl
  | cons x K ih => exact ih
theorem gd_l (K : List Nat) (i : Nat) : ∀ j, j < K.length → (K ++ [i]).getD j 0 = K.getD j 0 := by
  induction K with
  | nil => exact fun j hj => absurd hj (Nat.not_lt_zero _)
  | cons x K ih =>
    intro j hj
    cases j with
    | zero => rfl
    | succ j => exact ih j (Nat.lt_of_succ_lt_succ hj)
section PLAN
variable {S a b t r : Nat} {st sd me cy bf af : Nat → Int32}
/-- before house i: ks are kept -/
def PL (S a b t r : Nat) (st : Nat → Int32) (i ks : Nat) (ke sd me cy bf af : Nat → Int32) : Prop := zcut S (zbs S a b) (pW S st t) (pM S a b st t) (fun c => zbs S a b c t) r ∧ ks = (zpl9 S a b st t r i).length ∧ (∀ c, kW S sd c ↔ wK (pW S st t) (zpl9 S a b st t r i) c) ∧ (∀ c, kW S me c ↔ wK (pM S a b st t) (zpl9 S a b st t r i) c) ∧ zrow S (zbs S a b) (kW S sd) (kW S me) (fun c => zbs S a b c t) (kW S cy) (kB S bf) (kA S af) ∧ zcp (fun c => kW S cy c ∧ kB S bf c = S) S = r - ks ∧ ∀ j, j < ks → ke j = nI ((zpl9 S a b st t r i).getD j 0)
theorem PL_0 {ke : Nat → Int32} (z : zcut S (zbs S a b) (pW S st t) (pM S a b st t) (fun c => zbs S a b c t) r) (h1 : ∀ c, kW S sd c ↔ pW S st t c) (h2 : ∀ c, kW S me c ↔ pM S a b st t c) (h3 : zrow S (zbs S a b) (kW S sd) (kW S me) (fun c => zbs S a b c t) (kW S cy) (kB S bf) (kA S af)) (h4 : zcp (fun c => kW S cy c ∧ kB S bf c = S) S = r) : PL S a b t r st 0 0 ke sd me cy bf af := ⟨z, rfl, fun c => (h1 c).trans ⟨fun w => ⟨w, List.not_mem_nil⟩, fun w => w.1⟩, fun c => (h2 c).trans ⟨fun w => ⟨w, List.not_mem_nil⟩, fun w => w.1⟩, h3, h4, fun j hj => absurd hj (Nat.not_lt_zero _)⟩
theorem PL_d {i ks : Nat} {ke : Nat → Int32} (h : PL S a b t r st i ks ke sd me cy bf af) (hk : ks < r) : zdec2 S a b t sd me (r - ks) i ↔ zgd S (zbs S a b) (pW S st t) (pM S a b st t) (fun c => zbs S a b c t) r (zpl9 S a b st t r i) i := by
  obtain ⟨h0, h1, h2, h3, _⟩ := h
  have e1 : (fun c => kW S sd c ∧ ¬ c = i) = fun c => wK (pW S st t) (zpl9 S a b st t r i) c ∧ ¬ c = i := funext fun c => propext (and_congr_left' (h2 c))
  have e2 : (fun c => kW S me c ∧ ¬ c = i) = fun c => wK (pM S a b st t) (zpl9 S a b st t r i) c ∧ ¬ c = i := funext fun c => propext (and_congr_left' (h3 c))
  unfold zdec2 zgd
  rw [e1, e2, h2 i, ← h1]
  exact ⟨fun w => ⟨hk, w.1, w.2.2⟩, fun w => ⟨w.2.1, by omega, w.2.2⟩⟩
theorem PL_n {i ks : Nat} {ke : Nat → Int32} (h : PL S a b t r st i ks ke sd me cy bf af) (hk : ks < r) (n : ¬ zdec2 S a b t sd me (r - ks) i) : PL S a b t r st (i + 1) ks ke sd me cy bf af := by
  have d := fun w => n ((PL_d h hk).mpr w)
  have e : zpl9 S a b st t r (i + 1) = zpl9 S a b st t r i := zgk_n d
  unfold PL
  rw [e]
  exact h
theorem PL_y {i ks : Nat} {ke sd' me' cy' : Nat → Int32} (hi : i < S) (h : PL S a b t r st i ks ke sd me cy bf af) (hk : ks < r) (y : zdec2 S a b t sd me (r - ks) i) (e1 : sd' = upd sd i 0) (e2 : me' = upd me i 0) (e3 : ∃ p q : Nat, zfar S (kB S bf) i p ∧ zfar S (kA S af) i q ∧ ∀ c, kW S cy' c ↔ (kW S cy c ∧ ¬ ((∃ m, m ≤ p ∧ c = znx (kB S bf) i m) ∨ ∃ m, m ≤ q ∧ c = znx (kA S af) i m))) : PL S a b t r st (i + 1) (ks + 1) (upd ke ks (nI i)) sd' me' cy' bf af := by
  have d := (PL_d h hk).mp y
  have e : zpl9 S a b st t r (i + 1) = zpl9 S a b st t r i ++ [i] := zgk_y d
  obtain ⟨h0, h1, h2, h3, h4, h5, h6⟩ := h
  obtain ⟨y1, y2, y3⟩ := y
  obtain ⟨p, q, f1, f2, f3⟩ := e3
  have ca := (brk_n hi y1 (fun _ w => w.1) h4 h5 y2 y3).1
  obtain ⟨k1, k2⟩ := keep_row hi h4 ca f1 f2 h5 y2 y3
  have mem : ∀ c, c ∈ zpl9 S a b st t r i ++ [i] ↔ (c ∈ zpl9 S a b st t r i ∨ c = i) := fun c => by
    rw [List.mem_append, List.mem_singleton]
  unfold PL
  rw [e]
  refine ⟨h0, ?_, fun c => ?_, fun c => ?_, ?_, ?_, fun j hj => ?_⟩
  · rw [List.length_append, ← h1]
    rfl
  · rw [e1, kw_0]
    show kW S sd c ∧ ¬ c = i ↔ _
    rw [h2 c]
    unfold wK
    rw [mem c]
    exact ⟨fun w => ⟨w.1.1, fun u => u.elim w.1.2 w.2⟩, fun w => ⟨⟨w.1, fun u => w.2 (Or.inl u)⟩, fun u => w.2 (Or.inr u)⟩⟩
  · rw [e2, kw_0]
    show kW S me c ∧ ¬ c = i ↔ _
    rw [h3 c]
    unfold wK
    rw [mem c]
    exact ⟨fun w => ⟨w.1.1, fun u => u.elim w.1.2 w.2⟩, fun w => ⟨⟨w.1, fun u => w.2 (Or.inl u)⟩, fun u => w.2 (Or.inr u)⟩⟩
  · refine zrow_c k1 f3 (fun c => ?_) (fun c => ?_)
    · rw [e1, kw_0]
    · rw [e2, kw_0]
  · rw [show r - (ks + 1) = r - ks - 1 by omega, ← k2]
    exact zcp_eq S (fun c _ => ⟨fun w => ⟨(f3 c).mp w.1, w.2⟩, fun w => ⟨(f3 c).mpr w.1, w.2⟩⟩)
  · unfold upd
    by_cases u : j = ks
    · rw [if_pos u, u, h1, gd_r]
    · rw [if_neg u, h6 j (by omega), gd_l _ _ j (by omega)]
/-- what the plan comes to -/
def PE (S a b t : Nat) (st : Nat → Int32) (n : Int32) (ke : Nat → Int32) : Prop := ∃ r : Nat, r ≤ 4 ∧ zcut S (zbs S a b) (pW S st t) (pM S a b st t) (fun c => zbs S a b c t) r ∧ n = nI (zpl9 S a b st t r S).length ∧ ∀ j, j < (zpl9 S a b st t r S).length → ke j = nI ((zpl9 S a b st t r S).getD j 0)
theorem PL_e {i ks : Nat} {ke : Nat → Int32} {n : Int32} (h : PL S a b t r st i ks ke sd me cy bf af) (hr : r ≤ 4) (hi : i ≤ S) (w : i = S ∨ r ≤ ks) (e : n = nI ks) : PE S a b t st n ke := by
  obtain ⟨h0, h1, h2, h3, h4, h5, h6⟩ := h
  have eS : zpl9 S a b st t r S = zpl9 S a b st t r i := by
    rcases w with w | w
    · rw [w]
    · have := zgk_st (S := S) (A := zbs S a b) (W := pW S st t) (M := pM S a b st t) (T := fun c => zbs S a b c t) (r := r) (i := i) (by
        show r ≤ (zpl9 S a b st t r i).length
        omega) (S - i)
      rw [show i + (S - i) = S by omega] at this
      exact this
  refine ⟨r, hr, h0, ?_, ?_⟩
  · rw [eS, ← h1]
    exact e
  · rw [eS, ← h1]
    exact h6
end PLAN
theorem PL_mw {S a b t r i ks : Nat} {st ke sd me cy bf af : Nat → Int32} (h : PL S a b t r st i ks ke sd me cy bf af) : ∀ c, kW S me c → kW S sd c := fun c w => (h.2.2.1 c).mpr ⟨((h.2.2.2.1 c).mp w).1.1, ((h.2.2.2.1 c).mp w).2⟩
theorem pl_c {S a b t r : Nat} {st sd me : Nat → Int32} (h1 : ∀ c, kW S sd c ↔ pW S st t c) (h2 : ∀ c, kW S me c ↔ pM S a b st t c) (h : zcut S (zbs S a b) (kW S sd) (kW S me) (fun c => zbs S a b c t) r) : zcut S (zbs S a b) (pW S st t) (pM S a b st t) (fun c => zbs S a b c t) r := by
  rw [show pW S st t = kW S sd from funext fun c => propext (h1 c).symm, show pM S a b st t = kW S me from funext fun c => propext (h2 c).symm]
  exact h
theorem PL_le {S a b t r i ks : Nat} {st ke sd me cy bf af : Nat → Int32} (h : PL S a b t r st i ks ke sd me cy bf af) : ks ≤ r := by
  rw [h.2.1]
  exact zgk_le i
/-! BREAKS: a found row taken over at once (the reference): what its way leaves -/
section TWO
def zE (way : Nat → Nat) (n u v : Nat) : Prop := ∃ j, j + 1 < n ∧ way (j + 1) = u ∧ way j = v
def zP (way : Nat → Nat) (n v : Nat) : Prop := ∃ j, j < n ∧ way j = v
/-- the way back from exit l to the fire -/
def zwp (S : Nat) (se : Nat → Prop) (cf way : Nat → Nat) (n l : Nat) : Prop := 1 ≤ n ∧ l < S ∧ way 0 = S + l ∧ (∀ j, j < n → way j < 2 * S ∧ se (way j)) ∧ (∀ j, j + 1 < n → cf (way j) = way (j + 1)) ∧ cf (way (n - 1)) = 2 * S
variable {S : Nat} {A : Nat → Nat → Prop} {W M T : Nat → Prop} {ca0 : Nat → Prop} {be0 af0 : Nat → Nat} {se : Nat → Prop} {cf rk way : Nat → Nat} {n l : Nat}
theorem w_rk (p : zsee S A W M ca0 be0 se cf rk S) (w : zwp S se cf way n l) {j : Nat} (hj : j + 1 < n) : rk (way (j + 1)) < rk (way j) := by
  obtain ⟨w1, w2, w3, w4, w5, w6⟩ := w
  obtain ⟨g1, g2⟩ := w4 j (by omega)
  have e := w5 j hj
  have g3 := (w4 (j + 1) hj).1
  by_cases u : way j < S
  · rcases (p.1 _ u g2).2 with ⟨q, _⟩ | ⟨b, _, q, _, q2, _⟩ | ⟨q, _, q2, _⟩
    · omega
    · rw [← e, q]
      exact q2
    · rw [← e, q]
      exact q2
  · have h : way j = S + (way j - S) := by omega
    rw [h] at g2
    rcases p.2 (way j - S) (by omega) g2 with ⟨q, _, q2, _⟩ | ⟨d, _, q, _, q2, _⟩
    · rw [← h] at q q2
      rw [← e, q]
      exact q2
    · rw [← h] at q q2
      rw [← e, q]
      exact q2
theorem w_rk2 (p : zsee S A W M ca0 be0 se cf rk S) (w : zwp S se cf way n l) {j : Nat} : ∀ k, j + k + 1 < n → rk (way (j + k + 1)) < rk (way j)
  | 0, h => w_rk p w h
  | k + 1, h => Nat.lt_trans (w_rk p w (j := j + k + 1) h) (w_rk2 p w k (by omega))
theorem w_inj (p : zsee S A W M ca0 be0 se cf rk S) (w : zwp S se cf way n l) {i j : Nat} (hi : i < n) (hj : j < n) (e : way i = way j) : i = j := by
  have hh : ∀ i j, i < j → j < n → way i = way j → False := fun i j h1 h2 e => by
    have := w_rk2 p w (j := i) (j - i - 1) (by omega)
    rw [show i + (j - i - 1) + 1 = j by omega, e] at this
    omega
  rcases Nat.lt_trichotomy i j with h | h | h
  · exact (hh i j h hj e).elim
  · exact h
  · exact (hh j i h hi e.symm).elim
theorem e_cf (w : zwp S se cf way n l) {u v : Nat} (e : zE way n u v) : cf v = u ∧ u < 2 * S ∧ se v := by
  obtain ⟨j, h1, h2, h3⟩ := e
  rw [← h2, ← h3]
  exact ⟨w.2.2.2.2.1 j h1, (w.2.2.2.1 _ h1).1, (w.2.2.2.1 j (by omega)).2⟩
theorem e_f (w : zwp S se cf way n l) {u u' v : Nat} (e : zE way n u v) (e' : zE way n u' v) : u = u' := (e_cf w e).1.symm.trans (e_cf w e').1
theorem e_t (p : zsee S A W M ca0 be0 se cf rk S) (w : zwp S se cf way n l) {u u' v : Nat} (e : zE way n v u) (e' : zE way n v u') : u = u' := by
  obtain ⟨j, h1, h2, h3⟩ := e
  obtain ⟨k, k1, k2, k3⟩ := e'
  have := w_inj p w h1 k1 (h2.trans k2.symm)
  obtain rfl : j = k := by omega
  exact h3.symm.trans k3
theorem e_in (p : zsee S A W M ca0 be0 se cf rk S) (w : zwp S se cf way n l) {u c : Nat} (hc : c < S) (e : zE way n u c) : (∃ b, b < S ∧ u = S + b ∧ ¬ b = c ∧ A b c) ∨ (u = S + c ∧ ca0 c) := by
  obtain ⟨h1, h2, h3⟩ := e_cf w e
  rcases (p.1 c hc h3).2 with ⟨q, _⟩ | ⟨b, b1, b2, _, _, b5, b6⟩ | ⟨q, _, _, q4⟩
  · omega
  · exact Or.inl ⟨b, b1, by omega, b5, b6⟩
  · exact Or.inr ⟨by omega, q4⟩
theorem e_out (p : zsee S A W M ca0 be0 se cf rk S) (w : zwp S se cf way n l) {u c : Nat} (hc : c < S) (e : zE way n u (S + c)) : (u = c ∧ ¬ ca0 c) ∨ (u < S ∧ ca0 u ∧ be0 u = c) := by
  obtain ⟨h1, h2, h3⟩ := e_cf w e
  rcases p.2 c hc h3 with ⟨q1, _, _, q4⟩ | ⟨d, q0, q1, _, _, q4, q5⟩
  · exact Or.inl ⟨by omega, q4⟩
  · obtain rfl : d = u := by omega
    exact Or.inr ⟨q0, q4, q5⟩
theorem p_pre {v : Nat} (h : zP way n v) : v = way (n - 1) ∨ ∃ u, zE way n u v := by
  obtain ⟨j, h1, h2⟩ := h
  by_cases u : j + 1 < n
  · exact Or.inr ⟨_, j, u, rfl, h2⟩
  · exact Or.inl (by rw [← h2, show n - 1 = j by omega])
theorem p_suc {v : Nat} (h : zP way n v) : v = way 0 ∨ ∃ u, zE way n v u := by
  obtain ⟨j, h1, h2⟩ := h
  cases j with
  | zero => exact Or.inl h2.symm
  | succ j => exact Or.inr ⟨_, j, h1, h2, rfl⟩
theorem e_p1 {u v : Nat} (e : zE way n u v) : zP way n u := e.elim fun j h => ⟨j + 1, h.1, h.2.1⟩
theorem e_p2 {u v : Nat} (e : zE way n u v) : zP way n v := e.elim fun j h => ⟨j, by omega, h.2.2⟩
theorem w_src (p : zsee S A W M ca0 be0 se cf rk S) (w : zwp S se cf way n l) : way (n - 1) < S ∧ M (way (n - 1)) ∧ ∀ u, ¬ zE way n u (way (n - 1)) := by
  obtain ⟨g1, g2⟩ := w.2.2.2.1 (n - 1) (by have := w.1; omega)
  have e := w.2.2.2.2.2
  have no : ∀ u, ¬ zE way n u (way (n - 1)) := fun u e' => by
    have := e_cf w e'
    omega
  by_cases u : way (n - 1) < S
  · rcases (p.1 _ u g2).2 with ⟨_, q | q⟩ | ⟨b, _, q, _⟩ | ⟨q, _⟩
    · exact ⟨u, q, no⟩
    · omega
    · omega
    · omega
  · have h : way (n - 1) = S + (way (n - 1) - S) := by omega
    rw [h] at g2
    rcases p.2 (way (n - 1) - S) (by omega) g2 with ⟨q, _⟩ | ⟨d, _, q, _⟩
    · rw [← h] at q
      omega
    · rw [← h] at q
      omega
theorem s_ent (p : zsee S A W M ca0 be0 se cf rk S) (w : zwp S se cf way n l) {c : Nat} (hc : c < S) (h : zP way n c) : (zE way n c (S + c) ∧ ¬ ca0 c) ∨ ∃ b, b < S ∧ zE way n c (S + b) ∧ ca0 c ∧ be0 c = b := by
  rcases p_suc h with h | ⟨u, h⟩
  · have := w.2.2.1
    omega
  · by_cases hu : u < S
    · rcases e_in p w hu h with ⟨b, _, q, _⟩ | ⟨q, _⟩
      · omega
      · omega
    · have hu2 := (w.2.2.2.1 _ (e_p2 h).choose_spec.1).1
      rw [(e_p2 h).choose_spec.2] at hu2
      obtain ⟨d, rfl⟩ : ∃ d, u = S + d := ⟨u - S, by omega⟩
      rcases e_out p w (by omega) h with ⟨q1, q2⟩ | ⟨_, q2, q3⟩
      · subst q1
        exact Or.inl ⟨h, q2⟩
      · exact Or.inr ⟨d, by omega, h, q2, q3⟩
theorem p_ext (p : zsee S A W M ca0 be0 se cf rk S) (w : zwp S se cf way n l) {c : Nat} (hc : c < S) (h : zP way n (S + c)) : (zE way n c (S + c) ∧ ¬ ca0 c) ∨ ∃ d, d < S ∧ zE way n d (S + c) ∧ ca0 d ∧ be0 d = c := by
  rcases p_pre h with h | ⟨u, h⟩
  · have := (w_src p w).1
    omega
  · rcases e_out p w hc h with ⟨q1, q2⟩ | ⟨q1, q2, q3⟩
    · subst q1
      exact Or.inl ⟨h, q2⟩
    · exact Or.inr ⟨u, q1, h, q2, q3⟩
theorem s_ext (p : zsee S A W M ca0 be0 se cf rk S) (w : zwp S se cf way n l) {c : Nat} (hc : c < S) (h : zP way n (S + c)) : c = l ∨ ∃ y, y < S ∧ zE way n (S + c) y := by
  rcases p_suc h with h | ⟨u, h⟩
  · have := w.2.2.1
    exact Or.inl (by omega)
  · by_cases hu : u < S
    · exact Or.inr ⟨u, hu, h⟩
    · have hu2 := (w.2.2.2.1 _ (e_p2 h).choose_spec.1).1
      rw [(e_p2 h).choose_spec.2] at hu2
      obtain ⟨d, rfl⟩ : ∃ d, u = S + d := ⟨u - S, by omega⟩
      rcases e_out p w (by omega) h with ⟨q1, _⟩ | ⟨q1, _⟩
      · omega
      · omega
theorem p_ent (p : zsee S A W M ca0 be0 se cf rk S) (w : zwp S se cf way n l) {c : Nat} (hc : c < S) (h : zP way n c) : c = way (n - 1) ∨ (∃ b, b < S ∧ zE way n (S + b) c ∧ ¬ b = c ∧ A b c) ∨ (zE way n (S + c) c ∧ ca0 c) := by
  rcases p_pre h with h | ⟨u, h⟩
  · exact Or.inl h
  · rcases e_in p w hc h with ⟨b, b1, b2, b3, b4⟩ | ⟨q1, q2⟩
    · subst b2
      exact Or.inr (Or.inl ⟨b, b1, h, b3, b4⟩)
    · subst q1
      exact Or.inr (Or.inr ⟨h, q2⟩)
/-- what is left: as the way says, else as it was -/
def zlf (S : Nat) (ca0 : Nat → Prop) (be0 af0 way : Nat → Nat) (n l : Nat) (ca : Nat → Prop) (be af : Nat → Nat) : Prop := (∀ c, ca c ↔ c < S ∧ (zE way n c (S + c) ∨ (ca0 c ∧ ¬ zE way n (S + c) c))) ∧ (∀ c x, c < S → x < S → ¬ x = c → zE way n (S + x) c → be c = x) ∧ (ca (way (n - 1)) → be (way (n - 1)) = S) ∧ (∀ c, c < S → ca0 c → ¬ zP way n c → be c = be0 c) ∧ (∀ c y, c < S → y < S → ¬ y = c → zE way n (S + c) y → af c = y) ∧ af l = S ∧ ∀ c, c < S → ca0 c → ¬ zP way n (S + c) → af c = af0 c
theorem two_row {r : Nat} {ca : Nat → Prop} {be af : Nat → Nat} (hA : ∀ x, ¬ A x x) (h : zrow S A W M T ca0 be0 af0) (hr : zcp (fun c => ca0 c ∧ be0 c = S) S = r) (p : zsee S A W M ca0 be0 se cf rk S) (w : zwp S se cf way n l) (ht : T l) (f : zlf S ca0 be0 af0 way n l ca be af) : zrow S A W M T ca be af ∧ zcp (fun c => ca c ∧ be c = S) S = r + 1 := by
  obtain ⟨f1, f2, f3, f4, f5, f6, f7⟩ := f
  obtain ⟨s1, s2, s3⟩ := w_src p w
  have hb : ∀ {d x}, ca0 d → be0 d = x → x < S → ca0 x ∧ af0 x = d ∧ d < S := fun h1 h2 h3 => zrow_b h h1 h2 h3
  -- an exit on the way, left for another: its house carries
  have cx : ∀ x y, x < S → ¬ y = x → zE way n (S + x) y → ca x := fun x y hx hy e => by
    refine (f1 x).mpr ⟨hx, ?_⟩
    rcases p_ext p w hx (e_p1 e) with ⟨q, _⟩ | ⟨d, d1, d2, d3, d4⟩
    · exact Or.inl q
    · exact Or.inr ⟨(hb d3 d4 hx).1, fun e' => hy (e_t p w e e')⟩
  have cy : ∀ y, y < S → zP way n y → ¬ zE way n (S + y) y → ca y := fun y hy hp hn => by
    refine (f1 y).mpr ⟨hy, ?_⟩
    rcases s_ent p w hy hp with ⟨q, _⟩ | ⟨b, b1, b2, b3, b4⟩
    · exact Or.inl q
    · exact Or.inr ⟨b3, hn⟩
  have hWc : ∀ c, ca c → W c := fun c hc => by
    rcases ((f1 c).mp hc).2 with q | q
    · exact (p.1 c ((f1 c).mp hc).1 (e_p1 q |>.elim fun j hj => hj.2 ▸ (w.2.2.2.1 j hj.1).2)).1
    · exact (h c q.1).2.1
  have no : ∀ c, ca c → ¬ zE way n (S + c) c := fun c hc e => by
    obtain ⟨h1, h2⟩ := (f1 c).mp hc
    rcases h2 with q | q
    · rcases e_in p w h1 e with ⟨b, _, u, v, _⟩ | ⟨_, u⟩
      · omega
      · rcases e_out p w h1 q with ⟨_, v⟩ | ⟨_, v, v2⟩
        · exact v u
        · obtain ⟨_, _, i, _⟩ := h c v
          rcases i with ⟨i, _⟩ | ⟨_, _, _, i⟩
          · omega
          · rw [v2] at i
            exact hA _ i
    · exact q.2 e
  have np : ∀ c, ca c → ¬ zP way n c → ca0 c := fun c hc hn => ((f1 c).mp hc).2.elim (fun q => absurd (e_p1 q) hn) (fun q => q.1)
  have nx : ∀ c, ca c → ¬ zP way n (S + c) → ca0 c := fun c hc hn => ((f1 c).mp hc).2.elim (fun q => absurd (e_p2 q) hn) (fun q => q.1)
  refine ⟨fun c hc => ⟨((f1 c).mp hc).1, hWc c hc, ?_, ?_⟩, ?_⟩
  · have hS := ((f1 c).mp hc).1
    by_cases u : zP way n c
    · rcases p_ent p w hS u with q | ⟨x, x1, x2, x3, x4⟩ | ⟨q, _⟩
      · subst q
        exact Or.inl ⟨f3 hc, s2⟩
      · have e := f2 c x hS x1 x3 x2
        refine Or.inr ?_
        rw [e]
        exact ⟨x1, cx x c x1 (fun e => x3 e.symm) x2, f5 x c x1 hS (fun e => x3 e.symm) x2, x4⟩
      · exact absurd q (no c hc)
    · have c0 := np c hc u
      have e := f4 c hS c0 u
      rw [e]
      rcases (h c c0).2.2.1 with q | ⟨q1, q2, q3, q4⟩
      · exact Or.inl q
      · have nX : ¬ zP way n (S + be0 c) := fun v => by
          rcases p_ext p w q1 v with ⟨_, z⟩ | ⟨d, d1, d2, d3, d4⟩
          · exact z q2
          · have := (hb d3 d4 q1).2.1
            exact u ((q3.symm.trans this) ▸ e_p1 d2)
        exact Or.inr ⟨q1, (f1 _).mpr ⟨q1, Or.inr ⟨q2, fun e' => nX (e_p1 e')⟩⟩, (f7 _ q1 q2 nX).trans q3, q4⟩
  · have hS := ((f1 c).mp hc).1
    by_cases u : zP way n (S + c)
    · rcases s_ext p w hS u with q | ⟨y, y1, y2⟩
      · subst q
        exact Or.inl ⟨f6, ht⟩
      · have yc : ¬ y = c := fun e => no c hc (e ▸ y2)
        have e := f5 c y hS y1 yc y2
        refine Or.inr ?_
        rw [e]
        have ny : ¬ zE way n (S + y) y := fun e' => by
          have := e_f w y2 e'
          omega
        refine ⟨y1, cy y y1 (e_p2 y2) ny, f2 y c y1 hS (fun e => yc e.symm) y2, ?_⟩
        rcases e_in p w y1 y2 with ⟨b, _, b2, _, b4⟩ | ⟨q, _⟩
        · obtain rfl : b = c := by omega
          exact b4
        · omega
    · have c0 := nx c hc u
      rw [f7 c hS c0 u]
      rcases (h c c0).2.2.2 with q | ⟨q1, q2, q3, q4⟩
      · exact Or.inl q
      · have nE : ¬ zP way n (af0 c) := fun v => by
          rcases s_ent p w q1 v with ⟨_, z⟩ | ⟨b, b1, b2, b3, b4⟩
          · exact z q2
          · rw [q3] at b4
            subst b4
            exact u (e_p2 b2)
        exact Or.inr ⟨q1, (f1 _).mpr ⟨q1, Or.inr ⟨q2, fun e' => nE (e_p2 e')⟩⟩, (f4 _ q1 q2 nE).trans q3, q4⟩
  · have ps : zP way n (way (n - 1)) := ⟨n - 1, by have := w.1; omega, rfl⟩
    have cs : ca (way (n - 1)) := cy _ s1 ps (s3 _)
    rw [zcp_out (P := fun c => ca c ∧ be c = S) S s1 ⟨cs, f3 cs⟩, ← hr]
    refine congrArg (· + 1) (zcp_eq S (fun c hc => ⟨fun ⟨⟨q1, q2⟩, q3⟩ => ?_, fun ⟨q1, q2⟩ => ?_⟩))
    · have u : ¬ zP way n c := fun u => by
        rcases p_ent p w hc u with v | ⟨x, x1, x2, x3, _⟩ | ⟨v, _⟩
        · exact q3 v
        · have := f2 c x hc x1 x3 x2
          omega
        · exact no c q1 v
      have c0 := np c q1 u
      exact ⟨c0, (f4 c hc c0 u).symm.trans q2⟩
    · have u : ¬ zP way n c := fun u => by
        rcases s_ent p w hc u with ⟨_, v⟩ | ⟨b, b1, _, _, b4⟩
        · exact v q1
        · omega
      exact ⟨⟨(f1 c).mpr ⟨hc, Or.inr ⟨q1, fun e => u (e_p2 e)⟩⟩, (f4 c hc q1 u).trans q2⟩, fun e => u (e ▸ ps)⟩
end TWO
/-! BREAKS: the reference's trace -/
def zwa (f : Nat → Int32) (k : Nat) : Nat → Nat := znx (fun x => (f x).toNatClampNeg) k
theorem zwa_0 {f : Nat → Int32} {k : Nat} : zwa f k 0 = k := rfl
theorem zwa_s {f : Nat → Int32} {k n m : Nat} (hm : m < 1000) (e : f (zwa f k n) = nI m) : zwa f k (n + 1) = m := by
  show (f (zwa f k n)).toNatClampNeg = m
  rw [e, nI_clamp (by omega)]
/-- what the trace may be asked for: each seen one came from one that was seen before -/
def TR (S : Nat) (f : Nat → Int32) (rk : Nat → Nat) : Prop := ∀ v, v < 128 → ¬ f v = -2 → rk v < 128 ∧ (f v = -1 ∨ ∃ m, m < 128 ∧ m % 64 < S ∧ f v = nI m ∧ ¬ f m = -2 ∧ rk m < rk v)
def ZWb (S : Nat) (f : Nat → Int32) (rk : Nat → Nat) (k n : Nat) : Prop := (∀ j, j < n → zwa f k j < 128 ∧ zwa f k j % 64 < S ∧ ¬ f (zwa f k j) = -2) ∧ ∀ j, j + 1 < n → f (zwa f k j) = nI (zwa f k (j + 1)) ∧ rk (zwa f k (j + 1)) < rk (zwa f k j)
/-- where the walk stands: x is the next one -/
def ZWx (S : Nat) (f : Nat → Int32) (rk : Nat → Nat) (k n : Nat) (x : Int32) : Prop := ZWb S f rk k n ∧ ((1 ≤ n ∧ n ≤ 128 ∧ x = -1 ∧ f (zwa f k (n - 1)) = -1) ∨ (x = nI (zwa f k n) ∧ n + rk (zwa f k n) < 128 ∧ ZWb S f rk k (n + 1)))
theorem zx_0 {S k : Nat} {f : Nat → Int32} {rk : Nat → Nat} (hR : TR S f rk) (hk : k < 128) (hk2 : k % 64 < S) (hs : ¬ f k = -2) : ZWx S f rk k 0 (nI k) := ⟨⟨fun j hj => absurd hj (Nat.not_lt_zero _), fun j hj => absurd hj (Nat.not_lt_zero _)⟩, Or.inr ⟨rfl, by rw [Nat.zero_add]; exact (hR k hk hs).1, fun j hj => by
  obtain rfl : j = 0 := by omega
  exact ⟨hk, hk2, hs⟩, fun j hj => by omega⟩⟩
theorem zx_s {S k n : Nat} {f : Nat → Int32} {rk : Nat → Nat} (hR : TR S f rk) (hn : n + rk (zwa f k n) < 128) (h : ZWb S f rk k (n + 1)) : ZWx S f rk k (n + 1) (f (zwa f k n)) := by
  obtain ⟨h1, h2⟩ := h
  obtain ⟨g1, g2, g3⟩ := h1 n (by omega)
  obtain ⟨r1, r2⟩ := hR _ g1 g3
  refine ⟨⟨h1, h2⟩, ?_⟩
  rcases r2 with r2 | ⟨m, m1, m2, m3, m4, m5⟩
  · exact Or.inl ⟨by omega, by omega, r2, r2⟩
  · have e := zwa_s (by omega) m3
    refine Or.inr ⟨by rw [e]; exact m3, by rw [e]; omega, fun j hj => ?_, fun j hj => ?_⟩
    · by_cases u : j = n + 1
      · rw [u, e]
        exact ⟨m1, m2, m4⟩
      · exact h1 j (by omega)
    · by_cases u : j = n
      · rw [u, e]
        exact ⟨m3, m5⟩
      · exact h2 j (by omega)
/-- the way as it stands when it has been told -/
def ZWw (S : Nat) (f : Nat → Int32) (rk : Nat → Nat) (k n : Nat) : Prop := 1 ≤ n ∧ n ≤ 128 ∧ ZWb S f rk k n ∧ f (zwa f k (n - 1)) = -1
theorem zx_e {S k n : Nat} {f : Nat → Int32} {rk : Nat → Nat} (h : ZWx S f rk k n (-1)) : ZWw S f rk k n := by
  obtain ⟨h1, ⟨h2, h3, _, h4⟩ | ⟨h2, h3, h4⟩⟩ := h
  · exact ⟨h2, h3, h1, h4⟩
  · exact absurd h2.symm (nI_neg (by have := (h4.1 n (by omega)).1; omega) (by decide))
theorem zw_inj {S k n : Nat} {f : Nat → Int32} {rk : Nat → Nat} (h : ZWw S f rk k n) {i j : Nat} (hi : i < n) (hj : j < n) (e : zwa f k i = zwa f k j) : i = j := by
  have q : ∀ i m, i + m + 1 < n → rk (zwa f k (i + m + 1)) < rk (zwa f k i) := fun i m => by
    induction m with
    | zero => exact fun g => (h.2.2.1.2 i g).2
    | succ m ih => exact fun g => Nat.lt_trans (h.2.2.1.2 (i + m + 1) g).2 (ih (by omega))
  have hh : ∀ i j, i < j → j < n → zwa f k i = zwa f k j → False := fun i j h1 h2 e => by
    have := q i (j - i - 1) (by omega)
    rw [show i + (j - i - 1) + 1 = j by omega, e] at this
    omega
  rcases Nat.lt_trichotomy i j with u | u | u
  · exact (hh i j u hj e).elim
  · exact u
  · exact (hh j i u hi e.symm).elim
/-! rows that are written along the way -/
def UR (n : Nat) (key : Nat → Nat → Prop) (val : Nat → Int32) (i : Nat) (f0 f : Nat → Int32) : Prop := ∀ c, (∀ j, i ≤ j → j + 1 < n → key j c → f c = val j) ∧ ((¬ ∃ j, i ≤ j ∧ j + 1 < n ∧ key j c) → f c = f0 c)
section URS
variable {n i : Nat} {key : Nat → Nat → Prop} {val : Nat → Int32} {f0 f : Nat → Int32}
theorem ur_0 (h : n ≤ i + 1) : UR n key val i f f := fun c => ⟨fun j h1 h2 => by omega, fun _ => rfl⟩
theorem ur_n (h : UR n key val i f0 f) (h1 : 1 ≤ i) (k : ∀ c, ¬ key (i - 1) c) : UR n key val (i - 1) f0 f := fun c => ⟨fun j j1 j2 j3 => by
  by_cases u : j = i - 1
  · exact absurd (u ▸ j3) (k c)
  · exact (h c).1 j (by omega) j2 j3, fun w => (h c).2 (fun ⟨j, j1, j2, j3⟩ => w ⟨j, by omega, j2, j3⟩)⟩
theorem ur_y {c0 : Nat} {v : Int32} (h : UR n key val i f0 f) (h1 : 1 ≤ i) (h2 : i < n) (k : ∀ c, key (i - 1) c ↔ c = c0) (u : ∀ j, i ≤ j → j + 1 < n → ¬ key j c0) (e : v = val (i - 1)) : UR n key val (i - 1) f0 (upd f c0 v) := fun c => by
  unfold upd
  by_cases w : c = c0
  · rw [if_pos w]
    refine ⟨fun j j1 j2 j3 => ?_, fun z => ?_⟩
    · by_cases t : j = i - 1
      · rw [t]
        exact e
      · exact absurd (w ▸ j3) (u j (by omega) j2)
    · exact absurd ⟨i - 1, Nat.le_refl _, by omega, (k c).mpr w⟩ z
  · rw [if_neg w]
    refine ⟨fun j j1 j2 j3 => ?_, fun z => ?_⟩
    · by_cases t : j = i - 1
      · exact absurd ((k c).mp (t ▸ j3)) w
      · exact (h c).1 j (by omega) j2 j3
    · exact (h c).2 (fun ⟨j, j1, j2, j3⟩ => z ⟨j, by omega, j2, j3⟩)
end URS
def kF1 (w : Nat → Nat) (j c : Nat) : Prop := c < 64 ∧ w (j + 1) = 64 + c ∧ w j = c
def kF2 (w : Nat → Nat) (j c : Nat) : Prop := c < 64 ∧ w (j + 1) = c ∧ w j = 64 + c
def kO1 (w : Nat → Nat) (j c : Nat) : Prop := w (j + 1) < 64 ∧ ¬ w (j + 1) = c ∧ w j = 64 + c
def kA1 (w : Nat → Nat) (j c : Nat) : Prop := c < 64 ∧ w (j + 1) = c ∧ 64 ≤ w j ∧ ¬ w j = 64 + c
def kO2 (w : Nat → Nat) (j c : Nat) : Prop := w (j + 1) = 64 + c ∧ w j < 64 ∧ ¬ w j = c
def kA2 (w : Nat → Nat) (j c : Nat) : Prop := c < 64 ∧ w j = c ∧ 64 ≤ w (j + 1) ∧ ¬ w (j + 1) = 64 + c
/-- the three rows behind the first pass, down to i -/
def T1 (n i : Nat) (w : Nat → Nat) (fl on ah fl' on' ah' : Nat → Int32) : Prop := UR n (kF1 w) (fun _ => 0) i fl fl' ∧ UR n (kO1 w) (fun _ => -1) i on on' ∧ UR n (kA1 w) (fun _ => -1) i ah ah'
def T2 (n i : Nat) (w : Nat → Nat) (fl on ah fl' on' ah' : Nat → Int32) : Prop := UR n (kF2 w) (fun _ => 1) i fl fl' ∧ UR n (kO2 w) (fun j => nI (w j)) i on on' ∧ UR n (kA2 w) (fun j => nI (w (j + 1) - 64)) i ah ah'
section TS
variable {n i : Nat} {w : Nat → Nat} {fl on ah fl' on' ah' : Nat → Int32}
theorem t1_0 (h : n ≤ i + 1) : T1 n i w fl on ah fl on ah := ⟨ur_0 h, ur_0 h, ur_0 h⟩
theorem t2_0 (h : n ≤ i + 1) : T2 n i w fl on ah fl on ah := ⟨ur_0 h, ur_0 h, ur_0 h⟩
/-- a link turned back -/
theorem t1_l (inj : ∀ i j, i < n → j < n → w i = w j → i = j) (h : T1 n i w fl on ah fl' on' ah') (h1 : 1 ≤ i) (h2 : i < n) (b2 : w (i - 1) < 128) (c1 : w i < 64) (c2 : 64 ≤ w (i - 1)) (c3 : ¬ w i % 64 = w (i - 1) % 64) : T1 n (i - 1) w fl on ah fl' (upd on' (w (i - 1) - 64) (-1)) (upd ah' (w i) (-1)) := by
  have ei : i - 1 + 1 = i := by omega
  refine ⟨ur_n h.1 h1 (fun c k => ?_), ur_y h.2.1 h1 h2 (fun c => ?_) (fun j j1 j2 k => ?_) rfl, ur_y h.2.2 h1 h2 (fun c => ?_) (fun j j1 j2 k => ?_) rfl⟩
  · have := k.2.2
    have := k.1
    omega
  · unfold kO1
    rw [ei]
    omega
  · have := inj j (i - 1) (by omega) (by omega) (by have := k.2.2; omega)
    omega
  · unfold kA1
    rw [ei]
    omega
  · have := inj (j + 1) i (by omega) h2 k.2.1
    omega
/-- a house let go -/
theorem t1_h (inj : ∀ i j, i < n → j < n → w i = w j → i = j) (h : T1 n i w fl on ah fl' on' ah') (h1 : 1 ≤ i) (h2 : i < n) (b1 : w i < 128) (c1 : 64 ≤ w i) (c2 : w (i - 1) < 64) (c3 : w i % 64 = w (i - 1) % 64) : T1 n (i - 1) w fl on ah (upd fl' (w (i - 1)) 0) on' ah' := by
  have ei : i - 1 + 1 = i := by omega
  refine ⟨ur_y h.1 h1 h2 (fun c => ?_) (fun j j1 j2 k => ?_) rfl, ur_n h.2.1 h1 (fun c k => ?_), ur_n h.2.2 h1 (fun c k => ?_)⟩
  · unfold kF1
    rw [ei]
    omega
  · have := inj j (i - 1) (by omega) (by omega) k.2.2
    omega
  · have := k.1
    rw [ei] at this
    omega
  · have := k.2.1
    have := k.1
    rw [ei] at *
    omega
theorem t1_n (h : T1 n i w fl on ah fl' on' ah') (h1 : 1 ≤ i) (b1 : w i < 128) (b2 : w (i - 1) < 128) (c : ¬ (w i < 64 ∧ 64 ≤ w (i - 1) ∧ ¬ w i % 64 = w (i - 1) % 64)) (c' : ¬ (64 ≤ w i ∧ w (i - 1) < 64 ∧ w i % 64 = w (i - 1) % 64)) : T1 n (i - 1) w fl on ah fl' on' ah' := by
  have ei : i - 1 + 1 = i := by omega
  refine ⟨ur_n h.1 h1 (fun c k => ?_), ur_n h.2.1 h1 (fun c k => ?_), ur_n h.2.2 h1 (fun c k => ?_)⟩
  · unfold kF1 at k
    rw [ei] at k
    omega
  · unfold kO1 at k
    rw [ei] at k
    omega
  · unfold kA1 at k
    rw [ei] at k
    omega
theorem t2_h (inj : ∀ i j, i < n → j < n → w i = w j → i = j) (h : T2 n i w fl on ah fl' on' ah') (h1 : 1 ≤ i) (h2 : i < n) (b2 : w (i - 1) < 128) (c1 : w i < 64) (c2 : 64 ≤ w (i - 1)) (c3 : w i % 64 = w (i - 1) % 64) : T2 n (i - 1) w fl on ah (upd fl' (w i) 1) on' ah' := by
  have ei : i - 1 + 1 = i := by omega
  refine ⟨ur_y h.1 h1 h2 (fun c => ?_) (fun j j1 j2 k => ?_) rfl, ur_n h.2.1 h1 (fun c k => ?_), ur_n h.2.2 h1 (fun c k => ?_)⟩
  · unfold kF2
    rw [ei]
    omega
  · have := inj (j + 1) i (by omega) h2 k.2.1
    omega
  · have := k.1
    rw [ei] at this
    omega
  · have := k.2.1
    have := k.1
    omega
theorem t2_l (inj : ∀ i j, i < n → j < n → w i = w j → i = j) (h : T2 n i w fl on ah fl' on' ah') (h1 : 1 ≤ i) (h2 : i < n) (b1 : w i < 128) (c1 : 64 ≤ w i) (c2 : w (i - 1) < 64) (c3 : ¬ w i % 64 = w (i - 1) % 64) : T2 n (i - 1) w fl on ah fl' (upd on' (w i - 64) (nI (w (i - 1)))) (upd ah' (w (i - 1)) (nI (w i - 64))) := by
  have ei : i - 1 + 1 = i := by omega
  refine ⟨ur_n h.1 h1 (fun c k => ?_), ur_y h.2.1 h1 h2 (fun c => ?_) (fun j j1 j2 k => ?_) rfl, ur_y h.2.2 h1 h2 (fun c => ?_) (fun j j1 j2 k => ?_) (by rw [ei])⟩
  · have := k.2.1
    have := k.1
    rw [ei] at *
    omega
  · unfold kO2
    rw [ei]
    omega
  · have := inj (j + 1) i (by omega) h2 (by have := k.1; omega)
    omega
  · unfold kA2
    rw [ei]
    omega
  · have := inj j (i - 1) (by omega) (by omega) k.2.1
    omega
theorem t2_n (h : T2 n i w fl on ah fl' on' ah') (h1 : 1 ≤ i) (b1 : w i < 128) (b2 : w (i - 1) < 128) (c : ¬ (w i < 64 ∧ 64 ≤ w (i - 1) ∧ w i % 64 = w (i - 1) % 64)) (c' : ¬ (64 ≤ w i ∧ w (i - 1) < 64 ∧ ¬ w i % 64 = w (i - 1) % 64)) : T2 n (i - 1) w fl on ah fl' on' ah' := by
  have ei : i - 1 + 1 = i := by omega
  refine ⟨ur_n h.1 h1 (fun c k => ?_), ur_n h.2.1 h1 (fun c k => ?_), ur_n h.2.2 h1 (fun c k => ?_)⟩
  · unfold kF2 at k
    rw [ei] at k
    omega
  · unfold kO2 at k
    rw [ei] at k
    omega
  · unfold kA2 at k
    rw [ei] at k
    omega
end TS
/-- what the trace leaves -/
def TP (S : Nat) (f : Nat → Int32) (rk : Nat → Nat) (k : Nat) (x : Int32) (fl on ah fl' on' ah' : Nat → Int32) : Prop := ∃ (n : Nat) (f1 o1 a1 o2 : Nat → Int32), ZWw S f rk k n ∧ T1 n 0 (zwa f k) fl on ah f1 o1 a1 ∧ T2 n 0 (zwa f k) f1 o1 a1 fl' o2 ah' ∧ on' = upd o2 (k - 64) x
theorem wy_s {f : Nat → Int32} {w : Nat → Nat} {n : Nat} (h : ∀ j, j < n → f j = nI (w j)) : ∀ j, j < n + 1 → upd f n (nI (w n)) j = nI (w j) := fun j hj => by
  unfold upd
  by_cases u : j = n
  · rw [if_pos u, u]
  · rw [if_neg u]
    exact h j (by omega)
/-! BREAKS: the reference's rows as rows of houses; what its trace leaves of them -/
def zsw (x : Int32) : Int32 := if x = -1 then -2 else if x = -2 then -1 else x
def zsf (f : Nat → Int32) : Nat → Int32 := fun n => zsw (f n)
def zot (t : Nat) (on : Nat → Int32) : Nat → Int32 := fun c => if on c = nI t then -3 else on c
theorem zsw_n {m : Nat} (h : m < 1000) : zsw (nI m) = nI m := by
  unfold zsw
  rw [if_neg (nI_neg (by omega) (by decide)), if_neg (nI_neg (by omega) (by decide))]
theorem zsw_m : zsw (-1) = -2 := by decide
theorem zsw_2 : zsw (-2) = -1 := by decide
theorem zsw_1 {x : Int32} : zsw x = -1 ↔ x = -2 := by
  unfold zsw
  by_cases u : x = -1
  · rw [if_pos u, u]
    decide
  · rw [if_neg u]
    by_cases v : x = -2
    · rw [if_pos v]
      exact ⟨fun _ => v, fun _ => rfl⟩
    · rw [if_neg v]
      exact ⟨fun w => absurd w u, fun w => absurd w v⟩
theorem zsf_u {f : Nat → Int32} {n : Nat} {v : Int32} : zsf (upd f n v) = upd (zsf f) n (zsw v) := by
  funext m
  unfold zsf upd
  by_cases u : m = n
  · rw [if_pos u, if_pos u]
  · rw [if_neg u, if_neg u]
def RI (a b t : Nat) (sd me fl on ah : Nat → Int32) (r : Nat) : Prop := zrow 64 (zbs 64 a b) (kW 64 sd) (kW 64 me) (fun c => zbs 64 a b c t) (kW 64 fl) (kB 64 ah) (kA 64 (zot t on)) ∧ zcp (fun c => kW 64 fl c ∧ kB 64 ah c = 64) 64 = r ∧ (∀ c, c < 64 → fl c = 0 ∨ fl c = 1) ∧ ∀ c, c < 64 → fl c = 0 → ah c = -1
section RTR
variable {S a b t l r : Nat} {sd me fl on ah fl' on' ah' f : Nat → Int32} {rk rk' : Nat → Nat}
theorem zwp_of {n : Nat} (hl : l < 64) (w : ZWw S f rk' (64 + l) n) : zwp 64 (kS 64 (zsf f)) (kF 64 (zsf f)) (zwa f (64 + l)) n l := by
  obtain ⟨w1, w2, ⟨w3, w4⟩, w5⟩ := w
  refine ⟨w1, hl, rfl, fun j hj => ⟨(w3 j hj).1, (w3 j hj).1, fun e => (w3 j hj).2.2 (zsw_1.mp e)⟩, fun j hj => ?_, ?_⟩
  · have m := (w3 (j + 1) hj).1
    refine kF_n (by omega) ?_
    show zsw (f _) = _
    rw [(w4 j hj).1]
    exact zsw_n (by omega)
  · refine kF_2 ?_
    show zsw (f _) = _
    rw [w5]
    exact zsw_m
theorem tr_RI (ha1 : 1 ≤ a) (ha8 : a ≤ 8) (ht : ¬ kW 64 sd t) (ht9 : t < 64) (hl : l < 64) (hT : zbs 64 a b l t) (h : RI a b t sd me fl on ah r) (p : zsee 64 (zbs 64 a b) (kW 64 sd) (kW 64 me) (kW 64 fl) (kB 64 ah) (kS 64 (zsf f)) (kF 64 (zsf f)) rk 64) (tp : TP S f rk' (64 + l) (nI t) fl on ah fl' on' ah') : RI a b t sd me fl' on' ah' (r + 1) := by
  obtain ⟨n, f1, o1, a1, o2, hw, ⟨uF1, uO1, uA1⟩, ⟨uF2, uO2, uA2⟩, eo⟩ := tp
  obtain ⟨hr, hn, hf, hh⟩ := h
  have w := zwp_of hl hw
  have hA : ∀ x, ¬ zbs 64 a b x x := fun x => zbs_ir ha1 ha8 (Nat.le_refl _)
  rw [show 64 + l - 64 = l by omega] at eo
  generalize hwy : zwa f (64 + l) = way at *
  have inj : ∀ {i j}, i < n → j < n → way i = way j → i = j := fun h1 h2 h3 => w_inj p w h1 h2 h3
  have lt : ∀ j, j < n → way j < 128 := fun j hj => (w.2.2.2.1 j hj).1
  have hb : ∀ {d x}, kW 64 fl d → kB 64 ah d = x → x < 64 → ¬ x = d := fun h1 h2 h3 e => by
    obtain ⟨_, _, i, _⟩ := hr _ h1
    rcases i with ⟨i, _⟩ | ⟨_, _, _, i⟩
    · omega
    · rw [h2, e] at i
      exact hA _ i
  -- the rows, by what is on the way
  have F2y : ∀ c, c < 64 → zE way n c (64 + c) → fl' c = 1 := fun c hc ⟨j, j1, j2, j3⟩ => (uF2 c).1 j (Nat.zero_le _) j1 ⟨hc, j2, j3⟩
  have F2n : ∀ c, c < 64 → ¬ zE way n c (64 + c) → fl' c = f1 c := fun c hc e => (uF2 c).2 (fun ⟨j, _, j1, j2⟩ => e ⟨j, j1, j2.2.1, j2.2.2⟩)
  have F1y : ∀ c, c < 64 → zE way n (64 + c) c → f1 c = 0 := fun c hc ⟨j, j1, j2, j3⟩ => (uF1 c).1 j (Nat.zero_le _) j1 ⟨hc, j2, j3⟩
  have F1n : ∀ c, c < 64 → ¬ zE way n (64 + c) c → f1 c = fl c := fun c hc e => (uF1 c).2 (fun ⟨j, _, j1, j2⟩ => e ⟨j, j1, j2.2.1, j2.2.2⟩)
  have A2y : ∀ c x, c < 64 → x < 64 → ¬ x = c → zE way n (64 + x) c → ah' c = nI x := fun c x hc hx hn ⟨j, j1, j2, j3⟩ => by
    rw [(uA2 c).1 j (Nat.zero_le _) j1 ⟨hc, j3, by omega, by omega⟩]
    show nI (way (j + 1) - 64) = _
    rw [j2, show 64 + x - 64 = x by omega]
  have A2n : ∀ c, c < 64 → (∀ x, x < 64 → ¬ x = c → ¬ zE way n (64 + x) c) → ah' c = a1 c := fun c hc e => (uA2 c).2 (fun ⟨j, _, j1, j2, j3, j4, j5⟩ => e (way (j + 1) - 64) (by have := lt _ j1; omega) (by omega) ⟨j, j1, by omega, j3⟩)
  have A1y : ∀ c x, c < 64 → x < 64 → ¬ x = c → zE way n c (64 + x) → a1 c = -1 := fun c x hc hx hn ⟨j, j1, j2, j3⟩ => (uA1 c).1 j (Nat.zero_le _) j1 ⟨hc, j2, by omega, by omega⟩
  have A1n : ∀ c, c < 64 → (∀ x, x < 64 → ¬ x = c → ¬ zE way n c (64 + x)) → a1 c = ah c := fun c hc e => (uA1 c).2 (fun ⟨j, _, j1, j2, j3, j4, j5⟩ => e (way j - 64) (by have := lt j (by omega); omega) (by omega) ⟨j, j1, j3, by omega⟩)
  have O2y : ∀ c y, c < 64 → y < 64 → ¬ y = c → zE way n (64 + c) y → o2 c = nI y := fun c y hc hy hn ⟨j, j1, j2, j3⟩ => by
    rw [(uO2 c).1 j (Nat.zero_le _) j1 ⟨j2, by omega, by omega⟩]
    show nI (way j) = _
    rw [j3]
  have O2n : ∀ c, c < 64 → ¬ zP way n (64 + c) → o2 c = on c := fun c hc e => ((uO2 c).2 (fun ⟨j, _, j1, j2, _⟩ => e ⟨j + 1, j1, j2⟩)).trans ((uO1 c).2 (fun ⟨j, _, j1, _, _, j2⟩ => e ⟨j, by omega, j2⟩))
  have n0 : 0 < n := w.1
  have pl : zP way n (64 + l) := ⟨0, n0, w.2.2.1⟩
  obtain ⟨s1, s2, s3⟩ := w_src p w
  have fz : ∀ c, c < 64 → ¬ kW 64 fl c → fl c = 0 := fun c hc u => Classical.byContradiction fun v => u ⟨hc, v⟩
  have lf : zlf 64 (kW 64 fl) (kB 64 ah) (kA 64 (zot t on)) way n l (kW 64 fl') (kB 64 ah') (kA 64 (zot t on')) := by
    refine ⟨fun c => ?_, fun c x hc hx hn e => kB_n (by omega) (A2y c x hc hx hn e), fun hc => ?_, fun c hc c0 hp => ?_, fun c y hc hy hn e => ?_, ?_, fun c hc c0 hp => ?_⟩
    · by_cases u : c < 64
      · by_cases v : zE way n c (64 + c)
        · exact ⟨fun _ => ⟨u, Or.inl v⟩, fun _ => ⟨u, by rw [F2y c u v]; decide⟩⟩
        · unfold kW
          rw [F2n c u v]
          by_cases x : zE way n (64 + c) c
          · rw [F1y c u x]
            exact ⟨fun q => absurd rfl q.2, fun q => q.2.elim (fun z => absurd z v) (fun z => absurd x z.2)⟩
          · rw [F1n c u x]
            exact ⟨fun q => ⟨u, Or.inr ⟨q, x⟩⟩, fun q => q.2.elim (fun z => absurd z v) (fun z => z.1)⟩
      · exact ⟨fun q => absurd q.1 u, fun q => absurd q.1 u⟩
    · rw [show kB 64 ah' (way (n - 1)) = 64 from kB_m (by
        rw [A2n _ s1 (fun x _ _ e => s3 _ e)]
        rcases s_ent p w s1 ⟨n - 1, by omega, rfl⟩ with ⟨q1, q2⟩ | ⟨x, x1, x2, x3, x4⟩
        · rw [A1n _ s1 (fun x _ xn e => xn (by have := e_t p w q1 e; omega)), hh _ s1 (fz _ s1 q2)]
          decide
        · rw [A1y _ x s1 x1 (hb x3 x4 x1) x2]
          decide)]
    · unfold kB
      rw [A2n c hc (fun x _ _ e => hp (e_p2 e)), A1n c hc (fun x _ _ e => hp (e_p1 e))]
    · have cl : ¬ c = l := fun q => by
        obtain ⟨j, j1, j2, _⟩ := e
        have := inj n0 j1 (w.2.2.1.trans (by rw [j2, q]))
        omega
      have yt : ¬ y = t := fun q => ht (q ▸ (p.1 y hy (e_cf w e).2.2).1)
      refine kA_n (by omega) ?_
      unfold zot
      rw [eo, show upd o2 l (nI t) c = o2 c from if_neg cl, O2y c y hc hy hn e]
      exact if_neg (fun q => yt ((nI_eq (by omega) (by omega)).mp q))
    · refine if_pos ?_
      unfold zot
      rw [eo, show upd o2 l (nI t) l = nI t from if_pos rfl, if_pos rfl]
      decide
    · have cl : ¬ c = l := fun q => hp (q ▸ pl)
      unfold kA zot
      rw [eo, show upd o2 l (nI t) c = o2 c from if_neg cl, O2n c hc hp]
  obtain ⟨z1, z2⟩ := two_row hA hr hn p w hT lf
  refine ⟨z1, z2, fun c hc => ?_, fun c hc e => ?_⟩
  · by_cases v : zE way n c (64 + c)
    · exact Or.inr (F2y c hc v)
    · rw [F2n c hc v]
      by_cases x : zE way n (64 + c) c
      · exact Or.inl (F1y c hc x)
      · rw [F1n c hc x]
        exact hf c hc
  · have v : ¬ zE way n c (64 + c) := fun v => by
      rw [F2y c hc v] at e
      exact absurd e (by decide)
    rw [F2n c hc v] at e
    by_cases x : zE way n (64 + c) c
    · rw [A2n c hc (fun y _ yn e' => yn (by have := e_f w x e'; omega))]
      rcases s_ent p w hc (e_p2 x) with ⟨q, _⟩ | ⟨y, y1, y2, y3, y4⟩
      · exact absurd q v
      · exact A1y c y hc y1 (hb y3 y4 y1) y2
    · rw [F1n c hc x] at e
      have nc : ¬ kW 64 fl c := fun q => q.2 e
      have np : ¬ zP way n c := fun q => by
        rcases s_ent p w hc q with ⟨q, _⟩ | ⟨y, _, _, y3, _⟩
        · exact v q
        · exact nc y3
      rw [A2n c hc (fun y _ _ e' => np (e_p2 e')), A1n c hc (fun y _ _ e' => np (e_p1 e'))]
      exact hh c hc e
end RTR
/-! BREAKS: the reference's search -/
def zws (S t : Nat) (st go : Nat → Int32) (c : Nat) : Prop := c < S ∧ st c = 0 ∧ go c = 0 ∧ ¬ c = t
noncomputable def vW (S t : Nat) (st go : Nat → Int32) : Nat → Int32 := fun c => @ite _ (zws S t st go c) (Classical.propDecidable _) 1 0
noncomputable def vM (S a b t : Nat) (st go : Nat → Int32) : Nat → Int32 := fun c => @ite _ (zws S t st go c ∧ zbb S a b st c) (Classical.propDecidable _) 1 0
theorem vW_k {S t c : Nat} {st go : Nat → Int32} (hS : S ≤ 64) : kW 64 (vW S t st go) c ↔ zws S t st go c := by
  unfold kW vW
  by_cases u : zws S t st go c
  · rw [if_pos u]
    exact ⟨fun _ => u, fun _ => ⟨by have := u.1; omega, by decide⟩⟩
  · rw [if_neg u]
    exact ⟨fun w => absurd rfl w.2, fun w => absurd w u⟩
theorem vM_k {S a b t c : Nat} {st go : Nat → Int32} (hS : S ≤ 64) : kW 64 (vM S a b t st go) c ↔ zws S t st go c ∧ zbb S a b st c := by
  unfold kW vM
  by_cases u : zws S t st go c ∧ zbb S a b st c
  · rw [if_pos u]
    exact ⟨fun _ => u, fun _ => ⟨by have := u.1.1; omega, by decide⟩⟩
  · rw [if_neg u]
    exact ⟨fun w => absurd rfl w.2, fun w => absurd w u⟩
def RC (a b t : Nat) (sd fl on cF : Nat → Int32) (c : Nat) : Prop := (∀ d, zbs 64 a b c d → kW 64 sd d → ¬ (kW 64 fl c ∧ on c = nI d) → kS 64 cF d) ∧ (kW 64 fl c → kS 64 cF c) ∧ (zbs 64 a b c t → kW 64 fl c ∧ on c = nI t)
def RE (fl ah cF : Nat → Int32) (n : Nat) : Prop := (¬ kW 64 fl n → kS 64 cF (64 + n)) ∧ (kW 64 fl n → kB 64 ah n < 64 → kS 64 cF (64 + kB 64 ah n))
def RD (a b t : Nat) (sd fl on ah cF qu : Nat → Int32) (h : Nat) : Prop := ∀ i, i < h → ∀ n, n < 128 → qu i = nI n → (n < 64 → RE fl ah cF n) ∧ ∀ c, c < 64 → n = 64 + c → RC a b t sd fl on cF c
def RS (me fl ah cF : Nat → Int32) (i : Nat) : Prop := ∀ c, c < i → kW 64 me c → ¬ (kW 64 fl c ∧ kB 64 ah c = 64) → kS 64 cF c
section SRCH
variable {S a b t q q2 h : Nat} {sd me fl on ah cF qu cF2 qu2 : Nat → Int32}
theorem re_m {n : Nat} (hm : ∀ n, ¬ cF n = -1 → cF2 n = cF n) (h : RE fl ah cF n) : RE fl ah cF2 n := by
  have k : ∀ {n}, kS 64 cF n → kS 64 cF2 n := fun w => ⟨w.1, by rw [hm _ w.2]; exact w.2⟩
  exact ⟨fun u => k (h.1 u), fun u v => k (h.2 u v)⟩
theorem rc_m {c : Nat} (hm : ∀ n, ¬ cF n = -1 → cF2 n = cF n) (h : RC a b t sd fl on cF c) : RC a b t sd fl on cF2 c := by
  have k : ∀ {n}, kS 64 cF n → kS 64 cF2 n := fun w => ⟨w.1, by rw [hm _ w.2]; exact w.2⟩
  exact ⟨fun d u v w => k (h.1 d u v w), fun u => k (h.2.1 u), h.2.2⟩
theorem rd_m (hm : BM q q2 cF qu cF2 qu2) (hq : h ≤ q) (hd : RD a b t sd fl on ah cF qu h) : RD a b t sd fl on ah cF2 qu2 h := fun i hi n hn e => by
  rw [hm.2.2 i (by omega)] at e
  obtain ⟨g1, g2⟩ := hd i hi n hn e
  exact ⟨fun u => re_m hm.2.1 (g1 u), fun c hc u => rc_m hm.2.1 (g2 c hc u)⟩
theorem rd_0 : RD a b t sd fl on ah cF qu 0 := fun i hi => absurd hi (Nat.not_lt_zero _)
theorem rd_e {n : Nat} (hd : RD a b t sd fl on ah cF qu h) (hn : n < 64) (e : qu h = nI n) (r : RE fl ah cF n) : RD a b t sd fl on ah cF qu (h + 1) := fun i hi m hm em => by
  by_cases u : i = h
  · subst u
    obtain rfl : n = m := (nI_eq (by omega) (by omega)).mp (e.symm.trans em)
    exact ⟨fun _ => r, fun c hc e => by omega⟩
  · exact hd i (by omega) m hm em
theorem rd_x {c : Nat} (hd : RD a b t sd fl on ah cF qu h) (hc : c < 64) (e : qu h = nI (64 + c)) (r : RC a b t sd fl on cF c) : RD a b t sd fl on ah cF qu (h + 1) := fun i hi m hm em => by
  by_cases u : i = h
  · subst u
    have e2 : 64 + c = m := (nI_eq (by omega) (by omega)).mp (e.symm.trans em)
    exact ⟨fun _ => by omega, fun d hd e => by
      obtain rfl : c = d := by omega
      exact r⟩
  · exact hd i (by omega) m hm em
theorem rs_m {i : Nat} (hm : ∀ n, ¬ cF n = -1 → cF2 n = cF n) (h : RS me fl ah cF i) : RS me fl ah cF2 i := fun c hc w u => by
  have k := h c hc w u
  exact ⟨k.1, by rw [hm _ k.2]; exact k.2⟩
theorem rs_0 : RS me fl ah cF 0 := fun c hc => absurd hc (Nat.not_lt_zero _)
theorem rs_n {i : Nat} (h : RS me fl ah cF i) (w : kW 64 me i → kW 64 fl i ∧ kB 64 ah i = 64) : RS me fl ah cF (i + 1) := fun c hc u v => by
  by_cases e : c = i
  · subst e
    exact absurd (w u) v
  · exact h c (by omega) u v
theorem rs_y {i : Nat} (h : RS me fl ah cF i) (hm : ∀ n, ¬ cF n = -1 → cF2 n = cF n) (w : kS 64 cF2 i) : RS me fl ah cF2 (i + 1) := fun c hc u v => by
  by_cases e : c = i
  · subst e
    exact w
  · exact rs_m hm h c (by omega) u v
theorem rs_e {i : Nat} (hM : ∀ c, kW 64 me c → c < i) (h : RS me fl ah cF i) : RS me fl ah cF 64 := fun c _ u v => h c (hM c u) u v
/-- nothing more to be come to: as many as can be -/
theorem rd_clo {r : Nat} (ht9 : t < 64) (hMW : ∀ c, kW 64 me c → kW 64 sd c) (ht : ¬ kW 64 sd t) (hi : RI a b t sd me fl on ah r) (hb : BQ 64 a b sd me fl ah 64 q cF qu) (hd : RD a b t sd fl on ah cF qu q) (hs : RS me fl ah cF 64) : zcut 64 (zbs 64 a b) (kW 64 sd) (kW 64 me) (fun c => zbs 64 a b c t) r := by
  obtain ⟨hr, hn, hf, hh⟩ := hi
  obtain ⟨rk, b1, b2, p⟩ := hb
  have pe : ∀ c, c < 64 → kS 64 cF c → RE fl ah cF c := fun c hc w => (hd _ (b2 c w).1 c (by omega) (b2 c w).2).1 hc
  have px : ∀ c, c < 64 → kS 64 cF (64 + c) → RC a b t sd fl on cF c := fun c hc w => (hd _ (b2 _ w).1 _ (by omega) (b2 _ w).2).2 c hc rfl
  have wx : ∀ c, c < 64 → kS 64 cF (64 + c) → kW 64 sd c := fun c hc w => by
    rcases p.2 c hc w with ⟨_, q2, _⟩ | ⟨d, _, _, _, _, q4, q5⟩
    · exact (p.1 c hc q2).1
    · exact (hr c (zrow_b hr q4 q5 hc).1).2.1
  rw [← hn]
  refine zclo_max (YE := fun c => c < 64 ∧ (kS 64 cF c ∨ (kW 64 fl c ∧ (kB 64 ah c = 64 ∨ (kB 64 ah c < 64 ∧ kS 64 cF (64 + kB 64 ah c)))))) (YX := fun c => c < 64 ∧ kS 64 cF (64 + c)) hr ⟨fun c w => ?_, fun c w u => ?_, fun c w u v => ?_, fun c d w u v => ?_, fun c w u => ?_, fun c w u => ?_, fun c w => ?_, fun c w => wx c w.1 w.2⟩
  · refine ⟨w.1, ?_⟩
    by_cases u : kW 64 fl c ∧ kB 64 ah c = 64
    · exact Or.inr ⟨u.1, Or.inl u.2⟩
    · exact Or.inl (hs c w.1 w u)
  · rcases w with ⟨w1, w2 | w2⟩
    · exact ⟨w1, (pe c w1 w2).1 u⟩
    · exact absurd w2.1 u
  · rcases w with ⟨w1, w2 | ⟨_, w2 | w2⟩⟩
    · exact ⟨v, (pe c w1 w2).2 u v⟩
    · omega
    · exact w2
  · refine ⟨v.1, ?_⟩
    by_cases x : kW 64 fl c ∧ on c = nI d
    · have e : kA 64 (zot t on) c = d := kA_n (by have := v.1; omega) (by
        unfold zot
        rw [x.2]
        exact if_neg (fun q => by
          have e9 : d = t := (nI_eq (by have := v.1; omega) (by omega)).mp q
          exact ht (e9 ▸ v)))
      rcases (hr c x.1).2.2.2 with ⟨y, _⟩ | ⟨y1, y2, y3, _⟩
      · have := v.1
        omega
      · rw [e] at y2 y3
        exact Or.inr ⟨y2, Or.inr ⟨by rw [y3]; exact w.1, by rw [y3]; exact w.2⟩⟩
    · exact Or.inl ((px c w.1 w.2).1 d u v x)
  · exact ⟨w.1, Or.inl ((px c w.1 w.2).2.1 u)⟩
  · obtain ⟨x1, x2⟩ := (px c w.1 w.2).2.2 u
    rcases p.2 c w.1 w.2 with ⟨_, _, _, q4⟩ | ⟨d, q0, _, q2, _, q4, q5⟩
    · exact q4 x1
    · obtain ⟨_, e2, _⟩ := zrow_b hr q4 q5 w.1
      have e : kA 64 (zot t on) c = 64 := if_pos (by
        unfold zot
        rw [if_pos x2]
        decide)
      omega
  · rcases w with ⟨w1, w2 | w2⟩
    · exact (p.1 c w1 w2).1
    · exact (hr c w2.1).2.1
/-- the trace's own premise -/
theorem tr_of {f : Nat → Int32} (hR : ∀ n, rm (f n) S) (hb : BQ 64 a b sd me fl ah 64 q (zsf f) qu) : ∃ rk, zsee 64 (zbs 64 a b) (kW 64 sd) (kW 64 me) (kW 64 fl) (kB 64 ah) (kS 64 (zsf f)) (kF 64 (zsf f)) rk 64 ∧ TR S f rk := by
  have hq := bq_le (Nat.le_refl _) hb
  obtain ⟨rk, b1, b2, p⟩ := hb
  refine ⟨rk, p, fun v hv hs => ?_⟩
  have k : kS 64 (zsf f) v := ⟨hv, fun e => hs (zsw_1.mp e)⟩
  refine ⟨by have := (b2 v k).1; omega, ?_⟩
  rcases hR v with e | e | ⟨m, m1, m2, e⟩
  · exact Or.inl e
  · exact absurd e hs
  · have kf : kF 64 (zsf f) v = m := kF_n (by omega) (by
      show zsw (f v) = _
      rw [e]
      exact zsw_n (by omega))
    have g : kS 64 (zsf f) m ∧ rk m < rk v := by
      by_cases u : v < 64
      · rcases (p.1 v u k).2 with ⟨q1, _⟩ | ⟨b', _, q1, q2, q3, _⟩ | ⟨q1, q2, q3, _⟩
        · omega
        · obtain rfl : m = 64 + b' := by omega
          exact ⟨q2, q3⟩
        · obtain rfl : m = 64 + v := by omega
          exact ⟨q2, q3⟩
      · obtain ⟨c, rfl⟩ : ∃ c, v = 64 + c := ⟨v - 64, by omega⟩
        rcases p.2 c (by omega) k with ⟨q1, q2, q3, _⟩ | ⟨d, _, q1, q2, q3, _⟩
        · obtain rfl : m = c := by omega
          exact ⟨q2, q3⟩
        · obtain rfl : m = d := by omega
          exact ⟨q2, q3⟩
    exact Or.inr ⟨m, m1, m2, e, fun w => g.1.2 (zsw_1.mpr w), g.2⟩
theorem bq_k {i n : Nat} (hb : BQ 64 a b sd me fl ah 64 q cF qu) (hi : i < q) (hn : n < 128) (e : qu i = nI n) : kS 64 cF n := by
  obtain ⟨m, m1, m2, m3⟩ := bq_at (Nat.le_refl _) hb hi
  obtain rfl : m = n := (nI_eq (by omega) (by omega)).mp (m2.symm.trans e)
  exact m3
/-- the four beside k, up to w -/
def RX (a b t k : Nat) (sd fl on cF : Nat → Int32) (w : Nat) : Prop := ∀ s, s < w → ∀ d, d < 64 → znb a b k (zwy s) = nI d → (d = t → kW 64 fl k ∧ on k = nI t) ∧ (kW 64 sd d → ¬ (kW 64 fl k ∧ on k = nI d) → kS 64 cF d)
theorem rx_0 {k : Nat} : RX a b t k sd fl on cF 0 := fun s hs => absurd hs (Nat.not_lt_zero _)
theorem rx_m {k w : Nat} (hm : ∀ n, ¬ cF n = -1 → cF2 n = cF n) (h : RX a b t k sd fl on cF w) : RX a b t k sd fl on cF2 w := fun s hs d hd e => ⟨(h s hs d hd e).1, fun u v => by
  have z := (h s hs d hd e).2 u v
  exact ⟨z.1, by rw [hm _ z.2]; exact z.2⟩⟩
theorem rx_s {k w : Nat} (hm : ∀ n, ¬ cF n = -1 → cF2 n = cF n) (h : RX a b t k sd fl on cF w) (g : ∀ d, d < 64 → znb a b k (zwy w) = nI d → (d = t → kW 64 fl k ∧ on k = nI t) ∧ (kW 64 sd d → ¬ (kW 64 fl k ∧ on k = nI d) → kS 64 cF2 d)) : RX a b t k sd fl on cF2 (w + 1) := fun s hs d hd e => by
  by_cases u : s = w
  · subst u
    exact g d hd e
  · exact rx_m hm h s (by omega) d hd e
theorem zwy_in {s : Nat} (h : s < 4) : ∃ w, w < 4 ∧ zwy w = s := by
  have : s = 0 ∨ s = 1 ∨ s = 2 ∨ s = 3 := by omega
  rcases this with rfl | rfl | rfl | rfl
  · exact ⟨0, by omega, rfl⟩
  · exact ⟨3, by omega, rfl⟩
  · exact ⟨1, by omega, rfl⟩
  · exact ⟨2, by omega, rfl⟩
theorem rx_4 {k : Nat} (ht : t < 64) (h : RX a b t k sd fl on cF 4) (c : kW 64 fl k → kS 64 cF k) : RC a b t sd fl on cF k := by
  refine ⟨fun d z u v => ?_, c, fun z => ?_⟩
  · obtain ⟨_, z2, s, s1, s2⟩ := z
    obtain ⟨w, w1, w2⟩ := zwy_in s1
    exact (h w w1 d z2 (by rw [w2]; exact s2)).2 u v
  · obtain ⟨_, z2, s, s1, s2⟩ := z
    obtain ⟨w, w1, w2⟩ := zwy_in s1
    exact (h w w1 t ht (by rw [w2]; exact s2)).1 rfl
end SRCH
/-- is there one that burns beside k, up to i -/
def SB (S a b : Nat) (st : Nat → Int32) (k n i : Nat) : Prop := (n = 0 ∧ ∀ s, s < i → ¬ zbu S st (znb a b k (zwy s))) ∨ (n = 1 ∧ zbb S a b st k)
theorem sb_0 {S a b k : Nat} {st : Nat → Int32} : SB S a b st k 0 0 := Or.inl ⟨rfl, fun s hs => absurd hs (Nat.not_lt_zero _)⟩
theorem sb_n {S a b k n i : Nat} {st : Nat → Int32} (h : SB S a b st k n i) (w : ¬ zbu S st (znb a b k (zwy i))) : SB S a b st k n (i + 1) := h.imp (fun u => ⟨u.1, fun s hs => if e : s = i then e ▸ w else u.2 s (by omega)⟩) id
theorem sb_y {S a b k i j : Nat} {st : Nat → Int32} (w : zbu S st (znb a b k (zwy i))) : SB S a b st k 1 j := Or.inr ⟨rfl, zwy i, zwy_lt, w⟩
theorem sb_4 {S a b k n : Nat} {st : Nat → Int32} (h : SB S a b st k n 4) : (nI n = 1 ∧ zbb S a b st k) ∨ (nI n = 0 ∧ ¬ zbb S a b st k) := by
  rcases h with ⟨rfl, h⟩ | ⟨rfl, h⟩
  · exact Or.inr ⟨rfl, fun ⟨s, s1, s2⟩ => by
      obtain ⟨w, w1, w2⟩ := zwy_in s1
      exact h w w1 (by rw [w2]; exact s2)⟩
  · exact Or.inl ⟨rfl, h⟩
/-! BREAKS: the reference's least and its plan -/
theorem zcp_cut {P : Nat → Prop} {S : Nat} (h : ∀ c, P c → c < S) : ∀ k, zcp P (S + k) = zcp P S
  | 0 => rfl
  | k + 1 => by
    rw [← zcp_cut h k]
    exact zcp_n (fun w => by have := h (S + k) w; omega)
section LEAST
variable {S a b t r : Nat}
theorem zbs_64 (hS : S ≤ 64) {c d : Nat} (hc : c < S) (hd : d < S) : zbs 64 a b c d ↔ zbs S a b c d := ⟨fun w => ⟨hc, hd, w.2.2⟩, fun w => ⟨by omega, by omega, w.2.2⟩⟩
theorem sep_64 {W M C X : Nat → Prop} (hS : S ≤ 64) (ht : t < S) (hW : ∀ c, W c → c < S) : zsep (zbs 64 a b) W M (fun c => zbs 64 a b c t) C X ↔ zsep (zbs S a b) W M (fun c => zbs S a b c t) C X := ⟨fun ⟨h1, h2, h3, h4, h5, h6⟩ => ⟨h1, h2, fun c d x y z => h3 c d x ((zbs_64 hS (hW c (h6 c x)) (hW d z)).mpr y) z, fun c x y => h4 c x ((zbs_64 hS (hW c (h6 c x)) ht).mpr y), h5, h6⟩, fun ⟨h1, h2, h3, h4, h5, h6⟩ => ⟨h1, h2, fun c d x y z => h3 c d x ((zbs_64 hS (hW c (h6 c x)) (hW d z)).mp y) z, fun c x y => h4 c x ((zbs_64 hS (hW c (h6 c x)) ht).mp y), h5, h6⟩⟩
theorem cp_64 {C : Nat → Prop} (hS : S ≤ 64) (h : ∀ c, C c → c < S) : zcp C 64 = zcp C S := by
  have := zcp_cut h (64 - S)
  rw [show S + (64 - S) = 64 by omega] at this
  exact this
theorem cut_64 {W M : Nat → Prop} (hS : S ≤ 64) (ht : t < S) (hW : ∀ c, W c → c < S) (h : zcut 64 (zbs 64 a b) W M (fun c => zbs 64 a b c t) r) : zcut S (zbs S a b) W M (fun c => zbs S a b c t) r := by
  obtain ⟨⟨C, X, h1, h2⟩, h3⟩ := h
  refine ⟨⟨C, X, (sep_64 hS ht hW).mp h1, ?_⟩, fun C X g => ?_⟩
  · rw [← cp_64 hS (fun c w => hW c (h1.1 c w))]
    exact h2
  · rw [← cp_64 hS (fun c w => hW c (g.1 c w))]
    exact h3 C X ((sep_64 hS ht hW).mpr g)
theorem cut_ref {st go : Nat → Int32} (hS : S ≤ 64) (ht : t < S) (h : zcut 64 (zbs 64 a b) (kW 64 (vW S t st go)) (kW 64 (vM S a b t st go)) (fun c => zbs 64 a b c t) r) : zcut S (zbs S a b) (zws S t st go) (fun c => zws S t st go c ∧ zbb S a b st c) (fun c => zbs S a b c t) r := by
  rw [show kW 64 (vW S t st go) = zws S t st go from funext fun c => propext (vW_k hS), show kW 64 (vM S a b t st go) = fun c => zws S t st go c ∧ zbb S a b st c from funext fun c => propext (vM_k hS)] at h
  exact cut_64 hS ht (fun c w => w.1) h
theorem ri_4 {sd me fl on ah : Nat → Int32} (hW : Wd S a b) (ht : t < S) (hMW : ∀ c, kW 64 me c → kW 64 sd c) (hs : ∀ c, kW 64 sd c → c < S) (h : RI a b t sd me fl on ah r) : r ≤ 4 := by
  have hS : S ≤ 64 := hW.2.2.2.2.2.2
  have g := zrow_le h.1 (zsep_T hMW)
  rw [h.2.1] at g
  have e := cp_64 (C := fun c => kW 64 sd c ∧ zbs 64 a b c t) hS (fun c w => hs c w.1)
  have e2 : zcp (fun c => kW 64 sd c ∧ zbs 64 a b c t) S = zcp (fun c => kW 64 sd c ∧ zbs S a b c t) S := zcp_eq S (fun c hc => and_congr_right fun w => zbs_64 hS hc ht)
  have := zbs_4 (W := kW 64 sd) hW ht
  omega
theorem ri_0 {sd me fl on ah : Nat → Int32} (h : ∀ c, c < 64 → fl c = 0 ∧ ah c = -1) : RI a b t sd me fl on ah 0 := ⟨fun c w => absurd (h c w.1).1 w.2, zcp_0 64 (fun c hc w => w.1.2 (h c hc).1), fun c hc => Or.inl (h c hc).1, fun c hc _ => (h c hc).2⟩
theorem fa_s {f g : Nat → Int32} {i : Nat} (h : ∀ c, c < i → f c = 0 ∧ g c = -1) : ∀ c, c < i + 1 → upd f i 0 c = 0 ∧ upd g i (-1) c = -1 := fun c hc => by
  unfold upd
  by_cases u : c = i
  · rw [if_pos u, if_pos u]
    exact ⟨rfl, rfl⟩
  · rw [if_neg u, if_neg u]
    exact h c (by omega)
/-! the plan -/
def RLv (S a b t r : Nat) (st : Nat → Int32) (i ks : Nat) (go cr : Nat → Int32) : Prop := zcut S (zbs S a b) (pW S st t) (pM S a b st t) (fun c => zbs S a b c t) r ∧ ks = (zpl9 S a b st t r i).length ∧ (∀ c, c < S → (go c = 0 ↔ ¬ c ∈ zpl9 S a b st t r i)) ∧ go t = 0 ∧ ∀ j, j < ks → cr j = nI ((zpl9 S a b st t r i).getD j 0)
variable {i ks : Nat} {st go cr : Nat → Int32}
theorem zws_c (hk : ∀ c, c < S → (go c = 0 ↔ ¬ c ∈ zpl9 S a b st t r i)) : zws S t st go = wK (pW S st t) (zpl9 S a b st t r i) := funext fun c => propext ⟨fun w => ⟨⟨w.1, w.2.1, w.2.2.2⟩, (hk c w.1).mp w.2.2.1⟩, fun w => ⟨w.1.1, w.1.2.1, (hk c w.1.1).mpr w.2, w.1.2.2⟩⟩
theorem rv_0 (hS : S ≤ 64) (ht : t < S) (hg : ∀ c, c < 64 → go c = 0) (h : zcut 64 (zbs 64 a b) (kW 64 (vW S t st go)) (kW 64 (vM S a b t st go)) (fun c => zbs 64 a b c t) r) : RLv S a b t r st 0 0 go cr := by
  have z := cut_ref hS ht h
  have e : zws S t st go = pW S st t := funext fun c => propext ⟨fun w => ⟨w.1, w.2.1, w.2.2.2⟩, fun w => ⟨w.1, w.2.1, hg c (by have := w.1; omega), w.2.2⟩⟩
  rw [e] at z
  exact ⟨z, rfl, fun c hc => ⟨fun _ => List.not_mem_nil, fun _ => hg c (by omega)⟩, hg t (by omega), fun j hj => absurd hj (Nat.not_lt_zero _)⟩
/-- the rest without i -/
theorem rv_c {v : Int32} {r' : Nat} (hS : S ≤ 64) (ht : t < S) (hv : ¬ v = 0) (h : RLv S a b t r st i ks go cr) (g : zcut 64 (zbs 64 a b) (kW 64 (vW S t st (upd go i v))) (kW 64 (vM S a b t st (upd go i v))) (fun c => zbs 64 a b c t) r') : zcut S (zbs S a b) (fun c => wK (pW S st t) (zpl9 S a b st t r i) c ∧ ¬ c = i) (fun c => wK (pM S a b st t) (zpl9 S a b st t r i) c ∧ ¬ c = i) (fun c => zbs S a b c t) r' := by
  have z := cut_ref hS ht g
  have e0 := zws_c h.2.2.1
  have e : zws S t st (upd go i v) = fun c => wK (pW S st t) (zpl9 S a b st t r i) c ∧ ¬ c = i := funext fun c => propext (by
    rw [← e0]
    unfold zws upd
    by_cases u : c = i
    · rw [if_pos u]
      exact ⟨fun w => absurd w.2.2.1 hv, fun w => absurd u w.2⟩
    · rw [if_neg u]
      exact ⟨fun w => ⟨w, u⟩, fun w => w.1⟩)
  rw [e] at z
  have e2 : (fun c => (wK (pW S st t) (zpl9 S a b st t r i) c ∧ ¬ c = i) ∧ zbb S a b st c) = fun c => wK (pM S a b st t) (zpl9 S a b st t r i) c ∧ ¬ c = i := funext fun c => propext ⟨fun w => ⟨⟨⟨w.1.1.1, w.2⟩, w.1.1.2⟩, w.1.2⟩, fun w => ⟨⟨⟨w.1.1.1, w.1.2⟩, w.2⟩, w.1.1.2⟩⟩
  rw [e2] at z
  exact z
theorem rv_w (hi : i < S) (h1 : st i = 0) (h2 : ¬ i = t) : wK (pW S st t) (zpl9 S a b st t r i) i := ⟨⟨hi, h1, h2⟩, fun w => by
  have := zgk_lt i i w
  omega⟩
theorem rv_y {v : Int32} (hi : i < S) (hv : ¬ v = 0) (h : RLv S a b t r st i ks go cr) (h1 : st i = 0) (h2 : ¬ i = t) (hk : ks < r) (g : zcut S (zbs S a b) (fun c => wK (pW S st t) (zpl9 S a b st t r i) c ∧ ¬ c = i) (fun c => wK (pM S a b st t) (zpl9 S a b st t r i) c ∧ ¬ c = i) (fun c => zbs S a b c t) (r - ks - 1)) : RLv S a b t r st (i + 1) (ks + 1) (upd go i v) (upd cr ks (nI i)) := by
  obtain ⟨z1, z2, z3, z4, z5⟩ := h
  have d : zgd S (zbs S a b) (pW S st t) (pM S a b st t) (fun c => zbs S a b c t) r (zpl9 S a b st t r i) i := ⟨by omega, rv_w hi h1 h2, by rw [← z2]; exact g⟩
  have e : zpl9 S a b st t r (i + 1) = zpl9 S a b st t r i ++ [i] := zgk_y d
  unfold RLv
  rw [e]
  refine ⟨z1, by rw [List.length_append, ← z2]; rfl, fun c hc => ?_, ?_, fun j hj => ?_⟩
  · rw [List.mem_append, List.mem_singleton]
    unfold upd
    by_cases u : c = i
    · rw [if_pos u]
      exact ⟨fun w => absurd w hv, fun w => absurd (Or.inr u) w⟩
    · rw [if_neg u, z3 c hc]
      exact ⟨fun w q => q.elim w u, fun w q => w (Or.inl q)⟩
  · exact (if_neg (fun w => h2 w.symm)).trans z4
  · unfold upd
    by_cases u : j = ks
    · rw [if_pos u, u, z2, gd_r]
    · rw [if_neg u, z5 j (by omega), gd_l _ _ j (by omega)]
theorem rv_n {go' : Nat → Int32} (h : RLv S a b t r st i ks go cr) (eg : ∀ c, c < S → go' c = go c) (ht : t < S) (n : ¬ zgd S (zbs S a b) (pW S st t) (pM S a b st t) (fun c => zbs S a b c t) r (zpl9 S a b st t r i) i) : RLv S a b t r st (i + 1) ks go' cr := by
  have e : zpl9 S a b st t r (i + 1) = zpl9 S a b st t r i := zgk_n n
  obtain ⟨z1, z2, z3, z4, z5⟩ := h
  unfold RLv
  rw [e]
  exact ⟨z1, z2, fun c hc => by rw [eg c hc]; exact z3 c hc, by rw [eg t ht]; exact z4, z5⟩
theorem rv_n0 (h : RLv S a b t r st i ks go cr) (ht : t < S) (w : ¬ (st i = 0 ∧ ¬ i = t)) : RLv S a b t r st (i + 1) ks go cr := rv_n h (fun _ _ => rfl) ht (fun d => w ⟨d.2.1.1.2.1, d.2.1.1.2.2⟩)
theorem rv_n1 {v : Int32} {r' : Nat} (hi : i < S) (ht : t < S) (h : RLv S a b t r st i ks go cr) (g : zcut S (zbs S a b) (fun c => wK (pW S st t) (zpl9 S a b st t r i) c ∧ ¬ c = i) (fun c => wK (pM S a b st t) (zpl9 S a b st t r i) c ∧ ¬ c = i) (fun c => zbs S a b c t) r') (n : ¬ r' = r - ks - 1) : RLv S a b t r st (i + 1) ks (upd (upd go i v) i 0) cr := by
  have gi : go i = 0 := (h.2.2.1 i hi).mpr (fun w => by
    have := zgk_lt i i w
    omega)
  refine rv_n h (fun c hc => ?_) ht (fun d => n (zcut_eq g (by rw [h.2.1]; exact d.2.2)))
  unfold upd
  by_cases u : c = i
  · rw [if_pos u, u]
    exact gi.symm
  · rw [if_neg u, if_neg u]
theorem rv_e {n : Int32} (h : RLv S a b t r st i ks go cr) (hr : r ≤ 4) (hi : i ≤ S) (w : i = S ∨ r ≤ ks) (e : n = nI ks) : PE S a b t st n cr := by
  obtain ⟨z1, z2, z3, z4, z5⟩ := h
  have eS : zpl9 S a b st t r S = zpl9 S a b st t r i := by
    rcases w with w | w
    · rw [w]
    · have := zgk_st (S := S) (A := zbs S a b) (W := pW S st t) (M := pM S a b st t) (T := fun c => zbs S a b c t) (r := r) (i := i) (by
        show r ≤ (zpl9 S a b st t r i).length
        omega) (S - i)
      rw [show i + (S - i) = S by omega] at this
      exact this
  refine ⟨r, hr, z1, ?_, ?_⟩
  · rw [eS, ← z2]
    exact e
  · rw [eS, ← z2]
    exact z5
/-- there is one plan -/
theorem pe_eq {n n' : Int32} {ke ke' : Nat → Int32} (h : PE S a b t st n ke) (g : PE S a b t st n' ke') : n = n' ∧ ∃ m : Nat, m ≤ 4 ∧ n = nI m ∧ ∀ j, j < m → ke j = ke' j := by
  obtain ⟨r, h1, h2, h3, h4⟩ := h
  obtain ⟨r', g1, g2, g3, g4⟩ := g
  obtain rfl := zcut_eq h2 g2
  exact ⟨h3.trans g3.symm, _, Nat.le_trans (zgk_le S) h1, h3, fun j hj => (h4 j hj).trans (g4 j hj).symm⟩
theorem pe_ag {st' : Nat → Int32} {n : Int32} {ke : Nat → Int32} (h : ∀ c, c < S → st c = st' c) (g : PE S a b t st n ke) : PE S a b t st' n ke := by
  have eb : ∀ c, zbb S a b st c = zbb S a b st' c := fun c => propext ⟨fun ⟨s, s1, m, m1, m2, m3⟩ => ⟨s, s1, m, m1, m2, (h m m1) ▸ m3⟩, fun ⟨s, s1, m, m1, m2, m3⟩ => ⟨s, s1, m, m1, m2, (h m m1).symm ▸ m3⟩⟩
  have e1 : pW S st t = pW S st' t := funext fun c => propext ⟨fun w => ⟨w.1, (h c w.1) ▸ w.2.1, w.2.2⟩, fun w => ⟨w.1, (h c w.1).symm ▸ w.2.1, w.2.2⟩⟩
  have e2 : pM S a b st t = pM S a b st' t := funext fun c => by
    unfold pM
    rw [e1, eb c]
  obtain ⟨r, g1, g2, g3, g4⟩ := g
  have e3 : zpl9 S a b st t r S = zpl9 S a b st' t r S := by
    unfold zpl9
    rw [e1, e2]
  rw [e1, e2] at g2
  rw [e3] at g3 g4
  exact ⟨r, g1, g2, g3, g4⟩
end LEAST
