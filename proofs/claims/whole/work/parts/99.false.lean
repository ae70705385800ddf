/-! THE STATEMENT IS FALSE as it is printed: at this start the law returns, and answers 0 -/
theorem fl_one {p : Program} {e : Env} {s : State} {below : List Frame} {n n' : Nat} {o o' : Outcome} (h1 : ∀ k, k < n → Within (stepsAlone p.tables e k s) below) (h2 : Ended (stepsAlone p.tables e n s) below o) (g1 : ∀ k, k < n' → Within (stepsAlone p.tables e k s) below) (g2 : Ended (stepsAlone p.tables e n' s) below o') : o = o' := by
  have hn : n = n' := by
    rcases Nat.lt_trichotomy n n' with h | h | h
    · exact absurd (g1 n h) h2.not_within
    · exact h
    · exact absurd (h1 n' h) g2.not_within
  subst hn
  exact h2.outcome_unique g2
theorem fl_limb {args : Array Value} {s t : State} (h : limb_1_2.after args s (.returned (some (.int 0))) t = true) : False := by
  have h1 := Cond.after_iff.mp h
  rw [show limb_1_2 = Cond.eq .result (.int 1) from rfl, Cond.eq_ints (x := 0) (y := 1) rfl rfl] at h1
  exact absurd h1 (by decide)
/-- in the library's own word: the second limb falls, at a start that meets the premises -/
theorem fl_falls : FallsFor flags0 classFile x code maxLocals ret World_1 tables_1 room_1 Calls_1 rest_1 Pre_1 Post_1_2 := by
  have S := fl_start
  obtain ⟨n, o, h1, h2, h3, rfl⟩ := fl_comes (l := launch0) (by decide +kernel) S.2.2.1 S.2.2.2.2.1 S.2.2.2.2.2.1 S.2.2.2.2.2.2.1 S.2.2.2.2.2.2.2.2.2.1 fl_bears (p := start1.p0)
  exact ⟨launch0, start1.p0, start1.e0, fl_s, ⟨0, 0⟩, start1.args0, Lib.HandBits.below0, rfl, S, n, _, h1, h2, h3, fun hp => fl_limb hp.1⟩
/-- so the claim doesn't hold -/
theorem fl_false : ¬ (Claimed_1_1 ∧ Claimed_1_2) := by
  intro H
  obtain ⟨l, p, e, s, m, args, below, hl, ⟨S1, S2, S3, S4, S5, S6, S7, S8, S9, S10, S11, S12, S13⟩, n, o, h1, h2, h3, h4⟩ := fl_falls
  obtain ⟨n', o', g1, g2, g3, g4⟩ := H.2 l hl S1 S2 p e S3 S5 S6 s m args below S7 S8 S9 S10 ⟨S11, S12, S13⟩
  have ho := fl_one h1 h3 g1 g3
  subst ho
  have hn : n = n' := by
    rcases Nat.lt_trichotomy n n' with h | h | h
    · exact absurd (g1 n h) h3.not_within
    · exact h
    · exact absurd (h1 n' h) g3.not_within
  subst hn
  exact h4 g4
