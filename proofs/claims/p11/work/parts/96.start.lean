/-! THE START: what the constructors leave, as the parameters of the world -/
def sc0 : Nat → Int32 := fun k => if k = 10 then -1 else if k = 4909 then -1 else 0
def ar0 (f1 f2 f3 g1 g2 : Nat → Int32) : Nat → Nat → Int32 := fun c => if c = 2 then f1 else if c = 3 then f2 else if c = 4 then f3 else if c = 5 then g1 else if c = 11 then g2 else if c = 51 then (fun j => if j < 64 then -1 else 0) else if c = 57 then (fun j => if j < 64 then -1 else 0) else fun _ => 0
theorem r0_rl {x : Int32} {B : Nat} (h : x = 0) (hB : 1 ≤ B) : rl x B := ⟨0, by omega, h⟩
theorem r0_rn {x : Int32} {B : Nat} (h : x = 0) (hB : 1 ≤ B) : rn x B := ⟨0, by omega, by omega, h⟩
theorem rq_sm (j : Nat) : rq (if j < 64 then (-1 : Int32) else 0) 8 := by
  split
  · exact Or.inl rfl
  · exact Or.inr (r0_rl rfl (by omega))
theorem iv_0 {S : Nat} (hS : 1 ≤ S) {f1 f2 f3 g1 g2 : Nat → Int32} : Iv S sc0 (ar0 f1 f2 f3 g1 g2) := ⟨r0_rl rfl (by omega), r0_rl rfl (by omega), r0_rl rfl (by omega), r0_rl rfl (by omega), r0_rl rfl (by omega), r0_rl rfl (by omega), r0_rl rfl (by omega), r0_rl rfl (by omega), r0_rl rfl (by omega), r0_rl rfl (by omega), r0_rl rfl (by omega), r0_rl rfl (by omega), r0_rl rfl (by omega), r0_rl rfl (by omega), r0_rl rfl (by omega), r0_rl rfl (by omega), r0_rl rfl (by omega), r0_rl rfl (by omega), r0_rl rfl (by omega), r0_rl rfl (by omega), r0_rl rfl (by omega), r0_rl rfl (by omega), r0_rl rfl (by omega), r0_rl rfl (by omega), r0_rl rfl (by omega), (fun _ => r0_rl rfl (by omega)), (fun _ => Or.inr (r0_rl rfl (by omega))), (fun _ => r0_rl rfl (by omega)), (fun _ => r0_rl rfl (by omega)), (fun _ => r0_rl rfl (by omega)), (fun _ => r0_rl rfl (by omega)), (fun _ => Or.inr (Or.inr (r0_rl rfl (by omega)))), rq_sm, (fun _ => r0_rl rfl (by omega)), (fun _ => Or.inr (r0_rl rfl (by omega))), (fun _ => r0_rl rfl (by omega)), (fun _ => r0_rl rfl (by omega)), (fun _ => Or.inr (Or.inr (r0_rn rfl (by omega)))), (fun _ => r0_rn rfl (by omega)), (fun _ => Or.inr (r0_rl rfl (by omega))), (fun _ => r0_rn rfl (by omega))⟩
theorem lw_0 {f1 f2 f3 g1 g2 : Nat → Int32} : Lw sc0 (ar0 f1 f2 f3 g1 g2) := by
  intro n l m r f g e hn hl
  obtain rfl : n = 0 := (nI_eq (by omega) (by omega)).mp (e.symm.trans (show sc0 4907 = nI 0 from rfl))
  exact absurd hl (Nat.not_lt_zero _)
theorem rf_0 {f1 f2 f3 g1 g2 : Nat → Int32} : Rf sc0 (ar0 f1 f2 f3 g1 g2) := by
  refine ⟨⟨rfl, rfl, rfl⟩, fun l i hl e hi => ?_, fun s t hs e ht => ?_⟩
  · obtain rfl : l = 0 := (nI_eq (by omega) (by omega)).mp (e.symm.trans (show sc0 2903 = nI 0 from rfl))
    exact absurd hi (Nat.not_lt_zero _)
  · obtain rfl : s = 0 := (nI_eq (by omega) (by omega)).mp (e.symm.trans (show sc0 2201 = nI 0 from rfl))
    exact absurd ht (Nat.not_lt_zero _)
theorem gq_gd {S a b : Nat} {f1 f2 f3 g1 g2 : Nat → Int32} (hS : S = a * b) (ha : 1 ≤ a) (h : Gq a b f1 f2 f3 S) : Gd S a b (ar0 f1 f2 f3 g1 g2) := by
  refine ⟨fun k hk => (h k hk).1, fun k hk => (h k hk).2.1, fun k s hk hs => ?_⟩
  obtain ⟨_, _, h0, h1, h2, h3⟩ := h k hk
  show f3 (4 * k + s) = znb a b k s
  unfold znb
  rcases (show s = 0 ∨ s = 1 ∨ s = 2 ∨ s = 3 by omega) with rfl | rfl | rfl | rfl
  · rw [if_pos rfl]
    show f3 (4 * k) = _
    rw [h0]
    by_cases w : k / a = 0
    · rw [if_pos w, if_neg (by omega)]
    · rw [if_neg w, if_pos (Nat.pos_of_ne_zero w)]
  · rw [if_neg (by decide), if_pos rfl, h1]
    by_cases w : k % a = 0
    · rw [if_pos w, if_neg (by omega)]
    · rw [if_neg w, if_pos (Nat.pos_of_ne_zero w)]
  · rw [if_neg (by decide), if_neg (by decide), if_pos rfl, h2]
    by_cases w : a ≤ k % a + 1
    · rw [if_pos w, if_neg (by omega)]
    · rw [if_neg w, if_pos (by omega)]
  · rw [if_neg (by decide), if_neg (by decide), if_neg (by decide), h3]
    by_cases w : b ≤ k / a + 1
    · rw [if_pos w, if_neg (by omega)]
    · rw [if_neg w, if_pos (by omega)]
/-- the rows at the start, as both have them -/
def gv0 : Nat → Nat → Int32 := fun r => if r = 5 then (fun _ => -1) else if r = 11 then (fun _ => -1) else fun _ => 0
theorem gv0_o {r : Nat} (h : ¬ r = 5) (h2 : ¬ r = 11) : gv0 r = fun _ => 0 := by
  unfold gv0
  rw [if_neg h, if_neg h2]
theorem rl_0 {S a b : Nat} {f1 f2 f3 g1 g2 : Nat → Int32} (hS1 : 1 ≤ S) (hS2 : S ≤ 64) (hS : S = a * b) (ha : 1 ≤ a) (hg1 : ∀ j, j < S → g1 j = -1) (hg2 : ∀ j, j < S → g2 j = -1) (hq : Gq a b f1 f2 f3 S) : Rl S a b 0 0 0 sc0 (ar0 f1 f2 f3 g1 g2) := by
  refine ⟨rf_0, gq_gd hS ha hq, ⟨⟨by decide, by decide, by decide⟩, rfl, rfl, rfl, rfl, rfl, rfl, rfl⟩, ⟨fun l hl => absurd hl (Nat.not_lt_zero _), fun l r hl => absurd hl (Nat.not_lt_zero _), fun l hl => absurd hl (Nat.not_lt_zero _), rfl, fun l m _ hm => absurd hm (Nat.not_lt_zero _)⟩, ⟨gv0, gv0, ?_, ?_, ?_⟩, rfl, fun c _ => rfl⟩
  · refine ⟨fun r _ => rfl, ⟨fun c => (if_neg (fun w => absurd w.1 (Nat.not_lt_zero _))).symm, fun c => Or.inl rfl⟩, ⟨fun c g hc => absurd hc (Nat.not_lt_zero _), fun h c hc e => ?_, fun c => Or.inl rfl⟩, fun c => Or.inr ⟨0, by omega, rfl⟩, fun h => Or.inl rfl⟩
    exact absurd e.symm (nI_neg (by omega) (show (-1 : Int32) < 0 by decide))
  · intro r
    refine ⟨fun hr k hk => ?_, fun hr => ?_⟩
    · rcases (show r = 5 ∨ r = 6 ∨ r = 7 ∨ r = 8 ∨ r = 9 ∨ r = 10 ∨ r = 11 ∨ r = 12 by omega) with rfl | rfl | rfl | rfl | rfl | rfl | rfl | rfl
      · exact (hg1 k hk).symm
      · rfl
      · rfl
      · rfl
      · rfl
      · rfl
      · exact (hg2 k hk).symm
      · rfl
    · rw [gv0_o (by omega) (by omega)]
      cases hz : zr r with
      | true =>
        have hz' := hz
        unfold zr at hz'
        rw [decide_eq_true_eq] at hz'
        rcases (show r = 14 ∨ r = 15 ∨ r = 16 ∨ r = 17 ∨ r = 18 ∨ r = 19 ∨ r = 20 ∨ r = 21 by omega) with rfl | rfl | rfl | rfl | rfl | rfl | rfl | rfl
        · rfl
        · rfl
        · rfl
        · rfl
        · rfl
        · rfl
        · rfl
        · rfl
      | false => exact (zv0_V r hz).symm
  · intro r
    refine ⟨fun hr k hk => ?_, fun hr => ?_⟩
    · rcases (show r = 5 ∨ r = 6 ∨ r = 7 ∨ r = 8 ∨ r = 9 ∨ r = 10 ∨ r = 11 ∨ r = 12 by omega) with rfl | rfl | rfl | rfl | rfl | rfl | rfl | rfl
      · exact (if_pos (show k < 64 by omega)).symm
      · rfl
      · rfl
      · rfl
      · rfl
      · rfl
      · exact (if_pos (show k < 64 by omega)).symm
      · rfl
    · rw [gv0_o (by omega) (by omega)]
      cases hz : zr r with
      | true =>
        have hz' := hz
        unfold zr at hz'
        rw [decide_eq_true_eq] at hz'
        rcases (show r = 14 ∨ r = 15 ∨ r = 16 ∨ r = 17 ∨ r = 18 ∨ r = 19 ∨ r = 20 ∨ r = 21 by omega) with rfl | rfl | rfl | rfl | rfl | rfl | rfl | rfl
        · rfl
        · rfl
        · rfl
        · rfl
        · rfl
        · rfl
        · rfl
        · rfl
      | false => exact (zv0_r r hz).symm
