/-! THE START: what the constructors leave, as the parameters of the world -/
def sc0 : Nat → Int32 := fun k => if k = 10 then -1 else if k = 4909 then -1 else 0
def ar0 (f1 f2 f3 g1 g2 : Nat → Int32) : Nat → Nat → Int32 := fun c => if c = 2 then f1 else if c = 3 then f2 else if c = 4 then f3 else if c = 5 then g1 else if c = 11 then g2 else if c = 51 then (fun j => if j < 64 then -1 else 0) else if c = 57 then (fun j => if j < 64 then -1 else 0) else fun _ => 0
theorem r0_rl {x : Int32} {B : Nat} (h : x = 0) (hB : 1 ≤ B) : rl x B := ⟨0, by omega, h⟩
theorem r0_rn {x : Int32} {B : Nat} (h : x = 0) (hB : 1 ≤ B) : rn x B := ⟨0, by omega, by omega, h⟩
theorem rq_sm (j : Nat) : rq (if j < 64 then (-1 : Int32) else 0) 8 := by
  split
  · exact Or.inl rfl
  · exact Or.inr (r0_rl rfl (by omega))
theorem iv_0 {S : Nat} (hS : 1 ≤ S) {f1 f2 f3 g1 g2 : Nat → Int32} : Iv S sc0 (ar0 f1 f2 f3 g1 g2) := ⟨r0_rl rfl (by omega), r0_rl rfl (by omega), r0_rl rfl (by omega), r0_rl rfl (by omega), r0_rl rfl (by omega), r0_rl rfl (by omega), r0_rl rfl (by omega), r0_rl rfl (by omega), r0_rl rfl (by omega), r0_rl rfl (by omega), r0_rl rfl (by omega), r0_rl rfl (by omega), r0_rl rfl (by omega), r0_rl rfl (by omega), r0_rl rfl (by omega), r0_rl rfl (by omega), r0_rl rfl (by omega), r0_rl rfl (by omega), r0_rl rfl (by omega), r0_rl rfl (by omega), r0_rl rfl (by omega), r0_rl rfl (by omega), r0_rl rfl (by omega), r0_rl rfl (by omega), r0_rl rfl (by omega), (fun _ => r0_rl rfl (by omega)), (fun _ => Or.inr (r0_rl rfl (by omega))), (fun _ => r0_rl rfl (by omega)), (fun _ => r0_rl rfl (by omega)), (fun _ => r0_rl rfl (by omega)), (fun _ => r0_rl rfl (by omega)), (fun _ => Or.inr (Or.inr (r0_rl rfl (by omega)))), rq_sm, (fun _ => r0_rl rfl (by omega)), (fun _ => Or.inr (r0_rl rfl (by omega))), (fun _ => r0_rl rfl (by omega)), (fun _ => r0_rl rfl (by omega)), (fun _ => Or.inr (Or.inr (r0_rn rfl (by omega)))), (fun _ => r0_rn rfl (by omega)), (fun _ => Or.inr (r0_rl rfl (by omega))), (fun _ => r0_rn rfl (by omega))⟩
theorem lw_0 {f1 f2 f3 g1 g2 : Nat → Int32} : Lw sc0 (ar0 f1 f2 f3 g1 g2) := by
  intro n l m r f g e hn hl
  obtain rfl : n = 0 := (nI_eq (by omega) (by omega)).mp (e.symm.trans (show sc0 4907 = nI 0 from rfl))
  exact absurd hl (Nat.not_lt_zero _)
theorem rf_0 {f1 f2 f3 g1 g2 : Nat → Int32} : Rf sc0 (ar0 f1 f2 f3 g1 g2) := by
  refine ⟨⟨rfl, rfl, rfl⟩, fun l i hl e hi => ?_, fun s t hs e ht => ?_⟩
  · obtain rfl : l = 0 := (nI_eq (by omega) (by omega)).mp (e.symm.trans (show sc0 2903 = nI 0 from rfl))
    exact absurd hi (Nat.not_lt_zero _)
  · obtain rfl : s = 0 := (nI_eq (by omega) (by omega)).mp (e.symm.trans (show sc0 2201 = nI 0 from rfl))
    exact absurd ht (Nat.not_lt_zero _)
