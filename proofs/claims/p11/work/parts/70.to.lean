/-! RUNS THAT COME TO AN END OF WHICH Q HOLDS -/
def ag_To (X : Nat × (Nat → Int32)) (d : Nat) (M : ai_M) (fr : ai_F) (Q : ai_O → Prop) : Prop := ∃ o, Q o ∧ ag_Go X d M fr o
section ATO
variable {X : Nat × (Nat → Int32)} {d : Nat} {M : ai_M} {Q : ai_O → Prop}
theorem to_of {fr fr' : ai_F} (h : ∀ o, ag_Go X d M fr' o → ag_Go X d M fr o) (k : ag_To X d M fr' Q) : ag_To X d M fr Q := by
  obtain ⟨o, q, g⟩ := k
  exact ⟨o, q, h o g⟩
theorem to_n (k : Nat) {fr fr' : ai_F} (h : ag_n X M k fr = some fr') (g : ag_To X d M fr' Q) : ag_To X d M fr Q := to_of (fun _ w => go_n k h w) g
theorem to_eq {fr fr' : ai_F} (h : fr = fr') (g : ag_To X d M fr' Q) : ag_To X d M fr Q := h ▸ g
theorem to_rt {fr : ai_F} {i : Instr} {tg : List Nat} {o : ai_O} (h1 : ai_as M.co fr.1 = some (i, tg)) (h2 : ai_rt M.rt i fr = some o) (q : Q o) : ag_To X d M fr Q := ⟨o, q, go_rt h1 h2⟩
theorem to_th {fr : ai_F} {i : Instr} {tg : List Nat} {o : ai_O} (h1 : ai_as M.co fr.1 = some (i, tg)) (h2 : ai_th (an_lk M.cn) M.hh i fr = some o) (q : Q o) : ag_To X d M fr Q := ⟨o, q, go_th h1 h2⟩
variable {pc : Nat} {lv : List (Nat × Value)} {st : List Value} {r : ai_H × Bool × Nat × Nat} {h h' : ai_H} {z : Bool × Nat × Nat} {t : Nat} {off : Int}
theorem to_ic_eq {x y : Int32} (h1 : ai_as M.co pc = some (.if_icmp .eq off, [t])) (kt : x = y → ag_To X d M (t, lv, st, r) Q) (kf : ¬ x = y → ag_To X d M (pc + 3, lv, st, r) Q) : ag_To X d M (pc, lv, .int y :: .int x :: st, r) Q := by
  by_cases q : x = y
  · exact to_of (fun _ w => go_ic_eq h1 (fun _ => w) (fun n => absurd q n)) (kt q)
  · exact to_of (fun _ w => go_ic_eq h1 (fun n => absurd n q) (fun _ => w)) (kf q)
theorem to_if_eq {x : Int32} (h1 : ai_as M.co pc = some (.ifCond .eq off, [t])) (kt : x = 0 → ag_To X d M (t, lv, st, r) Q) (kf : ¬ x = 0 → ag_To X d M (pc + 3, lv, st, r) Q) : ag_To X d M (pc, lv, .int x :: st, r) Q := by
  by_cases q : x = 0
  · exact to_of (fun _ w => go_if_eq h1 (fun _ => w) (fun n => absurd q n)) (kt q)
  · exact to_of (fun _ w => go_if_eq h1 (fun n => absurd n q) (fun _ => w)) (kf q)
theorem to_ic_eq_T {x y : Int32} (h1 : ai_as M.co pc = some (.if_icmp .eq off, [t])) (q : x = y) (k : ag_To X d M (t, lv, st, r) Q) : ag_To X d M (pc, lv, .int y :: .int x :: st, r) Q := to_of (fun _ w => go_ic_eq h1 (fun _ => w) (fun n => absurd q n)) k
theorem to_if_eq_T {x : Int32} (h1 : ai_as M.co pc = some (.ifCond .eq off, [t])) (q : x = 0) (k : ag_To X d M (t, lv, st, r) Q) : ag_To X d M (pc, lv, .int x :: st, r) Q := to_of (fun _ w => go_if_eq h1 (fun _ => w) (fun n => absurd q n)) k
theorem to_ic_eq_F {x y : Int32} (h1 : ai_as M.co pc = some (.if_icmp .eq off, [t])) (q : ¬ x = y) (k : ag_To X d M (pc + 3, lv, st, r) Q) : ag_To X d M (pc, lv, .int y :: .int x :: st, r) Q := to_of (fun _ w => go_ic_eq h1 (fun n => absurd n q) (fun _ => w)) k
theorem to_if_eq_F {x : Int32} (h1 : ai_as M.co pc = some (.ifCond .eq off, [t])) (q : ¬ x = 0) (k : ag_To X d M (pc + 3, lv, st, r) Q) : ag_To X d M (pc, lv, .int x :: st, r) Q := to_of (fun _ w => go_if_eq h1 (fun n => absurd n q) (fun _ => w)) k
theorem to_ic_ne {x y : Int32} (h1 : ai_as M.co pc = some (.if_icmp .ne off, [t])) (kt : ¬ x = y → ag_To X d M (t, lv, st, r) Q) (kf : x = y → ag_To X d M (pc + 3, lv, st, r) Q) : ag_To X d M (pc, lv, .int y :: .int x :: st, r) Q := by
  by_cases q : ¬ x = y
  · exact to_of (fun _ w => go_ic_ne h1 (fun _ => w) (fun n => absurd n q)) (kt q)
  · exact to_of (fun _ w => go_ic_ne h1 (fun n => absurd n q) (fun _ => w)) (kf (Classical.not_not.mp q))
theorem to_if_ne {x : Int32} (h1 : ai_as M.co pc = some (.ifCond .ne off, [t])) (kt : ¬ x = 0 → ag_To X d M (t, lv, st, r) Q) (kf : x = 0 → ag_To X d M (pc + 3, lv, st, r) Q) : ag_To X d M (pc, lv, .int x :: st, r) Q := by
  by_cases q : ¬ x = 0
  · exact to_of (fun _ w => go_if_ne h1 (fun _ => w) (fun n => absurd n q)) (kt q)
  · exact to_of (fun _ w => go_if_ne h1 (fun n => absurd n q) (fun _ => w)) (kf (Classical.not_not.mp q))
theorem to_ic_ne_T {x y : Int32} (h1 : ai_as M.co pc = some (.if_icmp .ne off, [t])) (q : ¬ x = y) (k : ag_To X d M (t, lv, st, r) Q) : ag_To X d M (pc, lv, .int y :: .int x :: st, r) Q := to_of (fun _ w => go_ic_ne h1 (fun _ => w) (fun n => absurd n q)) k
theorem to_if_ne_T {x : Int32} (h1 : ai_as M.co pc = some (.ifCond .ne off, [t])) (q : ¬ x = 0) (k : ag_To X d M (t, lv, st, r) Q) : ag_To X d M (pc, lv, .int x :: st, r) Q := to_of (fun _ w => go_if_ne h1 (fun _ => w) (fun n => absurd n q)) k
theorem to_ic_ne_F {x y : Int32} (h1 : ai_as M.co pc = some (.if_icmp .ne off, [t])) (q : x = y) (k : ag_To X d M (pc + 3, lv, st, r) Q) : ag_To X d M (pc, lv, .int y :: .int x :: st, r) Q := to_of (fun _ w => go_ic_ne h1 (fun n => absurd q n) (fun _ => w)) k
theorem to_if_ne_F {x : Int32} (h1 : ai_as M.co pc = some (.ifCond .ne off, [t])) (q : x = 0) (k : ag_To X d M (pc + 3, lv, st, r) Q) : ag_To X d M (pc, lv, .int x :: st, r) Q := to_of (fun _ w => go_if_ne h1 (fun n => absurd q n) (fun _ => w)) k
theorem to_ic_lt {x y : Int32} (h1 : ai_as M.co pc = some (.if_icmp .lt off, [t])) (kt : x < y → ag_To X d M (t, lv, st, r) Q) (kf : ¬ x < y → ag_To X d M (pc + 3, lv, st, r) Q) : ag_To X d M (pc, lv, .int y :: .int x :: st, r) Q := by
  by_cases q : x < y
  · exact to_of (fun _ w => go_ic_lt h1 (fun _ => w) (fun n => absurd q n)) (kt q)
  · exact to_of (fun _ w => go_ic_lt h1 (fun n => absurd n q) (fun _ => w)) (kf q)
theorem to_if_lt {x : Int32} (h1 : ai_as M.co pc = some (.ifCond .lt off, [t])) (kt : x < 0 → ag_To X d M (t, lv, st, r) Q) (kf : ¬ x < 0 → ag_To X d M (pc + 3, lv, st, r) Q) : ag_To X d M (pc, lv, .int x :: st, r) Q := by
  by_cases q : x < 0
  · exact to_of (fun _ w => go_if_lt h1 (fun _ => w) (fun n => absurd q n)) (kt q)
  · exact to_of (fun _ w => go_if_lt h1 (fun n => absurd n q) (fun _ => w)) (kf q)
theorem to_ic_lt_T {x y : Int32} (h1 : ai_as M.co pc = some (.if_icmp .lt off, [t])) (q : x < y) (k : ag_To X d M (t, lv, st, r) Q) : ag_To X d M (pc, lv, .int y :: .int x :: st, r) Q := to_of (fun _ w => go_ic_lt h1 (fun _ => w) (fun n => absurd q n)) k
theorem to_if_lt_T {x : Int32} (h1 : ai_as M.co pc = some (.ifCond .lt off, [t])) (q : x < 0) (k : ag_To X d M (t, lv, st, r) Q) : ag_To X d M (pc, lv, .int x :: st, r) Q := to_of (fun _ w => go_if_lt h1 (fun _ => w) (fun n => absurd q n)) k
theorem to_ic_lt_F {x y : Int32} (h1 : ai_as M.co pc = some (.if_icmp .lt off, [t])) (q : ¬ x < y) (k : ag_To X d M (pc + 3, lv, st, r) Q) : ag_To X d M (pc, lv, .int y :: .int x :: st, r) Q := to_of (fun _ w => go_ic_lt h1 (fun n => absurd n q) (fun _ => w)) k
theorem to_if_lt_F {x : Int32} (h1 : ai_as M.co pc = some (.ifCond .lt off, [t])) (q : ¬ x < 0) (k : ag_To X d M (pc + 3, lv, st, r) Q) : ag_To X d M (pc, lv, .int x :: st, r) Q := to_of (fun _ w => go_if_lt h1 (fun n => absurd n q) (fun _ => w)) k
theorem to_ic_ge {x y : Int32} (h1 : ai_as M.co pc = some (.if_icmp .ge off, [t])) (kt : y ≤ x → ag_To X d M (t, lv, st, r) Q) (kf : ¬ y ≤ x → ag_To X d M (pc + 3, lv, st, r) Q) : ag_To X d M (pc, lv, .int y :: .int x :: st, r) Q := by
  by_cases q : y ≤ x
  · exact to_of (fun _ w => go_ic_ge h1 (fun _ => w) (fun n => absurd q n)) (kt q)
  · exact to_of (fun _ w => go_ic_ge h1 (fun n => absurd n q) (fun _ => w)) (kf q)
theorem to_if_ge {x : Int32} (h1 : ai_as M.co pc = some (.ifCond .ge off, [t])) (kt : 0 ≤ x → ag_To X d M (t, lv, st, r) Q) (kf : ¬ 0 ≤ x → ag_To X d M (pc + 3, lv, st, r) Q) : ag_To X d M (pc, lv, .int x :: st, r) Q := by
  by_cases q : 0 ≤ x
  · exact to_of (fun _ w => go_if_ge h1 (fun _ => w) (fun n => absurd q n)) (kt q)
  · exact to_of (fun _ w => go_if_ge h1 (fun n => absurd n q) (fun _ => w)) (kf q)
theorem to_ic_ge_T {x y : Int32} (h1 : ai_as M.co pc = some (.if_icmp .ge off, [t])) (q : y ≤ x) (k : ag_To X d M (t, lv, st, r) Q) : ag_To X d M (pc, lv, .int y :: .int x :: st, r) Q := to_of (fun _ w => go_ic_ge h1 (fun _ => w) (fun n => absurd q n)) k
theorem to_if_ge_T {x : Int32} (h1 : ai_as M.co pc = some (.ifCond .ge off, [t])) (q : 0 ≤ x) (k : ag_To X d M (t, lv, st, r) Q) : ag_To X d M (pc, lv, .int x :: st, r) Q := to_of (fun _ w => go_if_ge h1 (fun _ => w) (fun n => absurd q n)) k
theorem to_ic_ge_F {x y : Int32} (h1 : ai_as M.co pc = some (.if_icmp .ge off, [t])) (q : ¬ y ≤ x) (k : ag_To X d M (pc + 3, lv, st, r) Q) : ag_To X d M (pc, lv, .int y :: .int x :: st, r) Q := to_of (fun _ w => go_ic_ge h1 (fun n => absurd n q) (fun _ => w)) k
theorem to_if_ge_F {x : Int32} (h1 : ai_as M.co pc = some (.ifCond .ge off, [t])) (q : ¬ 0 ≤ x) (k : ag_To X d M (pc + 3, lv, st, r) Q) : ag_To X d M (pc, lv, .int x :: st, r) Q := to_of (fun _ w => go_if_ge h1 (fun n => absurd n q) (fun _ => w)) k
theorem to_ic_gt {x y : Int32} (h1 : ai_as M.co pc = some (.if_icmp .gt off, [t])) (kt : y < x → ag_To X d M (t, lv, st, r) Q) (kf : ¬ y < x → ag_To X d M (pc + 3, lv, st, r) Q) : ag_To X d M (pc, lv, .int y :: .int x :: st, r) Q := by
  by_cases q : y < x
  · exact to_of (fun _ w => go_ic_gt h1 (fun _ => w) (fun n => absurd q n)) (kt q)
  · exact to_of (fun _ w => go_ic_gt h1 (fun n => absurd n q) (fun _ => w)) (kf q)
theorem to_if_gt {x : Int32} (h1 : ai_as M.co pc = some (.ifCond .gt off, [t])) (kt : 0 < x → ag_To X d M (t, lv, st, r) Q) (kf : ¬ 0 < x → ag_To X d M (pc + 3, lv, st, r) Q) : ag_To X d M (pc, lv, .int x :: st, r) Q := by
  by_cases q : 0 < x
  · exact to_of (fun _ w => go_if_gt h1 (fun _ => w) (fun n => absurd q n)) (kt q)
  · exact to_of (fun _ w => go_if_gt h1 (fun n => absurd n q) (fun _ => w)) (kf q)
theorem to_ic_gt_T {x y : Int32} (h1 : ai_as M.co pc = some (.if_icmp .gt off, [t])) (q : y < x) (k : ag_To X d M (t, lv, st, r) Q) : ag_To X d M (pc, lv, .int y :: .int x :: st, r) Q := to_of (fun _ w => go_ic_gt h1 (fun _ => w) (fun n => absurd q n)) k
theorem to_if_gt_T {x : Int32} (h1 : ai_as M.co pc = some (.ifCond .gt off, [t])) (q : 0 < x) (k : ag_To X d M (t, lv, st, r) Q) : ag_To X d M (pc, lv, .int x :: st, r) Q := to_of (fun _ w => go_if_gt h1 (fun _ => w) (fun n => absurd q n)) k
theorem to_ic_gt_F {x y : Int32} (h1 : ai_as M.co pc = some (.if_icmp .gt off, [t])) (q : ¬ y < x) (k : ag_To X d M (pc + 3, lv, st, r) Q) : ag_To X d M (pc, lv, .int y :: .int x :: st, r) Q := to_of (fun _ w => go_ic_gt h1 (fun n => absurd n q) (fun _ => w)) k
theorem to_if_gt_F {x : Int32} (h1 : ai_as M.co pc = some (.ifCond .gt off, [t])) (q : ¬ 0 < x) (k : ag_To X d M (pc + 3, lv, st, r) Q) : ag_To X d M (pc, lv, .int x :: st, r) Q := to_of (fun _ w => go_if_gt h1 (fun n => absurd n q) (fun _ => w)) k
theorem to_ic_le {x y : Int32} (h1 : ai_as M.co pc = some (.if_icmp .le off, [t])) (kt : x ≤ y → ag_To X d M (t, lv, st, r) Q) (kf : ¬ x ≤ y → ag_To X d M (pc + 3, lv, st, r) Q) : ag_To X d M (pc, lv, .int y :: .int x :: st, r) Q := by
  by_cases q : x ≤ y
  · exact to_of (fun _ w => go_ic_le h1 (fun _ => w) (fun n => absurd q n)) (kt q)
  · exact to_of (fun _ w => go_ic_le h1 (fun n => absurd n q) (fun _ => w)) (kf q)
theorem to_if_le {x : Int32} (h1 : ai_as M.co pc = some (.ifCond .le off, [t])) (kt : x ≤ 0 → ag_To X d M (t, lv, st, r) Q) (kf : ¬ x ≤ 0 → ag_To X d M (pc + 3, lv, st, r) Q) : ag_To X d M (pc, lv, .int x :: st, r) Q := by
  by_cases q : x ≤ 0
  · exact to_of (fun _ w => go_if_le h1 (fun _ => w) (fun n => absurd q n)) (kt q)
  · exact to_of (fun _ w => go_if_le h1 (fun n => absurd n q) (fun _ => w)) (kf q)
theorem to_ic_le_T {x y : Int32} (h1 : ai_as M.co pc = some (.if_icmp .le off, [t])) (q : x ≤ y) (k : ag_To X d M (t, lv, st, r) Q) : ag_To X d M (pc, lv, .int y :: .int x :: st, r) Q := to_of (fun _ w => go_ic_le h1 (fun _ => w) (fun n => absurd q n)) k
theorem to_if_le_T {x : Int32} (h1 : ai_as M.co pc = some (.ifCond .le off, [t])) (q : x ≤ 0) (k : ag_To X d M (t, lv, st, r) Q) : ag_To X d M (pc, lv, .int x :: st, r) Q := to_of (fun _ w => go_if_le h1 (fun _ => w) (fun n => absurd q n)) k
theorem to_ic_le_F {x y : Int32} (h1 : ai_as M.co pc = some (.if_icmp .le off, [t])) (q : ¬ x ≤ y) (k : ag_To X d M (pc + 3, lv, st, r) Q) : ag_To X d M (pc, lv, .int y :: .int x :: st, r) Q := to_of (fun _ w => go_ic_le h1 (fun n => absurd n q) (fun _ => w)) k
theorem to_if_le_F {x : Int32} (h1 : ai_as M.co pc = some (.ifCond .le off, [t])) (q : ¬ x ≤ 0) (k : ag_To X d M (pc + 3, lv, st, r) Q) : ag_To X d M (pc, lv, .int x :: st, r) Q := to_of (fun _ w => go_if_le h1 (fun n => absurd n q) (fun _ => w)) k
theorem to_nc_eq {x y : Nat} (h1 : ai_as M.co pc = some (.if_icmp .eq off, [t])) (hx : x < 2 ^ 31) (hy : y < 2 ^ 31) (kt : x = y → ag_To X d M (t, lv, st, r) Q) (kf : ¬ x = y → ag_To X d M (pc + 3, lv, st, r) Q) : ag_To X d M (pc, lv, .int (nI y) :: .int (nI x) :: st, r) Q := to_ic_eq h1 (fun w => kt ((nI_eq hx hy).mp w)) (fun w => kf (fun v => w ((nI_eq hx hy).mpr v)))
theorem to_nc_eq_T {x y : Nat} (h1 : ai_as M.co pc = some (.if_icmp .eq off, [t])) (hx : x < 2 ^ 31) (hy : y < 2 ^ 31) (q : x = y) (k : ag_To X d M (t, lv, st, r) Q) : ag_To X d M (pc, lv, .int (nI y) :: .int (nI x) :: st, r) Q := to_ic_eq_T h1 ((nI_eq hx hy).mpr q) k
theorem to_nc_eq_F {x y : Nat} (h1 : ai_as M.co pc = some (.if_icmp .eq off, [t])) (hx : x < 2 ^ 31) (hy : y < 2 ^ 31) (q : ¬ x = y) (k : ag_To X d M (pc + 3, lv, st, r) Q) : ag_To X d M (pc, lv, .int (nI y) :: .int (nI x) :: st, r) Q := to_ic_eq_F h1 (fun w => q ((nI_eq hx hy).mp w)) k
theorem to_nc_ne {x y : Nat} (h1 : ai_as M.co pc = some (.if_icmp .ne off, [t])) (hx : x < 2 ^ 31) (hy : y < 2 ^ 31) (kt : ¬ x = y → ag_To X d M (t, lv, st, r) Q) (kf : x = y → ag_To X d M (pc + 3, lv, st, r) Q) : ag_To X d M (pc, lv, .int (nI y) :: .int (nI x) :: st, r) Q := to_ic_ne h1 (fun w => kt ((not_congr (nI_eq hx hy)).mp w)) (fun w => kf ((nI_eq hx hy).mp w))
theorem to_nc_ne_T {x y : Nat} (h1 : ai_as M.co pc = some (.if_icmp .ne off, [t])) (hx : x < 2 ^ 31) (hy : y < 2 ^ 31) (q : ¬ x = y) (k : ag_To X d M (t, lv, st, r) Q) : ag_To X d M (pc, lv, .int (nI y) :: .int (nI x) :: st, r) Q := to_ic_ne_T h1 ((not_congr (nI_eq hx hy)).mpr q) k
theorem to_nc_ne_F {x y : Nat} (h1 : ai_as M.co pc = some (.if_icmp .ne off, [t])) (hx : x < 2 ^ 31) (hy : y < 2 ^ 31) (q : x = y) (k : ag_To X d M (pc + 3, lv, st, r) Q) : ag_To X d M (pc, lv, .int (nI y) :: .int (nI x) :: st, r) Q := to_ic_ne_F h1 ((nI_eq hx hy).mpr q) k
theorem to_nc_lt {x y : Nat} (h1 : ai_as M.co pc = some (.if_icmp .lt off, [t])) (hx : x < 2 ^ 31) (hy : y < 2 ^ 31) (kt : x < y → ag_To X d M (t, lv, st, r) Q) (kf : ¬ x < y → ag_To X d M (pc + 3, lv, st, r) Q) : ag_To X d M (pc, lv, .int (nI y) :: .int (nI x) :: st, r) Q := to_ic_lt h1 (fun w => kt ((nI_ltI hx hy).mp w)) (fun w => kf (fun v => w ((nI_ltI hx hy).mpr v)))
theorem to_nc_lt_T {x y : Nat} (h1 : ai_as M.co pc = some (.if_icmp .lt off, [t])) (hx : x < 2 ^ 31) (hy : y < 2 ^ 31) (q : x < y) (k : ag_To X d M (t, lv, st, r) Q) : ag_To X d M (pc, lv, .int (nI y) :: .int (nI x) :: st, r) Q := to_ic_lt_T h1 ((nI_ltI hx hy).mpr q) k
theorem to_nc_lt_F {x y : Nat} (h1 : ai_as M.co pc = some (.if_icmp .lt off, [t])) (hx : x < 2 ^ 31) (hy : y < 2 ^ 31) (q : ¬ x < y) (k : ag_To X d M (pc + 3, lv, st, r) Q) : ag_To X d M (pc, lv, .int (nI y) :: .int (nI x) :: st, r) Q := to_ic_lt_F h1 (fun w => q ((nI_ltI hx hy).mp w)) k
theorem to_nc_ge {x y : Nat} (h1 : ai_as M.co pc = some (.if_icmp .ge off, [t])) (hx : x < 2 ^ 31) (hy : y < 2 ^ 31) (kt : y ≤ x → ag_To X d M (t, lv, st, r) Q) (kf : ¬ y ≤ x → ag_To X d M (pc + 3, lv, st, r) Q) : ag_To X d M (pc, lv, .int (nI y) :: .int (nI x) :: st, r) Q := to_ic_ge h1 (fun w => kt ((nI_leI hy hx).mp w)) (fun w => kf (fun v => w ((nI_leI hy hx).mpr v)))
theorem to_nc_ge_T {x y : Nat} (h1 : ai_as M.co pc = some (.if_icmp .ge off, [t])) (hx : x < 2 ^ 31) (hy : y < 2 ^ 31) (q : y ≤ x) (k : ag_To X d M (t, lv, st, r) Q) : ag_To X d M (pc, lv, .int (nI y) :: .int (nI x) :: st, r) Q := to_ic_ge_T h1 ((nI_leI hy hx).mpr q) k
theorem to_nc_ge_F {x y : Nat} (h1 : ai_as M.co pc = some (.if_icmp .ge off, [t])) (hx : x < 2 ^ 31) (hy : y < 2 ^ 31) (q : ¬ y ≤ x) (k : ag_To X d M (pc + 3, lv, st, r) Q) : ag_To X d M (pc, lv, .int (nI y) :: .int (nI x) :: st, r) Q := to_ic_ge_F h1 (fun w => q ((nI_leI hy hx).mp w)) k
theorem to_nc_gt {x y : Nat} (h1 : ai_as M.co pc = some (.if_icmp .gt off, [t])) (hx : x < 2 ^ 31) (hy : y < 2 ^ 31) (kt : y < x → ag_To X d M (t, lv, st, r) Q) (kf : ¬ y < x → ag_To X d M (pc + 3, lv, st, r) Q) : ag_To X d M (pc, lv, .int (nI y) :: .int (nI x) :: st, r) Q := to_ic_gt h1 (fun w => kt ((nI_ltI hy hx).mp w)) (fun w => kf (fun v => w ((nI_ltI hy hx).mpr v)))
theorem to_nc_gt_T {x y : Nat} (h1 : ai_as M.co pc = some (.if_icmp .gt off, [t])) (hx : x < 2 ^ 31) (hy : y < 2 ^ 31) (q : y < x) (k : ag_To X d M (t, lv, st, r) Q) : ag_To X d M (pc, lv, .int (nI y) :: .int (nI x) :: st, r) Q := to_ic_gt_T h1 ((nI_ltI hy hx).mpr q) k
theorem to_nc_gt_F {x y : Nat} (h1 : ai_as M.co pc = some (.if_icmp .gt off, [t])) (hx : x < 2 ^ 31) (hy : y < 2 ^ 31) (q : ¬ y < x) (k : ag_To X d M (pc + 3, lv, st, r) Q) : ag_To X d M (pc, lv, .int (nI y) :: .int (nI x) :: st, r) Q := to_ic_gt_F h1 (fun w => q ((nI_ltI hy hx).mp w)) k
theorem to_nc_le {x y : Nat} (h1 : ai_as M.co pc = some (.if_icmp .le off, [t])) (hx : x < 2 ^ 31) (hy : y < 2 ^ 31) (kt : x ≤ y → ag_To X d M (t, lv, st, r) Q) (kf : ¬ x ≤ y → ag_To X d M (pc + 3, lv, st, r) Q) : ag_To X d M (pc, lv, .int (nI y) :: .int (nI x) :: st, r) Q := to_ic_le h1 (fun w => kt ((nI_leI hx hy).mp w)) (fun w => kf (fun v => w ((nI_leI hx hy).mpr v)))
theorem to_nc_le_T {x y : Nat} (h1 : ai_as M.co pc = some (.if_icmp .le off, [t])) (hx : x < 2 ^ 31) (hy : y < 2 ^ 31) (q : x ≤ y) (k : ag_To X d M (t, lv, st, r) Q) : ag_To X d M (pc, lv, .int (nI y) :: .int (nI x) :: st, r) Q := to_ic_le_T h1 ((nI_leI hx hy).mpr q) k
theorem to_nc_le_F {x y : Nat} (h1 : ai_as M.co pc = some (.if_icmp .le off, [t])) (hx : x < 2 ^ 31) (hy : y < 2 ^ 31) (q : ¬ x ≤ y) (k : ag_To X d M (pc + 3, lv, st, r) Q) : ag_To X d M (pc, lv, .int (nI y) :: .int (nI x) :: st, r) Q := to_ic_le_F h1 (fun w => q ((nI_leI hx hy).mp w)) k
theorem nI_z {x : Nat} (hx : x < 2 ^ 31) : nI x = 0 ↔ x = 0 := nI_eq (b := 0) hx (by omega)
theorem nI_gz {x : Nat} (hx : x < 2 ^ 31) : 0 < nI x ↔ 0 < x := nI_ltI (a := 0) (by omega) hx
theorem nI_lz {x : Nat} (hx : x < 2 ^ 31) : nI x ≤ 0 ↔ x = 0 := (nI_leI (b := 0) hx (by omega)).trans (by omega)
theorem to_nf_eq {x : Nat} (h1 : ai_as M.co pc = some (.ifCond .eq off, [t])) (hx : x < 2 ^ 31) (kt : x = 0 → ag_To X d M (t, lv, st, r) Q) (kf : ¬ x = 0 → ag_To X d M (pc + 3, lv, st, r) Q) : ag_To X d M (pc, lv, .int (nI x) :: st, r) Q := to_if_eq h1 (fun w => kt ((nI_z hx).mp w)) (fun w => kf (fun v => w ((nI_z hx).mpr v)))
theorem to_nf_eq_T {x : Nat} (h1 : ai_as M.co pc = some (.ifCond .eq off, [t])) (hx : x < 2 ^ 31) (q : x = 0) (k : ag_To X d M (t, lv, st, r) Q) : ag_To X d M (pc, lv, .int (nI x) :: st, r) Q := to_if_eq_T h1 ((nI_z hx).mpr q) k
theorem to_nf_eq_F {x : Nat} (h1 : ai_as M.co pc = some (.ifCond .eq off, [t])) (hx : x < 2 ^ 31) (q : ¬ x = 0) (k : ag_To X d M (pc + 3, lv, st, r) Q) : ag_To X d M (pc, lv, .int (nI x) :: st, r) Q := to_if_eq_F h1 (fun w => q ((nI_z hx).mp w)) k
theorem to_nf_ne {x : Nat} (h1 : ai_as M.co pc = some (.ifCond .ne off, [t])) (hx : x < 2 ^ 31) (kt : ¬ x = 0 → ag_To X d M (t, lv, st, r) Q) (kf : x = 0 → ag_To X d M (pc + 3, lv, st, r) Q) : ag_To X d M (pc, lv, .int (nI x) :: st, r) Q := to_if_ne h1 (fun w => kt ((not_congr (nI_z hx)).mp w)) (fun w => kf ((nI_z hx).mp w))
theorem to_nf_ne_T {x : Nat} (h1 : ai_as M.co pc = some (.ifCond .ne off, [t])) (hx : x < 2 ^ 31) (q : ¬ x = 0) (k : ag_To X d M (t, lv, st, r) Q) : ag_To X d M (pc, lv, .int (nI x) :: st, r) Q := to_if_ne_T h1 ((not_congr (nI_z hx)).mpr q) k
theorem to_nf_ne_F {x : Nat} (h1 : ai_as M.co pc = some (.ifCond .ne off, [t])) (hx : x < 2 ^ 31) (q : x = 0) (k : ag_To X d M (pc + 3, lv, st, r) Q) : ag_To X d M (pc, lv, .int (nI x) :: st, r) Q := to_if_ne_F h1 ((nI_z hx).mpr q) k
theorem to_nf_gt {x : Nat} (h1 : ai_as M.co pc = some (.ifCond .gt off, [t])) (hx : x < 2 ^ 31) (kt : 0 < x → ag_To X d M (t, lv, st, r) Q) (kf : ¬ 0 < x → ag_To X d M (pc + 3, lv, st, r) Q) : ag_To X d M (pc, lv, .int (nI x) :: st, r) Q := to_if_gt h1 (fun w => kt ((nI_gz hx).mp w)) (fun w => kf (fun v => w ((nI_gz hx).mpr v)))
theorem to_nf_gt_T {x : Nat} (h1 : ai_as M.co pc = some (.ifCond .gt off, [t])) (hx : x < 2 ^ 31) (q : 0 < x) (k : ag_To X d M (t, lv, st, r) Q) : ag_To X d M (pc, lv, .int (nI x) :: st, r) Q := to_if_gt_T h1 ((nI_gz hx).mpr q) k
theorem to_nf_gt_F {x : Nat} (h1 : ai_as M.co pc = some (.ifCond .gt off, [t])) (hx : x < 2 ^ 31) (q : ¬ 0 < x) (k : ag_To X d M (pc + 3, lv, st, r) Q) : ag_To X d M (pc, lv, .int (nI x) :: st, r) Q := to_if_gt_F h1 (fun w => q ((nI_gz hx).mp w)) k
theorem to_nf_le {x : Nat} (h1 : ai_as M.co pc = some (.ifCond .le off, [t])) (hx : x < 2 ^ 31) (kt : x = 0 → ag_To X d M (t, lv, st, r) Q) (kf : ¬ x = 0 → ag_To X d M (pc + 3, lv, st, r) Q) : ag_To X d M (pc, lv, .int (nI x) :: st, r) Q := to_if_le h1 (fun w => kt ((nI_lz hx).mp w)) (fun w => kf (fun v => w ((nI_lz hx).mpr v)))
theorem to_nf_le_T {x : Nat} (h1 : ai_as M.co pc = some (.ifCond .le off, [t])) (hx : x < 2 ^ 31) (q : x = 0) (k : ag_To X d M (t, lv, st, r) Q) : ag_To X d M (pc, lv, .int (nI x) :: st, r) Q := to_if_le_T h1 ((nI_lz hx).mpr q) k
theorem to_nf_le_F {x : Nat} (h1 : ai_as M.co pc = some (.ifCond .le off, [t])) (hx : x < 2 ^ 31) (q : ¬ x = 0) (k : ag_To X d M (pc + 3, lv, st, r) Q) : ag_To X d M (pc, lv, .int (nI x) :: st, r) Q := to_if_le_F h1 (fun w => q ((nI_lz hx).mp w)) k
theorem to_nf_lt {x : Nat} (h1 : ai_as M.co pc = some (.ifCond .lt off, [t])) (hx : x < 2 ^ 31) (k : ag_To X d M (pc + 3, lv, st, r) Q) : ag_To X d M (pc, lv, .int (nI x) :: st, r) Q := to_if_lt_F h1 (nI_pos hx) k
theorem to_nf_ge {x : Nat} (h1 : ai_as M.co pc = some (.ifCond .ge off, [t])) (hx : x < 2 ^ 31) (k : ag_To X d M (t, lv, st, r) Q) : ag_To X d M (pc, lv, .int (nI x) :: st, r) Q := to_if_ge_T h1 (nI_pos' hx) k
theorem nI_nm {x : Nat} (hx : x < 2 ^ 31) : ¬ nI x = -1 := fun e => by
  have h := nI_pos hx
  rw [e] at h
  exact h (by decide)
/-- arithmetic -/
theorem to_addN {x y : Nat} {tg : List Nat} (h1 : ai_as M.co pc = some (.iadd, tg)) (k : ag_To X d M (pc + 1, lv, .int (nI (x + y)) :: st, r) Q) : ag_To X d M (pc, lv, .int (nI y) :: .int (nI x) :: st, r) Q := to_of (fun _ w => go_st h1 (by simp only [ai_st, ai_bin, nI_add]) w) k
theorem to_mulN {x y : Nat} {tg : List Nat} (h1 : ai_as M.co pc = some (.imul, tg)) (k : ag_To X d M (pc + 1, lv, .int (nI (x * y)) :: st, r) Q) : ag_To X d M (pc, lv, .int (nI y) :: .int (nI x) :: st, r) Q := to_of (fun _ w => go_st h1 (by simp only [ai_st, ai_bin, pk_mul]) w) k
theorem nI_subN {x y : Nat} (h : y ≤ x) : nI x - nI y = nI (x - y) := by
  obtain ⟨c, rfl⟩ : ∃ c, x = c + y := ⟨x - y, by omega⟩
  rw [← nI_add, Nat.add_sub_cancel, Int32.add_sub_cancel]
theorem to_subN {x y : Nat} {tg : List Nat} (h1 : ai_as M.co pc = some (.isub, tg)) (hxy : y ≤ x) (k : ag_To X d M (pc + 1, lv, .int (nI (x - y)) :: st, r) Q) : ag_To X d M (pc, lv, .int (nI y) :: .int (nI x) :: st, r) Q := to_of (fun _ w => go_st h1 (by simp only [ai_st, ai_bin, nI_subN hxy]) w) k
/-- rows and fields, with what is known of what is read -/
theorem to_ialR {a n i : Nat} {f : Nat → Int32} {v : Int32} {tg : List Nat} (h1 : ai_as M.co pc = some (.iaload, tg)) (ha : a ≠ 1000000) (hh : h[a]? = some (.inl (0, n, .inl f))) (hi : i < n) (hn : n < 2 ^ 31) (em : f i = v) (k : ag_To X d M (pc + 1, lv, .int v :: st, h, z) Q) : ag_To X d M (pc, lv, .int (nI i) :: .ref a :: st, h, z) Q := to_of (fun _ w => go_ial h1 ha hh (ai_in_nI hi hn) (by rw [nI_clamp (by omega), em]; exact w)) k
theorem to_zalR {a n i : Nat} {f : Nat → Int32} {v : Int32} {tg : List Nat} (h1 : ai_as M.co pc = some (.baload, tg)) (hh : h[a]? = some (.inl (1, n, .inl f))) (hi : i < n) (hn : n < 2 ^ 31) (em : f i = v) (k : ag_To X d M (pc + 1, lv, .int v :: st, h, z) Q) : ag_To X d M (pc, lv, .int (nI i) :: .ref a :: st, h, z) Q := to_of (fun _ w => go_zal h1 hh (ai_in_nI hi hn) (by rw [nI_clamp (by omega), em]; exact w)) k
theorem to_balR {a n i : Nat} {f : Nat → Int32} {v : Int32} {tg : List Nat} (h1 : ai_as M.co pc = some (.baload, tg)) (hh : h[a]? = some (.inl (2, n, .inl f))) (hi : i < n) (hn : n < 2 ^ 31) (em : f i = v) (k : ag_To X d M (pc + 1, lv, .int v :: st, h, z) Q) : ag_To X d M (pc, lv, .int (nI i) :: .ref a :: st, h, z) Q := to_of (fun _ w => go_st h1 (by simp only [ai_st, ai_bal, hh, if_pos (ai_in_nI hi hn), nI_clamp (show i < 2 ^ 31 by omega), em]) w) k
theorem to_iasR {a n i : Nat} {f : Nat → Int32} {x : Int32} {tg : List Nat} (h1 : ai_as M.co pc = some (.iastore, tg)) (hh : h[a]? = some (.inl (0, n, .inl f))) (hi : i < n) (hn : n < 2 ^ 31) (e : h.set a (.inl (0, n, .inl (upd f i x))) = h') (k : ag_To X d M (pc + 1, lv, st, h', z) Q) : ag_To X d M (pc, lv, .int x :: .int (nI i) :: .ref a :: st, h, z) Q := to_of (fun _ w => go_ias h1 hh (ai_in_nI hi hn) (by rw [nI_clamp (by omega), e]; exact w)) k
theorem to_zasR {a n i : Nat} {f : Nat → Int32} {x : Int32} {tg : List Nat} (h1 : ai_as M.co pc = some (.bastore, tg)) (hh : h[a]? = some (.inl (1, n, .inl f))) (hi : i < n) (hn : n < 2 ^ 31) (e : h.set a (.inl (1, n, .inl (upd f i (vp_nar .boolean x)))) = h') (k : ag_To X d M (pc + 1, lv, st, h', z) Q) : ag_To X d M (pc, lv, .int x :: .int (nI i) :: .ref a :: st, h, z) Q := to_of (fun _ w => go_zas h1 hh (ai_in_nI hi hn) (by rw [nI_clamp (by omega), e]; exact w)) k
theorem to_basR {a n i : Nat} {f : Nat → Int32} {x : Int32} {tg : List Nat} (h1 : ai_as M.co pc = some (.bastore, tg)) (hh : h[a]? = some (.inl (2, n, .inl f))) (hi : i < n) (hn : n < 2 ^ 31) (e : h.set a (.inl (2, n, .inl (upd f i (vp_nar .byte x)))) = h') (k : ag_To X d M (pc + 1, lv, st, h', z) Q) : ag_To X d M (pc, lv, .int x :: .int (nI i) :: .ref a :: st, h, z) Q := to_of (fun _ w => go_bas h1 hh (ai_in_nI hi hn) (by rw [nI_clamp (by omega), e]; exact w)) k
theorem to_getR {a ix ci k kd : Nat} {fs : List Value} {v0 v : Int32} {tg : List Nat} (h1 : ai_as M.co pc = some (.getfield ix, tg)) (hl : ai_as (an_lk M.cn).1 ix = some (ci, k, kd)) (hh : h[a]? = some (.inr (ci, fs))) (hv : fs[k]? = some (.int v0)) (em : v0 = v) (g : ag_To X d M (pc + 3, lv, .int v :: st, h, z) Q) : ag_To X d M (pc, lv, .ref a :: st, h, z) Q := to_of (fun _ w => go_get h1 hl hh (em ▸ hv) w) g
theorem to_get {a ix ci k kd : Nat} {fs : List Value} {v : Value} {tg : List Nat} (h1 : ai_as M.co pc = some (.getfield ix, tg)) (hl : ai_as (an_lk M.cn).1 ix = some (ci, k, kd)) (hh : h[a]? = some (.inr (ci, fs))) (hv : fs[k]? = some v) (g : ag_To X d M (pc + 3, lv, v :: st, h, z) Q) : ag_To X d M (pc, lv, .ref a :: st, h, z) Q := to_of (fun _ w => go_get h1 hl hh hv w) g
theorem to_putR {a ix ci k kd : Nat} {fs : List Value} {v : Value} {tg : List Nat} (h1 : ai_as M.co pc = some (.putfield ix, tg)) (hl : ai_as (an_lk M.cn).1 ix = some (ci, k, kd)) (hh : h[a]? = some (.inr (ci, fs))) (hk : k < fs.length) (hv : ai_vk kd v = true) (e : h.set a (.inr (ci, fs.set k v)) = h') (g : ag_To X d M (pc + 3, lv, st, h', z) Q) : ag_To X d M (pc, lv, v :: .ref a :: st, h, z) Q := to_of (fun _ w => go_put h1 hl hh hk hv (by rw [e]; exact w)) g
theorem to_len {a k : Nat} {x : vp_A} {tg : List Nat} (h1 : ai_as M.co pc = some (.arraylength, tg)) (ha : a ≠ 1000000) (hh : h[a]? = some (.inl (k, x))) (hk : k < 5) (g : ag_To X d M (pc + 1, lv, .int (nI x.1) :: st, h, z) Q) : ag_To X d M (pc, lv, .ref a :: st, h, z) Q := to_of (fun _ w => go_len h1 ha hh hk w) g
end ATO
