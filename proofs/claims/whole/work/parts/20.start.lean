/-! WHAT HOLDS AS THE LAW BEGINS -/
def an_strs : List (Nat × Nat × String) := [(9, 243, "no such cell"), (9, 107, "no such wind"), (9, 123, "no such text or day"), (7, 68, "call"), (7, 74, "pay"), (7, 76, "and"), (7, 78, "or"), (7, 80, "not"), (7, 82, "ward"), (7, 84, "wood"), (7, 86, "fuel"), (7, 88, "own"), (7, 90, "men"), (7, 92, "far"), (7, 94, "hour"), (7, 96, "fires"), (9, 246, "no such company"), (9, 160, "not so many hours"), (9, 185, "no such thing of a cell"), (9, 212, "no such thing of a company"), (9, 223, "no such house of a break"), (9, 238, "no such count"), (10, 9, "ward"), (10, 11, "wood"), (10, 13, "fuel"), (10, 15, "own"), (10, 17, "men"), (10, 19, "far"), (10, 21, "hour"), (10, 23, "fires"), (10, 215, "pay"), (10, 221, "call"), (10, 243, "not"), (10, 236, "and"), (10, 238, "or")]
def ap_at (p : Nat) (w : Cond) : Bool := decide (lw_tbl[p]? = some w)
theorem ap_at_in {p : Nat} {w : Cond} (h : ap_at p w = true) : w ∈ lw_tbl := List.mem_of_getElem? (of_decide_eq_true h)
def ap_gv : List Cond := flatC (Jvm.Cond.and given_1 narrow_1)
def ap_gt (p : Nat) (w : Cond) : Bool := decide (ap_gv[p]? = some w)
theorem ap_gt_in {p : Nat} {w : Cond} (h : ap_gt p w = true) : w ∈ ap_gv := List.mem_of_getElem? (of_decide_eq_true h)
def ap_st (x : Nat × Nat × String) (p : Nat × Nat) : Bool := ap_at p.1 (.stringRef (an_on x.1) x.2.1 x.2.2) && ap_gt p.2 (.exactly (.string (an_on x.1) x.2.1) "java/lang/String")
def ap_zs : List (Nat × Nat × String) → List (Nat × Nat) → Bool
  | [], _ => true
  | x :: r, p :: q => ap_st x p && ap_zs r q
  | _ :: _, [] => false
theorem ap_zs_ok : ∀ {l : List (Nat × Nat × String)} {ps : List (Nat × Nat)}, ap_zs l ps = true → ∀ x ∈ l, Cond.stringRef (an_on x.1) x.2.1 x.2.2 ∈ lw_tbl ∧ Cond.exactly (.string (an_on x.1) x.2.1) "java/lang/String" ∈ ap_gv
  | [], _, _, x, hx => nomatch hx
  | y :: r, p :: q, h, x, hx => by
    simp only [ap_zs, ap_st, Bool.and_eq_true] at h
    rcases List.mem_cons.mp hx with rfl | hx
    · exact ⟨ap_at_in h.1.1, ap_gt_in h.1.2⟩
    · exact ap_zs_ok h.2 x hx
  | _ :: _, [], h, _, _ => by cases h
set_option maxRecDepth 100000 in
theorem an_strs_ok : ap_zs an_strs [(529, 35), (586, 51), (611, 67), (639, 90), (692, 98), (693, 105), (694, 112), (695, 118), (700, 125), (701, 133), (702, 141), (703, 149), (704, 156), (705, 163), (706, 170), (707, 178), (872, 187), (887, 206), (977, 227), (985, 254), (1043, 284), (1055, 312), (1064, 329), (1065, 338), (1066, 347), (1067, 356), (1068, 364), (1069, 372), (1070, 380), (1071, 389), (1295, 399), (1302, 407), (1319, 416), (1332, 424), (1333, 432)] = true := by decide +kernel
/-- the strings that the links name are those of the list -/
def ap_sl : Bool := (List.range 14).all (fun cn => (an_lk cn).2.2.1.all (fun x => match an_strs[x.2]? with
  | some (c, ix, _) => decide (c = cn) && decide (ix = x.1)
  | none => false))
theorem an_sl_ok : ap_sl = true := by decide +kernel
theorem an_lk_big : ∀ n, an_lk (n + 14) = an_lk 13 := fun _ => rfl
theorem an_on_big : ∀ n, an_on (n + 14) = an_on 13 := fun _ => rfl
set_option maxRecDepth 100000 in
theorem an_w1 : Cond.laysStatic Bundle.tN "UNASSIGNED_STACK" Bundle.steD ∈ lw_tbl := ap_at_in (p := 516) (by decide +kernel)
set_option maxRecDepth 100000 in
theorem an_w2 : Cond.laysStatic Bundle.tN "SUPPRESSED_SENTINEL" Bundle.listD ∈ lw_tbl := ap_at_in (p := 518) (by decide +kernel)
set_option maxRecDepth 100000 in
theorem an_w3 : Cond.initialized Bundle.tN ∈ lw_tbl := ap_at_in (p := 106) (by decide +kernel)
set_option maxRecDepth 100000 in
theorem an_w4 : Cond.isRef (.static Bundle.tN "UNASSIGNED_STACK" Bundle.steD) ∈ ap_gv := ap_gt_in (p := 4) (by decide +kernel)
set_option maxRecDepth 100000 in
theorem an_w5 : Cond.isRef (.static Bundle.tN "SUPPRESSED_SENTINEL" Bundle.listD) ∈ ap_gv := ap_gt_in (p := 5) (by decide +kernel)
set_option maxRecDepth 100000 in
theorem an_w6 : Cond.arrayOver (.object "java/lang/String") ∈ lw_tbl := ap_at_in (p := 1063) (by decide +kernel)
set_option maxRecDepth 100000 in
theorem an_w7 : ∀ w ∈ ai_NW, w ∈ lw_tbl := by
  intro w hw
  simp only [ai_NW, List.mem_cons, List.not_mem_nil, or_false] at hw
  rcases hw with rfl | rfl | rfl | rfl | rfl | rfl | rfl | rfl | rfl
  · exact ap_at_in (p := 493) (by decide +kernel)
  · exact ap_at_in (p := 495) (by decide +kernel)
  · exact ap_at_in (p := 497) (by decide +kernel)
  · exact ap_at_in (p := 491) (by decide +kernel)
  · exact ap_at_in (p := 579) (by decide +kernel)
  · exact ap_at_in (p := 194) (by decide +kernel)
  · exact ap_at_in (p := 237) (by decide +kernel)
  · exact ap_at_in (p := 309) (by decide +kernel)
  · exact ap_at_in (p := 332) (by decide +kernel)
