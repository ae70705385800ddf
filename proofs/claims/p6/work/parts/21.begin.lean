/-! the world of the handles as the law begins, and the law's walk out of a run of the interpreter -/
def R_law : String := "FireWardsLaw"
def lw_P (b : Addr) (xs : List Int32) (args : Array Value) (s : State) : Prop := args = #[.ref b] ∧ s.IntsAt b xs ∧ xs.length ≤ 3074 ∧ (Jvm.Cond.and given_1 narrow_1).before args s = true
def lw_Q (_ : Array Value) (s : State) (o : Outcome) (t : State) : Prop := o = .returned (some (.int 1)) ∧ Framed s o t [] room_1.cells room_1.slots
def lw_Z (below : List Frame) (a : Array Value) (s : State) : State → Prop := fun t => ∃ o, t.status = .running ∧ Ended t below o ∧ lw_Q a s o t
def lw_At (p : Program) (s : State) (m : MethodId) (meth : Method) (c : Code) (b L : Nat) (xs : Nat → Int32) : Prop :=
  p.tables.exec = Jvm.exec ∧ c.code = code ∧ meth.sig.returnType = ret ∧ c.maxLocals = 7 ∧ s.vm.findClass R_law = some m.cls ∧ (∀ w ∈ lw_tbl, w.before #[Value.ref b] s = true) ∧ va_X b L xs s s.heap ∧ b < s.heap.size ∧ meth.locks = false ∧ (Jvm.Cond.and given_1 narrow_1).before #[Value.ref b] s = true
theorem ap_arr {s : State} {args : Array Value} {ty : FieldType} (hp : ∀ C, ty ≠ .object C) (h : (Cond.arrayClass ty).before args s = true) : ∃ cA : ClassId, ArrOfT s cA ty ∧ va_RA s cA ty := by
  obtain ⟨cA, kA, comp, h1, h2, h3⟩ := Cond.arrayClass_spec h
  refine ⟨cA, fun n z => ⟨fun k h => (by cases h), kA, h2, comp, h3⟩, ?_⟩
  cases ty with
  | object C => exact absurd rfl (hp C)
  | _ => exact h1
set_option maxHeartbeats 1000000 in
theorem an_begin {p : Program} {s : State} {m : MethodId} {meth : Method} {c : Code} {b L : Nat} {xs : Nat → Int32} (C0 : lw_At p s m meth c b L xs) (htab : c.exceptionTable.toList = []) : ∃ (D : va_G) (ad : Nat → Nat) (dA : Nat → ClassId), ad 1000000 = b ∧ (∀ k, k < 1000000 → ad k = s.heap.size + k) ∧ ai_Cx an_lk an_on (L, xs) 35 D ad dA s.heap.size s.heap room_1 an_law p s m #[Value.ref b] meth c := by
  obtain ⟨hx, hb, hr, hml, hown, hts, hX, hbl, hlocks, hgv⟩ := C0
  have hg : ∀ w ∈ ap_gv, w.before #[Value.ref b] s = true := flat_of_before _ hgv
  have htb : ∀ w ∈ ai_TB, w.before #[Value.ref b] s = true := fun w hw => hts w (List.mem_filter.mp hw).1
  have hA : ∀ a : Nat, a < s.heap.size → ¬ (fun q : Nat => s.heap.size ≤ q) a := fun a ha => Nat.not_le.mpr ha
  have hcl : ∀ k : Nat, ∃ x : ClassId × (Nat → Nat), ∀ q, vwCl[k]? = some q → u_Kn s q.1 q.2.1 q.2.2 x.1 x.2 := by
    intro k
    cases hq : vwCl[k]? with
    | none => exact ⟨(0, fun _ => 0), fun q h => by cases h⟩
    | some q =>
      obtain ⟨c1, c2, c3, c4, c5, c6, c7⟩ := ai_cls hq
      obtain ⟨cC, iS, h⟩ := u_known htb c1 (htb _ c6)
      exact ⟨(cC, iS), fun q' h' => by cases h'; exact h⟩
  obtain ⟨fc, hfc⟩ := Classical.axiomOfChoice hcl
  have har := ak_arrs an_ars
  obtain ⟨a0, ha0⟩ := ap_arr (ty := .int) (fun C h => by cases h) (htb _ (har .int (by simp)))
  obtain ⟨a1, ha1⟩ := ap_arr (ty := .boolean) (fun C h => by cases h) (htb _ (har .boolean (by simp)))
  obtain ⟨a2, ha2⟩ := ap_arr (ty := .byte) (fun C h => by cases h) (htb _ (har .byte (by simp)))
  obtain ⟨a3, ha3⟩ := ap_arr (ty := .long) (fun C h => by cases h) (htb _ (har .long (by simp)))
  obtain ⟨a4, ha4⟩ : ∃ cA : ClassId, ArrOfT s cA (.object "java/lang/String") ∧ va_RA s cA (.object "java/lang/String") := by
    obtain ⟨comp, cA, kA, h1, h2, h3, h4, h5⟩ := Cond.arrayOver_spec (hts _ an_w6)
    exact ⟨cA, fun n z => ⟨fun k h => (by cases h), kA, h3, comp, h4⟩, kA, comp, h3, h4, h1, h5⟩
  have hst : ∀ i : Nat, ∃ a : Nat, ∀ x, an_strs[i]? = some x → vk_R (an_on x.1) x.2.1 x.2.2 a s ∧ ∃ t, vs_At s.heap.size a t (ai_tx i).length (fun j => (ai_tx i).getD j 0) s s.heap := by
    intro i
    cases hq : an_strs[i]? with
    | none => exact ⟨0, fun x h => by cases h⟩
    | some x =>
      obtain ⟨w1, w2⟩ := ap_zs_ok an_strs_ok x (List.mem_of_getElem? hq)
      obtain ⟨v1, v2, v3, v4⟩ := ap_ts_ok hq
      obtain ⟨a, cc9, cell, k, e1, e2, e3, e4, e5, e6, -⟩ := Cond.exactly_spec (hg _ w2)
      obtain ⟨t, ht, hT⟩ := va_Tof (f := fun j => .int ((ai_tx i).getD j 0)) (A := fun q : Nat => s.heap.size ≤ q) (Nat.lt_trans (vs_txl i (ap_i hq)) (by decide)) (hg _ v2) (va_eqt (hg _ v3)) (fun j hj => va_eqt (hg _ (v4 j hj))) hA
      exact ⟨a, fun x' h' => by cases h'; exact ⟨vk_R.of (hts _ w1) e1, t, ⟨cell, e3, e5, by rw [e6]; exact e2, hA a (Array.getElem?_eq_some_iff.mp e3).1⟩, vk_OFof e1 (va_eqt (hg _ v1)) hA, vk_OFof e1 ht hA, hT, va_Zof (hts _ an_w8) (hts _ an_w9) (va_eqt (hg _ an_w10)) hA, va_Zqof (hts _ an_w11) (hts _ an_w12) (hg _ an_w13) hA⟩⟩
  obtain ⟨sad, hsad⟩ := Classical.axiomOfChoice hst
  refine ⟨(fun k => (fc k).1, fun k => (fc k).2), fun k => if k < 1000000 then s.heap.size + k else if k = 1000000 then b else sad (k - 1000001), fun k => if k = 0 then a0 else if k = 1 then a1 else if k = 2 then a2 else if k = 3 then a3 else a4, rfl, fun k hk => if_pos hk, ?_⟩
  refine ⟨hx, hb, hml, hr, hlocks, hown, fun h => absurd h (by decide), htb, fun k hk => if_pos hk, ⟨Nat.le_refl _, fun _ _ => rfl⟩, hbl, ⟨⟨fun k q hq => hfc k q hq, fun k q hk => ?_⟩, hX, fun cn ix i hi => ?_, fun v q1 q2 => ?_, hts _ an_w6, vx_Zqof (hts _ an_w1) (hts _ an_w3) (hg _ an_w4) hA, vx_Zqof (hts _ an_w2) (hts _ an_w3) (hg _ an_w5) hA, fun w hw => va_Nw.of (ai_NW_on hw) (hts w (an_w7 w hw))⟩, by decide, by decide, by rw [htab]; rfl⟩
  · match k, hk with
    | 0, hk => cases hk; exact ha0
    | 1, hk => cases hk; exact ha1
    | 2, hk => cases hk; exact ha2
    | 3, hk => cases hk; exact ha3
    | 4, hk => cases hk; exact ha4
    | k + 5, hk => simp [ai_tys] at hk
  · have key : ∀ cn, cn < 14 → ∀ ix i, ai_as (an_lk cn).2.2.1 ix = some i → ∃ tx, an_strs[i]? = some (cn, ix, tx) := by
      intro cn hcn ix i hi
      have h1 := List.all_eq_true.mp an_sl_ok cn (List.mem_range.mpr hcn)
      have h2 := List.all_eq_true.mp h1 _ (ai_as_mem hi)
      simp only at h2
      split at h2
      · rename_i c9 ix9 tx9 h3
        simp only [Bool.and_eq_true, decide_eq_true_eq] at h2
        obtain ⟨rfl, rfl⟩ := h2
        exact ⟨tx9, h3⟩
      · cases h2
    have ev : ∀ i : Nat, (if 1000001 + i < 1000000 then s.heap.size + (1000001 + i) else if 1000001 + i = 1000000 then b else sad (1000001 + i - 1000001)) = sad i := by
      intro i
      rw [if_neg (by omega), if_neg (by omega), show 1000001 + i - 1000001 = i by omega]
    rcases Nat.lt_or_ge cn 14 with hc | hc
    · obtain ⟨tx, h⟩ := key cn hc ix i hi
      exact ⟨tx, by dsimp only; rw [ev]; exact (hsad i _ h).1⟩
    · obtain ⟨n9, rfl⟩ : ∃ n9, cn = n9 + 14 := ⟨cn - 14, by omega⟩
      rw [an_lk_big] at hi
      obtain ⟨tx, h⟩ := key 13 (by omega) ix i hi
      exact ⟨tx, by dsimp only; rw [ev, an_on_big]; exact (hsad i _ h).1⟩
  · obtain ⟨i, rfl⟩ : ∃ i, v = 1000001 + i := ⟨v - 1000001, by omega⟩
    have hi : i < an_strs.length := by
      show i < 35
      omega
    dsimp only
    rw [if_neg (by omega), if_neg (by omega), show 1000001 + i - 1000001 = i by omega]
    rw [ai_ta_eq i (by omega)]
    exact (hsad i _ (List.getElem?_eq_getElem hi)).2
/-- THE LAW, from its entry, out of a run of the interpreter -/
theorem an_whole {p : Program} {e : Env} {s : State} {m : MethodId} {below : List Frame} {meth : Method} {c : Code} (l : Launch) (htr : l.stackTraces = false) {b L : Nat} {xs : Nat → Int32} (C0 : lw_At p s m meth c b L xs) (htab : c.exceptionTable.toList = []) {d n nc ns : Nat} {h' : ai_H} {ex' : Bool} (hd : d ≤ 1000) (hnc : nc ≤ room_1.cells) (hns : ns ≤ room_1.slots)
    (hn : ai_Rn an_ms an_lk (L, xs) 35 (ai_Ev an_ms an_lk (L, xs) 35 d) an_law n (0, [(0, .ref 1000000)], [], [], true, 0, 0) (.inl (some (.int 1), h', ex', nc, ns))) : W p l e room_1 s m #[Value.ref b] below meth c s.heap [] 0 0 (lw_Z below #[Value.ref b] s) (entryFrame m ([Value.ref b] : List Value).toArray 7) := by
  obtain ⟨D, ad, dA, hab, had, C⟩ := an_begin C0 htab
  have hbl : b < s.heap.size := C0.2.2.2.2.2.2.2.1
  have hcl := ai_sound (by decide) (l := l) (D := D) (ad := ad) (dA := dA) (z0 := s.heap.size) (Hb := s.heap) (X := (L, xs)) (NS := 35) htr an_oks had (by rw [hab]; exact hbl) d
  have hC : ai_Cx an_lk an_on (L, xs) 35 D ad dA s.heap.size s.heap room_1 an_law p s m (([.ref 1000000] : List Value).map (ai_v ad)).toArray meth c := by
    have : (([.ref 1000000] : List Value).map (ai_v ad)).toArray = #[Value.ref b] := by
      simp [ai_v, hab]
    rw [this]
    exact C
  have hR0 : ai_R D ad dA s.heap.size s.heap [] s.heap := ⟨fun k q hq => by simp [ai_w] at hq, by decide, Nat.le_refl _, fun _ _ => rfl⟩
  have hw := as_body (by decide) (l := l) (e := e) (below := below) (h := []) (ex := true) had hC an_okl htr hcl ⟨by show 10 + d + 1 ≤ 2048; omega, by show 200 + 50 * (d + 1) ≤ 84000; omega⟩ hn (by decide) (by show nc ≤ room_1.cells; exact hnc) (by show ns ≤ room_1.slots; exact hns) hR0 (fun _ => rfl)
  have ha : (([.ref 1000000] : List Value).map (ai_v ad)).toArray = #[Value.ref b] := by
    simp [ai_v, hab]
  rw [ha] at hw
  intro T hT X9
  obtain ⟨t, a1, o, b1, b2, b3⟩ := hw T hT X9
  refine ⟨t, a1, o, b1, b2, ?_⟩
  rcases b3 with ⟨⟨hv, -, -⟩, L9, ⟨f1, f2, f3⟩, f4⟩ | ⟨q9, -, E9, ce9, L9, h9, -⟩
  · refine ⟨hv, ?_⟩
    subst hv
    exact ⟨⟨_, rfl⟩, f2, f3.weaken (fun y hy hlt => absurd (f4 y hy) (Nat.not_le.mpr hlt)) hnc hns⟩
  · exact absurd h9 (fun h => h)
