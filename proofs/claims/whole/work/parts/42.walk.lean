/-! THE MACHINE on that script: every start that meets the premises and bears it comes to 0 -/
def fl_Q (_ : Array Value) (_ : State) (o : Outcome) (_ : State) : Prop := o = .returned (some (.int 0))
def fl_Z (below : List Frame) : State → Prop := fun t => ∃ o, t.status = .running ∧ Ended t below o ∧ o = .returned (some (.int 0))
theorem fl_room : 600000 ≤ room_1.cells ∧ 7000000 ≤ room_1.slots := by
  first | decide | (exact ⟨Nat.le_of_ble_eq_true rfl, Nat.le_of_ble_eq_true rfl⟩) | (simp [room_1]; done)
theorem fl_whole {p : Program} {e : Env} {s : State} {m : MethodId} {below : List Frame} {meth : Method} {c : Code} (l : Launch) (htr : l.stackTraces = false) {b L : Nat} {xs : Nat → Int32} (C0 : lw_At p s m meth c b L xs) (htab : c.exceptionTable.toList = []) {d n nc ns : Nat} {h' : ai_H} {ex' : Bool} (hd : d ≤ 1000) (hnc : nc ≤ room_1.cells) (hns : ns ≤ room_1.slots)
    (hn : ai_Rn an_ms an_lk (L, xs) 35 (ai_Ev an_ms an_lk (L, xs) 35 d) an_law n (0, [(0, .ref 1000000)], [], [], true, 0, 0) (.inl (some (.int 0), h', ex', nc, ns))) : W p l e room_1 s m #[Value.ref b] below meth c s.heap [] 0 0 (fl_Z below) (entryFrame m ([Value.ref b] : List Value).toArray 7) := by
  obtain ⟨D, ad, dA, hab, had, C⟩ := an_begin C0 htab
  have hbl : b < s.heap.size := C0.2.2.2.2.2.2.2.1
  have hcl := ai_sound (by decide) (l := l) (D := D) (ad := ad) (dA := dA) (z0 := s.heap.size) (Hb := s.heap) (X := (L, xs)) (NS := 35) htr an_oks had (by rw [hab]; exact hbl) d
  have hC : ai_Cx an_lk an_on (L, xs) 35 D ad dA s.heap.size s.heap room_1 an_law p s m (([.ref 1000000] : List Value).map (ai_v ad)).toArray meth c := by
    have : (([.ref 1000000] : List Value).map (ai_v ad)).toArray = #[Value.ref b] := by
      simp [ai_v, hab]
    rw [this]
    exact C
  have hR0 : ai_R D ad dA s.heap.size s.heap [] s.heap := ⟨fun k q hq => by simp [ai_w] at hq, by decide, Nat.le_refl _, fun _ _ => rfl⟩
  have hw := as_body (by decide) (l := l) (e := e) (below := below) (h := []) (ex := true) had hC an_okl htr hcl ⟨by show 10 + d + 1 ≤ 2048; omega, by show 200 + 50 * (d + 1) ≤ 84000; omega⟩ hn (by decide) (by show nc ≤ room_1.cells; exact hnc) (by show ns ≤ room_1.slots; exact hns) hR0 (fun _ => rfl)
  have ha : (([.ref 1000000] : List Value).map (ai_v ad)).toArray = #[Value.ref b] := by
    simp [ai_v, hab]
  rw [ha] at hw
  intro T hT X9
  obtain ⟨t, a1, o, b1, b2, b3⟩ := hw T hT X9
  refine ⟨t, a1, o, b1, b2, ?_⟩
  rcases b3 with ⟨⟨hv, -, -⟩, -⟩ | ⟨q9, -, E9, ce9, L9, h9, -⟩
  · exact hv
  · exact absurd h9 (fun h => h)
set_option maxHeartbeats 4000000 in
theorem fl_walk (l : Launch) (htr : l.stackTraces = false) (b : Addr) : MetFree l x (headSpec (Jvm.Cond.code x code maxLocals ret :: tables_1) room_1) (lw_P b fl_xs) (fun _ _ _ _ _ => True) fl_Q := by
  refine MetFree.of_bodyS (code := code) (maxLocals := maxLocals) (ret := ret) (by decide) ?_ ?_
  · intro args s m h hn
    obtain ⟨meth, c, h1, h2, h3, h4, h5, h6, -, -⟩ := Cond.code_spec hn (atoms_spec (ws := Jvm.Cond.code x code maxLocals ret :: tables_1) h _ List.mem_cons_self)
    exact ⟨meth, c, h1, h2, h3, h4, h5, h6⟩
  · intro p e s m args below meth c s₁ B hml0 hP _
    obtain ⟨rfl, hx, hbd, hgv⟩ := hP
    obtain ⟨scr, harrAt, hlist, hof, hsmall⟩ := hx
    obtain ⟨hcb, hkn, -, -⟩ := State.arrayAt?_spec harrAt
    have hown : s.vm.findClass R_law = some m.cls := findClass_of_methodNamed B.named
    have hts0 : ∀ c ∈ (Jvm.Cond.code x code maxLocals ret :: tables_1), c.before #[Value.ref b] s = true := atoms_spec (ws := Jvm.Cond.code x code maxLocals ret :: tables_1) B.pre
    have hts : ∀ w ∈ lw_tbl, w.before #[Value.ref b] s = true := k2_hts_sels lw_privs (fun w hw => hts0 w (List.mem_cons_of_mem _ hw)) lw_privs_ok
    have hml : c.maxLocals = 7 := B.maxLocals_eq (hts0 _ List.mem_cons_self)
    have htab : c.exceptionTable.toList = [] := by
      obtain ⟨meth9, c9, g1, g2, -, -, -, -, g7, -⟩ := Cond.code_spec B.named (hts0 _ List.mem_cons_self)
      cases Option.some.inj (g1.symm.trans B.method)
      cases Option.some.inj (g2.symm.trans (Stand.of_body B).code)
      rw [Array.isEmpty_iff.mp g7]
    have X₀ : Stand p l e room_1 s m #[Value.ref b] below meth c s₁ [] 0 0 := Stand.of_body B
    have hh0 : s₁.heap = s.heap := by rw [B.state]; rfl
    have hsz : scr.slots.size = fl_xs.length := by rw [← Array.length_toList, hlist, List.length_map]
    have hval : ∀ j : Nat, j < fl_xs.length → scr.slots[j]? = some (.int (fl_xs.getD j 0)) := fun j hj => by
      rw [← Array.getElem?_toList, hlist]
      simp [hj]
    have hbl : b < s.heap.size := (Array.getElem?_eq_some_iff.mp hcb).1
    have hX : va_X b fl_xs.length (fun j => fl_xs.getD j 0) s s.heap := ⟨scr, hcb, hof, hkn, hsz, hval⟩
    have K : W p l e room_1 s m #[Value.ref b] below meth c s₁.heap [] 0 0 (fl_Z below) (entryFrame m ([Value.ref b] : List Value).toArray 7) := by
      rw [hh0]
      obtain ⟨n, nc, ns, h', ex', q2, q3, q4⟩ := fl_pure
      exact fl_whole l htr ⟨B.exec, B.bytes, B.returns, hml, hown, hts, hX, hbl, B.notSynchronized, hgv⟩ htab (by decide) (Nat.le_trans q2 fl_room.1) (Nat.le_trans q3 fl_room.2) q4
    obtain ⟨t, a1, o, b1, b2, b3⟩ := K s₁ rfl X₀
    exact ⟨t, o, a1, b1, b2, b3⟩
theorem fl_comes {l : Launch} (htr : l.stackTraces = false) {p : Program} {e : Env} {s : State} {m : MethodId} {args : Array Value} {below : List Frame} {b : Addr} (ha : l.admits e) (hc : FairCas e.choices) (hk : FairClock e.choices) (hf : s.frames = Frame.invoking m args :: below) (happ : (headSpec (Jvm.Cond.code x code maxLocals ret :: tables_1) room_1).applies x e.platform s = true) (hP : lw_P b fl_xs args s) :
    ∃ (n : Nat) (o : Outcome), (∀ k, k < n → Within (stepsAlone p.tables e k s) below) ∧ (stepsAlone p.tables e n s).status = Status.running ∧ Ended (stepsAlone p.tables e n s) below o ∧ o = .returned (some (.int 0)) := by
  obtain ⟨k, o, h1, h2, h3, hQ⟩ := fl_walk l htr b p e ha hc hk s m args below hf ((Spec.applies_iff_loose hf).mp happ).1 hP trivial
  exact ⟨k, o, h1, h2, h3, hQ⟩
