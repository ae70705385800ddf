/-! CALLS, ENDS, AND THE CONTRACT OF EVERY METHOD -/
def ai_rm (d C S : Nat) : Room := { frames := 10 + d, cells := C, slots := S, locals := 200 + 50 * d }
def ai_Q (D : va_G) (ad : Nat → Nat) (dA : Nat → ClassId) (z0 : Nat) (Hb : Heap) (o : ai_O) : Array Value → State → Outcome → State → Prop := fun _ st oc t => match o with
  | .inl (v, h', _, _, _) => oc = .returned (v.map (ai_v ad)) ∧ ai_R D ad dA z0 Hb h' t.heap ∧ va_F (fun q : Nat => z0 ≤ q) st t
  | .inr _ => False
def ai_XC (D : va_G) (ad : Nat → Nat) (dA : Nat → ClassId) (z0 : Nat) (Hb : Heap) (o : ai_O) : String → State → State → Prop := fun E st t => match o with
  | .inl _ => False
  | .inr (E', h', _, _) => E = E' ∧ ai_R D ad dA z0 Hb h' t.heap ∧ va_F (fun q : Nat => z0 ≤ q) st t
def ai_Pc (lk : Nat → ai_L) (on : Nat → String) (X : Nat × (Nat → Int32)) (NS : Nat) (D : va_G) (ad : Nat → Nat) (dA : Nat → ClassId) (z0 : Nat) (Hb : Heap) (As : List Value) (h : ai_H) (ex : Bool) : Array Value → State → Prop := va_Pc (As.map (ai_v ad)) (fun U => ai_R D ad dA z0 Hb h U.heap ∧ (ex = true → U.heap.size = z0 + h.length) ∧ ai_Sx lk on X NS D ad dA z0 Hb U)
/-- the contract of the method q at these arguments and this heap -/
def ai_Ct (l : Launch) (ms : List ai_M) (lk : Nat → ai_L) (on : Nat → String) (X : Nat × (Nat → Int32)) (NS : Nat) (D : va_G) (ad : Nat → Nat) (dA : Nat → ClassId) (z0 : Nat) (Hb : Heap) (d q : Nat) (As : List Value) (h : ai_H) (ex : Bool) (o : ai_O) : Prop :=
  ∀ M, ms[q]? = some M → vx_Met l M.nm (ai_cw M :: ai_TB) (ai_rm d (ai_oc o) (ai_os o)) (ai_Pc lk on X NS D ad dA z0 Hb As h ex) (ai_Q D ad dA z0 Hb o) (ai_XC D ad dA z0 Hb o) (ai_oc o) (ai_os o) (fun q : Nat => z0 ≤ q)
/-- what a run says of the heap's length -/
def ai_pf (h : ai_H) (ex : Bool) (o : ai_O) : Prop := match o with
  | .inl (_, h', ex', nc, _) => ex' = true → ex = true ∧ h'.length = h.length + nc
  | .inr _ => True
theorem ai_blind {lk : Nat → ai_L} {on : Nat → String} {X : Nat × (Nat → Int32)} {NS : Nat} {D : va_G} {ad : Nat → Nat} {dA : Nat → ClassId} {z0 : Nat} {Hb : Heap} {As : List Value} {h : ai_H} {ex : Bool} : FrameBlind (ai_Pc lk on X NS D ad dA z0 Hb As h ex) :=
  fun a U g mk q => ⟨q.1, q.2.1, q.2.2.1, ai_Sx.warm (s := U) (U := U.calling g mk a) (State.WarmedH.refl U) q.2.2.2⟩
theorem ai_NW_on {w : Cond} (h : w ∈ ai_NW) : w.onTables = true := by
  simp only [ai_NW, List.mem_cons, List.not_mem_nil, or_false] at h
  rcases h with rfl | rfl | rfl | rfl | rfl | rfl | rfl | rfl | rfl <;> rfl
section AIU
variable {p : Program} {l : Launch} {e : Env} {R : Room} {s : State} {m : MethodId} {args : Array Value} {below : List Frame} {meth : Method} {c : Code} {Q : State → Prop} {D : va_G} {ad : Nat → Nat} {dA : Nat → ClassId} {z0 : Nat} {Hb : Heap} {n0 : Nat}
variable {ms : List ai_M} {lk : Nat → ai_L} {on : Nat → String} {X : Nat × (Nat → Int32)} {NS : Nat} {M : ai_M} {H : Heap} {locs : List Loc} {nc ns pc : Nat} {ls : Array Slot} {st0 rest : List Value} {a : Array Value}
/-- behind a call that returned -/
theorem as_ret {v : Option Value} {h' : ai_H} {ex' : Bool} {nc' ns' : Nat} (hr : vx_Run p l e R s m args below meth c H locs nc ns nc' ns' (F0 m pc ls st0) rest (ai_Q D ad dA z0 Hb (.inl (v, h', ex', nc', ns')) a) (ai_XC D ad dA z0 Hb (.inl (v, h', ex', nc', ns'))) (fun q : Nat => z0 ≤ q)) (hS : va_S (fun q : Nat => z0 ≤ q) s.heap H locs)
    (kk : ∀ (H1 : Heap) (locs1 : List Loc), ai_R D ad dA z0 Hb h' H1 → va_S (fun q : Nat => z0 ≤ q) s.heap H1 locs1 → W p l e R s m args below meth c H1 locs1 (nc + nc') (ns + ns') Q (F0 m (pc + 3) ls ((v.map (ai_v ad)).toList ++ rest))) : W p l e R s m args below meth c H locs nc ns Q (F0 m pc ls st0) := by
  intro T hT X9
  rcases hr T hT X9 with ⟨v1, st1, t, T', L, h0, X', hL, e1, e2, hq, st⟩ | ⟨q, st1, t, T', L, E, ce, h0, X', hL, e1, e2, hq, hce, hcv, hcl, st⟩
  · obtain ⟨hv, hR', hF⟩ := hq
    cases hv
    obtain ⟨k1, k2, k3⟩ := vx_keep h0 e1 hS (fun q _ h => h) (fun q h => h) hL hF
    obtain ⟨t2, a1, b1⟩ := kk T'.heap (locs ++ L) (by rw [e1]; exact hR') k3 T' rfl X'
    exact ⟨t2, st t2 a1, b1⟩
  · exact absurd hq (fun h => h)
/-- behind a call that threw -/
theorem as_thr {E : String} {h' : ai_H} {nc' ns' : Nat} (hr : vx_Run p l e R s m args below meth c H locs nc ns nc' ns' (F0 m pc ls st0) rest (ai_Q D ad dA z0 Hb (.inr (E, h', nc', ns')) a) (ai_XC D ad dA z0 Hb (.inr (E, h', nc', ns'))) (fun q : Nat => z0 ≤ q)) (hS : va_S (fun q : Nat => z0 ≤ q) s.heap H locs)
    (kx : ∀ (ce : Cell) (q9 : Addr) (H1 : Heap) (locs1 : List Loc), ai_R D ad dA z0 Hb h' H1 → va_S (fun q : Nat => z0 ≤ q) s.heap H1 locs1 → H1[q9]? = some ce → ce.vm = .none → s.vm.findClass E = some ce.cls → vx_W p l e R s m args below meth c H1 locs1 (nc + nc') (ns + ns') Q (F0 m pc ls rest) q9) : W p l e R s m args below meth c H locs nc ns Q (F0 m pc ls st0) := by
  intro T hT X9
  rcases hr T hT X9 with ⟨v1, st1, t, T', L, h0, X', hL, e1, e2, hq, st⟩ | ⟨q, st1, t, T', L, E1, ce, h0, X', hL, e1, e2, hq, hce, hcv, hcl, st⟩
  · exact absurd hq (fun h => h)
  · obtain ⟨rfl, hR', hF⟩ := hq
    obtain ⟨k1, k2, k3⟩ := vx_keep h0 e1 hS (fun q _ h => h) (fun q h => h) hL hF
    obtain ⟨t2, a1, b1⟩ := kx ce q T'.heap (locs ++ L) (by rw [e1]; exact hR') k3 (by rw [e1]; exact hce) hcv hcl T' rfl X'
    exact ⟨t2, st.trans a1, b1⟩
theorem ai_cw_nil {M1 : ai_M} (h : M1.hh = []) : ai_cw M1 = .code M1.nm M1.by' M1.ml M1.rt := by
  unfold ai_cw
  rw [h]
theorem ai_cw_cons {M1 : ai_M} (h : M1.hh ≠ []) : ai_cw M1 = .codeWith M1.nm M1.by' M1.ml M1.rt M1.hh := by
  unfold ai_cw
  split
  · rename_i h2
    exact absurd h2 h
  · rfl
theorem ai_sum_map (st : List Value) : ((st.map (ai_v ad)).map fun v => v.category).sum = ai_sum st := by
  simp [ai_sum, Function.comp_def, ai_v_cat]
theorem ai_take_rev (st : List Value) (n : Nat) : (((st.take n).reverse).map (ai_v ad)).reverse ++ (st.drop n).map (ai_v ad) = st.map (ai_v ad) := by
  rw [← List.map_reverse, List.reverse_reverse, ← List.map_append, List.take_append_drop]
/-- every call of the interpreter is one of the machine's -/
theorem as_call (C : ai_Cx lk on X NS D ad dA z0 Hb R M p s m args meth c) {i : Instr} {tg : List Nat} {lv : List (Nat × Value)} {st : List Value} {h : ai_H} {ex : Bool} (hd : ai_dc M.by' pc i) (hf : ai_lf ms lk on M pc i tg) {q : Nat} {As rest0 : List Value} {o1 : ai_O} {M1 : ai_M} {d : Nat} (hca : ai_ca (lk M.cn) i st h = some (q, As, rest0)) (hq0 : q ≠ 0) (hM1 : ms[q]? = some M1) (hrc : ai_rc i As h M1.cn) (hni : ai_ni i o1)
    (hCt : ai_Ct l ms lk on X NS D ad dA z0 Hb d q As h ex o1) (hRd : 10 + d + 1 ≤ R.frames ∧ 200 + 50 * (d + 1) ≤ R.locals) (hroom : nc + ai_oc o1 ≤ R.cells ∧ ns + ai_os o1 ≤ R.slots) (hR : ai_R D ad dA z0 Hb h H) (hsz : ex = true → H.size = z0 + h.length) (hl : lv_has ls M.ml (ai_lv ad lv)) :
    vx_Run p l e R s m args below meth c H locs nc ns (ai_oc o1) (ai_os o1) (F0 m pc ls (st.map (ai_v ad))) (rest0.map (ai_v ad)) (ai_Q D ad dA z0 Hb o1 (As.map (ai_v ad)).toArray) (ai_XC D ad dA z0 Hb o1) (fun q : Nat => z0 ≤ q) := by
  obtain ⟨hx, hb, hml, hrt, hlk, hown, hini, hts, had, hZ, hX2, hSx, hRf, hRl, htab⟩ := C
  have hK := hSx.1
  have hM := hCt M1 hM1
  have S : CallFix p m c M.by' M.ml s args ai_TB (on M.cn) := ⟨hx, hb, hml, hown, hts⟩
  have hpc : ∀ U : State, U.heap = H → s.WarmedH U.vm → ai_Pc lk on X NS D ad dA z0 Hb As h ex (As.map (ai_v ad)).toArray U := fun U hU hW => ⟨rfl, by rw [hU]; exact hR, fun q => by rw [hU]; exact hsz q, hSx.warm hW⟩
  have hfr : ∀ k, k ≤ 31 → (ai_rm d (ai_oc o1) (ai_os o1)).frames + 1 ≤ R.frames ∧ 8 + (k + 11) + (ai_rm d (ai_oc o1) (ai_os o1)).locals ≤ R.locals := fun k hk => by
    simp only [ai_rm]
    omega
  cases i with
  | invokestatic ix =>
    simp only [ai_ca] at hca
    split at hca
    · rename_i q1 n1 hml1
      split at hca
      · rename_i hlen
        simp only [Option.some.injEq, Prod.mk.injEq] at hca
        obtain ⟨rfl, rfl, rfl⟩ := hca
        obtain ⟨⟨w1, w2, w3, w4, w5, w6, w7⟩, w8⟩ := hf.2 _ _ M1 hml1 hq0 hM1
        have hG : GoodIn ai_TB (va_wsS (on M.cn) ix M1.nm (ai_cw M1 :: ai_TB)) := ai_GI (fun w hw => by
          simp only [va_wsS, List.cons_append, List.nil_append, List.mem_cons] at hw
          rcases hw with rfl | rfl | rfl | rfl | hw
          · exact w1
          · exact w8
          · exact w2
          · exact w3
          · exact hw)
        have hn : (((st.take n1).reverse).map (ai_v ad)).length = n1 := by simp; omega
        have hst : (F0 m pc ls (st.map (ai_v ad))).stack = (((st.take n1).reverse).map (ai_v ad)).reverse ++ (st.drop n1).map (ai_v ad) := (ai_take_rev st n1).symm
        by_cases hh : M1.hh = []
        · have cw := va_cwS (R := R) (rm := ai_rm d (ai_oc o1) (ai_os o1)) (mc := ai_oc o1) (ms := ai_os o1) n1 hts hG (by rw [ai_cw_nil hh]) rfl rfl ⟨w4, w5, w6⟩ (hfr _ w7)
          exact vx_runS S hM cw ⟨ai_blind, hpc⟩ rfl hn hl.1 hst (by rw [ai_sum_map]; show 2 * 0 + _ ≤ 8; omega) hd hroom
        · have cw := vx_cwSW (R := R) (rm := ai_rm d (ai_oc o1) (ai_os o1)) (mc := ai_oc o1) (ms := ai_os o1) n1 hts hG (by rw [ai_cw_cons hh]) rfl rfl ⟨w4, w5, w6⟩ (hfr _ w7)
          exact vx_runSX S hM cw ⟨ai_blind, hpc⟩ rfl hn hl.1 hst (by rw [ai_sum_map]; show 2 * 0 + _ ≤ 8; omega) hd hroom
      · cases hca
    · cases hca
  | invokevirtual ix =>
    simp only [ai_ca] at hca
    split at hca
    · rename_i q1 n1 hml1
      split at hca
      · rename_i b rest1 hdr
        split at hca
        · rename_i ob hob
          split at hca
          · rename_i hlen
            simp only [Option.some.injEq, Prod.mk.injEq] at hca
            obtain ⟨rfl, rfl, rfl⟩ := hca
            obtain ⟨⟨w1, w2, w3, w4, w5, w6, w7⟩, w8, w9, hh, T1, N1, hcl1⟩ := hf.2 _ _ M1 hml1 hq0 hM1
            have hG : GoodIn ai_TB (wsV (on M.cn) ix M1.nm.cls M1.nm (ai_cw M1 :: ai_TB)) := ai_GI (fun w hw => by
              simp only [wsV, List.cons_append, List.nil_append, List.mem_cons] at hw
              rcases hw with rfl | rfl | rfl | rfl | rfl | hw
              · exact w1
              · exact w8
              · exact w9
              · exact w2
              · exact w3
              · exact hw)
            have hn0 : n1 < st.length := by
              rcases Nat.lt_or_ge n1 st.length with g | g
              · exact g
              · rw [List.drop_eq_nil_of_le g] at hdr
                cases hdr
            have hn : (((st.take n1).reverse).map (ai_v ad)).length = n1 := by simp; omega
            have hst : (F0 m pc ls (st.map (ai_v ad))).stack = (((st.take n1).reverse).map (ai_v ad)).reverse ++ .ref (ad b) :: rest1.map (ai_v ad) := by
              have g := ai_take_rev (ad := ad) st n1
              rw [hdr] at g
              exact g.symm
            obtain ⟨fs, hfs⟩ := hrc
            have ha : b < h.length := (List.getElem?_eq_some_iff.mp hfs).1
            have hae : ad b = z0 + b := had b (Nat.lt_of_lt_of_le ha hR.2.1)
            have hwg := ai_w_get (ad := ad) (dA := dA) (z0 := z0) hfs
            rw [← hae] at hwg
            have cw := cwV (R := R) (rm := ai_rm d (ai_oc o1) (ai_os o1)) (mc := ai_oc o1) (ms := ai_os o1) n1 hts hG (by rw [ai_cw_nil hh]) rfl rfl ⟨rfl, w4, w5, w6⟩ (hfr _ w7)
            exact vx_runV S hM cw ⟨ai_blind, va_recv hK hR.1 hcl1 hwg, hpc⟩ rfl hn hl.1 hst (by rw [ai_sum_map]; show 2 * 0 + _ ≤ 8; omega) hd hroom
          · cases hca
        · cases hca
      · cases hca
    · cases hca
  | invokespecial ix =>
    simp only [ai_ca] at hca
    split at hca
    · rename_i q1 n1 hml1
      split at hca
      · rename_i b rest1 hdr
        split at hca
        · rename_i hlen
          simp only [Option.some.injEq, Prod.mk.injEq] at hca
          obtain ⟨rfl, rfl, rfl⟩ := hca
          obtain ⟨⟨w1, w2, w3, w4, w5, w6, w7⟩, w8, w9, hh, hrt1⟩ := hf.2 _ _ M1 hml1 hq0 hM1
          have hG : GoodIn ai_TB (ai_cw M1 :: ai_TB) := ai_GI (fun w hw => by
            rcases List.mem_cons.mp hw with rfl | hw
            · exact w3
            · exact hw)
          have hn0 : n1 < st.length := by
            rcases Nat.lt_or_ge n1 st.length with g | g
            · exact g
            · rw [List.drop_eq_nil_of_le g] at hdr
              cases hdr
          have hn : (((st.take n1).reverse).map (ai_v ad)).length = n1 := by simp; omega
          have hst : (F0 m pc ls (st.map (ai_v ad))).stack = (((st.take n1).reverse).map (ai_v ad)).reverse ++ .ref (ad b) :: rest1.map (ai_v ad) := by
            have g := ai_take_rev (ad := ad) st n1
            rw [hdr] at g
            exact g.symm
          cases o1 with
          | inr x => exact absurd hni (fun h => h)
          | inl x =>
            obtain ⟨v, h', ex', nc', ns'⟩ := x
            have hM2 : Met l M1.nm (ai_cw M1 :: ai_TB) (ai_rm d nc' ns') (ai_Pc lk on X NS D ad dA z0 Hb (.ref b :: (st.take n1).reverse) h ex) (ai_Q D ad dA z0 Hb (.inl (v, h', ex', nc', ns'))) nc' ns' (fun q : Nat => z0 ≤ q) := by
              refine MetFree.mono hM (fun _ _ h => h) (fun _ _ _ _ _ h => h) (fun a9 s9 o9 t9 _ h9 => ?_)
              rcases h9 with h9 | ⟨q9, -, E9, ce9, L9, h9, -⟩
              · exact h9
              · exact absurd h9 (fun h => h)
            rcases w1 with w1 | ⟨host, w1⟩
            · have cw := cwI (R := R) (bytes := M1.by') (maxL := M1.ml) (ws' := ai_TB) (rm := ai_rm d nc' ns') (mc := nc') (ms := ns') n1 hts hG (by rw [ai_cw_nil hh, hrt1]) rfl rfl (hts _ w2) (hts _ w1) (hts _ w8) w9 ⟨w4, w5, w6⟩ (hfr _ w7)
              have hr := va_runI (l := l) (e := e) (below := below) (meth := meth) (H := H) (locs := locs) (cells := nc) (slots := ns) (b := ad b) (g := F0 m pc ls (st.map (ai_v ad))) (rest := rest1.map (ai_v ad)) S hM2 cw ⟨ai_blind, hpc⟩ rfl hn hl.1 hst (by rw [ai_sum_map]; show 2 * 0 + _ ≤ 8; omega) hd hroom
              intro T hT X9
              exact Or.inl (hr T hT X9)
            · have cw := va_cnB (R := R) (s := s) (args := args) (bytes := M1.by') (maxL := M1.ml) (ret := none) (ws' := ai_TB) (rm := ai_rm d nc' ns') (mc := nc') (ms := ns') n1 hts hG (by rw [ai_cw_nil hh, hrt1]) rfl rfl (hSx.2.2.2.2.2.2.2 _ w1) (hts _ w2) ⟨w4, w5, w6⟩ (hfr _ w7)
              have hr := va_runIN (l := l) (e := e) (below := below) (meth := meth) (H := H) (locs := locs) (cells := nc) (slots := ns) (b := ad b) (g := F0 m pc ls (st.map (ai_v ad))) (rest := rest1.map (ai_v ad)) S hM2 ⟨cw, w9, hts _ w8⟩ ⟨ai_blind, hpc⟩ rfl hn hl.1 hst (by rw [ai_sum_map]; show 2 * 0 + _ ≤ 8; omega) hd hroom
              intro T hT X9
              exact Or.inl (hr T hT X9)
        · cases hca
      · cases hca
    · cases hca
  | _ => cases hca
end AIU
