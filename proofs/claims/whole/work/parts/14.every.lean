/-! EVERY METHOD MEETS ITS CONTRACT, AT EVERY DEPTH -/
theorem ai_args_map {ad : Nat → Nat} : ∀ (As : List Value) (i : Nat), lv_args i (As.map (ai_v ad)) = ai_lv ad (lv_args i As)
  | [], i => rfl
  | v :: vs, i => by
    simp only [List.map_cons, lv_args, ai_v_cat]
    rw [ai_args_map vs]
    rfl
theorem ai_sl_len {ad : Nat → Nat} : ∀ (As : List Value), (lg_sl (As.map (ai_v ad))).length = (lg_sl As).length
  | [] => rfl
  | v :: vs => by
    have ih := ai_sl_len (ad := ad) vs
    simp only [lg_sl, List.map_cons, List.flatMap_cons, List.length_append, ai_v_cat] at ih ⊢
    rw [ih]
    split <;> rfl
section AIY
variable {l : Launch} {D : va_G} {ad : Nat → Nat} {dA : Nat → ClassId} {z0 : Nat} {Hb : Heap}
variable {ms : List ai_M} {lk : Nat → ai_L} {on : Nat → String} {X : Nat × (Nat → Int32)} {NS : Nat}
/-- the walk of a method's body, from its entry -/
theorem as_body (hNS : NS ≤ 35) {p : Program} {e : Env} {R : Room} {s : State} {m : MethodId} {below : List Frame} {meth : Method} {c : Code} {M : ai_M} (had : ∀ k, k < 1000000 → ad k = z0 + k) {As : List Value} {h : ai_H} {ex : Bool} (C : ai_Cx lk on X NS D ad dA z0 Hb R M p s m (As.map (ai_v ad)).toArray meth c) (hok : ai_okM ms lk on M) (htr : l.stackTraces = false) {cl : Nat → List Value → ai_H → Bool → ai_O → Prop} {d : Nat} (hcl : ∀ q As h ex o1, cl q As h ex o1 → ai_Ct l ms lk on X NS D ad dA z0 Hb d q As h ex o1 ∧ ai_pf h ex o1) (hRd : 10 + d + 1 ≤ R.frames ∧ 200 + 50 * (d + 1) ≤ R.locals)
    {n : Nat} {o : ai_O} (hn : ai_Rn ms lk X NS cl M n (0, lv_args 0 As, [], h, ex, 0, 0) o) (hlen : (lg_sl As).length ≤ M.ml) (hoc : ai_oc o ≤ R.cells) (hos : ai_os o ≤ R.slots) (hR : ai_R D ad dA z0 Hb h s.heap) (hsz : ex = true → s.heap.size = z0 + h.length) :
    W p l e R s m (As.map (ai_v ad)).toArray below meth c s.heap [] 0 0 (vx_MQ below (ai_Q D ad dA z0 Hb o) (ai_XC D ad dA z0 Hb o) (As.map (ai_v ad)).toArray s (ai_oc o) (ai_os o) (fun q : Nat => z0 ≤ q)) (entryFrame m (As.map (ai_v ad)).toArray M.ml) := by
  have hl := lv_entry (As.map (ai_v ad)) (n := M.ml) (by rw [ai_sl_len]; exact hlen)
  rw [lg_entry_eq]
  rw [ai_args_map] at hl
  exact as_run (n0 := h.length) hNS C hok htr hcl hRd n _ o hn hoc hos s.heap [] _ hR (fun q => ⟨rfl, hsz q⟩) va_S.rf hl
theorem ai_sound (hNS : NS ≤ 35) (htr : l.stackTraces = false) (hoks : ∀ (q : Nat) (M : ai_M), ms[q]? = some M → ai_okM ms lk on M) (had : ∀ k, k < 1000000 → ad k = z0 + k) (hX2 : ad 1000000 < z0) :
    ∀ (d q : Nat) (As : List Value) (h : ai_H) (ex : Bool) (o : ai_O), ai_Ev ms lk X NS d q As h ex o → ai_Ct l ms lk on X NS D ad dA z0 Hb d q As h ex o ∧ ai_pf h ex o
  | 0, q, As, h, ex, o, hE => absurd hE (fun h => h)
  | d + 1, q, As, h, ex, o, hE => by
    have ih := ai_sound hNS htr hoks had hX2 d
    obtain ⟨M, n, hM, hlen, hn⟩ := hE
    have hok := hoks q M hM
    have hp := ai_Rn_pure (fun q As h ex o1 q9 => (ih q As h ex o1 q9).2) n _ o hn
    refine ⟨fun M' hM' => ?_, ?_⟩
    · cases Option.some.inj (hM.symm.trans hM')
      have body : ∀ (p : Program) (e : Env) (s : State) (m : MethodId) (args : Array Value) (below : List Frame) (meth : Method) (c : Code) (s₁ : State), BodyLoose p l M.nm (headSpec (ai_cw M :: ai_TB) (ai_rm (d + 1) (ai_oc o) (ai_os o))) M.by' M.ml M.rt e s m args below meth c s₁ → c.maxLocals = M.ml → c.exceptionTable.toList = tableOf M.hh → ai_Pc lk on X NS D ad dA z0 Hb As h ex args s →
          W p l e (headSpec (ai_cw M :: ai_TB) (ai_rm (d + 1) (ai_oc o) (ai_os o))).room s m args below meth c s.heap [] 0 0 (vx_MQ below (ai_Q D ad dA z0 Hb o) (ai_XC D ad dA z0 Hb o) args s (ai_oc o) (ai_os o) (fun q : Nat => z0 ≤ q)) (entryFrame m args M.ml) := by
        intro p e s m args below meth c s₁ B hml htab hPc
        obtain ⟨rfl, hR, hsz, hSx⟩ := hPc
        have hts := atoms_spec (ws := ai_cw M :: ai_TB) B.pre
        refine as_body hNS had ⟨B.exec, B.bytes, hml, B.returns, B.notSynchronized, ?_, fun q => ?_, fun w hw => hts w (List.mem_cons_of_mem _ hw), had, ⟨hR.2.2.1, hR.2.2.2⟩, hX2, hSx, ?_, ?_, htab⟩ hok htr ih ⟨?_, ?_⟩ hn hlen (Nat.le_refl _) (Nat.le_refl _) hR hsz
        · rw [hok.2.1]
          exact findClass_of_methodNamed B.named
        · rw [← q]
          exact (name_of_methodNamed B.named B.method).1
        · show 10 ≤ 10 + (d + 1)
          omega
        · show 200 ≤ 200 + 50 * (d + 1)
          omega
        · show 10 + d + 1 ≤ 10 + (d + 1)
          omega
        · show 200 + 50 * (d + 1) ≤ 200 + 50 * (d + 1)
          omega
      by_cases hh : M.hh = []
      · refine vx_ofW (cc := M.by') (maxL := M.ml) (ret := M.rt) (ws' := ai_TB) hok.1 (by rw [ai_cw_nil hh]) (fun p e s m args below meth c s₁ B hml ht hPc => body p e s m args below meth c s₁ B hml ?_ hPc)
        rw [hh]
        exact List.eq_nil_iff_forall_not_mem.mpr ht
      · refine vx_ofWH (cc := M.by') (maxL := M.ml) (ret := M.rt) (hh := M.hh) (ws' := ai_TB) hok.1 (by rw [ai_cw_cons hh]) (fun p e s m args below meth c s₁ B hml hPc => body p e s m args below meth c s₁ B hml ?_ hPc)
        have hts := atoms_spec (ws := ai_cw M :: ai_TB) B.pre
        have h1 := hts _ List.mem_cons_self
        rw [ai_cw_cons hh] at h1
        exact vx_table (x := M.nm) B h1
    · have h3 := hp.2.2
      cases o with
      | inr x => trivial
      | inl x =>
        obtain ⟨v, h', ex', nc', ns'⟩ := x
        intro he
        obtain ⟨k1, k2⟩ := h3 he
        exact ⟨k1, k2⟩
end AIY
