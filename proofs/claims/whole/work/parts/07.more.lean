/-! the script, new cells, string constants, Object's constructor -/
section AIN
variable {p : Program} {l : Launch} {e : Env} {R : Room} {s : State} {m : MethodId} {args : Array Value} {below : List Frame} {meth : Method} {c : Code} {Q : State → Prop} {nL : Nat} {D : va_G} {ad : Nat → Nat} {dA : Nat → ClassId} {z0 : Nat} {Hb : Heap} {n0 : Nat} {cc : ByteArray}
theorem as_ial (hx : p.tables.exec = Jvm.exec) (hb : c.code = cc) (hts : ∀ w ∈ ai_TB, w.before args s = true) (hK : va_K D vwCl (ai_tys dA) s) (had : ∀ k, k < 1000000 → ad k = z0 + k) (hZ : z0 ≤ s.heap.size ∧ ∀ q, q < z0 → s.heap[q]? = Hb[q]?) {X : Nat × (Nat → Int32)} (hX : va_X (ad 1000000) X.1 X.2 s s.heap) (hX2 : ad 1000000 < z0) {fr fr' : ai_F} (hd : decode cc fr.1 = .ok (.iaload, 1)) (h : ai_ial X fr = some fr') (K : ai_W p l e R s m args below meth c Q nL D ad dA z0 Hb n0 fr') : ai_W p l e R s m args below meth c Q nL D ad dA z0 Hb n0 fr := by
  obtain ⟨pc, lv, st, h0, ex, nc, ns⟩ := fr
  unfold ai_ial at h
  split at h
  · rename_i i a st1 h1 r heq
    simp only [Prod.mk.injEq] at heq
    obtain ⟨rfl, rfl, rfl, rfl, rfl⟩ := heq
    split at h
    · rename_i hsc
      subst hsc
      split at h
      · rename_i hi
        cases h
        intro H locs ls hR hE hS hl
        exact va_sld hx hb hX (Nat.lt_of_lt_of_le hX2 hZ.1) (Nat.not_le.mpr hX2) hS (ai_in_of hi) hd (K H locs ls hR hE hS hl)
      · cases h
    · split at h
      · rename_i n f hh
        split at h
        · rename_i hi
          cases h
          intro H locs ls hR hE hS hl
          have ha : a < h0.length := (List.getElem?_eq_some_iff.mp hh).1
          have hae : ad a = z0 + a := had a (Nat.lt_of_lt_of_le ha hR.2.1)
          have hwg := ai_w_get (ad := ad) (dA := dA) (z0 := z0) hh
          rw [← hae] at hwg
          exact va_iald hx hb hK hR.1 a 0 hwg rfl (ai_in_of hi) hd (K H locs ls hR hE hS hl)
        · cases h
      · cases h
  · cases h
theorem as_len (hx : p.tables.exec = Jvm.exec) (hb : c.code = cc) (hts : ∀ w ∈ ai_TB, w.before args s = true) (hK : va_K D vwCl (ai_tys dA) s) (had : ∀ k, k < 1000000 → ad k = z0 + k) (hZ : z0 ≤ s.heap.size ∧ ∀ q, q < z0 → s.heap[q]? = Hb[q]?) {X : Nat × (Nat → Int32)} (hX : va_X (ad 1000000) X.1 X.2 s s.heap) (hX2 : ad 1000000 < z0) {fr fr' : ai_F} (hd : decode cc fr.1 = .ok (.arraylength, 1)) (h : ai_len X fr = some fr') (K : ai_W p l e R s m args below meth c Q nL D ad dA z0 Hb n0 fr') : ai_W p l e R s m args below meth c Q nL D ad dA z0 Hb n0 fr := by
  obtain ⟨pc, lv, st, h0, ex, nc, ns⟩ := fr
  unfold ai_len at h
  split at h
  · rename_i a st1 h1 r heq
    simp only [Prod.mk.injEq] at heq
    obtain ⟨rfl, rfl, rfl, rfl, rfl⟩ := heq
    split at h
    · rename_i hsc
      subst hsc
      cases h
      intro H locs ls hR hE hS hl
      exact va_slen hx hb hX (Nat.lt_of_lt_of_le hX2 hZ.1) (Nat.not_le.mpr hX2) hS hd (K H locs ls hR hE hS hl)
    · split at h
      · rename_i k x hh
        split at h
        · rename_i hk
          cases h
          intro H locs ls hR hE hS hl
          have ha : a < h0.length := (List.getElem?_eq_some_iff.mp hh).1
          have hae : ad a = z0 + a := had a (Nat.lt_of_lt_of_le ha hR.2.1)
          have hwg := ai_w_get (ad := ad) (dA := dA) (z0 := z0) hh
          rw [← hae] at hwg
          have ht : ∃ ty, (ai_tys dA)[k]? = some (dA k, ty) := by
            match k, hk with
            | 0, _ => exact ⟨_, rfl⟩
            | 1, _ => exact ⟨_, rfl⟩
            | 2, _ => exact ⟨_, rfl⟩
            | 3, _ => exact ⟨_, rfl⟩
            | 4, _ => exact ⟨_, rfl⟩
          obtain ⟨ty, ht⟩ := ht
          have hv : (ai_a ad x).1 = x.1 := by
            obtain ⟨n, f⟩ := x
            rcases f with f | f | f | f | f <;> rfl
          exact va_alen hx hb hK hR.1 a k hwg ht (by rw [hv]) hd (K H locs ls hR hE hS hl)
        · cases h
      · cases h
  · cases h
theorem as_obj (hx : p.tables.exec = Jvm.exec) (hb : c.code = cc) (hts : ∀ w ∈ ai_TB, w.before args s = true) (hK : va_K D vwCl (ai_tys dA) s) (had : ∀ k, k < 1000000 → ad k = z0 + k) (hZ : z0 ≤ s.heap.size ∧ ∀ q, q < z0 → s.heap[q]? = Hb[q]?) {own : String} (hown : s.vm.findClass own = some m.cls) (hml : c.maxLocals = nL) {KL : ai_L} {ix : Nat} (hF : ∀ n, ai_as KL.2.2.2.1 ix = some (0, n) → Cond.methodLink own ix Lib.objectInit ∈ ai_TB) (hO : Cond.instanceMethod Lib.objectInit ∈ ai_TB ∧ Cond.code Lib.objectInit ⟨#[0xb1]⟩ 1 none ∈ ai_TB) (hRm : 1 ≤ R.frames ∧ 40 ≤ R.locals) {fr fr' : ai_F} (hd : decode cc fr.1 = .ok (.invokespecial ix, 3)) (h : ai_obj KL ix fr = some fr') (K : ai_W p l e R s m args below meth c Q nL D ad dA z0 Hb n0 fr') : ai_W p l e R s m args below meth c Q nL D ad dA z0 Hb n0 fr := by
  obtain ⟨pc, lv, st, h0, ex, nc, ns⟩ := fr
  unfold ai_obj at h
  split at h
  · rename_i a st1 r heq
    simp only [Prod.mk.injEq] at heq
    obtain ⟨rfl, rfl, rfl, rfl⟩ := heq
    split at h
    · rename_i q n hf
      split at h
      · rename_i hq
        obtain ⟨rfl, hsum⟩ := hq
        cases h
        intro H locs ls hR hE hS hl
        have hs : ((st1.map (ai_v ad)).map fun v => v.category).sum = ai_sum st1 := by
          simp [ai_sum, Function.comp_def, ai_v_cat]
        have hm0 : (F0 m pc ls ((.ref a :: st1).map (ai_v ad))).monitorRoom = 0 := rfl
        refine W.objInit hx hb hown (hts _ (hF n hf)) (hts _ hO.1) (hts _ hO.2) rfl (by rw [hml]; exact hl.1) (a := ad a) (rest := st1.map (ai_v ad)) rfl hd hRm.1 (by rw [hm0, hs]; omega) ?_
        exact K H locs ls hR hE hS hl
      · cases h
    · cases h
  · cases h
theorem as_ldc (hx : p.tables.exec = Jvm.exec) (hb : c.code = cc) (hts : ∀ w ∈ ai_TB, w.before args s = true) (hK : va_K D vwCl (ai_tys dA) s) (had : ∀ k, k < 1000000 → ad k = z0 + k) (hZ : z0 ≤ s.heap.size ∧ ∀ q, q < z0 → s.heap[q]? = Hb[q]?) {own : String} (hown : s.vm.findClass own = some m.cls) {KL : ai_L} {ix : Nat} (hF : ∀ i, ai_as KL.2.2.1 ix = some i → ∃ tx, vk_R own ix tx (ad (1000001 + i)) s) {fr fr' : ai_F} (hd : decode cc fr.1 = .ok (.ldc ix, 2)) (h : ai_ldc KL ix fr = some fr') (K : ai_W p l e R s m args below meth c Q nL D ad dA z0 Hb n0 fr') : ai_W p l e R s m args below meth c Q nL D ad dA z0 Hb n0 fr := by
  obtain ⟨pc, lv, st, h0, ex, nc, ns⟩ := fr
  simp only [ai_ldc] at h
  split at h
  · rename_i i hi
    cases h
    obtain ⟨tx, hv⟩ := hF i hi
    intro H locs ls hR hE hS hl
    exact va_ldcS hx hb hown hv hd (K H locs ls hR hE hS hl)
  · cases h
theorem as_new (hx : p.tables.exec = Jvm.exec) (hb : c.code = cc) (hts : ∀ w ∈ ai_TB, w.before args s = true) (hK : va_K D vwCl (ai_tys dA) s) (had : ∀ k, k < 1000000 → ad k = z0 + k) (hZ : z0 ≤ s.heap.size ∧ ∀ q, q < z0 → s.heap[q]? = Hb[q]?) {own : String} (hown : s.vm.findClass own = some m.cls) {KL : ai_L} {ix : Nat} (hF : ∀ ci, ai_as KL.2.1 ix = some ci → ∃ q, vwCl[ci]? = some q ∧ Cond.classLink own ix q.1 ∈ ai_TB) {fr fr' : ai_F} (hd : decode cc fr.1 = .ok (.new ix, 3)) (h : ai_new KL ix fr = some fr') (hM : fr'.2.2.2.2.2.1 ≤ R.cells ∧ fr'.2.2.2.2.2.2 ≤ R.slots) (K : ai_W p l e R s m args below meth c Q nL D ad dA z0 Hb n0 fr') : ai_W p l e R s m args below meth c Q nL D ad dA z0 Hb n0 fr := by
  obtain ⟨pc, lv, st, h0, ex, nc, ns⟩ := fr
  simp only [ai_new] at h
  split at h
  · rename_i ci hi
    split at h
    · rename_i hc
      obtain ⟨hex, hlen⟩ := hc
      cases h
      obtain ⟨q, hq, hw⟩ := hF ci hi
      obtain ⟨c1, c2, c3, c4, c5, c6, c7⟩ := ai_cls hq
      intro H locs ls hR hE hS hl
      refine as_exact hR (hE hex) (fun hsz => ?_)
      refine va_new (ci := ci) (fs := ai_def ci) (C := q.1) (T := q.2.1) (N := q.2.2) hx hb hts c1 (ai_fty ci) c2 hown (hts _ hw) (hts _ c6) (hts _ c7) hK hR.1 ai_w_D hS (fun x hx9 => Nat.le_trans hZ.1 hx9) hq c5 hM.1 (by have h9 := hM.2; simp only [c4] at h9; exact h9) hd (fun a H1 hP1 hD1 hS1 => ?_)
      rw [c4] at K
      intro T hT X
      have g1 : H1.size ≤ s.heap.size + (nc + 1) := by rw [← hT]; exact X.same.2.2.1
      have g2 : a < H1.size := (hP1 (ai_w ad dA z0 h0).length (a, .inr (ci, ai_def ci)) (by simp)).lt
      have g3 : z0 ≤ a := hD1.2 (ai_w ad dA z0 h0).length (a, .inr (ci, ai_def ci)) (by simp)
      have g4 : (ai_w ad dA z0 h0).length = h0.length := by simp [ai_w]
      have g5 : a = z0 + h0.length := by
        rcases Nat.lt_or_ge a (z0 + h0.length) with g | g
        · exfalso
          have g6 : a - z0 < h0.length := by omega
          have g7 := ai_w_get (ad := ad) (dA := dA) (z0 := z0) (List.getElem?_eq_getElem g6)
          have g8 := hD1.1 (a - z0) (ai_w ad dA z0 h0).length _ (a, .inr (ci, ai_def ci)) (by rw [List.getElem?_append_left (by rw [g4]; exact g6)]; exact g7) (by simp) (by simp only; omega)
          omega
        · have := hE hex
          omega
      have g9 : ad h0.length = a := by rw [had _ hlen, g5]
      have he : ai_w ad dA z0 h0 ++ [(a, .inr (ci, ai_def ci))] = ai_w ad dA z0 (h0 ++ [.inr (ci, ai_def ci)]) := by
        rw [ai_w_push, g5]
        simp [ai_ce, ai_def_obj]
      rw [he] at hP1
      have kk := K H1 locs ls (ai_wr hZ hP1 (by simp; omega) hS1) (fun _ => by have := hE hex; simp; omega) hS1 hl
      rw [← g9] at *
      exact kk T hT X
    · cases h
  · cases h
end AIN
