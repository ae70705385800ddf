/-! new arrays, rows of strings -/
section AIQ
variable {p : Program} {l : Launch} {e : Env} {R : Room} {s : State} {m : MethodId} {args : Array Value} {below : List Frame} {meth : Method} {c : Code} {Q : State → Prop} {nL : Nat} {D : va_G} {ad : Nat → Nat} {dA : Nat → ClassId} {z0 : Nat} {Hb : Heap} {n0 : Nat} {cc : ByteArray}
/-- a new cell lies at the next handle's address -/
theorem as_at {h0 : ai_H} {nc : Nat} {a : Nat} {x : va_E} {H1 : Heap} {locs : List Loc} {ns : Nat} {T : State} (hE : h0.length = n0 + nc ∧ s.heap.size = z0 + n0) (hP1 : va_P D vwCl (ai_w ad dA z0 h0 ++ [(a, x)]) H1) (hD1 : va_D (fun q : Nat => z0 ≤ q) (ai_w ad dA z0 h0 ++ [(a, x)])) (hT : T.heap = H1) (X : Stand p l e R s m args below meth c T locs (nc + 1) ns) : a = z0 + h0.length := by
  have g1 : H1.size ≤ s.heap.size + (nc + 1) := by rw [← hT]; exact X.same.2.2.1
  have g2 : a < H1.size := (hP1 (ai_w ad dA z0 h0).length (a, x) (by simp)).lt
  have g3 : z0 ≤ a := hD1.2 (ai_w ad dA z0 h0).length (a, x) (by simp)
  have g4 : (ai_w ad dA z0 h0).length = h0.length := by simp [ai_w]
  rcases Nat.lt_or_ge a (z0 + h0.length) with g | g
  · exfalso
    have g6 : a - z0 < h0.length := by omega
    have g7 := ai_w_get (ad := ad) (dA := dA) (z0 := z0) (List.getElem?_eq_getElem g6)
    have g8 := hD1.1 (a - z0) (ai_w ad dA z0 h0).length _ (a, x) (by rw [List.getElem?_append_left (by rw [g4]; exact g6)]; exact g7) (by simp) (by simp only; omega)
    omega
  · omega
theorem ai_K_arr {cA : ClassId} {k : Nat} {ty : FieldType} (hty : (ai_tys dA)[k]? = some (dA k, ty)) (hK2 : va_K D vwCl (ai_tys dA ++ [(cA, ty)]) s) : cA = dA k := by
  have h1 := (hK2.2 5 (cA, ty) rfl).2
  have h2 := (hK2.2 k (dA k, ty) (by
    have hk : k < (ai_tys dA).length := (List.getElem?_eq_some_iff.mp hty).1
    rw [List.getElem?_append_left hk]; exact hty)).2
  cases ty with
  | object C =>
    obtain ⟨_, _, -, -, -, q1⟩ := h1
    obtain ⟨_, _, -, -, -, q2⟩ := h2
    exact Option.some.inj (q1.symm.trans q2)
  | _ => exact Option.some.inj (Eq.trans (Eq.symm h1) h2)
theorem as_nwa (hx : p.tables.exec = Jvm.exec) (hb : c.code = cc) (hts : ∀ w ∈ ai_TB, w.before args s = true) (hK : va_K D vwCl (ai_tys dA) s) (had : ∀ k, k < 1000000 → ad k = z0 + k) (hZ : z0 ≤ s.heap.size ∧ ∀ q, q < z0 → s.heap[q]? = Hb[q]?) {t : ArrayType} (hF : Cond.arrayClass (newarray.typeOf t) ∈ ai_TB) {fr fr' : ai_F} (hd : decode cc fr.1 = .ok (.newarray t, 2)) (h : ai_nwa t fr = some fr') (hM : fr'.2.2.2.2.2.1 ≤ R.cells ∧ fr'.2.2.2.2.2.2 ≤ R.slots) (K : ai_W p l e R s m args below meth c Q nL D ad dA z0 Hb n0 fr') : ai_W p l e R s m args below meth c Q nL D ad dA z0 Hb n0 fr := by
  obtain ⟨pc, lv, st, h0, ex, nc, ns⟩ := fr
  unfold ai_nwa at h
  split at h
  · rename_i n st1 h1 ex1 nc1 ns1 heq
    simp only [Prod.mk.injEq] at heq
    obtain ⟨rfl, rfl, rfl, rfl, rfl, rfl, rfl⟩ := heq
    split at h
    · rename_i x hx1
      split at h
      · rename_i hc
        obtain ⟨hex, hlen, hn, hbig⟩ := hc
        cases h
        intro H locs ls hR hE hS hl
        have key : ∃ k ty, ai_kd t = k ∧ newarray.typeOf t = ty ∧ (ai_tys dA)[k]? = some (dA k, ty) ∧ (∀ cA : ClassId, vp_cell cA x = arrV cA n.toNatClampNeg (fun _ => defaultValue ty)) ∧ n.toNatClampNeg * componentBytes ty ≤ 536870912 ∧ ai_a ad x = x := by
          cases t with
          | int => cases hx1; exact ⟨0, .int, rfl, rfl, rfl, fun _ => rfl, by simp only [componentBytes]; omega, rfl⟩
          | boolean => cases hx1; exact ⟨1, .boolean, rfl, rfl, rfl, fun _ => rfl, by simp only [componentBytes]; omega, rfl⟩
          | byte => cases hx1; exact ⟨2, .byte, rfl, rfl, rfl, fun _ => rfl, by simp only [componentBytes]; omega, rfl⟩
          | long => cases hx1; exact ⟨3, .long, rfl, rfl, rfl, fun _ => rfl, by simp only [componentBytes]; omega, rfl⟩
          | _ => cases hx1
        obtain ⟨k, ty, hk, hty, htk, hcell, hby, hax⟩ := key
        refine va_newa (ty := ty) (a0 := x) (N' := n.toNatClampNeg) hx hb (hts _ hF) hty hK hR.1 ai_w_D hS (fun x9 hx9 => Nat.le_trans hZ.1 hx9) hcell hn rfl hby hM.1 hM.2 hd (fun a cA H1 hK1 hP1 hD1 hS1 => ?_)
        have hcA := ai_K_arr htk hK1
        subst hcA
        intro T hT X
        have g5 := as_at (hE hex) hP1 hD1 hT X
        have g9 : ad h0.length = a := by rw [had _ hlen, g5]
        have he : ai_w ad dA z0 h0 ++ [(a, .inl (dA k, x))] = ai_w ad dA z0 (h0 ++ [.inl (ai_kd t, x)]) := by
          rw [ai_w_push, g5]
          simp [ai_ce, hk, hax]
        rw [he] at hP1
        have kk := K H1 locs ls (ai_wr hZ hP1 (by simp; omega) hS1) (fun _ => by have := hE hex; simp; omega) hS1 hl
        rw [← g9]
        exact kk T hT X
      · cases h
    · cases h
  · cases h
theorem as_nws (hx : p.tables.exec = Jvm.exec) (hb : c.code = cc) (hts : ∀ w ∈ ai_TB, w.before args s = true) (hK : va_K D vwCl (ai_tys dA) s) (had : ∀ k, k < 1000000 → ad k = z0 + k) (hZ : z0 ≤ s.heap.size ∧ ∀ q, q < z0 → s.heap[q]? = Hb[q]?) {own : String} (hown : s.vm.findClass own = some m.cls) {ix : Nat} (hF : Cond.classLink own ix "java/lang/String" ∈ ai_TB) (hAO : va_AO "java/lang/String" s) {fr fr' : ai_F} (hd : decode cc fr.1 = .ok (.anewarray ix, 3)) (h : ai_nws fr = some fr') (hM : fr'.2.2.2.2.2.1 ≤ R.cells ∧ fr'.2.2.2.2.2.2 ≤ R.slots) (K : ai_W p l e R s m args below meth c Q nL D ad dA z0 Hb n0 fr') : ai_W p l e R s m args below meth c Q nL D ad dA z0 Hb n0 fr := by
  obtain ⟨pc, lv, st, h0, ex, nc, ns⟩ := fr
  unfold ai_nws at h
  split at h
  · rename_i n st1 h1 ex1 nc1 ns1 heq
    simp only [Prod.mk.injEq] at heq
    obtain ⟨rfl, rfl, rfl, rfl, rfl, rfl, rfl⟩ := heq
    split at h
    · rename_i hc
      obtain ⟨hex, hlen, hn, hbig⟩ := hc
      cases h
      intro H locs ls hR hE hS hl
      refine va_newq (C := "java/lang/String") (N' := n.toNatClampNeg) hx hb hown (hts _ hF) hAO hK hR.1 ai_w_D hS (fun x9 hx9 => Nat.le_trans hZ.1 hx9) hn rfl (by omega) hM.1 hM.2 hd (fun a cA H1 hK1 hP1 hD1 hS1 => ?_)
      have hcA := ai_K_arr (k := 4) rfl hK1
      subst hcA
      intro T hT X
      have g5 := as_at (hE hex) hP1 hD1 hT X
      have g9 : ad h0.length = a := by rw [had _ hlen, g5]
      have he : ai_w ad dA z0 h0 ++ [(a, .inl (dA 4, n.toNatClampNeg, .inr (.inr (.inr (.inr (fun _ => none))))))] = ai_w ad dA z0 (h0 ++ [.inl (4, n.toNatClampNeg, .inr (.inr (.inr (.inr (fun _ => none)))))]) := by
        rw [ai_w_push, g5]
        rfl
      rw [he] at hP1
      have kk := K H1 locs ls (ai_wr hZ hP1 (by simp; omega) hS1) (fun _ => by have := hE hex; simp; omega) hS1 hl
      rw [← g9]
      exact kk T hT X
    · cases h
  · cases h
theorem as_aas (hx : p.tables.exec = Jvm.exec) (hb : c.code = cc) (hts : ∀ w ∈ ai_TB, w.before args s = true) (hK : va_K D vwCl (ai_tys dA) s) (had : ∀ k, k < 1000000 → ad k = z0 + k) (hZ : z0 ≤ s.heap.size ∧ ∀ q, q < z0 → s.heap[q]? = Hb[q]?) {NS : Nat} (hF : ∀ v, 1000001 ≤ v → v < 1000001 + NS → va_O "java/lang/String" (ad v) (fun q : Nat => z0 ≤ q) s s.heap) {fr fr' : ai_F} (hd : decode cc fr.1 = .ok (.aastore, 1)) (h : ai_aas NS fr = some fr') (K : ai_W p l e R s m args below meth c Q nL D ad dA z0 Hb n0 fr') : ai_W p l e R s m args below meth c Q nL D ad dA z0 Hb n0 fr := by
  obtain ⟨pc, lv, st, h0, ex, nc, ns⟩ := fr
  unfold ai_aas at h
  split at h
  · rename_i v i a st1 h1 r heq
    simp only [Prod.mk.injEq] at heq
    obtain ⟨rfl, rfl, rfl, rfl, rfl⟩ := heq
    split at h
    · rename_i n f hh
      split at h
      · rename_i hi
        cases h
        intro H locs ls hR hE hS hl
        have ha : a < h0.length := (List.getElem?_eq_some_iff.mp hh).1
        have hae : ad a = z0 + a := had a (Nat.lt_of_lt_of_le ha hR.2.1)
        have hwg := ai_w_get (ad := ad) (dA := dA) (z0 := z0) hh
        rw [← hae] at hwg
        obtain ⟨cell, q1, q2, q3, q4⟩ := hF v hi.2.1 hi.2.2
        have hany : va_Any "java/lang/String" s H (ad v) := by
          obtain ⟨kC, hkC, -⟩ := Vm.findClass_spec q3
          refine ⟨cell, ?_, q2, ⟨kC, hkC⟩, fun comp hcomp => ?_⟩
          · rw [hS.2.1 (ad v) (Array.getElem?_eq_some_iff.mp q1).1 q4]
            exact q1
          · cases Option.some.inj (q3.symm.trans hcomp)
            exact va_asg _ _
        refine va_astqM hx hb hK hR.1 ai_w_D hS a 4 hwg rfl hany (ai_in_of hi.1) hd (fun H1 locs1 hP1 _ hS1 => ?_)
        have he : (ai_w ad dA z0 h0).set a (ad a, .inl (dA 4, n, .inr (.inr (.inr (.inr (va_up (fun j => (f j).map ad) i.toNatClampNeg (some (ad v)))))))) = ai_w ad dA z0 (h0.set a (.inl (4, n, .inr (.inr (.inr (.inr (va_up f i.toNatClampNeg (some v)))))))) := by
          rw [ai_w_set, hae]
          have : (fun j => (va_up f i.toNatClampNeg (some v) j).map ad) = va_up (fun j => (f j).map ad) i.toNatClampNeg (some (ad v)) := by
            funext j
            unfold va_up
            split <;> rfl
          simp [ai_ce, ai_a, this]
        rw [he] at hP1
        exact K H1 locs1 ls (ai_wr hZ hP1 (by simpa using hR.2.1) hS1) (by simpa using hE) hS1 hl
      · cases h
    · cases h
  · cases h
theorem as_aal (hx : p.tables.exec = Jvm.exec) (hb : c.code = cc) (hts : ∀ w ∈ ai_TB, w.before args s = true) (hK : va_K D vwCl (ai_tys dA) s) (had : ∀ k, k < 1000000 → ad k = z0 + k) (hZ : z0 ≤ s.heap.size ∧ ∀ q, q < z0 → s.heap[q]? = Hb[q]?) {fr fr' : ai_F} (hd : decode cc fr.1 = .ok (.aaload, 1)) (h : ai_aal fr = some fr') (K : ai_W p l e R s m args below meth c Q nL D ad dA z0 Hb n0 fr') : ai_W p l e R s m args below meth c Q nL D ad dA z0 Hb n0 fr := by
  obtain ⟨pc, lv, st, h0, ex, nc, ns⟩ := fr
  unfold ai_aal at h
  split at h
  · rename_i i a st1 h1 r heq
    simp only [Prod.mk.injEq] at heq
    obtain ⟨rfl, rfl, rfl, rfl, rfl⟩ := heq
    split at h
    · rename_i n f hh
      split at h
      · rename_i hi
        cases h
        intro H locs ls hR hE hS hl
        have ha : a < h0.length := (List.getElem?_eq_some_iff.mp hh).1
        have hae : ad a = z0 + a := had a (Nat.lt_of_lt_of_le ha hR.2.1)
        have hwg := ai_w_get (ad := ad) (dA := dA) (z0 := z0) hh
        rw [← hae] at hwg
        have hv : va_rf ((f i.toNatClampNeg).map ad) = ai_v ad (va_rf (f i.toNatClampNeg)) := by
          cases f i.toNatClampNeg <;> rfl
        refine va_aldq (C := "java/lang/String") hx hb hK hR.1 a 4 hwg rfl (ai_in_of hi) hd ?_
        show W p l e R s m args below meth c H locs nc ns Q (F0 m (pc + 1) ls (va_rf ((f i.toNatClampNeg).map ad) :: st1.map (ai_v ad)))
        rw [hv]
        exact K H locs ls hR hE hS hl
      · cases h
    · cases h
  · cases h
theorem ai_nfw : nativeFrameWords "java/lang/System" "arraycopy" 5 ≤ 100 := by decide +kernel
theorem as_cpy (hx : p.tables.exec = Jvm.exec) (hb : c.code = cc) (hts : ∀ w ∈ ai_TB, w.before args s = true) (hK : va_K D vwCl (ai_tys dA) s) (had : ∀ k, k < 1000000 → ad k = z0 + k) (hZ : z0 ≤ s.heap.size ∧ ∀ q, q < z0 → s.heap[q]? = Hb[q]?) {own : String} (hown : s.vm.findClass own = some m.cls) (hml : c.maxLocals = nL) {KL : ai_L} {ix : Nat} (hF : Cond.methodLink own ix arraycopyName ∈ ai_TB) (hO : Cond.native arraycopyName ∈ ai_TB ∧ Cond.static arraycopyName ∈ ai_TB ∧ Cond.initialized "java/lang/System" ∈ ai_TB) (hRm : 1 ≤ R.frames ∧ 120 ≤ R.locals) {fr fr' : ai_F} (hd : decode cc fr.1 = .ok (.invokestatic ix, 3)) (h : ai_cpy KL ix fr = some fr') (K : ai_W p l e R s m args below meth c Q nL D ad dA z0 Hb n0 fr') : ai_W p l e R s m args below meth c Q nL D ad dA z0 Hb n0 fr := by
  obtain ⟨pc, lv, st, h0, ex, nc, ns⟩ := fr
  unfold ai_cpy at h
  split at h
  · rename_i n dp a sp a0 st1 h1 r heq
    simp only [Prod.mk.injEq] at heq
    obtain ⟨rfl, rfl, rfl, rfl, rfl⟩ := heq
    split at h
    · rename_i q n9 hf
      split at h
      · rename_i n0 f hh0
        split at h
        · rename_i n1 g hh1
          split at h
          · rename_i hc
            obtain ⟨rfl, c1, c2, c3, c4, c5, c6⟩ := hc
            cases h
            intro H locs ls hR hE hS hl
            have ha0 : a0 < h0.length := (List.getElem?_eq_some_iff.mp hh0).1
            have hae0 : ad a0 = z0 + a0 := had a0 (Nat.lt_of_lt_of_le ha0 hR.2.1)
            have hw0 := ai_w_get (ad := ad) (dA := dA) (z0 := z0) hh0
            rw [← hae0] at hw0
            have ha : a < h0.length := (List.getElem?_eq_some_iff.mp hh1).1
            have hae : ad a = z0 + a := had a (Nat.lt_of_lt_of_le ha hR.2.1)
            have hw1 := ai_w_get (ad := ad) (dA := dA) (z0 := z0) hh1
            rw [← hae] at hw1
            have hs : ((st1.map (ai_v ad)).map fun v => v.category).sum = ai_sum st1 := by
              simp [ai_sum, Function.comp_def, ai_v_cat]
            have hnf := ai_nfw
            refine va_copyi (ty := .int) hx hb (by rw [hml]; exact hl.1.symm) hown (hts _ hF) (hts _ hO.1) (hts _ hO.2.1) (hts _ hO.2.2) hK hR.1 ai_w_D hS a0 a 0 0 hw0 hw1 rfl rfl rfl c1 c2 c3 c4 c5 (fun _ _ => rfl) hRm.1 (by rw [hs]; omega) hd (fun H1 locs1 hP1 _ hS1 => ?_)
            have he : (ai_w ad dA z0 h0).set a (ad a, .inl (dA 0, n1, .inl (va_cpy f g sp.toNatClampNeg dp.toNatClampNeg n.toNatClampNeg))) = ai_w ad dA z0 (h0.set a (.inl (0, n1, .inl (va_cpy f g sp.toNatClampNeg dp.toNatClampNeg n.toNatClampNeg)))) := by
              rw [ai_w_set, hae]
              rfl
            rw [he] at hP1
            exact K H1 locs1 ls (ai_wr hZ hP1 (by simpa using hR.2.1) hS1) (by simpa using hE) hS1 hl
          · cases h
        · cases h
      · cases h
    · cases h
  · cases h
theorem as_min (hx : p.tables.exec = Jvm.exec) (hb : c.code = cc) (hts : ∀ w ∈ ai_TB, w.before args s = true) {own : String} (hown : s.vm.findClass own = some m.cls) (hml : c.maxLocals = nL) {ix : Nat} (hF : Cond.methodLink own ix Lib.Math.min.name ∈ ai_TB) (hO : Cond.static Lib.Math.min.name ∈ ai_TB ∧ Cond.initialized "java/lang/Math" ∈ ai_TB ∧ Cond.code Lib.Math.min.name Lib.Math.min.code 2 (some .int) ∈ ai_TB) (hRm : 1 ≤ R.frames ∧ 120 ≤ R.locals) {fr fr' : ai_F} (hd : decode cc fr.1 = .ok (.invokestatic ix, 3)) (h : ai_mm (fun x y => if y < x then y else x) fr = some fr') (hM : fr'.2.2.2.2.2.1 ≤ R.cells ∧ fr'.2.2.2.2.2.2 ≤ R.slots) (K : ai_W p l e R s m args below meth c Q nL D ad dA z0 Hb n0 fr') : ai_W p l e R s m args below meth c Q nL D ad dA z0 Hb n0 fr := by
  obtain ⟨pc, lv, st, h0, ex, nc, ns⟩ := fr
  unfold ai_mm at h
  split at h
  · rename_i heq
    split at h
    · rename_i hc
      simp only [Prod.mk.injEq] at heq
      obtain ⟨rfl, rfl, rfl, rfl⟩ := heq
      cases h
      intro H locs ls hR hE hS hl
      refine va_mmin hx hb (by rw [hml]; exact hl.1.symm) hown (hts _ hF) (hts _ hO.1) (hts _ hO.2.1) (hts _ hO.2.2) hRm.1 ?_ hM.1 hM.2 hd (K H locs ls hR hE hS hl)
      rw [show ∀ z : List Value, ((z.map (ai_v ad)).map fun v => v.category).sum = ai_sum z from fun z => by simp [ai_sum, Function.comp_def, ai_v_cat]]
      omega
    · cases h
  · cases h
theorem as_max (hx : p.tables.exec = Jvm.exec) (hb : c.code = cc) (hts : ∀ w ∈ ai_TB, w.before args s = true) {own : String} (hown : s.vm.findClass own = some m.cls) (hml : c.maxLocals = nL) {ix : Nat} (hF : Cond.methodLink own ix Lib.Math.max.name ∈ ai_TB) (hO : Cond.static Lib.Math.max.name ∈ ai_TB ∧ Cond.initialized "java/lang/Math" ∈ ai_TB ∧ Cond.code Lib.Math.max.name Lib.Math.max.code 2 (some .int) ∈ ai_TB) (hRm : 1 ≤ R.frames ∧ 120 ≤ R.locals) {fr fr' : ai_F} (hd : decode cc fr.1 = .ok (.invokestatic ix, 3)) (h : ai_mm (fun x y => if x < y then y else x) fr = some fr') (hM : fr'.2.2.2.2.2.1 ≤ R.cells ∧ fr'.2.2.2.2.2.2 ≤ R.slots) (K : ai_W p l e R s m args below meth c Q nL D ad dA z0 Hb n0 fr') : ai_W p l e R s m args below meth c Q nL D ad dA z0 Hb n0 fr := by
  obtain ⟨pc, lv, st, h0, ex, nc, ns⟩ := fr
  unfold ai_mm at h
  split at h
  · rename_i heq
    split at h
    · rename_i hc
      simp only [Prod.mk.injEq] at heq
      obtain ⟨rfl, rfl, rfl, rfl⟩ := heq
      cases h
      intro H locs ls hR hE hS hl
      refine va_mmax hx hb (by rw [hml]; exact hl.1.symm) hown (hts _ hF) (hts _ hO.1) (hts _ hO.2.1) (hts _ hO.2.2) hRm.1 ?_ hM.1 hM.2 hd (K H locs ls hR hE hS hl)
      rw [show ∀ z : List Value, ((z.map (ai_v ad)).map fun v => v.category).sum = ai_sum z from fun z => by simp [ai_sum, Function.comp_def, ai_v_cat]]
      omega
    · cases h
  · cases h
theorem as_abs (hx : p.tables.exec = Jvm.exec) (hb : c.code = cc) (hts : ∀ w ∈ ai_TB, w.before args s = true) {own : String} (hown : s.vm.findClass own = some m.cls) (hml : c.maxLocals = nL) {ix : Nat} (hF : Cond.methodLink own ix Lib.Math.abs.name ∈ ai_TB) (hO : Cond.static Lib.Math.abs.name ∈ ai_TB ∧ Cond.initialized "java/lang/Math" ∈ ai_TB ∧ Cond.code Lib.Math.abs.name Lib.Math.abs.code 1 (some .int) ∈ ai_TB) (hRm : 1 ≤ R.frames ∧ 120 ≤ R.locals) {fr fr' : ai_F} (hd : decode cc fr.1 = .ok (.invokestatic ix, 3)) (h : ai_ab fr = some fr') (hM : fr'.2.2.2.2.2.1 ≤ R.cells ∧ fr'.2.2.2.2.2.2 ≤ R.slots) (K : ai_W p l e R s m args below meth c Q nL D ad dA z0 Hb n0 fr') : ai_W p l e R s m args below meth c Q nL D ad dA z0 Hb n0 fr := by
  obtain ⟨pc, lv, st, h0, ex, nc, ns⟩ := fr
  unfold ai_ab at h
  split at h
  · rename_i heq
    split at h
    · rename_i hc
      simp only [Prod.mk.injEq] at heq
      obtain ⟨rfl, rfl, rfl, rfl⟩ := heq
      cases h
      intro H locs ls hR hE hS hl
      refine va_mabs hx hb (by rw [hml]; exact hl.1.symm) hown (hts _ hF) (hts _ hO.1) (hts _ hO.2.1) (hts _ hO.2.2) hRm.1 ?_ hM.1 hM.2 hd (K H locs ls hR hE hS hl)
      rw [show ∀ z : List Value, ((z.map (ai_v ad)).map fun v => v.category).sum = ai_sum z from fun z => by simp [ai_sum, Function.comp_def, ai_v_cat]]
      omega
    · cases h
  · cases h
end AIQ
