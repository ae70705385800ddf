/-! THE MACHINE KEEPS THE INTERPRETER'S STEPS: instructions that call nothing -/
def ai_TB : List Cond := lw_tbl.filter goodWord
theorem lv_mono {ls : Array Slot} {nL : Nat} {l l' : List (Nat × Value)} (h : lv_has ls nL l) (hm : ∀ q ∈ l', q ∈ l) : lv_has ls nL l' := ⟨h.1, h.2.1, fun q hq => h.2.2 q (hm q hq)⟩
theorem ai_lv_at {ad : Nat → Nat} {ls : Array Slot} {nL : Nat} {lv : List (Nat × Value)} {i : Nat} {v : Value} (h : lv_has ls nL (ai_lv ad lv)) (hi : ai_as lv i = some v) : ls[i]? = some (.val (ai_v ad v)) :=
  h.2.2 (i, ai_v ad v) (List.mem_map.mpr ⟨(i, v), ai_as_mem hi, rfl⟩)
theorem ai_sl_sub {ad : Nat → Nat} {lv : List (Nat × Value)} {i : Nat} {v : Value} (h1 : ai_c1 lv = true) : ∀ q ∈ ai_lv ad (ai_sl lv i v), q ∈ (i, ai_v ad v) :: (ai_lv ad lv).filter (fun q => !(q.1 == i) && !(q.1 + 1 == i && q.2.category == 2)) := by
  intro q hq
  obtain ⟨q0, h2, rfl⟩ := List.mem_map.mp hq
  rcases ai_sl_mem h2 with rfl | ⟨h3, h4⟩
  · exact List.mem_cons_self
  · refine List.mem_cons_of_mem _ (List.mem_filter.mpr ⟨List.mem_map.mpr ⟨q0, h3, rfl⟩, ?_⟩)
    have h5 := List.all_eq_true.mp h1 q0 h3
    have h6 : q0.2.category = 1 := by simpa using h5
    simp [h4, ai_v_cat, h6]
theorem ai_in_of {i : Int32} {n : Nat} (h : ai_in i n = true) : vp_in i n := by
  simp only [ai_in, Bool.and_eq_true, Bool.not_eq_true', decide_eq_false_iff_not, decide_eq_true_eq] at h
  rintro (q | q)
  · exact h.1 q
  · exact absurd h.2 (Nat.not_lt.mpr q)
theorem ai_R.len {D : va_G} {ad : Nat → Nat} {dA : Nat → ClassId} {z0 : Nat} {Hb : Heap} {h : ai_H} {H : Heap} (hR : ai_R D ad dA z0 Hb h H) : z0 + h.length ≤ H.size := by
  obtain ⟨hP, -, hz, -⟩ := hR
  cases hl : h.length with
  | zero => exact hz
  | succ n =>
    have hn : n < h.length := by omega
    have := (hP n _ (ai_w_get (List.getElem?_eq_getElem hn))).lt
    simp only at this
    omega
section AIS
variable {p : Program} {l : Launch} {e : Env} {R : Room} {s : State} {m : MethodId} {args : Array Value} {below : List Frame} {meth : Method} {c : Code} {Q : State → Prop} {nL : Nat} {D : va_G} {ad : Nat → Nat} {dA : Nat → ClassId} {z0 : Nat} {Hb : Heap} {n0 : Nat} {cc : ByteArray}
theorem as_exact {H : Heap} {locs : List Loc} {nc ns : Nat} {h : ai_H} {g : JFrame} (hR : ai_R D ad dA z0 Hb h H) (hx : h.length = n0 + nc ∧ s.heap.size = z0 + n0) (k : H.size = z0 + h.length → W p l e R s m args below meth c H locs nc ns Q g) : W p l e R s m args below meth c H locs nc ns Q g := by
  intro T hT X
  refine k ?_ T hT X
  have h1 : T.heap.size ≤ s.heap.size + nc := X.same.2.2.1
  have h2 := hR.len
  rw [hT] at h1
  omega
theorem as_iconst (hx : p.tables.exec = Jvm.exec) (hb : c.code = cc) {n : Int} {fr fr' : ai_F} (hd : decode cc fr.1 = .ok (.iconst n, 1)) (h : ai_push (.int (Int32.ofInt n)) 1 fr = some fr') (K : ai_W p l e R s m args below meth c Q nL D ad dA z0 Hb n0 fr') : ai_W p l e R s m args below meth c Q nL D ad dA z0 Hb n0 fr := by
  obtain ⟨pc, lv, st, h0, ex, nc, ns⟩ := fr
  cases h
  intro H locs ls hR hE hS hl
  exact lv_iconst hx hb hd rfl (K H locs ls hR hE hS hl)
theorem as_bipush (hx : p.tables.exec = Jvm.exec) (hb : c.code = cc) {n : Int} {fr fr' : ai_F} (hd : decode cc fr.1 = .ok (.bipush n, 2)) (h : ai_push (.int (Int8.ofInt n).toInt32) 2 fr = some fr') (K : ai_W p l e R s m args below meth c Q nL D ad dA z0 Hb n0 fr') : ai_W p l e R s m args below meth c Q nL D ad dA z0 Hb n0 fr := by
  obtain ⟨pc, lv, st, h0, ex, nc, ns⟩ := fr
  cases h
  intro H locs ls hR hE hS hl
  exact lv_bipush hx hb hd rfl (K H locs ls hR hE hS hl)
theorem as_sipush (hx : p.tables.exec = Jvm.exec) (hb : c.code = cc) {n : Int} {fr fr' : ai_F} (hd : decode cc fr.1 = .ok (.sipush n, 3)) (h : ai_push (.int (Int16.ofInt n).toInt32) 3 fr = some fr') (K : ai_W p l e R s m args below meth c Q nL D ad dA z0 Hb n0 fr') : ai_W p l e R s m args below meth c Q nL D ad dA z0 Hb n0 fr := by
  obtain ⟨pc, lv, st, h0, ex, nc, ns⟩ := fr
  cases h
  intro H locs ls hR hE hS hl
  exact lv_sipush hx hb hd rfl (K H locs ls hR hE hS hl)
theorem as_lconst (hx : p.tables.exec = Jvm.exec) (hb : c.code = cc) {n : Fin 2} {fr fr' : ai_F} (hd : decode cc fr.1 = .ok (.lconst n, 1)) (h : ai_push (.long (Int64.ofNat n)) 1 fr = some fr') (K : ai_W p l e R s m args below meth c Q nL D ad dA z0 Hb n0 fr') : ai_W p l e R s m args below meth c Q nL D ad dA z0 Hb n0 fr := by
  obtain ⟨pc, lv, st, h0, ex, nc, ns⟩ := fr
  cases h
  intro H locs ls hR hE hS hl
  exact lv_lconst hx hb hd rfl (K H locs ls hR hE hS hl)
theorem as_iload_n (hx : p.tables.exec = Jvm.exec) (hb : c.code = cc) {k : Fin 4} {fr fr' : ai_F} (hd : decode cc fr.1 = .ok (.iload_n k, 1)) (h : ai_ld 1 k fr = some fr') (K : ai_W p l e R s m args below meth c Q nL D ad dA z0 Hb n0 fr') : ai_W p l e R s m args below meth c Q nL D ad dA z0 Hb n0 fr := by
  obtain ⟨pc, lv, st, h0, ex, nc, ns⟩ := fr
  simp only [ai_ld] at h
  split at h
  · rename_i x hx1
    cases h
    intro H locs ls hR hE hS hl
    exact lv_iload_n hx hb hd rfl (ai_lv_at hl hx1) (K H locs ls hR hE hS hl)
  · cases h
theorem as_iload (hx : p.tables.exec = Jvm.exec) (hb : c.code = cc) {k : Nat} {fr fr' : ai_F} (hd : decode cc fr.1 = .ok (.iload k, 2)) (h : ai_ld 2 k fr = some fr') (K : ai_W p l e R s m args below meth c Q nL D ad dA z0 Hb n0 fr') : ai_W p l e R s m args below meth c Q nL D ad dA z0 Hb n0 fr := by
  obtain ⟨pc, lv, st, h0, ex, nc, ns⟩ := fr
  simp only [ai_ld] at h
  split at h
  · rename_i x hx1
    cases h
    intro H locs ls hR hE hS hl
    exact lv_iload hx hb hd (ai_lv_at hl hx1) (K H locs ls hR hE hS hl)
  · cases h
theorem as_aload_n (hx : p.tables.exec = Jvm.exec) (hb : c.code = cc) {k : Fin 4} {fr fr' : ai_F} (hd : decode cc fr.1 = .ok (.aload_n k, 1)) (h : ai_lda 1 k fr = some fr') (K : ai_W p l e R s m args below meth c Q nL D ad dA z0 Hb n0 fr') : ai_W p l e R s m args below meth c Q nL D ad dA z0 Hb n0 fr := by
  obtain ⟨pc, lv, st, h0, ex, nc, ns⟩ := fr
  simp only [ai_lda] at h
  split at h
  · rename_i x hx1
    cases h
    intro H locs ls hR hE hS hl
    exact lv_aload_n hx hb hd rfl (ai_lv_at hl hx1) (K H locs ls hR hE hS hl)
  · cases h
theorem as_aload (hx : p.tables.exec = Jvm.exec) (hb : c.code = cc) {k : Nat} {fr fr' : ai_F} (hd : decode cc fr.1 = .ok (.aload k, 2)) (h : ai_lda 2 k fr = some fr') (K : ai_W p l e R s m args below meth c Q nL D ad dA z0 Hb n0 fr') : ai_W p l e R s m args below meth c Q nL D ad dA z0 Hb n0 fr := by
  obtain ⟨pc, lv, st, h0, ex, nc, ns⟩ := fr
  simp only [ai_lda] at h
  split at h
  · rename_i x hx1
    cases h
    intro H locs ls hR hE hS hl
    exact lv_aload hx hb hd (ai_lv_at hl hx1) (K H locs ls hR hE hS hl)
  · cases h
theorem as_istore_n (hx : p.tables.exec = Jvm.exec) (hb : c.code = cc) {k : Fin 4} {fr fr' : ai_F} (hd : decode cc fr.1 = .ok (.istore_n k, 1)) (h : ai_sto nL 1 k fr = some fr') (K : ai_W p l e R s m args below meth c Q nL D ad dA z0 Hb n0 fr') : ai_W p l e R s m args below meth c Q nL D ad dA z0 Hb n0 fr := by
  obtain ⟨pc, lv, st, h0, ex, nc, ns⟩ := fr
  unfold ai_sto at h
  split at h
  · rename_i heq
    split at h
    · rename_i hc
      simp only [Prod.mk.injEq] at heq
      obtain ⟨rfl, rfl, rfl, rfl⟩ := heq
      cases h
      intro H locs ls hR hE hS hl
      exact lv_istore_n hx hb hd rfl hl hc.1 rfl (fun ls' hl' => K H locs ls' hR hE hS (lv_mono hl' (ai_sl_sub hc.2)))
    · cases h
  · cases h
theorem as_istore (hx : p.tables.exec = Jvm.exec) (hb : c.code = cc) {k : Nat} {fr fr' : ai_F} (hd : decode cc fr.1 = .ok (.istore k, 2)) (h : ai_sto nL 2 k fr = some fr') (K : ai_W p l e R s m args below meth c Q nL D ad dA z0 Hb n0 fr') : ai_W p l e R s m args below meth c Q nL D ad dA z0 Hb n0 fr := by
  obtain ⟨pc, lv, st, h0, ex, nc, ns⟩ := fr
  unfold ai_sto at h
  split at h
  · rename_i heq
    split at h
    · rename_i hc
      simp only [Prod.mk.injEq] at heq
      obtain ⟨rfl, rfl, rfl, rfl⟩ := heq
      cases h
      intro H locs ls hR hE hS hl
      exact lv_istore hx hb hd hl hc.1 rfl (fun ls' hl' => K H locs ls' hR hE hS (lv_mono hl' (ai_sl_sub hc.2)))
    · cases h
  · cases h
theorem as_astore_n (hx : p.tables.exec = Jvm.exec) (hb : c.code = cc) {k : Fin 4} {fr fr' : ai_F} (hd : decode cc fr.1 = .ok (.astore_n k, 1)) (h : ai_sta nL 1 k fr = some fr') (K : ai_W p l e R s m args below meth c Q nL D ad dA z0 Hb n0 fr') : ai_W p l e R s m args below meth c Q nL D ad dA z0 Hb n0 fr := by
  obtain ⟨pc, lv, st, h0, ex, nc, ns⟩ := fr
  unfold ai_sta at h
  split at h
  · rename_i heq
    split at h
    · rename_i hc
      simp only [Prod.mk.injEq] at heq
      obtain ⟨rfl, rfl, rfl, rfl⟩ := heq
      cases h
      intro H locs ls hR hE hS hl
      exact lv_astore_n hx hb hd rfl hl hc.1 rfl (fun ls' hl' => K H locs ls' hR hE hS (lv_mono hl' (ai_sl_sub hc.2)))
    · cases h
  · cases h
theorem as_astore (hx : p.tables.exec = Jvm.exec) (hb : c.code = cc) {k : Nat} {fr fr' : ai_F} (hd : decode cc fr.1 = .ok (.astore k, 2)) (h : ai_sta nL 2 k fr = some fr') (K : ai_W p l e R s m args below meth c Q nL D ad dA z0 Hb n0 fr') : ai_W p l e R s m args below meth c Q nL D ad dA z0 Hb n0 fr := by
  obtain ⟨pc, lv, st, h0, ex, nc, ns⟩ := fr
  unfold ai_sta at h
  split at h
  · rename_i heq
    split at h
    · rename_i hc
      simp only [Prod.mk.injEq] at heq
      obtain ⟨rfl, rfl, rfl, rfl⟩ := heq
      cases h
      intro H locs ls hR hE hS hl
      exact lv_astore hx hb hd hl hc.1 rfl (fun ls' hl' => K H locs ls' hR hE hS (lv_mono hl' (ai_sl_sub hc.2)))
    · cases h
  · cases h
theorem as_iinc (hx : p.tables.exec = Jvm.exec) (hb : c.code = cc) {k : Nat} {d : Int} {fr fr' : ai_F} (hd : decode cc fr.1 = .ok (.iinc k d, 3)) (h : ai_inc nL k d fr = some fr') (K : ai_W p l e R s m args below meth c Q nL D ad dA z0 Hb n0 fr') : ai_W p l e R s m args below meth c Q nL D ad dA z0 Hb n0 fr := by
  obtain ⟨pc, lv, st, h0, ex, nc, ns⟩ := fr
  simp only [ai_inc] at h
  split at h
  · rename_i x hx1
    split at h
    · rename_i hc
      cases h
      intro H locs ls hR hE hS hl
      obtain ⟨j, hj⟩ := List.getElem?_of_mem (List.mem_map.mpr ⟨(k, .int x), ai_as_mem hx1, rfl⟩ : (k, ai_v ad (.int x)) ∈ ai_lv ad lv)
      exact lv_iinc hx hb hd hl hj rfl hc.1 rfl (fun ls' hl' => K H locs ls' hR hE hS (lv_mono hl' (ai_sl_sub hc.2)))
    · cases h
  · cases h
theorem as_iadd (hx : p.tables.exec = Jvm.exec) (hb : c.code = cc) {fr fr' : ai_F} (hd : decode cc fr.1 = .ok (.iadd, 1)) (h : ai_bin (fun x y => x + y) fr = some fr') (K : ai_W p l e R s m args below meth c Q nL D ad dA z0 Hb n0 fr') : ai_W p l e R s m args below meth c Q nL D ad dA z0 Hb n0 fr := by
  obtain ⟨pc, lv, st, h0, ex, nc, ns⟩ := fr
  unfold ai_bin at h
  split at h
  · rename_i heq
    simp only [Prod.mk.injEq] at heq
    obtain ⟨rfl, rfl, rfl, rfl⟩ := heq
    cases h
    intro H locs ls hR hE hS hl
    exact lv_iadd hx hb hd (K H locs ls hR hE hS hl)
  · cases h
theorem as_isub (hx : p.tables.exec = Jvm.exec) (hb : c.code = cc) {fr fr' : ai_F} (hd : decode cc fr.1 = .ok (.isub, 1)) (h : ai_bin (fun x y => x - y) fr = some fr') (K : ai_W p l e R s m args below meth c Q nL D ad dA z0 Hb n0 fr') : ai_W p l e R s m args below meth c Q nL D ad dA z0 Hb n0 fr := by
  obtain ⟨pc, lv, st, h0, ex, nc, ns⟩ := fr
  unfold ai_bin at h
  split at h
  · rename_i heq
    simp only [Prod.mk.injEq] at heq
    obtain ⟨rfl, rfl, rfl, rfl⟩ := heq
    cases h
    intro H locs ls hR hE hS hl
    exact lv_isub hx hb hd (K H locs ls hR hE hS hl)
  · cases h
theorem as_imul (hx : p.tables.exec = Jvm.exec) (hb : c.code = cc) {fr fr' : ai_F} (hd : decode cc fr.1 = .ok (.imul, 1)) (h : ai_bin (fun x y => x * y) fr = some fr') (K : ai_W p l e R s m args below meth c Q nL D ad dA z0 Hb n0 fr') : ai_W p l e R s m args below meth c Q nL D ad dA z0 Hb n0 fr := by
  obtain ⟨pc, lv, st, h0, ex, nc, ns⟩ := fr
  unfold ai_bin at h
  split at h
  · rename_i heq
    simp only [Prod.mk.injEq] at heq
    obtain ⟨rfl, rfl, rfl, rfl⟩ := heq
    cases h
    intro H locs ls hR hE hS hl
    exact lv_imul hx hb hd (K H locs ls hR hE hS hl)
  · cases h
theorem as_iand (hx : p.tables.exec = Jvm.exec) (hb : c.code = cc) {fr fr' : ai_F} (hd : decode cc fr.1 = .ok (.iand, 1)) (h : ai_bin (fun x y => x &&& y) fr = some fr') (K : ai_W p l e R s m args below meth c Q nL D ad dA z0 Hb n0 fr') : ai_W p l e R s m args below meth c Q nL D ad dA z0 Hb n0 fr := by
  obtain ⟨pc, lv, st, h0, ex, nc, ns⟩ := fr
  unfold ai_bin at h
  split at h
  · rename_i heq
    simp only [Prod.mk.injEq] at heq
    obtain ⟨rfl, rfl, rfl, rfl⟩ := heq
    cases h
    intro H locs ls hR hE hS hl
    exact lv_iand hx hb hd (K H locs ls hR hE hS hl)
  · cases h
theorem as_ishr (hx : p.tables.exec = Jvm.exec) (hb : c.code = cc) {fr fr' : ai_F} (hd : decode cc fr.1 = .ok (.ishr, 1)) (h : ai_bin (fun x y => x >>> (y &&& 31)) fr = some fr') (K : ai_W p l e R s m args below meth c Q nL D ad dA z0 Hb n0 fr') : ai_W p l e R s m args below meth c Q nL D ad dA z0 Hb n0 fr := by
  obtain ⟨pc, lv, st, h0, ex, nc, ns⟩ := fr
  unfold ai_bin at h
  split at h
  · rename_i heq
    simp only [Prod.mk.injEq] at heq
    obtain ⟨rfl, rfl, rfl, rfl⟩ := heq
    cases h
    intro H locs ls hR hE hS hl
    exact lv_ishr hx hb hd (K H locs ls hR hE hS hl)
  · cases h
theorem as_idiv (hx : p.tables.exec = Jvm.exec) (hb : c.code = cc) {fr fr' : ai_F} (hd : decode cc fr.1 = .ok (.idiv, 1)) (h : ai_dv (fun x y => x / y) fr = some fr') (K : ai_W p l e R s m args below meth c Q nL D ad dA z0 Hb n0 fr') : ai_W p l e R s m args below meth c Q nL D ad dA z0 Hb n0 fr := by
  obtain ⟨pc, lv, st, h0, ex, nc, ns⟩ := fr
  unfold ai_dv at h
  split at h
  · rename_i heq
    simp only [Prod.mk.injEq] at heq
    obtain ⟨rfl, rfl, rfl, rfl⟩ := heq
    split at h
    · cases h
    · rename_i hc
      cases h
      intro H locs ls hR hE hS hl
      exact lv_idiv hx hb hd hc (K H locs ls hR hE hS hl)
  · cases h
theorem as_irem (hx : p.tables.exec = Jvm.exec) (hb : c.code = cc) {fr fr' : ai_F} (hd : decode cc fr.1 = .ok (.irem, 1)) (h : ai_dv (fun x y => x - x / y * y) fr = some fr') (K : ai_W p l e R s m args below meth c Q nL D ad dA z0 Hb n0 fr') : ai_W p l e R s m args below meth c Q nL D ad dA z0 Hb n0 fr := by
  obtain ⟨pc, lv, st, h0, ex, nc, ns⟩ := fr
  unfold ai_dv at h
  split at h
  · rename_i heq
    simp only [Prod.mk.injEq] at heq
    obtain ⟨rfl, rfl, rfl, rfl⟩ := heq
    split at h
    · cases h
    · rename_i hc
      cases h
      intro H locs ls hR hE hS hl
      exact lv_irem hx hb hd hc (K H locs ls hR hE hS hl)
  · cases h
theorem as_i2l (hx : p.tables.exec = Jvm.exec) (hb : c.code = cc) {fr fr' : ai_F} (hd : decode cc fr.1 = .ok (.i2l, 1)) (h : ai_i2l fr = some fr') (K : ai_W p l e R s m args below meth c Q nL D ad dA z0 Hb n0 fr') : ai_W p l e R s m args below meth c Q nL D ad dA z0 Hb n0 fr := by
  obtain ⟨pc, lv, st, h0, ex, nc, ns⟩ := fr
  unfold ai_i2l at h
  split at h
  · rename_i heq
    simp only [Prod.mk.injEq] at heq
    obtain ⟨rfl, rfl, rfl, rfl⟩ := heq
    cases h
    intro H locs ls hR hE hS hl
    exact lv_i2l hx hb hd rfl (K H locs ls hR hE hS hl)
  · cases h
theorem as_i2b (hx : p.tables.exec = Jvm.exec) (hb : c.code = cc) {fr fr' : ai_F} (hd : decode cc fr.1 = .ok (.i2b, 1)) (h : ai_i2b fr = some fr') (K : ai_W p l e R s m args below meth c Q nL D ad dA z0 Hb n0 fr') : ai_W p l e R s m args below meth c Q nL D ad dA z0 Hb n0 fr := by
  obtain ⟨pc, lv, st, h0, ex, nc, ns⟩ := fr
  unfold ai_i2b at h
  split at h
  · rename_i heq
    simp only [Prod.mk.injEq] at heq
    obtain ⟨rfl, rfl, rfl, rfl⟩ := heq
    cases h
    intro H locs ls hR hE hS hl
    exact lv_i2b hx hb hd rfl (K H locs ls hR hE hS hl)
  · cases h
theorem as_lcmp (hx : p.tables.exec = Jvm.exec) (hb : c.code = cc) {fr fr' : ai_F} (hd : decode cc fr.1 = .ok (.lcmp, 1)) (h : ai_lcmp fr = some fr') (K : ai_W p l e R s m args below meth c Q nL D ad dA z0 Hb n0 fr') : ai_W p l e R s m args below meth c Q nL D ad dA z0 Hb n0 fr := by
  obtain ⟨pc, lv, st, h0, ex, nc, ns⟩ := fr
  unfold ai_lcmp at h
  split at h
  · rename_i heq
    simp only [Prod.mk.injEq] at heq
    obtain ⟨rfl, rfl, rfl, rfl⟩ := heq
    cases h
    intro H locs ls hR hE hS hl
    exact W.lcmp hx hb hd (K H locs ls hR hE hS hl)
  · cases h
theorem as_dup (hx : p.tables.exec = Jvm.exec) (hb : c.code = cc) {fr fr' : ai_F} (hd : decode cc fr.1 = .ok (.dup, 1)) (h : ai_dup fr = some fr') (K : ai_W p l e R s m args below meth c Q nL D ad dA z0 Hb n0 fr') : ai_W p l e R s m args below meth c Q nL D ad dA z0 Hb n0 fr := by
  obtain ⟨pc, lv, st, h0, ex, nc, ns⟩ := fr
  unfold ai_dup at h
  split at h
  · rename_i heq
    simp only [Prod.mk.injEq] at heq
    obtain ⟨rfl, rfl, rfl, rfl⟩ := heq
    split at h
    · rename_i hc
      cases h
      intro H locs ls hR hE hS hl
      exact lv_dup hx hb hd ((ai_v_cat ad _).trans hc) (K H locs ls hR hE hS hl)
    · cases h
  · cases h
theorem as_dup2 (hx : p.tables.exec = Jvm.exec) (hb : c.code = cc) {fr fr' : ai_F} (hd : decode cc fr.1 = .ok (.dup2, 1)) (h : ai_dup2 fr = some fr') (K : ai_W p l e R s m args below meth c Q nL D ad dA z0 Hb n0 fr') : ai_W p l e R s m args below meth c Q nL D ad dA z0 Hb n0 fr := by
  obtain ⟨pc, lv, st, h0, ex, nc, ns⟩ := fr
  unfold ai_dup2 at h
  split at h
  · rename_i heq
    simp only [Prod.mk.injEq] at heq
    obtain ⟨rfl, rfl, rfl, rfl⟩ := heq
    split at h
    · rename_i hc
      cases h
      intro H locs ls hR hE hS hl
      exact lv_dup2_11 hx hb hd ((ai_v_cat ad _).trans hc.1) ((ai_v_cat ad _).trans hc.2) (K H locs ls hR hE hS hl)
    · cases h
  · cases h
theorem as_pop (hx : p.tables.exec = Jvm.exec) (hb : c.code = cc) {fr fr' : ai_F} (hd : decode cc fr.1 = .ok (.pop, 1)) (h : ai_pop fr = some fr') (K : ai_W p l e R s m args below meth c Q nL D ad dA z0 Hb n0 fr') : ai_W p l e R s m args below meth c Q nL D ad dA z0 Hb n0 fr := by
  obtain ⟨pc, lv, st, h0, ex, nc, ns⟩ := fr
  unfold ai_pop at h
  split at h
  · rename_i heq
    simp only [Prod.mk.injEq] at heq
    obtain ⟨rfl, rfl, rfl, rfl⟩ := heq
    split at h
    · rename_i hc
      cases h
      intro H locs ls hR hE hS hl
      exact lv_pop hx hb hd ((ai_v_cat ad _).trans hc) (K H locs ls hR hE hS hl)
    · cases h
  · cases h
theorem as_if_eq (hx : p.tables.exec = Jvm.exec) (hb : c.code = cc) {off : Int} {tg : List Nat} {fr fr' : ai_F} (hd : decode cc fr.1 = .ok (.ifCond .eq off, 3)) (ht : ∀ t, tg = [t] → (fr.1 : Int) + off = (t : Int)) (h : ai_if .eq tg fr = some fr') (K : ai_W p l e R s m args below meth c Q nL D ad dA z0 Hb n0 fr') : ai_W p l e R s m args below meth c Q nL D ad dA z0 Hb n0 fr := by
  obtain ⟨pc, lv, st, h0, ex, nc, ns⟩ := fr
  unfold ai_if at h
  split at h
  · rename_i heq
    simp only [Prod.mk.injEq] at heq
    obtain ⟨rfl, rfl, rfl, rfl⟩ := heq
    split at h
    · rename_i t
      have ht1 : (pc : Int) + off = (t : Int) := ht t rfl
      intro H locs ls hR hE hS hl
      refine lv_if_eq hx hb hd ht1 (fun q => ?_) (fun q => ?_)
      · rw [if_pos (by simp [ai_cp, q])] at h
        cases h
        exact K H locs ls hR hE hS hl
      · rw [if_neg (by simp [ai_cp, q])] at h
        cases h
        exact K H locs ls hR hE hS hl
    · cases h
  · cases h
theorem as_ic_eq (hx : p.tables.exec = Jvm.exec) (hb : c.code = cc) {off : Int} {tg : List Nat} {fr fr' : ai_F} (hd : decode cc fr.1 = .ok (.if_icmp .eq off, 3)) (ht : ∀ t, tg = [t] → (fr.1 : Int) + off = (t : Int)) (h : ai_ic .eq tg fr = some fr') (K : ai_W p l e R s m args below meth c Q nL D ad dA z0 Hb n0 fr') : ai_W p l e R s m args below meth c Q nL D ad dA z0 Hb n0 fr := by
  obtain ⟨pc, lv, st, h0, ex, nc, ns⟩ := fr
  unfold ai_ic at h
  split at h
  · rename_i heq
    simp only [Prod.mk.injEq] at heq
    obtain ⟨rfl, rfl, rfl, rfl⟩ := heq
    split at h
    · rename_i t
      have ht1 : (pc : Int) + off = (t : Int) := ht t rfl
      intro H locs ls hR hE hS hl
      refine lv_icmp_eq hx hb hd ht1 (fun q => ?_) (fun q => ?_)
      · rw [if_pos (by simp [ai_cp, q])] at h
        cases h
        exact K H locs ls hR hE hS hl
      · rw [if_neg (by simp [ai_cp, q])] at h
        cases h
        exact K H locs ls hR hE hS hl
    · cases h
  · cases h
theorem as_if_ne (hx : p.tables.exec = Jvm.exec) (hb : c.code = cc) {off : Int} {tg : List Nat} {fr fr' : ai_F} (hd : decode cc fr.1 = .ok (.ifCond .ne off, 3)) (ht : ∀ t, tg = [t] → (fr.1 : Int) + off = (t : Int)) (h : ai_if .ne tg fr = some fr') (K : ai_W p l e R s m args below meth c Q nL D ad dA z0 Hb n0 fr') : ai_W p l e R s m args below meth c Q nL D ad dA z0 Hb n0 fr := by
  obtain ⟨pc, lv, st, h0, ex, nc, ns⟩ := fr
  unfold ai_if at h
  split at h
  · rename_i heq
    simp only [Prod.mk.injEq] at heq
    obtain ⟨rfl, rfl, rfl, rfl⟩ := heq
    split at h
    · rename_i t
      have ht1 : (pc : Int) + off = (t : Int) := ht t rfl
      intro H locs ls hR hE hS hl
      refine lv_if_ne hx hb hd ht1 (fun q => ?_) (fun q => ?_)
      · rw [if_pos (by simp [ai_cp, q])] at h
        cases h
        exact K H locs ls hR hE hS hl
      · rw [if_neg (by simp [ai_cp, q])] at h
        cases h
        exact K H locs ls hR hE hS hl
    · cases h
  · cases h
theorem as_ic_ne (hx : p.tables.exec = Jvm.exec) (hb : c.code = cc) {off : Int} {tg : List Nat} {fr fr' : ai_F} (hd : decode cc fr.1 = .ok (.if_icmp .ne off, 3)) (ht : ∀ t, tg = [t] → (fr.1 : Int) + off = (t : Int)) (h : ai_ic .ne tg fr = some fr') (K : ai_W p l e R s m args below meth c Q nL D ad dA z0 Hb n0 fr') : ai_W p l e R s m args below meth c Q nL D ad dA z0 Hb n0 fr := by
  obtain ⟨pc, lv, st, h0, ex, nc, ns⟩ := fr
  unfold ai_ic at h
  split at h
  · rename_i heq
    simp only [Prod.mk.injEq] at heq
    obtain ⟨rfl, rfl, rfl, rfl⟩ := heq
    split at h
    · rename_i t
      have ht1 : (pc : Int) + off = (t : Int) := ht t rfl
      intro H locs ls hR hE hS hl
      refine lv_icmp_ne hx hb hd ht1 (fun q => ?_) (fun q => ?_)
      · rw [if_pos (by simp [ai_cp, q])] at h
        cases h
        exact K H locs ls hR hE hS hl
      · rw [if_neg (by simp [ai_cp, q])] at h
        cases h
        exact K H locs ls hR hE hS hl
    · cases h
  · cases h
theorem as_if_lt (hx : p.tables.exec = Jvm.exec) (hb : c.code = cc) {off : Int} {tg : List Nat} {fr fr' : ai_F} (hd : decode cc fr.1 = .ok (.ifCond .lt off, 3)) (ht : ∀ t, tg = [t] → (fr.1 : Int) + off = (t : Int)) (h : ai_if .lt tg fr = some fr') (K : ai_W p l e R s m args below meth c Q nL D ad dA z0 Hb n0 fr') : ai_W p l e R s m args below meth c Q nL D ad dA z0 Hb n0 fr := by
  obtain ⟨pc, lv, st, h0, ex, nc, ns⟩ := fr
  unfold ai_if at h
  split at h
  · rename_i heq
    simp only [Prod.mk.injEq] at heq
    obtain ⟨rfl, rfl, rfl, rfl⟩ := heq
    split at h
    · rename_i t
      have ht1 : (pc : Int) + off = (t : Int) := ht t rfl
      intro H locs ls hR hE hS hl
      refine lv_if_lt hx hb hd ht1 (fun q => ?_) (fun q => ?_)
      · rw [if_pos (by simp [ai_cp, q])] at h
        cases h
        exact K H locs ls hR hE hS hl
      · rw [if_neg (by simp [ai_cp, q])] at h
        cases h
        exact K H locs ls hR hE hS hl
    · cases h
  · cases h
theorem as_ic_lt (hx : p.tables.exec = Jvm.exec) (hb : c.code = cc) {off : Int} {tg : List Nat} {fr fr' : ai_F} (hd : decode cc fr.1 = .ok (.if_icmp .lt off, 3)) (ht : ∀ t, tg = [t] → (fr.1 : Int) + off = (t : Int)) (h : ai_ic .lt tg fr = some fr') (K : ai_W p l e R s m args below meth c Q nL D ad dA z0 Hb n0 fr') : ai_W p l e R s m args below meth c Q nL D ad dA z0 Hb n0 fr := by
  obtain ⟨pc, lv, st, h0, ex, nc, ns⟩ := fr
  unfold ai_ic at h
  split at h
  · rename_i heq
    simp only [Prod.mk.injEq] at heq
    obtain ⟨rfl, rfl, rfl, rfl⟩ := heq
    split at h
    · rename_i t
      have ht1 : (pc : Int) + off = (t : Int) := ht t rfl
      intro H locs ls hR hE hS hl
      refine lv_icmp_lt hx hb hd ht1 (fun q => ?_) (fun q => ?_)
      · rw [if_pos (by simp [ai_cp, q])] at h
        cases h
        exact K H locs ls hR hE hS hl
      · rw [if_neg (by simp [ai_cp, q])] at h
        cases h
        exact K H locs ls hR hE hS hl
    · cases h
  · cases h
theorem as_if_ge (hx : p.tables.exec = Jvm.exec) (hb : c.code = cc) {off : Int} {tg : List Nat} {fr fr' : ai_F} (hd : decode cc fr.1 = .ok (.ifCond .ge off, 3)) (ht : ∀ t, tg = [t] → (fr.1 : Int) + off = (t : Int)) (h : ai_if .ge tg fr = some fr') (K : ai_W p l e R s m args below meth c Q nL D ad dA z0 Hb n0 fr') : ai_W p l e R s m args below meth c Q nL D ad dA z0 Hb n0 fr := by
  obtain ⟨pc, lv, st, h0, ex, nc, ns⟩ := fr
  unfold ai_if at h
  split at h
  · rename_i heq
    simp only [Prod.mk.injEq] at heq
    obtain ⟨rfl, rfl, rfl, rfl⟩ := heq
    split at h
    · rename_i t
      have ht1 : (pc : Int) + off = (t : Int) := ht t rfl
      intro H locs ls hR hE hS hl
      refine lv_if_ge hx hb hd ht1 (fun q => ?_) (fun q => ?_)
      · rw [if_pos (by simp [ai_cp, q])] at h
        cases h
        exact K H locs ls hR hE hS hl
      · rw [if_neg (by simp [ai_cp, q])] at h
        cases h
        exact K H locs ls hR hE hS hl
    · cases h
  · cases h
theorem as_ic_ge (hx : p.tables.exec = Jvm.exec) (hb : c.code = cc) {off : Int} {tg : List Nat} {fr fr' : ai_F} (hd : decode cc fr.1 = .ok (.if_icmp .ge off, 3)) (ht : ∀ t, tg = [t] → (fr.1 : Int) + off = (t : Int)) (h : ai_ic .ge tg fr = some fr') (K : ai_W p l e R s m args below meth c Q nL D ad dA z0 Hb n0 fr') : ai_W p l e R s m args below meth c Q nL D ad dA z0 Hb n0 fr := by
  obtain ⟨pc, lv, st, h0, ex, nc, ns⟩ := fr
  unfold ai_ic at h
  split at h
  · rename_i heq
    simp only [Prod.mk.injEq] at heq
    obtain ⟨rfl, rfl, rfl, rfl⟩ := heq
    split at h
    · rename_i t
      have ht1 : (pc : Int) + off = (t : Int) := ht t rfl
      intro H locs ls hR hE hS hl
      refine lv_icmp_ge hx hb hd ht1 (fun q => ?_) (fun q => ?_)
      · rw [if_pos (by simp [ai_cp, q])] at h
        cases h
        exact K H locs ls hR hE hS hl
      · rw [if_neg (by simp [ai_cp, q])] at h
        cases h
        exact K H locs ls hR hE hS hl
    · cases h
  · cases h
theorem as_if_gt (hx : p.tables.exec = Jvm.exec) (hb : c.code = cc) {off : Int} {tg : List Nat} {fr fr' : ai_F} (hd : decode cc fr.1 = .ok (.ifCond .gt off, 3)) (ht : ∀ t, tg = [t] → (fr.1 : Int) + off = (t : Int)) (h : ai_if .gt tg fr = some fr') (K : ai_W p l e R s m args below meth c Q nL D ad dA z0 Hb n0 fr') : ai_W p l e R s m args below meth c Q nL D ad dA z0 Hb n0 fr := by
  obtain ⟨pc, lv, st, h0, ex, nc, ns⟩ := fr
  unfold ai_if at h
  split at h
  · rename_i heq
    simp only [Prod.mk.injEq] at heq
    obtain ⟨rfl, rfl, rfl, rfl⟩ := heq
    split at h
    · rename_i t
      have ht1 : (pc : Int) + off = (t : Int) := ht t rfl
      intro H locs ls hR hE hS hl
      refine lv_if_gt hx hb hd ht1 (fun q => ?_) (fun q => ?_)
      · rw [if_pos (by simp [ai_cp, q])] at h
        cases h
        exact K H locs ls hR hE hS hl
      · rw [if_neg (by simp [ai_cp, q])] at h
        cases h
        exact K H locs ls hR hE hS hl
    · cases h
  · cases h
theorem as_ic_gt (hx : p.tables.exec = Jvm.exec) (hb : c.code = cc) {off : Int} {tg : List Nat} {fr fr' : ai_F} (hd : decode cc fr.1 = .ok (.if_icmp .gt off, 3)) (ht : ∀ t, tg = [t] → (fr.1 : Int) + off = (t : Int)) (h : ai_ic .gt tg fr = some fr') (K : ai_W p l e R s m args below meth c Q nL D ad dA z0 Hb n0 fr') : ai_W p l e R s m args below meth c Q nL D ad dA z0 Hb n0 fr := by
  obtain ⟨pc, lv, st, h0, ex, nc, ns⟩ := fr
  unfold ai_ic at h
  split at h
  · rename_i heq
    simp only [Prod.mk.injEq] at heq
    obtain ⟨rfl, rfl, rfl, rfl⟩ := heq
    split at h
    · rename_i t
      have ht1 : (pc : Int) + off = (t : Int) := ht t rfl
      intro H locs ls hR hE hS hl
      refine lv_icmp_gt hx hb hd ht1 (fun q => ?_) (fun q => ?_)
      · rw [if_pos (by simp [ai_cp, q])] at h
        cases h
        exact K H locs ls hR hE hS hl
      · rw [if_neg (by simp [ai_cp, q])] at h
        cases h
        exact K H locs ls hR hE hS hl
    · cases h
  · cases h
theorem as_if_le (hx : p.tables.exec = Jvm.exec) (hb : c.code = cc) {off : Int} {tg : List Nat} {fr fr' : ai_F} (hd : decode cc fr.1 = .ok (.ifCond .le off, 3)) (ht : ∀ t, tg = [t] → (fr.1 : Int) + off = (t : Int)) (h : ai_if .le tg fr = some fr') (K : ai_W p l e R s m args below meth c Q nL D ad dA z0 Hb n0 fr') : ai_W p l e R s m args below meth c Q nL D ad dA z0 Hb n0 fr := by
  obtain ⟨pc, lv, st, h0, ex, nc, ns⟩ := fr
  unfold ai_if at h
  split at h
  · rename_i heq
    simp only [Prod.mk.injEq] at heq
    obtain ⟨rfl, rfl, rfl, rfl⟩ := heq
    split at h
    · rename_i t
      have ht1 : (pc : Int) + off = (t : Int) := ht t rfl
      intro H locs ls hR hE hS hl
      refine lv_if_le hx hb hd ht1 (fun q => ?_) (fun q => ?_)
      · rw [if_pos (by simp [ai_cp, q])] at h
        cases h
        exact K H locs ls hR hE hS hl
      · rw [if_neg (by simp [ai_cp, q])] at h
        cases h
        exact K H locs ls hR hE hS hl
    · cases h
  · cases h
theorem as_ic_le (hx : p.tables.exec = Jvm.exec) (hb : c.code = cc) {off : Int} {tg : List Nat} {fr fr' : ai_F} (hd : decode cc fr.1 = .ok (.if_icmp .le off, 3)) (ht : ∀ t, tg = [t] → (fr.1 : Int) + off = (t : Int)) (h : ai_ic .le tg fr = some fr') (K : ai_W p l e R s m args below meth c Q nL D ad dA z0 Hb n0 fr') : ai_W p l e R s m args below meth c Q nL D ad dA z0 Hb n0 fr := by
  obtain ⟨pc, lv, st, h0, ex, nc, ns⟩ := fr
  unfold ai_ic at h
  split at h
  · rename_i heq
    simp only [Prod.mk.injEq] at heq
    obtain ⟨rfl, rfl, rfl, rfl⟩ := heq
    split at h
    · rename_i t
      have ht1 : (pc : Int) + off = (t : Int) := ht t rfl
      intro H locs ls hR hE hS hl
      refine lv_icmp_le hx hb hd ht1 (fun q => ?_) (fun q => ?_)
      · rw [if_pos (by simp [ai_cp, q])] at h
        cases h
        exact K H locs ls hR hE hS hl
      · rw [if_neg (by simp [ai_cp, q])] at h
        cases h
        exact K H locs ls hR hE hS hl
    · cases h
  · cases h
theorem as_goto (hx : p.tables.exec = Jvm.exec) (hb : c.code = cc) {off : Int} {tg : List Nat} {fr fr' : ai_F} (hd : decode cc fr.1 = .ok (.goto off, 3)) (ht : ∀ t, tg = [t] → (fr.1 : Int) + off = (t : Int)) (h : ai_go tg fr = some fr') (K : ai_W p l e R s m args below meth c Q nL D ad dA z0 Hb n0 fr') : ai_W p l e R s m args below meth c Q nL D ad dA z0 Hb n0 fr := by
  obtain ⟨pc, lv, st, h0, ex, nc, ns⟩ := fr
  simp only [ai_go] at h
  split at h
  · rename_i t
    cases h
    intro H locs ls hR hE hS hl
    exact lv_goto hx hb hd (ht t rfl) (K H locs ls hR hE hS hl)
  · cases h
theorem as_table (hx : p.tables.exec = Jvm.exec) (hb : c.code = cc) {dflt lo hi : Int} {offs : Array Int} {len : Nat} {tg : List Nat} {fr fr' : ai_F} (hd : decode cc fr.1 = .ok (.tableswitch dflt lo hi offs, len)) (h0t : ∀ t : Nat, tg[0]? = some t → (fr.1 : Int) + dflt = (t : Int)) (ht : ∀ (j t : Nat), tg[j + 1]? = some t → ∃ off, offs[j]? = some off ∧ (fr.1 : Int) + off = (t : Int)) (h : ai_tb lo hi tg fr = some fr') (K : ai_W p l e R s m args below meth c Q nL D ad dA z0 Hb n0 fr') : ai_W p l e R s m args below meth c Q nL D ad dA z0 Hb n0 fr := by
  obtain ⟨pc, lv, st, h0, ex, nc, ns⟩ := fr
  unfold ai_tb at h
  split at h
  · rename_i heq
    simp only [Prod.mk.injEq] at heq
    obtain ⟨rfl, rfl, rfl, rfl⟩ := heq
    split at h
    · rename_i hc
      split at h
      · rename_i t h1
        cases h
        intro H locs ls hR hE hS hl
        exact lv_tableOut hx hb hd hc (h0t t h1) (K H locs ls hR hE hS hl)
      · cases h
    · rename_i hc
      split at h
      · rename_i t h1
        cases h
        obtain ⟨off, h2, h3⟩ := ht _ t h1
        intro H locs ls hR hE hS hl
        exact lv_tableIn hx hb hd (fun q => hc (Or.inl q)) (fun q => hc (Or.inr q)) h2 h3 (K H locs ls hR hE hS hl)
      · cases h
  · cases h
end AIS
