/-! instructions that read and write the heap -/
/-- a field's link is good: to read, and (ini: in a constructor) to write -/
def ai_fr (own : String) (ix ci k : Nat) : Prop := ∃ (C : String) (T : u_T) (N : Nat), vwCl[ci]? = some (C, T, N) ∧ k < N ∧ Cond.fieldLink own ix (T k).1 (T k).2.1 (T k).2.2.1 ∈ ai_TB
def ai_fk (kd : Nat) (ty : FieldType) : Bool := match kd, ty with
  | 0, .int => true
  | 1, .boolean => true
  | 2, .array _ => true
  | 2, .object _ => true
  | _, _ => false
def ai_fw (own : String) (ini : Bool) (ix ci k kd : Nat) : Prop := ∃ (C : String) (T : u_T) (N : Nat), vwCl[ci]? = some (C, T, N) ∧ k < N ∧ Cond.fieldLink own ix (T k).1 (T k).2.1 (T k).2.2.1 ∈ ai_TB ∧ ai_fk kd (ai_fty ci k) = true ∧ ((T k).2.2.2 = false ∨ (ini = true ∧ (T k).1 = own ∧ (T k).2.2.2 = true))
theorem ai_vk_ok {kd : Nat} {ty : FieldType} {v : Value} (ad : Nat → Nat) (h1 : ai_fk kd ty = true) (h2 : ai_vk kd v = true) : narrow ty (ai_v ad v) = ai_v ad v ∧ fits ty (ai_v ad v) = true := by
  unfold ai_fk at h1
  split at h1
  · cases v <;> first | (exact ⟨rfl, rfl⟩) | (simp [ai_vk] at h2)
  · cases v with
    | int x =>
      have h3 : x = 0 ∨ x = 1 := by simpa [ai_vk] using h2
      rcases h3 with h3 | h3
      · subst h3
        exact ⟨rfl, rfl⟩
      · subst h3
        exact ⟨rfl, rfl⟩
    | _ => simp [ai_vk] at h2
  · cases v <;> first | (exact ⟨rfl, rfl⟩) | (simp [ai_vk] at h2)
  · cases v <;> first | (exact ⟨rfl, rfl⟩) | (simp [ai_vk] at h2)
  · cases h1
theorem ai_def_obj {ad : Nat → Nat} (ci : Nat) : (ai_def ci).map (ai_v ad) = ai_def ci := by
  unfold ai_def
  split <;> rfl
theorem ai_wr {D : va_G} {ad : Nat → Nat} {dA : Nat → ClassId} {z0 : Nat} {Hb : Heap} {s : State} {h1 : ai_H} {H1 : Heap} {locs : List Loc} (hZ : z0 ≤ s.heap.size ∧ ∀ q, q < z0 → s.heap[q]? = Hb[q]?) (hP : va_P D vwCl (ai_w ad dA z0 h1) H1) (hl : h1.length ≤ 1000000) (hS : va_S (fun q : Nat => z0 ≤ q) s.heap H1 locs) : ai_R D ad dA z0 Hb h1 H1 :=
  ⟨hP, hl, Nat.le_trans hZ.1 hS.1, fun q hq => (hS.2.1 q (Nat.lt_of_lt_of_le hq hZ.1) (Nat.not_le.mpr hq)).trans (hZ.2 q hq)⟩
section AIH
variable {p : Program} {l : Launch} {e : Env} {R : Room} {s : State} {m : MethodId} {args : Array Value} {below : List Frame} {meth : Method} {c : Code} {Q : State → Prop} {nL : Nat} {D : va_G} {ad : Nat → Nat} {dA : Nat → ClassId} {z0 : Nat} {Hb : Heap} {n0 : Nat} {cc : ByteArray}
theorem as_get (hx : p.tables.exec = Jvm.exec) (hb : c.code = cc) (hts : ∀ w ∈ ai_TB, w.before args s = true) (hK : va_K D vwCl (ai_tys dA) s) (had : ∀ k, k < 1000000 → ad k = z0 + k) (hZ : z0 ≤ s.heap.size ∧ ∀ q, q < z0 → s.heap[q]? = Hb[q]?) {own : String} (hown : s.vm.findClass own = some m.cls) {KL : ai_L} {ix : Nat} (hF : ∀ ci k kd, ai_as KL.1 ix = some (ci, k, kd) → ai_fr own ix ci k) {fr fr' : ai_F} (hd : decode cc fr.1 = .ok (.getfield ix, 3)) (h : ai_get KL ix fr = some fr') (K : ai_W p l e R s m args below meth c Q nL D ad dA z0 Hb n0 fr') : ai_W p l e R s m args below meth c Q nL D ad dA z0 Hb n0 fr := by
  obtain ⟨pc, lv, st, h0, ex, nc, ns⟩ := fr
  unfold ai_get at h
  split at h
  · rename_i a st1 h1 r heq
    simp only [Prod.mk.injEq] at heq
    obtain ⟨rfl, rfl, rfl, rfl, rfl⟩ := heq
    split at h
    · rename_i ci k kd hf
      split at h
      · rename_i cj fs hh
        split at h
        · rename_i hc
          subst hc
          split at h
          · rename_i v hv
            cases h
            obtain ⟨C, T, N, hc, hk, hw⟩ := hF ci k kd hf
            intro H locs ls hR hE hS hl
            have ha : a < h0.length := (List.getElem?_eq_some_iff.mp hh).1
            have hae : ad a = z0 + a := had a (Nat.lt_of_lt_of_le ha hR.2.1)
            have hwg := ai_w_get (ad := ad) (dA := dA) (z0 := z0) hh
            rw [← hae] at hwg
            exact va_get (D := D) (ci := ci) (v := ai_v ad v) (C := C) (T := T) (N := N) hx hb hts (ai_cls hc).1 hown hK hR.1 a hwg hc k hk (hts _ hw) (fun _ h9 => h9) (by simp [hv]) hd (K H locs ls hR hE hS hl)
          · cases h
        · cases h
      · cases h
    · cases h
  · cases h
theorem as_put (hx : p.tables.exec = Jvm.exec) (hb : c.code = cc) (hts : ∀ w ∈ ai_TB, w.before args s = true) (hK : va_K D vwCl (ai_tys dA) s) (had : ∀ k, k < 1000000 → ad k = z0 + k) (hZ : z0 ≤ s.heap.size ∧ ∀ q, q < z0 → s.heap[q]? = Hb[q]?) {own : String} (hown : s.vm.findClass own = some m.cls) {ini : Bool} (hini : ini = true → meth.name = "<init>") {KL : ai_L} {ix : Nat} (hF : ∀ ci k kd, ai_as KL.1 ix = some (ci, k, kd) → ai_fw own ini ix ci k kd) {fr fr' : ai_F} (hd : decode cc fr.1 = .ok (.putfield ix, 3)) (h : ai_put KL ix fr = some fr') (K : ai_W p l e R s m args below meth c Q nL D ad dA z0 Hb n0 fr') : ai_W p l e R s m args below meth c Q nL D ad dA z0 Hb n0 fr := by
  obtain ⟨pc, lv, st, h0, ex, nc, ns⟩ := fr
  unfold ai_put at h
  split at h
  · rename_i v a st1 h1 r heq
    simp only [Prod.mk.injEq] at heq
    obtain ⟨rfl, rfl, rfl, rfl, rfl⟩ := heq
    split at h
    · rename_i ci k kd hf
      split at h
      · rename_i cj fs hh
        split at h
        · rename_i hc0
          obtain ⟨rfl, hkl, hvk⟩ := hc0
          cases h
          obtain ⟨C, T, N, hc, hk, hw, hfk, hfin⟩ := hF ci k kd hf
          obtain ⟨g1, g2⟩ := ai_vk_ok ad hfk hvk
          intro H locs ls hR hE hS hl
          have ha : a < h0.length := (List.getElem?_eq_some_iff.mp hh).1
          have hae : ad a = z0 + a := had a (Nat.lt_of_lt_of_le ha hR.2.1)
          have hwg := ai_w_get (ad := ad) (dA := dA) (z0 := z0) hh
          rw [← hae] at hwg
          have hcl := ai_cls hc
          have kk : ∀ (H1 : Heap) (locs1 : List Loc), va_P D vwCl ((ai_w ad dA z0 h0).set a (ad a, .inr (ci, (fs.map (ai_v ad)).set k (ai_v ad v)))) H1 → va_D (fun q : Nat => z0 ≤ q) ((ai_w ad dA z0 h0).set a (ad a, .inr (ci, (fs.map (ai_v ad)).set k (ai_v ad v)))) → va_S (fun q : Nat => z0 ≤ q) s.heap H1 locs1 → W p l e R s m args below meth c H1 locs1 nc ns Q (F0 m (pc + 3) ls (st1.map (ai_v ad))) := by
            intro H1 locs1 hP1 _ hS1
            have he : (ai_w ad dA z0 h0).set a (ad a, .inr (ci, (fs.map (ai_v ad)).set k (ai_v ad v))) = ai_w ad dA z0 (h0.set a (.inr (ci, fs.set k v))) := by
              rw [ai_w_set, hae]
              simp [ai_ce, List.map_set]
            rw [he] at hP1
            exact K H1 locs1 ls (ai_wr hZ hP1 (by simpa using hR.2.1) hS1) (by simpa using hE) hS1 hl
          rcases hfin with h9 | ⟨i9, o9, h9⟩
          · exact va_put (D := D) (ci := ci) (v := ai_v ad v) (C := C) (T := T) (N := N) hx hb hts hcl.1 (ai_fty ci) hcl.2.1 hcl.2.2.1 hown hK hR.1 ai_w_D hS a hwg hc k hk (hts _ hw) (fun _ h9 => h9) h9 (hcl.2.1 k hk) g1 g2 (by simpa using hkl) hd kk
          · exact va_putF (D := D) (ci := ci) (v := ai_v ad v) (C := C) (T := T) (N := N) hx hb hts hcl.1 (ai_fty ci) hcl.2.1 hcl.2.2.1 hown hK hR.1 ai_w_D hS a hwg hc k hk (hts _ hw) (fun _ h9 => h9) h9 (hini i9) o9 (hcl.2.1 k hk) g1 g2 (by simpa using hkl) hd kk
        · cases h
      · cases h
    · cases h
  · cases h
theorem as_bal (hx : p.tables.exec = Jvm.exec) (hb : c.code = cc) (hts : ∀ w ∈ ai_TB, w.before args s = true) (hK : va_K D vwCl (ai_tys dA) s) (had : ∀ k, k < 1000000 → ad k = z0 + k) (hZ : z0 ≤ s.heap.size ∧ ∀ q, q < z0 → s.heap[q]? = Hb[q]?) {fr fr' : ai_F} (hd : decode cc fr.1 = .ok (.baload, 1)) (h : ai_bal fr = some fr') (K : ai_W p l e R s m args below meth c Q nL D ad dA z0 Hb n0 fr') : ai_W p l e R s m args below meth c Q nL D ad dA z0 Hb n0 fr := by
  obtain ⟨pc, lv, st, h0, ex, nc, ns⟩ := fr
  unfold ai_bal at h
  split at h
  · rename_i i a st1 h1 r heq
    simp only [Prod.mk.injEq] at heq
    obtain ⟨rfl, rfl, rfl, rfl, rfl⟩ := heq
    split at h
    · rename_i n f hh
      split at h
      · rename_i hi
        cases h
        intro H locs ls hR hE hS hl
        have ha : a < h0.length := (List.getElem?_eq_some_iff.mp hh).1
        have hae : ad a = z0 + a := had a (Nat.lt_of_lt_of_le ha hR.2.1)
        have hwg := ai_w_get (ad := ad) (dA := dA) (z0 := z0) hh
        rw [← hae] at hwg
        exact va_zald hx hb hK hR.1 a 1 hwg rfl (ai_in_of hi) hd (K H locs ls hR hE hS hl)
      · cases h
    · rename_i n f hh
      split at h
      · rename_i hi
        cases h
        intro H locs ls hR hE hS hl
        have ha : a < h0.length := (List.getElem?_eq_some_iff.mp hh).1
        have hae : ad a = z0 + a := had a (Nat.lt_of_lt_of_le ha hR.2.1)
        have hwg := ai_w_get (ad := ad) (dA := dA) (z0 := z0) hh
        rw [← hae] at hwg
        exact va_bald hx hb hK hR.1 a 2 hwg rfl (ai_in_of hi) hd (K H locs ls hR hE hS hl)
      · cases h
    · cases h
  · cases h
theorem as_lal (hx : p.tables.exec = Jvm.exec) (hb : c.code = cc) (hts : ∀ w ∈ ai_TB, w.before args s = true) (hK : va_K D vwCl (ai_tys dA) s) (had : ∀ k, k < 1000000 → ad k = z0 + k) (hZ : z0 ≤ s.heap.size ∧ ∀ q, q < z0 → s.heap[q]? = Hb[q]?) {fr fr' : ai_F} (hd : decode cc fr.1 = .ok (.laload, 1)) (h : ai_lal fr = some fr') (K : ai_W p l e R s m args below meth c Q nL D ad dA z0 Hb n0 fr') : ai_W p l e R s m args below meth c Q nL D ad dA z0 Hb n0 fr := by
  obtain ⟨pc, lv, st, h0, ex, nc, ns⟩ := fr
  unfold ai_lal at h
  split at h
  · rename_i i a st1 h1 r heq
    simp only [Prod.mk.injEq] at heq
    obtain ⟨rfl, rfl, rfl, rfl, rfl⟩ := heq
    split at h
    · rename_i n f hh
      split at h
      · rename_i hi
        cases h
        intro H locs ls hR hE hS hl
        have ha : a < h0.length := (List.getElem?_eq_some_iff.mp hh).1
        have hae : ad a = z0 + a := had a (Nat.lt_of_lt_of_le ha hR.2.1)
        have hwg := ai_w_get (ad := ad) (dA := dA) (z0 := z0) hh
        rw [← hae] at hwg
        exact va_lald hx hb hK hR.1 a 3 hwg rfl (ai_in_of hi) hd (K H locs ls hR hE hS hl)
      · cases h
    · cases h
  · cases h
theorem as_ias (hx : p.tables.exec = Jvm.exec) (hb : c.code = cc) (hts : ∀ w ∈ ai_TB, w.before args s = true) (hK : va_K D vwCl (ai_tys dA) s) (had : ∀ k, k < 1000000 → ad k = z0 + k) (hZ : z0 ≤ s.heap.size ∧ ∀ q, q < z0 → s.heap[q]? = Hb[q]?) {fr fr' : ai_F} (hd : decode cc fr.1 = .ok (.iastore, 1)) (h : ai_ias fr = some fr') (K : ai_W p l e R s m args below meth c Q nL D ad dA z0 Hb n0 fr') : ai_W p l e R s m args below meth c Q nL D ad dA z0 Hb n0 fr := by
  obtain ⟨pc, lv, st, h0, ex, nc, ns⟩ := fr
  unfold ai_ias at h
  split at h
  · rename_i x i a st1 h1 r heq
    simp only [Prod.mk.injEq] at heq
    obtain ⟨rfl, rfl, rfl, rfl, rfl⟩ := heq
    split at h
    · rename_i n f hh
      split at h
      · rename_i hi
        cases h
        intro H locs ls hR hE hS hl
        have ha : a < h0.length := (List.getElem?_eq_some_iff.mp hh).1
        have hae : ad a = z0 + a := had a (Nat.lt_of_lt_of_le ha hR.2.1)
        have hwg := ai_w_get (ad := ad) (dA := dA) (z0 := z0) hh
        rw [← hae] at hwg
        refine va_iast hx hb hK hR.1 ai_w_D hS a 0 hwg rfl (ai_in_of hi) hd (fun H1 locs1 hP1 _ hS1 => ?_)
        have he : (ai_w ad dA z0 h0).set a (ad a, .inl (dA 0, n, .inl (upd f i.toNatClampNeg x))) = ai_w ad dA z0 (h0.set a (.inl (0, n, .inl (upd f i.toNatClampNeg x)))) := by
          rw [ai_w_set, hae]
          rfl
        rw [he] at hP1
        exact K H1 locs1 ls (ai_wr hZ hP1 (by simpa using hR.2.1) hS1) (by simpa using hE) hS1 hl
      · cases h
    · cases h
  · cases h
theorem as_bas (hx : p.tables.exec = Jvm.exec) (hb : c.code = cc) (hts : ∀ w ∈ ai_TB, w.before args s = true) (hK : va_K D vwCl (ai_tys dA) s) (had : ∀ k, k < 1000000 → ad k = z0 + k) (hZ : z0 ≤ s.heap.size ∧ ∀ q, q < z0 → s.heap[q]? = Hb[q]?) {fr fr' : ai_F} (hd : decode cc fr.1 = .ok (.bastore, 1)) (h : ai_bas fr = some fr') (K : ai_W p l e R s m args below meth c Q nL D ad dA z0 Hb n0 fr') : ai_W p l e R s m args below meth c Q nL D ad dA z0 Hb n0 fr := by
  obtain ⟨pc, lv, st, h0, ex, nc, ns⟩ := fr
  unfold ai_bas at h
  split at h
  · rename_i x i a st1 h1 r heq
    simp only [Prod.mk.injEq] at heq
    obtain ⟨rfl, rfl, rfl, rfl, rfl⟩ := heq
    split at h
    · rename_i n f hh
      split at h
      · rename_i hi
        cases h
        intro H locs ls hR hE hS hl
        have ha : a < h0.length := (List.getElem?_eq_some_iff.mp hh).1
        have hae : ad a = z0 + a := had a (Nat.lt_of_lt_of_le ha hR.2.1)
        have hwg := ai_w_get (ad := ad) (dA := dA) (z0 := z0) hh
        rw [← hae] at hwg
        refine va_zast hx hb hK hR.1 ai_w_D hS a 1 hwg rfl (ai_in_of hi) hd (fun H1 locs1 hP1 _ hS1 => ?_)
        have he : (ai_w ad dA z0 h0).set a (ad a, .inl (dA 1, n, .inl (upd f i.toNatClampNeg (vp_nar .boolean x)))) = ai_w ad dA z0 (h0.set a (.inl (1, n, .inl (upd f i.toNatClampNeg (vp_nar .boolean x))))) := by
          rw [ai_w_set, hae]
          rfl
        rw [he] at hP1
        exact K H1 locs1 ls (ai_wr hZ hP1 (by simpa using hR.2.1) hS1) (by simpa using hE) hS1 hl
      · cases h
    · rename_i n f hh
      split at h
      · rename_i hi
        cases h
        intro H locs ls hR hE hS hl
        have ha : a < h0.length := (List.getElem?_eq_some_iff.mp hh).1
        have hae : ad a = z0 + a := had a (Nat.lt_of_lt_of_le ha hR.2.1)
        have hwg := ai_w_get (ad := ad) (dA := dA) (z0 := z0) hh
        rw [← hae] at hwg
        refine va_bast hx hb hK hR.1 ai_w_D hS a 2 hwg rfl (ai_in_of hi) hd (fun H1 locs1 hP1 _ hS1 => ?_)
        have he : (ai_w ad dA z0 h0).set a (ad a, .inl (dA 2, n, .inl (upd f i.toNatClampNeg (vp_nar .byte x)))) = ai_w ad dA z0 (h0.set a (.inl (2, n, .inl (upd f i.toNatClampNeg (vp_nar .byte x))))) := by
          rw [ai_w_set, hae]
          rfl
        rw [he] at hP1
        exact K H1 locs1 ls (ai_wr hZ hP1 (by simpa using hR.2.1) hS1) (by simpa using hE) hS1 hl
      · cases h
    · cases h
  · cases h
theorem as_las (hx : p.tables.exec = Jvm.exec) (hb : c.code = cc) (hts : ∀ w ∈ ai_TB, w.before args s = true) (hK : va_K D vwCl (ai_tys dA) s) (had : ∀ k, k < 1000000 → ad k = z0 + k) (hZ : z0 ≤ s.heap.size ∧ ∀ q, q < z0 → s.heap[q]? = Hb[q]?) {fr fr' : ai_F} (hd : decode cc fr.1 = .ok (.lastore, 1)) (h : ai_las fr = some fr') (K : ai_W p l e R s m args below meth c Q nL D ad dA z0 Hb n0 fr') : ai_W p l e R s m args below meth c Q nL D ad dA z0 Hb n0 fr := by
  obtain ⟨pc, lv, st, h0, ex, nc, ns⟩ := fr
  unfold ai_las at h
  split at h
  · rename_i x i a st1 h1 r heq
    simp only [Prod.mk.injEq] at heq
    obtain ⟨rfl, rfl, rfl, rfl, rfl⟩ := heq
    split at h
    · rename_i n f hh
      split at h
      · rename_i hi
        cases h
        intro H locs ls hR hE hS hl
        have ha : a < h0.length := (List.getElem?_eq_some_iff.mp hh).1
        have hae : ad a = z0 + a := had a (Nat.lt_of_lt_of_le ha hR.2.1)
        have hwg := ai_w_get (ad := ad) (dA := dA) (z0 := z0) hh
        rw [← hae] at hwg
        refine va_last hx hb hK hR.1 ai_w_D hS a 3 hwg rfl (ai_in_of hi) hd (fun H1 locs1 hP1 _ hS1 => ?_)
        have he : (ai_w ad dA z0 h0).set a (ad a, .inl (dA 3, n, .inr (.inl (vp_updL f i.toNatClampNeg x)))) = ai_w ad dA z0 (h0.set a (.inl (3, n, .inr (.inl (vp_updL f i.toNatClampNeg x))))) := by
          rw [ai_w_set, hae]
          rfl
        rw [he] at hP1
        exact K H1 locs1 ls (ai_wr hZ hP1 (by simpa using hR.2.1) hS1) (by simpa using hE) hS1 hl
      · cases h
    · cases h
  · cases h
end AIH
