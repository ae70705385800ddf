/-! RUNS OF THE INTERPRETER, put together out of stretches -/
def ag_Go (X : Nat × (Nat → Int32)) (d : Nat) (M : ai_M) (fr : ai_F) (o : ai_O) : Prop := ∃ n, ai_Rn an_ms an_lk X 35 (ai_Ev an_ms an_lk X 35 d) M n fr o
def ag_n (X : Nat × (Nat → Int32)) (M : ai_M) : Nat → ai_F → Option ai_F
  | 0, fr => some fr
  | k + 1, fr => match ai_as M.co fr.1 with
    | some (i, tg) => (match ai_st (an_lk M.cn) X M.ml 35 i tg fr with
      | some fr' => ag_n X M k fr'
      | none => none)
    | none => none
section AGO
variable {X : Nat × (Nat → Int32)} {d : Nat} {M : ai_M} {o : ai_O}
theorem go_st {fr fr' : ai_F} {i : Instr} {tg : List Nat} (h1 : ai_as M.co fr.1 = some (i, tg)) (h2 : ai_st (an_lk M.cn) X M.ml 35 i tg fr = some fr') (k : ag_Go X d M fr' o) : ag_Go X d M fr o := by
  obtain ⟨n, hn⟩ := k
  exact ⟨n + 1, i, tg, h1, Or.inl ⟨fr', h2, hn⟩⟩
theorem go_n : ∀ (k : Nat) {fr fr' : ai_F}, ag_n X M k fr = some fr' → ag_Go X d M fr' o → ag_Go X d M fr o
  | 0, fr, fr', h, g => by
    cases h
    exact g
  | k + 1, fr, fr', h, g => by
    simp only [ag_n] at h
    split at h
    · rename_i i tg h1
      split at h
      · rename_i fr2 h2
        exact go_st h1 h2 (go_n k h g)
      · cases h
    · cases h
theorem go_rt {fr : ai_F} {i : Instr} {tg : List Nat} (h1 : ai_as M.co fr.1 = some (i, tg)) (h2 : ai_rt M.rt i fr = some o) : ag_Go X d M fr o := ⟨1, i, tg, h1, Or.inr (Or.inl h2)⟩
theorem go_th {fr : ai_F} {i : Instr} {tg : List Nat} (h1 : ai_as M.co fr.1 = some (i, tg)) (h2 : ai_th (an_lk M.cn) M.hh i fr = some o) : ag_Go X d M fr o := ⟨1, i, tg, h1, Or.inr (Or.inr (Or.inl h2))⟩
theorem go_call {fr : ai_F} {i : Instr} {tg : List Nat} (h1 : ai_as M.co fr.1 = some (i, tg)) {q : Nat} {As rest : List Value} {M1 : ai_M} {v : Option Value} {h' : ai_H} {ex' : Bool} {nc' ns' : Nat} (hca : ai_ca (an_lk M.cn) i fr.2.2.1 fr.2.2.2.1 = some (q, As, rest)) (hq0 : q ≠ 0) (hM1 : an_ms[q]? = some M1) (hrc : ai_rc i As fr.2.2.2.1 M1.cn) (hni : ai_ni i (.inl (v, h', ex', nc', ns'))) (hcl : ai_Ev an_ms an_lk X 35 d q As fr.2.2.2.1 fr.2.2.2.2.1 (.inl (v, h', ex', nc', ns'))) (k : ag_Go X d M (ai_af fr rest v h' ex' nc' ns') o) : ag_Go X d M fr o := by
  obtain ⟨n, hn⟩ := k
  exact ⟨n + 1, i, tg, h1, Or.inr (Or.inr (Or.inr ⟨q, As, rest, _, M1, hca, hq0, hM1, hrc, hni, hcl, hn⟩))⟩
theorem go_thr {fr : ai_F} {i : Instr} {tg : List Nat} (h1 : ai_as M.co fr.1 = some (i, tg)) {q : Nat} {As rest : List Value} {M1 : ai_M} {E : String} {h' : ai_H} {nc' ns' : Nat} (hca : ai_ca (an_lk M.cn) i fr.2.2.1 fr.2.2.2.1 = some (q, As, rest)) (hq0 : q ≠ 0) (hM1 : an_ms[q]? = some M1) (hrc : ai_rc i As fr.2.2.2.1 M1.cn) (hni : ai_ni i (.inr (E, h', nc', ns'))) (hcl : ai_Ev an_ms an_lk X 35 d q As fr.2.2.2.1 fr.2.2.2.2.1 (.inr (E, h', nc', ns'))) (hh : M.hh = []) : ag_Go X d M fr (.inr (E, h', fr.2.2.2.2.2.1 + nc', fr.2.2.2.2.2.2 + ns')) :=
  ⟨1, i, tg, h1, Or.inr (Or.inr (Or.inr ⟨q, As, rest, _, M1, hca, hq0, hM1, hrc, hni, hcl, Or.inl ⟨hh, rfl⟩⟩))⟩
theorem go_cat {fr : ai_F} {i : Instr} {tg : List Nat} (h1 : ai_as M.co fr.1 = some (i, tg)) {q : Nat} {As rest : List Value} {M1 : ai_M} {E : String} {h' : ai_H} {nc' ns' : Nat} (hca : ai_ca (an_lk M.cn) i fr.2.2.1 fr.2.2.2.1 = some (q, As, rest)) (hq0 : q ≠ 0) (hM1 : an_ms[q]? = some M1) (hrc : ai_rc i As fr.2.2.2.1 M1.cn) (hni : ai_ni i (.inr (E, h', nc', ns'))) (hcl : ai_Ev an_ms an_lk X 35 d q As fr.2.2.2.1 fr.2.2.2.2.1 (.inr (E, h', nc', ns'))) {st en hp ix : Nat} (hh : M.hh = [(st, en, hp, ix)]) (h2 : st ≤ fr.1) (h3 : fr.1 < en) (h4 : ai_as (an_lk M.cn).2.2.2.2 ix = some E) : ag_Go X d M fr (.inl (some (.int 1), h', false, fr.2.2.2.2.2.1 + nc', fr.2.2.2.2.2.2 + ns')) :=
  ⟨1, i, tg, h1, Or.inr (Or.inr (Or.inr ⟨q, As, rest, _, M1, hca, hq0, hM1, hrc, hni, hcl, Or.inr ⟨st, en, hp, ix, hh, h2, h3, h4, rfl⟩⟩))⟩
theorem ev_of {q : Nat} {As : List Value} {h : ai_H} {ex : Bool} (hM : an_ms[q]? = some M) (hlen : (lg_sl As).length ≤ M.ml) (k : ag_Go X d M (0, lv_args 0 As, [], h, ex, 0, 0) o) : ai_Ev an_ms an_lk X 35 (d + 1) q As h ex o := by
  obtain ⟨n, hn⟩ := k
  exact ⟨M, n, hM, hlen, hn⟩
theorem go_eq {fr fr' : ai_F} (h : fr = fr') (k : ag_Go X d M fr' o) : ag_Go X d M fr o := h ▸ k
variable {pc : Nat} {lv : List (Nat × Value)} {st : List Value} {r : ai_H × Bool × Nat × Nat} {h : ai_H} {z : Bool × Nat × Nat} {t : Nat} {off : Int} {x y : Int32}
theorem go_ic_eq (h1 : ai_as M.co pc = some (.if_icmp .eq off, [t])) (kt : x = y → ag_Go X d M (t, lv, st, r) o) (kf : ¬ x = y → ag_Go X d M (pc + 3, lv, st, r) o) : ag_Go X d M (pc, lv, .int y :: .int x :: st, r) o := by
  by_cases q : x = y
  · refine go_st (fr' := (t, lv, st, r)) h1 ?_ (kt q)
    simp [ai_st, ai_ic, ai_cp, q]
  · refine go_st (fr' := (pc + 3, lv, st, r)) h1 ?_ (kf q)
    simp [ai_st, ai_ic, ai_cp, q]
theorem go_if_eq (h1 : ai_as M.co pc = some (.ifCond .eq off, [t])) (kt : x = 0 → ag_Go X d M (t, lv, st, r) o) (kf : ¬ x = 0 → ag_Go X d M (pc + 3, lv, st, r) o) : ag_Go X d M (pc, lv, .int x :: st, r) o := by
  by_cases q : x = 0
  · refine go_st (fr' := (t, lv, st, r)) h1 ?_ (kt q)
    simp [ai_st, ai_if, ai_cp, q]
  · refine go_st (fr' := (pc + 3, lv, st, r)) h1 ?_ (kf q)
    simp [ai_st, ai_if, ai_cp, q]
theorem go_ic_ne (h1 : ai_as M.co pc = some (.if_icmp .ne off, [t])) (kt : ¬ x = y → ag_Go X d M (t, lv, st, r) o) (kf : x = y → ag_Go X d M (pc + 3, lv, st, r) o) : ag_Go X d M (pc, lv, .int y :: .int x :: st, r) o := by
  by_cases q : ¬ x = y
  · refine go_st (fr' := (t, lv, st, r)) h1 ?_ (kt q)
    simp [ai_st, ai_ic, ai_cp, q]
  · refine go_st (fr' := (pc + 3, lv, st, r)) h1 ?_ (kf (Classical.not_not.mp q))
    simp [ai_st, ai_ic, ai_cp, q]
theorem go_if_ne (h1 : ai_as M.co pc = some (.ifCond .ne off, [t])) (kt : ¬ x = 0 → ag_Go X d M (t, lv, st, r) o) (kf : x = 0 → ag_Go X d M (pc + 3, lv, st, r) o) : ag_Go X d M (pc, lv, .int x :: st, r) o := by
  by_cases q : ¬ x = 0
  · refine go_st (fr' := (t, lv, st, r)) h1 ?_ (kt q)
    simp [ai_st, ai_if, ai_cp, q]
  · refine go_st (fr' := (pc + 3, lv, st, r)) h1 ?_ (kf (Classical.not_not.mp q))
    simp [ai_st, ai_if, ai_cp, q]
theorem go_ic_lt (h1 : ai_as M.co pc = some (.if_icmp .lt off, [t])) (kt : x < y → ag_Go X d M (t, lv, st, r) o) (kf : ¬ x < y → ag_Go X d M (pc + 3, lv, st, r) o) : ag_Go X d M (pc, lv, .int y :: .int x :: st, r) o := by
  by_cases q : x < y
  · refine go_st (fr' := (t, lv, st, r)) h1 ?_ (kt q)
    simp [ai_st, ai_ic, ai_cp, q]
  · refine go_st (fr' := (pc + 3, lv, st, r)) h1 ?_ (kf q)
    simp [ai_st, ai_ic, ai_cp, q]
theorem go_if_lt (h1 : ai_as M.co pc = some (.ifCond .lt off, [t])) (kt : x < 0 → ag_Go X d M (t, lv, st, r) o) (kf : ¬ x < 0 → ag_Go X d M (pc + 3, lv, st, r) o) : ag_Go X d M (pc, lv, .int x :: st, r) o := by
  by_cases q : x < 0
  · refine go_st (fr' := (t, lv, st, r)) h1 ?_ (kt q)
    simp [ai_st, ai_if, ai_cp, q]
  · refine go_st (fr' := (pc + 3, lv, st, r)) h1 ?_ (kf q)
    simp [ai_st, ai_if, ai_cp, q]
theorem go_ic_ge (h1 : ai_as M.co pc = some (.if_icmp .ge off, [t])) (kt : y ≤ x → ag_Go X d M (t, lv, st, r) o) (kf : ¬ y ≤ x → ag_Go X d M (pc + 3, lv, st, r) o) : ag_Go X d M (pc, lv, .int y :: .int x :: st, r) o := by
  by_cases q : y ≤ x
  · refine go_st (fr' := (t, lv, st, r)) h1 ?_ (kt q)
    simp [ai_st, ai_ic, ai_cp, q]
  · refine go_st (fr' := (pc + 3, lv, st, r)) h1 ?_ (kf q)
    simp [ai_st, ai_ic, ai_cp, q]
theorem go_if_ge (h1 : ai_as M.co pc = some (.ifCond .ge off, [t])) (kt : 0 ≤ x → ag_Go X d M (t, lv, st, r) o) (kf : ¬ 0 ≤ x → ag_Go X d M (pc + 3, lv, st, r) o) : ag_Go X d M (pc, lv, .int x :: st, r) o := by
  by_cases q : 0 ≤ x
  · refine go_st (fr' := (t, lv, st, r)) h1 ?_ (kt q)
    simp [ai_st, ai_if, ai_cp, q]
  · refine go_st (fr' := (pc + 3, lv, st, r)) h1 ?_ (kf q)
    simp [ai_st, ai_if, ai_cp, q]
theorem go_ic_gt (h1 : ai_as M.co pc = some (.if_icmp .gt off, [t])) (kt : y < x → ag_Go X d M (t, lv, st, r) o) (kf : ¬ y < x → ag_Go X d M (pc + 3, lv, st, r) o) : ag_Go X d M (pc, lv, .int y :: .int x :: st, r) o := by
  by_cases q : y < x
  · refine go_st (fr' := (t, lv, st, r)) h1 ?_ (kt q)
    simp [ai_st, ai_ic, ai_cp, q]
  · refine go_st (fr' := (pc + 3, lv, st, r)) h1 ?_ (kf q)
    simp [ai_st, ai_ic, ai_cp, q]
theorem go_if_gt (h1 : ai_as M.co pc = some (.ifCond .gt off, [t])) (kt : 0 < x → ag_Go X d M (t, lv, st, r) o) (kf : ¬ 0 < x → ag_Go X d M (pc + 3, lv, st, r) o) : ag_Go X d M (pc, lv, .int x :: st, r) o := by
  by_cases q : 0 < x
  · refine go_st (fr' := (t, lv, st, r)) h1 ?_ (kt q)
    simp [ai_st, ai_if, ai_cp, q]
  · refine go_st (fr' := (pc + 3, lv, st, r)) h1 ?_ (kf q)
    simp [ai_st, ai_if, ai_cp, q]
theorem go_ic_le (h1 : ai_as M.co pc = some (.if_icmp .le off, [t])) (kt : x ≤ y → ag_Go X d M (t, lv, st, r) o) (kf : ¬ x ≤ y → ag_Go X d M (pc + 3, lv, st, r) o) : ag_Go X d M (pc, lv, .int y :: .int x :: st, r) o := by
  by_cases q : x ≤ y
  · refine go_st (fr' := (t, lv, st, r)) h1 ?_ (kt q)
    simp [ai_st, ai_ic, ai_cp, q]
  · refine go_st (fr' := (pc + 3, lv, st, r)) h1 ?_ (kf q)
    simp [ai_st, ai_ic, ai_cp, q]
theorem go_if_le (h1 : ai_as M.co pc = some (.ifCond .le off, [t])) (kt : x ≤ 0 → ag_Go X d M (t, lv, st, r) o) (kf : ¬ x ≤ 0 → ag_Go X d M (pc + 3, lv, st, r) o) : ag_Go X d M (pc, lv, .int x :: st, r) o := by
  by_cases q : x ≤ 0
  · refine go_st (fr' := (t, lv, st, r)) h1 ?_ (kt q)
    simp [ai_st, ai_if, ai_cp, q]
  · refine go_st (fr' := (pc + 3, lv, st, r)) h1 ?_ (kf q)
    simp [ai_st, ai_if, ai_cp, q]
theorem go_ial {a n : Nat} {f : Nat → Int32} {i : Int32} {tg : List Nat} (h1 : ai_as M.co pc = some (.iaload, tg)) (ha : a ≠ 1000000) (hh : h[a]? = some (.inl (0, n, .inl f))) (hi : ai_in i n = true) (k : ag_Go X d M (pc + 1, lv, .int (f i.toNatClampNeg) :: st, h, z) o) : ag_Go X d M (pc, lv, .int i :: .ref a :: st, h, z) o :=
  go_st h1 (by simp only [ai_st, ai_ial, if_neg ha, hh, if_pos hi]) k
theorem go_scr {i : Int32} {tg : List Nat} (h1 : ai_as M.co pc = some (.iaload, tg)) (hi : ai_in i X.1 = true) (k : ag_Go X d M (pc + 1, lv, .int (X.2 i.toNatClampNeg) :: st, h, z) o) : ag_Go X d M (pc, lv, .int i :: .ref 1000000 :: st, h, z) o :=
  go_st h1 (by simp [ai_st, ai_ial, hi]) k
theorem go_zal {a n : Nat} {f : Nat → Int32} {i : Int32} {tg : List Nat} (h1 : ai_as M.co pc = some (.baload, tg)) (hh : h[a]? = some (.inl (1, n, .inl f))) (hi : ai_in i n = true) (k : ag_Go X d M (pc + 1, lv, .int (f i.toNatClampNeg) :: st, h, z) o) : ag_Go X d M (pc, lv, .int i :: .ref a :: st, h, z) o :=
  go_st h1 (by simp only [ai_st, ai_bal, hh, if_pos hi]) k
theorem go_ias {a n : Nat} {f : Nat → Int32} {i : Int32} {tg : List Nat} (h1 : ai_as M.co pc = some (.iastore, tg)) (hh : h[a]? = some (.inl (0, n, .inl f))) (hi : ai_in i n = true) (k : ag_Go X d M (pc + 1, lv, st, h.set a (.inl (0, n, .inl (upd f i.toNatClampNeg x))), z) o) : ag_Go X d M (pc, lv, .int x :: .int i :: .ref a :: st, h, z) o :=
  go_st h1 (by simp only [ai_st, ai_ias, hh, if_pos hi]) k
theorem go_zas {a n : Nat} {f : Nat → Int32} {i : Int32} {tg : List Nat} (h1 : ai_as M.co pc = some (.bastore, tg)) (hh : h[a]? = some (.inl (1, n, .inl f))) (hi : ai_in i n = true) (k : ag_Go X d M (pc + 1, lv, st, h.set a (.inl (1, n, .inl (upd f i.toNatClampNeg (vp_nar .boolean x)))), z) o) : ag_Go X d M (pc, lv, .int x :: .int i :: .ref a :: st, h, z) o :=
  go_st h1 (by simp only [ai_st, ai_bas, hh, if_pos hi]) k
theorem go_bas {a n : Nat} {f : Nat → Int32} {i : Int32} {tg : List Nat} (h1 : ai_as M.co pc = some (.bastore, tg)) (hh : h[a]? = some (.inl (2, n, .inl f))) (hi : ai_in i n = true) (k : ag_Go X d M (pc + 1, lv, st, h.set a (.inl (2, n, .inl (upd f i.toNatClampNeg (vp_nar .byte x)))), z) o) : ag_Go X d M (pc, lv, .int x :: .int i :: .ref a :: st, h, z) o :=
  go_st h1 (by simp only [ai_st, ai_bas, hh, if_pos hi]) k
/-- a new row of a known length -/
theorem go_nwa {T : ArrayType} {a : vp_A} {N nc ns : Nat} {v : Int32} {tg : List Nat} (h1 : ai_as M.co pc = some (.newarray T, tg)) (hv : v = nI N) (hN : N < 2 ^ 25) (ha : ai_sz (ai_kd T) N = some a) (hl : h.length < 1000000) (k : ag_Go X d M (pc + 2, lv, .ref h.length :: st, h ++ [.inl (ai_kd T, a)], true, nc + 1, ns + N) o) : ag_Go X d M (pc, lv, .int v :: st, h, true, nc, ns) o := by
  have e1 : (nI N).toNatClampNeg = N := nI_clamp (by omega)
  subst hv
  refine go_st h1 ?_ k
  simp only [ai_st, ai_nwa, e1, ha]
  rw [if_pos ⟨trivial, hl, nI_pos (by omega), by omega⟩]
theorem go_get {a ix ci k kd : Nat} {fs : List Value} {v : Value} {tg : List Nat} (h1 : ai_as M.co pc = some (.getfield ix, tg)) (hl : ai_as (an_lk M.cn).1 ix = some (ci, k, kd)) (hh : h[a]? = some (.inr (ci, fs))) (hv : fs[k]? = some v) (g : ag_Go X d M (pc + 3, lv, v :: st, h, z) o) : ag_Go X d M (pc, lv, .ref a :: st, h, z) o :=
  go_st h1 (by simp only [ai_st, ai_get, hl, hh, if_true, hv]) g
theorem go_put {a ix ci k kd : Nat} {fs : List Value} {v : Value} {tg : List Nat} (h1 : ai_as M.co pc = some (.putfield ix, tg)) (hl : ai_as (an_lk M.cn).1 ix = some (ci, k, kd)) (hh : h[a]? = some (.inr (ci, fs))) (hk : k < fs.length) (hv : ai_vk kd v = true) (g : ag_Go X d M (pc + 3, lv, st, h.set a (.inr (ci, fs.set k v)), z) o) : ag_Go X d M (pc, lv, v :: .ref a :: st, h, z) o :=
  go_st h1 (by simp only [ai_st, ai_put, hl, hh, hk, hv, and_self, if_true]) g
theorem go_len {a k : Nat} {x : vp_A} {tg : List Nat} (h1 : ai_as M.co pc = some (.arraylength, tg)) (ha : a ≠ 1000000) (hh : h[a]? = some (.inl (k, x))) (hk : k < 5) (g : ag_Go X d M (pc + 1, lv, .int (Int32.ofNat x.1) :: st, h, z) o) : ag_Go X d M (pc, lv, .ref a :: st, h, z) o :=
  go_st h1 (by simp only [ai_st, ai_len, if_neg ha, hh, if_pos hk]) g
end AGO
