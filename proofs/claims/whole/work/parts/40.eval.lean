/-! THE INTERPRETER AS A PROGRAM that the kernel can run: what it comes to is an outcome of the interpreter (calls that throw are left out: none is met) -/
noncomputable def ei_at {α : Type} (l : List α) : Nat → Option α := List.rec (motive := fun _ => Nat → Option α) (fun _ => none) (fun x _ ih n => Nat.rec (motive := fun _ => Option α) (some x) (fun m _ => ih m) n) l
theorem ei_at_eq {α : Type} : ∀ (l : List α) (n : Nat), ei_at l n = l[n]?
  | [], n => by
    show none = _
    simp
  | x :: l, 0 => rfl
  | x :: l, n + 1 => by
    show ei_at l n = _
    rw [ei_at_eq l n]
    simp
noncomputable def ei_se {α : Type} (l : List α) (n : Nat) (y : α) : List α := List.rec (motive := fun _ => Nat → List α) (fun _ => []) (fun x t ih n => Nat.rec (motive := fun _ => List α) (y :: t) (fun m _ => x :: ih m) n) l n
theorem ei_se_eq {α : Type} (y : α) : ∀ (l : List α) (n : Nat), ei_se l n y = l.set n y
  | [], n => by
    show [] = _
    simp
  | x :: l, 0 => rfl
  | x :: l, n + 1 => by
    show x :: ei_se l n y = _
    rw [ei_se_eq y l n]
    simp
noncomputable def ei_as {β : Type} (l : List (Nat × β)) (i : Nat) : Option β := List.rec (motive := fun _ => Option β) none (fun x _ ih => Bool.rec (motive := fun _ => Option β) ih (some x.2) (Nat.beq x.1 i)) l
theorem ei_as_eq {β : Type} : ∀ (l : List (Nat × β)) (i : Nat), ei_as l i = ai_as l i
  | [], i => rfl
  | (j, b) :: l, i => by
    show Bool.rec (motive := fun _ => Option β) (ei_as l i) (some b) (Nat.beq j i) = _
    rw [ei_as_eq l i]
    show _ = if j = i then some b else ai_as l i
    by_cases h : j = i
    · subst h
      rw [if_pos rfl, Nat.beq_refl]
    · rw [if_neg h]
      cases h2 : Nat.beq j i with
      | true => exact absurd (Nat.eq_of_beq_eq_true h2) h
      | false => rfl
noncomputable def ei_up (f : Nat → Int32) (k : Nat) (x : Int32) : Nat → Int32 := fun j => Bool.rec (motive := fun _ => Int32) (f j) x (Nat.beq j k)
theorem ei_up_eq (f : Nat → Int32) (k : Nat) (x : Int32) : ei_up f k x = upd f k x := by
  funext j
  show Bool.rec (motive := fun _ => Int32) (f j) x (Nat.beq j k) = if j = k then x else f j
  by_cases h : j = k
  · subst h
    rw [if_pos rfl, Nat.beq_refl]
  · rw [if_neg h]
    cases h2 : Nat.beq j k with
    | true => exact absurd (Nat.eq_of_beq_eq_true h2) h
    | false => rfl
noncomputable def ei_get (K : ai_L) (ix : Nat) : ai_F → Option ai_F
  | (pc, lv, .ref a :: st, h, r) => match ei_as K.1 ix with
    | some (ci, k, _) => match ei_at h a with
      | some (.inr (cj, fs)) => if ci = cj then (match ei_at fs k with
        | some v => some (pc + 3, lv, v :: st, h, r)
        | none => none) else none
      | _ => none
    | none => none
  | _ => none
theorem ei_get_eq (K : ai_L) (ix : Nat) : ei_get K ix = ai_get K ix := by
  funext fr
  unfold ei_get ai_get
  simp only [ei_at_eq, ei_se_eq, ei_as_eq, ei_up_eq]
  rfl
noncomputable def ei_put (K : ai_L) (ix : Nat) : ai_F → Option ai_F
  | (pc, lv, v :: .ref a :: st, h, r) => match ei_as K.1 ix with
    | some (ci, k, kd) => match ei_at h a with
      | some (.inr (cj, fs)) => if ci = cj ∧ k < fs.length ∧ ai_vk kd v = true then some (pc + 3, lv, st, ei_se h a (.inr (cj, ei_se fs k v)), r) else none
      | _ => none
    | none => none
  | _ => none
theorem ei_put_eq (K : ai_L) (ix : Nat) : ei_put K ix = ai_put K ix := by
  funext fr
  unfold ei_put ai_put
  simp only [ei_at_eq, ei_se_eq, ei_as_eq, ei_up_eq]
  rfl
noncomputable def ei_ial (X : Nat × (Nat → Int32)) : ai_F → Option ai_F
  | (pc, lv, .int i :: .ref a :: st, h, r) => if a = 1000000 then (if ai_in i X.1 = true then some (pc + 1, lv, .int (X.2 i.toNatClampNeg) :: st, h, r) else none) else match ei_at h a with
    | some (.inl (0, n, .inl f)) => if ai_in i n = true then some (pc + 1, lv, .int (f i.toNatClampNeg) :: st, h, r) else none
    | _ => none
  | _ => none
theorem ei_ial_eq (X : Nat × (Nat → Int32)) : ei_ial X = ai_ial X := by
  funext fr
  unfold ei_ial ai_ial
  simp only [ei_at_eq, ei_se_eq, ei_as_eq, ei_up_eq]
  rfl
noncomputable def ei_bal : ai_F → Option ai_F
  | (pc, lv, .int i :: .ref a :: st, h, r) => match ei_at h a with
    | some (.inl (1, n, .inl f)) => if ai_in i n = true then some (pc + 1, lv, .int (f i.toNatClampNeg) :: st, h, r) else none
    | some (.inl (2, n, .inl f)) => if ai_in i n = true then some (pc + 1, lv, .int (f i.toNatClampNeg) :: st, h, r) else none
    | _ => none
  | _ => none
theorem ei_bal_eq : ei_bal  = ai_bal  := by
  funext fr
  unfold ei_bal ai_bal
  simp only [ei_at_eq, ei_se_eq, ei_as_eq, ei_up_eq]
  rfl
noncomputable def ei_lal : ai_F → Option ai_F
  | (pc, lv, .int i :: .ref a :: st, h, r) => match ei_at h a with
    | some (.inl (3, n, .inr (.inl f))) => if ai_in i n = true then some (pc + 1, lv, .long (f i.toNatClampNeg) :: st, h, r) else none
    | _ => none
  | _ => none
theorem ei_lal_eq : ei_lal  = ai_lal  := by
  funext fr
  unfold ei_lal ai_lal
  simp only [ei_at_eq, ei_se_eq, ei_as_eq, ei_up_eq]
  rfl
noncomputable def ei_ias : ai_F → Option ai_F
  | (pc, lv, .int x :: .int i :: .ref a :: st, h, r) => match ei_at h a with
    | some (.inl (0, n, .inl f)) => if ai_in i n = true then some (pc + 1, lv, st, ei_se h a (.inl (0, n, .inl (ei_up f i.toNatClampNeg x))), r) else none
    | _ => none
  | _ => none
theorem ei_ias_eq : ei_ias  = ai_ias  := by
  funext fr
  unfold ei_ias ai_ias
  simp only [ei_at_eq, ei_se_eq, ei_as_eq, ei_up_eq]
  rfl
noncomputable def ei_bas : ai_F → Option ai_F
  | (pc, lv, .int x :: .int i :: .ref a :: st, h, r) => match ei_at h a with
    | some (.inl (1, n, .inl f)) => if ai_in i n = true then some (pc + 1, lv, st, ei_se h a (.inl (1, n, .inl (ei_up f i.toNatClampNeg (vp_nar .boolean x)))), r) else none
    | some (.inl (2, n, .inl f)) => if ai_in i n = true then some (pc + 1, lv, st, ei_se h a (.inl (2, n, .inl (ei_up f i.toNatClampNeg (vp_nar .byte x)))), r) else none
    | _ => none
  | _ => none
theorem ei_bas_eq : ei_bas  = ai_bas  := by
  funext fr
  unfold ei_bas ai_bas
  simp only [ei_at_eq, ei_se_eq, ei_as_eq, ei_up_eq]
  rfl
noncomputable def ei_las : ai_F → Option ai_F
  | (pc, lv, .long x :: .int i :: .ref a :: st, h, r) => match ei_at h a with
    | some (.inl (3, n, .inr (.inl f))) => if ai_in i n = true then some (pc + 1, lv, st, ei_se h a (.inl (3, n, .inr (.inl (vp_updL f i.toNatClampNeg x)))), r) else none
    | _ => none
  | _ => none
theorem ei_las_eq : ei_las  = ai_las  := by
  funext fr
  unfold ei_las ai_las
  simp only [ei_at_eq, ei_se_eq, ei_as_eq, ei_up_eq]
  rfl
noncomputable def ei_len (X : Nat × (Nat → Int32)) : ai_F → Option ai_F
  | (pc, lv, .ref a :: st, h, r) => if a = 1000000 then some (pc + 1, lv, .int (Int32.ofNat X.1) :: st, h, r) else match ei_at h a with
    | some (.inl (k, x)) => if k < 5 then some (pc + 1, lv, .int (Int32.ofNat x.1) :: st, h, r) else none
    | _ => none
  | _ => none
theorem ei_len_eq (X : Nat × (Nat → Int32)) : ei_len X = ai_len X := by
  funext fr
  unfold ei_len ai_len
  simp only [ei_at_eq, ei_se_eq, ei_as_eq, ei_up_eq]
  rfl
noncomputable def ei_aas (NS : Nat) : ai_F → Option ai_F
  | (pc, lv, .ref v :: .int i :: .ref a :: st, h, r) => match ei_at h a with
    | some (.inl (4, n, .inr (.inr (.inr (.inr f))))) => if ai_in i n = true ∧ 1000001 ≤ v ∧ v < 1000001 + NS then some (pc + 1, lv, st, ei_se h a (.inl (4, n, .inr (.inr (.inr (.inr (va_up f i.toNatClampNeg (some v))))))), r) else none
    | _ => none
  | _ => none
theorem ei_aas_eq (NS : Nat) : ei_aas NS = ai_aas NS := by
  funext fr
  unfold ei_aas ai_aas
  simp only [ei_at_eq, ei_se_eq, ei_as_eq, ei_up_eq]
  rfl
noncomputable def ei_aal : ai_F → Option ai_F
  | (pc, lv, .int i :: .ref a :: st, h, r) => match ei_at h a with
    | some (.inl (4, n, .inr (.inr (.inr (.inr f))))) => if ai_in i n = true then some (pc + 1, lv, va_rf (f i.toNatClampNeg) :: st, h, r) else none
    | _ => none
  | _ => none
theorem ei_aal_eq : ei_aal  = ai_aal  := by
  funext fr
  unfold ei_aal ai_aal
  simp only [ei_at_eq, ei_se_eq, ei_as_eq, ei_up_eq]
  rfl
/-- one step -/
noncomputable def ei_st (K : ai_L) (X : Nat × (Nat → Int32)) (nL NS : Nat) (i : Instr) (tg : List Nat) : ai_F → Option ai_F := match i with
  | .iconst n => ai_push (.int (Int32.ofInt n)) 1
  | .bipush n => ai_push (.int (Int8.ofInt n).toInt32) 2
  | .sipush n => ai_push (.int (Int16.ofInt n).toInt32) 3
  | .lconst n => ai_push (.long (Int64.ofNat n)) 1
  | .iload_n k => ai_ld 1 k
  | .iload k => ai_ld 2 k
  | .aload_n k => ai_lda 1 k
  | .aload k => ai_lda 2 k
  | .istore_n k => ai_sto nL 1 k
  | .istore k => ai_sto nL 2 k
  | .astore_n k => ai_sta nL 1 k
  | .astore k => ai_sta nL 2 k
  | .iinc k d => ai_inc nL k d
  | .iadd => ai_bin (fun x y => x + y)
  | .isub => ai_bin (fun x y => x - y)
  | .imul => ai_bin (fun x y => x * y)
  | .iand => ai_bin (fun x y => x &&& y)
  | .ishr => ai_bin (fun x y => x >>> (y &&& 31))
  | .idiv => ai_dv (fun x y => x / y)
  | .irem => ai_dv (fun x y => x - x / y * y)
  | .i2l => ai_i2l
  | .i2b => ai_i2b
  | .lcmp => ai_lcmp
  | .dup => ai_dup
  | .dup2 => ai_dup2
  | .pop => ai_pop
  | .ifCond o _ => ai_if o tg
  | .if_icmp o _ => ai_ic o tg
  | .goto _ => ai_go tg
  | .tableswitch _ lo hi _ => ai_tb lo hi tg
  | .getfield ix => ei_get K ix
  | .putfield ix => ei_put K ix
  | .iaload => ei_ial X
  | .baload => ei_bal
  | .laload => ei_lal
  | .iastore => ei_ias
  | .bastore => ei_bas
  | .lastore => ei_las
  | .arraylength => ei_len X
  | .new ix => ai_new K ix
  | .newarray t => ai_nwa t
  | .anewarray _ => ai_nws
  | .ldc ix => ai_ldc K ix
  | .aastore => ei_aas NS
  | .aaload => ei_aal
  | .invokespecial ix => ai_obj K ix
  | .invokestatic ix => ai_nat K ix
  | .invokevirtual ix => ai_sx K NS ix
  | _ => fun _ => none
theorem ei_st_eq (K : ai_L) (X : Nat × (Nat → Int32)) (nL NS : Nat) (i : Instr) (tg : List Nat) : ei_st K X nL NS i tg = ai_st K X nL NS i tg := by
  unfold ei_st ai_st
  simp only [ei_get_eq, ei_put_eq, ei_ial_eq, ei_bal_eq, ei_lal_eq, ei_ias_eq, ei_bas_eq, ei_las_eq, ei_len_eq, ei_aas_eq, ei_aal_eq]
  rfl
noncomputable def ei_cq (K : ai_L) (i : Instr) (st : List Value) (h : ai_H) : Option (Nat × List Value × List Value) := match i with
  | .invokestatic ix => match ei_as K.2.2.2.1 ix with
    | some (q, n) => if n ≤ st.length ∧ ai_sum (st.drop n) ≤ 8 then some (q, (st.take n).reverse, st.drop n) else none
    | none => none
  | .invokevirtual ix => match ei_as K.2.2.2.1 ix with
    | some (q, n) => match st.drop n with
      | .ref b :: rest => match ei_at h b with
        | some (.inr _) => if ai_sum rest ≤ 8 then some (q, .ref b :: (st.take n).reverse, rest) else none
        | _ => none
      | _ => none
    | none => none
  | .invokespecial ix => match ei_as K.2.2.2.1 ix with
    | some (q, n) => match st.drop n with
      | .ref b :: rest => if ai_sum rest ≤ 8 then some (q, .ref b :: (st.take n).reverse, rest) else none
      | _ => none
    | none => none
  | _ => none
theorem ei_cq_eq (K : ai_L) (i : Instr) (st : List Value) (h : ai_H) : ei_cq K i st h = ai_ca K i st h := by
  unfold ei_cq ai_ca
  simp only [ei_at_eq, ei_as_eq]
  rfl
noncomputable def ei_rc (i : Instr) (As : List Value) (h : ai_H) (cn : Nat) : Bool := match i, As with
  | .invokevirtual _, .ref b :: _ => (match ei_at h b with
    | some (.inr (c, _)) => Nat.beq c cn
    | _ => false)
  | .invokevirtual _, _ => false
  | _, _ => true
theorem ei_rc_ok {i : Instr} {As : List Value} {h : ai_H} {cn : Nat} (e : ei_rc i As h cn = true) : ai_rc i As h cn := by
  unfold ei_rc at e
  simp only [ei_at_eq] at e
  unfold ai_rc
  split at e
  · split at e
    · rename_i hb
      have h1 := Nat.eq_of_beq_eq_true e
      subst h1
      exact ⟨_, hb⟩
    · cases e
  · cases e
  · rename_i n1 n2
    split
    · exact (n1 _ rfl).elim
    · exact (n1 _ rfl).elim
    · trivial
theorem ei_ni_l (i : Instr) (x : Option Value × ai_H × Bool × Nat × Nat) : ai_ni i (.inl x) := by
  cases i <;> exact trivial
/-- a call that returned: the frame behind it -/
noncomputable def ei_ca (ms : List ai_M) (lk : Nat → ai_L) (cl : Nat → List Value → ai_H → Bool → Option ai_O) (M : ai_M) (i : Instr) (fr : ai_F) : Option ai_F := match ei_cq (lk M.cn) i fr.2.2.1 fr.2.2.2.1 with
  | none => none
  | some (q, As, rest) => match ei_at ms q with
    | none => none
    | some M1 => match !(Nat.beq q 0) && ei_rc i As fr.2.2.2.1 M1.cn with
      | false => none
      | true => match cl q As fr.2.2.2.1 fr.2.2.2.2.1 with
        | some (.inl (v, h', ex', nc', ns')) => some (ai_af fr rest v h' ex' nc' ns')
        | _ => none
theorem ei_ca_ok {ms : List ai_M} {lk : Nat → ai_L} {cl : Nat → List Value → ai_H → Bool → Option ai_O} {cl' : Nat → List Value → ai_H → Bool → ai_O → Prop} (hcl : ∀ q As h ex o, cl q As h ex = some o → cl' q As h ex o) {M : ai_M} {i : Instr} {fr fr' : ai_F} (e : ei_ca ms lk cl M i fr = some fr') :
    ∃ q As rest M1 v h' ex' nc' ns', ai_ca (lk M.cn) i fr.2.2.1 fr.2.2.2.1 = some (q, As, rest) ∧ q ≠ 0 ∧ ms[q]? = some M1 ∧ ai_rc i As fr.2.2.2.1 M1.cn ∧ cl' q As fr.2.2.2.1 fr.2.2.2.2.1 (.inl (v, h', ex', nc', ns')) ∧ fr' = ai_af fr rest v h' ex' nc' ns' := by
  unfold ei_ca at e
  rw [ei_cq_eq] at e
  split at e
  · cases e
  · rename_i q As rest hca
    split at e
    · cases e
    · rename_i M1 hM1
      rw [ei_at_eq] at hM1
      split at e
      · cases e
      · rename_i hq
        have h2 := (Bool.and_eq_true _ _).mp hq
        split at e
        · rename_i v h' ex' nc' ns' ho
          cases e
          refine ⟨q, As, rest, M1, v, h', ex', nc', ns', hca, ?_, hM1, ei_rc_ok h2.2, hcl _ _ _ _ _ ho, rfl⟩
          intro h0
          subst h0
          exact absurd h2.1 (by decide)
        · cases e
/-- one step of a method, the rest of the run being ih: looked up in the code -/
noncomputable def ei_sl (ms : List ai_M) (lk : Nat → ai_L) (X : Nat × (Nat → Int32)) (NS : Nat) (cl : Nat → List Value → ai_H → Bool → Option ai_O) (M : ai_M) (ih : ai_F → Option ai_O) (fr : ai_F) : Option ai_O := match ei_as M.co fr.1 with
  | none => none
  | some c => match ei_st (lk M.cn) X M.ml NS c.1 c.2 fr with
    | some fr' => ih fr'
    | none => match ai_rt M.rt c.1 fr with
      | some o => some o
      | none => match ei_ca ms lk cl M c.1 fr with
        | some fr' => ih fr'
        | none => none
theorem ei_sl_ok {ms : List ai_M} {lk : Nat → ai_L} {X : Nat × (Nat → Int32)} {NS : Nat} {cl : Nat → List Value → ai_H → Bool → Option ai_O} {cl' : Nat → List Value → ai_H → Bool → ai_O → Prop} (hcl : ∀ q As h ex o, cl q As h ex = some o → cl' q As h ex o) {M : ai_M} {ih : ai_F → Option ai_O} {n : Nat} (hih : ∀ fr o, ih fr = some o → ai_Rn ms lk X NS cl' M n fr o) {fr : ai_F} {o : ai_O} (e : ei_sl ms lk X NS cl M ih fr = some o) : ai_Rn ms lk X NS cl' M (n + 1) fr o := by
  unfold ei_sl at e
  split at e
  · cases e
  · rename_i c hc
    rw [ei_as_eq] at hc
    obtain ⟨i, tg⟩ := c
    split at e
    · rename_i fr' hs
      rw [ei_st_eq] at hs
      exact ⟨i, tg, hc, Or.inl ⟨fr', hs, hih _ _ e⟩⟩
    · split at e
      · rename_i o9 ho
        cases e
        exact ⟨i, tg, hc, Or.inr (Or.inl ho)⟩
      · split at e
        · rename_i fr' hf
          obtain ⟨q, As, rest, M1, v, h', ex', nc', ns', e1, e2, e3, e4, e5, rfl⟩ := ei_ca_ok hcl hf
          exact ⟨i, tg, hc, Or.inr (Or.inr (Or.inr ⟨q, As, rest, .inl (v, h', ex', nc', ns'), M1, e1, e2, e3, e4, ei_ni_l _ _, e5, hih _ _ e⟩))⟩
        · cases e
/-- steps looked up ahead -/
abbrev ei_T : Type := List (Nat × (ai_F → Option ai_F))
def ei_tk (lk : Nat → ai_L) (X : Nat × (Nat → Int32)) (NS : Nat) (M : ai_M) (t : ei_T) : Prop := ∀ pc F, ei_as t pc = some F → ∃ i tg, ai_as M.co pc = some (i, tg) ∧ F = ai_st (lk M.cn) X M.ml NS i tg
noncomputable def ei_g (K : ai_L) (X : Nat × (Nat → Int32)) (nL NS : Nat) (c : ai_I) : Nat × (ai_F → Option ai_F) := (c.1, ei_st K X nL NS c.2.1 c.2.2)
theorem ei_map {K : ai_L} {X : Nat × (Nat → Int32)} {nL NS : Nat} : ∀ (co : List ai_I) (pc : Nat) (F : ai_F → Option ai_F), ai_as (co.map (ei_g K X nL NS)) pc = some F → ∃ i tg, ai_as co pc = some (i, tg) ∧ F = ai_st K X nL NS i tg
  | [], pc, F, h => by cases h
  | (j, i, tg) :: r, pc, F, h => by
    have h1 : (if j = pc then some (ei_st K X nL NS i tg) else ai_as (r.map (ei_g K X nL NS)) pc) = some F := h
    have e1 : ai_as ((j, i, tg) :: r) pc = if j = pc then some (i, tg) else ai_as r pc := rfl
    by_cases hj : j = pc
    · rw [if_pos hj] at h1 e1
      cases h1
      exact ⟨i, tg, e1, ei_st_eq _ _ _ _ _ _⟩
    · rw [if_neg hj] at h1 e1
      obtain ⟨i', tg', g1, g2⟩ := ei_map r pc F h1
      exact ⟨i', tg', e1.trans g1, g2⟩
theorem ei_tk_map {lk : Nat → ai_L} {X : Nat × (Nat → Int32)} {NS : Nat} {M : ai_M} {t : ei_T} (h : t = M.co.map (ei_g (lk M.cn) X M.ml NS)) : ei_tk lk X NS M t := by
  intro pc F hF
  rw [h, ei_as_eq] at hF
  exact ei_map _ _ _ hF
/-- one step of a method -/
noncomputable def ei_b (ms : List ai_M) (lk : Nat → ai_L) (X : Nat × (Nat → Int32)) (NS : Nat) (cl : Nat → List Value → ai_H → Bool → Option ai_O) (M : ai_M) (t : ei_T) (ih : ai_F → Option ai_O) (fr : ai_F) : Option ai_O := match ei_as t fr.1 with
  | some F => (match F fr with
    | some fr' => ih fr'
    | none => ei_sl ms lk X NS cl M ih fr)
  | none => ei_sl ms lk X NS cl M ih fr
noncomputable def ei_rn (ms : List ai_M) (lk : Nat → ai_L) (X : Nat × (Nat → Int32)) (NS : Nat) (cl : Nat → List Value → ai_H → Bool → Option ai_O) (M : ai_M) (t : ei_T) (n : Nat) : ai_F → Option ai_O :=
  Nat.rec (motive := fun _ => ai_F → Option ai_O) (fun _ => none) (fun _ ih fr => ei_b ms lk X NS cl M t ih fr) n
theorem ei_rn_ok {ms : List ai_M} {lk : Nat → ai_L} {X : Nat × (Nat → Int32)} {NS : Nat} {cl : Nat → List Value → ai_H → Bool → Option ai_O} {cl' : Nat → List Value → ai_H → Bool → ai_O → Prop} (hcl : ∀ q As h ex o, cl q As h ex = some o → cl' q As h ex o) {M : ai_M} {t : ei_T} (ht : ei_tk lk X NS M t) :
    ∀ (n : Nat) (fr : ai_F) (o : ai_O), ei_rn ms lk X NS cl M t n fr = some o → ai_Rn ms lk X NS cl' M n fr o
  | 0, fr, o, h => by
    have h1 : (none : Option ai_O) = some o := h
    cases h1
  | n + 1, fr, o, h => by
    have e : ei_b ms lk X NS cl M t (ei_rn ms lk X NS cl M t n) fr = some o := h
    unfold ei_b at e
    split at e
    · rename_i F hF
      obtain ⟨i, tg, hc, rfl⟩ := ht _ _ hF
      split at e
      · rename_i fr' hs
        exact ⟨i, tg, hc, Or.inl ⟨fr', hs, ei_rn_ok hcl ht n fr' o e⟩⟩
      · exact ei_sl_ok hcl (ei_rn_ok hcl ht n) e
    · exact ei_sl_ok hcl (ei_rn_ok hcl ht n) e
noncomputable def ei_td (tb : List (Nat × ei_T)) (q : Nat) : ei_T := match ei_as tb q with
  | some t => t
  | none => []
/-- a call's outcome: the method from its entry -/
noncomputable def ei_e (ms : List ai_M) (lk : Nat → ai_L) (X : Nat × (Nat → Int32)) (NS : Nat) (tb : List (Nat × ei_T)) (n : Nat) (ih : Nat → List Value → ai_H → Bool → Option ai_O) (q : Nat) (As : List Value) (h : ai_H) (ex : Bool) : Option ai_O := match ei_at ms q with
  | none => none
  | some M => match Nat.ble (lg_sl As).length M.ml with
    | true => ei_rn ms lk X NS ih M (ei_td tb q) n (0, lv_args 0 As, [], h, ex, 0, 0)
    | false => none
noncomputable def ei_ev (ms : List ai_M) (lk : Nat → ai_L) (X : Nat × (Nat → Int32)) (NS : Nat) (tb : List (Nat × ei_T)) (n d : Nat) : Nat → List Value → ai_H → Bool → Option ai_O :=
  Nat.rec (motive := fun _ => Nat → List Value → ai_H → Bool → Option ai_O) (fun _ _ _ _ => none) (fun _ ih q As h ex => ei_e ms lk X NS tb n ih q As h ex) d
theorem ei_ev_ok {ms : List ai_M} {lk : Nat → ai_L} {X : Nat × (Nat → Int32)} {NS : Nat} {tb : List (Nat × ei_T)} (htb : ∀ q M, ms[q]? = some M → ei_tk lk X NS M (ei_td tb q)) {n : Nat} : ∀ (d q : Nat) (As : List Value) (h : ai_H) (ex : Bool) (o : ai_O), ei_ev ms lk X NS tb n d q As h ex = some o → ai_Ev ms lk X NS d q As h ex o
  | 0, q, As, h, ex, o, e => by
    have h1 : (none : Option ai_O) = some o := e
    cases h1
  | d + 1, q, As, h, ex, o, e => by
    have e1 : ei_e ms lk X NS tb n (ei_ev ms lk X NS tb n d) q As h ex = some o := e
    unfold ei_e at e1
    split at e1
    · cases e1
    · rename_i M hM
      rw [ei_at_eq] at hM
      split at e1
      · rename_i hl
        exact ⟨M, n, hM, Nat.le_of_ble_eq_true hl, ei_rn_ok (ei_ev_ok htb d) (htb q M hM) n _ o e1⟩
      · cases e1
theorem ei_td_ok {ms : List ai_M} {lk : Nat → ai_L} {X : Nat × (Nat → Int32)} {NS : Nat} {tb : List (Nat × ei_T)} (h : ∀ y ∈ tb, ∃ M, ms[y.1]? = some M ∧ y.2 = M.co.map (ei_g (lk M.cn) X M.ml NS)) (q : Nat) (M : ai_M) (hM : ms[q]? = some M) : ei_tk lk X NS M (ei_td tb q) := by
  unfold ei_td
  split
  · rename_i t ht
    rw [ei_as_eq] at ht
    obtain ⟨M', h1, h2⟩ := h _ (ai_as_mem ht)
    cases Option.some.inj (h1.symm.trans hM)
    exact ei_tk_map h2
  · intro pc F hF
    cases hF
/-- it returned 0, within the room -/
def ei_z (r : Option ai_O) : Bool := match r with
  | some (.inl (some (.int v), _, _, nc, ns)) => decide (v = 0) && Nat.ble nc 600000 && Nat.ble ns 7000000
  | _ => false
theorem ei_z_ok {r : Option ai_O} (h : ei_z r = true) : ∃ h' ex' nc ns, r = some (.inl (some (.int 0), h', ex', nc, ns)) ∧ nc ≤ 600000 ∧ ns ≤ 7000000 := by
  unfold ei_z at h
  split at h
  · rename_i v h' ex' nc ns
    simp only [Bool.and_eq_true, decide_eq_true_eq] at h
    obtain ⟨⟨rfl, h2⟩, h3⟩ := h
    exact ⟨h', ex', nc, ns, rfl, Nat.le_of_ble_eq_true h2, Nat.le_of_ble_eq_true h3⟩
  · cases h
