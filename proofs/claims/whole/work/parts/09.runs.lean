/-! METHODS AND CALLS: what a run of a method is -/
/-- a method: number of its class, name, bytes, locals, what it returns, handlers, instructions -/
abbrev ai_M : Type := Nat × MethodName × ByteArray × Nat × Option FieldType × List (Nat × Nat × Nat × Nat) × List ai_I
abbrev ai_M.cn (M : ai_M) : Nat := M.1
abbrev ai_M.nm (M : ai_M) : MethodName := M.2.1
abbrev ai_M.by' (M : ai_M) : ByteArray := M.2.2.1
abbrev ai_M.ml (M : ai_M) : Nat := M.2.2.2.1
abbrev ai_M.rt (M : ai_M) : Option FieldType := M.2.2.2.2.1
abbrev ai_M.hh (M : ai_M) : List (Nat × Nat × Nat × Nat) := M.2.2.2.2.2.1
abbrev ai_M.co (M : ai_M) : List ai_I := M.2.2.2.2.2.2
def ai_oc : ai_O → Nat
  | .inl (_, _, _, nc, _) => nc
  | .inr (_, _, nc, _) => nc
def ai_os : ai_O → Nat
  | .inl (_, _, _, _, ns) => ns
  | .inr (_, _, _, ns) => ns
/-- an end by return -/
def ai_rt (rt : Option FieldType) (i : Instr) (fr : ai_F) : Option ai_O := match fr with
  | (_, _, st, h, ex, nc, ns) => match i, st, rt with
    | .ireturn, [.int v], some .int => some (.inl (some (.int v), h, ex, nc, ns))
    | .ireturn, [.int v], some .boolean => if v = 0 ∨ v = 1 then some (.inl (some (.int v), h, ex, nc, ns)) else none
    | .return_, [], none => some (.inl (none, h, ex, nc, ns))
    | _, _, _ => none
/-- an end by 'throw new E("..")', where nothing of this method catches -/
def ai_th (K : ai_L) (hh : List (Nat × Nat × Nat × Nat)) (i : Instr) (fr : ai_F) : Option ai_O := match fr with
  | (_, _, st, h, _, nc, ns) => match i, hh with
    | .new ix, [] => match ai_as K.2.2.2.2 ix with
      | some E => if ai_sum st ≤ 8 then some (.inr (E, h, nc + 1, ns + 6)) else none
      | none => none
    | _, _ => none
/-- a call: the method's number, its arguments, what is left of the stack -/
def ai_ca (K : ai_L) (i : Instr) (st : List Value) (h : ai_H) : Option (Nat × List Value × List Value) := match i with
  | .invokestatic ix => match ai_as K.2.2.2.1 ix with
    | some (q, n) => if n ≤ st.length ∧ ai_sum (st.drop n) ≤ 8 then some (q, (st.take n).reverse, st.drop n) else none
    | none => none
  | .invokevirtual ix => match ai_as K.2.2.2.1 ix with
    | some (q, n) => match st.drop n with
      | .ref b :: rest => match h[b]? with
        | some (.inr _) => if ai_sum rest ≤ 8 then some (q, .ref b :: (st.take n).reverse, rest) else none
        | _ => none
      | _ => none
    | none => none
  | .invokespecial ix => match ai_as K.2.2.2.1 ix with
    | some (q, n) => match st.drop n with
      | .ref b :: rest => if ai_sum rest ≤ 8 then some (q, .ref b :: (st.take n).reverse, rest) else none
      | _ => none
    | none => none
  | _ => none
/-- the class of a virtual call's receiver -/
def ai_rc (i : Instr) (As : List Value) (h : ai_H) (cn : Nat) : Prop := match i, As with
  | .invokevirtual _, .ref b :: _ => ∃ fs, h[b]? = some (.inr (cn, fs))
  | .invokevirtual _, _ => False
  | _, _ => True
/-- a constructor throws nothing -/
def ai_ni (i : Instr) (o : ai_O) : Prop := match i, o with
  | .invokespecial _, .inr _ => False
  | _, _ => True
/-- behind a call that returned -/
def ai_af (fr : ai_F) (rest : List Value) (v : Option Value) (h' : ai_H) (ex' : Bool) (nc' ns' : Nat) : ai_F := match fr with
  | (pc, lv, _, _, ex, nc, ns) => (pc + 3, lv, v.toList ++ rest, h', ex && ex', nc + nc', ns + ns')
/-- a run of a method, from a frame to its end, in n steps; calls come to what cl says -/
def ai_Rn (ms : List ai_M) (lk : Nat → ai_L) (X : Nat × (Nat → Int32)) (NS : Nat) (cl : Nat → List Value → ai_H → Bool → ai_O → Prop) (M : ai_M) : Nat → ai_F → ai_O → Prop
  | 0, _, _ => False
  | n + 1, fr, o => ∃ i tg, ai_as M.co fr.1 = some (i, tg) ∧
    ((∃ fr', ai_st (lk M.cn) X M.ml NS i tg fr = some fr' ∧ ai_Rn ms lk X NS cl M n fr' o) ∨ ai_rt M.rt i fr = some o ∨ ai_th (lk M.cn) M.hh i fr = some o ∨
      ∃ q As rest o1 M1, ai_ca (lk M.cn) i fr.2.2.1 fr.2.2.2.1 = some (q, As, rest) ∧ q ≠ 0 ∧ ms[q]? = some M1 ∧ ai_rc i As fr.2.2.2.1 M1.cn ∧ ai_ni i o1 ∧ cl q As fr.2.2.2.1 fr.2.2.2.2.1 o1 ∧ match o1 with
        | .inl (v, h', ex', nc', ns') => ai_Rn ms lk X NS cl M n (ai_af fr rest v h' ex' nc' ns') o
        | .inr (E, h', nc', ns') => (M.hh = [] ∧ o = .inr (E, h', fr.2.2.2.2.2.1 + nc', fr.2.2.2.2.2.2 + ns')) ∨ ∃ st en hp ix, M.hh = [(st, en, hp, ix)] ∧ st ≤ fr.1 ∧ fr.1 < en ∧ ai_as (lk M.cn).2.2.2.2 ix = some E ∧ o = .inl (some (.int 1), h', false, fr.2.2.2.2.2.1 + nc', fr.2.2.2.2.2.2 + ns'))
/-- a call's outcome, d calls deep -/
def ai_Ev (ms : List ai_M) (lk : Nat → ai_L) (X : Nat × (Nat → Int32)) (NS : Nat) : Nat → Nat → List Value → ai_H → Bool → ai_O → Prop
  | 0, _, _, _, _, _ => False
  | d + 1, q, As, h, ex, o => ∃ M n, ms[q]? = some M ∧ (lg_sl As).length ≤ M.ml ∧ ai_Rn ms lk X NS (ai_Ev ms lk X NS d) M n (0, lv_args 0 As, [], h, ex, 0, 0) o
set_option maxHeartbeats 4000000 in
/-- the counts only grow -/
theorem ai_st_mono {K : ai_L} {X : Nat × (Nat → Int32)} {nL NS : Nat} {i : Instr} {tg : List Nat} {fr fr' : ai_F} (h : ai_st K X nL NS i tg fr = some fr') : fr.2.2.2.2.2.1 ≤ fr'.2.2.2.2.2.1 ∧ fr.2.2.2.2.2.2 ≤ fr'.2.2.2.2.2.2 := by
  unfold ai_st at h
  split at h <;> first | (cases h; done) | skip
  all_goals (first | unfold ai_push at h | unfold ai_ld at h | unfold ai_lda at h | unfold ai_sto at h | unfold ai_sta at h | unfold ai_inc at h | unfold ai_bin at h | unfold ai_dv at h | unfold ai_i2l at h | unfold ai_i2b at h | unfold ai_lcmp at h | unfold ai_dup at h | unfold ai_dup2 at h | unfold ai_pop at h | unfold ai_if at h | unfold ai_ic at h | unfold ai_go at h | unfold ai_tb at h | unfold ai_get at h | unfold ai_put at h | unfold ai_ial at h | unfold ai_bal at h | unfold ai_lal at h | unfold ai_ias at h | unfold ai_bas at h | unfold ai_las at h | unfold ai_len at h | unfold ai_new at h | unfold ai_nwa at h | unfold ai_nws at h | unfold ai_ldc at h | unfold ai_aas at h | unfold ai_aal at h | unfold ai_obj at h | unfold ai_nat ai_mm ai_ab ai_cpy at h | unfold ai_sx at h)
  all_goals (repeat' (split at h))
  all_goals (first | (cases h; done) | (cases h; exact ⟨Nat.le_refl _, Nat.le_refl _⟩) | (cases h; exact ⟨Nat.le_succ _, Nat.le_add_right _ _⟩))
set_option maxHeartbeats 4000000 in
/-- where the size is known, cells and heap grow together -/
theorem ai_st_len {K : ai_L} {X : Nat × (Nat → Int32)} {nL NS : Nat} {i : Instr} {tg : List Nat} {fr fr' : ai_F} (h : ai_st K X nL NS i tg fr = some fr') : fr'.2.2.2.2.1 = true → fr.2.2.2.2.1 = true ∧ fr'.2.2.2.1.length + fr.2.2.2.2.2.1 = fr.2.2.2.1.length + fr'.2.2.2.2.2.1 := by
  unfold ai_st at h
  split at h <;> first | (cases h; done) | skip
  all_goals (first | unfold ai_push at h | unfold ai_ld at h | unfold ai_lda at h | unfold ai_sto at h | unfold ai_sta at h | unfold ai_inc at h | unfold ai_bin at h | unfold ai_dv at h | unfold ai_i2l at h | unfold ai_i2b at h | unfold ai_lcmp at h | unfold ai_dup at h | unfold ai_dup2 at h | unfold ai_pop at h | unfold ai_if at h | unfold ai_ic at h | unfold ai_go at h | unfold ai_tb at h | unfold ai_get at h | unfold ai_put at h | unfold ai_ial at h | unfold ai_bal at h | unfold ai_lal at h | unfold ai_ias at h | unfold ai_bas at h | unfold ai_las at h | unfold ai_len at h | unfold ai_new at h | unfold ai_nwa at h | unfold ai_nws at h | unfold ai_ldc at h | unfold ai_aas at h | unfold ai_aal at h | unfold ai_obj at h | unfold ai_nat ai_mm ai_ab ai_cpy at h | unfold ai_sx at h)
  all_goals (repeat' (split at h))
  all_goals (first | (cases h; done) | (cases h; exact fun q => ⟨q, rfl⟩) | (cases h; exact fun q => ⟨q, by simp⟩) | (rename_i hc; cases h; exact fun _ => ⟨hc.1, by simp only [List.length_append, List.length_cons, List.length_nil]; omega⟩))
