/-! THE INTERPRETER AS A PROGRAM: what it comes to is an outcome of the interpreter (calls that throw are left out: none is met) -/
def ei_rc (i : Instr) (As : List Value) (h : ai_H) (cn : Nat) : Bool := match i, As with
  | .invokevirtual _, .ref b :: _ => (match h[b]? with
    | some (.inr (c, _)) => Nat.beq c cn
    | _ => false)
  | .invokevirtual _, _ => false
  | _, _ => true
theorem ei_rc_ok {i : Instr} {As : List Value} {h : ai_H} {cn : Nat} (e : ei_rc i As h cn = true) : ai_rc i As h cn := by
  unfold ei_rc at e
  unfold ai_rc
  split at e
  · split at e
    · rename_i hb
      have h1 := Nat.eq_of_beq_eq_true e
      subst h1
      exact ⟨_, hb⟩
    · cases e
  · cases e
  · rename_i n1 n2
    split
    · exact absurd rfl (n1 _ _ _ rfl)
    · exact absurd rfl (n2 _)
    · trivial
theorem ei_ni_l (i : Instr) (x : Option Value × ai_H × Bool × Nat × Nat) : ai_ni i (.inl x) := by
  cases i <;> exact trivial
/-- a call that returned: the frame behind it -/
def ei_ca (ms : List ai_M) (lk : Nat → ai_L) (cl : Nat → List Value → ai_H → Bool → Option ai_O) (M : ai_M) (i : Instr) (fr : ai_F) : Option ai_F := match ai_ca (lk M.cn) i fr.2.2.1 fr.2.2.2.1 with
  | none => none
  | some (q, As, rest) => match ms[q]? with
    | none => none
    | some M1 => match !(Nat.beq q 0) && ei_rc i As fr.2.2.2.1 M1.cn with
      | false => none
      | true => match cl q As fr.2.2.2.1 fr.2.2.2.2.1 with
        | some (.inl (v, h', ex', nc', ns')) => some (ai_af fr rest v h' ex' nc' ns')
        | _ => none
theorem ei_ca_ok {ms : List ai_M} {lk : Nat → ai_L} {cl : Nat → List Value → ai_H → Bool → Option ai_O} {cl' : Nat → List Value → ai_H → Bool → ai_O → Prop} (hcl : ∀ q As h ex o, cl q As h ex = some o → cl' q As h ex o) {M : ai_M} {i : Instr} {fr fr' : ai_F} (e : ei_ca ms lk cl M i fr = some fr') :
    ∃ q As rest M1 v h' ex' nc' ns', ai_ca (lk M.cn) i fr.2.2.1 fr.2.2.2.1 = some (q, As, rest) ∧ q ≠ 0 ∧ ms[q]? = some M1 ∧ ai_rc i As fr.2.2.2.1 M1.cn ∧ cl' q As fr.2.2.2.1 fr.2.2.2.2.1 (.inl (v, h', ex', nc', ns')) ∧ fr' = ai_af fr rest v h' ex' nc' ns' := by
  unfold ei_ca at e
  split at e
  · cases e
  · rename_i q As rest hca
    split at e
    · cases e
    · rename_i M1 hM1
      split at e
      · cases e
      · rename_i hq
        have h2 := (Bool.and_eq_true _ _).mp hq
        split at e
        · rename_i v h' ex' nc' ns' ho
          cases e
          refine ⟨q, As, rest, M1, v, h', ex', nc', ns', hca, ?_, hM1, ei_rc_ok h2.2, hcl _ _ _ _ _ ho, rfl⟩
          intro h0
          subst h0
          exact absurd h2.1 (by decide)
        · cases e
/-- one step of a method, the rest of the run being ih -/
def ei_b (ms : List ai_M) (lk : Nat → ai_L) (X : Nat × (Nat → Int32)) (NS : Nat) (cl : Nat → List Value → ai_H → Bool → Option ai_O) (M : ai_M) (ih : ai_F → Option ai_O) (fr : ai_F) : Option ai_O := match ai_as M.co fr.1 with
  | none => none
  | some c => match ai_st (lk M.cn) X M.ml NS c.1 c.2 fr with
    | some fr' => ih fr'
    | none => match ai_rt M.rt c.1 fr with
      | some o => some o
      | none => match ei_ca ms lk cl M c.1 fr with
        | some fr' => ih fr'
        | none => none
noncomputable def ei_rn (ms : List ai_M) (lk : Nat → ai_L) (X : Nat × (Nat → Int32)) (NS : Nat) (cl : Nat → List Value → ai_H → Bool → Option ai_O) (M : ai_M) (n : Nat) : ai_F → Option ai_O :=
  Nat.rec (motive := fun _ => ai_F → Option ai_O) (fun _ => none) (fun _ ih fr => ei_b ms lk X NS cl M ih fr) n
theorem ei_rn_ok {ms : List ai_M} {lk : Nat → ai_L} {X : Nat × (Nat → Int32)} {NS : Nat} {cl : Nat → List Value → ai_H → Bool → Option ai_O} {cl' : Nat → List Value → ai_H → Bool → ai_O → Prop} (hcl : ∀ q As h ex o, cl q As h ex = some o → cl' q As h ex o) {M : ai_M} :
    ∀ (n : Nat) (fr : ai_F) (o : ai_O), ei_rn ms lk X NS cl M n fr = some o → ai_Rn ms lk X NS cl' M n fr o
  | 0, fr, o, h => by
    have h1 : (none : Option ai_O) = some o := h
    cases h1
  | n + 1, fr, o, h => by
    have e : ei_b ms lk X NS cl M (ei_rn ms lk X NS cl M n) fr = some o := h
    unfold ei_b at e
    split at e
    · cases e
    · rename_i c hc
      obtain ⟨i, tg⟩ := c
      split at e
      · rename_i fr' hs
        exact ⟨i, tg, hc, Or.inl ⟨fr', hs, ei_rn_ok hcl n fr' o e⟩⟩
      · split at e
        · rename_i o9 ho
          cases e
          exact ⟨i, tg, hc, Or.inr (Or.inl ho)⟩
        · split at e
          · rename_i fr' hf
            obtain ⟨q, As, rest, M1, v, h', ex', nc', ns', e1, e2, e3, e4, e5, rfl⟩ := ei_ca_ok hcl hf
            exact ⟨i, tg, hc, Or.inr (Or.inr (Or.inr ⟨q, As, rest, .inl (v, h', ex', nc', ns'), M1, e1, e2, e3, e4, ei_ni_l _ _, e5, ei_rn_ok hcl n _ o e⟩))⟩
          · cases e
/-- a call's outcome: the method from its entry -/
noncomputable def ei_e (ms : List ai_M) (lk : Nat → ai_L) (X : Nat × (Nat → Int32)) (NS n : Nat) (ih : Nat → List Value → ai_H → Bool → Option ai_O) (q : Nat) (As : List Value) (h : ai_H) (ex : Bool) : Option ai_O := match ms[q]? with
  | none => none
  | some M => match Nat.ble (lg_sl As).length M.ml with
    | true => ei_rn ms lk X NS ih M n (0, lv_args 0 As, [], h, ex, 0, 0)
    | false => none
noncomputable def ei_ev (ms : List ai_M) (lk : Nat → ai_L) (X : Nat × (Nat → Int32)) (NS n d : Nat) : Nat → List Value → ai_H → Bool → Option ai_O :=
  Nat.rec (motive := fun _ => Nat → List Value → ai_H → Bool → Option ai_O) (fun _ _ _ _ => none) (fun _ ih q As h ex => ei_e ms lk X NS n ih q As h ex) d
theorem ei_ev_ok {ms : List ai_M} {lk : Nat → ai_L} {X : Nat × (Nat → Int32)} {NS n : Nat} : ∀ (d q : Nat) (As : List Value) (h : ai_H) (ex : Bool) (o : ai_O), ei_ev ms lk X NS n d q As h ex = some o → ai_Ev ms lk X NS d q As h ex o
  | 0, q, As, h, ex, o, e => by
    have h1 : (none : Option ai_O) = some o := e
    cases h1
  | d + 1, q, As, h, ex, o, e => by
    have e1 : ei_e ms lk X NS n (ei_ev ms lk X NS n d) q As h ex = some o := e
    unfold ei_e at e1
    split at e1
    · cases e1
    · rename_i M hM
      split at e1
      · rename_i hl
        exact ⟨M, n, hM, Nat.le_of_ble_eq_true hl, ei_rn_ok (ei_ev_ok d) n _ o e1⟩
      · cases e1
/-- it returned 0, within the room -/
def ei_z (r : Option ai_O) : Bool := match r with
  | some (.inl (some (.int v), _, _, nc, ns)) => decide (v = 0) && Nat.ble nc 600000 && Nat.ble ns 7000000
  | _ => false
theorem ei_z_ok {r : Option ai_O} (h : ei_z r = true) : ∃ h' ex' nc ns, r = some (.inl (some (.int 0), h', ex', nc, ns)) ∧ nc ≤ 600000 ∧ ns ≤ 7000000 := by
  unfold ei_z at h
  split at h
  · rename_i v h' ex' nc ns
    simp only [Bool.and_eq_true, decide_eq_true_eq] at h
    obtain ⟨⟨rfl, h2⟩, h3⟩ := h
    exact ⟨h', ex', nc, ns, rfl, Nat.le_of_ble_eq_true h2, Nat.le_of_ble_eq_true h3⟩
  · cases h
