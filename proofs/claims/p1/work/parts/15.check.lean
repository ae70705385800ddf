/-! A CHECK THAT A PROGRAM DECIDES: a method's rows are those of its bytes -/
def ak_rx (E : String) : Nat × ByteArray := if E = "java/util/NoSuchElementException" then (13, ⟨#[0x2a, 0x2b, 0xb7, 0x00, 0x0d, 0xb1]⟩) else (7, ⟨#[0x2a, 0x2b, 0xb7, 0x00, 0x07, 0xb1]⟩)
def ak_dc (cc : ByteArray) (pc : Nat) (i : Instr) : Bool := match i with
  | .tableswitch d lo hi offs => match decode cc pc with
    | .ok (j, _) => decide (j = .tableswitch d lo hi offs)
    | _ => false
  | j => decide (decode cc pc = .ok (j, ai_ln j))
theorem ak_dc_ok {cc : ByteArray} {pc : Nat} {i : Instr} (h : ak_dc cc pc i = true) : ai_dc cc pc i := by
  unfold ak_dc at h
  split at h
  · split at h
    · rename_i j n hj
      have := of_decide_eq_true h
      subst this
      exact ⟨n, hj⟩
    · cases h
  · rename_i j hj
    have h2 := of_decide_eq_true h
    cases i <;> first | exact h2 | exact absurd rfl (hj _ _ _ _)
def ak_cw (M : ai_M) : Cond := ai_cw M
def ak_cf (own : String) (ix n : Nat) (M : ai_M) : Bool := ai_good (.methodLink own ix M.nm) && ai_good (.initialized M.nm.cls) && ai_good (ai_cw M) && decide (M.nm.cls ≠ "java/lang/invoke/MethodHandle") && decide (M.nm.cls ≠ "java/lang/invoke/VarHandle") && decide ((parseMethodDescriptor M.nm.desc).map (fun d => d.parameters.length) = some n) && decide (M.ml ≤ 31)
theorem ak_cf_ok {own : String} {ix n : Nat} {M : ai_M} (h : ak_cf own ix n M = true) : ai_cf own ix n M := by
  simp only [ak_cf, Bool.and_eq_true, decide_eq_true_eq] at h
  obtain ⟨⟨⟨⟨⟨⟨h1, h2⟩, h3⟩, h4⟩, h5⟩, h6⟩, h7⟩ := h
  exact ⟨ai_good_in h1, ai_good_in h2, ai_good_in h3, h4, h5, h6, h7⟩
def ak_tf (K : ai_L) (own : String) (M : ai_M) (pc ik : Nat) (E : String) : Bool := match ai_as M.co (pc + 4), ai_as M.co (pc + 6) with
  | some (.ldc is, _), some (.invokespecial ic, _) => match ai_as K.2.2.1 is with
    | some _ => decide (decode M.by' pc = .ok (.new ik, 3)) && decide (decode M.by' (pc + 3) = .ok (.dup, 1)) && decide (decode M.by' (pc + 4) = .ok (.ldc is, 2)) && decide (decode M.by' (pc + 6) = .ok (.invokespecial ic, 3)) && decide (decode M.by' (pc + 9) = .ok (.athrow, 1)) && decide (decode (ak_rx E).2 0 = .ok (.aload_n 0, 1)) && decide (decode (ak_rx E).2 1 = .ok (.aload_n 1, 1)) && decide (decode (ak_rx E).2 2 = .ok (.invokespecial (ak_rx E).1, 3)) && decide (decode (ak_rx E).2 5 = .ok (.return_, 1)) && Bundle.fit E && ai_good (.classLink own ik E) && ai_good (.initialized E) && (vy_at own ic E (ak_rx E).1 (ak_rx E).2 ["java/lang/RuntimeException", "java/lang/Exception"]).all (fun w => ai_good w || decide (w ∈ ai_NW)) && decide (Cond.castable E E ∈ ai_NW)
    | none => false
  | _, _ => false
theorem ak_tf_ok {K : ai_L} {own : String} {M : ai_M} {pc ik : Nat} {E : String} (h : ak_tf K own M pc ik E = true) : ai_tf K own M.by' pc ik E := by
  unfold ak_tf at h
  split at h
  · rename_i is _ ic _ h1 h2
    split at h
    · rename_i i hi
      simp only [Bool.and_eq_true, decide_eq_true_eq] at h
      obtain ⟨⟨⟨⟨⟨⟨⟨⟨⟨⟨⟨⟨⟨g1, g2⟩, g3⟩, g4⟩, g5⟩, g6⟩, g7⟩, g8⟩, g9⟩, g10⟩, g11⟩, g12⟩, g13⟩, g14⟩ := h
      refine ⟨is, ic, i, (ak_rx E).1, (ak_rx E).2, g1, g2, g3, g4, g5, hi, g6, g7, g8, g9, g10, ai_good_in g11, ai_good_in g12, fun w hw => ?_, g14⟩
      have := List.all_eq_true.mp g13 w hw
      simp only [Bool.or_eq_true, decide_eq_true_eq] at this
      exact this.imp ai_good_in id
    · cases h
  · cases h
def ak_fr (own : String) (ix ci k : Nat) : Bool := match vwCl[ci]? with
  | some (_, T, N) => decide (k < N) && ai_good (.fieldLink own ix (T k).1 (T k).2.1 (T k).2.2.1)
  | none => false
theorem ak_fr_ok {own : String} {ix ci k : Nat} (h : ak_fr own ix ci k = true) : ai_fr own ix ci k := by
  unfold ak_fr at h
  split at h
  · rename_i C T N hc
    simp only [Bool.and_eq_true, decide_eq_true_eq] at h
    exact ⟨C, T, N, hc, h.1, ai_good_in h.2⟩
  · cases h
def ak_fw (own : String) (ini : Bool) (ix ci k kd : Nat) : Bool := match vwCl[ci]? with
  | some (_, T, N) => decide (k < N) && ai_good (.fieldLink own ix (T k).1 (T k).2.1 (T k).2.2.1) && ai_fk kd (ai_fty ci k) && (decide ((T k).2.2.2 = false) || (ini && decide ((T k).1 = own) && decide ((T k).2.2.2 = true)))
  | none => false
theorem ak_fw_ok {own : String} {ini : Bool} {ix ci k kd : Nat} (h : ak_fw own ini ix ci k kd = true) : ai_fw own ini ix ci k kd := by
  unfold ak_fw at h
  split at h
  · rename_i C T N hc
    simp only [Bool.and_eq_true, Bool.or_eq_true, decide_eq_true_eq] at h
    obtain ⟨⟨⟨h1, h2⟩, h3⟩, h4⟩ := h
    refine ⟨C, T, N, hc, h1, ai_good_in h2, h3, ?_⟩
    rcases h4 with h4 | h4
    · exact Or.inl h4
    · exact Or.inr ⟨h4.1.1, h4.1.2, h4.2⟩
  · cases h
def ak_br (pc : Nat) (off : Int) (tg : List Nat) : Bool := match tg with
  | [t] => decide ((pc : Int) + off = (t : Int))
  | _ => true
theorem ak_br_ok {pc : Nat} {off : Int} {tg : List Nat} (h : ak_br pc off tg = true) : ∀ t : Nat, tg = [t] → (pc : Int) + off = (t : Int) := by
  intro t ht
  subst ht
  exact of_decide_eq_true h
def ak_lf (ms : List ai_M) (lk : Nat → ai_L) (on : Nat → String) (M : ai_M) (pc : Nat) (i : Instr) (tg : List Nat) : Bool := match i with
  | .ifCond _ off => ak_br pc off tg
  | .if_icmp _ off => ak_br pc off tg
  | .goto off => ak_br pc off tg
  | .tableswitch dflt _ _ offs => (match (tg[0]? : Option Nat) with
    | some t => decide ((pc : Int) + dflt = (t : Int))
    | none => true) && (List.range tg.length).all (fun j => match (tg[j + 1]? : Option Nat) with
      | some t => (match offs[j]? with
        | some off => decide ((pc : Int) + off = (t : Int))
        | none => false)
      | none => true)
  | .getfield ix => match ai_as (lk M.cn).1 ix with
    | some (ci, k, _) => ak_fr (on M.cn) ix ci k
    | none => true
  | .putfield ix => match ai_as (lk M.cn).1 ix with
    | some (ci, k, kd) => ak_fw (on M.cn) (decide (M.nm.name = "<init>")) ix ci k kd
    | none => true
  | .new ix => (match ai_as (lk M.cn).2.1 ix with
    | some ci => (match vwCl[ci]? with
      | some q => ai_good (.classLink (on M.cn) ix q.1)
      | none => false)
    | none => true) && (match ai_as (lk M.cn).2.2.2.2 ix with
    | some E => ak_tf (lk M.cn) (on M.cn) M pc ix E
    | none => true)
  | .newarray t => ai_good (.arrayClass (newarray.typeOf t))
  | .anewarray ix => ai_good (.classLink (on M.cn) ix "java/lang/String")
  | .invokespecial ix => match ai_as (lk M.cn).2.2.2.1 ix with
    | some (q, n) => if q = 0 then ai_good (.methodLink (on M.cn) ix Lib.objectInit) else match ms[q]? with
      | some M1 => ak_cf (on M.cn) ix n M1 && ai_good (.instanceMethod M1.nm) && decide (M1.nm.name = "<init>") && decide (M1.hh = []) && decide (M1.rt = none)
      | none => true
    | none => true
  | .invokevirtual ix => match ai_as (lk M.cn).2.2.2.1 ix with
    | some (q, n) => if q = 0 then true else match ms[q]? with
      | some M1 => ak_cf (on M.cn) ix n M1 && ai_good (.instanceMethod M1.nm) && ai_good (.selects M1.nm.cls M1.nm M1.nm) && decide (M1.hh = []) && (match vwCl[M1.cn]? with
        | some q9 => decide (q9.1 = M1.nm.cls)
        | none => false)
      | none => true
    | none => true
  | .invokestatic ix => match ai_as (lk M.cn).2.2.2.1 ix with
    | some (q, n) => if q = 0 then true else match ms[q]? with
      | some M1 => ak_cf (on M.cn) ix n M1 && ai_good (.static M1.nm)
      | none => true
    | none => true
  | _ => true
theorem ak_lf_ok {ms : List ai_M} {lk : Nat → ai_L} {on : Nat → String} {M : ai_M} {pc : Nat} {i : Instr} {tg : List Nat} (h : ak_lf ms lk on M pc i tg = true) : ai_lf ms lk on M pc i tg := by
  cases i with
  | ifCond o off => exact ak_br_ok h
  | if_icmp o off => exact ak_br_ok h
  | goto off => exact ak_br_ok h
  | tableswitch dflt lo hi offs =>
    simp only [ak_lf, Bool.and_eq_true] at h
    refine ⟨fun t ht => ?_, fun j t ht => ?_⟩
    · have h1 := h.1
      rw [ht] at h1
      exact of_decide_eq_true h1
    · have hj : j < tg.length := by
        have := (List.getElem?_eq_some_iff.mp ht).1
        omega
      have h2 := List.all_eq_true.mp h.2 j (List.mem_range.mpr hj)
      rw [ht] at h2
      simp only at h2
      split at h2
      · rename_i off ho
        exact ⟨off, ho, of_decide_eq_true h2⟩
      · cases h2
  | getfield ix =>
    intro ci k kd hq
    simp only [ak_lf, hq] at h
    exact ak_fr_ok h
  | putfield ix =>
    intro ci k kd hq
    simp only [ak_lf, hq] at h
    exact ak_fw_ok h
  | new ix =>
    simp only [ak_lf, Bool.and_eq_true] at h
    refine ⟨fun ci hq => ?_, fun E hq => ?_⟩
    · have h1 := h.1
      rw [hq] at h1
      simp only at h1
      split at h1
      · rename_i q9 hq9
        exact ⟨q9, hq9, ai_good_in h1⟩
      · cases h1
    · have h2 := h.2
      rw [hq] at h2
      exact ak_tf_ok h2
  | newarray t => exact ai_good_in h
  | anewarray ix => exact ai_good_in h
  | invokespecial ix =>
    refine ⟨fun n hq => ?_, fun q n M1 hq hq0 hM1 => ?_⟩
    · simp only [ak_lf, hq] at h
      exact ai_good_in h
    · simp only [ak_lf, hq, if_neg hq0, hM1, Bool.and_eq_true, decide_eq_true_eq] at h
      obtain ⟨⟨⟨⟨h1, h2⟩, h3⟩, h4⟩, h5⟩ := h
      exact ⟨ak_cf_ok h1, ai_good_in h2, h3, h4, h5⟩
  | invokevirtual ix =>
    intro q n M1 hq hq0 hM1
    simp only [ak_lf, hq, if_neg hq0, hM1, Bool.and_eq_true, decide_eq_true_eq] at h
    obtain ⟨⟨⟨⟨h1, h2⟩, h3⟩, h4⟩, h5⟩ := h
    refine ⟨ak_cf_ok h1, ai_good_in h2, ai_good_in h3, h4, ?_⟩
    split at h5
    · rename_i q9 hq9
      obtain ⟨C9, T9, N9⟩ := q9
      have := of_decide_eq_true h5
      simp only at this
      subst this
      exact ⟨T9, N9, hq9⟩
    · cases h5
  | invokestatic ix =>
    intro q n M1 hq hq0 hM1
    simp only [ak_lf, hq, if_neg hq0, hM1, Bool.and_eq_true] at h
    exact ⟨ak_cf_ok h.1, ai_good_in h.2⟩
  | _ => trivial
def ak_hd (lk : Nat → ai_L) (on : Nat → String) (M : ai_M) : Bool := match M.hh with
  | [] => true
  | [(_, _, hp, ix)] => decide (M.rt = some .int) && decide (ix ≠ 0) && (match ai_as M.co hp with
      | some (.astore k, _) => decide (k < M.ml) && decide (decode M.by' hp = .ok (.astore k, 2)) && decide (decode M.by' (hp + 2) = .ok (.iconst 1, 1)) && decide (decode M.by' (hp + 3) = .ok (.ireturn, 1))
      | some (.astore_n k, _) => decide (k.val < M.ml) && decide (decode M.by' hp = .ok (.astore_n k, 1)) && decide (decode M.by' (hp + 1) = .ok (.iconst 1, 1)) && decide (decode M.by' (hp + 2) = .ok (.ireturn, 1))
      | _ => false) && (match ai_as (lk M.cn).2.2.2.2 ix with
      | some E => ai_good (.classLink (on M.cn) ix E) && decide (Cond.castable E E ∈ ai_NW)
      | none => true)
  | _ => false
def ak_M (ms : List ai_M) (lk : Nat → ai_L) (on : Nat → String) (M : ai_M) : Bool := plainName M.nm.cls && decide (on M.cn = M.nm.cls) && M.co.all (fun x => ak_dc M.by' x.1 x.2.1 && ak_lf ms lk on M x.1 x.2.1 x.2.2) && ak_hd lk on M
theorem ak_M_ok {ms : List ai_M} {lk : Nat → ai_L} {on : Nat → String} {M : ai_M} (h : ak_M ms lk on M = true) : ai_okM ms lk on M := by
  simp only [ak_M, Bool.and_eq_true, decide_eq_true_eq] at h
  obtain ⟨⟨⟨h1, h2⟩, h3⟩, h4⟩ := h
  refine ⟨h1, h2, fun pc i tg hi => ?_, ?_⟩
  · have := List.all_eq_true.mp h3 _ (ai_as_mem hi)
    simp only [Bool.and_eq_true] at this
    exact ⟨ak_dc_ok this.1, ak_lf_ok this.2⟩
  · unfold ak_hd at h4
    split at h4
    · rename_i hh
      exact Or.inl hh
    · rename_i st en hp ix hh
      simp only [Bool.and_eq_true, decide_eq_true_eq] at h4
      obtain ⟨⟨⟨g1, g2⟩, g3⟩, g4⟩ := h4
      right
      have gE : ∀ E, ai_as (lk M.cn).2.2.2.2 ix = some E → Cond.classLink (on M.cn) ix E ∈ ai_TB ∧ Cond.castable E E ∈ ai_NW := by
        intro E hE
        rw [hE] at g4
        simp only [Bool.and_eq_true, decide_eq_true_eq] at g4
        exact ⟨ai_good_in g4.1, g4.2⟩
      split at g3
      · rename_i k _ hk
        simp only [Bool.and_eq_true, decide_eq_true_eq] at g3
        exact ⟨g1, st, en, hp, ix, k, hh, g3.1.1.1, Or.inl ⟨g3.1.1.2, g3.1.2, g3.2⟩, g2, gE⟩
      · rename_i k _ hk
        simp only [Bool.and_eq_true, decide_eq_true_eq] at g3
        exact ⟨g1, st, en, hp, ix, k, hh, g3.1.1.1, Or.inr ⟨k, rfl, g3.1.1.2, g3.1.2, g3.2⟩, g2, gE⟩
      · cases g3
    · cases h4
