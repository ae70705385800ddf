/-! A CHECK THAT A PROGRAM DECIDES: a method's rows are those of its bytes -/
def ak_rx (E : String) : Nat × ByteArray := if E = "java/util/NoSuchElementException" then (13, ⟨#[0x2a, 0x2b, 0xb7, 0x00, 0x0d, 0xb1]⟩) else (7, ⟨#[0x2a, 0x2b, 0xb7, 0x00, 0x07, 0xb1]⟩)
def ak_dc (cc : ByteArray) (pc : Nat) (i : Instr) : Bool := match i with
  | .tableswitch d lo hi offs => match decode cc pc with
    | .ok (j, _) => decide (j = .tableswitch d lo hi offs)
    | _ => false
  | j => decide (decode cc pc = .ok (j, ai_ln j))
theorem ak_dc_ok {cc : ByteArray} {pc : Nat} {i : Instr} (h : ak_dc cc pc i = true) : ai_dc cc pc i := by
  unfold ak_dc at h
  split at h
  · split at h
    · rename_i j n hj
      have := of_decide_eq_true h
      subst this
      exact ⟨n, hj⟩
    · cases h
  · rename_i j hj
    have h2 := of_decide_eq_true h
    cases i <;> first | exact h2 | exact absurd rfl (hj _ _ _ _)
def ak_z {α : Type} (f : α → Nat → Bool) : List α → List Nat → Bool
  | [], _ => true
  | x :: r, p :: q => f x p && ak_z f r q
  | _ :: _, [] => false
theorem ak_z_ok {α : Type} {f : α → Nat → Bool} : ∀ {l : List α} {ps : List Nat}, ak_z f l ps = true → ∀ x ∈ l, ∃ p, f x p = true
  | [], _, _, x, hx => nomatch hx
  | y :: r, p :: q, h, x, hx => by
    simp only [ak_z, Bool.and_eq_true] at h
    rcases List.mem_cons.mp hx with rfl | hx
    · exact ⟨p, h.1⟩
    · exact ak_z_ok h.2 x hx
  | _ :: _, [], h, _, _ => by cases h
/-- a method by itself: as what it may be called (1 virtual, 2 a constructor, 3 static) -/
def ak_cM (kd : Nat) (ps : Nat × Nat × Nat × Nat) (M : ai_M) : Bool := ai_gp ps.1 (.initialized M.nm.cls) && ai_gp ps.2.1 (ai_cw M) && decide (M.nm.cls ≠ "java/lang/invoke/MethodHandle") && decide (M.nm.cls ≠ "java/lang/invoke/VarHandle") && decide (M.ml ≤ 31) && (match kd with
  | 1 => decide (M.nm.name ≠ "<init>") && ai_gp ps.2.2.1 (.instanceMethod M.nm) && ai_gp ps.2.2.2 (.selects M.nm.cls M.nm M.nm) && decide (M.hh = []) && (match vwCl[M.cn]? with
    | some q9 => decide (q9.1 = M.nm.cls)
    | none => false)
  | 2 => ai_gp ps.2.2.1 (.instanceMethod M.nm) && decide (M.nm.name = "<init>") && decide (M.hh = []) && decide (M.rt = none)
  | 3 => decide (M.nm.name ≠ "<init>") && ai_gp ps.2.2.1 (.static M.nm)
  | _ => true)
def ak_fr (own : String) (x : Nat × Nat × Nat × Nat) (p : Nat) : Bool := match vwCl[x.2.1]? with
  | some (_, T, N) => decide (x.2.2.1 < N) && ai_gp p (.fieldLink own x.1 (T x.2.2.1).1 (T x.2.2.1).2.1 (T x.2.2.1).2.2.1) && ai_fk x.2.2.2 (ai_fty x.2.1 x.2.2.1)
  | none => false
theorem ak_fr_ok {own : String} {ix ci k kd p : Nat} (h : ak_fr own (ix, ci, k, kd) p = true) : ai_fr own ix ci k ∧ ai_fk kd (ai_fty ci k) = true := by
  unfold ak_fr at h
  split at h
  · rename_i C T N hc
    simp only [Bool.and_eq_true, decide_eq_true_eq] at h
    exact ⟨⟨C, T, N, hc, h.1.1, ai_gp_in h.1.2⟩, h.2⟩
  · cases h
def ak_lm (ms : List ai_M) (own : String) (x : Nat × Nat × Nat) (p : Nat) : Bool := if x.2.1 = 0 then (if x.2.2 = 0 then ai_gp p (.methodLink own x.1 Lib.objectInit) else ai_gp p (.methodLink own x.1 (ai_nm x.2.2))) else match ms[x.2.1]? with
  | some M1 => (ai_gp p (.methodLink own x.1 M1.nm) || (decide (M1.nm.name = "<init>") && decide (Cond.methodLinkNest own x.1 M1.nm "FireWards" ∈ ai_NW))) && decide ((parseMethodDescriptor M1.nm.desc).map (fun d => d.parameters.length) = some x.2.2)
  | none => true
/-- the links of a class -/
def ak_K (ms : List ai_M) (own : String) (K : ai_L) (pf pk pm px : List Nat) : Bool := ak_z (ak_fr own) K.1 pf && ak_z (fun x p => match vwCl[x.2]? with
    | some q => ai_gp p (.classLink own x.1 q.1)
    | none => false) K.2.1 pk && ak_z (ak_lm ms own) K.2.2.2.1 pm && ak_z (fun x p => ai_gp p (.classLink own x.1 x.2)) K.2.2.2.2 px
/-- the words of a throw -/
def ak_ta (on : Nat → String) (x : Nat × Nat × String) (ps : List Nat) : Bool := ak_z (fun w p => ai_gp p w || decide (w ∈ ai_NW)) (vy_at (on x.1) x.2.1 x.2.2 (ak_rx x.2.2).1 (ak_rx x.2.2).2 ["java/lang/RuntimeException", "java/lang/Exception"]) ps && decide (decode (ak_rx x.2.2).2 0 = .ok (.aload_n 0, 1)) && decide (decode (ak_rx x.2.2).2 1 = .ok (.aload_n 1, 1)) && decide (decode (ak_rx x.2.2).2 2 = .ok (.invokespecial (ak_rx x.2.2).1, 3)) && decide (decode (ak_rx x.2.2).2 5 = .ok (.return_, 1)) && Bundle.fit x.2.2 && ai_gp (ps.getLastD 0) (.initialized x.2.2) && decide (Cond.castable x.2.2 x.2.2 ∈ ai_NW)
def ak_tf (ta : List (Nat × Nat × String)) (K : ai_L) (M : ai_M) (pc ik : Nat) (E : String) : Bool := match ai_as M.co (pc + 4) with
  | some (.ldc is, _) => match ai_as M.co (pc + 6) with
    | some (.invokespecial ic, _) => match ai_as K.2.2.1 is with
      | some _ => decide ((M.cn, ic, E) ∈ ta) && decide (decode M.by' pc = .ok (.new ik, 3)) && decide (decode M.by' (pc + 3) = .ok (.dup, 1)) && decide (decode M.by' (pc + 4) = .ok (.ldc is, 2)) && decide (decode M.by' (pc + 6) = .ok (.invokespecial ic, 3)) && decide (decode M.by' (pc + 9) = .ok (.athrow, 1))
      | none => false
    | _ => false
  | _ => false
theorem ak_tf_ok {ta : List (Nat × Nat × String)} {lk : Nat → ai_L} {on : Nat → String} {M : ai_M} {pc ik : Nat} {E : String} (hta : ∀ x ∈ ta, ∃ ps, ak_ta on x ps = true) (hcl : Cond.classLink (on M.cn) ik E ∈ ai_TB) (h : ak_tf ta (lk M.cn) M pc ik E = true) : ai_tf (lk M.cn) (on M.cn) M.by' pc ik E := by
  unfold ak_tf at h
  split at h
  · rename_i is _ h1
    split at h
    · rename_i ic _ h2
      split at h
      · rename_i i hi
        simp only [Bool.and_eq_true, decide_eq_true_eq] at h
        obtain ⟨⟨⟨⟨⟨g0, g1⟩, g2⟩, g3⟩, g4⟩, g5⟩ := h
        obtain ⟨ps, hx⟩ := hta _ g0
        simp only [ak_ta, Bool.and_eq_true, decide_eq_true_eq] at hx
        obtain ⟨⟨⟨⟨⟨⟨⟨g13, g6⟩, g7⟩, g8⟩, g9⟩, g10⟩, g12⟩, g14⟩ := hx
        refine ⟨is, ic, i, (ak_rx E).1, (ak_rx E).2, g1, g2, g3, g4, g5, hi, g6, g7, g8, g9, g10, hcl, ai_gp_in g12, fun w hw => ?_, g14⟩
        obtain ⟨p9, this⟩ := ak_z_ok g13 w hw
        simp only [Bool.or_eq_true, decide_eq_true_eq] at this
        exact this.imp ai_gp_in id
      · cases h
    · cases h
  · cases h
def ak_br (pc : Nat) (off : Int) (tg : List Nat) : Bool := match tg with
  | [t] => decide ((pc : Int) + off = (t : Int))
  | _ => true
theorem ak_br_ok {pc : Nat} {off : Int} {tg : List Nat} (h : ak_br pc off tg = true) : ∀ t : Nat, tg = [t] → (pc : Int) + off = (t : Int) := by
  intro t ht
  subst ht
  exact of_decide_eq_true h
def ak_ars (ps : Nat × Nat × Nat × Nat) : Bool := ai_gp ps.1 (.arrayClass .int) && ai_gp ps.2.1 (.arrayClass .boolean) && ai_gp ps.2.2.1 (.arrayClass .byte) && ai_gp ps.2.2.2 (.arrayClass .long)
theorem ak_arrs {ps : Nat × Nat × Nat × Nat} (h : ak_ars ps = true) : ∀ t : ArrayType, (t = .int ∨ t = .boolean ∨ t = .byte ∨ t = .long) → Cond.arrayClass (newarray.typeOf t) ∈ ai_TB := by
  simp only [ak_ars, Bool.and_eq_true] at h
  intro t ht
  rcases ht with rfl | rfl | rfl | rfl
  · exact ai_gp_in h.1.1.1
  · exact ai_gp_in h.1.1.2
  · exact ai_gp_in h.1.2
  · exact ai_gp_in h.2
def ak_lf (ta : List (Nat × Nat × String)) (kd : List Nat) (lk : Nat → ai_L) (on : Nat → String) (M : ai_M) (pc : Nat) (i : Instr) (tg : List Nat) : Bool := match i with
  | .ifCond _ off => ak_br pc off tg
  | .if_icmp _ off => ak_br pc off tg
  | .goto off => ak_br pc off tg
  | .tableswitch dflt _ _ offs => (match (tg[0]? : Option Nat) with
    | some t => decide ((pc : Int) + dflt = (t : Int))
    | none => true) && (List.range tg.length).all (fun j => match (tg[j + 1]? : Option Nat) with
      | some t => (match offs[j]? with
        | some off => decide ((pc : Int) + off = (t : Int))
        | none => false)
      | none => true)
  | .putfield ix => match ai_as (lk M.cn).1 ix with
    | some (ci, k, _) => (match vwCl[ci]? with
      | some (_, T, _) => decide ((T k).2.2.2 = false) || (decide (M.nm.name = "<init>") && decide ((T k).1 = on M.cn) && decide ((T k).2.2.2 = true))
      | none => false)
    | none => true
  | .new ix => match ai_as (lk M.cn).2.2.2.2 ix with
    | some E => ak_tf ta (lk M.cn) M pc ix E
    | none => true
  | .newarray t => decide (t = .int ∨ t = .boolean ∨ t = .byte ∨ t = .long)
  | .anewarray ix => decide (ai_as (lk M.cn).2.2.2.2 ix = some "java/lang/String")
  | .invokespecial ix => match ai_as (lk M.cn).2.2.2.1 ix with
    | some (q, n) => if q = 0 then decide (n = 0) else decide (kd[q]? = some 2)
    | none => true
  | .invokevirtual ix => match ai_as (lk M.cn).2.2.2.1 ix with
    | some (q, n) => if q = 0 then decide (n ≠ 0) else decide (kd[q]? = some 1)
    | none => true
  | .invokestatic ix => match ai_as (lk M.cn).2.2.2.1 ix with
    | some (q, n) => if q = 0 then decide (n ≠ 0 ∧ n < 6) else decide (kd[q]? = some 3)
    | none => true
  | _ => true
theorem ak_cf_ok {ms : List ai_M} {kd : List Nat} {own : String} {K : ai_L} {pf pk pm px : List Nat} {ix q n k9 : Nat} {M1 : ai_M} (hK : ak_K ms own K pf pk pm px = true) (hC : ∀ (q : Nat) (M1 : ai_M), ms[q]? = some M1 → ∃ ps, ak_cM (kd.getD q 0) ps M1 = true) (hq : ai_as K.2.2.2.1 ix = some (q, n)) (hq0 : q ≠ 0) (hM1 : ms[q]? = some M1) (hk : kd[q]? = some k9) : ai_cg own ix n M1 ∧ (M1.nm.name ≠ "<init>" → ai_cf own ix n M1) ∧ ∃ ps, ak_cM k9 ps M1 = true := by
  simp only [ak_K, Bool.and_eq_true] at hK
  obtain ⟨p, h1⟩ := ak_z_ok hK.1.2 _ (ai_as_mem hq)
  simp only [ak_lm, if_neg hq0, hM1, Bool.and_eq_true, decide_eq_true_eq] at h1
  obtain ⟨ps, h2⟩ := hC q M1 hM1
  rw [show kd.getD q 0 = k9 by simp [hk]] at h2
  have h3 := h2
  simp only [ak_cM, Bool.and_eq_true, decide_eq_true_eq] at h3
  obtain ⟨⟨⟨⟨⟨g1, g2⟩, g3⟩, g4⟩, g5⟩, -⟩ := h3
  refine ⟨⟨?_, ai_gp_in g1, ai_gp_in g2, g3, g4, h1.2, g5⟩, fun hne => ⟨?_, ai_gp_in g1, ai_gp_in g2, g3, g4, h1.2, g5⟩, ps, h2⟩
  · have h4 := h1.1
    simp only [Bool.or_eq_true, Bool.and_eq_true, decide_eq_true_eq] at h4
    exact h4.imp ai_gp_in (fun h => ⟨_, h.2⟩)
  · have h4 := h1.1
    simp only [Bool.or_eq_true, Bool.and_eq_true, decide_eq_true_eq] at h4
    rcases h4 with h4 | h4
    · exact ai_gp_in h4
    · exact absurd h4.1 hne
theorem ak_lf_ok {ms : List ai_M} {ta : List (Nat × Nat × String)} {kd : List Nat} {lk : Nat → ai_L} {on : Nat → String} {M : ai_M} {pc : Nat} {i : Instr} {tg : List Nat} (hta : ∀ x ∈ ta, ∃ ps, ak_ta on x ps = true) (har : ∀ t : ArrayType, (t = .int ∨ t = .boolean ∨ t = .byte ∨ t = .long) → Cond.arrayClass (newarray.typeOf t) ∈ ai_TB) {pf pk pm px : List Nat} (hK : ak_K ms (on M.cn) (lk M.cn) pf pk pm px = true) (hC : ∀ (q : Nat) (M1 : ai_M), ms[q]? = some M1 → ∃ ps, ak_cM (kd.getD q 0) ps M1 = true) (h : ak_lf ta kd lk on M pc i tg = true) : ai_lf ms lk on M pc i tg := by
  have hK0 := hK
  simp only [ak_K, Bool.and_eq_true] at hK0
  cases i with
  | ifCond o off => exact ak_br_ok h
  | if_icmp o off => exact ak_br_ok h
  | goto off => exact ak_br_ok h
  | tableswitch dflt lo hi offs =>
    simp only [ak_lf, Bool.and_eq_true] at h
    refine ⟨fun t ht => ?_, fun j t ht => ?_⟩
    · have h1 := h.1
      rw [ht] at h1
      exact of_decide_eq_true h1
    · have hj : j < tg.length := by
        have := (List.getElem?_eq_some_iff.mp ht).1
        omega
      have h2 := List.all_eq_true.mp h.2 j (List.mem_range.mpr hj)
      rw [ht] at h2
      simp only at h2
      split at h2
      · rename_i off ho
        exact ⟨off, ho, of_decide_eq_true h2⟩
      · cases h2
  | getfield ix =>
    intro ci k kd9 hq
    obtain ⟨p, h1⟩ := ak_z_ok hK0.1.1.1 _ (ai_as_mem hq)
    exact (ak_fr_ok h1).1
  | putfield ix =>
    intro ci k kd9 hq
    obtain ⟨p, h1⟩ := ak_z_ok hK0.1.1.1 _ (ai_as_mem hq)
    obtain ⟨⟨C, T, N, g1, g2, g3⟩, g4⟩ := ak_fr_ok h1
    simp only [ak_lf, hq, g1, Bool.or_eq_true, Bool.and_eq_true, decide_eq_true_eq] at h
    refine ⟨C, T, N, g1, g2, g3, g4, ?_⟩
    rcases h with h | h
    · exact Or.inl h
    · exact Or.inr ⟨by simp [h.1.1], h.1.2, h.2⟩
  | new ix =>
    refine ⟨fun ci hq => ?_, fun E hq => ?_⟩
    · obtain ⟨p, h1⟩ := ak_z_ok hK0.1.1.2 _ (ai_as_mem hq)
      simp only at h1
      split at h1
      · rename_i q9 hq9
        exact ⟨q9, hq9, ai_gp_in h1⟩
      · cases h1
    · simp only [ak_lf, hq] at h
      obtain ⟨p, h1⟩ := ak_z_ok hK0.2 _ (ai_as_mem hq)
      exact ak_tf_ok hta (ai_gp_in h1) h
  | newarray t => exact har t (of_decide_eq_true h)
  | anewarray ix =>
    obtain ⟨p, h1⟩ := ak_z_ok hK0.2 _ (ai_as_mem (of_decide_eq_true h))
    exact ai_gp_in h1
  | invokespecial ix =>
    refine ⟨fun n hq => ?_, fun q n M1 hq hq0 hM1 => ?_⟩
    · simp only [ak_lf, hq] at h
      have hn : n = 0 := of_decide_eq_true h
      obtain ⟨p, h1⟩ := ak_z_ok hK0.1.2 _ (ai_as_mem hq)
      simp only [ak_lm, hn] at h1
      exact ai_gp_in h1
    · simp only [ak_lf, hq, if_neg hq0, decide_eq_true_eq] at h
      obtain ⟨g1, -, ps, g2⟩ := ak_cf_ok hK hC hq hq0 hM1 h
      simp only [ak_cM, Bool.and_eq_true, decide_eq_true_eq] at g2
      obtain ⟨-, ⟨⟨k1, k2⟩, k3⟩, k4⟩ := g2
      exact ⟨g1, ai_gp_in k1, k2, k3, k4⟩
  | invokevirtual ix =>
    refine ⟨fun n hq => ?_, fun q n M1 hq hq0 hM1 => ?_⟩
    · simp only [ak_lf, hq] at h
      have hn : n ≠ 0 := of_decide_eq_true h
      obtain ⟨p, h1⟩ := ak_z_ok hK0.1.2 _ (ai_as_mem hq)
      simp only [ak_lm, if_neg hn] at h1
      exact ai_gp_in h1
    · simp only [ak_lf, hq, if_neg hq0, decide_eq_true_eq] at h
      obtain ⟨-, g1, ps, g2⟩ := ak_cf_ok hK hC hq hq0 hM1 h
      simp only [ak_cM, Bool.and_eq_true, decide_eq_true_eq] at g2
      obtain ⟨-, ⟨⟨⟨k0, k1⟩, k2⟩, k3⟩, k4⟩ := g2
      refine ⟨g1 k0, ai_gp_in k1, ai_gp_in k2, k3, ?_⟩
      split at k4
      · rename_i q9 hq9
        obtain ⟨C9, T9, N9⟩ := q9
        have := of_decide_eq_true k4
        simp only at this
        subst this
        exact ⟨T9, N9, hq9⟩
      · cases k4
  | invokestatic ix =>
    refine ⟨fun n hq => ?_, fun q n M1 hq hq0 hM1 => ?_⟩
    · simp only [ak_lf, hq] at h
      obtain ⟨hn, hn6⟩ : n ≠ 0 ∧ n < 6 := of_decide_eq_true h
      obtain ⟨p, h1⟩ := ak_z_ok hK0.1.2 _ (ai_as_mem hq)
      simp only [ak_lm, if_neg hn] at h1
      exact ⟨hn6, ai_gp_in h1⟩
    · simp only [ak_lf, hq, if_neg hq0, decide_eq_true_eq] at h
      obtain ⟨-, g1, ps, g2⟩ := ak_cf_ok hK hC hq hq0 hM1 h
      simp only [ak_cM, Bool.and_eq_true, decide_eq_true_eq] at g2
      exact ⟨g1 g2.2.1, ai_gp_in g2.2.2⟩
  | _ => trivial
def ak_hd (lk : Nat → ai_L) (on : Nat → String) (M : ai_M) : Bool := match M.hh with
  | [] => true
  | [(_, _, hp, ix)] => decide (M.rt = some .int) && decide (ix ≠ 0) && (match ai_as M.co hp with
      | some (.astore k, _) => decide (k < M.ml) && decide (decode M.by' hp = .ok (.astore k, 2)) && decide (decode M.by' (hp + 2) = .ok (.iconst 1, 1)) && decide (decode M.by' (hp + 3) = .ok (.ireturn, 1))
      | some (.astore_n k, _) => decide (k.val < M.ml) && decide (decode M.by' hp = .ok (.astore_n k, 1)) && decide (decode M.by' (hp + 1) = .ok (.iconst 1, 1)) && decide (decode M.by' (hp + 2) = .ok (.ireturn, 1))
      | _ => false) && (match ai_as (lk M.cn).2.2.2.2 ix with
      | some E => decide (Cond.castable E E ∈ ai_NW)
      | none => true)
  | _ => false
def ak_M (ta : List (Nat × Nat × String)) (kd : List Nat) (lk : Nat → ai_L) (on : Nat → String) (M : ai_M) : Bool := plainName M.nm.cls && decide (on M.cn = M.nm.cls) && M.co.all (fun x => ak_dc M.by' x.1 x.2.1 && ak_lf ta kd lk on M x.1 x.2.1 x.2.2) && ak_hd lk on M
theorem ak_M_ok {ms : List ai_M} {ta : List (Nat × Nat × String)} {kd : List Nat} {lk : Nat → ai_L} {on : Nat → String} {M : ai_M} (hta : ∀ x ∈ ta, ∃ ps, ak_ta on x ps = true) (har : ∀ t : ArrayType, (t = .int ∨ t = .boolean ∨ t = .byte ∨ t = .long) → Cond.arrayClass (newarray.typeOf t) ∈ ai_TB) (hC : ∀ (q : Nat) (M1 : ai_M), ms[q]? = some M1 → ∃ ps, ak_cM (kd.getD q 0) ps M1 = true) {pf pk pm px : List Nat} (hK : ak_K ms (on M.cn) (lk M.cn) pf pk pm px = true) (h : ak_M ta kd lk on M = true) : ai_okM ms lk on M := by
  have hK0 := hK
  simp only [ak_K, Bool.and_eq_true] at hK0
  simp only [ak_M, Bool.and_eq_true, decide_eq_true_eq] at h
  obtain ⟨⟨⟨h1, h2⟩, h3⟩, h4⟩ := h
  refine ⟨h1, h2, fun pc i tg hi => ?_, ?_⟩
  · have := List.all_eq_true.mp h3 _ (ai_as_mem hi)
    simp only [Bool.and_eq_true] at this
    exact ⟨ak_dc_ok this.1, ak_lf_ok hta har hK hC this.2⟩
  · unfold ak_hd at h4
    split at h4
    · rename_i hh
      exact Or.inl hh
    · rename_i st en hp ix hh
      simp only [Bool.and_eq_true, decide_eq_true_eq] at h4
      obtain ⟨⟨⟨g1, g2⟩, g3⟩, g4⟩ := h4
      right
      have gE : ∀ E, ai_as (lk M.cn).2.2.2.2 ix = some E → Cond.classLink (on M.cn) ix E ∈ ai_TB ∧ Cond.castable E E ∈ ai_NW := by
        intro E hE
        rw [hE] at g4
        obtain ⟨p, h1⟩ := ak_z_ok hK0.2 _ (ai_as_mem hE)
        exact ⟨ai_gp_in h1, of_decide_eq_true g4⟩
      split at g3
      · rename_i k _ hk
        simp only [Bool.and_eq_true, decide_eq_true_eq] at g3
        exact ⟨g1, st, en, hp, ix, k, hh, g3.1.1.1, Or.inl ⟨g3.1.1.2, g3.1.2, g3.2⟩, g2, gE⟩
      · rename_i k _ hk
        simp only [Bool.and_eq_true, decide_eq_true_eq] at g3
        exact ⟨g1, st, en, hp, ix, k, hh, g3.1.1.1, Or.inr ⟨k, rfl, g3.1.1.2, g3.1.2, g3.2⟩, g2, gE⟩
      · cases g3
    · cases h4
