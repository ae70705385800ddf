/-! more rules: locals may be forgotten, switches, small facts -/
theorem nI_neg {n : Nat} {x : Int32} (hn : n < 2 ^ 31) (hx : x < 0) : ¬ nI n = x := fun e => nI_pos hn (e ▸ hx)
theorem nI_dec {n : Nat} (h : 1 ≤ n) : nI n + (-1) = nI (n - 1) := by
  obtain ⟨c, rfl⟩ : ∃ c, n = c + 1 := ⟨n - 1, by omega⟩
  rw [nI_succ, Nat.add_sub_cancel, Int32.add_assoc]
  show nI c + 0 = nI c
  rw [Int32.add_zero]
theorem rl_two {x : Int32} (h : rl x 2) : x = 0 ∨ x = 1 := by
  obtain ⟨n, hn, rfl⟩ := h
  rcases n with _ | _ | n
  · exact Or.inl rfl
  · exact Or.inr rfl
  · omega
theorem ai_vk1 {x : Int32} (h : rl x 2) : ai_vk 1 (.int x) = true := by
  rcases rl_two h with rfl | rfl <;> rfl
theorem ai_rtz {x : Int32} {pc : Nat} {lv : List (Nat × Value)} {h : ai_H} {ex : Bool} {nc ns : Nat} (hx : rl x 2) : ai_rt (some .boolean) .ireturn (pc, lv, [.int x], h, ex, nc, ns) = some (.inl (some (.int x), h, ex, nc, ns)) := by
  rcases rl_two hx with rfl | rfl <;> rfl
theorem to_mem {t : Nat} {l0 l : List Nat} (h : t ∈ l0) (hl : ∀ k ∈ l0, k ∈ l) : t ∈ l := hl t h
theorem to_tb {X : Nat × (Nat → Int32)} {d : Nat} {M : ai_M} {Q : ai_O → Prop} {pc : Nat} {lv : List (Nat × Value)} {st : List Value} {r : ai_H × Bool × Nat × Nat} {x : Int32} {df lo hi : Int} {offs : Array Int} {tg : List Nat} (h1 : ai_as M.co pc = some (.tableswitch df lo hi offs, tg)) (hl : tg.length = (hi - lo).toNat + 2) (hlh : lo ≤ hi) (k : ∀ t, t ∈ tg → ag_To X d M (t, lv, st, r) Q) : ag_To X d M (pc, lv, .int x :: st, r) Q := by
  by_cases hx : x.toInt < lo ∨ hi < x.toInt
  · have h0 : 0 < tg.length := by omega
    refine to_of (fr' := (tg[0], lv, st, r)) (fun o w => go_st h1 ?_ w) (k _ (List.getElem_mem h0))
    simp only [ai_st, ai_tb]
    rw [if_pos hx, List.getElem?_eq_getElem h0]
  · have h0 : (x.toInt - lo).toNat + 1 < tg.length := by omega
    refine to_of (fr' := (tg[(x.toInt - lo).toNat + 1], lv, st, r)) (fun o w => go_st h1 ?_ w) (k _ (List.getElem_mem h0))
    simp only [ai_st, ai_tb]
    rw [if_neg hx, List.getElem?_eq_getElem h0]
/-! locals may be forgotten -/
def lv_le : List (Nat × Value) → List (Nat × Value) → Prop
  | [], _ => True
  | (i, v) :: r, l => ai_as l i = some v ∧ lv_le r l
def lv_R (l l' : List (Nat × Value)) : Prop := ∀ i v, ai_as l i = some v → ai_as l' i = some v
theorem lv_le_R : ∀ {l l' : List (Nat × Value)}, lv_le l l' → lv_R l l'
  | [], _, _, i, v, h => by simp [ai_as] at h
  | (j, w) :: r, l', hl, i, v, h => by
    simp only [ai_as] at h
    split at h
    · rename_i e
      subst e
      cases h
      exact hl.1
    · exact lv_le_R hl.2 i v h
theorem ai_as_filter {l : List (Nat × Value)} {i k : Nat} (hk : ¬ i = k) : ai_as (l.filter (fun q => !(q.1 == i))) k = ai_as l k := by
  induction l with
  | nil => rfl
  | cons p r ih =>
    obtain ⟨j, w⟩ := p
    by_cases e : j = i
    · subst e
      simp only [List.filter_cons, beq_self_eq_true, Bool.not_true, Bool.false_eq_true, if_false, ih, ai_as, if_neg hk]
    · have e2 : (!(j == i)) = true := by simp [e]
      simp only [List.filter_cons, e2, if_true, ai_as, ih]
theorem ai_as_sl {i k : Nat} {v : Value} : ∀ {l : List (Nat × Value)}, ai_as (ai_sl l i v) k = if i = k then some v else ai_as l k
  | [] => by simp only [ai_sl, ai_as]
  | (j, w) :: r => by
    simp only [ai_sl]
    split
    · rename_i e
      subst e
      simp only [ai_as]
      split
      · rfl
      · rename_i hk
        exact ai_as_filter hk
    · rename_i e
      simp only [ai_as]
      rw [ai_as_sl]
      by_cases h1 : i = k
      · rw [if_pos h1, if_neg (fun q => e (q.trans h1.symm))]
        simp [h1]
      · simp [h1]
theorem lv_R_sl {l l' : List (Nat × Value)} {i : Nat} {v : Value} (h : lv_R l l') : lv_R (ai_sl l i v) (ai_sl l' i v) := by
  intro k w hk
  rw [ai_as_sl] at hk ⊢
  split
  · rename_i e
    rw [if_pos e] at hk
    exact hk
  · rename_i e
    rw [if_neg e] at hk
    exact h k w hk
theorem ai_c1_sl {l : List (Nat × Value)} {i : Nat} {v : Value} (h : ai_c1 l = true) (hv : v.category = 1) : ai_c1 (ai_sl l i v) = true := by
  simp only [ai_c1, List.all_eq_true, beq_iff_eq] at h ⊢
  intro q hq
  rcases ai_sl_mem hq with rfl | ⟨h1, -⟩
  · exact hv
  · exact h q h1
/-- a step that leaves the locals alone -/
def nolv (f : ai_F → Option ai_F) : Prop := ∀ pc l l' st r fr', f (pc, l, st, r) = some fr' → fr'.2.1 = l ∧ f (pc, l', st, r) = some (fr'.1, l', fr'.2.2)
section NOLV
variable {v : Value} {n : Nat} {f : Int32 → Int32 → Int32} {c : ClassFile.Cond} {tg : List Nat} {p q : Int} {K : ai_L} {X : Nat × (Nat → Int32)} {T : ArrayType}
set_option maxHeartbeats 2000000
theorem nl_ai_push : nolv (ai_push v n) := by
  intro pc l l' st r fr' h
  try obtain ⟨h0, ex0, nc0, ns0⟩ := r
  simp only [ai_push] at h ⊢
  (repeat' split at h) <;> first | (cases h; done) | (cases h; simp_all; done) | (simp_all; done)
theorem nl_ai_bin : nolv (ai_bin f) := by
  intro pc l l' st r fr' h
  try obtain ⟨h0, ex0, nc0, ns0⟩ := r
  simp only [ai_bin] at h ⊢
  (repeat' split at h) <;> first | (cases h; done) | (cases h; simp_all; done) | (simp_all; done)
theorem nl_ai_dv : nolv (ai_dv f) := by
  intro pc l l' st r fr' h
  try obtain ⟨h0, ex0, nc0, ns0⟩ := r
  simp only [ai_dv] at h ⊢
  (repeat' split at h) <;> first | (cases h; done) | (cases h; simp_all; done) | (simp_all; done)
theorem nl_ai_i2l : nolv (ai_i2l) := by
  intro pc l l' st r fr' h
  try obtain ⟨h0, ex0, nc0, ns0⟩ := r
  simp only [ai_i2l] at h ⊢
  (repeat' split at h) <;> first | (cases h; done) | (cases h; simp_all; done) | (simp_all; done)
theorem nl_ai_i2b : nolv (ai_i2b) := by
  intro pc l l' st r fr' h
  try obtain ⟨h0, ex0, nc0, ns0⟩ := r
  simp only [ai_i2b] at h ⊢
  (repeat' split at h) <;> first | (cases h; done) | (cases h; simp_all; done) | (simp_all; done)
theorem nl_ai_lcmp : nolv (ai_lcmp) := by
  intro pc l l' st r fr' h
  try obtain ⟨h0, ex0, nc0, ns0⟩ := r
  simp only [ai_lcmp] at h ⊢
  (repeat' split at h) <;> first | (cases h; done) | (cases h; simp_all; done) | (simp_all; done)
theorem nl_ai_dup : nolv (ai_dup) := by
  intro pc l l' st r fr' h
  try obtain ⟨h0, ex0, nc0, ns0⟩ := r
  simp only [ai_dup] at h ⊢
  (repeat' split at h) <;> first | (cases h; done) | (cases h; simp_all; done) | (simp_all; done)
theorem nl_ai_dup2 : nolv (ai_dup2) := by
  intro pc l l' st r fr' h
  try obtain ⟨h0, ex0, nc0, ns0⟩ := r
  simp only [ai_dup2] at h ⊢
  (repeat' split at h) <;> first | (cases h; done) | (cases h; simp_all; done) | (simp_all; done)
theorem nl_ai_pop : nolv (ai_pop) := by
  intro pc l l' st r fr' h
  try obtain ⟨h0, ex0, nc0, ns0⟩ := r
  simp only [ai_pop] at h ⊢
  (repeat' split at h) <;> first | (cases h; done) | (cases h; simp_all; done) | (simp_all; done)
theorem nl_ai_if : nolv (ai_if c tg) := by
  intro pc l l' st r fr' h
  try obtain ⟨h0, ex0, nc0, ns0⟩ := r
  simp only [ai_if] at h ⊢
  (repeat' split at h) <;> first | (cases h; done) | (cases h; simp_all; done) | (simp_all; done)
theorem nl_ai_ic : nolv (ai_ic c tg) := by
  intro pc l l' st r fr' h
  try obtain ⟨h0, ex0, nc0, ns0⟩ := r
  simp only [ai_ic] at h ⊢
  (repeat' split at h) <;> first | (cases h; done) | (cases h; simp_all; done) | (simp_all; done)
theorem nl_ai_go : nolv (ai_go tg) := by
  intro pc l l' st r fr' h
  try obtain ⟨h0, ex0, nc0, ns0⟩ := r
  simp only [ai_go] at h ⊢
  (repeat' split at h) <;> first | (cases h; done) | (cases h; simp_all; done) | (simp_all; done)
theorem nl_ai_get : nolv (ai_get K n) := by
  intro pc l l' st r fr' h
  try obtain ⟨h0, ex0, nc0, ns0⟩ := r
  simp only [ai_get] at h ⊢
  (repeat' split at h) <;> first | (cases h; done) | (cases h; simp_all; done) | (simp_all; done)
theorem nl_ai_put : nolv (ai_put K n) := by
  intro pc l l' st r fr' h
  try obtain ⟨h0, ex0, nc0, ns0⟩ := r
  simp only [ai_put] at h ⊢
  (repeat' split at h) <;> first | (cases h; done) | (cases h; simp_all; done) | (simp_all; done)
theorem nl_ai_ial : nolv (ai_ial X) := by
  intro pc l l' st r fr' h
  try obtain ⟨h0, ex0, nc0, ns0⟩ := r
  simp only [ai_ial] at h ⊢
  (repeat' split at h) <;> first | (cases h; done) | (cases h; simp_all; done) | (simp_all; done)
theorem nl_ai_bal : nolv (ai_bal) := by
  intro pc l l' st r fr' h
  try obtain ⟨h0, ex0, nc0, ns0⟩ := r
  simp only [ai_bal] at h ⊢
  (repeat' split at h) <;> first | (cases h; done) | (cases h; simp_all; done) | (simp_all; done)
theorem nl_ai_lal : nolv (ai_lal) := by
  intro pc l l' st r fr' h
  try obtain ⟨h0, ex0, nc0, ns0⟩ := r
  simp only [ai_lal] at h ⊢
  (repeat' split at h) <;> first | (cases h; done) | (cases h; simp_all; done) | (simp_all; done)
theorem nl_ai_ias : nolv (ai_ias) := by
  intro pc l l' st r fr' h
  try obtain ⟨h0, ex0, nc0, ns0⟩ := r
  simp only [ai_ias] at h ⊢
  (repeat' split at h) <;> first | (cases h; done) | (cases h; simp_all; done) | (simp_all; done)
theorem nl_ai_bas : nolv (ai_bas) := by
  intro pc l l' st r fr' h
  try obtain ⟨h0, ex0, nc0, ns0⟩ := r
  simp only [ai_bas] at h ⊢
  (repeat' split at h) <;> first | (cases h; done) | (cases h; simp_all; done) | (simp_all; done)
theorem nl_ai_las : nolv (ai_las) := by
  intro pc l l' st r fr' h
  try obtain ⟨h0, ex0, nc0, ns0⟩ := r
  simp only [ai_las] at h ⊢
  (repeat' split at h) <;> first | (cases h; done) | (cases h; simp_all; done) | (simp_all; done)
theorem nl_ai_len : nolv (ai_len X) := by
  intro pc l l' st r fr' h
  try obtain ⟨h0, ex0, nc0, ns0⟩ := r
  simp only [ai_len] at h ⊢
  (repeat' split at h) <;> first | (cases h; done) | (cases h; simp_all; done) | (simp_all; done)
theorem nl_ai_new : nolv (ai_new K n) := by
  intro pc l l' st r fr' h
  try obtain ⟨h0, ex0, nc0, ns0⟩ := r
  simp only [ai_new] at h ⊢
  (repeat' split at h) <;> first | (cases h; done) | (cases h; simp_all; done) | (simp_all; done)
theorem nl_ai_nwa : nolv (ai_nwa T) := by
  intro pc l l' st r fr' h
  try obtain ⟨h0, ex0, nc0, ns0⟩ := r
  simp only [ai_nwa] at h ⊢
  (repeat' split at h) <;> first | (cases h; done) | (cases h; simp_all; done) | (simp_all; done)
theorem nl_ai_nws : nolv (ai_nws) := by
  intro pc l l' st r fr' h
  try obtain ⟨h0, ex0, nc0, ns0⟩ := r
  simp only [ai_nws] at h ⊢
  (repeat' split at h) <;> first | (cases h; done) | (cases h; simp_all; done) | (simp_all; done)
theorem nl_ai_ldc : nolv (ai_ldc K n) := by
  intro pc l l' st r fr' h
  try obtain ⟨h0, ex0, nc0, ns0⟩ := r
  simp only [ai_ldc] at h ⊢
  (repeat' split at h) <;> first | (cases h; done) | (cases h; simp_all; done) | (simp_all; done)
theorem nl_ai_aas : nolv (ai_aas n) := by
  intro pc l l' st r fr' h
  try obtain ⟨h0, ex0, nc0, ns0⟩ := r
  simp only [ai_aas] at h ⊢
  (repeat' split at h) <;> first | (cases h; done) | (cases h; simp_all; done) | (simp_all; done)
theorem nl_ai_aal : nolv (ai_aal) := by
  intro pc l l' st r fr' h
  try obtain ⟨h0, ex0, nc0, ns0⟩ := r
  simp only [ai_aal] at h ⊢
  (repeat' split at h) <;> first | (cases h; done) | (cases h; simp_all; done) | (simp_all; done)
theorem nl_ai_obj : nolv (ai_obj K n) := by
  intro pc l l' st r fr' h
  try obtain ⟨h0, ex0, nc0, ns0⟩ := r
  simp only [ai_obj] at h ⊢
  (repeat' split at h) <;> first | (cases h; done) | (cases h; simp_all; done) | (simp_all; done)
theorem nl_ai_mm : nolv (ai_mm f) := by
  intro pc l l' st r fr' h
  try obtain ⟨h0, ex0, nc0, ns0⟩ := r
  simp only [ai_mm] at h ⊢
  (repeat' split at h) <;> first | (cases h; done) | (cases h; simp_all; done) | (simp_all; done)
theorem nl_ai_cpy : nolv (ai_cpy K n) := by
  intro pc l l' st r fr' h
  try obtain ⟨h0, ex0, nc0, ns0⟩ := r
  simp only [ai_cpy] at h ⊢
  (repeat' split at h) <;> first | (cases h; done) | (cases h; simp_all; done) | (simp_all; done)
theorem nl_ai_tb : nolv (ai_tb p q tg) := by
  intro pc l l' st r fr' h
  cases st with
  | nil => cases h
  | cons v st =>
    cases v with
    | int x =>
      simp only [ai_tb] at h ⊢
      by_cases hc : x.toInt < p ∨ q < x.toInt
      · rw [if_pos hc] at h ⊢
        cases ht : tg[0]? with
        | none =>
          rw [ht] at h
          cases h
        | some t =>
          rw [ht] at h
          cases h
          exact ⟨rfl, rfl⟩
      · rw [if_neg hc] at h ⊢
        cases ht : tg[(x.toInt - p).toNat + 1]? with
        | none =>
          rw [ht] at h
          cases h
        | some t =>
          rw [ht] at h
          cases h
          exact ⟨rfl, rfl⟩
    | _ => cases h
theorem nl_ai_ab : nolv ai_ab := by
  intro pc l l' st r fr' h
  cases st with
  | nil => cases h
  | cons v st =>
    cases v with
    | int x =>
      simp only [ai_ab] at h ⊢
      by_cases hc : ai_sum st ≤ 8
      · rw [if_pos hc] at h ⊢
        cases h
        exact ⟨rfl, rfl⟩
      · rw [if_neg hc] at h
        cases h
    | _ => cases h
theorem nl_ai_sx {m : Nat} : nolv (ai_sx K n m) := by
  intro pc l l' st r fr' h
  cases st with
  | nil => cases h
  | cons v st =>
    cases v with
    | ref a =>
      simp only [ai_sx] at h ⊢
      split at h
      · rename_i hc
        cases h
        exact ⟨rfl, if_pos hc⟩
      · cases h
    | int i =>
      cases st with
      | nil => cases h
      | cons w st =>
        cases w with
        | ref a =>
          simp only [ai_sx] at h ⊢
          split at h
          · rename_i hc
            cases h
            exact ⟨rfl, if_pos hc⟩
          · cases h
        | _ => cases h
    | _ => cases h
theorem nl_ai_nat : nolv (ai_nat K n) := by
  have e : ai_nat K n = ai_mm (fun x y => if y < x then y else x) ∨ ai_nat K n = ai_mm (fun x y => if x < y then y else x) ∨ ai_nat K n = ai_ab ∨ ai_nat K n = ai_cpy K n := by
    by_cases h2 : ai_as K.2.2.2.1 n = some (0, 2)
    · refine Or.inl (funext fun fr => ?_)
      simp only [ai_nat, h2]
    · by_cases h3 : ai_as K.2.2.2.1 n = some (0, 3)
      · refine Or.inr (Or.inl (funext fun fr => ?_))
        simp only [ai_nat, h3]
      · by_cases h1 : ai_as K.2.2.2.1 n = some (0, 1)
        · refine Or.inr (Or.inr (Or.inl (funext fun fr => ?_)))
          simp only [ai_nat, h1]
        · refine Or.inr (Or.inr (Or.inr (funext fun fr => ?_)))
          unfold ai_nat
          split
          · rename_i q9
            exact absurd q9 h2
          · rename_i q9
            exact absurd q9 h3
          · rename_i q9
            exact absurd q9 h1
          · rfl
  rcases e with e | e | e | e <;> rw [e]
  · exact nl_ai_mm
  · exact nl_ai_mm
  · exact nl_ai_ab
  · exact nl_ai_cpy
end NOLV
def lvok (f : ai_F → Option ai_F) : Prop := ∀ pc l l' st r fr', f (pc, l, st, r) = some fr' → lv_R l l' → ai_c1 l' = true → ∃ l1', f (pc, l', st, r) = some (fr'.1, l1', fr'.2.2) ∧ lv_R fr'.2.1 l1' ∧ ai_c1 l1' = true
theorem lvok_of {f : ai_F → Option ai_F} (h : nolv f) : lvok f := fun pc l l' st r fr' h1 hR hc => by
  obtain ⟨e, h2⟩ := h pc l l' st r fr' h1
  exact ⟨l', h2, by rw [e]; exact hR, hc⟩
theorem lvok_none : lvok (fun _ => none) := fun pc l l' st r fr' h _ _ => by cases h
theorem lvok_ld {n i : Nat} : lvok (ai_ld n i) := by
  intro pc l l' st r fr' h hR hc
  simp only [ai_ld] at h ⊢
  split at h
  · rename_i x hx
    cases h
    rw [hR _ _ hx]
    exact ⟨l', rfl, hR, hc⟩
  · cases h
theorem lvok_lda {n i : Nat} : lvok (ai_lda n i) := by
  intro pc l l' st r fr' h hR hc
  simp only [ai_lda] at h ⊢
  split at h
  · rename_i x hx
    cases h
    rw [hR _ _ hx]
    exact ⟨l', rfl, hR, hc⟩
  · cases h
theorem lvok_inc {nL i : Nat} {d : Int} : lvok (ai_inc nL i d) := by
  intro pc l l' st r fr' h hR hc
  simp only [ai_inc] at h ⊢
  split at h
  · rename_i x hx
    split at h
    · rename_i hq
      cases h
      rw [hR _ _ hx]
      exact ⟨_, if_pos ⟨hq.1, hc⟩, lv_R_sl hR, ai_c1_sl hc rfl⟩
    · cases h
  · cases h
theorem lvok_sto {nL n i : Nat} : lvok (ai_sto nL n i) := by
  intro pc l l' st r fr' h hR hc
  cases st with
  | nil => cases h
  | cons v st =>
    cases v with
    | int x =>
      simp only [ai_sto] at h ⊢
      split at h
      · rename_i hq
        cases h
        exact ⟨_, if_pos ⟨hq.1, hc⟩, lv_R_sl hR, ai_c1_sl hc rfl⟩
      · cases h
    | _ => cases h
theorem lvok_sta {nL n i : Nat} : lvok (ai_sta nL n i) := by
  intro pc l l' st r fr' h hR hc
  cases st with
  | nil => cases h
  | cons v st =>
    cases v with
    | ref x =>
      simp only [ai_sta] at h ⊢
      split at h
      · rename_i hq
        cases h
        exact ⟨_, if_pos ⟨hq.1, hc⟩, lv_R_sl hR, ai_c1_sl hc rfl⟩
      · cases h
    | _ => cases h
set_option maxHeartbeats 4000000 in
theorem lvok_st {K : ai_L} {X : Nat × (Nat → Int32)} {nL NS : Nat} {i : Instr} {tg : List Nat} : lvok (ai_st K X nL NS i tg) := by
  unfold ai_st
  split
  all_goals first | exact lvok_ld | exact lvok_lda | exact lvok_sto | exact lvok_sta | exact lvok_inc | exact lvok_none | exact lvok_of (by first | exact nl_ai_push | exact nl_ai_bin | exact nl_ai_dv | exact nl_ai_i2l | exact nl_ai_i2b | exact nl_ai_lcmp | exact nl_ai_dup | exact nl_ai_dup2 | exact nl_ai_pop | exact nl_ai_if | exact nl_ai_ic | exact nl_ai_go | exact nl_ai_tb | exact nl_ai_get | exact nl_ai_put | exact nl_ai_ial | exact nl_ai_bal | exact nl_ai_lal | exact nl_ai_ias | exact nl_ai_bas | exact nl_ai_las | exact nl_ai_len | exact nl_ai_new | exact nl_ai_nwa | exact nl_ai_nws | exact nl_ai_ldc | exact nl_ai_aas | exact nl_ai_aal | exact nl_ai_obj | exact nl_ai_nat | exact nl_ai_sx)
theorem rn_lv {ms : List ai_M} {lk : Nat → ai_L} {X : Nat × (Nat → Int32)} {NS : Nat} {cl : Nat → List Value → ai_H → Bool → ai_O → Prop} {M : ai_M} : ∀ (n pc : Nat) (l l' : List (Nat × Value)) (st : List Value) (r : ai_H × Bool × Nat × Nat) (o : ai_O), ai_Rn ms lk X NS cl M n (pc, l, st, r) o → lv_R l l' → ai_c1 l' = true → ai_Rn ms lk X NS cl M n (pc, l', st, r) o
  | 0, pc, l, l', st, r, o, h, _, _ => absurd h (fun h => h)
  | n + 1, pc, l, l', st, r, o, h, hR, hc => by
    obtain ⟨h0, ex, nc, ns⟩ := r
    obtain ⟨i, tg, hi, h⟩ := h
    refine ⟨i, tg, hi, ?_⟩
    rcases h with ⟨fr', h1, h2⟩ | h1 | h1 | ⟨q, As, rest, o1, M1, h1, hq0, h3, h4, h5, h6, h7⟩
    · obtain ⟨l1', g1, g2, g3⟩ := lvok_st pc l l' st (h0, ex, nc, ns) fr' h1 hR hc
      refine Or.inl ⟨_, g1, ?_⟩
      obtain ⟨pc2, l2, st2, r2⟩ := fr'
      exact rn_lv n pc2 l2 l1' st2 r2 o h2 g2 g3
    · exact Or.inr (Or.inl h1)
    · exact Or.inr (Or.inr (Or.inl h1))
    · refine Or.inr (Or.inr (Or.inr ⟨q, As, rest, o1, M1, h1, hq0, h3, h4, h5, h6, ?_⟩))
      cases o1 with
      | inl x =>
        obtain ⟨v, h', ex', nc', ns'⟩ := x
        exact rn_lv n _ l l' _ _ o h7 hR hc
      | inr x =>
        obtain ⟨E, h', nc', ns'⟩ := x
        exact h7
theorem to_lv {X : Nat × (Nat → Int32)} {d : Nat} {M : ai_M} {Q : ai_O → Prop} {pc : Nat} {lv lv' : List (Nat × Value)} {st : List Value} {r : ai_H × Bool × Nat × Nat} (hc : ai_c1 lv' = true) (hl : lv_le lv lv') (k : ag_To X d M (pc, lv, st, r) Q) : ag_To X d M (pc, lv', st, r) Q := by
  obtain ⟨o, hQ, n, g⟩ := k
  exact ⟨o, hQ, n, rn_lv n pc lv lv' st r o g (lv_le_R hl) hc⟩
theorem neg_lt {x : Int32} {n : Nat} (hn : n < 2 ^ 31) (hx : x < 0) : x < nI n := Int32.lt_of_lt_of_le hx (nI_pos' hn)
theorem fill_at {P : Int32 → Prop} {f : Nat → Int32} {n : Nat} {v : Int32} (h : ∀ j, P (f j)) (hv : P v) : ∀ j, P (if j < n then v else f j) := by
  intro j
  split
  · exact hv
  · exact h j
theorem to_cpy {X : Nat × (Nat → Int32)} {d : Nat} {M : ai_M} {Q : ai_O → Prop} {pc ix a a0 n0 n1 n dp sp : Nat} {f g : Nat → Int32} {lv : List (Nat × Value)} {st : List Value} {h h' : ai_H} {z : Bool × Nat × Nat} {tg : List Nat} (h1 : ai_as M.co pc = some (.invokestatic ix, tg)) (hl : ai_as (an_lk M.cn).2.2.2.1 ix = some (0, 5)) (hh0 : h[a0]? = some (.inl (0, n0, .inl f))) (hh1 : h[a]? = some (.inl (0, n1, .inl g))) (b0 : sp + n ≤ n0) (b1 : dp + n ≤ n1) (b2 : n0 < 2 ^ 30 ∧ n1 < 2 ^ 30) (hs : ai_sum st ≤ 8) (e : h.set a (.inl (0, n1, .inl (va_cpy f g sp dp n))) = h') (k : ag_To X d M (pc + 3, lv, st, h', z) Q) : ag_To X d M (pc, lv, .int (nI n) :: .int (nI dp) :: .ref a :: .int (nI sp) :: .ref a0 :: st, h, z) Q := by
  refine to_of (fun o w => go_st h1 ?_ w) k
  have e1 : (nI n).toNatClampNeg = n := nI_clamp (by omega)
  have e2 : (nI dp).toNatClampNeg = dp := nI_clamp (by omega)
  have e3 : (nI sp).toNatClampNeg = sp := nI_clamp (by omega)
  simp only [ai_st, ai_nat, hl, ai_cpy, hh0, hh1, e1, e2, e3]
  rw [if_pos ⟨trivial, nI_pos (by omega), nI_pos (by omega), nI_pos (by omega), b0, b1, hs⟩, e]
theorem to_minN {X : Nat × (Nat → Int32)} {d : Nat} {M : ai_M} {Q : ai_O → Prop} {pc ix x y : Nat} {lv : List (Nat × Value)} {st : List Value} {r : ai_H × Bool × Nat × Nat} {tg : List Nat} (h1 : ai_as M.co pc = some (.invokestatic ix, tg)) (hl : ai_as (an_lk M.cn).2.2.2.1 ix = some (0, 2)) (h : x ≤ y) (hy : y < 2 ^ 31) (hs : ai_sum st ≤ 8) (k : ag_To X d M (pc + 3, lv, .int (nI x) :: st, r) Q) : ag_To X d M (pc, lv, .int (nI y) :: .int (nI x) :: st, r) Q := by
  refine to_of (fun o w => go_st h1 ?_ w) k
  simp only [ai_st, ai_nat, hl, ai_mm, if_pos hs]
  rw [if_neg (nI_nlt h hy)]
theorem to_divN {X : Nat × (Nat → Int32)} {d : Nat} {M : ai_M} {Q : ai_O → Prop} {pc x y : Nat} {lv : List (Nat × Value)} {st : List Value} {r : ai_H × Bool × Nat × Nat} {tg : List Nat} (h1 : ai_as M.co pc = some (.idiv, tg)) (hx : x < 2 ^ 31) (h0 : 0 < y) (hy : y < 2 ^ 31) (k : ag_To X d M (pc + 1, lv, .int (nI (x / y)) :: st, r) Q) : ag_To X d M (pc, lv, .int (nI y) :: .int (nI x) :: st, r) Q := by
  refine to_of (fun o w => go_st h1 ?_ w) k
  simp only [ai_st, ai_dv]
  rw [if_neg (nI_ne0 h0 hy), pk_div hx h0 hy]
theorem to_remN {X : Nat × (Nat → Int32)} {d : Nat} {M : ai_M} {Q : ai_O → Prop} {pc x y : Nat} {lv : List (Nat × Value)} {st : List Value} {r : ai_H × Bool × Nat × Nat} {tg : List Nat} (h1 : ai_as M.co pc = some (.irem, tg)) (hx : x < 2 ^ 31) (h0 : 0 < y) (hy : y < 2 ^ 31) (k : ag_To X d M (pc + 1, lv, .int (nI (x % y)) :: st, r) Q) : ag_To X d M (pc, lv, .int (nI y) :: .int (nI x) :: st, r) Q := by
  refine to_of (fun o w => go_st h1 ?_ w) k
  simp only [ai_st, ai_dv]
  have e : x - x / y * y = x % y := by
    have h := Nat.mod_add_div x y
    rw [Nat.mul_comm] at h
    omega
  rw [if_neg (nI_ne0 h0 hy), pk_div hx h0 hy, pk_mul, nI_subN (Nat.div_mul_le_self x y), e]
theorem sub_neg {x y : Nat} (h : x < y) (hy : y < 2 ^ 31) : nI x - nI y < 0 := by
  obtain ⟨c, rfl⟩ : ∃ c, y = x + c + 1 := ⟨y - x - 1, by omega⟩
  rw [Int32.lt_iff_toInt_lt]
  have e : (nI x - nI (x + c + 1)).toInt = -((c : Int) + 1) := by
    rw [Int32.toInt_sub, nI_toInt (by omega), nI_toInt (by omega)]
    rw [Int.bmod_eq_of_le (by omega) (by omega)]
    omega
  rw [e]
  have e0 : (0 : Int32).toInt = 0 := by decide
  rw [e0]
  omega
theorem to_slen {X : Nat × (Nat → Int32)} {d : Nat} {M : ai_M} {Q : ai_O → Prop} {pc ix i : Nat} {lv : List (Nat × Value)} {st : List Value} {r : ai_H × Bool × Nat × Nat} {tg : List Nat} (h1 : ai_as M.co pc = some (.invokevirtual ix, tg)) (hl : ai_as (an_lk M.cn).2.2.2.1 ix = some (0, 6)) (hi : i < 35) (hs : ai_sum st ≤ 8) (k : ag_To X d M (pc + 3, lv, .int (nI (ai_tx i).length) :: st, r) Q) : ag_To X d M (pc, lv, .ref (1000001 + i) :: st, r) Q := by
  refine to_of (fun o w => go_st h1 ?_ w) k
  simp only [ai_st, ai_sx, ai_ta_eq i hi]
  rw [if_pos ⟨hl, Nat.le_add_right 1000001 i, Nat.add_lt_add_left hi 1000001, hs⟩]
theorem to_schr {X : Nat × (Nat → Int32)} {d : Nat} {M : ai_M} {Q : ai_O → Prop} {pc ix i j : Nat} {lv : List (Nat × Value)} {st : List Value} {r : ai_H × Bool × Nat × Nat} {tg : List Nat} (h1 : ai_as M.co pc = some (.invokevirtual ix, tg)) (hl : ai_as (an_lk M.cn).2.2.2.1 ix = some (0, 7)) (hi : i < 35) (hj : j < (ai_tx i).length) (hs : ai_sum st ≤ 8) (k : ag_To X d M (pc + 3, lv, .int ((ai_tx i).getD j 0) :: st, r) Q) : ag_To X d M (pc, lv, .int (nI j) :: .ref (1000001 + i) :: st, r) Q := by
  refine to_of (fun o w => go_st h1 ?_ w) k
  have hlen := vs_txl i hi
  simp only [ai_st, ai_sx, ai_ta_eq i hi]
  rw [if_pos ⟨hl, Nat.le_add_right 1000001 i, Nat.add_lt_add_left hi 1000001, hs, ai_in_nI hj (by omega)⟩, nI_clamp (by omega)]
/-- Arrays.fill -/
theorem pv_fill2 {X : Nat × (Nat → Int32)} {h : ai_H} {a n : Nat} {f : Nat → Int32} (hh : h[a]? = some (.inl (0, n, .inl f))) (ha : a ≠ 1000000) (hn : n < 2 ^ 30) (v : Int32) (ex : Bool) (d : Nat) : ai_Ev an_ms an_lk X 35 (d + 1) 168 [.ref a, .int v] h ex (.inl (none, h.set a (.inl (0, n, .inl (fun j => if j < n then v else f j))), ex, 0, 0)) := by
  have loop : ∀ m i : Nat, i + m = n → ∀ o, ag_Go X d an_J7_fill_53178 (20, [(0, .ref a), (1, .int v), (2, .int (nI n)), (3, .int (nI n))], [], h.set a (.inl (0, n, .inl (fun j => if j < n then v else f j))), ex, 0, 0) o → ag_Go X d an_J7_fill_53178 (5, [(0, .ref a), (1, .int v), (2, .int (nI i)), (3, .int (nI n))], [], h.set a (.inl (0, n, .inl (fun j => if j < i then v else f j))), ex, 0, 0) o := by
    intro m
    induction m with
    | zero =>
      intro i hi o k
      have : i = n := by omega
      subst this
      refine go_n 2 (fr' := (7, [(0, .ref a), (1, .int v), (2, .int (nI i)), (3, .int (nI i))], [.int (nI i), .int (nI i)], _, ex, 0, 0)) rfl ?_
      exact go_ic_ge (t := 20) rfl (fun _ => k) (fun q => absurd (Int32.le_refl _) q)
    | succ m ih =>
      intro i hi o k
      refine go_n 2 (fr' := (7, [(0, .ref a), (1, .int v), (2, .int (nI i)), (3, .int (nI n))], [.int (nI n), .int (nI i)], _, ex, 0, 0)) rfl ?_
      refine go_ic_ge (t := 20) rfl (fun q => absurd q (nI_ge (by omega) (by omega))) (fun q => ?_)
      refine go_n 3 (fr' := (13, [(0, .ref a), (1, .int v), (2, .int (nI i)), (3, .int (nI n))], [.int v, .int (nI i), .ref a], _, ex, 0, 0)) rfl ?_
      refine go_ias rfl (ai_set_at hh) (ai_in_nI (by omega) (by omega)) ?_
      refine go_n 2 (fr' := (5, [(0, .ref a), (1, .int v), (2, .int (nI i + 1)), (3, .int (nI n))], [], _, ex, 0, 0)) rfl ?_
      have e1 : upd (fun j => if j < i then v else f j) (nI i).toNatClampNeg v = fun j => if j < i + 1 then v else f j := by
        rw [nI_clamp (by omega)]
        funext j
        unfold upd
        by_cases h1 : j = i
        · simp [h1]
        · simp only [h1, if_false]
          by_cases h2 : j < i
          · rw [if_pos h2, if_pos (by omega)]
          · rw [if_neg h2, if_neg (by omega)]
      rw [List.set_set, e1, nI_1]
      exact ih (i + 1) (by omega) o k
  refine ev_of (M := an_J7_fill_53178) rfl (Nat.le_of_ble_eq_true rfl) ?_
  refine go_n 3 (fr' := (3, [(0, .ref a), (1, .int v), (2, .int (nI 0))], [.ref a], h, ex, 0, 0)) rfl ?_
  refine go_len rfl ha hh (by decide) ?_
  refine go_n 1 (fr' := (5, [(0, .ref a), (1, .int v), (2, .int (nI 0)), (3, .int (nI n))], [], h, ex, 0, 0)) rfl ?_
  have e0 : h = h.set a (.inl (0, n, .inl (fun j => if j < 0 then v else f j))) := by
    have e2 : (fun j => if j < 0 then v else f j) = f := by
      funext j
      simp
    rw [e2]
    obtain ⟨hl, he⟩ := List.getElem?_eq_some_iff.mp hh
    rw [← he]
    exact (List.set_getElem_self hl).symm
  refine go_eq (congrArg (fun w => (5, [(0, Value.ref a), (1, Value.int v), (2, Value.int (nI 0)), (3, Value.int (nI n))], ([] : List Value), w, ex, 0, 0)) e0) ?_
  refine loop n 0 (by omega) _ ?_
  exact go_rt (i := .return_) (tg := []) rfl rfl
theorem to_fill {X : Nat × (Nat → Int32)} {d : Nat} {M : ai_M} {Q : ai_O → Prop} {pc a n q : Nat} {f : Nat → Int32} {v : Int32} {lv : List (Nat × Value)} {st rest : List Value} {h h2 : ai_H} {ex : Bool} {nc ns : Nat} {i : Instr} {tg : List Nat} (h1 : ai_as M.co pc = some (i, tg)) (hca : ai_ca (an_lk M.cn) i st h = some (q, [.ref a, .int v], rest)) (hq0 : q ≠ 0) (hM1 : an_ms[q]? = some an_J7_fill_53178) (hrc : ai_rc i [.ref a, .int v] h an_J7_fill_53178.cn) (ha : a ≠ 1000000) (hh : h[a]? = some (.inl (0, n, .inl f))) (hn : n < 2 ^ 30) (hq : q = 168) (d0 : Nat) (hd : d = d0 + 1) (e : h.set a (.inl (0, n, .inl (fun j => if j < n then v else f j))) = h2) (k : ag_To X d M (pc + 3, lv, rest, h2, ex, nc, ns) Q) : ag_To X d M (pc, lv, st, h, ex, nc, ns) Q := by
  obtain ⟨o, hQ, g⟩ := k
  subst hd
  subst hq
  have hcl : ai_Ev an_ms an_lk X 35 (d0 + 1) 168 [.ref a, .int v] h ex (.inl (none, h2, ex, 0, 0)) := by
    rw [← e]
    exact pv_fill2 hh ha hn v ex d0
  exact ⟨o, hQ, go_callS (fr := (pc, lv, st, h, ex, nc, ns)) (v := none) (h' := h2) (nc' := 0) (ns' := 0) h1 hca hq0 hM1 hrc ai_ni_l hcl g⟩
