/-! WHAT A METHOD'S TABLE MUST SAY, AND THE STEP OF EVERY INSTRUCTION THAT CALLS NOTHING -/
def ai_NW : List Cond := [.declares (Bundle.initS "java/lang/RuntimeException"), .declares (Bundle.initS "java/lang/Exception"), .declares (Bundle.initS "java/lang/Throwable"), .castable "java/util/NoSuchElementException" "java/util/NoSuchElementException", .castable "java/lang/IllegalArgumentException" "java/lang/IllegalArgumentException", .methodLinkNest "FireWards" 20 ⟨"FireWards$Crews", "<init>", "()V"⟩ "FireWards", .methodLinkNest "FireWards" 27 ⟨"FireWards$Tape", "<init>", "()V"⟩ "FireWards", .methodLinkNest "FireWards" 47 ⟨"FireWards$LawBook", "<init>", "()V"⟩ "FireWards", .methodLinkNest "FireWards" 54 ⟨"FireWards$Judge", "<init>", "()V"⟩ "FireWards"]
/-- what stays as it is while the law runs: classes, the script, string constants, Throwable's statics -/
def ai_Sx (lk : Nat → ai_L) (on : Nat → String) (X : Nat × (Nat → Int32)) (NS : Nat) (D : va_G) (ad : Nat → Nat) (dA : Nat → ClassId) (z0 : Nat) (Hb : Heap) (U : State) : Prop :=
  va_K D vwCl (ai_tys dA) U ∧ va_X (ad 1000000) X.1 X.2 U Hb ∧ (∀ cn ix i, ai_as (lk cn).2.2.1 ix = some i → ∃ tx, vk_R (on cn) ix tx (ad (1000001 + i)) U) ∧ (∀ v, 1000001 ≤ v → v < 1000001 + NS → ∃ t, vs_At z0 (ad v) t (ai_ta v).length (fun j => (ai_ta v).getD j 0) U Hb) ∧ va_AO "java/lang/String" U ∧
  vx_Zq Bundle.tN "UNASSIGNED_STACK" Bundle.steD (fun q : Nat => z0 ≤ q) U Hb ∧ vx_Zq Bundle.tN "SUPPRESSED_SENTINEL" Bundle.listD (fun q : Nat => z0 ≤ q) U Hb ∧ ∀ w ∈ ai_NW, va_Nw w U
theorem ai_Sx.warm {lk : Nat → ai_L} {on : Nat → String} {X : Nat × (Nat → Int32)} {NS : Nat} {D : va_G} {ad : Nat → Nat} {dA : Nat → ClassId} {z0 : Nat} {Hb : Heap} {s U : State} (hW : s.WarmedH U.vm) (h : ai_Sx lk on X NS D ad dA z0 Hb s) : ai_Sx lk on X NS D ad dA z0 Hb U := by
  obtain ⟨h1, h2, h3, h4, h5, h6, h7, h8⟩ := h
  refine ⟨va_K.moved hW.alike h1, va_X.moved hW.alike h2, fun cn ix i hi => ?_, fun v q1 q2 => (h4 v q1 q2).imp (fun t h => vs_At.moved hW.alike h), va_AO.moved hW.alike h5, vx_Zq.moved hW.alike h6, vx_Zq.moved hW.alike h7, fun w hw => ?_⟩
  · obtain ⟨tx, h⟩ := h3 cn ix i hi
    exact ⟨tx, vk_R.warm hW h⟩
  · have h9 := h8 w hw
    simp only [ai_NW, List.mem_cons, List.not_mem_nil, or_false] at hw
    rcases hw with rfl | rfl | rfl | rfl | rfl | rfl | rfl | rfl | rfl
    · exact va_Nw.warmD hW h9
    · exact va_Nw.warmD hW h9
    · exact va_Nw.warmD hW h9
    · exact va_Nw.warmC hW h9
    · exact va_Nw.warmC hW h9
    · exact va_Nw.warmM hW h9
    · exact va_Nw.warmM hW h9
    · exact va_Nw.warmM hW h9
    · exact va_Nw.warmM hW h9
def ai_ln : Instr → Nat
  | .bipush _ => 2
  | .iload _ => 2
  | .aload _ => 2
  | .istore _ => 2
  | .astore _ => 2
  | .newarray _ => 2
  | .ldc _ => 2
  | .sipush _ => 3
  | .iinc _ _ => 3
  | .ifCond _ _ => 3
  | .if_icmp _ _ => 3
  | .goto _ => 3
  | .getfield _ => 3
  | .putfield _ => 3
  | .new _ => 3
  | .anewarray _ => 3
  | .invokespecial _ => 3
  | .invokevirtual _ => 3
  | .invokestatic _ => 3
  | _ => 1
def ai_dc (cc : ByteArray) (pc : Nat) (i : Instr) : Prop := match i with
  | .tableswitch d lo hi offs => ∃ n, decode cc pc = .ok (.tableswitch d lo hi offs, n)
  | j => decode cc pc = .ok (j, ai_ln j)
/-- the word of a method's code -/
def ai_cw (M : ai_M) : Cond := match M.hh with
  | [] => .code M.nm M.by' M.ml M.rt
  | hh => .codeWith M.nm M.by' M.ml M.rt hh
/-- a call's link, whatever its kind -/
def ai_cf (own : String) (ix n : Nat) (M : ai_M) : Prop := Cond.methodLink own ix M.nm ∈ ai_TB ∧ Cond.initialized M.nm.cls ∈ ai_TB ∧ ai_cw M ∈ ai_TB ∧ M.nm.cls ≠ "java/lang/invoke/MethodHandle" ∧ M.nm.cls ≠ "java/lang/invoke/VarHandle" ∧ (parseMethodDescriptor M.nm.desc).map (fun d => d.parameters.length) = some n ∧ M.ml ≤ 31
/-- a constructor's link: a plain one, or that of a private one of a nest mate -/
def ai_cg (own : String) (ix n : Nat) (M : ai_M) : Prop := (Cond.methodLink own ix M.nm ∈ ai_TB ∨ ∃ host, Cond.methodLinkNest own ix M.nm host ∈ ai_NW) ∧ Cond.initialized M.nm.cls ∈ ai_TB ∧ ai_cw M ∈ ai_TB ∧ M.nm.cls ≠ "java/lang/invoke/MethodHandle" ∧ M.nm.cls ≠ "java/lang/invoke/VarHandle" ∧ (parseMethodDescriptor M.nm.desc).map (fun d => d.parameters.length) = some n ∧ M.ml ≤ 31
/-- 'throw new E("..")' at pc -/
def ai_tf (K : ai_L) (own : String) (cc : ByteArray) (pc ik : Nat) (E : String) : Prop := ∃ (is ic i ix : Nat) (rx : ByteArray), decode cc pc = .ok (.new ik, 3) ∧ decode cc (pc + 3) = .ok (.dup, 1) ∧ decode cc (pc + 4) = .ok (.ldc is, 2) ∧ decode cc (pc + 6) = .ok (.invokespecial ic, 3) ∧ decode cc (pc + 9) = .ok (.athrow, 1) ∧ ai_as K.2.2.1 is = some i ∧
  decode rx 0 = .ok (.aload_n 0, 1) ∧ decode rx 1 = .ok (.aload_n 1, 1) ∧ decode rx 2 = .ok (.invokespecial ix, 3) ∧ decode rx 5 = .ok (.return_, 1) ∧ Bundle.fit E = true ∧ Cond.classLink own ik E ∈ ai_TB ∧ Cond.initialized E ∈ ai_TB ∧ (∀ w ∈ vy_at own ic E ix rx ["java/lang/RuntimeException", "java/lang/Exception"], w ∈ ai_TB ∨ w ∈ ai_NW) ∧ Cond.castable E E ∈ ai_NW
/-- which of the JDK's static methods a step is -/
def ai_nm (n : Nat) : MethodName := match n with
  | 2 => Lib.Math.min.name
  | 3 => Lib.Math.max.name
  | 1 => Lib.Math.abs.name
  | 6 => yJ0_length_8abf5
  | 7 => yJ0_charAt_5068e
  | _ => arraycopyName
def ai_lf (ms : List ai_M) (lk : Nat → ai_L) (on : Nat → String) (M : ai_M) (pc : Nat) (i : Instr) (tg : List Nat) : Prop := match i with
  | .ifCond _ off => ∀ t : Nat, tg = [t] → (pc : Int) + off = (t : Int)
  | .if_icmp _ off => ∀ t : Nat, tg = [t] → (pc : Int) + off = (t : Int)
  | .goto off => ∀ t : Nat, tg = [t] → (pc : Int) + off = (t : Int)
  | .tableswitch dflt _ _ offs => (∀ t : Nat, tg[0]? = some t → (pc : Int) + dflt = (t : Int)) ∧ ∀ j t : Nat, tg[j + 1]? = some t → ∃ off, offs[j]? = some off ∧ (pc : Int) + off = (t : Int)
  | .getfield ix => ∀ ci k kd, ai_as (lk M.cn).1 ix = some (ci, k, kd) → ai_fr (on M.cn) ix ci k
  | .putfield ix => ∀ ci k kd, ai_as (lk M.cn).1 ix = some (ci, k, kd) → ai_fw (on M.cn) (decide (M.nm.name = "<init>")) ix ci k kd
  | .new ix => (∀ ci, ai_as (lk M.cn).2.1 ix = some ci → ∃ q, vwCl[ci]? = some q ∧ Cond.classLink (on M.cn) ix q.1 ∈ ai_TB) ∧ ∀ E, ai_as (lk M.cn).2.2.2.2 ix = some E → ai_tf (lk M.cn) (on M.cn) M.by' pc ix E
  | .newarray t => Cond.arrayClass (newarray.typeOf t) ∈ ai_TB
  | .anewarray ix => Cond.classLink (on M.cn) ix "java/lang/String" ∈ ai_TB
  | .invokespecial ix => (∀ n, ai_as (lk M.cn).2.2.2.1 ix = some (0, n) → Cond.methodLink (on M.cn) ix Lib.objectInit ∈ ai_TB) ∧ ∀ q n M1, ai_as (lk M.cn).2.2.2.1 ix = some (q, n) → q ≠ 0 → ms[q]? = some M1 → ai_cg (on M.cn) ix n M1 ∧ Cond.instanceMethod M1.nm ∈ ai_TB ∧ M1.nm.name = "<init>" ∧ M1.hh = [] ∧ M1.rt = none
  | .invokevirtual ix => (∀ n, ai_as (lk M.cn).2.2.2.1 ix = some (0, n) → Cond.methodLink (on M.cn) ix (ai_nm n) ∈ ai_TB) ∧ ∀ q n M1, ai_as (lk M.cn).2.2.2.1 ix = some (q, n) → q ≠ 0 → ms[q]? = some M1 → ai_cf (on M.cn) ix n M1 ∧ Cond.instanceMethod M1.nm ∈ ai_TB ∧ Cond.selects M1.nm.cls M1.nm M1.nm ∈ ai_TB ∧ M1.hh = [] ∧ ∃ T N, vwCl[M1.cn]? = some (M1.nm.cls, T, N)
  | .invokestatic ix => (∀ n, ai_as (lk M.cn).2.2.2.1 ix = some (0, n) → n < 6 ∧ Cond.methodLink (on M.cn) ix (ai_nm n) ∈ ai_TB) ∧ ∀ q n M1, ai_as (lk M.cn).2.2.2.1 ix = some (q, n) → q ≠ 0 → ms[q]? = some M1 → ai_cf (on M.cn) ix n M1 ∧ Cond.static M1.nm ∈ ai_TB
  | _ => True
/-- a method's rows are those of its bytes -/
def ai_okM (ms : List ai_M) (lk : Nat → ai_L) (on : Nat → String) (M : ai_M) : Prop := plainName M.nm.cls = true ∧ on M.cn = M.nm.cls ∧ (∀ pc i tg, ai_as M.co pc = some (i, tg) → ai_dc M.by' pc i ∧ ai_lf ms lk on M pc i tg) ∧
  (M.hh = [] ∨ (M.rt = some .int ∧ ∃ st en hp ix k, M.hh = [(st, en, hp, ix)] ∧ k < M.ml ∧ ((decode M.by' hp = .ok (.astore k, 2) ∧ decode M.by' (hp + 2) = .ok (.iconst 1, 1) ∧ decode M.by' (hp + 3) = .ok (.ireturn, 1)) ∨ (∃ k4 : Fin 4, k = k4 ∧ decode M.by' hp = .ok (.astore_n k4, 1) ∧ decode M.by' (hp + 1) = .ok (.iconst 1, 1) ∧ decode M.by' (hp + 2) = .ok (.ireturn, 1))) ∧ ix ≠ 0 ∧ ∀ E, ai_as (lk M.cn).2.2.2.2 ix = some E → Cond.classLink (on M.cn) ix E ∈ ai_TB ∧ Cond.castable E E ∈ ai_NW))
set_option maxRecDepth 100000 in
theorem ai_objW : Cond.instanceMethod Lib.objectInit ∈ ai_TB ∧ Cond.code Lib.objectInit ⟨#[0xb1]⟩ 1 none ∈ ai_TB := ⟨ai_gp_in (p := 123) (by decide +kernel), ai_gp_in (p := 124) (by decide +kernel)⟩
set_option maxRecDepth 100000 in
theorem ai_cpyW : Cond.native arraycopyName ∈ ai_TB ∧ Cond.static arraycopyName ∈ ai_TB ∧ Cond.initialized "java/lang/System" ∈ ai_TB := ⟨ai_gp_in (p := 782) (by decide +kernel), ai_gp_in (p := 781) (by decide +kernel), ai_gp_in (p := 116) (by decide +kernel)⟩
set_option maxRecDepth 100000 in
theorem ai_minW : Cond.static Lib.Math.min.name ∈ ai_TB ∧ Cond.initialized "java/lang/Math" ∈ ai_TB ∧ Cond.code Lib.Math.min.name Lib.Math.min.code 2 (some .int) ∈ ai_TB := ⟨ai_gp_in (p := 621) (by decide +kernel), ai_gp_in (p := 111) (by decide +kernel), ai_gp_in (p := 622) (by decide +kernel)⟩
set_option maxRecDepth 100000 in
theorem ai_maxW : Cond.static Lib.Math.max.name ∈ ai_TB ∧ Cond.initialized "java/lang/Math" ∈ ai_TB ∧ Cond.code Lib.Math.max.name Lib.Math.max.code 2 (some .int) ∈ ai_TB := ⟨ai_gp_in (p := 968) (by decide +kernel), ai_gp_in (p := 111) (by decide +kernel), ai_gp_in (p := 969) (by decide +kernel)⟩
set_option maxRecDepth 100000 in
theorem ai_absW : Cond.static Lib.Math.abs.name ∈ ai_TB ∧ Cond.initialized "java/lang/Math" ∈ ai_TB ∧ Cond.code Lib.Math.abs.name Lib.Math.abs.code 1 (some .int) ∈ ai_TB := ⟨ai_gp_in (p := 827) (by decide +kernel), ai_gp_in (p := 111) (by decide +kernel), ai_gp_in (p := 828) (by decide +kernel)⟩
theorem as_sx {p : Program} {l : Launch} {e : Env} {R : Room} {s : State} {m : MethodId} {args : Array Value} {below : List Frame} {meth : Method} {c : Code} {Q : State → Prop} {D : va_G} {ad : Nat → Nat} {dA : Nat → ClassId} {z0 : Nat} {Hb : Heap} {n0 nL : Nat} {cc : ByteArray} {own : String} {K0 : ai_L} {NS ix : Nat} (hx : p.tables.exec = Jvm.exec) (hb : c.code = cc) (hts : ∀ w ∈ ai_TB, w.before args s = true) (hown : s.vm.findClass own = some m.cls) (hml : c.maxLocals = nL) (hF : ∀ n, ai_as K0.2.2.2.1 ix = some (0, n) → Cond.methodLink own ix (ai_nm n) ∈ ai_TB) (hNS : NS ≤ 35) (hst : ∀ v, 1000001 ≤ v → v < 1000001 + NS → ∃ t, vs_At z0 (ad v) t (ai_ta v).length (fun j => (ai_ta v).getD j 0) s s.heap) (hRf : 10 ≤ R.frames) (hRl : 200 ≤ R.locals) {fr fr' : ai_F} (hd : decode cc fr.1 = .ok (.invokevirtual ix, 3)) (h : ai_sx K0 NS ix fr = some fr') (hM : fr'.2.2.2.2.2.1 ≤ R.cells ∧ fr'.2.2.2.2.2.2 ≤ R.slots) (K : ai_W p l e R s m args below meth c Q nL D ad dA z0 Hb n0 fr') : ai_W p l e R s m args below meth c Q nL D ad dA z0 Hb n0 fr := by
  obtain ⟨pc, lv, st, h0, ex, nc, ns⟩ := fr
  have hsum : ∀ z : List Value, ((z.map (ai_v ad)).map fun v => v.category).sum = ai_sum z := fun z => by simp [ai_sum, Function.comp_def, ai_v_cat]
  unfold ai_sx at h
  split at h
  · rename_i heq
    split at h
    · rename_i hc
      simp only [Prod.mk.injEq] at heq
      obtain ⟨rfl, rfl, rfl, rfl⟩ := heq
      rename_i a st
      obtain ⟨hq, h1, h2, h3⟩ := hc
      cases h
      intro H locs ls hR hE hS hl
      obtain ⟨t, hA⟩ := hst a h1 h2
      have hA' := hA.kept hS.2.1
      have hlt2 := Nat.lt_of_lt_of_le h2 (Nat.add_le_add_left hNS 1000001)
      have hlen := vs_tal a h1 hlt2
      have kk := K H locs ls hR hE hS hl
      refine vs_aft (va_runV (rest := st.map (ai_v ad)) (As := []) (b := ad a) (g := F0 m pc ls _) ⟨hx, hb, hml, hown, hts⟩ (vs_len (z0 := z0) (a := ad a) (t := t) (N := (ai_ta a).length) (f := fun j => (ai_ta a).getD j 0) (by omega)) (cwV (C := RJ0) (mc := 0) (ms := 0) 0 hts (vs_gV (hF 6 hq) vs_w_i_len vs_w_e_len vs_w_n_RJ0 vs_w_c_len) rfl rfl rfl ⟨rfl, by decide, by decide, by decide⟩ ⟨by show 1 + 1 ≤ _; omega, by show 8 + (1 + 11) + 40 * 1 ≤ _; omega⟩) ⟨vs_bl (fun u U h1 h2 h3 => by rw [h2]; exact vs_At.moved h1 h3), vs_rcvH hA'.1, fun U h1 h2 => ⟨rfl, by dsimp only; rw [h1]; exact vs_At.moved h2.alike hA'⟩⟩ rfl rfl hl.1 rfl (by show 2 * 0 + _ ≤ 8; rw [hsum]; omega) hd ⟨hM.1, hM.2⟩) kk
    · cases h
  · rename_i heq
    split at h
    · rename_i hc
      simp only [Prod.mk.injEq] at heq
      obtain ⟨rfl, rfl, rfl, rfl⟩ := heq
      rename_i i a st
      obtain ⟨hq, h1, h2, h3, h4⟩ := hc
      cases h
      intro H locs ls hR hE hS hl
      obtain ⟨t, hA⟩ := hst a h1 h2
      have hA' := hA.kept hS.2.1
      have hlt2 := Nat.lt_of_lt_of_le h2 (Nat.add_le_add_left hNS 1000001)
      have hlen := vs_tal a h1 hlt2
      have kk := K H locs ls hR hE hS hl
      simp only [ai_in, Bool.and_eq_true, Bool.not_eq_true', decide_eq_false_iff_not, decide_eq_true_eq] at h4
      have hlt : i < nI (ai_ta a).length := by
        obtain ⟨j, hj, e9⟩ := nI_of h4.1
        rw [e9] at h4 ⊢
        rw [nI_clamp hj] at h4
        exact nI_lt h4.2 (by omega)
      refine vs_aft (va_runV (rest := st.map (ai_v ad)) (As := [.int i]) (b := ad a) (g := F0 m pc ls _) ⟨hx, hb, hml, hown, hts⟩ (vs_chr (z0 := z0) (a := ad a) (t := t) (N := (ai_ta a).length) (f := fun j => (ai_ta a).getD j 0) h4.1 hlt (fun w => w.elim h4.1 (fun w2 => absurd h4.2 (Nat.not_lt.mpr w2))) (vs_tac a h1 hlt2)) (cwV (C := RJ0) (mc := 0) (ms := 0) 1 hts (vs_gV (hF 7 hq) vs_w_i_chr vs_w_e_chr vs_w_n_RJ0 vs_w_c_chr) rfl rfl rfl ⟨rfl, by decide, by decide, by decide⟩ ⟨by show 3 + 1 ≤ _; omega, by show 8 + (2 + 11) + 40 * 3 ≤ _; omega⟩) ⟨vs_bl (fun u U h1 h2 h3 => by rw [h2]; exact vs_At.moved h1 h3), vs_rcvH hA'.1, fun U h1 h2 => ⟨rfl, by dsimp only; rw [h1]; exact vs_At.moved h2.alike hA'⟩⟩ rfl rfl hl.1 rfl (by show 2 * 0 + _ ≤ 8; rw [hsum]; omega) hd ⟨hM.1, hM.2⟩) kk
    · cases h
  · cases h
/-- where a method's body stands -/
def ai_Cx (lk : Nat → ai_L) (on : Nat → String) (X : Nat × (Nat → Int32)) (NS : Nat) (D : va_G) (ad : Nat → Nat) (dA : Nat → ClassId) (z0 : Nat) (Hb : Heap) (R : Room) (M : ai_M) (p : Program) (s : State) (m : MethodId) (args : Array Value) (meth : Method) (c : Code) : Prop :=
  p.tables.exec = Jvm.exec ∧ c.code = M.by' ∧ c.maxLocals = M.ml ∧ meth.sig.returnType = M.rt ∧ meth.locks = false ∧ s.vm.findClass (on M.cn) = some m.cls ∧ (M.nm.name = "<init>" → meth.name = "<init>") ∧ (∀ w ∈ ai_TB, w.before args s = true) ∧ (∀ k, k < 1000000 → ad k = z0 + k) ∧ (z0 ≤ s.heap.size ∧ ∀ q, q < z0 → s.heap[q]? = Hb[q]?) ∧ ad 1000000 < z0 ∧ ai_Sx lk on X NS D ad dA z0 Hb s ∧ 10 ≤ R.frames ∧ 200 ≤ R.locals ∧ c.exceptionTable.toList = tableOf M.hh
section AIT
variable {p : Program} {l : Launch} {e : Env} {R : Room} {s : State} {m : MethodId} {args : Array Value} {below : List Frame} {meth : Method} {c : Code} {Q : State → Prop} {D : va_G} {ad : Nat → Nat} {dA : Nat → ClassId} {z0 : Nat} {Hb : Heap} {n0 : Nat}
variable {ms : List ai_M} {lk : Nat → ai_L} {on : Nat → String} {X : Nat × (Nat → Int32)} {NS : Nat} {M : ai_M}
theorem as_step (hNS : NS ≤ 35) (C : ai_Cx lk on X NS D ad dA z0 Hb R M p s m args meth c) {i : Instr} {tg : List Nat} {fr fr' : ai_F} (hd : ai_dc M.by' fr.1 i) (hf : ai_lf ms lk on M fr.1 i tg) (h : ai_st (lk M.cn) X M.ml NS i tg fr = some fr') (hM : fr'.2.2.2.2.2.1 ≤ R.cells ∧ fr'.2.2.2.2.2.2 ≤ R.slots) (K : ai_W p l e R s m args below meth c Q M.ml D ad dA z0 Hb n0 fr') : ai_W p l e R s m args below meth c Q M.ml D ad dA z0 Hb n0 fr := by
  obtain ⟨hx, hb, hml, hrt, hlk, hown, hini, hts, had, hZ, hX2, ⟨hK, hX, hstr, hstO, hAO, hU, hN, hNW⟩, hRf, hRl, htab⟩ := C
  have hX' : va_X (ad 1000000) X.1 X.2 s s.heap := hX.kept (hZ.2 _ hX2)
  have hstA : ∀ v, 1000001 ≤ v → v < 1000001 + NS → ∃ t, vs_At z0 (ad v) t (ai_ta v).length (fun j => (ai_ta v).getD j 0) s s.heap := fun v q1 q2 => (hstO v q1 q2).imp (fun t h => h.kept (fun a h1 h2 => hZ.2 a (Nat.not_le.mp h2)))
  have hstO' : ∀ v, 1000001 ≤ v → v < 1000001 + NS → va_O "java/lang/String" (ad v) (fun q : Nat => z0 ≤ q) s s.heap := fun v q1 q2 => by
    obtain ⟨t, h⟩ := hstA v q1 q2
    exact h.1
  cases i with
  | iconst n => exact as_iconst hx hb hd h K
  | bipush n => exact as_bipush hx hb hd h K
  | sipush n => exact as_sipush hx hb hd h K
  | lconst n => exact as_lconst hx hb hd h K
  | iload_n k => exact as_iload_n hx hb hd h K
  | iload k => exact as_iload hx hb hd h K
  | aload_n k => exact as_aload_n hx hb hd h K
  | aload k => exact as_aload hx hb hd h K
  | istore_n k => exact as_istore_n hx hb hd h K
  | istore k => exact as_istore hx hb hd h K
  | astore_n k => exact as_astore_n hx hb hd h K
  | astore k => exact as_astore hx hb hd h K
  | iinc k d => exact as_iinc hx hb hd h K
  | iadd => exact as_iadd hx hb hd h K
  | isub => exact as_isub hx hb hd h K
  | imul => exact as_imul hx hb hd h K
  | iand => exact as_iand hx hb hd h K
  | ishr => exact as_ishr hx hb hd h K
  | idiv => exact as_idiv hx hb hd h K
  | irem => exact as_irem hx hb hd h K
  | i2l => exact as_i2l hx hb hd h K
  | i2b => exact as_i2b hx hb hd h K
  | lcmp => exact as_lcmp hx hb hd h K
  | dup => exact as_dup hx hb hd h K
  | dup2 => exact as_dup2 hx hb hd h K
  | pop => exact as_pop hx hb hd h K
  | ifCond o off => cases o with
    | eq => exact as_if_eq hx hb hd hf h K
    | ne => exact as_if_ne hx hb hd hf h K
    | lt => exact as_if_lt hx hb hd hf h K
    | ge => exact as_if_ge hx hb hd hf h K
    | gt => exact as_if_gt hx hb hd hf h K
    | le => exact as_if_le hx hb hd hf h K
  | if_icmp o off => cases o with
    | eq => exact as_ic_eq hx hb hd hf h K
    | ne => exact as_ic_ne hx hb hd hf h K
    | lt => exact as_ic_lt hx hb hd hf h K
    | ge => exact as_ic_ge hx hb hd hf h K
    | gt => exact as_ic_gt hx hb hd hf h K
    | le => exact as_ic_le hx hb hd hf h K
  | goto off => exact as_goto hx hb hd hf h K
  | tableswitch dflt lo hi offs =>
    obtain ⟨n, hd⟩ := hd
    exact as_table hx hb hd hf.1 hf.2 h K
  | getfield ix => exact as_get hx hb hts hK had hZ hown hf hd h K
  | putfield ix => exact as_put hx hb hts hK had hZ hown (fun q => hini (of_decide_eq_true q)) hf hd h K
  | iaload => exact as_ial hx hb hts hK had hZ hX' hX2 hd h K
  | baload => exact as_bal hx hb hts hK had hZ hd h K
  | laload => exact as_lal hx hb hts hK had hZ hd h K
  | iastore => exact as_ias hx hb hts hK had hZ hd h K
  | bastore => exact as_bas hx hb hts hK had hZ hd h K
  | lastore => exact as_las hx hb hts hK had hZ hd h K
  | arraylength => exact as_len hx hb hts hK had hZ hX' hX2 hd h K
  | new ix => exact as_new hx hb hts hK had hZ hown hf.1 hd h hM K
  | newarray t => exact as_nwa hx hb hts hK had hZ hf hd h hM K
  | anewarray ix => exact as_nws hx hb hts hK had hZ hown hf hAO hd h hM K
  | ldc ix => exact as_ldc hx hb hts hK had hZ hown (fun i hi => hstr M.cn ix i hi) hd h K
  | aastore => exact as_aas hx hb hts hK had hZ hstO' hd h K
  | aaload => exact as_aal hx hb hts hK had hZ hd h K
  | invokespecial ix => exact as_obj hx hb hts hK had hZ hown hml hf.1 ai_objW ⟨by omega, by omega⟩ hd h K
  | invokevirtual ix => exact as_sx hx hb hts hown hml hf.1 hNS hstA (by omega) (by omega) hd h hM K
  | invokestatic ix =>
    change ai_nat (lk M.cn) ix fr = some fr' at h
    unfold ai_nat at h
    split at h
    · rename_i hq
      exact as_min hx hb hts hown hml (hf.1 2 hq).2 ai_minW ⟨by omega, by omega⟩ hd h hM K
    · rename_i hq
      exact as_max hx hb hts hown hml (hf.1 3 hq).2 ai_maxW ⟨by omega, by omega⟩ hd h hM K
    · rename_i hq
      exact as_abs hx hb hts hown hml (hf.1 1 hq).2 ai_absW ⟨by omega, by omega⟩ hd h hM K
    · rename_i h2 h3 h1
      have hq : ∃ n, ai_as (lk M.cn).2.2.2.1 ix = some (0, n) := by
        unfold ai_cpy at h
        split at h
        · split at h
          · rename_i q n9 hq9
            split at h
            · split at h
              · split at h
                · rename_i hc
                  obtain ⟨rfl, -⟩ := hc
                  exact ⟨n9, hq9⟩
                · cases h
              · cases h
            · cases h
          · cases h
        · cases h
      obtain ⟨n, hn⟩ := hq
      obtain ⟨hn6, hw⟩ := hf.1 n hn
      have hnm : ai_nm n = arraycopyName := by
        unfold ai_nm
        split
        · exact absurd hn h2
        · exact absurd hn h3
        · exact absurd hn h1
        · omega
        · omega
        · rfl
      rw [hnm] at hw
      exact as_cpy hx hb hts hK had hZ hown hml hw ai_cpyW ⟨by omega, by omega⟩ hd h K
  | _ => cases h
end AIT
