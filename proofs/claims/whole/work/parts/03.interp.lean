/-! AN INTERPRETER over handles, of which the machine is proved once: cells are numbered in the order of their making, references are those numbers; 1000000 is the script, 1000001 + i the i-th string constant. -/
/-- an abstract cell: an array (kind, length, contents) or an object (number of its class, fields) -/
abbrev ai_C : Type := (Nat × vp_A) ⊕ (Nat × List Value)
abbrev ai_H : Type := List ai_C
/-- pc, locals, stack, heap, is the heap's size known, cells and slots made -/
abbrev ai_F : Type := Nat × List (Nat × Value) × List Value × ai_H × Bool × Nat × Nat
/-- returned: value, heap, is its size known, cells, slots; or thrown: the class's name, heap, cells, slots -/
abbrev ai_O : Type := (Option Value × ai_H × Bool × Nat × Nat) ⊕ (String × ai_H × Nat × Nat)
/-- an instruction: pc, what it is, where it may jump to -/
abbrev ai_I : Type := Nat × Instr × List Nat
/-- the links of a class by pool number: fields (class, place, kind), classes made, strings, methods (number, arguments), exceptions -/
abbrev ai_L : Type := List (Nat × Nat × Nat × Nat) × List (Nat × Nat) × List (Nat × Nat) × List (Nat × Nat × Nat) × List (Nat × String)
def ai_as {β : Type} : List (Nat × β) → Nat → Option β
  | [], _ => none
  | (j, b) :: r, i => if j = i then some b else ai_as r i
/-- a local is stored -/
def ai_sl : List (Nat × Value) → Nat → Value → List (Nat × Value)
  | [], i, v => [(i, v)]
  | (j, w) :: r, i, v => if j = i then (i, v) :: r.filter (fun q => !(q.1 == i)) else (j, w) :: ai_sl r i v
def ai_c1 (lv : List (Nat × Value)) : Bool := lv.all (fun q => q.2.category == 1)
def ai_sz (k : Nat) (z : Nat) : Option vp_A := match k with
  | 0 => some (z, .inl (fun _ => 0))
  | 1 => some (z, .inl (fun _ => 0))
  | 2 => some (z, .inl (fun _ => 0))
  | 3 => some (z, .inr (.inl (fun _ => 0)))
  | _ => none
def ai_kd : ArrayType → Nat := fun a => if a = .int then 0 else if a = .boolean then 1 else if a = .byte then 2 else if a = .long then 3 else 9
def ai_ty : Nat → FieldType := fun k => match k with
  | 0 => .int
  | 1 => .boolean
  | 2 => .byte
  | 3 => .long
  | _ => .object "java/lang/String"
/-- an index within -/
def ai_in (i : Int32) (n : Nat) : Bool := !(decide (i < 0)) && decide (i.toNatClampNeg < n)
def ai_def (ci : Nat) : List Value := match ci with
  | 0 => [.int 0, .null, .null, .null, .null, .null, .null, .null, .null, .null, .null, .null, .int 0]
  | 1 => [.null, .null, .null, .null, .null, .null, .null, .null, .int 0]
  | 2 => [.null, .int 0, .null, .int 0, .null, .null, .null, .null, .null, .null, .null, .int 0, .int 0]
  | 3 => [.int 0, .int 0, .null, .null, .int 0]
  | 4 => [.null, .null, .null, .int 0]
  | 5 => [.null, .int 0, .int 0, .null, .int 0, .int 0]
  | 6 => [.null, .int 0]
  | 7 => [.null, .null, .int 0, .null, .int 0, .int 0]
  | 8 => [.null, .null, .null, .int 0]
  | 9 => [.null, .null, .null, .null, .null, .null, .null, .null, .null, .int 0, .int 0, .int 0]
  | _ => (List.range 56).map (fun k => defaultValue (tyX10 k))
def ai_push (v : Value) (n : Nat) : ai_F → Option ai_F
  | (pc, lv, st, r) => some (pc + n, lv, v :: st, r)
def ai_ld (n i : Nat) : ai_F → Option ai_F
  | (pc, lv, st, r) => match ai_as lv i with
    | some (.int x) => some (pc + n, lv, .int x :: st, r)
    | _ => none
def ai_lda (n i : Nat) : ai_F → Option ai_F
  | (pc, lv, st, r) => match ai_as lv i with
    | some (.ref x) => some (pc + n, lv, .ref x :: st, r)
    | _ => none
def ai_sto (nL n i : Nat) : ai_F → Option ai_F
  | (pc, lv, .int x :: st, r) => if i < nL ∧ ai_c1 lv = true then some (pc + n, ai_sl lv i (.int x), st, r) else none
  | _ => none
def ai_sta (nL n i : Nat) : ai_F → Option ai_F
  | (pc, lv, .ref x :: st, r) => if i < nL ∧ ai_c1 lv = true then some (pc + n, ai_sl lv i (.ref x), st, r) else none
  | _ => none
def ai_inc (nL i : Nat) (d : Int) : ai_F → Option ai_F
  | (pc, lv, st, r) => match ai_as lv i with
    | some (.int x) => if i < nL ∧ ai_c1 lv = true then some (pc + 3, ai_sl lv i (.int (x + Int32.ofInt d)), st, r) else none
    | _ => none
def ai_bin (f : Int32 → Int32 → Int32) : ai_F → Option ai_F
  | (pc, lv, .int y :: .int x :: st, r) => some (pc + 1, lv, .int (f x y) :: st, r)
  | _ => none
def ai_dv (f : Int32 → Int32 → Int32) : ai_F → Option ai_F
  | (pc, lv, .int y :: .int x :: st, r) => if y = 0 then none else some (pc + 1, lv, .int (f x y) :: st, r)
  | _ => none
def ai_cp (o : ClassFile.Cond) (x y : Int32) : Bool := match o with
  | .eq => decide (x = y)
  | .ne => !decide (x = y)
  | .lt => decide (x < y)
  | .ge => decide (y ≤ x)
  | .gt => decide (y < x)
  | .le => decide (x ≤ y)
def ai_if (o : ClassFile.Cond) (tg : List Nat) : ai_F → Option ai_F
  | (pc, lv, .int x :: st, r) => match tg with
    | [t] => if ai_cp o x 0 = true then some (t, lv, st, r) else some (pc + 3, lv, st, r)
    | _ => none
  | _ => none
def ai_ic (o : ClassFile.Cond) (tg : List Nat) : ai_F → Option ai_F
  | (pc, lv, .int y :: .int x :: st, r) => match tg with
    | [t] => if ai_cp o x y = true then some (t, lv, st, r) else some (pc + 3, lv, st, r)
    | _ => none
  | _ => none
def ai_go (tg : List Nat) : ai_F → Option ai_F
  | (_, lv, st, r) => match tg with
    | [t] => some (t, lv, st, r)
    | _ => none
def ai_tb (lo hi : Int) (tg : List Nat) : ai_F → Option ai_F
  | (_, lv, .int x :: st, r) => if x.toInt < lo ∨ hi < x.toInt then (match tg[0]? with
    | some t => some (t, lv, st, r)
    | none => none) else match tg[(x.toInt - lo).toNat + 1]? with
    | some t => some (t, lv, st, r)
    | none => none
  | _ => none
def ai_i2l : ai_F → Option ai_F
  | (pc, lv, .int x :: st, r) => some (pc + 1, lv, .long x.toInt64 :: st, r)
  | _ => none
def ai_i2b : ai_F → Option ai_F
  | (pc, lv, .int x :: st, r) => some (pc + 1, lv, .int x.toInt8.toInt32 :: st, r)
  | _ => none
def ai_lcmp : ai_F → Option ai_F
  | (pc, lv, .long y :: .long x :: st, r) => some (pc + 1, lv, .int (lg_cmp x y) :: st, r)
  | _ => none
def ai_dup : ai_F → Option ai_F
  | (pc, lv, v :: st, r) => if v.category = 1 then some (pc + 1, lv, v :: v :: st, r) else none
  | _ => none
def ai_dup2 : ai_F → Option ai_F
  | (pc, lv, v :: w :: st, r) => if v.category = 1 ∧ w.category = 1 then some (pc + 1, lv, v :: w :: v :: w :: st, r) else none
  | _ => none
def ai_pop : ai_F → Option ai_F
  | (pc, lv, v :: st, r) => if v.category = 1 then some (pc + 1, lv, st, r) else none
  | _ => none
def ai_get (K : ai_L) (ix : Nat) : ai_F → Option ai_F
  | (pc, lv, .ref a :: st, h, r) => match ai_as K.1 ix with
    | some (ci, k, _) => match h[a]? with
      | some (.inr (cj, fs)) => if ci = cj then (match fs[k]? with
        | some v => some (pc + 3, lv, v :: st, h, r)
        | none => none) else none
      | _ => none
    | none => none
  | _ => none
/-- may the value stand in a field of the kind: 0 an int, 1 a boolean, 2 a reference -/
def ai_vk (kd : Nat) (v : Value) : Bool := match kd, v with
  | 0, .int _ => true
  | 1, .int x => decide (x = 0) || decide (x = 1)
  | 2, .ref _ => true
  | _, _ => false
def ai_put (K : ai_L) (ix : Nat) : ai_F → Option ai_F
  | (pc, lv, v :: .ref a :: st, h, r) => match ai_as K.1 ix with
    | some (ci, k, kd) => match h[a]? with
      | some (.inr (cj, fs)) => if ci = cj ∧ k < fs.length ∧ ai_vk kd v = true then some (pc + 3, lv, st, h.set a (.inr (cj, fs.set k v)), r) else none
      | _ => none
    | none => none
  | _ => none
def ai_ial (X : Nat × (Nat → Int32)) : ai_F → Option ai_F
  | (pc, lv, .int i :: .ref a :: st, h, r) => if a = 1000000 then (if ai_in i X.1 = true then some (pc + 1, lv, .int (X.2 i.toNatClampNeg) :: st, h, r) else none) else match h[a]? with
    | some (.inl (0, n, .inl f)) => if ai_in i n = true then some (pc + 1, lv, .int (f i.toNatClampNeg) :: st, h, r) else none
    | _ => none
  | _ => none
def ai_bal : ai_F → Option ai_F
  | (pc, lv, .int i :: .ref a :: st, h, r) => match h[a]? with
    | some (.inl (1, n, .inl f)) => if ai_in i n = true then some (pc + 1, lv, .int (f i.toNatClampNeg) :: st, h, r) else none
    | some (.inl (2, n, .inl f)) => if ai_in i n = true then some (pc + 1, lv, .int (f i.toNatClampNeg) :: st, h, r) else none
    | _ => none
  | _ => none
def ai_lal : ai_F → Option ai_F
  | (pc, lv, .int i :: .ref a :: st, h, r) => match h[a]? with
    | some (.inl (3, n, .inr (.inl f))) => if ai_in i n = true then some (pc + 1, lv, .long (f i.toNatClampNeg) :: st, h, r) else none
    | _ => none
  | _ => none
def ai_ias : ai_F → Option ai_F
  | (pc, lv, .int x :: .int i :: .ref a :: st, h, r) => match h[a]? with
    | some (.inl (0, n, .inl f)) => if ai_in i n = true then some (pc + 1, lv, st, h.set a (.inl (0, n, .inl (upd f i.toNatClampNeg x))), r) else none
    | _ => none
  | _ => none
def ai_bas : ai_F → Option ai_F
  | (pc, lv, .int x :: .int i :: .ref a :: st, h, r) => match h[a]? with
    | some (.inl (1, n, .inl f)) => if ai_in i n = true then some (pc + 1, lv, st, h.set a (.inl (1, n, .inl (upd f i.toNatClampNeg (vp_nar .boolean x)))), r) else none
    | some (.inl (2, n, .inl f)) => if ai_in i n = true then some (pc + 1, lv, st, h.set a (.inl (2, n, .inl (upd f i.toNatClampNeg (vp_nar .byte x)))), r) else none
    | _ => none
  | _ => none
def ai_las : ai_F → Option ai_F
  | (pc, lv, .long x :: .int i :: .ref a :: st, h, r) => match h[a]? with
    | some (.inl (3, n, .inr (.inl f))) => if ai_in i n = true then some (pc + 1, lv, st, h.set a (.inl (3, n, .inr (.inl (vp_updL f i.toNatClampNeg x)))), r) else none
    | _ => none
  | _ => none
def ai_len (X : Nat × (Nat → Int32)) : ai_F → Option ai_F
  | (pc, lv, .ref a :: st, h, r) => if a = 1000000 then some (pc + 1, lv, .int (Int32.ofNat X.1) :: st, h, r) else match h[a]? with
    | some (.inl (k, x)) => if k < 5 then some (pc + 1, lv, .int (Int32.ofNat x.1) :: st, h, r) else none
    | _ => none
  | _ => none
def ai_new (K : ai_L) (ix : Nat) : ai_F → Option ai_F
  | (pc, lv, st, h, ex, nc, ns) => match ai_as K.2.1 ix with
    | some ci => if ex = true ∧ h.length < 1000000 then some (pc + 3, lv, .ref h.length :: st, h ++ [.inr (ci, ai_def ci)], true, nc + 1, ns + (ai_def ci).length) else none
    | none => none
def ai_nwa (t : ArrayType) : ai_F → Option ai_F
  | (pc, lv, .int n :: st, h, ex, nc, ns) => match ai_sz (ai_kd t) n.toNatClampNeg with
    | some x => if ex = true ∧ h.length < 1000000 ∧ ¬ n < 0 ∧ n.toNatClampNeg ≤ 60000000 then some (pc + 2, lv, .ref h.length :: st, h ++ [.inl (ai_kd t, x)], true, nc + 1, ns + n.toNatClampNeg) else none
    | none => none
  | _ => none
def ai_nws : ai_F → Option ai_F
  | (pc, lv, .int n :: st, h, ex, nc, ns) => if ex = true ∧ h.length < 1000000 ∧ ¬ n < 0 ∧ n.toNatClampNeg ≤ 60000000 then some (pc + 3, lv, .ref h.length :: st, h ++ [.inl (4, n.toNatClampNeg, .inr (.inr (.inr (.inr (fun _ => none)))))], true, nc + 1, ns + n.toNatClampNeg) else none
  | _ => none
def ai_ldc (K : ai_L) (ix : Nat) : ai_F → Option ai_F
  | (pc, lv, st, r) => match ai_as K.2.2.1 ix with
    | some i => some (pc + 2, lv, .ref (1000001 + i) :: st, r)
    | none => none
def ai_aas (NS : Nat) : ai_F → Option ai_F
  | (pc, lv, .ref v :: .int i :: .ref a :: st, h, r) => match h[a]? with
    | some (.inl (4, n, .inr (.inr (.inr (.inr f))))) => if ai_in i n = true ∧ 1000001 ≤ v ∧ v < 1000001 + NS then some (pc + 1, lv, st, h.set a (.inl (4, n, .inr (.inr (.inr (.inr (va_up f i.toNatClampNeg (some v))))))), r) else none
    | _ => none
  | _ => none
def ai_aal : ai_F → Option ai_F
  | (pc, lv, .int i :: .ref a :: st, h, r) => match h[a]? with
    | some (.inl (4, n, .inr (.inr (.inr (.inr f))))) => if ai_in i n = true then some (pc + 1, lv, va_rf (f i.toNatClampNeg) :: st, h, r) else none
    | _ => none
  | _ => none
def ai_sum (st : List Value) : Nat := (st.map fun v => v.category).sum
/-- Object's constructor -/
def ai_obj (K : ai_L) (ix : Nat) : ai_F → Option ai_F
  | (pc, lv, .ref _ :: st, r) => match ai_as K.2.2.2.1 ix with
    | some (q, _) => if q = 0 ∧ ai_sum st ≤ 8 then some (pc + 3, lv, st, r) else none
    | none => none
  | _ => none
/-- System.arraycopy of ints -/
def ai_cpy (K : ai_L) (ix : Nat) : ai_F → Option ai_F
  | (pc, lv, .int n :: .int dp :: .ref a :: .int sp :: .ref a0 :: st, h, r) => match ai_as K.2.2.2.1 ix with
    | some (q, _) => match h[a0]? with
      | some (.inl (0, n0, .inl f)) => match h[a]? with
        | some (.inl (0, n1, .inl g)) => if q = 0 ∧ ¬ sp < 0 ∧ ¬ dp < 0 ∧ ¬ n < 0 ∧ sp.toNatClampNeg + n.toNatClampNeg ≤ n0 ∧ dp.toNatClampNeg + n.toNatClampNeg ≤ n1 ∧ ai_sum st ≤ 8 then some (pc + 3, lv, st, h.set a (.inl (0, n1, .inl (va_cpy f g sp.toNatClampNeg dp.toNatClampNeg n.toNatClampNeg))), r) else none
        | _ => none
      | _ => none
    | none => none
  | _ => none
def ai_mm (f : Int32 → Int32 → Int32) : ai_F → Option ai_F
  | (pc, lv, .int y :: .int x :: st, r) => if ai_sum st ≤ 8 then some (pc + 3, lv, .int (f x y) :: st, r) else none
  | _ => none
def ai_ab : ai_F → Option ai_F
  | (pc, lv, .int x :: st, r) => if ai_sum st ≤ 8 then some (pc + 3, lv, .int (if 0 ≤ x then x else 0 - x) :: st, r) else none
  | _ => none
/-- the JDK's own static methods that are steps here: 2 Math.min, 3 Math.max, 1 Math.abs, else System.arraycopy -/
def ai_nat (K : ai_L) (ix : Nat) (fr : ai_F) : Option ai_F := match ai_as K.2.2.2.1 ix with
  | some (0, 2) => ai_mm (fun x y => if y < x then y else x) fr
  | some (0, 3) => ai_mm (fun x y => if x < y then y else x) fr
  | some (0, 1) => ai_ab fr
  | _ => ai_cpy K ix fr
/-- String.length() and String.charAt(int) on a constant -/
def ai_sx (K : ai_L) (NS ix : Nat) : ai_F → Option ai_F
  | (pc, lv, .ref a :: st, r) => if ai_as K.2.2.2.1 ix = some (0, 6) ∧ 1000001 ≤ a ∧ a < 1000001 + NS ∧ ai_sum st ≤ 8 then some (pc + 3, lv, .int (nI (ai_ta a).length) :: st, r) else none
  | (pc, lv, .int i :: .ref a :: st, r) => if ai_as K.2.2.2.1 ix = some (0, 7) ∧ 1000001 ≤ a ∧ a < 1000001 + NS ∧ ai_sum st ≤ 8 ∧ ai_in i (ai_ta a).length = true then some (pc + 3, lv, .int ((ai_ta a).getD i.toNatClampNeg 0) :: st, r) else none
  | _ => none
/-- one step of an instruction that calls nothing and stays in the method -/
def ai_st (K : ai_L) (X : Nat × (Nat → Int32)) (nL NS : Nat) (i : Instr) (tg : List Nat) : ai_F → Option ai_F := match i with
  | .iconst n => ai_push (.int (Int32.ofInt n)) 1
  | .bipush n => ai_push (.int (Int8.ofInt n).toInt32) 2
  | .sipush n => ai_push (.int (Int16.ofInt n).toInt32) 3
  | .lconst n => ai_push (.long (Int64.ofNat n)) 1
  | .iload_n k => ai_ld 1 k
  | .iload k => ai_ld 2 k
  | .aload_n k => ai_lda 1 k
  | .aload k => ai_lda 2 k
  | .istore_n k => ai_sto nL 1 k
  | .istore k => ai_sto nL 2 k
  | .astore_n k => ai_sta nL 1 k
  | .astore k => ai_sta nL 2 k
  | .iinc k d => ai_inc nL k d
  | .iadd => ai_bin (fun x y => x + y)
  | .isub => ai_bin (fun x y => x - y)
  | .imul => ai_bin (fun x y => x * y)
  | .iand => ai_bin (fun x y => x &&& y)
  | .ishr => ai_bin (fun x y => x >>> (y &&& 31))
  | .idiv => ai_dv (fun x y => x / y)
  | .irem => ai_dv (fun x y => x - x / y * y)
  | .i2l => ai_i2l
  | .i2b => ai_i2b
  | .lcmp => ai_lcmp
  | .dup => ai_dup
  | .dup2 => ai_dup2
  | .pop => ai_pop
  | .ifCond o _ => ai_if o tg
  | .if_icmp o _ => ai_ic o tg
  | .goto _ => ai_go tg
  | .tableswitch _ lo hi _ => ai_tb lo hi tg
  | .getfield ix => ai_get K ix
  | .putfield ix => ai_put K ix
  | .iaload => ai_ial X
  | .baload => ai_bal
  | .laload => ai_lal
  | .iastore => ai_ias
  | .bastore => ai_bas
  | .lastore => ai_las
  | .arraylength => ai_len X
  | .new ix => ai_new K ix
  | .newarray t => ai_nwa t
  | .anewarray _ => ai_nws
  | .ldc ix => ai_ldc K ix
  | .aastore => ai_aas NS
  | .aaload => ai_aal
  | .invokespecial ix => ai_obj K ix
  | .invokestatic ix => ai_nat K ix
  | .invokevirtual ix => ai_sx K NS ix
  | _ => fun _ => none
/-- the world that the handles speak of -/
def ai_v (ad : Nat → Nat) : Value → Value
  | .ref a => .ref (ad a)
  | v => v
def ai_a (ad : Nat → Nat) : vp_A → vp_A
  | (n, .inr (.inr (.inr (.inr f)))) => (n, .inr (.inr (.inr (.inr (fun j => (f j).map ad)))))
  | (n, .inl f) => (n, .inl f)
  | (n, .inr (.inl f)) => (n, .inr (.inl f))
  | (n, .inr (.inr (.inl f))) => (n, .inr (.inr (.inl f)))
  | (n, .inr (.inr (.inr (.inl f)))) => (n, .inr (.inr (.inr (.inl f))))
def ai_ce (ad : Nat → Nat) (dA : Nat → ClassId) : ai_C → va_E
  | .inl (k, x) => .inl (dA k, ai_a ad x)
  | .inr (ci, fs) => .inr (ci, fs.map (ai_v ad))
def ai_w (ad : Nat → Nat) (dA : Nat → ClassId) (z0 : Nat) (h : ai_H) : va_W := h.mapIdx (fun k x => (z0 + k, ai_ce ad dA x))
def ai_tys (dA : Nat → ClassId) : List (ClassId × FieldType) := [(dA 0, .int), (dA 1, .boolean), (dA 2, .byte), (dA 3, .long), (dA 4, .object "java/lang/String")]
/-- the heap holds the handles' cells from z0 on, and is as it was below -/
def ai_R (D : va_G) (ad : Nat → Nat) (dA : Nat → ClassId) (z0 : Nat) (Hb : Heap) (h : ai_H) (H : Heap) : Prop :=
  va_P D vwCl (ai_w ad dA z0 h) H ∧ h.length ≤ 1000000 ∧ z0 ≤ H.size ∧ ∀ q, q < z0 → H[q]? = Hb[q]?
def ai_lv (ad : Nat → Nat) (lv : List (Nat × Value)) : List (Nat × Value) := lv.map (fun q => (q.1, ai_v ad q.2))
/-- the machine goes on well from this frame; n0: how many cells there were at the method's entry -/
def ai_W (p : Program) (l : Launch) (e : Env) (R : Room) (s : State) (m : MethodId) (args : Array Value) (below : List Frame) (meth : Method) (c : Code) (Q : State → Prop) (nL : Nat) (D : va_G) (ad : Nat → Nat) (dA : Nat → ClassId) (z0 : Nat) (Hb : Heap) (n0 : Nat) (fr : ai_F) : Prop := match fr with
  | (pc, lv, st, h, ex, nc, ns) => ∀ (H : Heap) (locs : List Loc) (ls : Array Slot), ai_R D ad dA z0 Hb h H → (ex = true → h.length = n0 + nc ∧ s.heap.size = z0 + n0) → va_S (fun q : Nat => z0 ≤ q) s.heap H locs → lv_has ls nL (ai_lv ad lv) → W p l e R s m args below meth c H locs nc ns Q (F0 m pc ls (st.map (ai_v ad)))
theorem ai_w_get {ad : Nat → Nat} {dA : Nat → ClassId} {z0 : Nat} {h : ai_H} {k : Nat} {x : ai_C} (hk : h[k]? = some x) : (ai_w ad dA z0 h)[k]? = some (z0 + k, ai_ce ad dA x) := by
  simp [ai_w, hk]
theorem ai_w_set {ad : Nat → Nat} {dA : Nat → ClassId} {z0 : Nat} {h : ai_H} {k : Nat} {x : ai_C} : ai_w ad dA z0 (h.set k x) = (ai_w ad dA z0 h).set k (z0 + k, ai_ce ad dA x) := by
  simp [ai_w, List.mapIdx_set]
theorem ai_w_push {ad : Nat → Nat} {dA : Nat → ClassId} {z0 : Nat} {h : ai_H} {x : ai_C} : ai_w ad dA z0 (h ++ [x]) = ai_w ad dA z0 h ++ [(z0 + h.length, ai_ce ad dA x)] := by
  simp [ai_w]
theorem ai_w_D {ad : Nat → Nat} {dA : Nat → ClassId} {z0 : Nat} {h : ai_H} : va_D (fun q : Nat => z0 ≤ q) (ai_w ad dA z0 h) := by
  have key : ∀ (k : Nat) (q : Nat × va_E), (ai_w ad dA z0 h)[k]? = some q → q.1 = z0 + k := by
    intro k q hq
    simp only [ai_w, List.getElem?_mapIdx, Option.map_eq_some_iff] at hq
    obtain ⟨x, -, rfl⟩ := hq
    rfl
  refine ⟨fun i j x y hi hj e => ?_, fun k q hq => ?_⟩
  · have h1 := key i x hi
    have h2 := key j y hj
    omega
  · show z0 ≤ q.1
    rw [key k q hq]
    omega
theorem ai_v_cat (ad : Nat → Nat) (v : Value) : (ai_v ad v).category = v.category := by cases v <;> rfl
theorem ai_as_mem {β : Type} : ∀ {l : List (Nat × β)} {i : Nat} {v : β}, ai_as l i = some v → (i, v) ∈ l
  | [], i, v, h => by simp [ai_as] at h
  | (j, b) :: r, i, v, h => by
    simp only [ai_as] at h
    split at h
    · rename_i hj
      cases h
      rw [hj]
      exact List.mem_cons_self
    · exact List.mem_cons_of_mem _ (ai_as_mem h)
theorem ai_sl_mem : ∀ {l : List (Nat × Value)} {i : Nat} {v : Value} {q : Nat × Value}, q ∈ ai_sl l i v → q = (i, v) ∨ (q ∈ l ∧ q.1 ≠ i)
  | [], i, v, q, h => by
    simp only [ai_sl, List.mem_singleton] at h
    exact Or.inl h
  | (j, w) :: r, i, v, q, h => by
    simp only [ai_sl] at h
    split at h
    · rename_i hj
      rcases List.mem_cons.mp h with h | h
      · exact Or.inl h
      · have h2 := List.mem_filter.mp h
        refine Or.inr ⟨List.mem_cons_of_mem _ h2.1, fun e => ?_⟩
        simp [e] at h2
    · rename_i hj
      rcases List.mem_cons.mp h with h | h
      · subst h
        exact Or.inr ⟨List.mem_cons_self, hj⟩
      · rcases ai_sl_mem h with h | h
        · exact Or.inl h
        · exact Or.inr ⟨List.mem_cons_of_mem _ h.1, h.2⟩
