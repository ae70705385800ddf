/-! STRING CONSTANTS: the JDK's own length() and charAt(int) on them, walked once -/
set_option maxRecDepth 100000 in
theorem vs_w_c_len : Cond.code yJ0_length_8abf5 cJ0_length_8abf5 1 (some .int) ∈ ai_TB := ai_gp_in (p := 647) (by decide +kernel)
set_option maxRecDepth 100000 in
theorem vs_w_i_len : Cond.instanceMethod yJ0_length_8abf5 ∈ ai_TB := ai_gp_in (p := 645) (by decide +kernel)
set_option maxRecDepth 100000 in
theorem vs_w_e_len : Cond.selects RJ0 yJ0_length_8abf5 yJ0_length_8abf5 ∈ ai_TB := ai_gp_in (p := 646) (by decide +kernel)
set_option maxRecDepth 100000 in
theorem vs_w_c_cod : Cond.code yJ0_coder_7d493 cJ0_coder_7d493 1 (some .byte) ∈ ai_TB := ai_gp_in (p := 651) (by decide +kernel)
set_option maxRecDepth 100000 in
theorem vs_w_i_cod : Cond.instanceMethod yJ0_coder_7d493 ∈ ai_TB := ai_gp_in (p := 649) (by decide +kernel)
set_option maxRecDepth 100000 in
theorem vs_w_e_cod : Cond.selects RJ0 yJ0_coder_7d493 yJ0_coder_7d493 ∈ ai_TB := ai_gp_in (p := 650) (by decide +kernel)
set_option maxRecDepth 100000 in
theorem vs_w_c_lat : Cond.code yJ0_isLatin1_aae02 cJ0_isLatin1_aae02 1 (some .boolean) ∈ ai_TB := ai_gp_in (p := 661) (by decide +kernel)
set_option maxRecDepth 100000 in
theorem vs_w_i_lat : Cond.instanceMethod yJ0_isLatin1_aae02 ∈ ai_TB := ai_gp_in (p := 659) (by decide +kernel)
set_option maxRecDepth 100000 in
theorem vs_w_e_lat : Cond.selects RJ0 yJ0_isLatin1_aae02 yJ0_isLatin1_aae02 ∈ ai_TB := ai_gp_in (p := 660) (by decide +kernel)
set_option maxRecDepth 100000 in
theorem vs_w_c_chr : Cond.code yJ0_charAt_5068e cJ0_charAt_5068e 2 (some .char) ∈ ai_TB := ai_gp_in (p := 657) (by decide +kernel)
set_option maxRecDepth 100000 in
theorem vs_w_i_chr : Cond.instanceMethod yJ0_charAt_5068e ∈ ai_TB := ai_gp_in (p := 655) (by decide +kernel)
set_option maxRecDepth 100000 in
theorem vs_w_e_chr : Cond.selects RJ0 yJ0_charAt_5068e yJ0_charAt_5068e ∈ ai_TB := ai_gp_in (p := 656) (by decide +kernel)
set_option maxRecDepth 100000 in
theorem vs_w_c_ch1 : Cond.code yJ1_charAt_3b067 cJ1_charAt_3b067 2 (some .char) ∈ ai_TB := ai_gp_in (p := 664) (by decide +kernel)
set_option maxRecDepth 100000 in
theorem vs_w_s_ch1 : Cond.static yJ1_charAt_3b067 ∈ ai_TB := ai_gp_in (p := 663) (by decide +kernel)
set_option maxRecDepth 100000 in
theorem vs_w_c_chk : Cond.code yJ0_checkIndex_df160 cJ0_checkIndex_df160 2 none ∈ ai_TB := ai_gp_in (p := 667) (by decide +kernel)
set_option maxRecDepth 100000 in
theorem vs_w_s_chk : Cond.static yJ0_checkIndex_df160 ∈ ai_TB := ai_gp_in (p := 666) (by decide +kernel)
set_option maxRecDepth 100000 in
theorem vs_w_c_ck3 : Cond.code yJ3_checkIndex_8e157 cJ3_checkIndex_8e157 3 (some .int) ∈ ai_TB := ai_gp_in (p := 672) (by decide +kernel)
set_option maxRecDepth 100000 in
theorem vs_w_s_ck3 : Cond.static yJ3_checkIndex_8e157 ∈ ai_TB := ai_gp_in (p := 671) (by decide +kernel)
set_option maxRecDepth 100000 in
theorem vs_w_m_cod : Cond.methodLink RJ0 335 yJ0_coder_7d493 ∈ ai_TB := ai_gp_in (p := 648) (by decide +kernel)
set_option maxRecDepth 100000 in
theorem vs_w_m_lat : Cond.methodLink RJ0 492 yJ0_isLatin1_aae02 ∈ ai_TB := ai_gp_in (p := 658) (by decide +kernel)
set_option maxRecDepth 100000 in
theorem vs_w_m_ch1 : Cond.methodLink RJ0 495 yJ1_charAt_3b067 ∈ ai_TB := ai_gp_in (p := 662) (by decide +kernel)
set_option maxRecDepth 100000 in
theorem vs_w_m_chk : Cond.methodLink RJ1 9 yJ0_checkIndex_df160 ∈ ai_TB := ai_gp_in (p := 665) (by decide +kernel)
set_option maxRecDepth 100000 in
theorem vs_w_m_ck3 : Cond.methodLink RJ0 1059 yJ3_checkIndex_8e157 ∈ ai_TB := ai_gp_in (p := 670) (by decide +kernel)
set_option maxRecDepth 100000 in
theorem vs_w_n_RJ0 : Cond.initialized RJ0 ∈ ai_TB := ai_gp_in (p := 112) (by decide +kernel)
set_option maxRecDepth 100000 in
theorem vs_w_n_RJ1 : Cond.initialized RJ1 ∈ ai_TB := ai_gp_in (p := 113) (by decide +kernel)
set_option maxRecDepth 100000 in
theorem vs_w_n_RJ3 : Cond.initialized RJ3 ∈ ai_TB := ai_gp_in (p := 114) (by decide +kernel)
set_option maxRecDepth 100000 in
theorem vs_w_f_z : Cond.fieldLink RJ0 38 "java/lang/String" "COMPACT_STRINGS" "Z" ∈ ai_TB := ai_gp_in (p := 652) (by decide +kernel)
set_option maxRecDepth 100000 in
theorem vs_w_f_c : Cond.fieldLink RJ0 15 "java/lang/String" "coder" "B" ∈ ai_TB := ai_gp_in (p := 1505) (by decide +kernel)
set_option maxRecDepth 100000 in
theorem vs_w_f_v : Cond.fieldLink RJ0 9 "java/lang/String" "value" "[B" ∈ ai_TB := ai_gp_in (p := 1504) (by decide +kernel)
set_option maxRecDepth 100000 in
theorem vs_w_f_q : Cond.fieldLink RJ0 1053 "jdk/internal/util/Preconditions" "SIOOBE_FORMATTER" "Ljava/util/function/BiFunction;" ∈ ai_TB := ai_gp_in (p := 668) (by decide +kernel)
theorem vs_d_J0_length_8abf5_0 : decode cJ0_length_8abf5 0 = .ok (.aload_n 0, 1) := by decide +kernel
theorem vs_d_J0_length_8abf5_1 : decode cJ0_length_8abf5 1 = .ok (.getfield 9, 3) := by decide +kernel
theorem vs_d_J0_length_8abf5_4 : decode cJ0_length_8abf5 4 = .ok (.arraylength, 1) := by decide +kernel
theorem vs_d_J0_length_8abf5_5 : decode cJ0_length_8abf5 5 = .ok (.aload_n 0, 1) := by decide +kernel
theorem vs_d_J0_length_8abf5_6 : decode cJ0_length_8abf5 6 = .ok (.invokevirtual 335, 3) := by decide +kernel
theorem vs_d_J0_length_8abf5_9 : decode cJ0_length_8abf5 9 = .ok (.ishr, 1) := by decide +kernel
theorem vs_d_J0_length_8abf5_10 : decode cJ0_length_8abf5 10 = .ok (.ireturn, 1) := by decide +kernel
theorem vs_d_J0_coder_7d493_0 : decode cJ0_coder_7d493 0 = .ok (.getstatic 38, 3) := by decide +kernel
theorem vs_d_J0_coder_7d493_3 : decode cJ0_coder_7d493 3 = .ok (.ifCond .eq 10, 3) := by decide +kernel
theorem vs_d_J0_coder_7d493_6 : decode cJ0_coder_7d493 6 = .ok (.aload_n 0, 1) := by decide +kernel
theorem vs_d_J0_coder_7d493_7 : decode cJ0_coder_7d493 7 = .ok (.getfield 15, 3) := by decide +kernel
theorem vs_d_J0_coder_7d493_10 : decode cJ0_coder_7d493 10 = .ok (.goto 4, 3) := by decide +kernel
theorem vs_d_J0_coder_7d493_13 : decode cJ0_coder_7d493 13 = .ok (.iconst 1, 1) := by decide +kernel
theorem vs_d_J0_coder_7d493_14 : decode cJ0_coder_7d493 14 = .ok (.ireturn, 1) := by decide +kernel
theorem vs_d_J0_isLatin1_aae02_0 : decode cJ0_isLatin1_aae02 0 = .ok (.getstatic 38, 3) := by decide +kernel
theorem vs_d_J0_isLatin1_aae02_3 : decode cJ0_isLatin1_aae02 3 = .ok (.ifCond .eq 14, 3) := by decide +kernel
theorem vs_d_J0_isLatin1_aae02_6 : decode cJ0_isLatin1_aae02 6 = .ok (.aload_n 0, 1) := by decide +kernel
theorem vs_d_J0_isLatin1_aae02_7 : decode cJ0_isLatin1_aae02 7 = .ok (.getfield 15, 3) := by decide +kernel
theorem vs_d_J0_isLatin1_aae02_10 : decode cJ0_isLatin1_aae02 10 = .ok (.ifCond .ne 7, 3) := by decide +kernel
theorem vs_d_J0_isLatin1_aae02_13 : decode cJ0_isLatin1_aae02 13 = .ok (.iconst 1, 1) := by decide +kernel
theorem vs_d_J0_isLatin1_aae02_14 : decode cJ0_isLatin1_aae02 14 = .ok (.goto 4, 3) := by decide +kernel
theorem vs_d_J0_isLatin1_aae02_17 : decode cJ0_isLatin1_aae02 17 = .ok (.iconst 0, 1) := by decide +kernel
theorem vs_d_J0_isLatin1_aae02_18 : decode cJ0_isLatin1_aae02 18 = .ok (.ireturn, 1) := by decide +kernel
theorem vs_d_J0_charAt_5068e_0 : decode cJ0_charAt_5068e 0 = .ok (.aload_n 0, 1) := by decide +kernel
theorem vs_d_J0_charAt_5068e_1 : decode cJ0_charAt_5068e 1 = .ok (.invokevirtual 492, 3) := by decide +kernel
theorem vs_d_J0_charAt_5068e_4 : decode cJ0_charAt_5068e 4 = .ok (.ifCond .eq 12, 3) := by decide +kernel
theorem vs_d_J0_charAt_5068e_7 : decode cJ0_charAt_5068e 7 = .ok (.aload_n 0, 1) := by decide +kernel
theorem vs_d_J0_charAt_5068e_8 : decode cJ0_charAt_5068e 8 = .ok (.getfield 9, 3) := by decide +kernel
theorem vs_d_J0_charAt_5068e_11 : decode cJ0_charAt_5068e 11 = .ok (.iload_n 1, 1) := by decide +kernel
theorem vs_d_J0_charAt_5068e_12 : decode cJ0_charAt_5068e 12 = .ok (.invokestatic 495, 3) := by decide +kernel
theorem vs_d_J0_charAt_5068e_15 : decode cJ0_charAt_5068e 15 = .ok (.ireturn, 1) := by decide +kernel
theorem vs_d_J0_charAt_5068e_16 : decode cJ0_charAt_5068e 16 = .ok (.aload_n 0, 1) := by decide +kernel
theorem vs_d_J0_charAt_5068e_17 : decode cJ0_charAt_5068e 17 = .ok (.getfield 9, 3) := by decide +kernel
theorem vs_d_J0_charAt_5068e_20 : decode cJ0_charAt_5068e 20 = .ok (.iload_n 1, 1) := by decide +kernel
theorem vs_d_J0_charAt_5068e_21 : decode cJ0_charAt_5068e 21 = .ok (.invokestatic 498, 3) := by decide +kernel
theorem vs_d_J0_charAt_5068e_24 : decode cJ0_charAt_5068e 24 = .ok (.ireturn, 1) := by decide +kernel
theorem vs_d_J1_charAt_3b067_0 : decode cJ1_charAt_3b067 0 = .ok (.iload_n 1, 1) := by decide +kernel
theorem vs_d_J1_charAt_3b067_1 : decode cJ1_charAt_3b067 1 = .ok (.aload_n 0, 1) := by decide +kernel
theorem vs_d_J1_charAt_3b067_2 : decode cJ1_charAt_3b067 2 = .ok (.arraylength, 1) := by decide +kernel
theorem vs_d_J1_charAt_3b067_3 : decode cJ1_charAt_3b067 3 = .ok (.invokestatic 9, 3) := by decide +kernel
theorem vs_d_J1_charAt_3b067_6 : decode cJ1_charAt_3b067 6 = .ok (.aload_n 0, 1) := by decide +kernel
theorem vs_d_J1_charAt_3b067_7 : decode cJ1_charAt_3b067 7 = .ok (.iload_n 1, 1) := by decide +kernel
theorem vs_d_J1_charAt_3b067_8 : decode cJ1_charAt_3b067 8 = .ok (.baload, 1) := by decide +kernel
theorem vs_d_J1_charAt_3b067_9 : decode cJ1_charAt_3b067 9 = .ok (.sipush 255, 3) := by decide +kernel
theorem vs_d_J1_charAt_3b067_12 : decode cJ1_charAt_3b067 12 = .ok (.iand, 1) := by decide +kernel
theorem vs_d_J1_charAt_3b067_13 : decode cJ1_charAt_3b067 13 = .ok (.i2c, 1) := by decide +kernel
theorem vs_d_J1_charAt_3b067_14 : decode cJ1_charAt_3b067 14 = .ok (.ireturn, 1) := by decide +kernel
theorem vs_d_J0_checkIndex_df160_0 : decode cJ0_checkIndex_df160 0 = .ok (.iload_n 0, 1) := by decide +kernel
theorem vs_d_J0_checkIndex_df160_1 : decode cJ0_checkIndex_df160 1 = .ok (.iload_n 1, 1) := by decide +kernel
theorem vs_d_J0_checkIndex_df160_2 : decode cJ0_checkIndex_df160 2 = .ok (.getstatic 1053, 3) := by decide +kernel
theorem vs_d_J0_checkIndex_df160_5 : decode cJ0_checkIndex_df160 5 = .ok (.invokestatic 1059, 3) := by decide +kernel
theorem vs_d_J0_checkIndex_df160_8 : decode cJ0_checkIndex_df160 8 = .ok (.pop, 1) := by decide +kernel
theorem vs_d_J0_checkIndex_df160_9 : decode cJ0_checkIndex_df160 9 = .ok (.return_, 1) := by decide +kernel
theorem vs_d_J3_checkIndex_8e157_0 : decode cJ3_checkIndex_8e157 0 = .ok (.iload_n 0, 1) := by decide +kernel
theorem vs_d_J3_checkIndex_8e157_1 : decode cJ3_checkIndex_8e157 1 = .ok (.ifCond .lt 8, 3) := by decide +kernel
theorem vs_d_J3_checkIndex_8e157_4 : decode cJ3_checkIndex_8e157 4 = .ok (.iload_n 0, 1) := by decide +kernel
theorem vs_d_J3_checkIndex_8e157_5 : decode cJ3_checkIndex_8e157 5 = .ok (.iload_n 1, 1) := by decide +kernel
theorem vs_d_J3_checkIndex_8e157_6 : decode cJ3_checkIndex_8e157 6 = .ok (.if_icmp .lt 10, 3) := by decide +kernel
theorem vs_d_J3_checkIndex_8e157_9 : decode cJ3_checkIndex_8e157 9 = .ok (.aload_n 2, 1) := by decide +kernel
theorem vs_d_J3_checkIndex_8e157_10 : decode cJ3_checkIndex_8e157 10 = .ok (.iload_n 0, 1) := by decide +kernel
theorem vs_d_J3_checkIndex_8e157_11 : decode cJ3_checkIndex_8e157 11 = .ok (.iload_n 1, 1) := by decide +kernel
theorem vs_d_J3_checkIndex_8e157_12 : decode cJ3_checkIndex_8e157 12 = .ok (.invokestatic 95, 3) := by decide +kernel
theorem vs_d_J3_checkIndex_8e157_15 : decode cJ3_checkIndex_8e157 15 = .ok (.athrow, 1) := by decide +kernel
theorem vs_d_J3_checkIndex_8e157_16 : decode cJ3_checkIndex_8e157 16 = .ok (.iload_n 0, 1) := by decide +kernel
theorem vs_d_J3_checkIndex_8e157_17 : decode cJ3_checkIndex_8e157 17 = .ok (.ireturn, 1) := by decide +kernel
/-- a text at a: its bytes f, N of them, at t; the statics that its methods read -/
def vs_At (z0 a t N : Nat) (f : Nat → Int32) (U : State) (H : Heap) : Prop := va_O "java/lang/String" a (fun q : Nat => z0 ≤ q) U H ∧ va_OF "java/lang/String" "coder" "B" (.int 0) a (fun q : Nat => z0 ≤ q) U H ∧ va_OF "java/lang/String" "value" "[B" (.ref t) a (fun q : Nat => z0 ≤ q) U H ∧ va_T .byte t N (fun j => .int (f j)) (fun q : Nat => z0 ≤ q) U H ∧ va_Z "java/lang/String" "COMPACT_STRINGS" "Z" (.int 1) (fun q : Nat => z0 ≤ q) U H ∧ va_Zq "jdk/internal/util/Preconditions" "SIOOBE_FORMATTER" "Ljava/util/function/BiFunction;" (fun q : Nat => z0 ≤ q) U H
theorem vs_At.moved {z0 a t N : Nat} {f : Nat → Int32} {u U : State} {H : Heap} (hvm : u.vm.Alike U.vm) (h : vs_At z0 a t N f u H) : vs_At z0 a t N f U H := ⟨va_O.moved hvm h.1, va_OF.moved hvm h.2.1, va_OF.moved hvm h.2.2.1, va_T.moved hvm h.2.2.2.1, va_Z.moved hvm h.2.2.2.2.1, va_Zq.moved hvm h.2.2.2.2.2⟩
theorem vs_At.kept {z0 a t N : Nat} {f : Nat → Int32} {U : State} {H H1 : Heap} (h : vs_At z0 a t N f U H) (hq : ∀ a : Nat, a < H.size → ¬ (fun q : Nat => z0 ≤ q) a → H1[a]? = H[a]?) : vs_At z0 a t N f U H1 := ⟨h.1.kept hq, h.2.1.kept hq, h.2.2.1.kept hq, h.2.2.2.1.kept hq, h.2.2.2.2.1.kept hq, h.2.2.2.2.2.kept hq⟩
def vs_rm (k : Nat) : Room := { frames := k, cells := 0, slots := 0, locals := 40 * k }
abbrev vs_Qi (r : Int32) : Array Value → State → Outcome → State → Prop := fun _ st oc t => oc = .returned (some (.int r)) ∧ t.heap = st.heap
abbrev vs_Qv : Array Value → State → Outcome → State → Prop := fun _ st oc t => oc = .returned none ∧ t.heap = st.heap
theorem vs_bl {As : List Value} {B : State → Prop} (hB : ∀ (u U : State), u.vm.Alike U.vm → U.heap = u.heap → B u → B U) : FrameBlind (va_Pc As B) := fun a U g mk q => ⟨q.1, hB U (U.calling g mk a) (State.WarmedH.refl U).alike rfl q.2⟩
section VSC
variable {p : Program} {l : Launch} {e : Env} {R : Room} {s : State} {m : MethodId} {args : Array Value} {below : List Frame} {meth : Method} {c : Code} {H : Heap} {locs : List Loc} {cells slots : Nat} {Q : State → Prop}
variable {y : MethodName} {bytes cc : ByteArray} {maxL nL n index : Nat} {ret : Option FieldType} {rm : Room} {Pc : Array Value → State → Prop} {own : String} {As rest st0 : List Value} {pc : Nat} {ls : Array Slot} {r : Int32}
theorem vs_aft {a : Array Value} (hr : va_Run p l e R s m args below meth c H locs cells slots 0 0 (F0 m pc ls st0) rest (vs_Qi r a) (fun _ => False)) (kk : W p l e R s m args below meth c H locs cells slots Q (F0 m (pc + 3) ls (.int r :: rest))) : W p l e R s m args below meth c H locs cells slots Q (F0 m pc ls st0) := by
  intro T hT X
  obtain ⟨v, st₀, t, T', L, h0, X', hL, e1, e2, ⟨hv, hh⟩, st⟩ := hr T hT X
  cases hv
  have hnil : L = [] := List.eq_nil_iff_forall_not_mem.mpr (fun q h => hL q h)
  subst hnil
  rw [List.append_nil] at X'
  obtain ⟨t2, a1, b1⟩ := kk T' (by rw [e1, hh, h0]) X'
  exact ⟨t2, st t2 a1, b1⟩
theorem vs_aftv {a : Array Value} (hr : va_Run p l e R s m args below meth c H locs cells slots 0 0 (F0 m pc ls st0) rest (vs_Qv a) (fun _ => False)) (kk : W p l e R s m args below meth c H locs cells slots Q (F0 m (pc + 3) ls rest)) : W p l e R s m args below meth c H locs cells slots Q (F0 m pc ls st0) := by
  intro T hT X
  obtain ⟨v, st₀, t, T', L, h0, X', hL, e1, e2, ⟨hv, hh⟩, st⟩ := hr T hT X
  cases hv
  have hnil : L = [] := List.eq_nil_iff_forall_not_mem.mpr (fun q h => hL q h)
  subst hnil
  rw [List.append_nil] at X'
  obtain ⟨t2, a1, b1⟩ := kk T' (by rw [e1, hh, h0]) X'
  exact ⟨t2, st t2 a1, b1⟩
theorem vs_gS (h1 : Cond.methodLink own index y ∈ ai_TB) (h2 : Cond.static y ∈ ai_TB) (h3 : Cond.initialized y.cls ∈ ai_TB) (h4 : Cond.code y bytes maxL ret ∈ ai_TB) : GoodIn ai_TB (va_wsS own index y (Cond.code y bytes maxL ret :: ai_TB)) := ai_GI (fun w hw => by
  simp only [va_wsS, List.cons_append, List.nil_append, List.mem_cons] at hw
  rcases hw with rfl | rfl | rfl | rfl | hw
  · exact h1
  · exact h2
  · exact h3
  · exact h4
  · exact hw)
theorem vs_gV (h1 : Cond.methodLink own index y ∈ ai_TB) (h2 : Cond.instanceMethod y ∈ ai_TB) (h5 : Cond.selects y.cls y y ∈ ai_TB) (h3 : Cond.initialized y.cls ∈ ai_TB) (h4 : Cond.code y bytes maxL ret ∈ ai_TB) : GoodIn ai_TB (wsV own index y.cls y (Cond.code y bytes maxL ret :: ai_TB)) := ai_GI (fun w hw => by
  simp only [wsV, List.cons_append, List.nil_append, List.mem_cons] at hw
  rcases hw with rfl | rfl | rfl | rfl | rfl | hw
  · exact h1
  · exact h2
  · exact h5
  · exact h3
  · exact h4
  · exact hw)
end VSC
theorem vs_sh {N : Nat} (hN : N < 2 ^ 30) : Int32.ofNat N >>> ((0 : Int32) &&& 31) = nI N := by
  show nI N >>> ((0 : Int32) &&& 31) = nI N
  rw [pk_shrN (by omega) _ 0 (by decide)]
  simp
theorem vs_in {i : Int32} {N : Nat} (hi : ¬ i < 0) (hn : i < nI N) (hin : vp_in i N) : i.toNatClampNeg < N := Nat.lt_of_not_le (fun w => hin (Or.inr w))
theorem vs_rcv {z0 a : Nat} {s : State} (h : va_O "java/lang/String" a (fun q : Nat => z0 ≤ q) s s.heap) : ∃ cell : Cell, s.heap[a]? = some cell ∧ cell.vm.isStatics = false ∧ s.vm.findClass "java/lang/String" = some cell.cls := by
  obtain ⟨cell, h1, h2, h3, -⟩ := h
  exact ⟨cell, h1, h2, h3⟩
section VSM
variable {l : Launch} {z0 a t N : Nat} {f : Nat → Int32}
theorem vs_ck3_n {i n : Int32} (hi : ¬ i < 0) (hn : i < n) : Met l yJ3_checkIndex_8e157 (Cond.code yJ3_checkIndex_8e157 cJ3_checkIndex_8e157 3 (some .int) :: ai_TB) (vs_rm 0) (va_Pc [.int i, .int n, .null] (fun _ => True)) (vs_Qi i) 0 0 (fun _ => False) := by
  refine Met.ofW (cc := cJ3_checkIndex_8e157) (maxL := 3) (ret := (some .int)) (by decide) rfl ?_
  intro p e s m args below meth c s₁ B hml hv
  obtain ⟨rfl, -⟩ := hv
  have hx := B.exec
  have hb := B.bytes
  have hr := B.returns
  have hts0 := atoms_spec (ws := Cond.code yJ3_checkIndex_8e157 cJ3_checkIndex_8e157 3 (some .int) :: ai_TB) B.pre
  have hts : ∀ w ∈ ai_TB, w.before _ s = true := fun w hw => hts0 w (List.mem_cons_of_mem _ hw)
  have hown : s.vm.findClass RJ3 = some m.cls := findClass_of_methodNamed B.named
  have hlocks := B.notSynchronized
  have hl := lv_entry ([.int i, .int n, .null]) (n := 3) (Nat.le_of_ble_eq_true rfl)
  rw [lg_entry_eq]
  generalize (lg_sl ([.int i, .int n, .null]) ++ List.replicate (3 - (lg_sl ([.int i, .int n, .null])).length) Slot.unset).toArray = ls at hl ⊢
  have hl : lv_has ls 3 [(0, .int i), (1, .int n), (2, .null)] := hl
  have hC : CallFix p m c cJ3_checkIndex_8e157 3 s ([.int i, .int n, .null] : List Value).toArray ai_TB RJ3 := ⟨hx, hb, hml, hown, hts⟩
  refine lv_iload_n hx hb vs_d_J3_checkIndex_8e157_0 rfl (lv_at hl 0 rfl) ?_
  refine lv_if_lt (tgt := 9) hx hb vs_d_J3_checkIndex_8e157_1 rfl (fun w => absurd w hi) (fun _ => ?_)
  refine lv_iload_n hx hb vs_d_J3_checkIndex_8e157_4 rfl (lv_at hl 0 rfl) ?_
  refine lv_iload_n hx hb vs_d_J3_checkIndex_8e157_5 rfl (lv_at hl 1 rfl) ?_
  refine lv_icmp_lt (tgt := 16) hx hb vs_d_J3_checkIndex_8e157_6 rfl (fun _ => ?_) (fun w => absurd hn w)
  refine lv_iload_n hx hb vs_d_J3_checkIndex_8e157_16 rfl (lv_at hl 0 rfl) ?_
  exact W.iret hx hb hr (fun t ht hW => ⟨rfl, ht⟩) (fun _ h => by cases h) vs_d_J3_checkIndex_8e157_17
theorem vs_ck3_r {i n : Int32} {q : Nat} (hi : ¬ i < 0) (hn : i < n) : Met l yJ3_checkIndex_8e157 (Cond.code yJ3_checkIndex_8e157 cJ3_checkIndex_8e157 3 (some .int) :: ai_TB) (vs_rm 0) (va_Pc [.int i, .int n, .ref q] (fun _ => True)) (vs_Qi i) 0 0 (fun _ => False) := by
  refine Met.ofW (cc := cJ3_checkIndex_8e157) (maxL := 3) (ret := (some .int)) (by decide) rfl ?_
  intro p e s m args below meth c s₁ B hml hv
  obtain ⟨rfl, -⟩ := hv
  have hx := B.exec
  have hb := B.bytes
  have hr := B.returns
  have hts0 := atoms_spec (ws := Cond.code yJ3_checkIndex_8e157 cJ3_checkIndex_8e157 3 (some .int) :: ai_TB) B.pre
  have hts : ∀ w ∈ ai_TB, w.before _ s = true := fun w hw => hts0 w (List.mem_cons_of_mem _ hw)
  have hown : s.vm.findClass RJ3 = some m.cls := findClass_of_methodNamed B.named
  have hlocks := B.notSynchronized
  have hl := lv_entry ([.int i, .int n, .ref q]) (n := 3) (Nat.le_of_ble_eq_true rfl)
  rw [lg_entry_eq]
  generalize (lg_sl ([.int i, .int n, .ref q]) ++ List.replicate (3 - (lg_sl ([.int i, .int n, .ref q])).length) Slot.unset).toArray = ls at hl ⊢
  have hl : lv_has ls 3 [(0, .int i), (1, .int n), (2, .ref q)] := hl
  have hC : CallFix p m c cJ3_checkIndex_8e157 3 s ([.int i, .int n, .ref q] : List Value).toArray ai_TB RJ3 := ⟨hx, hb, hml, hown, hts⟩
  refine lv_iload_n hx hb vs_d_J3_checkIndex_8e157_0 rfl (lv_at hl 0 rfl) ?_
  refine lv_if_lt (tgt := 9) hx hb vs_d_J3_checkIndex_8e157_1 rfl (fun w => absurd w hi) (fun _ => ?_)
  refine lv_iload_n hx hb vs_d_J3_checkIndex_8e157_4 rfl (lv_at hl 0 rfl) ?_
  refine lv_iload_n hx hb vs_d_J3_checkIndex_8e157_5 rfl (lv_at hl 1 rfl) ?_
  refine lv_icmp_lt (tgt := 16) hx hb vs_d_J3_checkIndex_8e157_6 rfl (fun _ => ?_) (fun w => absurd hn w)
  refine lv_iload_n hx hb vs_d_J3_checkIndex_8e157_16 rfl (lv_at hl 0 rfl) ?_
  exact W.iret hx hb hr (fun t ht hW => ⟨rfl, ht⟩) (fun _ h => by cases h) vs_d_J3_checkIndex_8e157_17
theorem vs_chk {i n : Int32} (hi : ¬ i < 0) (hn : i < n) : Met l yJ0_checkIndex_df160 (Cond.code yJ0_checkIndex_df160 cJ0_checkIndex_df160 2 none :: ai_TB) (vs_rm 1) (va_Pc [.int i, .int n] (fun U => va_Zq "jdk/internal/util/Preconditions" "SIOOBE_FORMATTER" "Ljava/util/function/BiFunction;" (fun q : Nat => z0 ≤ q) U U.heap)) vs_Qv 0 0 (fun _ => False) := by
  refine Met.ofW (cc := cJ0_checkIndex_df160) (maxL := 2) (ret := none) (by decide) rfl ?_
  intro p e s m args below meth c s₁ B hml hv
  obtain ⟨rfl, hZ⟩ := hv
  have hx := B.exec
  have hb := B.bytes
  have hr := B.returns
  have hts0 := atoms_spec (ws := Cond.code yJ0_checkIndex_df160 cJ0_checkIndex_df160 2 none :: ai_TB) B.pre
  have hts : ∀ w ∈ ai_TB, w.before _ s = true := fun w hw => hts0 w (List.mem_cons_of_mem _ hw)
  have hown : s.vm.findClass RJ0 = some m.cls := findClass_of_methodNamed B.named
  have hlocks := B.notSynchronized
  have hS : va_S (fun q : Nat => z0 ≤ q) s.heap s.heap [] := va_S.rf
  have hl := lv_entry ([.int i, .int n]) (n := 2) (Nat.le_of_ble_eq_true rfl)
  rw [lg_entry_eq]
  generalize (lg_sl ([.int i, .int n]) ++ List.replicate (2 - (lg_sl ([.int i, .int n])).length) Slot.unset).toArray = ls at hl ⊢
  have hl : lv_has ls 2 [(0, .int i), (1, .int n)] := hl
  have hC : CallFix p m c cJ0_checkIndex_df160 2 s ([.int i, .int n] : List Value).toArray ai_TB RJ0 := ⟨hx, hb, hml, hown, hts⟩
  refine lv_iload_n hx hb vs_d_J0_checkIndex_df160_0 rfl (lv_at hl 0 rfl) ?_
  refine lv_iload_n hx hb vs_d_J0_checkIndex_df160_1 rfl (lv_at hl 1 rfl) ?_
  rcases hZ with hZ | ⟨q, hZ⟩
  · refine va_gets hx hb hZ hS hown (hts _ vs_w_f_q) (fun _ h9 => h9) vs_d_J0_checkIndex_df160_2 ?_
    refine vs_aft (va_runS (rest := []) (As := [.int i, .int n, .null]) (g := F0 m _ ls _) hC (vs_ck3_n hi hn) (va_cwS (mc := 0) (ms := 0) 3 hts (vs_gS vs_w_m_ck3 vs_w_s_ck3 vs_w_n_RJ3 vs_w_c_ck3) rfl rfl rfl ⟨by decide, by decide, by decide⟩ ⟨by decide, by decide⟩) ⟨vs_bl (fun _ _ _ _ _ => trivial), fun U _ _ => ⟨rfl, trivial⟩⟩ rfl rfl hl.1 rfl (Nat.le_of_ble_eq_true rfl) vs_d_J0_checkIndex_df160_5 ⟨by decide, by decide⟩) ?_
    refine lv_pop hx hb vs_d_J0_checkIndex_df160_8 rfl ?_
    exact W.vret hx hb hr (fun t ht hW => ⟨rfl, ht⟩) (fun _ h => by cases h) vs_d_J0_checkIndex_df160_9
  · refine va_gets hx hb hZ hS hown (hts _ vs_w_f_q) (fun _ h9 => h9) vs_d_J0_checkIndex_df160_2 ?_
    refine vs_aft (va_runS (rest := []) (As := [.int i, .int n, .ref q]) (g := F0 m _ ls _) hC (vs_ck3_r hi hn) (va_cwS (mc := 0) (ms := 0) 3 hts (vs_gS vs_w_m_ck3 vs_w_s_ck3 vs_w_n_RJ3 vs_w_c_ck3) rfl rfl rfl ⟨by decide, by decide, by decide⟩ ⟨by decide, by decide⟩) ⟨vs_bl (fun _ _ _ _ _ => trivial), fun U _ _ => ⟨rfl, trivial⟩⟩ rfl rfl hl.1 rfl (Nat.le_of_ble_eq_true rfl) vs_d_J0_checkIndex_df160_5 ⟨by decide, by decide⟩) ?_
    refine lv_pop hx hb vs_d_J0_checkIndex_df160_8 rfl ?_
    exact W.vret hx hb hr (fun t ht hW => ⟨rfl, ht⟩) (fun _ h => by cases h) vs_d_J0_checkIndex_df160_9
theorem vs_ch1 {i : Int32} (hi : ¬ i < 0) (hn : i < nI N) (hin : vp_in i N) (hf : ∀ j, j < N → f j = (f j &&& 255) ∧ ((f j &&& 255).toUInt32 % 65536).toInt32 = f j ∧ narrow .char (.int (f j)) = .int (f j)) : Met l yJ1_charAt_3b067 (Cond.code yJ1_charAt_3b067 cJ1_charAt_3b067 2 (some .char) :: ai_TB) (vs_rm 2) (va_Pc [.ref t, .int i] (fun U => va_T .byte t N (fun j => .int (f j)) (fun q : Nat => z0 ≤ q) U U.heap ∧ va_Zq "jdk/internal/util/Preconditions" "SIOOBE_FORMATTER" "Ljava/util/function/BiFunction;" (fun q : Nat => z0 ≤ q) U U.heap)) (vs_Qi (f i.toNatClampNeg)) 0 0 (fun _ => False) := by
  refine Met.ofW (cc := cJ1_charAt_3b067) (maxL := 2) (ret := (some .char)) (by decide) rfl ?_
  intro p e s m args below meth c s₁ B hml hv
  obtain ⟨rfl, hT, hZ⟩ := hv
  have hx := B.exec
  have hb := B.bytes
  have hr := B.returns
  have hts0 := atoms_spec (ws := Cond.code yJ1_charAt_3b067 cJ1_charAt_3b067 2 (some .char) :: ai_TB) B.pre
  have hts : ∀ w ∈ ai_TB, w.before _ s = true := fun w hw => hts0 w (List.mem_cons_of_mem _ hw)
  have hown : s.vm.findClass RJ1 = some m.cls := findClass_of_methodNamed B.named
  have hlocks := B.notSynchronized
  have hS : va_S (fun q : Nat => z0 ≤ q) s.heap s.heap [] := va_S.rf
  have hl := lv_entry ([.ref t, .int i]) (n := 2) (Nat.le_of_ble_eq_true rfl)
  rw [lg_entry_eq]
  generalize (lg_sl ([.ref t, .int i]) ++ List.replicate (2 - (lg_sl ([.ref t, .int i])).length) Slot.unset).toArray = ls at hl ⊢
  have hl : lv_has ls 2 [(0, .ref t), (1, .int i)] := hl
  have hC : CallFix p m c cJ1_charAt_3b067 2 s ([.ref t, .int i] : List Value).toArray ai_TB RJ1 := ⟨hx, hb, hml, hown, hts⟩
  refine lv_iload_n hx hb vs_d_J1_charAt_3b067_0 rfl (lv_at hl 1 rfl) ?_
  refine lv_aload_n hx hb vs_d_J1_charAt_3b067_1 rfl (lv_at hl 0 rfl) ?_
  refine va_tlen hx hb hT hS rfl vs_d_J1_charAt_3b067_2 ?_
  refine vs_aftv (va_runS (rest := []) (As := [.int i, .int (nI N)]) (g := F0 m _ ls _) hC (vs_chk (z0 := z0) hi hn) (va_cwS (mc := 0) (ms := 0) 2 hts (vs_gS vs_w_m_chk vs_w_s_chk vs_w_n_RJ0 vs_w_c_chk) rfl rfl rfl ⟨by decide, by decide, by decide⟩ ⟨by decide, by decide⟩) ⟨vs_bl (fun u U h1 h2 h3 => by rw [h2]; exact va_Zq.moved h1 h3), fun U h1 h2 => ⟨rfl, by dsimp only; rw [h1]; exact va_Zq.moved h2.alike hZ⟩⟩ rfl rfl hl.1 rfl (Nat.le_of_ble_eq_true rfl) vs_d_J1_charAt_3b067_3 ⟨by decide, by decide⟩) ?_
  refine lv_aload_n hx hb vs_d_J1_charAt_3b067_6 rfl (lv_at hl 0 rfl) ?_
  refine lv_iload_n hx hb vs_d_J1_charAt_3b067_7 rfl (lv_at hl 1 rfl) ?_
  refine va_tb hx hb hT hS hin rfl vs_d_J1_charAt_3b067_8 ?_
  refine lv_sipush (v := 255) hx hb vs_d_J1_charAt_3b067_9 (by decide) ?_
  refine lv_iand hx hb vs_d_J1_charAt_3b067_12 ?_
  obtain ⟨e1, e2, e3⟩ := hf _ (vs_in hi hn hin)
  refine lv_i2c (v := f i.toNatClampNeg) hx hb vs_d_J1_charAt_3b067_13 e2 ?_
  exact W.zret hx hb hr e3 (fun t ht hW => ⟨rfl, ht⟩) (fun _ h => by cases h) vs_d_J1_charAt_3b067_14
theorem vs_cod  : Met l yJ0_coder_7d493 (Cond.code yJ0_coder_7d493 cJ0_coder_7d493 1 (some .byte) :: ai_TB) (vs_rm 0) (va_Pc [.ref a] (fun U => vs_At z0 a t N f U U.heap)) (vs_Qi 0) 0 0 (fun _ => False) := by
  refine Met.ofW (cc := cJ0_coder_7d493) (maxL := 1) (ret := (some .byte)) (by decide) rfl ?_
  intro p e s m args below meth c s₁ B hml hv
  obtain ⟨rfl, hO, hCo, hVa, hT, hZ, hQ⟩ := hv
  have hx := B.exec
  have hb := B.bytes
  have hr := B.returns
  have hts0 := atoms_spec (ws := Cond.code yJ0_coder_7d493 cJ0_coder_7d493 1 (some .byte) :: ai_TB) B.pre
  have hts : ∀ w ∈ ai_TB, w.before _ s = true := fun w hw => hts0 w (List.mem_cons_of_mem _ hw)
  have hown : s.vm.findClass RJ0 = some m.cls := findClass_of_methodNamed B.named
  have hlocks := B.notSynchronized
  have hS : va_S (fun q : Nat => z0 ≤ q) s.heap s.heap [] := va_S.rf
  have hl := lv_entry ([.ref a]) (n := 1) (Nat.le_of_ble_eq_true rfl)
  rw [lg_entry_eq]
  generalize (lg_sl ([.ref a]) ++ List.replicate (1 - (lg_sl ([.ref a])).length) Slot.unset).toArray = ls at hl ⊢
  have hl : lv_has ls 1 [(0, .ref a)] := hl
  have hC : CallFix p m c cJ0_coder_7d493 1 s ([.ref a] : List Value).toArray ai_TB RJ0 := ⟨hx, hb, hml, hown, hts⟩
  refine va_gets hx hb hZ hS hown (hts _ vs_w_f_z) (fun _ h9 => h9) vs_d_J0_coder_7d493_0 ?_
  refine lv_if_eq (tgt := 13) hx hb vs_d_J0_coder_7d493_3 rfl (fun w => absurd w (by decide)) (fun _ => ?_)
  refine lv_aload_n hx hb vs_d_J0_coder_7d493_6 rfl (lv_at hl 0 rfl) ?_
  refine vk_getf hx hb hCo hS hown (hts _ vs_w_f_c) (fun _ h9 => h9) vs_d_J0_coder_7d493_7 ?_
  refine lv_goto (tgt := 14) hx hb vs_d_J0_coder_7d493_10 rfl ?_
  exact W.zret hx hb hr rfl (fun t ht hW => ⟨rfl, ht⟩) (fun _ h => by cases h) vs_d_J0_coder_7d493_14
theorem vs_lat  : Met l yJ0_isLatin1_aae02 (Cond.code yJ0_isLatin1_aae02 cJ0_isLatin1_aae02 1 (some .boolean) :: ai_TB) (vs_rm 0) (va_Pc [.ref a] (fun U => vs_At z0 a t N f U U.heap)) (vs_Qi 1) 0 0 (fun _ => False) := by
  refine Met.ofW (cc := cJ0_isLatin1_aae02) (maxL := 1) (ret := (some .boolean)) (by decide) rfl ?_
  intro p e s m args below meth c s₁ B hml hv
  obtain ⟨rfl, hO, hCo, hVa, hT, hZ, hQ⟩ := hv
  have hx := B.exec
  have hb := B.bytes
  have hr := B.returns
  have hts0 := atoms_spec (ws := Cond.code yJ0_isLatin1_aae02 cJ0_isLatin1_aae02 1 (some .boolean) :: ai_TB) B.pre
  have hts : ∀ w ∈ ai_TB, w.before _ s = true := fun w hw => hts0 w (List.mem_cons_of_mem _ hw)
  have hown : s.vm.findClass RJ0 = some m.cls := findClass_of_methodNamed B.named
  have hlocks := B.notSynchronized
  have hS : va_S (fun q : Nat => z0 ≤ q) s.heap s.heap [] := va_S.rf
  have hl := lv_entry ([.ref a]) (n := 1) (Nat.le_of_ble_eq_true rfl)
  rw [lg_entry_eq]
  generalize (lg_sl ([.ref a]) ++ List.replicate (1 - (lg_sl ([.ref a])).length) Slot.unset).toArray = ls at hl ⊢
  have hl : lv_has ls 1 [(0, .ref a)] := hl
  have hC : CallFix p m c cJ0_isLatin1_aae02 1 s ([.ref a] : List Value).toArray ai_TB RJ0 := ⟨hx, hb, hml, hown, hts⟩
  refine va_gets hx hb hZ hS hown (hts _ vs_w_f_z) (fun _ h9 => h9) vs_d_J0_isLatin1_aae02_0 ?_
  refine lv_if_eq (tgt := 17) hx hb vs_d_J0_isLatin1_aae02_3 rfl (fun w => absurd w (by decide)) (fun _ => ?_)
  refine lv_aload_n hx hb vs_d_J0_isLatin1_aae02_6 rfl (lv_at hl 0 rfl) ?_
  refine vk_getf hx hb hCo hS hown (hts _ vs_w_f_c) (fun _ h9 => h9) vs_d_J0_isLatin1_aae02_7 ?_
  refine lv_if_ne (tgt := 17) hx hb vs_d_J0_isLatin1_aae02_10 rfl (fun w => absurd rfl w) (fun _ => ?_)
  refine lv_iconst (v := 1) hx hb vs_d_J0_isLatin1_aae02_13 (by decide) ?_
  refine lv_goto (tgt := 18) hx hb vs_d_J0_isLatin1_aae02_14 rfl ?_
  exact W.zret hx hb hr rfl (fun t ht hW => ⟨rfl, ht⟩) (fun _ h => by cases h) vs_d_J0_isLatin1_aae02_18
theorem vs_len (hN : N < 2 ^ 30) : Met l yJ0_length_8abf5 (Cond.code yJ0_length_8abf5 cJ0_length_8abf5 1 (some .int) :: ai_TB) (vs_rm 1) (va_Pc [.ref a] (fun U => vs_At z0 a t N f U U.heap)) (vs_Qi (nI N)) 0 0 (fun _ => False) := by
  refine Met.ofW (cc := cJ0_length_8abf5) (maxL := 1) (ret := (some .int)) (by decide) rfl ?_
  intro p e s m args below meth c s₁ B hml hv
  obtain ⟨rfl, hAll⟩ := hv
  obtain ⟨hO, hCo, hVa, hT, hZ, hQ⟩ := id hAll
  have hx := B.exec
  have hb := B.bytes
  have hr := B.returns
  have hts0 := atoms_spec (ws := Cond.code yJ0_length_8abf5 cJ0_length_8abf5 1 (some .int) :: ai_TB) B.pre
  have hts : ∀ w ∈ ai_TB, w.before _ s = true := fun w hw => hts0 w (List.mem_cons_of_mem _ hw)
  have hown : s.vm.findClass RJ0 = some m.cls := findClass_of_methodNamed B.named
  have hlocks := B.notSynchronized
  have hS : va_S (fun q : Nat => z0 ≤ q) s.heap s.heap [] := va_S.rf
  have hl := lv_entry ([.ref a]) (n := 1) (Nat.le_of_ble_eq_true rfl)
  rw [lg_entry_eq]
  generalize (lg_sl ([.ref a]) ++ List.replicate (1 - (lg_sl ([.ref a])).length) Slot.unset).toArray = ls at hl ⊢
  have hl : lv_has ls 1 [(0, .ref a)] := hl
  have hC : CallFix p m c cJ0_length_8abf5 1 s ([.ref a] : List Value).toArray ai_TB RJ0 := ⟨hx, hb, hml, hown, hts⟩
  refine lv_aload_n hx hb vs_d_J0_length_8abf5_0 rfl (lv_at hl 0 rfl) ?_
  refine vk_getf hx hb hVa hS hown (hts _ vs_w_f_v) (fun _ h9 => h9) vs_d_J0_length_8abf5_1 ?_
  refine va_tlen hx hb hT hS rfl vs_d_J0_length_8abf5_4 ?_
  refine lv_aload_n hx hb vs_d_J0_length_8abf5_5 rfl (lv_at hl 0 rfl) ?_
  refine vs_aft (va_runV (rest := [.int (Int32.ofNat N)]) (As := []) (b := a) (g := F0 m _ ls _) hC (vs_cod (z0 := z0) (a := a) (t := t) (N := N) (f := f)) (cwV (mc := 0) (ms := 0) 0 hts (vs_gV vs_w_m_cod vs_w_i_cod vs_w_e_cod vs_w_n_RJ0 vs_w_c_cod) rfl rfl rfl ⟨rfl, by decide, by decide, by decide⟩ ⟨by decide, by decide⟩) ⟨vs_bl (fun u U h1 h2 h3 => by rw [h2]; exact vs_At.moved h1 h3), vs_rcv hO, fun U h1 h2 => ⟨rfl, by dsimp only; rw [h1]; exact vs_At.moved h2.alike hAll⟩⟩ rfl rfl hl.1 rfl (Nat.le_of_ble_eq_true rfl) vs_d_J0_length_8abf5_6 ⟨by decide, by decide⟩) ?_
  refine lv_ishr hx hb vs_d_J0_length_8abf5_9 ?_
  rw [show Int32.ofNat N >>> ((0 : Int32) &&& 31) = nI N from vs_sh hN]
  exact W.iret hx hb hr (fun t ht hW => ⟨rfl, ht⟩) (fun _ h => by cases h) vs_d_J0_length_8abf5_10
theorem vs_chr {i : Int32} (hi : ¬ i < 0) (hn : i < nI N) (hin : vp_in i N) (hf : ∀ j, j < N → f j = (f j &&& 255) ∧ ((f j &&& 255).toUInt32 % 65536).toInt32 = f j ∧ narrow .char (.int (f j)) = .int (f j)) : Met l yJ0_charAt_5068e (Cond.code yJ0_charAt_5068e cJ0_charAt_5068e 2 (some .char) :: ai_TB) (vs_rm 3) (va_Pc [.ref a, .int i] (fun U => vs_At z0 a t N f U U.heap)) (vs_Qi (f i.toNatClampNeg)) 0 0 (fun _ => False) := by
  refine Met.ofW (cc := cJ0_charAt_5068e) (maxL := 2) (ret := (some .char)) (by decide) rfl ?_
  intro p e s m args below meth c s₁ B hml hv
  obtain ⟨rfl, hAll⟩ := hv
  obtain ⟨hO, hCo, hVa, hT, hZ, hQ⟩ := id hAll
  have hx := B.exec
  have hb := B.bytes
  have hr := B.returns
  have hts0 := atoms_spec (ws := Cond.code yJ0_charAt_5068e cJ0_charAt_5068e 2 (some .char) :: ai_TB) B.pre
  have hts : ∀ w ∈ ai_TB, w.before _ s = true := fun w hw => hts0 w (List.mem_cons_of_mem _ hw)
  have hown : s.vm.findClass RJ0 = some m.cls := findClass_of_methodNamed B.named
  have hlocks := B.notSynchronized
  have hS : va_S (fun q : Nat => z0 ≤ q) s.heap s.heap [] := va_S.rf
  have hl := lv_entry ([.ref a, .int i]) (n := 2) (Nat.le_of_ble_eq_true rfl)
  rw [lg_entry_eq]
  generalize (lg_sl ([.ref a, .int i]) ++ List.replicate (2 - (lg_sl ([.ref a, .int i])).length) Slot.unset).toArray = ls at hl ⊢
  have hl : lv_has ls 2 [(0, .ref a), (1, .int i)] := hl
  have hC : CallFix p m c cJ0_charAt_5068e 2 s ([.ref a, .int i] : List Value).toArray ai_TB RJ0 := ⟨hx, hb, hml, hown, hts⟩
  refine lv_aload_n hx hb vs_d_J0_charAt_5068e_0 rfl (lv_at hl 0 rfl) ?_
  refine vs_aft (va_runV (rest := []) (As := []) (b := a) (g := F0 m _ ls _) hC (vs_lat (z0 := z0) (a := a) (t := t) (N := N) (f := f)) (cwV (mc := 0) (ms := 0) 0 hts (vs_gV vs_w_m_lat vs_w_i_lat vs_w_e_lat vs_w_n_RJ0 vs_w_c_lat) rfl rfl rfl ⟨rfl, by decide, by decide, by decide⟩ ⟨by decide, by decide⟩) ⟨vs_bl (fun u U h1 h2 h3 => by rw [h2]; exact vs_At.moved h1 h3), vs_rcv hO, fun U h1 h2 => ⟨rfl, by dsimp only; rw [h1]; exact vs_At.moved h2.alike hAll⟩⟩ rfl rfl hl.1 rfl (Nat.le_of_ble_eq_true rfl) vs_d_J0_charAt_5068e_1 ⟨by decide, by decide⟩) ?_
  refine lv_if_eq (tgt := 16) hx hb vs_d_J0_charAt_5068e_4 rfl (fun w => absurd w (by decide)) (fun _ => ?_)
  refine lv_aload_n hx hb vs_d_J0_charAt_5068e_7 rfl (lv_at hl 0 rfl) ?_
  refine vk_getf hx hb hVa hS hown (hts _ vs_w_f_v) (fun _ h9 => h9) vs_d_J0_charAt_5068e_8 ?_
  refine lv_iload_n hx hb vs_d_J0_charAt_5068e_11 rfl (lv_at hl 1 rfl) ?_
  refine vs_aft (va_runS (rest := []) (As := [.ref t, .int i]) (g := F0 m _ ls _) hC (vs_ch1 (z0 := z0) hi hn hin hf) (va_cwS (mc := 0) (ms := 0) 2 hts (vs_gS vs_w_m_ch1 vs_w_s_ch1 vs_w_n_RJ1 vs_w_c_ch1) rfl rfl rfl ⟨by decide, by decide, by decide⟩ ⟨by decide, by decide⟩) ⟨vs_bl (fun u U h1 h2 h3 => by rw [h2]; exact ⟨va_T.moved h1 h3.1, va_Zq.moved h1 h3.2⟩), fun U h1 h2 => ⟨rfl, by dsimp only; rw [h1]; exact ⟨va_T.moved h2.alike hT, va_Zq.moved h2.alike hQ⟩⟩⟩ rfl rfl hl.1 rfl (Nat.le_of_ble_eq_true rfl) vs_d_J0_charAt_5068e_12 ⟨by decide, by decide⟩) ?_
  exact W.zret hx hb hr (hf _ (vs_in hi hn hin)).2.2 (fun t ht hW => ⟨rfl, ht⟩) (fun _ h => by cases h) vs_d_J0_charAt_5068e_15
end VSM
theorem vs_rcvH {z0 a : Nat} {s : State} {H : Heap} (h : va_O "java/lang/String" a (fun q : Nat => z0 ≤ q) s H) : ∃ cell : Cell, H[a]? = some cell ∧ cell.vm.isStatics = false ∧ s.vm.findClass "java/lang/String" = some cell.cls := by
  obtain ⟨cell, h1, h2, h3, -⟩ := h
  exact ⟨cell, h1, h2, h3⟩
