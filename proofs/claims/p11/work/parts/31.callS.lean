/-! a call that leaves it open, as it was, whether the size is known -/
theorem go_callS {X : Nat × (Nat → Int32)} {d : Nat} {M : ai_M} {o : ai_O} {fr : ai_F} {i : Instr} {tg : List Nat} (h1 : ai_as M.co fr.1 = some (i, tg)) {q : Nat} {As rest : List Value} {M1 : ai_M} {v : Option Value} {h' : ai_H} {nc' ns' : Nat} (hca : ai_ca (an_lk M.cn) i fr.2.2.1 fr.2.2.2.1 = some (q, As, rest)) (hq0 : q ≠ 0) (hM1 : an_ms[q]? = some M1) (hrc : ai_rc i As fr.2.2.2.1 M1.cn) (hni : ai_ni i (.inl (v, h', fr.2.2.2.2.1, nc', ns'))) (hcl : ai_Ev an_ms an_lk X 35 d q As fr.2.2.2.1 fr.2.2.2.2.1 (.inl (v, h', fr.2.2.2.2.1, nc', ns'))) (k : ag_Go X d M (fr.1 + 3, fr.2.1, v.toList ++ rest, h', fr.2.2.2.2.1, fr.2.2.2.2.2.1 + nc', fr.2.2.2.2.2.2 + ns') o) : ag_Go X d M fr o := by
  refine go_call h1 hca hq0 hM1 hrc hni hcl ?_
  obtain ⟨pc, lv, st, h, ex, nc, ns⟩ := fr
  simp only [ai_af, Bool.and_self]
  exact k
