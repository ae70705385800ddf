/-! what the law comes to on the script: 0 -/
noncomputable def fl_o : Option ai_O := ei_rn an_ms an_lk fl_X 35 (ei_ev an_ms an_lk fl_X 35 ec_tb 2000 60) an_law ec_law 2000 (0, [(0, .ref 1000000)], [], [], true, 0, 0)
set_option maxRecDepth 1000000 in
theorem fl_ran : ei_z fl_o = true := by decide +kernel
theorem fl_pure : ∃ (n nc ns : Nat) (h' : ai_H) (ex' : Bool), nc ≤ 600000 ∧ ns ≤ 7000000 ∧ ai_Rn an_ms an_lk (fl_xs.length, fun j => fl_xs.getD j 0) 35 (ai_Ev an_ms an_lk (fl_xs.length, fun j => fl_xs.getD j 0) 35 60) an_law n (0, [(0, .ref 1000000)], [], [], true, 0, 0) (.inl (some (.int 0), h', ex', nc, ns)) := by
  obtain ⟨h', ex', nc, ns, e, h1, h2⟩ := ei_z_ok fl_ran
  exact ⟨2000, nc, ns, h', ex', h1, h2, ei_rn_ok (ei_ev_ok (ei_td_ok ed_tb) 60) (ei_tk_map ed_law) 2000 _ _ e⟩
