/-! A RUN OF THE INTERPRETER IS A RUN OF THE MACHINE -/
/-- what a run says of counts and lengths -/
def ai_pg (fr : ai_F) (o : ai_O) : Prop := match o with
  | .inl (_, h', ex', nc', _) => ex' = true → fr.2.2.2.2.1 = true ∧ h'.length + fr.2.2.2.2.2.1 = fr.2.2.2.1.length + nc'
  | .inr _ => True
theorem ai_Rn_pure {ms : List ai_M} {lk : Nat → ai_L} {X : Nat × (Nat → Int32)} {NS : Nat} {M : ai_M} {cl : Nat → List Value → ai_H → Bool → ai_O → Prop} (hcl : ∀ q As h ex o1, cl q As h ex o1 → ai_pf h ex o1) : ∀ (n : Nat) (fr : ai_F) (o : ai_O), ai_Rn ms lk X NS cl M n fr o → fr.2.2.2.2.2.1 ≤ ai_oc o ∧ fr.2.2.2.2.2.2 ≤ ai_os o ∧ ai_pg fr o
  | 0, fr, o, h => absurd h (fun h => h)
  | n + 1, fr, o, h => by
    obtain ⟨i, tg, -, h⟩ := h
    rcases h with ⟨fr', h1, h2⟩ | h1 | h1 | ⟨q, As, rest, o1, M1, h1, hq0, h3, h4, h5, h6, h7⟩
    · obtain ⟨g1, g2, g3⟩ := ai_Rn_pure hcl n fr' o h2
      obtain ⟨m1, m2⟩ := ai_st_mono h1
      refine ⟨Nat.le_trans m1 g1, Nat.le_trans m2 g2, ?_⟩
      have hl := ai_st_len h1
      cases o with
      | inr x => trivial
      | inl x =>
        obtain ⟨v, h', ex', nc', ns'⟩ := x
        intro he
        obtain ⟨k1, k2⟩ := g3 he
        obtain ⟨k3, k4⟩ := hl k1
        exact ⟨k3, by omega⟩
    · obtain ⟨pc, lv, st, h0, ex, nc, ns⟩ := fr
      simp only [ai_rt] at h1
      split at h1
      · cases h1
        exact ⟨Nat.le_refl _, Nat.le_refl _, fun q => ⟨q, rfl⟩⟩
      · split at h1
        · cases h1
          exact ⟨Nat.le_refl _, Nat.le_refl _, fun q => ⟨q, rfl⟩⟩
        · cases h1
      · cases h1
        exact ⟨Nat.le_refl _, Nat.le_refl _, fun q => ⟨q, rfl⟩⟩
      · cases h1
    · obtain ⟨pc, lv, st, h0, ex, nc, ns⟩ := fr
      simp only [ai_th] at h1
      split at h1
      · split at h1
        · split at h1
          · cases h1
            exact ⟨Nat.le_succ _, Nat.le_add_right _ _, trivial⟩
          · cases h1
        · cases h1
      · cases h1
    · obtain ⟨pc, lv, st, h0, ex, nc, ns⟩ := fr
      have hp := hcl _ _ _ _ _ h6
      cases o1 with
      | inl x =>
        obtain ⟨v, h', ex', nc', ns'⟩ := x
        obtain ⟨g1, g2, g3⟩ := ai_Rn_pure hcl n _ o h7
        simp only [ai_af] at g1 g2
        refine ⟨by simp only; omega, by simp only; omega, ?_⟩
        cases o with
        | inr y => trivial
        | inl y =>
          obtain ⟨v2, h2, ex2, nc2, ns2⟩ := y
          intro he
          obtain ⟨k1, k2⟩ := g3 he
          simp only [ai_af, Bool.and_eq_true] at k1 k2
          obtain ⟨k3, k4⟩ := hp k1.2
          simp only at k4 ⊢
          exact ⟨k1.1, by omega⟩
      | inr x =>
        obtain ⟨E, h', nc', ns'⟩ := x
        rcases h7 with ⟨-, h7⟩ | ⟨st9, en9, hp9, ix9, -, -, -, -, h7⟩
        · subst h7
          exact ⟨Nat.le_add_right _ _, Nat.le_add_right _ _, trivial⟩
        · subst h7
          exact ⟨Nat.le_add_right _ _, Nat.le_add_right _ _, fun q => by cases q⟩
section AIX
variable {p : Program} {l : Launch} {e : Env} {R : Room} {s : State} {m : MethodId} {args : Array Value} {below : List Frame} {meth : Method} {c : Code} {D : va_G} {ad : Nat → Nat} {dA : Nat → ClassId} {z0 : Nat} {Hb : Heap} {n0 : Nat}
variable {ms : List ai_M} {lk : Nat → ai_L} {on : Nat → String} {X : Nat × (Nat → Int32)} {NS : Nat} {M : ai_M}
set_option maxHeartbeats 1000000 in
theorem as_run (hNS : NS ≤ 35) (C : ai_Cx lk on X NS D ad dA z0 Hb R M p s m args meth c) (hok : ai_okM ms lk on M) (htr : l.stackTraces = false) {cl : Nat → List Value → ai_H → Bool → ai_O → Prop} {d : Nat} (hcl : ∀ q As h ex o1, cl q As h ex o1 → ai_Ct l ms lk on X NS D ad dA z0 Hb d q As h ex o1 ∧ ai_pf h ex o1) (hRd : 10 + d + 1 ≤ R.frames ∧ 200 + 50 * (d + 1) ≤ R.locals) :
    ∀ (n : Nat) (fr : ai_F) (o : ai_O), ai_Rn ms lk X NS cl M n fr o → ai_oc o ≤ R.cells → ai_os o ≤ R.slots → ai_W p l e R s m args below meth c (vx_MQ below (ai_Q D ad dA z0 Hb o) (ai_XC D ad dA z0 Hb o) args s (ai_oc o) (ai_os o) (fun q : Nat => z0 ≤ q)) M.ml D ad dA z0 Hb n0 fr
  | 0, fr, o, h, _, _ => absurd h (fun h => h)
  | n + 1, fr, o, h, hoc, hos => by
    have hpure := ai_Rn_pure (fun q As h ex o1 q9 => (hcl q As h ex o1 q9).2) (n + 1) fr o h
    obtain ⟨i, tg, hi, h⟩ := h
    obtain ⟨hplain, hon, hrows, hhand⟩ := id hok
    obtain ⟨hd, hf⟩ := hrows _ _ _ hi
    rcases h with ⟨fr', h1, h2⟩ | h1 | h1 | ⟨q, As, rest, o1, M1, h1, hq0, h3, h4, h5, h6, h7⟩
    · have hp2 := ai_Rn_pure (fun q As h ex o1 q9 => (hcl q As h ex o1 q9).2) n fr' o h2
      exact as_step hNS C hd hf h1 ⟨Nat.le_trans hp2.1 hoc, Nat.le_trans hp2.2.1 hos⟩ (as_run hNS C hok htr hcl hRd n fr' o h2 hoc hos)
    · obtain ⟨hx, hb, hml, hrt, hlk, hown, hini, hts, had, hZ, hX2, hSx, hRf, hRl, htab⟩ := C
      obtain ⟨pc, lv, st, h0, ex, nc, ns⟩ := fr
      simp only [ai_rt] at h1
      split at h1
      · rename_i v hr9
        cases h1
        intro H locs ls hR hE hS hl
        exact vx_ret (W.iret hx hb (hrt.trans hr9) (fun t ht hW => ⟨rfl, by rw [ht]; exact hR, hS.F ht⟩) hS.2.2 hd hlk)
      · rename_i v hr9
        split at h1
        · rename_i hv
          cases h1
          intro H locs ls hR hE hS hl
          exact vx_ret (W.zret hx hb (hrt.trans hr9) (by rcases hv with rfl | rfl <;> rfl) (fun t ht hW => ⟨rfl, by rw [ht]; exact hR, hS.F ht⟩) hS.2.2 hd hlk)
        · cases h1
      · rename_i hr9
        cases h1
        intro H locs ls hR hE hS hl
        exact vx_ret (W.vret hx hb (hrt.trans hr9) (fun t ht hW => ⟨rfl, by rw [ht]; exact hR, hS.F ht⟩) hS.2.2 hd hlk)
      · cases h1
    · obtain ⟨hx, hb, hml, hrt, hlk, hown, hini, hts, had, hZ, hX2, ⟨hK, hX, hstr, hstO, hAO, hU, hN, hNW⟩, hRf, hRl, htab⟩ := C
      obtain ⟨pc, lv, st, h0, ex, nc, ns⟩ := fr
      simp only [ai_th] at h1
      split at h1
      · rename_i ix hh9
        split at h1
        · rename_i E hE9
          split at h1
          · rename_i hsum
            cases h1
            obtain ⟨is, ic, i9, ix9, rx, d0, d3, d4, d6, d9, hs9, x0, x1, x2, x5, hfit, hk9, hi9, hat, -⟩ := hf.2 E hE9
            obtain ⟨tx, hvk⟩ := hstr M.cn is i9 hs9
            intro H locs ls hR hE hS hl
            have kp : ∀ a : Nat, a < Hb.size → ¬ (fun q : Nat => z0 ≤ q) a → s.heap[a]? = Hb[a]? := fun a _ h2 => hZ.2 a (Nat.not_le.mp h2)
            refine vy_throw (names := ["java/lang/RuntimeException", "java/lang/Exception"]) (A := fun q : Nat => z0 ≤ q) hx hb htr x0 x1 x2 x5 hown hfit (by decide +kernel) (hts _ hk9) (hts _ hi9) hvk (fun w hw => ?_) (fun w hw => ?_) (hU.kept kp) (hN.kept kp) hS (by rw [hml]; exact hl.1) d0 d3 d4 d6 d9 (fun x hx9 => ?_) ?_ ?_ hoc hos hlk (fun t hvm hsz hq => ?_) hS.2.2 (Nat.le_refl _) (Nat.le_refl _)
            · rcases hat w hw with h | h
              · exact hts w h
              · exact va_Nw.use (ai_NW_on h) (hNW w h)
            · rcases List.mem_cons.mp hw with rfl | hw
              · rfl
              · rcases List.mem_cons.mp hw with rfl | hw
                · rfl
                · rcases hat w hw with h | h
                  · have := (List.mem_filter.mp h).2
                    simp [vx_ot, this]
                  · simp [vx_ot, ai_NW_on h]
            · rw [htab, hh9] at hx9
              cases hx9
            · simp only [List.length_cons, List.length_nil]
              omega
            · rw [ai_sum_map]
              simp only [List.length_cons, List.length_nil]
              omega
            · refine ⟨rfl, ⟨hR.1.kept (fun k x hx9 => hq x.1 ((hR.1 k x hx9).lt)), hR.2.1, Nat.le_trans hR.2.2.1 hsz, fun q9 h9 => ?_⟩, Nat.le_trans hS.1 hsz, fun q9 h9 h8 => ?_⟩
              · rw [hq q9 (Nat.lt_of_lt_of_le h9 hR.2.2.1)]
                exact hR.2.2.2 q9 h9
              · rw [hq q9 (Nat.lt_of_lt_of_le h9 hS.1)]
                exact hS.2.1 q9 h9 h8
          · cases h1
        · cases h1
      · cases h1
    · obtain ⟨hCt, hpf⟩ := hcl _ _ _ _ _ h6
      obtain ⟨pc, lv, st, h0, ex, nc, ns⟩ := fr
      simp only at h1 h4 h6 h7 hd hf hCt hpf
      have hroom : nc + ai_oc o1 ≤ R.cells ∧ ns + ai_os o1 ≤ R.slots := by
        cases o1 with
        | inl x =>
          obtain ⟨v, h', ex', nc', ns'⟩ := x
          have := ai_Rn_pure (fun q As h ex o1 q9 => (hcl q As h ex o1 q9).2) n _ o h7
          simp only [ai_af] at this
          exact ⟨Nat.le_trans this.1 hoc, Nat.le_trans this.2.1 hos⟩
        | inr x =>
          obtain ⟨E, h', nc', ns'⟩ := x
          rcases h7 with ⟨-, h7⟩ | ⟨st9, en9, hp9, ix9, -, -, -, -, h7⟩
          · subst h7
            exact ⟨hoc, hos⟩
          · subst h7
            exact ⟨hoc, hos⟩
      intro H locs ls hR hE hS hl
      have key : (ex = true → H.size = z0 + h0.length) → W p l e R s m args below meth c H locs nc ns (vx_MQ below (ai_Q D ad dA z0 Hb o) (ai_XC D ad dA z0 Hb o) args s (ai_oc o) (ai_os o) (fun q : Nat => z0 ≤ q)) (F0 m pc ls (st.map (ai_v ad))) := by
        intro hsz
        have hr := as_call (l := l) (e := e) (below := below) (locs := locs) (pc := pc) (ls := ls) (lv := lv) C hd hf h1 hq0 h3 h4 h5 hCt hRd hroom hR hsz hl
        cases o1 with
        | inl x =>
          obtain ⟨v, h', ex', nc', ns'⟩ := x
          refine as_ret hr hS (fun H1 locs1 hR1 hS1 => ?_)
          have kk := as_run hNS C hok htr hcl hRd n _ o h7 hoc hos H1 locs1 ls hR1 (fun he => ?_) hS1 hl
          · simp only [List.map_append] at kk
            cases v <;> exact kk
          · simp only [Bool.and_eq_true] at he
            obtain ⟨k1, k2⟩ := hE he.1
            obtain ⟨k3, k4⟩ := hpf he.2
            exact ⟨by omega, k2⟩
        | inr x =>
          obtain ⟨E, h', nc', ns'⟩ := x
          obtain ⟨hx, hb, hml, hrt, hlk, hown, hini, hts, had, hZ, hX2, hSx, hRf, hRl, htab⟩ := C
          refine as_thr hr hS (fun ce q9 H1 locs1 hR1 hS1 g1 g2 g3 => ?_)
          rcases h7 with ⟨hh9, h7⟩ | ⟨st9, en9, hp9, ix9, hh9, hle, hlt, hE9, h7⟩
          · subst h7
            refine vx_out (E := E) (ce := ce) (fun x9 hx9 => ?_) hlk g1 g2 g3 (fun t ht hvm => ⟨rfl, by rw [ht]; exact hR1, hS1.F ht⟩) hS1.2.2 (Nat.le_refl _) (Nat.le_refl _)
            rw [htab, hh9] at hx9
            cases hx9
          · subst h7
            rcases hhand with hz | ⟨hrt9, st8, en8, hp8, ix8, k, hh8, hk, hcode, hix, hE8⟩
            · rw [hh9] at hz
              cases hz
            · rw [hh9] at hh8
              simp only [List.cons.injEq, Prod.mk.injEq, and_true] at hh8
              obtain ⟨rfl, rfl, rfl, rfl⟩ := hh8
              obtain ⟨e1, e2⟩ := hE8 E hE9
              refine vx_catch (E := E) (name := E) (ce := ce) hown [] ⟨st9, en9, hp9, ix9⟩ [] (by rw [htab, hh9]; rfl) (fun z hz => nomatch hz) (by simp [covers]; omega) hix (hts _ e1) (va_Nw.use (ai_NW_on e2) (hSx.2.2.2.2.2.2.2 _ e2)) g1 g2 g3 ?_
              rcases hcode with ⟨c1, c2, c3⟩ | ⟨k4, rfl, c1, c2, c3⟩
              · refine lv_astore hx hb c1 hl hk rfl (fun ls2 hl2 => ?_)
                refine lv_iconst (v := 1) hx hb c2 (by decide) ?_
                exact vx_ret (W.iret hx hb (hrt.trans hrt9) (fun t ht hW => ⟨rfl, by rw [ht]; exact hR1, hS1.F ht⟩) hS1.2.2 c3 hlk)
              · refine lv_astore_n hx hb c1 rfl hl hk rfl (fun ls2 hl2 => ?_)
                refine lv_iconst (v := 1) hx hb c2 (by decide) ?_
                exact vx_ret (W.iret hx hb (hrt.trans hrt9) (fun t ht hW => ⟨rfl, by rw [ht]; exact hR1, hS1.F ht⟩) hS1.2.2 c3 hlk)
      cases ex with
      | false => exact key (fun h => by cases h)
      | true => exact as_exact hR (hE rfl) (fun z => key (fun _ => z))
end AIX
