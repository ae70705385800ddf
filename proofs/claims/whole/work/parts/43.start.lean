/-! A START that meets the premises and bears the script: the witness's own, with this script in its array -/
def fl_cells : Array Value := #[.int 0, .int 0, .int 4, .int 1667329132, .int 673720360, .int 673740832, .int 538976288, .int 538976288, .int 5, .int 11, .int 0, .int 0, .int 0, .int 0]
def fl_s : State := start1.aboutOf fl_cells
/-- words that no cell of the heap can change -/
def fl_vm (c : Cond) : Bool := match c with
  | .code .. => true
  | .codeSync .. => true
  | .codeWith .. => true
  | .static .. => true
  | .classLink .. => true
  | .methodLink .. => true
  | .fieldLink .. => true
  | .methodLinkNest .. => true
  | .sameMethod .. => true
  | .superclass .. => true
  | .soleField .. => true
  | .declares .. => true
  | .privateMethod .. => true
  | .castable .. => true
  | .stringRef .. => true
  | .initialized .. => true
  | .instantiable .. => true
  | .lays .. => true
  | .laysFinal .. => true
  | .instanceMethod .. => true
  | .native .. => true
  | .arrayClass .. => true
  | .arrayOver .. => true
  | .selects .. => true
  | _ => false
theorem fl_vm_ok {c : Cond} (h : fl_vm c = true) (a : Array Value) (s : State) (H : Heap) (n : Nat) : c.before a { s with heap := H, slotsUsed := n } = c.before a s := by
  unfold fl_vm at h
  split at h
  all_goals first | rfl | (cases h; done)
def fl_ls (c : Cond) : Bool := match c with
  | .laysStatic .. => true
  | _ => false
set_option maxRecDepth 1000000 in
theorem fl_kinds : (Cond.code x code maxLocals ret :: tables_1).all (fun c => fl_vm c || (fl_ls c && c.before start1.args0 fl_s)) = true := by decide +kernel
theorem fl_words : ∀ c ∈ (Cond.code x code maxLocals ret :: tables_1), c.before start1.args0 fl_s = true := by
  intro c hc
  have h := List.all_eq_true.mp fl_kinds c hc
  rcases (Bool.or_eq_true _ _).mp h with h | h
  · have h1 := fl_vm_ok h start1.args0 start1.about fl_s.heap fl_s.slotsUsed
    have h2 : c.before start1.args0 fl_s = c.before start1.args0 start1.about := h1
    rw [h2]
    exact start1.words c hc
  · exact ((Bool.and_eq_true _ _).mp h).2
set_option maxRecDepth 16384 in
theorem fl_start : AtStart classFile x code maxLocals ret World_1 tables_1 room_1 Calls_1 rest_1 Pre_1 launch0 start1.p0 start1.e0 fl_s ⟨0, 0⟩ start1.args0 Lib.HandBits.below0 :=
  ⟨lists_1, trivial, launch0.admits_env _ _ _, launch0.least_env, fairChoices_fair.cas, fairChoices_fair.clock, rfl, by decide +kernel, by decide +kernel,
    (Spec.applies_iff rfl).mpr ⟨rfl, rfl, rfl, by decide +kernel, by decide +kernel, by decide +kernel, launch0.hasRoom_least _ room_1 (by decide +kernel) (by decide +kernel) (by decide +kernel) (by decide +kernel) (by decide +kernel) (by decide +kernel), atoms_intro fl_words⟩,
    trivial, (show rest_1_c.before start1.args0 fl_s = true by decide +kernel), (show (Cond.and given_1 narrow_1).before start1.args0 fl_s = true by decide +kernel)⟩
theorem fl_bears : lw_P 0 fl_xs start1.args0 fl_s := ⟨rfl, ⟨{ cls := 26, slots := fl_cells, vm := .none }, rfl, rfl, ⟨(fun k h => by cases h), _, rfl, _, rfl⟩, by decide⟩, by decide, fl_start.2.2.2.2.2.2.2.2.2.2.2.2⟩
