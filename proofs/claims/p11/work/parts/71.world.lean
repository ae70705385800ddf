/-! THE WORLD OF BOTH OBJECTS by its parameters, and what always holds of it -/
def uA (ar : Nat → Nat → Int32) (c : Nat) (g : Nat → Int32) : Nat → Nat → Int32 := fun k => if k = c then g else ar k
def gh (S a b : Nat) (sc : Nat → Int32) (ar : Nat → Nat → Int32) (lo : Nat → Int64) : ai_H := [.inr (9, [.ref 1, .ref 13, .ref 22, .ref 24, .ref 29, .ref 33, .ref 36, .ref 39, .ref 48, .int (sc 9), .int (sc 10), .int (sc 11)]), .inr (0, [.int (nI S), .ref 2, .ref 3, .ref 4, .ref 5, .ref 6, .ref 7, .ref 8, .ref 9, .ref 10, .ref 11, .ref 12, .int (sc 112)]), .inl (0, S, .inl (ar 2)), .inl (0, S, .inl (ar 3)), .inl (0, 4 * S, .inl (ar 4)), .inl (0, S, .inl (ar 5)), .inl (0, S, .inl (ar 6)), .inl (0, S, .inl (ar 7)), .inl (0, S, .inl (ar 8)), .inl (0, S, .inl (ar 9)), .inl (0, S, .inl (ar 10)), .inl (0, S, .inl (ar 11)), .inl (1, S, .inl (ar 12)), .inr (1, [.ref 14, .ref 15, .ref 16, .ref 17, .ref 18, .ref 19, .ref 20, .ref 21, .int (sc 1308)]), .inl (0, 8, .inl (ar 14)), .inl (0, 8, .inl (ar 15)), .inl (0, 8, .inl (ar 16)), .inl (0, 8, .inl (ar 17)), .inl (1, 8, .inl (ar 18)), .inl (0, 8, .inl (ar 19)), .inl (0, 8, .inl (ar 20)), .inl (0, 8, .inl (ar 21)), .inr (6, [.ref 23, .int (sc 2201)]), .inl (2, 400, .inl (ar 23)), .inr (5, [.ref 25, .int (sc 2401), .int (sc 2402), .ref 26, .int (sc 2404), .int (sc 2405)]), .inl (0, 400, .inl (ar 25)), .inr (7, [.ref 27, .ref 28, .int (sc 2602), .ref 23, .int (sc 2604), .int (sc 2605)]), .inl (0, 401, .inl (ar 27)), .inl (0, 401, .inl (ar 28)), .inr (4, [.ref 30, .ref 31, .ref 32, .int (sc 2903)]), .inl (0, 2400, .inl (ar 30)), .inl (0, 6, .inl (ar 31)), .inl (0, 6, .inl (ar 32)), .inr (3, [.int (sc 3300), .int (sc 3301), .ref 34, .ref 35, .int (sc 3304)]), .inl (0, 8, .inl (ar 34)), .inl (0, 20, .inl (ar 35)), .inr (8, [.ref 1, .ref 37, .ref 38, .int (sc 3603)]), .inl (0, S, .inl (ar 37)), .inl (0, S, .inl (ar 38)), .inr (2, [.ref 40, .int (sc 3901), .ref 1, .int (nI S), .ref 41, .ref 42, .ref 43, .ref 44, .ref 45, .ref 46, .ref 47, .int (sc 3911), .int (sc 3912)]), .inl (0, 4, .inl (ar 40)), .inl (1, S, .inl (ar 41)), .inl (1, S, .inl (ar 42)), .inl (1, S, .inl (ar 43)), .inl (0, S, .inl (ar 44)), .inl (0, S, .inl (ar 45)), .inl (0, (2 * S), .inl (ar 46)), .inl (0, (2 * S), .inl (ar 47)), .inl (0, S, .inl (ar 48)), .inr (10, [.ref 50, .int (sc 4901), .int (nI a), .int (nI b), .int (sc 4904), .int (sc 4905), .int (sc 4906), .int (sc 4907), .int (sc 4908), .int (sc 4909), .int (sc 4910), .ref 51, .ref 52, .ref 53, .ref 54, .ref 55, .ref 56, .ref 57, .ref 58, .ref 59, .ref 60, .ref 61, .ref 62, .ref 63, .ref 64, .ref 65, .ref 66, .ref 67, .ref 68, .ref 69, .ref 70, .ref 71, .ref 72, .ref 73, .int (sc 4934), .int (sc 4935), .int (sc 4936), .int (sc 4937), .int (sc 4938), .int (sc 4939), .int (sc 4940), .int (sc 4941), .int (sc 4942), .int (sc 4943), .ref 74, .ref 75, .ref 76, .ref 77, .ref 78, .ref 79, .ref 80, .ref 81, .int (sc 4952), .ref 82, .ref 83, .ref 84]), .inl (4, 8, .inr (.inr (.inr (.inr (va_up (va_up (va_up (va_up (va_up (va_up (va_up (va_up (fun _ => none) 0 (some 1000023)) 1 (some 1000024)) 2 (some 1000025)) 3 (some 1000026)) 4 (some 1000027)) 5 (some 1000028)) 6 (some 1000029)) 7 (some 1000030)))))), .inl (0, 64, .inl (ar 51)), .inl (0, 64, .inl (ar 52)), .inl (0, 64, .inl (ar 53)), .inl (0, 64, .inl (ar 54)), .inl (0, 64, .inl (ar 55)), .inl (0, 64, .inl (ar 56)), .inl (0, 64, .inl (ar 57)), .inl (1, 64, .inl (ar 58)), .inl (0, 8, .inl (ar 59)), .inl (0, 8, .inl (ar 60)), .inl (0, 8, .inl (ar 61)), .inl (0, 8, .inl (ar 62)), .inl (0, 8, .inl (ar 63)), .inl (0, 8, .inl (ar 64)), .inl (0, 8, .inl (ar 65)), .inl (1, 8, .inl (ar 66)), .inl (0, 400, .inl (ar 67)), .inl (0, 6, .inl (ar 68)), .inl (0, 6, .inl (ar 69)), .inl (0, 78, .inl (ar 70)), .inl (0, 4200, .inl (ar 71)), .inl (0, 150, .inl (ar 72)), .inl (1, 72, .inl (ar 73)), .inl (0, 64, .inl (ar 74)), .inl (0, 64, .inl (ar 75)), .inl (1, 64, .inl (ar 76)), .inl (1, 64, .inl (ar 77)), .inl (0, 64, .inl (ar 78)), .inl (0, 64, .inl (ar 79)), .inl (0, 128, .inl (ar 80)), .inl (0, 128, .inl (ar 81)), .inl (0, 64, .inl (ar 82)), .inl (0, 64, .inl (ar 83)), .inl (0, 128, .inl (ar 84)), .inl (3, 1, .inr (.inl lo))]
def rl (x : Int32) (B : Nat) : Prop := ∃ n : Nat, n < B ∧ x = nI n
def rq (x : Int32) (B : Nat) : Prop := x = -1 ∨ rl x B
def rt (x : Int32) (B : Nat) : Prop := x = -1 ∨ x = -2 ∨ rl x B
/-- a node of the break's graph: a cell's entry, or its exit -/
def rn (x : Int32) (B : Nat) : Prop := ∃ n : Nat, n < 128 ∧ n % 64 < B ∧ x = nI n
def rm (x : Int32) (B : Nat) : Prop := x = -1 ∨ x = -2 ∨ rn x B
theorem rn_n {n B : Nat} (h : n < 128) (h2 : n % 64 < B) : rn (nI n) B := ⟨n, h, h2, rfl⟩
theorem rm_n {n B : Nat} (h : n < 128) (h2 : n % 64 < B) : rm (nI n) B := Or.inr (Or.inr ⟨n, h, h2, rfl⟩)
theorem rm_m {B : Nat} : rm (-1) B := Or.inl rfl
theorem rm_2 {B : Nat} : rm (-2) B := Or.inr (Or.inl rfl)
theorem rl_n {n B : Nat} (h : n < B) : rl (nI n) B := ⟨n, h, rfl⟩
theorem rq_n {n B : Nat} (h : n < B) : rq (nI n) B := Or.inr ⟨n, h, rfl⟩
theorem rq_m {B : Nat} : rq (-1) B := Or.inl rfl
theorem rt_n {n B : Nat} (h : n < B) : rt (nI n) B := Or.inr (Or.inr ⟨n, h, rfl⟩)
theorem rt_m {B : Nat} : rt (-1) B := Or.inl rfl
theorem rt_2 {B : Nat} : rt (-2) B := Or.inr (Or.inl rfl)
def Wd (S a b : Nat) : Prop := 1 ≤ a ∧ a ≤ 8 ∧ 1 ≤ b ∧ b ≤ 8 ∧ a * b = S ∧ 1 ≤ S ∧ S ≤ 64
theorem up_at {P : Int32 → Prop} {f : Nat → Int32} {i : Nat} {x : Int32} (h : ∀ j, P (f j)) (hx : P x) : ∀ j, P (upd f i x j) := by
  intro j
  unfold upd
  split
  · exact hx
  · exact h j
def Iv (S : Nat) (sc : Nat → Int32) (ar : Nat → Nat → Int32) : Prop := (rl (sc 1308) 9) ∧ (rl (sc 2201) 401) ∧ (rl (sc 2401) 401) ∧ (rl (sc 2404) 401) ∧ (rl (sc 2602) 402) ∧ (rl (sc 2604) 401) ∧ (rl (sc 2605) 401) ∧ (rl (sc 2903) 7) ∧ (rl (sc 3300) 2) ∧ (rl (sc 3304) 21) ∧ (rl (sc 3603) (S + 1)) ∧ (rl (sc 3901) 5) ∧ (rl (sc 3911) (2 * S + 1)) ∧ (rl (sc 11) 2401) ∧ (rl (sc 4904) 2401) ∧ (rl (sc 4906) 9) ∧ (rl (sc 4907) 7) ∧ (rl (sc 4908) 401) ∧ (rl (sc 4934) 701) ∧ (rl (sc 4935) 401) ∧ (rl (sc 4936) 401) ∧ (rl (sc 4939) 401) ∧ (rl (sc 4940) 401) ∧ (rl (sc 4943) 151) ∧ (rl (sc 4952) 65) ∧ (∀ j, rl (ar 16 j) S) ∧ (∀ j, rq (ar 17 j) S) ∧ (∀ j, rl (ar 48 j) S) ∧ (∀ j, rl (ar 38 j) S) ∧ (∀ j, rl (ar 31 j) 2401) ∧ (∀ j, rl (ar 47 j) (2 * S)) ∧ (∀ j, rt (ar 46 j) (2 * S)) ∧ (∀ j, rq (ar 57 j) 8) ∧ (∀ j, rl (ar 61 j) S) ∧ (∀ j, rq (ar 62 j) S) ∧ (∀ j, rl (ar 69 j) 13) ∧ (∀ j, rl (ar 70 j) 701) ∧ (∀ j, rm (ar 80 j) S) ∧ (∀ j, rn (ar 81 j) S) ∧ (∀ j, rq (ar 83 j) S) ∧ (∀ j, rn (ar 84 j) S)
theorem iv_s1308 {S : Nat} {sc : Nat → Int32} {ar : Nat → Nat → Int32} (h : Iv S sc ar) : rl (sc 1308) 9 := h.1
theorem iv_s2201 {S : Nat} {sc : Nat → Int32} {ar : Nat → Nat → Int32} (h : Iv S sc ar) : rl (sc 2201) 401 := h.2.1
theorem iv_s2401 {S : Nat} {sc : Nat → Int32} {ar : Nat → Nat → Int32} (h : Iv S sc ar) : rl (sc 2401) 401 := h.2.2.1
theorem iv_s2404 {S : Nat} {sc : Nat → Int32} {ar : Nat → Nat → Int32} (h : Iv S sc ar) : rl (sc 2404) 401 := h.2.2.2.1
theorem iv_s2602 {S : Nat} {sc : Nat → Int32} {ar : Nat → Nat → Int32} (h : Iv S sc ar) : rl (sc 2602) 402 := h.2.2.2.2.1
theorem iv_s2604 {S : Nat} {sc : Nat → Int32} {ar : Nat → Nat → Int32} (h : Iv S sc ar) : rl (sc 2604) 401 := h.2.2.2.2.2.1
theorem iv_s2605 {S : Nat} {sc : Nat → Int32} {ar : Nat → Nat → Int32} (h : Iv S sc ar) : rl (sc 2605) 401 := h.2.2.2.2.2.2.1
theorem iv_s2903 {S : Nat} {sc : Nat → Int32} {ar : Nat → Nat → Int32} (h : Iv S sc ar) : rl (sc 2903) 7 := h.2.2.2.2.2.2.2.1
theorem iv_s3300 {S : Nat} {sc : Nat → Int32} {ar : Nat → Nat → Int32} (h : Iv S sc ar) : rl (sc 3300) 2 := h.2.2.2.2.2.2.2.2.1
theorem iv_s3304 {S : Nat} {sc : Nat → Int32} {ar : Nat → Nat → Int32} (h : Iv S sc ar) : rl (sc 3304) 21 := h.2.2.2.2.2.2.2.2.2.1
theorem iv_s3603 {S : Nat} {sc : Nat → Int32} {ar : Nat → Nat → Int32} (h : Iv S sc ar) : rl (sc 3603) (S + 1) := h.2.2.2.2.2.2.2.2.2.2.1
theorem iv_s3901 {S : Nat} {sc : Nat → Int32} {ar : Nat → Nat → Int32} (h : Iv S sc ar) : rl (sc 3901) 5 := h.2.2.2.2.2.2.2.2.2.2.2.1
theorem iv_s3911 {S : Nat} {sc : Nat → Int32} {ar : Nat → Nat → Int32} (h : Iv S sc ar) : rl (sc 3911) (2 * S + 1) := h.2.2.2.2.2.2.2.2.2.2.2.2.1
theorem iv_s11 {S : Nat} {sc : Nat → Int32} {ar : Nat → Nat → Int32} (h : Iv S sc ar) : rl (sc 11) 2401 := h.2.2.2.2.2.2.2.2.2.2.2.2.2.1
theorem iv_s4904 {S : Nat} {sc : Nat → Int32} {ar : Nat → Nat → Int32} (h : Iv S sc ar) : rl (sc 4904) 2401 := h.2.2.2.2.2.2.2.2.2.2.2.2.2.2.1
theorem iv_s4906 {S : Nat} {sc : Nat → Int32} {ar : Nat → Nat → Int32} (h : Iv S sc ar) : rl (sc 4906) 9 := h.2.2.2.2.2.2.2.2.2.2.2.2.2.2.2.1
theorem iv_s4907 {S : Nat} {sc : Nat → Int32} {ar : Nat → Nat → Int32} (h : Iv S sc ar) : rl (sc 4907) 7 := h.2.2.2.2.2.2.2.2.2.2.2.2.2.2.2.2.1
theorem iv_s4908 {S : Nat} {sc : Nat → Int32} {ar : Nat → Nat → Int32} (h : Iv S sc ar) : rl (sc 4908) 401 := h.2.2.2.2.2.2.2.2.2.2.2.2.2.2.2.2.2.1
theorem iv_s4934 {S : Nat} {sc : Nat → Int32} {ar : Nat → Nat → Int32} (h : Iv S sc ar) : rl (sc 4934) 701 := h.2.2.2.2.2.2.2.2.2.2.2.2.2.2.2.2.2.2.1
theorem iv_s4935 {S : Nat} {sc : Nat → Int32} {ar : Nat → Nat → Int32} (h : Iv S sc ar) : rl (sc 4935) 401 := h.2.2.2.2.2.2.2.2.2.2.2.2.2.2.2.2.2.2.2.1
theorem iv_s4936 {S : Nat} {sc : Nat → Int32} {ar : Nat → Nat → Int32} (h : Iv S sc ar) : rl (sc 4936) 401 := h.2.2.2.2.2.2.2.2.2.2.2.2.2.2.2.2.2.2.2.2.1
theorem iv_s4939 {S : Nat} {sc : Nat → Int32} {ar : Nat → Nat → Int32} (h : Iv S sc ar) : rl (sc 4939) 401 := h.2.2.2.2.2.2.2.2.2.2.2.2.2.2.2.2.2.2.2.2.2.1
theorem iv_s4940 {S : Nat} {sc : Nat → Int32} {ar : Nat → Nat → Int32} (h : Iv S sc ar) : rl (sc 4940) 401 := h.2.2.2.2.2.2.2.2.2.2.2.2.2.2.2.2.2.2.2.2.2.2.1
theorem iv_s4943 {S : Nat} {sc : Nat → Int32} {ar : Nat → Nat → Int32} (h : Iv S sc ar) : rl (sc 4943) 151 := h.2.2.2.2.2.2.2.2.2.2.2.2.2.2.2.2.2.2.2.2.2.2.2.1
theorem iv_s4952 {S : Nat} {sc : Nat → Int32} {ar : Nat → Nat → Int32} (h : Iv S sc ar) : rl (sc 4952) 65 := h.2.2.2.2.2.2.2.2.2.2.2.2.2.2.2.2.2.2.2.2.2.2.2.2.1
theorem iv_a16 {S : Nat} {sc : Nat → Int32} {ar : Nat → Nat → Int32} (h : Iv S sc ar) : ∀ j, rl (ar 16 j) S := h.2.2.2.2.2.2.2.2.2.2.2.2.2.2.2.2.2.2.2.2.2.2.2.2.2.1
theorem iv_a17 {S : Nat} {sc : Nat → Int32} {ar : Nat → Nat → Int32} (h : Iv S sc ar) : ∀ j, rq (ar 17 j) S := h.2.2.2.2.2.2.2.2.2.2.2.2.2.2.2.2.2.2.2.2.2.2.2.2.2.2.1
theorem iv_a48 {S : Nat} {sc : Nat → Int32} {ar : Nat → Nat → Int32} (h : Iv S sc ar) : ∀ j, rl (ar 48 j) S := h.2.2.2.2.2.2.2.2.2.2.2.2.2.2.2.2.2.2.2.2.2.2.2.2.2.2.2.1
theorem iv_a38 {S : Nat} {sc : Nat → Int32} {ar : Nat → Nat → Int32} (h : Iv S sc ar) : ∀ j, rl (ar 38 j) S := h.2.2.2.2.2.2.2.2.2.2.2.2.2.2.2.2.2.2.2.2.2.2.2.2.2.2.2.2.1
theorem iv_a31 {S : Nat} {sc : Nat → Int32} {ar : Nat → Nat → Int32} (h : Iv S sc ar) : ∀ j, rl (ar 31 j) 2401 := h.2.2.2.2.2.2.2.2.2.2.2.2.2.2.2.2.2.2.2.2.2.2.2.2.2.2.2.2.2.1
theorem iv_a47 {S : Nat} {sc : Nat → Int32} {ar : Nat → Nat → Int32} (h : Iv S sc ar) : ∀ j, rl (ar 47 j) (2 * S) := h.2.2.2.2.2.2.2.2.2.2.2.2.2.2.2.2.2.2.2.2.2.2.2.2.2.2.2.2.2.2.1
theorem iv_a46 {S : Nat} {sc : Nat → Int32} {ar : Nat → Nat → Int32} (h : Iv S sc ar) : ∀ j, rt (ar 46 j) (2 * S) := h.2.2.2.2.2.2.2.2.2.2.2.2.2.2.2.2.2.2.2.2.2.2.2.2.2.2.2.2.2.2.2.1
theorem iv_a57 {S : Nat} {sc : Nat → Int32} {ar : Nat → Nat → Int32} (h : Iv S sc ar) : ∀ j, rq (ar 57 j) 8 := h.2.2.2.2.2.2.2.2.2.2.2.2.2.2.2.2.2.2.2.2.2.2.2.2.2.2.2.2.2.2.2.2.1
theorem iv_a61 {S : Nat} {sc : Nat → Int32} {ar : Nat → Nat → Int32} (h : Iv S sc ar) : ∀ j, rl (ar 61 j) S := h.2.2.2.2.2.2.2.2.2.2.2.2.2.2.2.2.2.2.2.2.2.2.2.2.2.2.2.2.2.2.2.2.2.1
theorem iv_a62 {S : Nat} {sc : Nat → Int32} {ar : Nat → Nat → Int32} (h : Iv S sc ar) : ∀ j, rq (ar 62 j) S := h.2.2.2.2.2.2.2.2.2.2.2.2.2.2.2.2.2.2.2.2.2.2.2.2.2.2.2.2.2.2.2.2.2.2.1
theorem iv_a69 {S : Nat} {sc : Nat → Int32} {ar : Nat → Nat → Int32} (h : Iv S sc ar) : ∀ j, rl (ar 69 j) 13 := h.2.2.2.2.2.2.2.2.2.2.2.2.2.2.2.2.2.2.2.2.2.2.2.2.2.2.2.2.2.2.2.2.2.2.2.1
theorem iv_a70 {S : Nat} {sc : Nat → Int32} {ar : Nat → Nat → Int32} (h : Iv S sc ar) : ∀ j, rl (ar 70 j) 701 := h.2.2.2.2.2.2.2.2.2.2.2.2.2.2.2.2.2.2.2.2.2.2.2.2.2.2.2.2.2.2.2.2.2.2.2.2.1
theorem iv_a80 {S : Nat} {sc : Nat → Int32} {ar : Nat → Nat → Int32} (h : Iv S sc ar) : ∀ j, rm (ar 80 j) S := h.2.2.2.2.2.2.2.2.2.2.2.2.2.2.2.2.2.2.2.2.2.2.2.2.2.2.2.2.2.2.2.2.2.2.2.2.2.1
theorem iv_a81 {S : Nat} {sc : Nat → Int32} {ar : Nat → Nat → Int32} (h : Iv S sc ar) : ∀ j, rn (ar 81 j) S := h.2.2.2.2.2.2.2.2.2.2.2.2.2.2.2.2.2.2.2.2.2.2.2.2.2.2.2.2.2.2.2.2.2.2.2.2.2.2.1
theorem iv_a83 {S : Nat} {sc : Nat → Int32} {ar : Nat → Nat → Int32} (h : Iv S sc ar) : ∀ j, rq (ar 83 j) S := h.2.2.2.2.2.2.2.2.2.2.2.2.2.2.2.2.2.2.2.2.2.2.2.2.2.2.2.2.2.2.2.2.2.2.2.2.2.2.2.1
theorem iv_a84 {S : Nat} {sc : Nat → Int32} {ar : Nat → Nat → Int32} (h : Iv S sc ar) : ∀ j, rn (ar 84 j) S := h.2.2.2.2.2.2.2.2.2.2.2.2.2.2.2.2.2.2.2.2.2.2.2.2.2.2.2.2.2.2.2.2.2.2.2.2.2.2.2.2
theorem ip_9 {S : Nat} {sc : Nat → Int32} {ar : Nat → Nat → Int32} {v : Int32} (h : Iv S sc ar) : Iv S (upd sc 9 v) ar := by
  obtain ⟨h0, h1, h2, h3, h4, h5, h6, h7, h8, h9, h10, h11, h12, h13, h14, h15, h16, h17, h18, h19, h20, h21, h22, h23, h24, h25, h26, h27, h28, h29, h30, h31, h32, h33, h34, h35, h36, h37, h38, h39, h40⟩ := h
  exact ⟨h0, h1, h2, h3, h4, h5, h6, h7, h8, h9, h10, h11, h12, h13, h14, h15, h16, h17, h18, h19, h20, h21, h22, h23, h24, h25, h26, h27, h28, h29, h30, h31, h32, h33, h34, h35, h36, h37, h38, h39, h40⟩
theorem ip_10 {S : Nat} {sc : Nat → Int32} {ar : Nat → Nat → Int32} {v : Int32} (h : Iv S sc ar) : Iv S (upd sc 10 v) ar := by
  obtain ⟨h0, h1, h2, h3, h4, h5, h6, h7, h8, h9, h10, h11, h12, h13, h14, h15, h16, h17, h18, h19, h20, h21, h22, h23, h24, h25, h26, h27, h28, h29, h30, h31, h32, h33, h34, h35, h36, h37, h38, h39, h40⟩ := h
  exact ⟨h0, h1, h2, h3, h4, h5, h6, h7, h8, h9, h10, h11, h12, h13, h14, h15, h16, h17, h18, h19, h20, h21, h22, h23, h24, h25, h26, h27, h28, h29, h30, h31, h32, h33, h34, h35, h36, h37, h38, h39, h40⟩
theorem ip_11 {S : Nat} {sc : Nat → Int32} {ar : Nat → Nat → Int32} {v : Int32} (h : Iv S sc ar) (hv : rl v 2401) : Iv S (upd sc 11 v) ar := by
  obtain ⟨h0, h1, h2, h3, h4, h5, h6, h7, h8, h9, h10, h11, h12, h13, h14, h15, h16, h17, h18, h19, h20, h21, h22, h23, h24, h25, h26, h27, h28, h29, h30, h31, h32, h33, h34, h35, h36, h37, h38, h39, h40⟩ := h
  exact ⟨h0, h1, h2, h3, h4, h5, h6, h7, h8, h9, h10, h11, h12, hv, h14, h15, h16, h17, h18, h19, h20, h21, h22, h23, h24, h25, h26, h27, h28, h29, h30, h31, h32, h33, h34, h35, h36, h37, h38, h39, h40⟩
theorem ip_112 {S : Nat} {sc : Nat → Int32} {ar : Nat → Nat → Int32} {v : Int32} (h : Iv S sc ar) : Iv S (upd sc 112 v) ar := by
  obtain ⟨h0, h1, h2, h3, h4, h5, h6, h7, h8, h9, h10, h11, h12, h13, h14, h15, h16, h17, h18, h19, h20, h21, h22, h23, h24, h25, h26, h27, h28, h29, h30, h31, h32, h33, h34, h35, h36, h37, h38, h39, h40⟩ := h
  exact ⟨h0, h1, h2, h3, h4, h5, h6, h7, h8, h9, h10, h11, h12, h13, h14, h15, h16, h17, h18, h19, h20, h21, h22, h23, h24, h25, h26, h27, h28, h29, h30, h31, h32, h33, h34, h35, h36, h37, h38, h39, h40⟩
theorem ip_1308 {S : Nat} {sc : Nat → Int32} {ar : Nat → Nat → Int32} {v : Int32} (h : Iv S sc ar) (hv : rl v 9) : Iv S (upd sc 1308 v) ar := by
  obtain ⟨h0, h1, h2, h3, h4, h5, h6, h7, h8, h9, h10, h11, h12, h13, h14, h15, h16, h17, h18, h19, h20, h21, h22, h23, h24, h25, h26, h27, h28, h29, h30, h31, h32, h33, h34, h35, h36, h37, h38, h39, h40⟩ := h
  exact ⟨hv, h1, h2, h3, h4, h5, h6, h7, h8, h9, h10, h11, h12, h13, h14, h15, h16, h17, h18, h19, h20, h21, h22, h23, h24, h25, h26, h27, h28, h29, h30, h31, h32, h33, h34, h35, h36, h37, h38, h39, h40⟩
theorem ip_2201 {S : Nat} {sc : Nat → Int32} {ar : Nat → Nat → Int32} {v : Int32} (h : Iv S sc ar) (hv : rl v 401) : Iv S (upd sc 2201 v) ar := by
  obtain ⟨h0, h1, h2, h3, h4, h5, h6, h7, h8, h9, h10, h11, h12, h13, h14, h15, h16, h17, h18, h19, h20, h21, h22, h23, h24, h25, h26, h27, h28, h29, h30, h31, h32, h33, h34, h35, h36, h37, h38, h39, h40⟩ := h
  exact ⟨h0, hv, h2, h3, h4, h5, h6, h7, h8, h9, h10, h11, h12, h13, h14, h15, h16, h17, h18, h19, h20, h21, h22, h23, h24, h25, h26, h27, h28, h29, h30, h31, h32, h33, h34, h35, h36, h37, h38, h39, h40⟩
theorem ip_2401 {S : Nat} {sc : Nat → Int32} {ar : Nat → Nat → Int32} {v : Int32} (h : Iv S sc ar) (hv : rl v 401) : Iv S (upd sc 2401 v) ar := by
  obtain ⟨h0, h1, h2, h3, h4, h5, h6, h7, h8, h9, h10, h11, h12, h13, h14, h15, h16, h17, h18, h19, h20, h21, h22, h23, h24, h25, h26, h27, h28, h29, h30, h31, h32, h33, h34, h35, h36, h37, h38, h39, h40⟩ := h
  exact ⟨h0, h1, hv, h3, h4, h5, h6, h7, h8, h9, h10, h11, h12, h13, h14, h15, h16, h17, h18, h19, h20, h21, h22, h23, h24, h25, h26, h27, h28, h29, h30, h31, h32, h33, h34, h35, h36, h37, h38, h39, h40⟩
theorem ip_2402 {S : Nat} {sc : Nat → Int32} {ar : Nat → Nat → Int32} {v : Int32} (h : Iv S sc ar) : Iv S (upd sc 2402 v) ar := by
  obtain ⟨h0, h1, h2, h3, h4, h5, h6, h7, h8, h9, h10, h11, h12, h13, h14, h15, h16, h17, h18, h19, h20, h21, h22, h23, h24, h25, h26, h27, h28, h29, h30, h31, h32, h33, h34, h35, h36, h37, h38, h39, h40⟩ := h
  exact ⟨h0, h1, h2, h3, h4, h5, h6, h7, h8, h9, h10, h11, h12, h13, h14, h15, h16, h17, h18, h19, h20, h21, h22, h23, h24, h25, h26, h27, h28, h29, h30, h31, h32, h33, h34, h35, h36, h37, h38, h39, h40⟩
theorem ip_2404 {S : Nat} {sc : Nat → Int32} {ar : Nat → Nat → Int32} {v : Int32} (h : Iv S sc ar) (hv : rl v 401) : Iv S (upd sc 2404 v) ar := by
  obtain ⟨h0, h1, h2, h3, h4, h5, h6, h7, h8, h9, h10, h11, h12, h13, h14, h15, h16, h17, h18, h19, h20, h21, h22, h23, h24, h25, h26, h27, h28, h29, h30, h31, h32, h33, h34, h35, h36, h37, h38, h39, h40⟩ := h
  exact ⟨h0, h1, h2, hv, h4, h5, h6, h7, h8, h9, h10, h11, h12, h13, h14, h15, h16, h17, h18, h19, h20, h21, h22, h23, h24, h25, h26, h27, h28, h29, h30, h31, h32, h33, h34, h35, h36, h37, h38, h39, h40⟩
theorem ip_2405 {S : Nat} {sc : Nat → Int32} {ar : Nat → Nat → Int32} {v : Int32} (h : Iv S sc ar) : Iv S (upd sc 2405 v) ar := by
  obtain ⟨h0, h1, h2, h3, h4, h5, h6, h7, h8, h9, h10, h11, h12, h13, h14, h15, h16, h17, h18, h19, h20, h21, h22, h23, h24, h25, h26, h27, h28, h29, h30, h31, h32, h33, h34, h35, h36, h37, h38, h39, h40⟩ := h
  exact ⟨h0, h1, h2, h3, h4, h5, h6, h7, h8, h9, h10, h11, h12, h13, h14, h15, h16, h17, h18, h19, h20, h21, h22, h23, h24, h25, h26, h27, h28, h29, h30, h31, h32, h33, h34, h35, h36, h37, h38, h39, h40⟩
theorem ip_2602 {S : Nat} {sc : Nat → Int32} {ar : Nat → Nat → Int32} {v : Int32} (h : Iv S sc ar) (hv : rl v 402) : Iv S (upd sc 2602 v) ar := by
  obtain ⟨h0, h1, h2, h3, h4, h5, h6, h7, h8, h9, h10, h11, h12, h13, h14, h15, h16, h17, h18, h19, h20, h21, h22, h23, h24, h25, h26, h27, h28, h29, h30, h31, h32, h33, h34, h35, h36, h37, h38, h39, h40⟩ := h
  exact ⟨h0, h1, h2, h3, hv, h5, h6, h7, h8, h9, h10, h11, h12, h13, h14, h15, h16, h17, h18, h19, h20, h21, h22, h23, h24, h25, h26, h27, h28, h29, h30, h31, h32, h33, h34, h35, h36, h37, h38, h39, h40⟩
theorem ip_2604 {S : Nat} {sc : Nat → Int32} {ar : Nat → Nat → Int32} {v : Int32} (h : Iv S sc ar) (hv : rl v 401) : Iv S (upd sc 2604 v) ar := by
  obtain ⟨h0, h1, h2, h3, h4, h5, h6, h7, h8, h9, h10, h11, h12, h13, h14, h15, h16, h17, h18, h19, h20, h21, h22, h23, h24, h25, h26, h27, h28, h29, h30, h31, h32, h33, h34, h35, h36, h37, h38, h39, h40⟩ := h
  exact ⟨h0, h1, h2, h3, h4, hv, h6, h7, h8, h9, h10, h11, h12, h13, h14, h15, h16, h17, h18, h19, h20, h21, h22, h23, h24, h25, h26, h27, h28, h29, h30, h31, h32, h33, h34, h35, h36, h37, h38, h39, h40⟩
theorem ip_2605 {S : Nat} {sc : Nat → Int32} {ar : Nat → Nat → Int32} {v : Int32} (h : Iv S sc ar) (hv : rl v 401) : Iv S (upd sc 2605 v) ar := by
  obtain ⟨h0, h1, h2, h3, h4, h5, h6, h7, h8, h9, h10, h11, h12, h13, h14, h15, h16, h17, h18, h19, h20, h21, h22, h23, h24, h25, h26, h27, h28, h29, h30, h31, h32, h33, h34, h35, h36, h37, h38, h39, h40⟩ := h
  exact ⟨h0, h1, h2, h3, h4, h5, hv, h7, h8, h9, h10, h11, h12, h13, h14, h15, h16, h17, h18, h19, h20, h21, h22, h23, h24, h25, h26, h27, h28, h29, h30, h31, h32, h33, h34, h35, h36, h37, h38, h39, h40⟩
theorem ip_2903 {S : Nat} {sc : Nat → Int32} {ar : Nat → Nat → Int32} {v : Int32} (h : Iv S sc ar) (hv : rl v 7) : Iv S (upd sc 2903 v) ar := by
  obtain ⟨h0, h1, h2, h3, h4, h5, h6, h7, h8, h9, h10, h11, h12, h13, h14, h15, h16, h17, h18, h19, h20, h21, h22, h23, h24, h25, h26, h27, h28, h29, h30, h31, h32, h33, h34, h35, h36, h37, h38, h39, h40⟩ := h
  exact ⟨h0, h1, h2, h3, h4, h5, h6, hv, h8, h9, h10, h11, h12, h13, h14, h15, h16, h17, h18, h19, h20, h21, h22, h23, h24, h25, h26, h27, h28, h29, h30, h31, h32, h33, h34, h35, h36, h37, h38, h39, h40⟩
theorem ip_3300 {S : Nat} {sc : Nat → Int32} {ar : Nat → Nat → Int32} {v : Int32} (h : Iv S sc ar) (hv : rl v 2) : Iv S (upd sc 3300 v) ar := by
  obtain ⟨h0, h1, h2, h3, h4, h5, h6, h7, h8, h9, h10, h11, h12, h13, h14, h15, h16, h17, h18, h19, h20, h21, h22, h23, h24, h25, h26, h27, h28, h29, h30, h31, h32, h33, h34, h35, h36, h37, h38, h39, h40⟩ := h
  exact ⟨h0, h1, h2, h3, h4, h5, h6, h7, hv, h9, h10, h11, h12, h13, h14, h15, h16, h17, h18, h19, h20, h21, h22, h23, h24, h25, h26, h27, h28, h29, h30, h31, h32, h33, h34, h35, h36, h37, h38, h39, h40⟩
theorem ip_3301 {S : Nat} {sc : Nat → Int32} {ar : Nat → Nat → Int32} {v : Int32} (h : Iv S sc ar) : Iv S (upd sc 3301 v) ar := by
  obtain ⟨h0, h1, h2, h3, h4, h5, h6, h7, h8, h9, h10, h11, h12, h13, h14, h15, h16, h17, h18, h19, h20, h21, h22, h23, h24, h25, h26, h27, h28, h29, h30, h31, h32, h33, h34, h35, h36, h37, h38, h39, h40⟩ := h
  exact ⟨h0, h1, h2, h3, h4, h5, h6, h7, h8, h9, h10, h11, h12, h13, h14, h15, h16, h17, h18, h19, h20, h21, h22, h23, h24, h25, h26, h27, h28, h29, h30, h31, h32, h33, h34, h35, h36, h37, h38, h39, h40⟩
theorem ip_3304 {S : Nat} {sc : Nat → Int32} {ar : Nat → Nat → Int32} {v : Int32} (h : Iv S sc ar) (hv : rl v 21) : Iv S (upd sc 3304 v) ar := by
  obtain ⟨h0, h1, h2, h3, h4, h5, h6, h7, h8, h9, h10, h11, h12, h13, h14, h15, h16, h17, h18, h19, h20, h21, h22, h23, h24, h25, h26, h27, h28, h29, h30, h31, h32, h33, h34, h35, h36, h37, h38, h39, h40⟩ := h
  exact ⟨h0, h1, h2, h3, h4, h5, h6, h7, h8, hv, h10, h11, h12, h13, h14, h15, h16, h17, h18, h19, h20, h21, h22, h23, h24, h25, h26, h27, h28, h29, h30, h31, h32, h33, h34, h35, h36, h37, h38, h39, h40⟩
theorem ip_3603 {S : Nat} {sc : Nat → Int32} {ar : Nat → Nat → Int32} {v : Int32} (h : Iv S sc ar) (hv : rl v (S + 1)) : Iv S (upd sc 3603 v) ar := by
  obtain ⟨h0, h1, h2, h3, h4, h5, h6, h7, h8, h9, h10, h11, h12, h13, h14, h15, h16, h17, h18, h19, h20, h21, h22, h23, h24, h25, h26, h27, h28, h29, h30, h31, h32, h33, h34, h35, h36, h37, h38, h39, h40⟩ := h
  exact ⟨h0, h1, h2, h3, h4, h5, h6, h7, h8, h9, hv, h11, h12, h13, h14, h15, h16, h17, h18, h19, h20, h21, h22, h23, h24, h25, h26, h27, h28, h29, h30, h31, h32, h33, h34, h35, h36, h37, h38, h39, h40⟩
theorem ip_3901 {S : Nat} {sc : Nat → Int32} {ar : Nat → Nat → Int32} {v : Int32} (h : Iv S sc ar) (hv : rl v 5) : Iv S (upd sc 3901 v) ar := by
  obtain ⟨h0, h1, h2, h3, h4, h5, h6, h7, h8, h9, h10, h11, h12, h13, h14, h15, h16, h17, h18, h19, h20, h21, h22, h23, h24, h25, h26, h27, h28, h29, h30, h31, h32, h33, h34, h35, h36, h37, h38, h39, h40⟩ := h
  exact ⟨h0, h1, h2, h3, h4, h5, h6, h7, h8, h9, h10, hv, h12, h13, h14, h15, h16, h17, h18, h19, h20, h21, h22, h23, h24, h25, h26, h27, h28, h29, h30, h31, h32, h33, h34, h35, h36, h37, h38, h39, h40⟩
theorem ip_3911 {S : Nat} {sc : Nat → Int32} {ar : Nat → Nat → Int32} {v : Int32} (h : Iv S sc ar) (hv : rl v (2 * S + 1)) : Iv S (upd sc 3911 v) ar := by
  obtain ⟨h0, h1, h2, h3, h4, h5, h6, h7, h8, h9, h10, h11, h12, h13, h14, h15, h16, h17, h18, h19, h20, h21, h22, h23, h24, h25, h26, h27, h28, h29, h30, h31, h32, h33, h34, h35, h36, h37, h38, h39, h40⟩ := h
  exact ⟨h0, h1, h2, h3, h4, h5, h6, h7, h8, h9, h10, h11, hv, h13, h14, h15, h16, h17, h18, h19, h20, h21, h22, h23, h24, h25, h26, h27, h28, h29, h30, h31, h32, h33, h34, h35, h36, h37, h38, h39, h40⟩
theorem ip_3912 {S : Nat} {sc : Nat → Int32} {ar : Nat → Nat → Int32} {v : Int32} (h : Iv S sc ar) : Iv S (upd sc 3912 v) ar := by
  obtain ⟨h0, h1, h2, h3, h4, h5, h6, h7, h8, h9, h10, h11, h12, h13, h14, h15, h16, h17, h18, h19, h20, h21, h22, h23, h24, h25, h26, h27, h28, h29, h30, h31, h32, h33, h34, h35, h36, h37, h38, h39, h40⟩ := h
  exact ⟨h0, h1, h2, h3, h4, h5, h6, h7, h8, h9, h10, h11, h12, h13, h14, h15, h16, h17, h18, h19, h20, h21, h22, h23, h24, h25, h26, h27, h28, h29, h30, h31, h32, h33, h34, h35, h36, h37, h38, h39, h40⟩
theorem ip_4901 {S : Nat} {sc : Nat → Int32} {ar : Nat → Nat → Int32} {v : Int32} (h : Iv S sc ar) : Iv S (upd sc 4901 v) ar := by
  obtain ⟨h0, h1, h2, h3, h4, h5, h6, h7, h8, h9, h10, h11, h12, h13, h14, h15, h16, h17, h18, h19, h20, h21, h22, h23, h24, h25, h26, h27, h28, h29, h30, h31, h32, h33, h34, h35, h36, h37, h38, h39, h40⟩ := h
  exact ⟨h0, h1, h2, h3, h4, h5, h6, h7, h8, h9, h10, h11, h12, h13, h14, h15, h16, h17, h18, h19, h20, h21, h22, h23, h24, h25, h26, h27, h28, h29, h30, h31, h32, h33, h34, h35, h36, h37, h38, h39, h40⟩
theorem ip_4904 {S : Nat} {sc : Nat → Int32} {ar : Nat → Nat → Int32} {v : Int32} (h : Iv S sc ar) (hv : rl v 2401) : Iv S (upd sc 4904 v) ar := by
  obtain ⟨h0, h1, h2, h3, h4, h5, h6, h7, h8, h9, h10, h11, h12, h13, h14, h15, h16, h17, h18, h19, h20, h21, h22, h23, h24, h25, h26, h27, h28, h29, h30, h31, h32, h33, h34, h35, h36, h37, h38, h39, h40⟩ := h
  exact ⟨h0, h1, h2, h3, h4, h5, h6, h7, h8, h9, h10, h11, h12, h13, hv, h15, h16, h17, h18, h19, h20, h21, h22, h23, h24, h25, h26, h27, h28, h29, h30, h31, h32, h33, h34, h35, h36, h37, h38, h39, h40⟩
theorem ip_4905 {S : Nat} {sc : Nat → Int32} {ar : Nat → Nat → Int32} {v : Int32} (h : Iv S sc ar) : Iv S (upd sc 4905 v) ar := by
  obtain ⟨h0, h1, h2, h3, h4, h5, h6, h7, h8, h9, h10, h11, h12, h13, h14, h15, h16, h17, h18, h19, h20, h21, h22, h23, h24, h25, h26, h27, h28, h29, h30, h31, h32, h33, h34, h35, h36, h37, h38, h39, h40⟩ := h
  exact ⟨h0, h1, h2, h3, h4, h5, h6, h7, h8, h9, h10, h11, h12, h13, h14, h15, h16, h17, h18, h19, h20, h21, h22, h23, h24, h25, h26, h27, h28, h29, h30, h31, h32, h33, h34, h35, h36, h37, h38, h39, h40⟩
theorem ip_4906 {S : Nat} {sc : Nat → Int32} {ar : Nat → Nat → Int32} {v : Int32} (h : Iv S sc ar) (hv : rl v 9) : Iv S (upd sc 4906 v) ar := by
  obtain ⟨h0, h1, h2, h3, h4, h5, h6, h7, h8, h9, h10, h11, h12, h13, h14, h15, h16, h17, h18, h19, h20, h21, h22, h23, h24, h25, h26, h27, h28, h29, h30, h31, h32, h33, h34, h35, h36, h37, h38, h39, h40⟩ := h
  exact ⟨h0, h1, h2, h3, h4, h5, h6, h7, h8, h9, h10, h11, h12, h13, h14, hv, h16, h17, h18, h19, h20, h21, h22, h23, h24, h25, h26, h27, h28, h29, h30, h31, h32, h33, h34, h35, h36, h37, h38, h39, h40⟩
theorem ip_4907 {S : Nat} {sc : Nat → Int32} {ar : Nat → Nat → Int32} {v : Int32} (h : Iv S sc ar) (hv : rl v 7) : Iv S (upd sc 4907 v) ar := by
  obtain ⟨h0, h1, h2, h3, h4, h5, h6, h7, h8, h9, h10, h11, h12, h13, h14, h15, h16, h17, h18, h19, h20, h21, h22, h23, h24, h25, h26, h27, h28, h29, h30, h31, h32, h33, h34, h35, h36, h37, h38, h39, h40⟩ := h
  exact ⟨h0, h1, h2, h3, h4, h5, h6, h7, h8, h9, h10, h11, h12, h13, h14, h15, hv, h17, h18, h19, h20, h21, h22, h23, h24, h25, h26, h27, h28, h29, h30, h31, h32, h33, h34, h35, h36, h37, h38, h39, h40⟩
theorem ip_4908 {S : Nat} {sc : Nat → Int32} {ar : Nat → Nat → Int32} {v : Int32} (h : Iv S sc ar) (hv : rl v 401) : Iv S (upd sc 4908 v) ar := by
  obtain ⟨h0, h1, h2, h3, h4, h5, h6, h7, h8, h9, h10, h11, h12, h13, h14, h15, h16, h17, h18, h19, h20, h21, h22, h23, h24, h25, h26, h27, h28, h29, h30, h31, h32, h33, h34, h35, h36, h37, h38, h39, h40⟩ := h
  exact ⟨h0, h1, h2, h3, h4, h5, h6, h7, h8, h9, h10, h11, h12, h13, h14, h15, h16, hv, h18, h19, h20, h21, h22, h23, h24, h25, h26, h27, h28, h29, h30, h31, h32, h33, h34, h35, h36, h37, h38, h39, h40⟩
theorem ip_4909 {S : Nat} {sc : Nat → Int32} {ar : Nat → Nat → Int32} {v : Int32} (h : Iv S sc ar) : Iv S (upd sc 4909 v) ar := by
  obtain ⟨h0, h1, h2, h3, h4, h5, h6, h7, h8, h9, h10, h11, h12, h13, h14, h15, h16, h17, h18, h19, h20, h21, h22, h23, h24, h25, h26, h27, h28, h29, h30, h31, h32, h33, h34, h35, h36, h37, h38, h39, h40⟩ := h
  exact ⟨h0, h1, h2, h3, h4, h5, h6, h7, h8, h9, h10, h11, h12, h13, h14, h15, h16, h17, h18, h19, h20, h21, h22, h23, h24, h25, h26, h27, h28, h29, h30, h31, h32, h33, h34, h35, h36, h37, h38, h39, h40⟩
theorem ip_4910 {S : Nat} {sc : Nat → Int32} {ar : Nat → Nat → Int32} {v : Int32} (h : Iv S sc ar) : Iv S (upd sc 4910 v) ar := by
  obtain ⟨h0, h1, h2, h3, h4, h5, h6, h7, h8, h9, h10, h11, h12, h13, h14, h15, h16, h17, h18, h19, h20, h21, h22, h23, h24, h25, h26, h27, h28, h29, h30, h31, h32, h33, h34, h35, h36, h37, h38, h39, h40⟩ := h
  exact ⟨h0, h1, h2, h3, h4, h5, h6, h7, h8, h9, h10, h11, h12, h13, h14, h15, h16, h17, h18, h19, h20, h21, h22, h23, h24, h25, h26, h27, h28, h29, h30, h31, h32, h33, h34, h35, h36, h37, h38, h39, h40⟩
theorem ip_4934 {S : Nat} {sc : Nat → Int32} {ar : Nat → Nat → Int32} {v : Int32} (h : Iv S sc ar) (hv : rl v 701) : Iv S (upd sc 4934 v) ar := by
  obtain ⟨h0, h1, h2, h3, h4, h5, h6, h7, h8, h9, h10, h11, h12, h13, h14, h15, h16, h17, h18, h19, h20, h21, h22, h23, h24, h25, h26, h27, h28, h29, h30, h31, h32, h33, h34, h35, h36, h37, h38, h39, h40⟩ := h
  exact ⟨h0, h1, h2, h3, h4, h5, h6, h7, h8, h9, h10, h11, h12, h13, h14, h15, h16, h17, hv, h19, h20, h21, h22, h23, h24, h25, h26, h27, h28, h29, h30, h31, h32, h33, h34, h35, h36, h37, h38, h39, h40⟩
theorem ip_4935 {S : Nat} {sc : Nat → Int32} {ar : Nat → Nat → Int32} {v : Int32} (h : Iv S sc ar) (hv : rl v 401) : Iv S (upd sc 4935 v) ar := by
  obtain ⟨h0, h1, h2, h3, h4, h5, h6, h7, h8, h9, h10, h11, h12, h13, h14, h15, h16, h17, h18, h19, h20, h21, h22, h23, h24, h25, h26, h27, h28, h29, h30, h31, h32, h33, h34, h35, h36, h37, h38, h39, h40⟩ := h
  exact ⟨h0, h1, h2, h3, h4, h5, h6, h7, h8, h9, h10, h11, h12, h13, h14, h15, h16, h17, h18, hv, h20, h21, h22, h23, h24, h25, h26, h27, h28, h29, h30, h31, h32, h33, h34, h35, h36, h37, h38, h39, h40⟩
theorem ip_4936 {S : Nat} {sc : Nat → Int32} {ar : Nat → Nat → Int32} {v : Int32} (h : Iv S sc ar) (hv : rl v 401) : Iv S (upd sc 4936 v) ar := by
  obtain ⟨h0, h1, h2, h3, h4, h5, h6, h7, h8, h9, h10, h11, h12, h13, h14, h15, h16, h17, h18, h19, h20, h21, h22, h23, h24, h25, h26, h27, h28, h29, h30, h31, h32, h33, h34, h35, h36, h37, h38, h39, h40⟩ := h
  exact ⟨h0, h1, h2, h3, h4, h5, h6, h7, h8, h9, h10, h11, h12, h13, h14, h15, h16, h17, h18, h19, hv, h21, h22, h23, h24, h25, h26, h27, h28, h29, h30, h31, h32, h33, h34, h35, h36, h37, h38, h39, h40⟩
theorem ip_4937 {S : Nat} {sc : Nat → Int32} {ar : Nat → Nat → Int32} {v : Int32} (h : Iv S sc ar) : Iv S (upd sc 4937 v) ar := by
  obtain ⟨h0, h1, h2, h3, h4, h5, h6, h7, h8, h9, h10, h11, h12, h13, h14, h15, h16, h17, h18, h19, h20, h21, h22, h23, h24, h25, h26, h27, h28, h29, h30, h31, h32, h33, h34, h35, h36, h37, h38, h39, h40⟩ := h
  exact ⟨h0, h1, h2, h3, h4, h5, h6, h7, h8, h9, h10, h11, h12, h13, h14, h15, h16, h17, h18, h19, h20, h21, h22, h23, h24, h25, h26, h27, h28, h29, h30, h31, h32, h33, h34, h35, h36, h37, h38, h39, h40⟩
theorem ip_4938 {S : Nat} {sc : Nat → Int32} {ar : Nat → Nat → Int32} {v : Int32} (h : Iv S sc ar) : Iv S (upd sc 4938 v) ar := by
  obtain ⟨h0, h1, h2, h3, h4, h5, h6, h7, h8, h9, h10, h11, h12, h13, h14, h15, h16, h17, h18, h19, h20, h21, h22, h23, h24, h25, h26, h27, h28, h29, h30, h31, h32, h33, h34, h35, h36, h37, h38, h39, h40⟩ := h
  exact ⟨h0, h1, h2, h3, h4, h5, h6, h7, h8, h9, h10, h11, h12, h13, h14, h15, h16, h17, h18, h19, h20, h21, h22, h23, h24, h25, h26, h27, h28, h29, h30, h31, h32, h33, h34, h35, h36, h37, h38, h39, h40⟩
theorem ip_4939 {S : Nat} {sc : Nat → Int32} {ar : Nat → Nat → Int32} {v : Int32} (h : Iv S sc ar) (hv : rl v 401) : Iv S (upd sc 4939 v) ar := by
  obtain ⟨h0, h1, h2, h3, h4, h5, h6, h7, h8, h9, h10, h11, h12, h13, h14, h15, h16, h17, h18, h19, h20, h21, h22, h23, h24, h25, h26, h27, h28, h29, h30, h31, h32, h33, h34, h35, h36, h37, h38, h39, h40⟩ := h
  exact ⟨h0, h1, h2, h3, h4, h5, h6, h7, h8, h9, h10, h11, h12, h13, h14, h15, h16, h17, h18, h19, h20, hv, h22, h23, h24, h25, h26, h27, h28, h29, h30, h31, h32, h33, h34, h35, h36, h37, h38, h39, h40⟩
theorem ip_4940 {S : Nat} {sc : Nat → Int32} {ar : Nat → Nat → Int32} {v : Int32} (h : Iv S sc ar) (hv : rl v 401) : Iv S (upd sc 4940 v) ar := by
  obtain ⟨h0, h1, h2, h3, h4, h5, h6, h7, h8, h9, h10, h11, h12, h13, h14, h15, h16, h17, h18, h19, h20, h21, h22, h23, h24, h25, h26, h27, h28, h29, h30, h31, h32, h33, h34, h35, h36, h37, h38, h39, h40⟩ := h
  exact ⟨h0, h1, h2, h3, h4, h5, h6, h7, h8, h9, h10, h11, h12, h13, h14, h15, h16, h17, h18, h19, h20, h21, hv, h23, h24, h25, h26, h27, h28, h29, h30, h31, h32, h33, h34, h35, h36, h37, h38, h39, h40⟩
theorem ip_4941 {S : Nat} {sc : Nat → Int32} {ar : Nat → Nat → Int32} {v : Int32} (h : Iv S sc ar) : Iv S (upd sc 4941 v) ar := by
  obtain ⟨h0, h1, h2, h3, h4, h5, h6, h7, h8, h9, h10, h11, h12, h13, h14, h15, h16, h17, h18, h19, h20, h21, h22, h23, h24, h25, h26, h27, h28, h29, h30, h31, h32, h33, h34, h35, h36, h37, h38, h39, h40⟩ := h
  exact ⟨h0, h1, h2, h3, h4, h5, h6, h7, h8, h9, h10, h11, h12, h13, h14, h15, h16, h17, h18, h19, h20, h21, h22, h23, h24, h25, h26, h27, h28, h29, h30, h31, h32, h33, h34, h35, h36, h37, h38, h39, h40⟩
theorem ip_4942 {S : Nat} {sc : Nat → Int32} {ar : Nat → Nat → Int32} {v : Int32} (h : Iv S sc ar) : Iv S (upd sc 4942 v) ar := by
  obtain ⟨h0, h1, h2, h3, h4, h5, h6, h7, h8, h9, h10, h11, h12, h13, h14, h15, h16, h17, h18, h19, h20, h21, h22, h23, h24, h25, h26, h27, h28, h29, h30, h31, h32, h33, h34, h35, h36, h37, h38, h39, h40⟩ := h
  exact ⟨h0, h1, h2, h3, h4, h5, h6, h7, h8, h9, h10, h11, h12, h13, h14, h15, h16, h17, h18, h19, h20, h21, h22, h23, h24, h25, h26, h27, h28, h29, h30, h31, h32, h33, h34, h35, h36, h37, h38, h39, h40⟩
theorem ip_4943 {S : Nat} {sc : Nat → Int32} {ar : Nat → Nat → Int32} {v : Int32} (h : Iv S sc ar) (hv : rl v 151) : Iv S (upd sc 4943 v) ar := by
  obtain ⟨h0, h1, h2, h3, h4, h5, h6, h7, h8, h9, h10, h11, h12, h13, h14, h15, h16, h17, h18, h19, h20, h21, h22, h23, h24, h25, h26, h27, h28, h29, h30, h31, h32, h33, h34, h35, h36, h37, h38, h39, h40⟩ := h
  exact ⟨h0, h1, h2, h3, h4, h5, h6, h7, h8, h9, h10, h11, h12, h13, h14, h15, h16, h17, h18, h19, h20, h21, h22, hv, h24, h25, h26, h27, h28, h29, h30, h31, h32, h33, h34, h35, h36, h37, h38, h39, h40⟩
theorem ip_4952 {S : Nat} {sc : Nat → Int32} {ar : Nat → Nat → Int32} {v : Int32} (h : Iv S sc ar) (hv : rl v 65) : Iv S (upd sc 4952 v) ar := by
  obtain ⟨h0, h1, h2, h3, h4, h5, h6, h7, h8, h9, h10, h11, h12, h13, h14, h15, h16, h17, h18, h19, h20, h21, h22, h23, h24, h25, h26, h27, h28, h29, h30, h31, h32, h33, h34, h35, h36, h37, h38, h39, h40⟩ := h
  exact ⟨h0, h1, h2, h3, h4, h5, h6, h7, h8, h9, h10, h11, h12, h13, h14, h15, h16, h17, h18, h19, h20, h21, h22, h23, hv, h25, h26, h27, h28, h29, h30, h31, h32, h33, h34, h35, h36, h37, h38, h39, h40⟩
theorem ia_2 {S : Nat} {sc : Nat → Int32} {ar : Nat → Nat → Int32} {g : Nat → Int32} (h : Iv S sc ar) : Iv S sc (uA ar 2 g) := by
  obtain ⟨h0, h1, h2, h3, h4, h5, h6, h7, h8, h9, h10, h11, h12, h13, h14, h15, h16, h17, h18, h19, h20, h21, h22, h23, h24, h25, h26, h27, h28, h29, h30, h31, h32, h33, h34, h35, h36, h37, h38, h39, h40⟩ := h
  exact ⟨h0, h1, h2, h3, h4, h5, h6, h7, h8, h9, h10, h11, h12, h13, h14, h15, h16, h17, h18, h19, h20, h21, h22, h23, h24, h25, h26, h27, h28, h29, h30, h31, h32, h33, h34, h35, h36, h37, h38, h39, h40⟩
theorem ia_3 {S : Nat} {sc : Nat → Int32} {ar : Nat → Nat → Int32} {g : Nat → Int32} (h : Iv S sc ar) : Iv S sc (uA ar 3 g) := by
  obtain ⟨h0, h1, h2, h3, h4, h5, h6, h7, h8, h9, h10, h11, h12, h13, h14, h15, h16, h17, h18, h19, h20, h21, h22, h23, h24, h25, h26, h27, h28, h29, h30, h31, h32, h33, h34, h35, h36, h37, h38, h39, h40⟩ := h
  exact ⟨h0, h1, h2, h3, h4, h5, h6, h7, h8, h9, h10, h11, h12, h13, h14, h15, h16, h17, h18, h19, h20, h21, h22, h23, h24, h25, h26, h27, h28, h29, h30, h31, h32, h33, h34, h35, h36, h37, h38, h39, h40⟩
theorem ia_4 {S : Nat} {sc : Nat → Int32} {ar : Nat → Nat → Int32} {g : Nat → Int32} (h : Iv S sc ar) : Iv S sc (uA ar 4 g) := by
  obtain ⟨h0, h1, h2, h3, h4, h5, h6, h7, h8, h9, h10, h11, h12, h13, h14, h15, h16, h17, h18, h19, h20, h21, h22, h23, h24, h25, h26, h27, h28, h29, h30, h31, h32, h33, h34, h35, h36, h37, h38, h39, h40⟩ := h
  exact ⟨h0, h1, h2, h3, h4, h5, h6, h7, h8, h9, h10, h11, h12, h13, h14, h15, h16, h17, h18, h19, h20, h21, h22, h23, h24, h25, h26, h27, h28, h29, h30, h31, h32, h33, h34, h35, h36, h37, h38, h39, h40⟩
theorem ia_5 {S : Nat} {sc : Nat → Int32} {ar : Nat → Nat → Int32} {g : Nat → Int32} (h : Iv S sc ar) : Iv S sc (uA ar 5 g) := by
  obtain ⟨h0, h1, h2, h3, h4, h5, h6, h7, h8, h9, h10, h11, h12, h13, h14, h15, h16, h17, h18, h19, h20, h21, h22, h23, h24, h25, h26, h27, h28, h29, h30, h31, h32, h33, h34, h35, h36, h37, h38, h39, h40⟩ := h
  exact ⟨h0, h1, h2, h3, h4, h5, h6, h7, h8, h9, h10, h11, h12, h13, h14, h15, h16, h17, h18, h19, h20, h21, h22, h23, h24, h25, h26, h27, h28, h29, h30, h31, h32, h33, h34, h35, h36, h37, h38, h39, h40⟩
theorem ia_6 {S : Nat} {sc : Nat → Int32} {ar : Nat → Nat → Int32} {g : Nat → Int32} (h : Iv S sc ar) : Iv S sc (uA ar 6 g) := by
  obtain ⟨h0, h1, h2, h3, h4, h5, h6, h7, h8, h9, h10, h11, h12, h13, h14, h15, h16, h17, h18, h19, h20, h21, h22, h23, h24, h25, h26, h27, h28, h29, h30, h31, h32, h33, h34, h35, h36, h37, h38, h39, h40⟩ := h
  exact ⟨h0, h1, h2, h3, h4, h5, h6, h7, h8, h9, h10, h11, h12, h13, h14, h15, h16, h17, h18, h19, h20, h21, h22, h23, h24, h25, h26, h27, h28, h29, h30, h31, h32, h33, h34, h35, h36, h37, h38, h39, h40⟩
theorem ia_7 {S : Nat} {sc : Nat → Int32} {ar : Nat → Nat → Int32} {g : Nat → Int32} (h : Iv S sc ar) : Iv S sc (uA ar 7 g) := by
  obtain ⟨h0, h1, h2, h3, h4, h5, h6, h7, h8, h9, h10, h11, h12, h13, h14, h15, h16, h17, h18, h19, h20, h21, h22, h23, h24, h25, h26, h27, h28, h29, h30, h31, h32, h33, h34, h35, h36, h37, h38, h39, h40⟩ := h
  exact ⟨h0, h1, h2, h3, h4, h5, h6, h7, h8, h9, h10, h11, h12, h13, h14, h15, h16, h17, h18, h19, h20, h21, h22, h23, h24, h25, h26, h27, h28, h29, h30, h31, h32, h33, h34, h35, h36, h37, h38, h39, h40⟩
theorem ia_8 {S : Nat} {sc : Nat → Int32} {ar : Nat → Nat → Int32} {g : Nat → Int32} (h : Iv S sc ar) : Iv S sc (uA ar 8 g) := by
  obtain ⟨h0, h1, h2, h3, h4, h5, h6, h7, h8, h9, h10, h11, h12, h13, h14, h15, h16, h17, h18, h19, h20, h21, h22, h23, h24, h25, h26, h27, h28, h29, h30, h31, h32, h33, h34, h35, h36, h37, h38, h39, h40⟩ := h
  exact ⟨h0, h1, h2, h3, h4, h5, h6, h7, h8, h9, h10, h11, h12, h13, h14, h15, h16, h17, h18, h19, h20, h21, h22, h23, h24, h25, h26, h27, h28, h29, h30, h31, h32, h33, h34, h35, h36, h37, h38, h39, h40⟩
theorem ia_9 {S : Nat} {sc : Nat → Int32} {ar : Nat → Nat → Int32} {g : Nat → Int32} (h : Iv S sc ar) : Iv S sc (uA ar 9 g) := by
  obtain ⟨h0, h1, h2, h3, h4, h5, h6, h7, h8, h9, h10, h11, h12, h13, h14, h15, h16, h17, h18, h19, h20, h21, h22, h23, h24, h25, h26, h27, h28, h29, h30, h31, h32, h33, h34, h35, h36, h37, h38, h39, h40⟩ := h
  exact ⟨h0, h1, h2, h3, h4, h5, h6, h7, h8, h9, h10, h11, h12, h13, h14, h15, h16, h17, h18, h19, h20, h21, h22, h23, h24, h25, h26, h27, h28, h29, h30, h31, h32, h33, h34, h35, h36, h37, h38, h39, h40⟩
theorem ia_10 {S : Nat} {sc : Nat → Int32} {ar : Nat → Nat → Int32} {g : Nat → Int32} (h : Iv S sc ar) : Iv S sc (uA ar 10 g) := by
  obtain ⟨h0, h1, h2, h3, h4, h5, h6, h7, h8, h9, h10, h11, h12, h13, h14, h15, h16, h17, h18, h19, h20, h21, h22, h23, h24, h25, h26, h27, h28, h29, h30, h31, h32, h33, h34, h35, h36, h37, h38, h39, h40⟩ := h
  exact ⟨h0, h1, h2, h3, h4, h5, h6, h7, h8, h9, h10, h11, h12, h13, h14, h15, h16, h17, h18, h19, h20, h21, h22, h23, h24, h25, h26, h27, h28, h29, h30, h31, h32, h33, h34, h35, h36, h37, h38, h39, h40⟩
theorem ia_11 {S : Nat} {sc : Nat → Int32} {ar : Nat → Nat → Int32} {g : Nat → Int32} (h : Iv S sc ar) : Iv S sc (uA ar 11 g) := by
  obtain ⟨h0, h1, h2, h3, h4, h5, h6, h7, h8, h9, h10, h11, h12, h13, h14, h15, h16, h17, h18, h19, h20, h21, h22, h23, h24, h25, h26, h27, h28, h29, h30, h31, h32, h33, h34, h35, h36, h37, h38, h39, h40⟩ := h
  exact ⟨h0, h1, h2, h3, h4, h5, h6, h7, h8, h9, h10, h11, h12, h13, h14, h15, h16, h17, h18, h19, h20, h21, h22, h23, h24, h25, h26, h27, h28, h29, h30, h31, h32, h33, h34, h35, h36, h37, h38, h39, h40⟩
theorem ia_12 {S : Nat} {sc : Nat → Int32} {ar : Nat → Nat → Int32} {g : Nat → Int32} (h : Iv S sc ar) : Iv S sc (uA ar 12 g) := by
  obtain ⟨h0, h1, h2, h3, h4, h5, h6, h7, h8, h9, h10, h11, h12, h13, h14, h15, h16, h17, h18, h19, h20, h21, h22, h23, h24, h25, h26, h27, h28, h29, h30, h31, h32, h33, h34, h35, h36, h37, h38, h39, h40⟩ := h
  exact ⟨h0, h1, h2, h3, h4, h5, h6, h7, h8, h9, h10, h11, h12, h13, h14, h15, h16, h17, h18, h19, h20, h21, h22, h23, h24, h25, h26, h27, h28, h29, h30, h31, h32, h33, h34, h35, h36, h37, h38, h39, h40⟩
theorem ia_14 {S : Nat} {sc : Nat → Int32} {ar : Nat → Nat → Int32} {g : Nat → Int32} (h : Iv S sc ar) : Iv S sc (uA ar 14 g) := by
  obtain ⟨h0, h1, h2, h3, h4, h5, h6, h7, h8, h9, h10, h11, h12, h13, h14, h15, h16, h17, h18, h19, h20, h21, h22, h23, h24, h25, h26, h27, h28, h29, h30, h31, h32, h33, h34, h35, h36, h37, h38, h39, h40⟩ := h
  exact ⟨h0, h1, h2, h3, h4, h5, h6, h7, h8, h9, h10, h11, h12, h13, h14, h15, h16, h17, h18, h19, h20, h21, h22, h23, h24, h25, h26, h27, h28, h29, h30, h31, h32, h33, h34, h35, h36, h37, h38, h39, h40⟩
theorem ia_15 {S : Nat} {sc : Nat → Int32} {ar : Nat → Nat → Int32} {g : Nat → Int32} (h : Iv S sc ar) : Iv S sc (uA ar 15 g) := by
  obtain ⟨h0, h1, h2, h3, h4, h5, h6, h7, h8, h9, h10, h11, h12, h13, h14, h15, h16, h17, h18, h19, h20, h21, h22, h23, h24, h25, h26, h27, h28, h29, h30, h31, h32, h33, h34, h35, h36, h37, h38, h39, h40⟩ := h
  exact ⟨h0, h1, h2, h3, h4, h5, h6, h7, h8, h9, h10, h11, h12, h13, h14, h15, h16, h17, h18, h19, h20, h21, h22, h23, h24, h25, h26, h27, h28, h29, h30, h31, h32, h33, h34, h35, h36, h37, h38, h39, h40⟩
theorem ia_16 {S : Nat} {sc : Nat → Int32} {ar : Nat → Nat → Int32} {i : Nat} {v : Int32} (h : Iv S sc ar) (hv : rl v S) : Iv S sc (uA ar 16 (upd (ar 16) i v)) := by
  obtain ⟨h0, h1, h2, h3, h4, h5, h6, h7, h8, h9, h10, h11, h12, h13, h14, h15, h16, h17, h18, h19, h20, h21, h22, h23, h24, h25, h26, h27, h28, h29, h30, h31, h32, h33, h34, h35, h36, h37, h38, h39, h40⟩ := h
  exact ⟨h0, h1, h2, h3, h4, h5, h6, h7, h8, h9, h10, h11, h12, h13, h14, h15, h16, h17, h18, h19, h20, h21, h22, h23, h24, up_at (P := fun x => rl x S) h25 hv, h26, h27, h28, h29, h30, h31, h32, h33, h34, h35, h36, h37, h38, h39, h40⟩
theorem ig_16 {S : Nat} {sc : Nat → Int32} {ar : Nat → Nat → Int32} {g : Nat → Int32} (h : Iv S sc ar) (hv : ∀ j, rl (g j) S) : Iv S sc (uA ar 16 g) := by
  obtain ⟨h0, h1, h2, h3, h4, h5, h6, h7, h8, h9, h10, h11, h12, h13, h14, h15, h16, h17, h18, h19, h20, h21, h22, h23, h24, h25, h26, h27, h28, h29, h30, h31, h32, h33, h34, h35, h36, h37, h38, h39, h40⟩ := h
  exact ⟨h0, h1, h2, h3, h4, h5, h6, h7, h8, h9, h10, h11, h12, h13, h14, h15, h16, h17, h18, h19, h20, h21, h22, h23, h24, hv, h26, h27, h28, h29, h30, h31, h32, h33, h34, h35, h36, h37, h38, h39, h40⟩
theorem ia_17 {S : Nat} {sc : Nat → Int32} {ar : Nat → Nat → Int32} {i : Nat} {v : Int32} (h : Iv S sc ar) (hv : rq v S) : Iv S sc (uA ar 17 (upd (ar 17) i v)) := by
  obtain ⟨h0, h1, h2, h3, h4, h5, h6, h7, h8, h9, h10, h11, h12, h13, h14, h15, h16, h17, h18, h19, h20, h21, h22, h23, h24, h25, h26, h27, h28, h29, h30, h31, h32, h33, h34, h35, h36, h37, h38, h39, h40⟩ := h
  exact ⟨h0, h1, h2, h3, h4, h5, h6, h7, h8, h9, h10, h11, h12, h13, h14, h15, h16, h17, h18, h19, h20, h21, h22, h23, h24, h25, up_at (P := fun x => rq x S) h26 hv, h27, h28, h29, h30, h31, h32, h33, h34, h35, h36, h37, h38, h39, h40⟩
theorem ig_17 {S : Nat} {sc : Nat → Int32} {ar : Nat → Nat → Int32} {g : Nat → Int32} (h : Iv S sc ar) (hv : ∀ j, rq (g j) S) : Iv S sc (uA ar 17 g) := by
  obtain ⟨h0, h1, h2, h3, h4, h5, h6, h7, h8, h9, h10, h11, h12, h13, h14, h15, h16, h17, h18, h19, h20, h21, h22, h23, h24, h25, h26, h27, h28, h29, h30, h31, h32, h33, h34, h35, h36, h37, h38, h39, h40⟩ := h
  exact ⟨h0, h1, h2, h3, h4, h5, h6, h7, h8, h9, h10, h11, h12, h13, h14, h15, h16, h17, h18, h19, h20, h21, h22, h23, h24, h25, hv, h27, h28, h29, h30, h31, h32, h33, h34, h35, h36, h37, h38, h39, h40⟩
theorem ia_18 {S : Nat} {sc : Nat → Int32} {ar : Nat → Nat → Int32} {g : Nat → Int32} (h : Iv S sc ar) : Iv S sc (uA ar 18 g) := by
  obtain ⟨h0, h1, h2, h3, h4, h5, h6, h7, h8, h9, h10, h11, h12, h13, h14, h15, h16, h17, h18, h19, h20, h21, h22, h23, h24, h25, h26, h27, h28, h29, h30, h31, h32, h33, h34, h35, h36, h37, h38, h39, h40⟩ := h
  exact ⟨h0, h1, h2, h3, h4, h5, h6, h7, h8, h9, h10, h11, h12, h13, h14, h15, h16, h17, h18, h19, h20, h21, h22, h23, h24, h25, h26, h27, h28, h29, h30, h31, h32, h33, h34, h35, h36, h37, h38, h39, h40⟩
theorem ia_19 {S : Nat} {sc : Nat → Int32} {ar : Nat → Nat → Int32} {g : Nat → Int32} (h : Iv S sc ar) : Iv S sc (uA ar 19 g) := by
  obtain ⟨h0, h1, h2, h3, h4, h5, h6, h7, h8, h9, h10, h11, h12, h13, h14, h15, h16, h17, h18, h19, h20, h21, h22, h23, h24, h25, h26, h27, h28, h29, h30, h31, h32, h33, h34, h35, h36, h37, h38, h39, h40⟩ := h
  exact ⟨h0, h1, h2, h3, h4, h5, h6, h7, h8, h9, h10, h11, h12, h13, h14, h15, h16, h17, h18, h19, h20, h21, h22, h23, h24, h25, h26, h27, h28, h29, h30, h31, h32, h33, h34, h35, h36, h37, h38, h39, h40⟩
theorem ia_20 {S : Nat} {sc : Nat → Int32} {ar : Nat → Nat → Int32} {g : Nat → Int32} (h : Iv S sc ar) : Iv S sc (uA ar 20 g) := by
  obtain ⟨h0, h1, h2, h3, h4, h5, h6, h7, h8, h9, h10, h11, h12, h13, h14, h15, h16, h17, h18, h19, h20, h21, h22, h23, h24, h25, h26, h27, h28, h29, h30, h31, h32, h33, h34, h35, h36, h37, h38, h39, h40⟩ := h
  exact ⟨h0, h1, h2, h3, h4, h5, h6, h7, h8, h9, h10, h11, h12, h13, h14, h15, h16, h17, h18, h19, h20, h21, h22, h23, h24, h25, h26, h27, h28, h29, h30, h31, h32, h33, h34, h35, h36, h37, h38, h39, h40⟩
theorem ia_21 {S : Nat} {sc : Nat → Int32} {ar : Nat → Nat → Int32} {g : Nat → Int32} (h : Iv S sc ar) : Iv S sc (uA ar 21 g) := by
  obtain ⟨h0, h1, h2, h3, h4, h5, h6, h7, h8, h9, h10, h11, h12, h13, h14, h15, h16, h17, h18, h19, h20, h21, h22, h23, h24, h25, h26, h27, h28, h29, h30, h31, h32, h33, h34, h35, h36, h37, h38, h39, h40⟩ := h
  exact ⟨h0, h1, h2, h3, h4, h5, h6, h7, h8, h9, h10, h11, h12, h13, h14, h15, h16, h17, h18, h19, h20, h21, h22, h23, h24, h25, h26, h27, h28, h29, h30, h31, h32, h33, h34, h35, h36, h37, h38, h39, h40⟩
theorem ia_23 {S : Nat} {sc : Nat → Int32} {ar : Nat → Nat → Int32} {g : Nat → Int32} (h : Iv S sc ar) : Iv S sc (uA ar 23 g) := by
  obtain ⟨h0, h1, h2, h3, h4, h5, h6, h7, h8, h9, h10, h11, h12, h13, h14, h15, h16, h17, h18, h19, h20, h21, h22, h23, h24, h25, h26, h27, h28, h29, h30, h31, h32, h33, h34, h35, h36, h37, h38, h39, h40⟩ := h
  exact ⟨h0, h1, h2, h3, h4, h5, h6, h7, h8, h9, h10, h11, h12, h13, h14, h15, h16, h17, h18, h19, h20, h21, h22, h23, h24, h25, h26, h27, h28, h29, h30, h31, h32, h33, h34, h35, h36, h37, h38, h39, h40⟩
theorem ia_25 {S : Nat} {sc : Nat → Int32} {ar : Nat → Nat → Int32} {g : Nat → Int32} (h : Iv S sc ar) : Iv S sc (uA ar 25 g) := by
  obtain ⟨h0, h1, h2, h3, h4, h5, h6, h7, h8, h9, h10, h11, h12, h13, h14, h15, h16, h17, h18, h19, h20, h21, h22, h23, h24, h25, h26, h27, h28, h29, h30, h31, h32, h33, h34, h35, h36, h37, h38, h39, h40⟩ := h
  exact ⟨h0, h1, h2, h3, h4, h5, h6, h7, h8, h9, h10, h11, h12, h13, h14, h15, h16, h17, h18, h19, h20, h21, h22, h23, h24, h25, h26, h27, h28, h29, h30, h31, h32, h33, h34, h35, h36, h37, h38, h39, h40⟩
theorem ia_27 {S : Nat} {sc : Nat → Int32} {ar : Nat → Nat → Int32} {g : Nat → Int32} (h : Iv S sc ar) : Iv S sc (uA ar 27 g) := by
  obtain ⟨h0, h1, h2, h3, h4, h5, h6, h7, h8, h9, h10, h11, h12, h13, h14, h15, h16, h17, h18, h19, h20, h21, h22, h23, h24, h25, h26, h27, h28, h29, h30, h31, h32, h33, h34, h35, h36, h37, h38, h39, h40⟩ := h
  exact ⟨h0, h1, h2, h3, h4, h5, h6, h7, h8, h9, h10, h11, h12, h13, h14, h15, h16, h17, h18, h19, h20, h21, h22, h23, h24, h25, h26, h27, h28, h29, h30, h31, h32, h33, h34, h35, h36, h37, h38, h39, h40⟩
theorem ia_28 {S : Nat} {sc : Nat → Int32} {ar : Nat → Nat → Int32} {g : Nat → Int32} (h : Iv S sc ar) : Iv S sc (uA ar 28 g) := by
  obtain ⟨h0, h1, h2, h3, h4, h5, h6, h7, h8, h9, h10, h11, h12, h13, h14, h15, h16, h17, h18, h19, h20, h21, h22, h23, h24, h25, h26, h27, h28, h29, h30, h31, h32, h33, h34, h35, h36, h37, h38, h39, h40⟩ := h
  exact ⟨h0, h1, h2, h3, h4, h5, h6, h7, h8, h9, h10, h11, h12, h13, h14, h15, h16, h17, h18, h19, h20, h21, h22, h23, h24, h25, h26, h27, h28, h29, h30, h31, h32, h33, h34, h35, h36, h37, h38, h39, h40⟩
theorem ia_30 {S : Nat} {sc : Nat → Int32} {ar : Nat → Nat → Int32} {g : Nat → Int32} (h : Iv S sc ar) : Iv S sc (uA ar 30 g) := by
  obtain ⟨h0, h1, h2, h3, h4, h5, h6, h7, h8, h9, h10, h11, h12, h13, h14, h15, h16, h17, h18, h19, h20, h21, h22, h23, h24, h25, h26, h27, h28, h29, h30, h31, h32, h33, h34, h35, h36, h37, h38, h39, h40⟩ := h
  exact ⟨h0, h1, h2, h3, h4, h5, h6, h7, h8, h9, h10, h11, h12, h13, h14, h15, h16, h17, h18, h19, h20, h21, h22, h23, h24, h25, h26, h27, h28, h29, h30, h31, h32, h33, h34, h35, h36, h37, h38, h39, h40⟩
theorem ia_31 {S : Nat} {sc : Nat → Int32} {ar : Nat → Nat → Int32} {i : Nat} {v : Int32} (h : Iv S sc ar) (hv : rl v 2401) : Iv S sc (uA ar 31 (upd (ar 31) i v)) := by
  obtain ⟨h0, h1, h2, h3, h4, h5, h6, h7, h8, h9, h10, h11, h12, h13, h14, h15, h16, h17, h18, h19, h20, h21, h22, h23, h24, h25, h26, h27, h28, h29, h30, h31, h32, h33, h34, h35, h36, h37, h38, h39, h40⟩ := h
  exact ⟨h0, h1, h2, h3, h4, h5, h6, h7, h8, h9, h10, h11, h12, h13, h14, h15, h16, h17, h18, h19, h20, h21, h22, h23, h24, h25, h26, h27, h28, up_at (P := fun x => rl x 2401) h29 hv, h30, h31, h32, h33, h34, h35, h36, h37, h38, h39, h40⟩
theorem ig_31 {S : Nat} {sc : Nat → Int32} {ar : Nat → Nat → Int32} {g : Nat → Int32} (h : Iv S sc ar) (hv : ∀ j, rl (g j) 2401) : Iv S sc (uA ar 31 g) := by
  obtain ⟨h0, h1, h2, h3, h4, h5, h6, h7, h8, h9, h10, h11, h12, h13, h14, h15, h16, h17, h18, h19, h20, h21, h22, h23, h24, h25, h26, h27, h28, h29, h30, h31, h32, h33, h34, h35, h36, h37, h38, h39, h40⟩ := h
  exact ⟨h0, h1, h2, h3, h4, h5, h6, h7, h8, h9, h10, h11, h12, h13, h14, h15, h16, h17, h18, h19, h20, h21, h22, h23, h24, h25, h26, h27, h28, hv, h30, h31, h32, h33, h34, h35, h36, h37, h38, h39, h40⟩
theorem ia_32 {S : Nat} {sc : Nat → Int32} {ar : Nat → Nat → Int32} {g : Nat → Int32} (h : Iv S sc ar) : Iv S sc (uA ar 32 g) := by
  obtain ⟨h0, h1, h2, h3, h4, h5, h6, h7, h8, h9, h10, h11, h12, h13, h14, h15, h16, h17, h18, h19, h20, h21, h22, h23, h24, h25, h26, h27, h28, h29, h30, h31, h32, h33, h34, h35, h36, h37, h38, h39, h40⟩ := h
  exact ⟨h0, h1, h2, h3, h4, h5, h6, h7, h8, h9, h10, h11, h12, h13, h14, h15, h16, h17, h18, h19, h20, h21, h22, h23, h24, h25, h26, h27, h28, h29, h30, h31, h32, h33, h34, h35, h36, h37, h38, h39, h40⟩
theorem ia_34 {S : Nat} {sc : Nat → Int32} {ar : Nat → Nat → Int32} {g : Nat → Int32} (h : Iv S sc ar) : Iv S sc (uA ar 34 g) := by
  obtain ⟨h0, h1, h2, h3, h4, h5, h6, h7, h8, h9, h10, h11, h12, h13, h14, h15, h16, h17, h18, h19, h20, h21, h22, h23, h24, h25, h26, h27, h28, h29, h30, h31, h32, h33, h34, h35, h36, h37, h38, h39, h40⟩ := h
  exact ⟨h0, h1, h2, h3, h4, h5, h6, h7, h8, h9, h10, h11, h12, h13, h14, h15, h16, h17, h18, h19, h20, h21, h22, h23, h24, h25, h26, h27, h28, h29, h30, h31, h32, h33, h34, h35, h36, h37, h38, h39, h40⟩
theorem ia_35 {S : Nat} {sc : Nat → Int32} {ar : Nat → Nat → Int32} {g : Nat → Int32} (h : Iv S sc ar) : Iv S sc (uA ar 35 g) := by
  obtain ⟨h0, h1, h2, h3, h4, h5, h6, h7, h8, h9, h10, h11, h12, h13, h14, h15, h16, h17, h18, h19, h20, h21, h22, h23, h24, h25, h26, h27, h28, h29, h30, h31, h32, h33, h34, h35, h36, h37, h38, h39, h40⟩ := h
  exact ⟨h0, h1, h2, h3, h4, h5, h6, h7, h8, h9, h10, h11, h12, h13, h14, h15, h16, h17, h18, h19, h20, h21, h22, h23, h24, h25, h26, h27, h28, h29, h30, h31, h32, h33, h34, h35, h36, h37, h38, h39, h40⟩
theorem ia_37 {S : Nat} {sc : Nat → Int32} {ar : Nat → Nat → Int32} {g : Nat → Int32} (h : Iv S sc ar) : Iv S sc (uA ar 37 g) := by
  obtain ⟨h0, h1, h2, h3, h4, h5, h6, h7, h8, h9, h10, h11, h12, h13, h14, h15, h16, h17, h18, h19, h20, h21, h22, h23, h24, h25, h26, h27, h28, h29, h30, h31, h32, h33, h34, h35, h36, h37, h38, h39, h40⟩ := h
  exact ⟨h0, h1, h2, h3, h4, h5, h6, h7, h8, h9, h10, h11, h12, h13, h14, h15, h16, h17, h18, h19, h20, h21, h22, h23, h24, h25, h26, h27, h28, h29, h30, h31, h32, h33, h34, h35, h36, h37, h38, h39, h40⟩
theorem ia_38 {S : Nat} {sc : Nat → Int32} {ar : Nat → Nat → Int32} {i : Nat} {v : Int32} (h : Iv S sc ar) (hv : rl v S) : Iv S sc (uA ar 38 (upd (ar 38) i v)) := by
  obtain ⟨h0, h1, h2, h3, h4, h5, h6, h7, h8, h9, h10, h11, h12, h13, h14, h15, h16, h17, h18, h19, h20, h21, h22, h23, h24, h25, h26, h27, h28, h29, h30, h31, h32, h33, h34, h35, h36, h37, h38, h39, h40⟩ := h
  exact ⟨h0, h1, h2, h3, h4, h5, h6, h7, h8, h9, h10, h11, h12, h13, h14, h15, h16, h17, h18, h19, h20, h21, h22, h23, h24, h25, h26, h27, up_at (P := fun x => rl x S) h28 hv, h29, h30, h31, h32, h33, h34, h35, h36, h37, h38, h39, h40⟩
theorem ig_38 {S : Nat} {sc : Nat → Int32} {ar : Nat → Nat → Int32} {g : Nat → Int32} (h : Iv S sc ar) (hv : ∀ j, rl (g j) S) : Iv S sc (uA ar 38 g) := by
  obtain ⟨h0, h1, h2, h3, h4, h5, h6, h7, h8, h9, h10, h11, h12, h13, h14, h15, h16, h17, h18, h19, h20, h21, h22, h23, h24, h25, h26, h27, h28, h29, h30, h31, h32, h33, h34, h35, h36, h37, h38, h39, h40⟩ := h
  exact ⟨h0, h1, h2, h3, h4, h5, h6, h7, h8, h9, h10, h11, h12, h13, h14, h15, h16, h17, h18, h19, h20, h21, h22, h23, h24, h25, h26, h27, hv, h29, h30, h31, h32, h33, h34, h35, h36, h37, h38, h39, h40⟩
theorem ia_40 {S : Nat} {sc : Nat → Int32} {ar : Nat → Nat → Int32} {g : Nat → Int32} (h : Iv S sc ar) : Iv S sc (uA ar 40 g) := by
  obtain ⟨h0, h1, h2, h3, h4, h5, h6, h7, h8, h9, h10, h11, h12, h13, h14, h15, h16, h17, h18, h19, h20, h21, h22, h23, h24, h25, h26, h27, h28, h29, h30, h31, h32, h33, h34, h35, h36, h37, h38, h39, h40⟩ := h
  exact ⟨h0, h1, h2, h3, h4, h5, h6, h7, h8, h9, h10, h11, h12, h13, h14, h15, h16, h17, h18, h19, h20, h21, h22, h23, h24, h25, h26, h27, h28, h29, h30, h31, h32, h33, h34, h35, h36, h37, h38, h39, h40⟩
theorem ia_41 {S : Nat} {sc : Nat → Int32} {ar : Nat → Nat → Int32} {g : Nat → Int32} (h : Iv S sc ar) : Iv S sc (uA ar 41 g) := by
  obtain ⟨h0, h1, h2, h3, h4, h5, h6, h7, h8, h9, h10, h11, h12, h13, h14, h15, h16, h17, h18, h19, h20, h21, h22, h23, h24, h25, h26, h27, h28, h29, h30, h31, h32, h33, h34, h35, h36, h37, h38, h39, h40⟩ := h
  exact ⟨h0, h1, h2, h3, h4, h5, h6, h7, h8, h9, h10, h11, h12, h13, h14, h15, h16, h17, h18, h19, h20, h21, h22, h23, h24, h25, h26, h27, h28, h29, h30, h31, h32, h33, h34, h35, h36, h37, h38, h39, h40⟩
theorem ia_42 {S : Nat} {sc : Nat → Int32} {ar : Nat → Nat → Int32} {g : Nat → Int32} (h : Iv S sc ar) : Iv S sc (uA ar 42 g) := by
  obtain ⟨h0, h1, h2, h3, h4, h5, h6, h7, h8, h9, h10, h11, h12, h13, h14, h15, h16, h17, h18, h19, h20, h21, h22, h23, h24, h25, h26, h27, h28, h29, h30, h31, h32, h33, h34, h35, h36, h37, h38, h39, h40⟩ := h
  exact ⟨h0, h1, h2, h3, h4, h5, h6, h7, h8, h9, h10, h11, h12, h13, h14, h15, h16, h17, h18, h19, h20, h21, h22, h23, h24, h25, h26, h27, h28, h29, h30, h31, h32, h33, h34, h35, h36, h37, h38, h39, h40⟩
theorem ia_43 {S : Nat} {sc : Nat → Int32} {ar : Nat → Nat → Int32} {g : Nat → Int32} (h : Iv S sc ar) : Iv S sc (uA ar 43 g) := by
  obtain ⟨h0, h1, h2, h3, h4, h5, h6, h7, h8, h9, h10, h11, h12, h13, h14, h15, h16, h17, h18, h19, h20, h21, h22, h23, h24, h25, h26, h27, h28, h29, h30, h31, h32, h33, h34, h35, h36, h37, h38, h39, h40⟩ := h
  exact ⟨h0, h1, h2, h3, h4, h5, h6, h7, h8, h9, h10, h11, h12, h13, h14, h15, h16, h17, h18, h19, h20, h21, h22, h23, h24, h25, h26, h27, h28, h29, h30, h31, h32, h33, h34, h35, h36, h37, h38, h39, h40⟩
theorem ia_44 {S : Nat} {sc : Nat → Int32} {ar : Nat → Nat → Int32} {g : Nat → Int32} (h : Iv S sc ar) : Iv S sc (uA ar 44 g) := by
  obtain ⟨h0, h1, h2, h3, h4, h5, h6, h7, h8, h9, h10, h11, h12, h13, h14, h15, h16, h17, h18, h19, h20, h21, h22, h23, h24, h25, h26, h27, h28, h29, h30, h31, h32, h33, h34, h35, h36, h37, h38, h39, h40⟩ := h
  exact ⟨h0, h1, h2, h3, h4, h5, h6, h7, h8, h9, h10, h11, h12, h13, h14, h15, h16, h17, h18, h19, h20, h21, h22, h23, h24, h25, h26, h27, h28, h29, h30, h31, h32, h33, h34, h35, h36, h37, h38, h39, h40⟩
theorem ia_45 {S : Nat} {sc : Nat → Int32} {ar : Nat → Nat → Int32} {g : Nat → Int32} (h : Iv S sc ar) : Iv S sc (uA ar 45 g) := by
  obtain ⟨h0, h1, h2, h3, h4, h5, h6, h7, h8, h9, h10, h11, h12, h13, h14, h15, h16, h17, h18, h19, h20, h21, h22, h23, h24, h25, h26, h27, h28, h29, h30, h31, h32, h33, h34, h35, h36, h37, h38, h39, h40⟩ := h
  exact ⟨h0, h1, h2, h3, h4, h5, h6, h7, h8, h9, h10, h11, h12, h13, h14, h15, h16, h17, h18, h19, h20, h21, h22, h23, h24, h25, h26, h27, h28, h29, h30, h31, h32, h33, h34, h35, h36, h37, h38, h39, h40⟩
theorem ia_46 {S : Nat} {sc : Nat → Int32} {ar : Nat → Nat → Int32} {i : Nat} {v : Int32} (h : Iv S sc ar) (hv : rt v (2 * S)) : Iv S sc (uA ar 46 (upd (ar 46) i v)) := by
  obtain ⟨h0, h1, h2, h3, h4, h5, h6, h7, h8, h9, h10, h11, h12, h13, h14, h15, h16, h17, h18, h19, h20, h21, h22, h23, h24, h25, h26, h27, h28, h29, h30, h31, h32, h33, h34, h35, h36, h37, h38, h39, h40⟩ := h
  exact ⟨h0, h1, h2, h3, h4, h5, h6, h7, h8, h9, h10, h11, h12, h13, h14, h15, h16, h17, h18, h19, h20, h21, h22, h23, h24, h25, h26, h27, h28, h29, h30, up_at (P := fun x => rt x (2 * S)) h31 hv, h32, h33, h34, h35, h36, h37, h38, h39, h40⟩
theorem ig_46 {S : Nat} {sc : Nat → Int32} {ar : Nat → Nat → Int32} {g : Nat → Int32} (h : Iv S sc ar) (hv : ∀ j, rt (g j) (2 * S)) : Iv S sc (uA ar 46 g) := by
  obtain ⟨h0, h1, h2, h3, h4, h5, h6, h7, h8, h9, h10, h11, h12, h13, h14, h15, h16, h17, h18, h19, h20, h21, h22, h23, h24, h25, h26, h27, h28, h29, h30, h31, h32, h33, h34, h35, h36, h37, h38, h39, h40⟩ := h
  exact ⟨h0, h1, h2, h3, h4, h5, h6, h7, h8, h9, h10, h11, h12, h13, h14, h15, h16, h17, h18, h19, h20, h21, h22, h23, h24, h25, h26, h27, h28, h29, h30, hv, h32, h33, h34, h35, h36, h37, h38, h39, h40⟩
theorem ia_47 {S : Nat} {sc : Nat → Int32} {ar : Nat → Nat → Int32} {i : Nat} {v : Int32} (h : Iv S sc ar) (hv : rl v (2 * S)) : Iv S sc (uA ar 47 (upd (ar 47) i v)) := by
  obtain ⟨h0, h1, h2, h3, h4, h5, h6, h7, h8, h9, h10, h11, h12, h13, h14, h15, h16, h17, h18, h19, h20, h21, h22, h23, h24, h25, h26, h27, h28, h29, h30, h31, h32, h33, h34, h35, h36, h37, h38, h39, h40⟩ := h
  exact ⟨h0, h1, h2, h3, h4, h5, h6, h7, h8, h9, h10, h11, h12, h13, h14, h15, h16, h17, h18, h19, h20, h21, h22, h23, h24, h25, h26, h27, h28, h29, up_at (P := fun x => rl x (2 * S)) h30 hv, h31, h32, h33, h34, h35, h36, h37, h38, h39, h40⟩
theorem ig_47 {S : Nat} {sc : Nat → Int32} {ar : Nat → Nat → Int32} {g : Nat → Int32} (h : Iv S sc ar) (hv : ∀ j, rl (g j) (2 * S)) : Iv S sc (uA ar 47 g) := by
  obtain ⟨h0, h1, h2, h3, h4, h5, h6, h7, h8, h9, h10, h11, h12, h13, h14, h15, h16, h17, h18, h19, h20, h21, h22, h23, h24, h25, h26, h27, h28, h29, h30, h31, h32, h33, h34, h35, h36, h37, h38, h39, h40⟩ := h
  exact ⟨h0, h1, h2, h3, h4, h5, h6, h7, h8, h9, h10, h11, h12, h13, h14, h15, h16, h17, h18, h19, h20, h21, h22, h23, h24, h25, h26, h27, h28, h29, hv, h31, h32, h33, h34, h35, h36, h37, h38, h39, h40⟩
theorem ia_48 {S : Nat} {sc : Nat → Int32} {ar : Nat → Nat → Int32} {i : Nat} {v : Int32} (h : Iv S sc ar) (hv : rl v S) : Iv S sc (uA ar 48 (upd (ar 48) i v)) := by
  obtain ⟨h0, h1, h2, h3, h4, h5, h6, h7, h8, h9, h10, h11, h12, h13, h14, h15, h16, h17, h18, h19, h20, h21, h22, h23, h24, h25, h26, h27, h28, h29, h30, h31, h32, h33, h34, h35, h36, h37, h38, h39, h40⟩ := h
  exact ⟨h0, h1, h2, h3, h4, h5, h6, h7, h8, h9, h10, h11, h12, h13, h14, h15, h16, h17, h18, h19, h20, h21, h22, h23, h24, h25, h26, up_at (P := fun x => rl x S) h27 hv, h28, h29, h30, h31, h32, h33, h34, h35, h36, h37, h38, h39, h40⟩
theorem ig_48 {S : Nat} {sc : Nat → Int32} {ar : Nat → Nat → Int32} {g : Nat → Int32} (h : Iv S sc ar) (hv : ∀ j, rl (g j) S) : Iv S sc (uA ar 48 g) := by
  obtain ⟨h0, h1, h2, h3, h4, h5, h6, h7, h8, h9, h10, h11, h12, h13, h14, h15, h16, h17, h18, h19, h20, h21, h22, h23, h24, h25, h26, h27, h28, h29, h30, h31, h32, h33, h34, h35, h36, h37, h38, h39, h40⟩ := h
  exact ⟨h0, h1, h2, h3, h4, h5, h6, h7, h8, h9, h10, h11, h12, h13, h14, h15, h16, h17, h18, h19, h20, h21, h22, h23, h24, h25, h26, hv, h28, h29, h30, h31, h32, h33, h34, h35, h36, h37, h38, h39, h40⟩
theorem ia_51 {S : Nat} {sc : Nat → Int32} {ar : Nat → Nat → Int32} {g : Nat → Int32} (h : Iv S sc ar) : Iv S sc (uA ar 51 g) := by
  obtain ⟨h0, h1, h2, h3, h4, h5, h6, h7, h8, h9, h10, h11, h12, h13, h14, h15, h16, h17, h18, h19, h20, h21, h22, h23, h24, h25, h26, h27, h28, h29, h30, h31, h32, h33, h34, h35, h36, h37, h38, h39, h40⟩ := h
  exact ⟨h0, h1, h2, h3, h4, h5, h6, h7, h8, h9, h10, h11, h12, h13, h14, h15, h16, h17, h18, h19, h20, h21, h22, h23, h24, h25, h26, h27, h28, h29, h30, h31, h32, h33, h34, h35, h36, h37, h38, h39, h40⟩
theorem ia_52 {S : Nat} {sc : Nat → Int32} {ar : Nat → Nat → Int32} {g : Nat → Int32} (h : Iv S sc ar) : Iv S sc (uA ar 52 g) := by
  obtain ⟨h0, h1, h2, h3, h4, h5, h6, h7, h8, h9, h10, h11, h12, h13, h14, h15, h16, h17, h18, h19, h20, h21, h22, h23, h24, h25, h26, h27, h28, h29, h30, h31, h32, h33, h34, h35, h36, h37, h38, h39, h40⟩ := h
  exact ⟨h0, h1, h2, h3, h4, h5, h6, h7, h8, h9, h10, h11, h12, h13, h14, h15, h16, h17, h18, h19, h20, h21, h22, h23, h24, h25, h26, h27, h28, h29, h30, h31, h32, h33, h34, h35, h36, h37, h38, h39, h40⟩
theorem ia_53 {S : Nat} {sc : Nat → Int32} {ar : Nat → Nat → Int32} {g : Nat → Int32} (h : Iv S sc ar) : Iv S sc (uA ar 53 g) := by
  obtain ⟨h0, h1, h2, h3, h4, h5, h6, h7, h8, h9, h10, h11, h12, h13, h14, h15, h16, h17, h18, h19, h20, h21, h22, h23, h24, h25, h26, h27, h28, h29, h30, h31, h32, h33, h34, h35, h36, h37, h38, h39, h40⟩ := h
  exact ⟨h0, h1, h2, h3, h4, h5, h6, h7, h8, h9, h10, h11, h12, h13, h14, h15, h16, h17, h18, h19, h20, h21, h22, h23, h24, h25, h26, h27, h28, h29, h30, h31, h32, h33, h34, h35, h36, h37, h38, h39, h40⟩
theorem ia_54 {S : Nat} {sc : Nat → Int32} {ar : Nat → Nat → Int32} {g : Nat → Int32} (h : Iv S sc ar) : Iv S sc (uA ar 54 g) := by
  obtain ⟨h0, h1, h2, h3, h4, h5, h6, h7, h8, h9, h10, h11, h12, h13, h14, h15, h16, h17, h18, h19, h20, h21, h22, h23, h24, h25, h26, h27, h28, h29, h30, h31, h32, h33, h34, h35, h36, h37, h38, h39, h40⟩ := h
  exact ⟨h0, h1, h2, h3, h4, h5, h6, h7, h8, h9, h10, h11, h12, h13, h14, h15, h16, h17, h18, h19, h20, h21, h22, h23, h24, h25, h26, h27, h28, h29, h30, h31, h32, h33, h34, h35, h36, h37, h38, h39, h40⟩
theorem ia_55 {S : Nat} {sc : Nat → Int32} {ar : Nat → Nat → Int32} {g : Nat → Int32} (h : Iv S sc ar) : Iv S sc (uA ar 55 g) := by
  obtain ⟨h0, h1, h2, h3, h4, h5, h6, h7, h8, h9, h10, h11, h12, h13, h14, h15, h16, h17, h18, h19, h20, h21, h22, h23, h24, h25, h26, h27, h28, h29, h30, h31, h32, h33, h34, h35, h36, h37, h38, h39, h40⟩ := h
  exact ⟨h0, h1, h2, h3, h4, h5, h6, h7, h8, h9, h10, h11, h12, h13, h14, h15, h16, h17, h18, h19, h20, h21, h22, h23, h24, h25, h26, h27, h28, h29, h30, h31, h32, h33, h34, h35, h36, h37, h38, h39, h40⟩
theorem ia_56 {S : Nat} {sc : Nat → Int32} {ar : Nat → Nat → Int32} {g : Nat → Int32} (h : Iv S sc ar) : Iv S sc (uA ar 56 g) := by
  obtain ⟨h0, h1, h2, h3, h4, h5, h6, h7, h8, h9, h10, h11, h12, h13, h14, h15, h16, h17, h18, h19, h20, h21, h22, h23, h24, h25, h26, h27, h28, h29, h30, h31, h32, h33, h34, h35, h36, h37, h38, h39, h40⟩ := h
  exact ⟨h0, h1, h2, h3, h4, h5, h6, h7, h8, h9, h10, h11, h12, h13, h14, h15, h16, h17, h18, h19, h20, h21, h22, h23, h24, h25, h26, h27, h28, h29, h30, h31, h32, h33, h34, h35, h36, h37, h38, h39, h40⟩
theorem ia_57 {S : Nat} {sc : Nat → Int32} {ar : Nat → Nat → Int32} {i : Nat} {v : Int32} (h : Iv S sc ar) (hv : rq v 8) : Iv S sc (uA ar 57 (upd (ar 57) i v)) := by
  obtain ⟨h0, h1, h2, h3, h4, h5, h6, h7, h8, h9, h10, h11, h12, h13, h14, h15, h16, h17, h18, h19, h20, h21, h22, h23, h24, h25, h26, h27, h28, h29, h30, h31, h32, h33, h34, h35, h36, h37, h38, h39, h40⟩ := h
  exact ⟨h0, h1, h2, h3, h4, h5, h6, h7, h8, h9, h10, h11, h12, h13, h14, h15, h16, h17, h18, h19, h20, h21, h22, h23, h24, h25, h26, h27, h28, h29, h30, h31, up_at (P := fun x => rq x 8) h32 hv, h33, h34, h35, h36, h37, h38, h39, h40⟩
theorem ig_57 {S : Nat} {sc : Nat → Int32} {ar : Nat → Nat → Int32} {g : Nat → Int32} (h : Iv S sc ar) (hv : ∀ j, rq (g j) 8) : Iv S sc (uA ar 57 g) := by
  obtain ⟨h0, h1, h2, h3, h4, h5, h6, h7, h8, h9, h10, h11, h12, h13, h14, h15, h16, h17, h18, h19, h20, h21, h22, h23, h24, h25, h26, h27, h28, h29, h30, h31, h32, h33, h34, h35, h36, h37, h38, h39, h40⟩ := h
  exact ⟨h0, h1, h2, h3, h4, h5, h6, h7, h8, h9, h10, h11, h12, h13, h14, h15, h16, h17, h18, h19, h20, h21, h22, h23, h24, h25, h26, h27, h28, h29, h30, h31, hv, h33, h34, h35, h36, h37, h38, h39, h40⟩
theorem ia_58 {S : Nat} {sc : Nat → Int32} {ar : Nat → Nat → Int32} {g : Nat → Int32} (h : Iv S sc ar) : Iv S sc (uA ar 58 g) := by
  obtain ⟨h0, h1, h2, h3, h4, h5, h6, h7, h8, h9, h10, h11, h12, h13, h14, h15, h16, h17, h18, h19, h20, h21, h22, h23, h24, h25, h26, h27, h28, h29, h30, h31, h32, h33, h34, h35, h36, h37, h38, h39, h40⟩ := h
  exact ⟨h0, h1, h2, h3, h4, h5, h6, h7, h8, h9, h10, h11, h12, h13, h14, h15, h16, h17, h18, h19, h20, h21, h22, h23, h24, h25, h26, h27, h28, h29, h30, h31, h32, h33, h34, h35, h36, h37, h38, h39, h40⟩
theorem ia_59 {S : Nat} {sc : Nat → Int32} {ar : Nat → Nat → Int32} {g : Nat → Int32} (h : Iv S sc ar) : Iv S sc (uA ar 59 g) := by
  obtain ⟨h0, h1, h2, h3, h4, h5, h6, h7, h8, h9, h10, h11, h12, h13, h14, h15, h16, h17, h18, h19, h20, h21, h22, h23, h24, h25, h26, h27, h28, h29, h30, h31, h32, h33, h34, h35, h36, h37, h38, h39, h40⟩ := h
  exact ⟨h0, h1, h2, h3, h4, h5, h6, h7, h8, h9, h10, h11, h12, h13, h14, h15, h16, h17, h18, h19, h20, h21, h22, h23, h24, h25, h26, h27, h28, h29, h30, h31, h32, h33, h34, h35, h36, h37, h38, h39, h40⟩
theorem ia_60 {S : Nat} {sc : Nat → Int32} {ar : Nat → Nat → Int32} {g : Nat → Int32} (h : Iv S sc ar) : Iv S sc (uA ar 60 g) := by
  obtain ⟨h0, h1, h2, h3, h4, h5, h6, h7, h8, h9, h10, h11, h12, h13, h14, h15, h16, h17, h18, h19, h20, h21, h22, h23, h24, h25, h26, h27, h28, h29, h30, h31, h32, h33, h34, h35, h36, h37, h38, h39, h40⟩ := h
  exact ⟨h0, h1, h2, h3, h4, h5, h6, h7, h8, h9, h10, h11, h12, h13, h14, h15, h16, h17, h18, h19, h20, h21, h22, h23, h24, h25, h26, h27, h28, h29, h30, h31, h32, h33, h34, h35, h36, h37, h38, h39, h40⟩
theorem ia_61 {S : Nat} {sc : Nat → Int32} {ar : Nat → Nat → Int32} {i : Nat} {v : Int32} (h : Iv S sc ar) (hv : rl v S) : Iv S sc (uA ar 61 (upd (ar 61) i v)) := by
  obtain ⟨h0, h1, h2, h3, h4, h5, h6, h7, h8, h9, h10, h11, h12, h13, h14, h15, h16, h17, h18, h19, h20, h21, h22, h23, h24, h25, h26, h27, h28, h29, h30, h31, h32, h33, h34, h35, h36, h37, h38, h39, h40⟩ := h
  exact ⟨h0, h1, h2, h3, h4, h5, h6, h7, h8, h9, h10, h11, h12, h13, h14, h15, h16, h17, h18, h19, h20, h21, h22, h23, h24, h25, h26, h27, h28, h29, h30, h31, h32, up_at (P := fun x => rl x S) h33 hv, h34, h35, h36, h37, h38, h39, h40⟩
theorem ig_61 {S : Nat} {sc : Nat → Int32} {ar : Nat → Nat → Int32} {g : Nat → Int32} (h : Iv S sc ar) (hv : ∀ j, rl (g j) S) : Iv S sc (uA ar 61 g) := by
  obtain ⟨h0, h1, h2, h3, h4, h5, h6, h7, h8, h9, h10, h11, h12, h13, h14, h15, h16, h17, h18, h19, h20, h21, h22, h23, h24, h25, h26, h27, h28, h29, h30, h31, h32, h33, h34, h35, h36, h37, h38, h39, h40⟩ := h
  exact ⟨h0, h1, h2, h3, h4, h5, h6, h7, h8, h9, h10, h11, h12, h13, h14, h15, h16, h17, h18, h19, h20, h21, h22, h23, h24, h25, h26, h27, h28, h29, h30, h31, h32, hv, h34, h35, h36, h37, h38, h39, h40⟩
theorem ia_62 {S : Nat} {sc : Nat → Int32} {ar : Nat → Nat → Int32} {i : Nat} {v : Int32} (h : Iv S sc ar) (hv : rq v S) : Iv S sc (uA ar 62 (upd (ar 62) i v)) := by
  obtain ⟨h0, h1, h2, h3, h4, h5, h6, h7, h8, h9, h10, h11, h12, h13, h14, h15, h16, h17, h18, h19, h20, h21, h22, h23, h24, h25, h26, h27, h28, h29, h30, h31, h32, h33, h34, h35, h36, h37, h38, h39, h40⟩ := h
  exact ⟨h0, h1, h2, h3, h4, h5, h6, h7, h8, h9, h10, h11, h12, h13, h14, h15, h16, h17, h18, h19, h20, h21, h22, h23, h24, h25, h26, h27, h28, h29, h30, h31, h32, h33, up_at (P := fun x => rq x S) h34 hv, h35, h36, h37, h38, h39, h40⟩
theorem ig_62 {S : Nat} {sc : Nat → Int32} {ar : Nat → Nat → Int32} {g : Nat → Int32} (h : Iv S sc ar) (hv : ∀ j, rq (g j) S) : Iv S sc (uA ar 62 g) := by
  obtain ⟨h0, h1, h2, h3, h4, h5, h6, h7, h8, h9, h10, h11, h12, h13, h14, h15, h16, h17, h18, h19, h20, h21, h22, h23, h24, h25, h26, h27, h28, h29, h30, h31, h32, h33, h34, h35, h36, h37, h38, h39, h40⟩ := h
  exact ⟨h0, h1, h2, h3, h4, h5, h6, h7, h8, h9, h10, h11, h12, h13, h14, h15, h16, h17, h18, h19, h20, h21, h22, h23, h24, h25, h26, h27, h28, h29, h30, h31, h32, h33, hv, h35, h36, h37, h38, h39, h40⟩
theorem ia_63 {S : Nat} {sc : Nat → Int32} {ar : Nat → Nat → Int32} {g : Nat → Int32} (h : Iv S sc ar) : Iv S sc (uA ar 63 g) := by
  obtain ⟨h0, h1, h2, h3, h4, h5, h6, h7, h8, h9, h10, h11, h12, h13, h14, h15, h16, h17, h18, h19, h20, h21, h22, h23, h24, h25, h26, h27, h28, h29, h30, h31, h32, h33, h34, h35, h36, h37, h38, h39, h40⟩ := h
  exact ⟨h0, h1, h2, h3, h4, h5, h6, h7, h8, h9, h10, h11, h12, h13, h14, h15, h16, h17, h18, h19, h20, h21, h22, h23, h24, h25, h26, h27, h28, h29, h30, h31, h32, h33, h34, h35, h36, h37, h38, h39, h40⟩
theorem ia_64 {S : Nat} {sc : Nat → Int32} {ar : Nat → Nat → Int32} {g : Nat → Int32} (h : Iv S sc ar) : Iv S sc (uA ar 64 g) := by
  obtain ⟨h0, h1, h2, h3, h4, h5, h6, h7, h8, h9, h10, h11, h12, h13, h14, h15, h16, h17, h18, h19, h20, h21, h22, h23, h24, h25, h26, h27, h28, h29, h30, h31, h32, h33, h34, h35, h36, h37, h38, h39, h40⟩ := h
  exact ⟨h0, h1, h2, h3, h4, h5, h6, h7, h8, h9, h10, h11, h12, h13, h14, h15, h16, h17, h18, h19, h20, h21, h22, h23, h24, h25, h26, h27, h28, h29, h30, h31, h32, h33, h34, h35, h36, h37, h38, h39, h40⟩
theorem ia_65 {S : Nat} {sc : Nat → Int32} {ar : Nat → Nat → Int32} {g : Nat → Int32} (h : Iv S sc ar) : Iv S sc (uA ar 65 g) := by
  obtain ⟨h0, h1, h2, h3, h4, h5, h6, h7, h8, h9, h10, h11, h12, h13, h14, h15, h16, h17, h18, h19, h20, h21, h22, h23, h24, h25, h26, h27, h28, h29, h30, h31, h32, h33, h34, h35, h36, h37, h38, h39, h40⟩ := h
  exact ⟨h0, h1, h2, h3, h4, h5, h6, h7, h8, h9, h10, h11, h12, h13, h14, h15, h16, h17, h18, h19, h20, h21, h22, h23, h24, h25, h26, h27, h28, h29, h30, h31, h32, h33, h34, h35, h36, h37, h38, h39, h40⟩
theorem ia_66 {S : Nat} {sc : Nat → Int32} {ar : Nat → Nat → Int32} {g : Nat → Int32} (h : Iv S sc ar) : Iv S sc (uA ar 66 g) := by
  obtain ⟨h0, h1, h2, h3, h4, h5, h6, h7, h8, h9, h10, h11, h12, h13, h14, h15, h16, h17, h18, h19, h20, h21, h22, h23, h24, h25, h26, h27, h28, h29, h30, h31, h32, h33, h34, h35, h36, h37, h38, h39, h40⟩ := h
  exact ⟨h0, h1, h2, h3, h4, h5, h6, h7, h8, h9, h10, h11, h12, h13, h14, h15, h16, h17, h18, h19, h20, h21, h22, h23, h24, h25, h26, h27, h28, h29, h30, h31, h32, h33, h34, h35, h36, h37, h38, h39, h40⟩
theorem ia_67 {S : Nat} {sc : Nat → Int32} {ar : Nat → Nat → Int32} {g : Nat → Int32} (h : Iv S sc ar) : Iv S sc (uA ar 67 g) := by
  obtain ⟨h0, h1, h2, h3, h4, h5, h6, h7, h8, h9, h10, h11, h12, h13, h14, h15, h16, h17, h18, h19, h20, h21, h22, h23, h24, h25, h26, h27, h28, h29, h30, h31, h32, h33, h34, h35, h36, h37, h38, h39, h40⟩ := h
  exact ⟨h0, h1, h2, h3, h4, h5, h6, h7, h8, h9, h10, h11, h12, h13, h14, h15, h16, h17, h18, h19, h20, h21, h22, h23, h24, h25, h26, h27, h28, h29, h30, h31, h32, h33, h34, h35, h36, h37, h38, h39, h40⟩
theorem ia_68 {S : Nat} {sc : Nat → Int32} {ar : Nat → Nat → Int32} {g : Nat → Int32} (h : Iv S sc ar) : Iv S sc (uA ar 68 g) := by
  obtain ⟨h0, h1, h2, h3, h4, h5, h6, h7, h8, h9, h10, h11, h12, h13, h14, h15, h16, h17, h18, h19, h20, h21, h22, h23, h24, h25, h26, h27, h28, h29, h30, h31, h32, h33, h34, h35, h36, h37, h38, h39, h40⟩ := h
  exact ⟨h0, h1, h2, h3, h4, h5, h6, h7, h8, h9, h10, h11, h12, h13, h14, h15, h16, h17, h18, h19, h20, h21, h22, h23, h24, h25, h26, h27, h28, h29, h30, h31, h32, h33, h34, h35, h36, h37, h38, h39, h40⟩
theorem ia_69 {S : Nat} {sc : Nat → Int32} {ar : Nat → Nat → Int32} {i : Nat} {v : Int32} (h : Iv S sc ar) (hv : rl v 13) : Iv S sc (uA ar 69 (upd (ar 69) i v)) := by
  obtain ⟨h0, h1, h2, h3, h4, h5, h6, h7, h8, h9, h10, h11, h12, h13, h14, h15, h16, h17, h18, h19, h20, h21, h22, h23, h24, h25, h26, h27, h28, h29, h30, h31, h32, h33, h34, h35, h36, h37, h38, h39, h40⟩ := h
  exact ⟨h0, h1, h2, h3, h4, h5, h6, h7, h8, h9, h10, h11, h12, h13, h14, h15, h16, h17, h18, h19, h20, h21, h22, h23, h24, h25, h26, h27, h28, h29, h30, h31, h32, h33, h34, up_at (P := fun x => rl x 13) h35 hv, h36, h37, h38, h39, h40⟩
theorem ig_69 {S : Nat} {sc : Nat → Int32} {ar : Nat → Nat → Int32} {g : Nat → Int32} (h : Iv S sc ar) (hv : ∀ j, rl (g j) 13) : Iv S sc (uA ar 69 g) := by
  obtain ⟨h0, h1, h2, h3, h4, h5, h6, h7, h8, h9, h10, h11, h12, h13, h14, h15, h16, h17, h18, h19, h20, h21, h22, h23, h24, h25, h26, h27, h28, h29, h30, h31, h32, h33, h34, h35, h36, h37, h38, h39, h40⟩ := h
  exact ⟨h0, h1, h2, h3, h4, h5, h6, h7, h8, h9, h10, h11, h12, h13, h14, h15, h16, h17, h18, h19, h20, h21, h22, h23, h24, h25, h26, h27, h28, h29, h30, h31, h32, h33, h34, hv, h36, h37, h38, h39, h40⟩
theorem ia_70 {S : Nat} {sc : Nat → Int32} {ar : Nat → Nat → Int32} {i : Nat} {v : Int32} (h : Iv S sc ar) (hv : rl v 701) : Iv S sc (uA ar 70 (upd (ar 70) i v)) := by
  obtain ⟨h0, h1, h2, h3, h4, h5, h6, h7, h8, h9, h10, h11, h12, h13, h14, h15, h16, h17, h18, h19, h20, h21, h22, h23, h24, h25, h26, h27, h28, h29, h30, h31, h32, h33, h34, h35, h36, h37, h38, h39, h40⟩ := h
  exact ⟨h0, h1, h2, h3, h4, h5, h6, h7, h8, h9, h10, h11, h12, h13, h14, h15, h16, h17, h18, h19, h20, h21, h22, h23, h24, h25, h26, h27, h28, h29, h30, h31, h32, h33, h34, h35, up_at (P := fun x => rl x 701) h36 hv, h37, h38, h39, h40⟩
theorem ig_70 {S : Nat} {sc : Nat → Int32} {ar : Nat → Nat → Int32} {g : Nat → Int32} (h : Iv S sc ar) (hv : ∀ j, rl (g j) 701) : Iv S sc (uA ar 70 g) := by
  obtain ⟨h0, h1, h2, h3, h4, h5, h6, h7, h8, h9, h10, h11, h12, h13, h14, h15, h16, h17, h18, h19, h20, h21, h22, h23, h24, h25, h26, h27, h28, h29, h30, h31, h32, h33, h34, h35, h36, h37, h38, h39, h40⟩ := h
  exact ⟨h0, h1, h2, h3, h4, h5, h6, h7, h8, h9, h10, h11, h12, h13, h14, h15, h16, h17, h18, h19, h20, h21, h22, h23, h24, h25, h26, h27, h28, h29, h30, h31, h32, h33, h34, h35, hv, h37, h38, h39, h40⟩
theorem ia_71 {S : Nat} {sc : Nat → Int32} {ar : Nat → Nat → Int32} {g : Nat → Int32} (h : Iv S sc ar) : Iv S sc (uA ar 71 g) := by
  obtain ⟨h0, h1, h2, h3, h4, h5, h6, h7, h8, h9, h10, h11, h12, h13, h14, h15, h16, h17, h18, h19, h20, h21, h22, h23, h24, h25, h26, h27, h28, h29, h30, h31, h32, h33, h34, h35, h36, h37, h38, h39, h40⟩ := h
  exact ⟨h0, h1, h2, h3, h4, h5, h6, h7, h8, h9, h10, h11, h12, h13, h14, h15, h16, h17, h18, h19, h20, h21, h22, h23, h24, h25, h26, h27, h28, h29, h30, h31, h32, h33, h34, h35, h36, h37, h38, h39, h40⟩
theorem ia_72 {S : Nat} {sc : Nat → Int32} {ar : Nat → Nat → Int32} {g : Nat → Int32} (h : Iv S sc ar) : Iv S sc (uA ar 72 g) := by
  obtain ⟨h0, h1, h2, h3, h4, h5, h6, h7, h8, h9, h10, h11, h12, h13, h14, h15, h16, h17, h18, h19, h20, h21, h22, h23, h24, h25, h26, h27, h28, h29, h30, h31, h32, h33, h34, h35, h36, h37, h38, h39, h40⟩ := h
  exact ⟨h0, h1, h2, h3, h4, h5, h6, h7, h8, h9, h10, h11, h12, h13, h14, h15, h16, h17, h18, h19, h20, h21, h22, h23, h24, h25, h26, h27, h28, h29, h30, h31, h32, h33, h34, h35, h36, h37, h38, h39, h40⟩
theorem ia_73 {S : Nat} {sc : Nat → Int32} {ar : Nat → Nat → Int32} {g : Nat → Int32} (h : Iv S sc ar) : Iv S sc (uA ar 73 g) := by
  obtain ⟨h0, h1, h2, h3, h4, h5, h6, h7, h8, h9, h10, h11, h12, h13, h14, h15, h16, h17, h18, h19, h20, h21, h22, h23, h24, h25, h26, h27, h28, h29, h30, h31, h32, h33, h34, h35, h36, h37, h38, h39, h40⟩ := h
  exact ⟨h0, h1, h2, h3, h4, h5, h6, h7, h8, h9, h10, h11, h12, h13, h14, h15, h16, h17, h18, h19, h20, h21, h22, h23, h24, h25, h26, h27, h28, h29, h30, h31, h32, h33, h34, h35, h36, h37, h38, h39, h40⟩
theorem ia_74 {S : Nat} {sc : Nat → Int32} {ar : Nat → Nat → Int32} {g : Nat → Int32} (h : Iv S sc ar) : Iv S sc (uA ar 74 g) := by
  obtain ⟨h0, h1, h2, h3, h4, h5, h6, h7, h8, h9, h10, h11, h12, h13, h14, h15, h16, h17, h18, h19, h20, h21, h22, h23, h24, h25, h26, h27, h28, h29, h30, h31, h32, h33, h34, h35, h36, h37, h38, h39, h40⟩ := h
  exact ⟨h0, h1, h2, h3, h4, h5, h6, h7, h8, h9, h10, h11, h12, h13, h14, h15, h16, h17, h18, h19, h20, h21, h22, h23, h24, h25, h26, h27, h28, h29, h30, h31, h32, h33, h34, h35, h36, h37, h38, h39, h40⟩
theorem ia_75 {S : Nat} {sc : Nat → Int32} {ar : Nat → Nat → Int32} {g : Nat → Int32} (h : Iv S sc ar) : Iv S sc (uA ar 75 g) := by
  obtain ⟨h0, h1, h2, h3, h4, h5, h6, h7, h8, h9, h10, h11, h12, h13, h14, h15, h16, h17, h18, h19, h20, h21, h22, h23, h24, h25, h26, h27, h28, h29, h30, h31, h32, h33, h34, h35, h36, h37, h38, h39, h40⟩ := h
  exact ⟨h0, h1, h2, h3, h4, h5, h6, h7, h8, h9, h10, h11, h12, h13, h14, h15, h16, h17, h18, h19, h20, h21, h22, h23, h24, h25, h26, h27, h28, h29, h30, h31, h32, h33, h34, h35, h36, h37, h38, h39, h40⟩
theorem ia_76 {S : Nat} {sc : Nat → Int32} {ar : Nat → Nat → Int32} {g : Nat → Int32} (h : Iv S sc ar) : Iv S sc (uA ar 76 g) := by
  obtain ⟨h0, h1, h2, h3, h4, h5, h6, h7, h8, h9, h10, h11, h12, h13, h14, h15, h16, h17, h18, h19, h20, h21, h22, h23, h24, h25, h26, h27, h28, h29, h30, h31, h32, h33, h34, h35, h36, h37, h38, h39, h40⟩ := h
  exact ⟨h0, h1, h2, h3, h4, h5, h6, h7, h8, h9, h10, h11, h12, h13, h14, h15, h16, h17, h18, h19, h20, h21, h22, h23, h24, h25, h26, h27, h28, h29, h30, h31, h32, h33, h34, h35, h36, h37, h38, h39, h40⟩
theorem ia_77 {S : Nat} {sc : Nat → Int32} {ar : Nat → Nat → Int32} {g : Nat → Int32} (h : Iv S sc ar) : Iv S sc (uA ar 77 g) := by
  obtain ⟨h0, h1, h2, h3, h4, h5, h6, h7, h8, h9, h10, h11, h12, h13, h14, h15, h16, h17, h18, h19, h20, h21, h22, h23, h24, h25, h26, h27, h28, h29, h30, h31, h32, h33, h34, h35, h36, h37, h38, h39, h40⟩ := h
  exact ⟨h0, h1, h2, h3, h4, h5, h6, h7, h8, h9, h10, h11, h12, h13, h14, h15, h16, h17, h18, h19, h20, h21, h22, h23, h24, h25, h26, h27, h28, h29, h30, h31, h32, h33, h34, h35, h36, h37, h38, h39, h40⟩
theorem ia_78 {S : Nat} {sc : Nat → Int32} {ar : Nat → Nat → Int32} {g : Nat → Int32} (h : Iv S sc ar) : Iv S sc (uA ar 78 g) := by
  obtain ⟨h0, h1, h2, h3, h4, h5, h6, h7, h8, h9, h10, h11, h12, h13, h14, h15, h16, h17, h18, h19, h20, h21, h22, h23, h24, h25, h26, h27, h28, h29, h30, h31, h32, h33, h34, h35, h36, h37, h38, h39, h40⟩ := h
  exact ⟨h0, h1, h2, h3, h4, h5, h6, h7, h8, h9, h10, h11, h12, h13, h14, h15, h16, h17, h18, h19, h20, h21, h22, h23, h24, h25, h26, h27, h28, h29, h30, h31, h32, h33, h34, h35, h36, h37, h38, h39, h40⟩
theorem ia_79 {S : Nat} {sc : Nat → Int32} {ar : Nat → Nat → Int32} {g : Nat → Int32} (h : Iv S sc ar) : Iv S sc (uA ar 79 g) := by
  obtain ⟨h0, h1, h2, h3, h4, h5, h6, h7, h8, h9, h10, h11, h12, h13, h14, h15, h16, h17, h18, h19, h20, h21, h22, h23, h24, h25, h26, h27, h28, h29, h30, h31, h32, h33, h34, h35, h36, h37, h38, h39, h40⟩ := h
  exact ⟨h0, h1, h2, h3, h4, h5, h6, h7, h8, h9, h10, h11, h12, h13, h14, h15, h16, h17, h18, h19, h20, h21, h22, h23, h24, h25, h26, h27, h28, h29, h30, h31, h32, h33, h34, h35, h36, h37, h38, h39, h40⟩
theorem ia_80 {S : Nat} {sc : Nat → Int32} {ar : Nat → Nat → Int32} {i : Nat} {v : Int32} (h : Iv S sc ar) (hv : rm v S) : Iv S sc (uA ar 80 (upd (ar 80) i v)) := by
  obtain ⟨h0, h1, h2, h3, h4, h5, h6, h7, h8, h9, h10, h11, h12, h13, h14, h15, h16, h17, h18, h19, h20, h21, h22, h23, h24, h25, h26, h27, h28, h29, h30, h31, h32, h33, h34, h35, h36, h37, h38, h39, h40⟩ := h
  exact ⟨h0, h1, h2, h3, h4, h5, h6, h7, h8, h9, h10, h11, h12, h13, h14, h15, h16, h17, h18, h19, h20, h21, h22, h23, h24, h25, h26, h27, h28, h29, h30, h31, h32, h33, h34, h35, h36, up_at (P := fun x => rm x S) h37 hv, h38, h39, h40⟩
theorem ig_80 {S : Nat} {sc : Nat → Int32} {ar : Nat → Nat → Int32} {g : Nat → Int32} (h : Iv S sc ar) (hv : ∀ j, rm (g j) S) : Iv S sc (uA ar 80 g) := by
  obtain ⟨h0, h1, h2, h3, h4, h5, h6, h7, h8, h9, h10, h11, h12, h13, h14, h15, h16, h17, h18, h19, h20, h21, h22, h23, h24, h25, h26, h27, h28, h29, h30, h31, h32, h33, h34, h35, h36, h37, h38, h39, h40⟩ := h
  exact ⟨h0, h1, h2, h3, h4, h5, h6, h7, h8, h9, h10, h11, h12, h13, h14, h15, h16, h17, h18, h19, h20, h21, h22, h23, h24, h25, h26, h27, h28, h29, h30, h31, h32, h33, h34, h35, h36, hv, h38, h39, h40⟩
theorem ia_81 {S : Nat} {sc : Nat → Int32} {ar : Nat → Nat → Int32} {i : Nat} {v : Int32} (h : Iv S sc ar) (hv : rn v S) : Iv S sc (uA ar 81 (upd (ar 81) i v)) := by
  obtain ⟨h0, h1, h2, h3, h4, h5, h6, h7, h8, h9, h10, h11, h12, h13, h14, h15, h16, h17, h18, h19, h20, h21, h22, h23, h24, h25, h26, h27, h28, h29, h30, h31, h32, h33, h34, h35, h36, h37, h38, h39, h40⟩ := h
  exact ⟨h0, h1, h2, h3, h4, h5, h6, h7, h8, h9, h10, h11, h12, h13, h14, h15, h16, h17, h18, h19, h20, h21, h22, h23, h24, h25, h26, h27, h28, h29, h30, h31, h32, h33, h34, h35, h36, h37, up_at (P := fun x => rn x S) h38 hv, h39, h40⟩
theorem ig_81 {S : Nat} {sc : Nat → Int32} {ar : Nat → Nat → Int32} {g : Nat → Int32} (h : Iv S sc ar) (hv : ∀ j, rn (g j) S) : Iv S sc (uA ar 81 g) := by
  obtain ⟨h0, h1, h2, h3, h4, h5, h6, h7, h8, h9, h10, h11, h12, h13, h14, h15, h16, h17, h18, h19, h20, h21, h22, h23, h24, h25, h26, h27, h28, h29, h30, h31, h32, h33, h34, h35, h36, h37, h38, h39, h40⟩ := h
  exact ⟨h0, h1, h2, h3, h4, h5, h6, h7, h8, h9, h10, h11, h12, h13, h14, h15, h16, h17, h18, h19, h20, h21, h22, h23, h24, h25, h26, h27, h28, h29, h30, h31, h32, h33, h34, h35, h36, h37, hv, h39, h40⟩
theorem ia_82 {S : Nat} {sc : Nat → Int32} {ar : Nat → Nat → Int32} {g : Nat → Int32} (h : Iv S sc ar) : Iv S sc (uA ar 82 g) := by
  obtain ⟨h0, h1, h2, h3, h4, h5, h6, h7, h8, h9, h10, h11, h12, h13, h14, h15, h16, h17, h18, h19, h20, h21, h22, h23, h24, h25, h26, h27, h28, h29, h30, h31, h32, h33, h34, h35, h36, h37, h38, h39, h40⟩ := h
  exact ⟨h0, h1, h2, h3, h4, h5, h6, h7, h8, h9, h10, h11, h12, h13, h14, h15, h16, h17, h18, h19, h20, h21, h22, h23, h24, h25, h26, h27, h28, h29, h30, h31, h32, h33, h34, h35, h36, h37, h38, h39, h40⟩
theorem ia_83 {S : Nat} {sc : Nat → Int32} {ar : Nat → Nat → Int32} {i : Nat} {v : Int32} (h : Iv S sc ar) (hv : rq v S) : Iv S sc (uA ar 83 (upd (ar 83) i v)) := by
  obtain ⟨h0, h1, h2, h3, h4, h5, h6, h7, h8, h9, h10, h11, h12, h13, h14, h15, h16, h17, h18, h19, h20, h21, h22, h23, h24, h25, h26, h27, h28, h29, h30, h31, h32, h33, h34, h35, h36, h37, h38, h39, h40⟩ := h
  exact ⟨h0, h1, h2, h3, h4, h5, h6, h7, h8, h9, h10, h11, h12, h13, h14, h15, h16, h17, h18, h19, h20, h21, h22, h23, h24, h25, h26, h27, h28, h29, h30, h31, h32, h33, h34, h35, h36, h37, h38, up_at (P := fun x => rq x S) h39 hv, h40⟩
theorem ig_83 {S : Nat} {sc : Nat → Int32} {ar : Nat → Nat → Int32} {g : Nat → Int32} (h : Iv S sc ar) (hv : ∀ j, rq (g j) S) : Iv S sc (uA ar 83 g) := by
  obtain ⟨h0, h1, h2, h3, h4, h5, h6, h7, h8, h9, h10, h11, h12, h13, h14, h15, h16, h17, h18, h19, h20, h21, h22, h23, h24, h25, h26, h27, h28, h29, h30, h31, h32, h33, h34, h35, h36, h37, h38, h39, h40⟩ := h
  exact ⟨h0, h1, h2, h3, h4, h5, h6, h7, h8, h9, h10, h11, h12, h13, h14, h15, h16, h17, h18, h19, h20, h21, h22, h23, h24, h25, h26, h27, h28, h29, h30, h31, h32, h33, h34, h35, h36, h37, h38, hv, h40⟩
theorem ia_84 {S : Nat} {sc : Nat → Int32} {ar : Nat → Nat → Int32} {i : Nat} {v : Int32} (h : Iv S sc ar) (hv : rn v S) : Iv S sc (uA ar 84 (upd (ar 84) i v)) := by
  obtain ⟨h0, h1, h2, h3, h4, h5, h6, h7, h8, h9, h10, h11, h12, h13, h14, h15, h16, h17, h18, h19, h20, h21, h22, h23, h24, h25, h26, h27, h28, h29, h30, h31, h32, h33, h34, h35, h36, h37, h38, h39, h40⟩ := h
  exact ⟨h0, h1, h2, h3, h4, h5, h6, h7, h8, h9, h10, h11, h12, h13, h14, h15, h16, h17, h18, h19, h20, h21, h22, h23, h24, h25, h26, h27, h28, h29, h30, h31, h32, h33, h34, h35, h36, h37, h38, h39, up_at (P := fun x => rn x S) h40 hv⟩
theorem ig_84 {S : Nat} {sc : Nat → Int32} {ar : Nat → Nat → Int32} {g : Nat → Int32} (h : Iv S sc ar) (hv : ∀ j, rn (g j) S) : Iv S sc (uA ar 84 g) := by
  obtain ⟨h0, h1, h2, h3, h4, h5, h6, h7, h8, h9, h10, h11, h12, h13, h14, h15, h16, h17, h18, h19, h20, h21, h22, h23, h24, h25, h26, h27, h28, h29, h30, h31, h32, h33, h34, h35, h36, h37, h38, h39, h40⟩ := h
  exact ⟨h0, h1, h2, h3, h4, h5, h6, h7, h8, h9, h10, h11, h12, h13, h14, h15, h16, h17, h18, h19, h20, h21, h22, h23, h24, h25, h26, h27, h28, h29, h30, h31, h32, h33, h34, h35, h36, h37, h38, h39, hv⟩
/-- what is unchanged but for the scalars L and the rows A -/
def Fr (L A : List Nat) (sc : Nat → Int32) (ar : Nat → Nat → Int32) (sc' : Nat → Int32) (ar' : Nat → Nat → Int32) : Prop := (∀ k, k ∉ L → sc' k = sc k) ∧ (∀ c, c ∉ A → ar' c = ar c)
section FRAME
variable {L A L2 A2 : List Nat} {s s1 s2 : Nat → Int32} {r r1 r2 : Nat → Nat → Int32}
theorem fr_0 : Fr L A s r s r := ⟨fun _ _ => rfl, fun _ _ => rfl⟩
theorem fr_s {k : Nat} {v : Int32} (h : Fr L A s r s1 r1) (hk : k ∈ L) : Fr L A s r (upd s1 k v) r1 := by
  refine ⟨fun j hj => ?_, h.2⟩
  have e : ¬ j = k := fun e => hj (e ▸ hk)
  rw [← h.1 j hj]
  simp [upd, e]
theorem fr_a {c : Nat} {g : Nat → Int32} (h : Fr L A s r s1 r1) (hc : c ∈ A) : Fr L A s r s1 (uA r1 c g) := by
  refine ⟨h.1, fun j hj => ?_⟩
  have e : ¬ j = c := fun e => hj (e ▸ hc)
  rw [← h.2 j hj]
  simp [uA, e]
theorem fr_t (h : Fr L A s r s1 r1) (h2 : Fr L2 A2 s1 r1 s2 r2) (hL : ∀ k ∈ L2, k ∈ L) (hA : ∀ k ∈ A2, k ∈ A) : Fr L A s r s2 r2 := ⟨fun k hk => (h2.1 k (fun w => hk (hL k w))).trans (h.1 k hk), fun c hc => (h2.2 c (fun w => hc (hA c w))).trans (h.2 c hc)⟩
end FRAME
/-! CONTRACTS -/
theorem ai_ni_l {i : Instr} {x : Option Value × ai_H × Bool × Nat × Nat} : ai_ni i (.inl x) := by
  cases i <;> trivial
section CONTR
variable (X : Nat × (Nat → Int32)) (S a b d q : Nat) (As : List Value) (sc : Nat → Int32) (ar : Nat → Nat → Int32) (lo : Nat → Int64) (ex : Bool)
/-- an int (or boolean) is answered -/
def ci (P : Int32 → (Nat → Int32) → (Nat → Nat → Int32) → Prop) : Prop := ∃ x sc' ar', P x sc' ar' ∧ ai_Ev an_ms an_lk X 35 d q As (gh S a b sc ar lo) ex (.inl (some (.int x), gh S a b sc' ar' lo, ex, 0, 0))
/-- nothing is answered -/
def cv (P : (Nat → Int32) → (Nat → Nat → Int32) → Prop) : Prop := ∃ sc' ar', P sc' ar' ∧ ai_Ev an_ms an_lk X 35 d q As (gh S a b sc ar lo) ex (.inl (none, gh S a b sc' ar' lo, ex, 0, 0))
/-- an int is answered, nothing changes -/
def cp (P : Int32 → Prop) : Prop := ∃ x, P x ∧ ai_Ev an_ms an_lk X 35 d q As (gh S a b sc ar lo) ex (.inl (some (.int x), gh S a b sc ar lo, ex, 0, 0))
def qi (P : Int32 → (Nat → Int32) → (Nat → Nat → Int32) → Prop) : ai_O → Prop := fun o => ∃ x sc' ar', P x sc' ar' ∧ o = .inl (some (.int x), gh S a b sc' ar' lo, ex, 0, 0)
def qv (P : (Nat → Int32) → (Nat → Nat → Int32) → Prop) : ai_O → Prop := fun o => ∃ sc' ar', P sc' ar' ∧ o = .inl (none, gh S a b sc' ar' lo, ex, 0, 0)
def qp (P : Int32 → Prop) : ai_O → Prop := fun o => ∃ x, P x ∧ o = .inl (some (.int x), gh S a b sc ar lo, ex, 0, 0)
end CONTR
section CONTS
variable {X : Nat × (Nat → Int32)} {S a b d q : Nat} {As : List Value} {sc : Nat → Int32} {ar : Nat → Nat → Int32} {lo : Nat → Int64} {ex : Bool} {M : ai_M} {Q : ai_O → Prop}
theorem ci_of {P : Int32 → (Nat → Int32) → (Nat → Nat → Int32) → Prop} (hM : an_ms[q]? = some M) (hlen : (lg_sl As).length ≤ M.ml) (k : ag_To X d M (0, lv_args 0 As, [], gh S a b sc ar lo, ex, 0, 0) (qi S a b lo ex P)) : ci X S a b (d + 1) q As sc ar lo ex P := by
  obtain ⟨o, ⟨x, sc', ar', hP, rfl⟩, g⟩ := k
  exact ⟨x, sc', ar', hP, ev_of hM hlen g⟩
theorem cv_of {P : (Nat → Int32) → (Nat → Nat → Int32) → Prop} (hM : an_ms[q]? = some M) (hlen : (lg_sl As).length ≤ M.ml) (k : ag_To X d M (0, lv_args 0 As, [], gh S a b sc ar lo, ex, 0, 0) (qv S a b lo ex P)) : cv X S a b (d + 1) q As sc ar lo ex P := by
  obtain ⟨o, ⟨sc', ar', hP, rfl⟩, g⟩ := k
  exact ⟨sc', ar', hP, ev_of hM hlen g⟩
theorem cp_of {P : Int32 → Prop} (hM : an_ms[q]? = some M) (hlen : (lg_sl As).length ≤ M.ml) (k : ag_To X d M (0, lv_args 0 As, [], gh S a b sc ar lo, ex, 0, 0) (qp S a b sc ar lo ex P)) : cp X S a b (d + 1) q As sc ar lo ex P := by
  obtain ⟨o, ⟨x, hP, rfl⟩, g⟩ := k
  exact ⟨x, hP, ev_of hM hlen g⟩
variable {pc nc ns : Nat} {lv : List (Nat × Value)} {st rest : List Value} {i : Instr} {tg : List Nat} {M1 : ai_M}
theorem to_ci {P : Int32 → (Nat → Int32) → (Nat → Nat → Int32) → Prop} (h1 : ai_as M.co pc = some (i, tg)) (hca : ai_ca (an_lk M.cn) i st (gh S a b sc ar lo) = some (q, As, rest)) (hq0 : q ≠ 0) (hM1 : an_ms[q]? = some M1) (hrc : ai_rc i As (gh S a b sc ar lo) M1.cn) (c : ci X S a b d q As sc ar lo ex P) (k : ∀ x sc' ar', P x sc' ar' → ag_To X d M (pc + 3, lv, .int x :: rest, gh S a b sc' ar' lo, ex, nc, ns) Q) : ag_To X d M (pc, lv, st, gh S a b sc ar lo, ex, nc, ns) Q := by
  obtain ⟨x, sc', ar', hP, e⟩ := c
  obtain ⟨o, hQ, g⟩ := k x sc' ar' hP
  exact ⟨o, hQ, go_callS (fr := (pc, lv, st, gh S a b sc ar lo, ex, nc, ns)) h1 hca hq0 hM1 hrc ai_ni_l e g⟩
theorem to_cv {P : (Nat → Int32) → (Nat → Nat → Int32) → Prop} (h1 : ai_as M.co pc = some (i, tg)) (hca : ai_ca (an_lk M.cn) i st (gh S a b sc ar lo) = some (q, As, rest)) (hq0 : q ≠ 0) (hM1 : an_ms[q]? = some M1) (hrc : ai_rc i As (gh S a b sc ar lo) M1.cn) (c : cv X S a b d q As sc ar lo ex P) (k : ∀ sc' ar', P sc' ar' → ag_To X d M (pc + 3, lv, rest, gh S a b sc' ar' lo, ex, nc, ns) Q) : ag_To X d M (pc, lv, st, gh S a b sc ar lo, ex, nc, ns) Q := by
  obtain ⟨sc', ar', hP, e⟩ := c
  obtain ⟨o, hQ, g⟩ := k sc' ar' hP
  exact ⟨o, hQ, go_callS (fr := (pc, lv, st, gh S a b sc ar lo, ex, nc, ns)) h1 hca hq0 hM1 hrc ai_ni_l e g⟩
theorem to_cp {P : Int32 → Prop} (h1 : ai_as M.co pc = some (i, tg)) (hca : ai_ca (an_lk M.cn) i st (gh S a b sc ar lo) = some (q, As, rest)) (hq0 : q ≠ 0) (hM1 : an_ms[q]? = some M1) (hrc : ai_rc i As (gh S a b sc ar lo) M1.cn) (c : cp X S a b d q As sc ar lo ex P) (k : ∀ x, P x → ag_To X d M (pc + 3, lv, .int x :: rest, gh S a b sc ar lo, ex, nc, ns) Q) : ag_To X d M (pc, lv, st, gh S a b sc ar lo, ex, nc, ns) Q := by
  obtain ⟨x, hP, e⟩ := c
  obtain ⟨o, hQ, g⟩ := k x hP
  exact ⟨o, hQ, go_callS (fr := (pc, lv, st, gh S a b sc ar lo, ex, nc, ns)) h1 hca hq0 hM1 hrc ai_ni_l e g⟩
end CONTS
