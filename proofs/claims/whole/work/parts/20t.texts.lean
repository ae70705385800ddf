/-! what the start says of the constants' bytes -/
def ap_vf (x : Nat × Nat × String) (n ds : String) : Term := .field (.string (an_on x.1) x.2.1) "java/lang/String" n ds
def ap_ty (i : Nat) (x : Nat × Nat × String) (p : Nat × Nat × Nat × List Nat) : Bool := ap_gt p.1 (.eq (ap_vf x "coder" "B") (.int 0)) && ap_gt p.2.1 (.arrayOf (ap_vf x "value" "[B") .byte) && ap_gt p.2.2.1 (.eq (.length (ap_vf x "value" "[B")) (.int (Int32.ofNat (ai_tx i).length))) && (List.range (ai_tx i).length).all (fun j => ap_gt (p.2.2.2.getD j 0) (.eq (.elem (ap_vf x "value" "[B") (.int (Int32.ofNat j))) (.int ((ai_tx i).getD j 0))))
def ap_tp : List (Nat × Nat × Nat × List Nat) := [(36, 37, 38, [39, 40, 41, 42, 43, 44, 45, 46, 47, 48, 49, 50]), (52, 53, 54, [55, 56, 57, 58, 59, 60, 61, 62, 63, 64, 65, 66]), (68, 69, 70, [71, 72, 73, 74, 75, 76, 77, 78, 79, 80, 81, 82, 83, 84, 85, 86, 87, 88, 89]), (91, 92, 93, [94, 95, 96, 97]), (99, 100, 101, [102, 103, 104]), (106, 107, 108, [109, 110, 111]), (113, 114, 115, [116, 117]), (119, 120, 121, [122, 123, 124]), (126, 127, 128, [129, 130, 131, 132]), (134, 135, 136, [137, 138, 139, 140]), (142, 143, 144, [145, 146, 147, 148]), (150, 151, 152, [153, 154, 155]), (157, 158, 159, [160, 161, 162]), (164, 165, 166, [167, 168, 169]), (171, 172, 173, [174, 175, 176, 177]), (179, 180, 181, [182, 183, 184, 185, 186]), (188, 189, 190, [191, 192, 193, 194, 195, 196, 197, 198, 199, 200, 201, 202, 203, 204, 205]), (207, 208, 209, [210, 211, 212, 213, 214, 215, 216, 217, 218, 219, 220, 221, 222, 223, 224, 225, 226]), (228, 229, 230, [231, 232, 233, 234, 235, 236, 237, 238, 239, 240, 241, 242, 243, 244, 245, 246, 247, 248, 249, 250, 251, 252, 253]), (255, 256, 257, [258, 259, 260, 261, 262, 263, 264, 265, 266, 267, 268, 269, 270, 271, 272, 273, 274, 275, 276, 277, 278, 279, 280, 281, 282, 283]), (285, 286, 287, [288, 289, 290, 291, 292, 293, 294, 295, 296, 297, 298, 299, 300, 301, 302, 303, 304, 305, 306, 307, 308, 309, 310, 311]), (313, 314, 315, [316, 317, 318, 319, 320, 321, 322, 323, 324, 325, 326, 327, 328]), (330, 331, 332, [333, 334, 335, 336]), (339, 340, 341, [342, 343, 344, 345]), (348, 349, 350, [351, 352, 353, 354]), (357, 358, 359, [360, 361, 362]), (365, 366, 367, [368, 369, 370]), (373, 374, 375, [376, 377, 378]), (381, 382, 383, [384, 385, 386, 387]), (390, 391, 392, [393, 394, 395, 396, 397]), (400, 401, 402, [403, 404, 405]), (408, 409, 410, [411, 412, 413, 414]), (417, 418, 419, [420, 421, 422]), (425, 426, 427, [428, 429, 430]), (433, 434, 435, [436, 437])]
set_option maxRecDepth 100000 in
theorem ap_ty0 : ap_ty 0 (an_strs.getD 0 (0, 0, "")) (ap_tp.getD 0 (0, 0, 0, [])) = true := by decide +kernel
set_option maxRecDepth 100000 in
theorem ap_ty1 : ap_ty 1 (an_strs.getD 1 (0, 0, "")) (ap_tp.getD 1 (0, 0, 0, [])) = true := by decide +kernel
set_option maxRecDepth 100000 in
theorem ap_ty2 : ap_ty 2 (an_strs.getD 2 (0, 0, "")) (ap_tp.getD 2 (0, 0, 0, [])) = true := by decide +kernel
set_option maxRecDepth 100000 in
theorem ap_ty3 : ap_ty 3 (an_strs.getD 3 (0, 0, "")) (ap_tp.getD 3 (0, 0, 0, [])) = true := by decide +kernel
set_option maxRecDepth 100000 in
theorem ap_ty4 : ap_ty 4 (an_strs.getD 4 (0, 0, "")) (ap_tp.getD 4 (0, 0, 0, [])) = true := by decide +kernel
set_option maxRecDepth 100000 in
theorem ap_ty5 : ap_ty 5 (an_strs.getD 5 (0, 0, "")) (ap_tp.getD 5 (0, 0, 0, [])) = true := by decide +kernel
set_option maxRecDepth 100000 in
theorem ap_ty6 : ap_ty 6 (an_strs.getD 6 (0, 0, "")) (ap_tp.getD 6 (0, 0, 0, [])) = true := by decide +kernel
set_option maxRecDepth 100000 in
theorem ap_ty7 : ap_ty 7 (an_strs.getD 7 (0, 0, "")) (ap_tp.getD 7 (0, 0, 0, [])) = true := by decide +kernel
set_option maxRecDepth 100000 in
theorem ap_ty8 : ap_ty 8 (an_strs.getD 8 (0, 0, "")) (ap_tp.getD 8 (0, 0, 0, [])) = true := by decide +kernel
set_option maxRecDepth 100000 in
theorem ap_ty9 : ap_ty 9 (an_strs.getD 9 (0, 0, "")) (ap_tp.getD 9 (0, 0, 0, [])) = true := by decide +kernel
set_option maxRecDepth 100000 in
theorem ap_ty10 : ap_ty 10 (an_strs.getD 10 (0, 0, "")) (ap_tp.getD 10 (0, 0, 0, [])) = true := by decide +kernel
set_option maxRecDepth 100000 in
theorem ap_ty11 : ap_ty 11 (an_strs.getD 11 (0, 0, "")) (ap_tp.getD 11 (0, 0, 0, [])) = true := by decide +kernel
set_option maxRecDepth 100000 in
theorem ap_ty12 : ap_ty 12 (an_strs.getD 12 (0, 0, "")) (ap_tp.getD 12 (0, 0, 0, [])) = true := by decide +kernel
set_option maxRecDepth 100000 in
theorem ap_ty13 : ap_ty 13 (an_strs.getD 13 (0, 0, "")) (ap_tp.getD 13 (0, 0, 0, [])) = true := by decide +kernel
set_option maxRecDepth 100000 in
theorem ap_ty14 : ap_ty 14 (an_strs.getD 14 (0, 0, "")) (ap_tp.getD 14 (0, 0, 0, [])) = true := by decide +kernel
set_option maxRecDepth 100000 in
theorem ap_ty15 : ap_ty 15 (an_strs.getD 15 (0, 0, "")) (ap_tp.getD 15 (0, 0, 0, [])) = true := by decide +kernel
set_option maxRecDepth 100000 in
theorem ap_ty16 : ap_ty 16 (an_strs.getD 16 (0, 0, "")) (ap_tp.getD 16 (0, 0, 0, [])) = true := by decide +kernel
set_option maxRecDepth 100000 in
theorem ap_ty17 : ap_ty 17 (an_strs.getD 17 (0, 0, "")) (ap_tp.getD 17 (0, 0, 0, [])) = true := by decide +kernel
set_option maxRecDepth 100000 in
theorem ap_ty18 : ap_ty 18 (an_strs.getD 18 (0, 0, "")) (ap_tp.getD 18 (0, 0, 0, [])) = true := by decide +kernel
set_option maxRecDepth 100000 in
theorem ap_ty19 : ap_ty 19 (an_strs.getD 19 (0, 0, "")) (ap_tp.getD 19 (0, 0, 0, [])) = true := by decide +kernel
set_option maxRecDepth 100000 in
theorem ap_ty20 : ap_ty 20 (an_strs.getD 20 (0, 0, "")) (ap_tp.getD 20 (0, 0, 0, [])) = true := by decide +kernel
set_option maxRecDepth 100000 in
theorem ap_ty21 : ap_ty 21 (an_strs.getD 21 (0, 0, "")) (ap_tp.getD 21 (0, 0, 0, [])) = true := by decide +kernel
set_option maxRecDepth 100000 in
theorem ap_ty22 : ap_ty 22 (an_strs.getD 22 (0, 0, "")) (ap_tp.getD 22 (0, 0, 0, [])) = true := by decide +kernel
set_option maxRecDepth 100000 in
theorem ap_ty23 : ap_ty 23 (an_strs.getD 23 (0, 0, "")) (ap_tp.getD 23 (0, 0, 0, [])) = true := by decide +kernel
set_option maxRecDepth 100000 in
theorem ap_ty24 : ap_ty 24 (an_strs.getD 24 (0, 0, "")) (ap_tp.getD 24 (0, 0, 0, [])) = true := by decide +kernel
set_option maxRecDepth 100000 in
theorem ap_ty25 : ap_ty 25 (an_strs.getD 25 (0, 0, "")) (ap_tp.getD 25 (0, 0, 0, [])) = true := by decide +kernel
set_option maxRecDepth 100000 in
theorem ap_ty26 : ap_ty 26 (an_strs.getD 26 (0, 0, "")) (ap_tp.getD 26 (0, 0, 0, [])) = true := by decide +kernel
set_option maxRecDepth 100000 in
theorem ap_ty27 : ap_ty 27 (an_strs.getD 27 (0, 0, "")) (ap_tp.getD 27 (0, 0, 0, [])) = true := by decide +kernel
set_option maxRecDepth 100000 in
theorem ap_ty28 : ap_ty 28 (an_strs.getD 28 (0, 0, "")) (ap_tp.getD 28 (0, 0, 0, [])) = true := by decide +kernel
set_option maxRecDepth 100000 in
theorem ap_ty29 : ap_ty 29 (an_strs.getD 29 (0, 0, "")) (ap_tp.getD 29 (0, 0, 0, [])) = true := by decide +kernel
set_option maxRecDepth 100000 in
theorem ap_ty30 : ap_ty 30 (an_strs.getD 30 (0, 0, "")) (ap_tp.getD 30 (0, 0, 0, [])) = true := by decide +kernel
set_option maxRecDepth 100000 in
theorem ap_ty31 : ap_ty 31 (an_strs.getD 31 (0, 0, "")) (ap_tp.getD 31 (0, 0, 0, [])) = true := by decide +kernel
set_option maxRecDepth 100000 in
theorem ap_ty32 : ap_ty 32 (an_strs.getD 32 (0, 0, "")) (ap_tp.getD 32 (0, 0, 0, [])) = true := by decide +kernel
set_option maxRecDepth 100000 in
theorem ap_ty33 : ap_ty 33 (an_strs.getD 33 (0, 0, "")) (ap_tp.getD 33 (0, 0, 0, [])) = true := by decide +kernel
set_option maxRecDepth 100000 in
theorem ap_ty34 : ap_ty 34 (an_strs.getD 34 (0, 0, "")) (ap_tp.getD 34 (0, 0, 0, [])) = true := by decide +kernel
theorem ap_tys : ∀ i, i < 35 → ap_ty i (an_strs.getD i (0, 0, "")) (ap_tp.getD i (0, 0, 0, [])) = true := by
  intro i hi
  match i, hi with
  | 0, _ => exact ap_ty0
  | 1, _ => exact ap_ty1
  | 2, _ => exact ap_ty2
  | 3, _ => exact ap_ty3
  | 4, _ => exact ap_ty4
  | 5, _ => exact ap_ty5
  | 6, _ => exact ap_ty6
  | 7, _ => exact ap_ty7
  | 8, _ => exact ap_ty8
  | 9, _ => exact ap_ty9
  | 10, _ => exact ap_ty10
  | 11, _ => exact ap_ty11
  | 12, _ => exact ap_ty12
  | 13, _ => exact ap_ty13
  | 14, _ => exact ap_ty14
  | 15, _ => exact ap_ty15
  | 16, _ => exact ap_ty16
  | 17, _ => exact ap_ty17
  | 18, _ => exact ap_ty18
  | 19, _ => exact ap_ty19
  | 20, _ => exact ap_ty20
  | 21, _ => exact ap_ty21
  | 22, _ => exact ap_ty22
  | 23, _ => exact ap_ty23
  | 24, _ => exact ap_ty24
  | 25, _ => exact ap_ty25
  | 26, _ => exact ap_ty26
  | 27, _ => exact ap_ty27
  | 28, _ => exact ap_ty28
  | 29, _ => exact ap_ty29
  | 30, _ => exact ap_ty30
  | 31, _ => exact ap_ty31
  | 32, _ => exact ap_ty32
  | 33, _ => exact ap_ty33
  | 34, _ => exact ap_ty34
  | n + 35, hi => omega
theorem ap_i {i : Nat} {x : Nat × Nat × String} (h : an_strs[i]? = some x) : i < 35 := (List.getElem?_eq_some_iff.mp h).1
theorem ap_ts_ok {i : Nat} {x : Nat × Nat × String} (h : an_strs[i]? = some x) : Cond.eq (ap_vf x "coder" "B") (.int 0) ∈ ap_gv ∧ Cond.arrayOf (ap_vf x "value" "[B") .byte ∈ ap_gv ∧ Cond.eq (.length (ap_vf x "value" "[B")) (.int (Int32.ofNat (ai_tx i).length)) ∈ ap_gv ∧ ∀ j, j < (ai_tx i).length → Cond.eq (.elem (ap_vf x "value" "[B") (.int (Int32.ofNat j))) (.int ((ai_tx i).getD j 0)) ∈ ap_gv := by
  have h1 := ap_tys i (ap_i h)
  rw [show an_strs.getD i (0, 0, "") = x by simp [List.getD, h]] at h1
  simp only [ap_ty, Bool.and_eq_true] at h1
  obtain ⟨⟨⟨g1, g2⟩, g3⟩, g4⟩ := h1
  exact ⟨ap_gt_in g1, ap_gt_in g2, ap_gt_in g3, fun j hj => ap_gt_in (List.all_eq_true.mp g4 j (List.mem_range.mpr hj))⟩
set_option maxRecDepth 100000 in
theorem an_w8 : Cond.laysStatic "java/lang/String" "COMPACT_STRINGS" "Z" ∈ lw_tbl := ap_at_in (p := 653) (by decide +kernel)
set_option maxRecDepth 100000 in
theorem an_w9 : Cond.initialized "java/lang/String" ∈ lw_tbl := ap_at_in (p := 112) (by decide +kernel)
set_option maxRecDepth 100000 in
theorem an_w10 : Cond.eq (.static "java/lang/String" "COMPACT_STRINGS" "Z") (.int 1) ∈ ap_gv := ap_gt_in (p := 6) (by decide +kernel)
set_option maxRecDepth 100000 in
theorem an_w11 : Cond.laysStatic "jdk/internal/util/Preconditions" "SIOOBE_FORMATTER" "Ljava/util/function/BiFunction;" ∈ lw_tbl := ap_at_in (p := 669) (by decide +kernel)
set_option maxRecDepth 100000 in
theorem an_w12 : Cond.initialized "jdk/internal/util/Preconditions" ∈ lw_tbl := ap_at_in (p := 114) (by decide +kernel)
set_option maxRecDepth 100000 in
theorem an_w13 : Cond.isRef (.static "jdk/internal/util/Preconditions" "SIOOBE_FORMATTER" "Ljava/util/function/BiFunction;") ∈ ap_gv := ap_gt_in (p := 7) (by decide +kernel)
