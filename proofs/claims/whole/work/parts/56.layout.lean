/-! Part 56 (written by gen10.py): the heap behind the constructors: cell 1 the class, 130 the reference, 166 the long -/
def s0_H : List (Nat × Nat) := [(10, 9), (1, 5), (100, 37), (101, 37), (9, 1), (100, 12), (3, 10), (6, 4), (103, 8), (7, 2), (100, 24), (7, 2), (100, 24), (7, 2), (100, 24), (7, 2), (100, 24), (7, 2), (100, 24), (7, 2), (100, 24), (7, 2), (100, 24), (7, 2), (100, 24), (4, 4), (7, 2), (100, 20), (7, 2), (100, 31), (7, 2), (100, 12), (7, 2), (100, 12), (7, 2), (100, 7), (3, 10), (6, 4), (103, 8), (7, 2), (100, 24), (7, 2), (100, 24), (7, 2), (100, 24), (7, 2), (100, 24), (7, 2), (100, 24), (7, 2), (100, 24), (7, 2), (100, 24), (7, 2), (100, 24), (4, 4), (7, 2), (100, 20), (7, 2), (100, 31), (7, 2), (100, 12), (7, 2), (100, 12), (7, 2), (100, 7), (2, 13), (5, 3), (103, 4), (7, 2), (100, 20), (7, 2), (100, 20), (7, 2), (100, 20), (7, 2), (100, 20), (7, 2), (100, 20), (7, 2), (100, 20), (7, 2), (100, 1), (7, 2), (100, 8), (8, 8), (104, 10), (0, 3), (7, 2), (100, 16), (0, 3), (7, 2), (100, 16), (0, 3), (7, 2), (100, 16), (0, 3), (7, 2), (100, 16), (0, 3), (7, 2), (100, 16), (0, 3), (7, 2), (100, 16), (0, 3), (7, 2), (100, 16), (0, 3), (7, 2), (100, 16), (0, 3), (7, 2), (100, 16), (0, 3), (7, 2), (100, 16), (103, 4), (7, 2), (100, 20), (7, 2), (100, 20), (7, 2), (100, 20), (7, 2), (100, 20), (100, 10), (7, 2), (100, 20), (11, 62), (101, 37), (100, 16), (100, 2), (100, 2), (100, 2), (101, 2), (100, 2), (100, 2), (100, 16), (100, 384), (100, 16), (100, 2), (100, 2), (100, 2), (100, 96), (100, 2), (101, 2), (100, 32), (100, 2), (100, 24), (100, 40), (100, 10), (100, 10), (100, 10), (100, 160), (100, 16), (100, 4), (100, 4), (100, 4), (100, 80), (100, 24), (100, 64), (100, 8), (100, 4), (100, 96), (102, 1)]
def s0_P : List (List (Option Nat)) := [[some 2, some 5, some 7, some 37, some 67, some 86], [none, some 3, some 4], [], [], [some 6], [], [some 8, some 26, some 31, some 33, some 35], [some 9], [some 10, some 12, some 14, some 16, some 18, some 20, some 22, some 24], [some 11], [], [some 13], [], [some 15], [], [some 17], [], [some 19], [], [some 21], [], [some 23], [], [some 25], [], [some 27, some 29], [some 28], [], [some 30], [], [some 32], [], [some 34], [], [some 36], [], [some 38, some 56, some 61, some 63, some 65], [some 39], [some 40, some 42, some 44, some 46, some 48, some 50, some 52, some 54], [some 41], [], [some 43], [], [some 45], [], [some 47], [], [some 49], [], [some 51], [], [some 53], [], [some 55], [], [some 57, some 59], [some 58], [], [some 60], [], [some 62], [], [some 64], [], [some 66], [], [some 68, some 78, some 80, some 82, some 84], [some 69], [some 70, some 72, some 74, some 76], [some 71], [], [some 73], [], [some 75], [], [some 77], [], [some 79], [], [some 81], [], [some 83], [], [some 85], [], [some 87, none, some 118, none, some 127, some 128], [some 88, some 91, some 94, some 97, some 100, some 103, some 106, some 109, some 112, some 115], [some 89], [some 90], [], [some 92], [some 93], [], [some 95], [some 96], [], [some 98], [some 99], [], [some 101], [some 102], [], [some 104], [some 105], [], [some 107], [some 108], [], [some 110], [some 111], [], [some 113], [some 114], [], [some 116], [some 117], [], [some 119, some 121, some 123, some 125], [some 120], [], [some 122], [], [some 124], [], [some 126], [], [], [some 129], [], [none, none, some 131, none, none, none, none, none, none, some 132, some 133, some 134, some 135, some 136, some 137, some 138, some 139, some 140, some 141, some 142, some 143, some 144, some 145, some 146, some 147, some 148, some 149, none, some 150, none, some 151, none, some 152, some 153, some 154, some 155, some 156, none, none, none, some 157, some 158, some 159, some 160, none, none, none, none, none, none, none, some 161, none, some 162, none, none, some 163, none, none, none, some 164, some 165], [], [], [], [], [], [], [], [], [], [], [], [], [], [], [], [], [], [], [], [], [], [], [], [], [], [], [], [], [], [], [], [], [], [], [], []]
def S0 (L : Nat) : am_S := (fun k => match k with
  | 0 => some (150, L)
  | k + 1 => s0_H[k]?, fun k j => match k with
  | 0 => none
  | k + 1 => (s0_P.getD k []).getD j none, 166)
def s0_R : List (Nat × Nat) := [(10, 24), (12, 24), (14, 24), (16, 24), (18, 24), (20, 24), (22, 24), (24, 24), (27, 20), (29, 31), (31, 12), (33, 12), (35, 7), (40, 24), (42, 24), (44, 24), (46, 24), (48, 24), (50, 24), (52, 24), (54, 24), (57, 20), (59, 31), (61, 12), (63, 12), (65, 7), (70, 20), (72, 20), (74, 20), (76, 20), (78, 20), (80, 20), (82, 1), (84, 8), (89, 16), (92, 16), (95, 16), (98, 16), (101, 16), (104, 16), (107, 16), (110, 16), (113, 16), (116, 16), (119, 20), (121, 20), (123, 20), (125, 20), (128, 20)]
def R0 (a : Nat) : Option Nat := (s0_R.find? (fun q => q.1 == a)).map (fun q => q.2)
theorem s0_ok : s0_R.all (fun q => decide (q.1 ≠ 0) && decide (s0_H[q.1 - 1]? = some (7, 2)) && decide ((s0_P.getD (q.1 - 1) []).getD 0 none = some (q.1 + 1)) && decide (s0_H[q.1]? = some (100, q.2)) && decide (q.2 ≤ 1000)) = true := by decide +kernel
theorem SR0 (L : Nat) : bw_SR (S0 L) R0 := by
  intro a N h
  unfold R0 at h
  obtain ⟨q, h1, h2⟩ := Option.map_eq_some_iff.mp h
  have h3 := List.mem_of_find?_eq_some h1
  have h4 : q.1 = a := by simpa using List.find?_some h1
  have h5 := List.all_eq_true.mp s0_ok q h3
  simp only [Bool.and_eq_true, decide_eq_true_eq] at h5
  rw [h4, h2] at h5
  obtain ⟨⟨⟨⟨z, e1⟩, e2⟩, e3⟩, e4⟩ := h5
  obtain ⟨k, rfl⟩ : ∃ k, a = k + 1 := ⟨a - 1, by omega⟩
  exact ⟨e1, e2, e3, e4⟩
theorem sh_1 (L : Nat) : (S0 L).1 1 = some (10, 9) := rfl
theorem p_1_0 (L : Nat) : (S0 L).2.1 1 0 = some 2 := rfl
theorem p_1_1 (L : Nat) : (S0 L).2.1 1 1 = some 5 := rfl
theorem p_1_2 (L : Nat) : (S0 L).2.1 1 2 = some 7 := rfl
theorem p_1_3 (L : Nat) : (S0 L).2.1 1 3 = some 37 := rfl
theorem p_1_4 (L : Nat) : (S0 L).2.1 1 4 = some 67 := rfl
theorem p_1_5 (L : Nat) : (S0 L).2.1 1 5 = some 86 := rfl
theorem rc_1 : bw_rc R0 1 = false := by decide +kernel
theorem sh_2 (L : Nat) : (S0 L).1 2 = some (1, 5) := rfl
theorem p_2_1 (L : Nat) : (S0 L).2.1 2 1 = some 3 := rfl
theorem p_2_2 (L : Nat) : (S0 L).2.1 2 2 = some 4 := rfl
theorem rc_2 : bw_rc R0 2 = false := by decide +kernel
theorem sh_3 (L : Nat) : (S0 L).1 3 = some (100, 37) := rfl
theorem rc_3 : bw_rc R0 3 = false := by decide +kernel
theorem sh_4 (L : Nat) : (S0 L).1 4 = some (101, 37) := rfl
theorem rc_4 : bw_rc R0 4 = false := by decide +kernel
theorem sh_5 (L : Nat) : (S0 L).1 5 = some (9, 1) := rfl
theorem p_5_0 (L : Nat) : (S0 L).2.1 5 0 = some 6 := rfl
theorem rc_5 : bw_rc R0 5 = false := by decide +kernel
theorem sh_6 (L : Nat) : (S0 L).1 6 = some (100, 12) := rfl
theorem rc_6 : bw_rc R0 6 = false := by decide +kernel
theorem sh_7 (L : Nat) : (S0 L).1 7 = some (3, 10) := rfl
theorem p_7_0 (L : Nat) : (S0 L).2.1 7 0 = some 8 := rfl
theorem p_7_1 (L : Nat) : (S0 L).2.1 7 1 = some 26 := rfl
theorem p_7_2 (L : Nat) : (S0 L).2.1 7 2 = some 31 := rfl
theorem p_7_3 (L : Nat) : (S0 L).2.1 7 3 = some 33 := rfl
theorem p_7_4 (L : Nat) : (S0 L).2.1 7 4 = some 35 := rfl
theorem rc_7 : bw_rc R0 7 = false := by decide +kernel
theorem sh_8 (L : Nat) : (S0 L).1 8 = some (6, 4) := rfl
theorem p_8_0 (L : Nat) : (S0 L).2.1 8 0 = some 9 := rfl
theorem rc_8 : bw_rc R0 8 = false := by decide +kernel
theorem sh_9 (L : Nat) : (S0 L).1 9 = some (103, 8) := rfl
theorem p_9_0 (L : Nat) : (S0 L).2.1 9 0 = some 10 := rfl
theorem p_9_1 (L : Nat) : (S0 L).2.1 9 1 = some 12 := rfl
theorem p_9_2 (L : Nat) : (S0 L).2.1 9 2 = some 14 := rfl
theorem p_9_3 (L : Nat) : (S0 L).2.1 9 3 = some 16 := rfl
theorem p_9_4 (L : Nat) : (S0 L).2.1 9 4 = some 18 := rfl
theorem p_9_5 (L : Nat) : (S0 L).2.1 9 5 = some 20 := rfl
theorem p_9_6 (L : Nat) : (S0 L).2.1 9 6 = some 22 := rfl
theorem p_9_7 (L : Nat) : (S0 L).2.1 9 7 = some 24 := rfl
theorem rc_9 : bw_rc R0 9 = false := by decide +kernel
theorem sh_10 (L : Nat) : (S0 L).1 10 = some (7, 2) := rfl
theorem p_10_0 (L : Nat) : (S0 L).2.1 10 0 = some 11 := rfl
theorem R_10 : R0 10 = some 24 := by decide +kernel
theorem sh_11 (L : Nat) : (S0 L).1 11 = some (100, 24) := rfl
theorem sh_12 (L : Nat) : (S0 L).1 12 = some (7, 2) := rfl
theorem p_12_0 (L : Nat) : (S0 L).2.1 12 0 = some 13 := rfl
theorem R_12 : R0 12 = some 24 := by decide +kernel
theorem sh_13 (L : Nat) : (S0 L).1 13 = some (100, 24) := rfl
theorem sh_14 (L : Nat) : (S0 L).1 14 = some (7, 2) := rfl
theorem p_14_0 (L : Nat) : (S0 L).2.1 14 0 = some 15 := rfl
theorem R_14 : R0 14 = some 24 := by decide +kernel
theorem sh_15 (L : Nat) : (S0 L).1 15 = some (100, 24) := rfl
theorem sh_16 (L : Nat) : (S0 L).1 16 = some (7, 2) := rfl
theorem p_16_0 (L : Nat) : (S0 L).2.1 16 0 = some 17 := rfl
theorem R_16 : R0 16 = some 24 := by decide +kernel
theorem sh_17 (L : Nat) : (S0 L).1 17 = some (100, 24) := rfl
theorem sh_18 (L : Nat) : (S0 L).1 18 = some (7, 2) := rfl
theorem p_18_0 (L : Nat) : (S0 L).2.1 18 0 = some 19 := rfl
theorem R_18 : R0 18 = some 24 := by decide +kernel
theorem sh_19 (L : Nat) : (S0 L).1 19 = some (100, 24) := rfl
theorem sh_20 (L : Nat) : (S0 L).1 20 = some (7, 2) := rfl
theorem p_20_0 (L : Nat) : (S0 L).2.1 20 0 = some 21 := rfl
theorem R_20 : R0 20 = some 24 := by decide +kernel
theorem sh_21 (L : Nat) : (S0 L).1 21 = some (100, 24) := rfl
theorem sh_22 (L : Nat) : (S0 L).1 22 = some (7, 2) := rfl
theorem p_22_0 (L : Nat) : (S0 L).2.1 22 0 = some 23 := rfl
theorem R_22 : R0 22 = some 24 := by decide +kernel
theorem sh_23 (L : Nat) : (S0 L).1 23 = some (100, 24) := rfl
theorem sh_24 (L : Nat) : (S0 L).1 24 = some (7, 2) := rfl
theorem p_24_0 (L : Nat) : (S0 L).2.1 24 0 = some 25 := rfl
theorem R_24 : R0 24 = some 24 := by decide +kernel
theorem sh_25 (L : Nat) : (S0 L).1 25 = some (100, 24) := rfl
theorem sh_26 (L : Nat) : (S0 L).1 26 = some (4, 4) := rfl
theorem p_26_0 (L : Nat) : (S0 L).2.1 26 0 = some 27 := rfl
theorem p_26_1 (L : Nat) : (S0 L).2.1 26 1 = some 29 := rfl
theorem rc_26 : bw_rc R0 26 = false := by decide +kernel
theorem sh_27 (L : Nat) : (S0 L).1 27 = some (7, 2) := rfl
theorem p_27_0 (L : Nat) : (S0 L).2.1 27 0 = some 28 := rfl
theorem R_27 : R0 27 = some 20 := by decide +kernel
theorem sh_28 (L : Nat) : (S0 L).1 28 = some (100, 20) := rfl
theorem sh_29 (L : Nat) : (S0 L).1 29 = some (7, 2) := rfl
theorem p_29_0 (L : Nat) : (S0 L).2.1 29 0 = some 30 := rfl
theorem R_29 : R0 29 = some 31 := by decide +kernel
theorem sh_30 (L : Nat) : (S0 L).1 30 = some (100, 31) := rfl
theorem sh_31 (L : Nat) : (S0 L).1 31 = some (7, 2) := rfl
theorem p_31_0 (L : Nat) : (S0 L).2.1 31 0 = some 32 := rfl
theorem R_31 : R0 31 = some 12 := by decide +kernel
theorem sh_32 (L : Nat) : (S0 L).1 32 = some (100, 12) := rfl
theorem sh_33 (L : Nat) : (S0 L).1 33 = some (7, 2) := rfl
theorem p_33_0 (L : Nat) : (S0 L).2.1 33 0 = some 34 := rfl
theorem R_33 : R0 33 = some 12 := by decide +kernel
theorem sh_34 (L : Nat) : (S0 L).1 34 = some (100, 12) := rfl
theorem sh_35 (L : Nat) : (S0 L).1 35 = some (7, 2) := rfl
theorem p_35_0 (L : Nat) : (S0 L).2.1 35 0 = some 36 := rfl
theorem R_35 : R0 35 = some 7 := by decide +kernel
theorem sh_36 (L : Nat) : (S0 L).1 36 = some (100, 7) := rfl
theorem sh_37 (L : Nat) : (S0 L).1 37 = some (3, 10) := rfl
theorem p_37_0 (L : Nat) : (S0 L).2.1 37 0 = some 38 := rfl
theorem p_37_1 (L : Nat) : (S0 L).2.1 37 1 = some 56 := rfl
theorem p_37_2 (L : Nat) : (S0 L).2.1 37 2 = some 61 := rfl
theorem p_37_3 (L : Nat) : (S0 L).2.1 37 3 = some 63 := rfl
theorem p_37_4 (L : Nat) : (S0 L).2.1 37 4 = some 65 := rfl
theorem rc_37 : bw_rc R0 37 = false := by decide +kernel
theorem sh_38 (L : Nat) : (S0 L).1 38 = some (6, 4) := rfl
theorem p_38_0 (L : Nat) : (S0 L).2.1 38 0 = some 39 := rfl
theorem rc_38 : bw_rc R0 38 = false := by decide +kernel
theorem sh_39 (L : Nat) : (S0 L).1 39 = some (103, 8) := rfl
theorem p_39_0 (L : Nat) : (S0 L).2.1 39 0 = some 40 := rfl
theorem p_39_1 (L : Nat) : (S0 L).2.1 39 1 = some 42 := rfl
theorem p_39_2 (L : Nat) : (S0 L).2.1 39 2 = some 44 := rfl
theorem p_39_3 (L : Nat) : (S0 L).2.1 39 3 = some 46 := rfl
theorem p_39_4 (L : Nat) : (S0 L).2.1 39 4 = some 48 := rfl
theorem p_39_5 (L : Nat) : (S0 L).2.1 39 5 = some 50 := rfl
theorem p_39_6 (L : Nat) : (S0 L).2.1 39 6 = some 52 := rfl
theorem p_39_7 (L : Nat) : (S0 L).2.1 39 7 = some 54 := rfl
theorem rc_39 : bw_rc R0 39 = false := by decide +kernel
theorem sh_40 (L : Nat) : (S0 L).1 40 = some (7, 2) := rfl
theorem p_40_0 (L : Nat) : (S0 L).2.1 40 0 = some 41 := rfl
theorem R_40 : R0 40 = some 24 := by decide +kernel
theorem sh_41 (L : Nat) : (S0 L).1 41 = some (100, 24) := rfl
theorem sh_42 (L : Nat) : (S0 L).1 42 = some (7, 2) := rfl
theorem p_42_0 (L : Nat) : (S0 L).2.1 42 0 = some 43 := rfl
theorem R_42 : R0 42 = some 24 := by decide +kernel
theorem sh_43 (L : Nat) : (S0 L).1 43 = some (100, 24) := rfl
theorem sh_44 (L : Nat) : (S0 L).1 44 = some (7, 2) := rfl
theorem p_44_0 (L : Nat) : (S0 L).2.1 44 0 = some 45 := rfl
theorem R_44 : R0 44 = some 24 := by decide +kernel
theorem sh_45 (L : Nat) : (S0 L).1 45 = some (100, 24) := rfl
theorem sh_46 (L : Nat) : (S0 L).1 46 = some (7, 2) := rfl
theorem p_46_0 (L : Nat) : (S0 L).2.1 46 0 = some 47 := rfl
theorem R_46 : R0 46 = some 24 := by decide +kernel
theorem sh_47 (L : Nat) : (S0 L).1 47 = some (100, 24) := rfl
theorem sh_48 (L : Nat) : (S0 L).1 48 = some (7, 2) := rfl
theorem p_48_0 (L : Nat) : (S0 L).2.1 48 0 = some 49 := rfl
theorem R_48 : R0 48 = some 24 := by decide +kernel
theorem sh_49 (L : Nat) : (S0 L).1 49 = some (100, 24) := rfl
theorem sh_50 (L : Nat) : (S0 L).1 50 = some (7, 2) := rfl
theorem p_50_0 (L : Nat) : (S0 L).2.1 50 0 = some 51 := rfl
theorem R_50 : R0 50 = some 24 := by decide +kernel
theorem sh_51 (L : Nat) : (S0 L).1 51 = some (100, 24) := rfl
theorem sh_52 (L : Nat) : (S0 L).1 52 = some (7, 2) := rfl
theorem p_52_0 (L : Nat) : (S0 L).2.1 52 0 = some 53 := rfl
theorem R_52 : R0 52 = some 24 := by decide +kernel
theorem sh_53 (L : Nat) : (S0 L).1 53 = some (100, 24) := rfl
theorem sh_54 (L : Nat) : (S0 L).1 54 = some (7, 2) := rfl
theorem p_54_0 (L : Nat) : (S0 L).2.1 54 0 = some 55 := rfl
theorem R_54 : R0 54 = some 24 := by decide +kernel
theorem sh_55 (L : Nat) : (S0 L).1 55 = some (100, 24) := rfl
theorem sh_56 (L : Nat) : (S0 L).1 56 = some (4, 4) := rfl
theorem p_56_0 (L : Nat) : (S0 L).2.1 56 0 = some 57 := rfl
theorem p_56_1 (L : Nat) : (S0 L).2.1 56 1 = some 59 := rfl
theorem rc_56 : bw_rc R0 56 = false := by decide +kernel
theorem sh_57 (L : Nat) : (S0 L).1 57 = some (7, 2) := rfl
theorem p_57_0 (L : Nat) : (S0 L).2.1 57 0 = some 58 := rfl
theorem R_57 : R0 57 = some 20 := by decide +kernel
theorem sh_58 (L : Nat) : (S0 L).1 58 = some (100, 20) := rfl
theorem sh_59 (L : Nat) : (S0 L).1 59 = some (7, 2) := rfl
theorem p_59_0 (L : Nat) : (S0 L).2.1 59 0 = some 60 := rfl
theorem R_59 : R0 59 = some 31 := by decide +kernel
theorem sh_60 (L : Nat) : (S0 L).1 60 = some (100, 31) := rfl
theorem sh_61 (L : Nat) : (S0 L).1 61 = some (7, 2) := rfl
theorem p_61_0 (L : Nat) : (S0 L).2.1 61 0 = some 62 := rfl
theorem R_61 : R0 61 = some 12 := by decide +kernel
theorem sh_62 (L : Nat) : (S0 L).1 62 = some (100, 12) := rfl
theorem sh_63 (L : Nat) : (S0 L).1 63 = some (7, 2) := rfl
theorem p_63_0 (L : Nat) : (S0 L).2.1 63 0 = some 64 := rfl
theorem R_63 : R0 63 = some 12 := by decide +kernel
theorem sh_64 (L : Nat) : (S0 L).1 64 = some (100, 12) := rfl
theorem sh_65 (L : Nat) : (S0 L).1 65 = some (7, 2) := rfl
theorem p_65_0 (L : Nat) : (S0 L).2.1 65 0 = some 66 := rfl
theorem R_65 : R0 65 = some 7 := by decide +kernel
theorem sh_66 (L : Nat) : (S0 L).1 66 = some (100, 7) := rfl
theorem sh_67 (L : Nat) : (S0 L).1 67 = some (2, 13) := rfl
theorem p_67_0 (L : Nat) : (S0 L).2.1 67 0 = some 68 := rfl
theorem p_67_1 (L : Nat) : (S0 L).2.1 67 1 = some 78 := rfl
theorem p_67_2 (L : Nat) : (S0 L).2.1 67 2 = some 80 := rfl
theorem p_67_3 (L : Nat) : (S0 L).2.1 67 3 = some 82 := rfl
theorem p_67_4 (L : Nat) : (S0 L).2.1 67 4 = some 84 := rfl
theorem rc_67 : bw_rc R0 67 = false := by decide +kernel
theorem sh_68 (L : Nat) : (S0 L).1 68 = some (5, 3) := rfl
theorem p_68_0 (L : Nat) : (S0 L).2.1 68 0 = some 69 := rfl
theorem rc_68 : bw_rc R0 68 = false := by decide +kernel
theorem sh_69 (L : Nat) : (S0 L).1 69 = some (103, 4) := rfl
theorem p_69_0 (L : Nat) : (S0 L).2.1 69 0 = some 70 := rfl
theorem p_69_1 (L : Nat) : (S0 L).2.1 69 1 = some 72 := rfl
theorem p_69_2 (L : Nat) : (S0 L).2.1 69 2 = some 74 := rfl
theorem p_69_3 (L : Nat) : (S0 L).2.1 69 3 = some 76 := rfl
theorem rc_69 : bw_rc R0 69 = false := by decide +kernel
theorem sh_70 (L : Nat) : (S0 L).1 70 = some (7, 2) := rfl
theorem p_70_0 (L : Nat) : (S0 L).2.1 70 0 = some 71 := rfl
theorem R_70 : R0 70 = some 20 := by decide +kernel
theorem sh_71 (L : Nat) : (S0 L).1 71 = some (100, 20) := rfl
theorem sh_72 (L : Nat) : (S0 L).1 72 = some (7, 2) := rfl
theorem p_72_0 (L : Nat) : (S0 L).2.1 72 0 = some 73 := rfl
theorem R_72 : R0 72 = some 20 := by decide +kernel
theorem sh_73 (L : Nat) : (S0 L).1 73 = some (100, 20) := rfl
theorem sh_74 (L : Nat) : (S0 L).1 74 = some (7, 2) := rfl
theorem p_74_0 (L : Nat) : (S0 L).2.1 74 0 = some 75 := rfl
theorem R_74 : R0 74 = some 20 := by decide +kernel
theorem sh_75 (L : Nat) : (S0 L).1 75 = some (100, 20) := rfl
theorem sh_76 (L : Nat) : (S0 L).1 76 = some (7, 2) := rfl
theorem p_76_0 (L : Nat) : (S0 L).2.1 76 0 = some 77 := rfl
theorem R_76 : R0 76 = some 20 := by decide +kernel
theorem sh_77 (L : Nat) : (S0 L).1 77 = some (100, 20) := rfl
theorem sh_78 (L : Nat) : (S0 L).1 78 = some (7, 2) := rfl
theorem p_78_0 (L : Nat) : (S0 L).2.1 78 0 = some 79 := rfl
theorem R_78 : R0 78 = some 20 := by decide +kernel
theorem sh_79 (L : Nat) : (S0 L).1 79 = some (100, 20) := rfl
theorem sh_80 (L : Nat) : (S0 L).1 80 = some (7, 2) := rfl
theorem p_80_0 (L : Nat) : (S0 L).2.1 80 0 = some 81 := rfl
theorem R_80 : R0 80 = some 20 := by decide +kernel
theorem sh_81 (L : Nat) : (S0 L).1 81 = some (100, 20) := rfl
theorem sh_82 (L : Nat) : (S0 L).1 82 = some (7, 2) := rfl
theorem p_82_0 (L : Nat) : (S0 L).2.1 82 0 = some 83 := rfl
theorem R_82 : R0 82 = some 1 := by decide +kernel
theorem sh_83 (L : Nat) : (S0 L).1 83 = some (100, 1) := rfl
theorem sh_84 (L : Nat) : (S0 L).1 84 = some (7, 2) := rfl
theorem p_84_0 (L : Nat) : (S0 L).2.1 84 0 = some 85 := rfl
theorem R_84 : R0 84 = some 8 := by decide +kernel
theorem sh_85 (L : Nat) : (S0 L).1 85 = some (100, 8) := rfl
theorem sh_86 (L : Nat) : (S0 L).1 86 = some (8, 8) := rfl
theorem p_86_0 (L : Nat) : (S0 L).2.1 86 0 = some 87 := rfl
theorem p_86_2 (L : Nat) : (S0 L).2.1 86 2 = some 118 := rfl
theorem p_86_4 (L : Nat) : (S0 L).2.1 86 4 = some 127 := rfl
theorem p_86_5 (L : Nat) : (S0 L).2.1 86 5 = some 128 := rfl
theorem rc_86 : bw_rc R0 86 = false := by decide +kernel
theorem sh_87 (L : Nat) : (S0 L).1 87 = some (104, 10) := rfl
theorem p_87_0 (L : Nat) : (S0 L).2.1 87 0 = some 88 := rfl
theorem p_87_1 (L : Nat) : (S0 L).2.1 87 1 = some 91 := rfl
theorem p_87_2 (L : Nat) : (S0 L).2.1 87 2 = some 94 := rfl
theorem p_87_3 (L : Nat) : (S0 L).2.1 87 3 = some 97 := rfl
theorem p_87_4 (L : Nat) : (S0 L).2.1 87 4 = some 100 := rfl
theorem p_87_5 (L : Nat) : (S0 L).2.1 87 5 = some 103 := rfl
theorem p_87_6 (L : Nat) : (S0 L).2.1 87 6 = some 106 := rfl
theorem p_87_7 (L : Nat) : (S0 L).2.1 87 7 = some 109 := rfl
theorem p_87_8 (L : Nat) : (S0 L).2.1 87 8 = some 112 := rfl
theorem p_87_9 (L : Nat) : (S0 L).2.1 87 9 = some 115 := rfl
theorem rc_87 : bw_rc R0 87 = false := by decide +kernel
theorem sh_88 (L : Nat) : (S0 L).1 88 = some (0, 3) := rfl
theorem p_88_0 (L : Nat) : (S0 L).2.1 88 0 = some 89 := rfl
theorem rc_88 : bw_rc R0 88 = false := by decide +kernel
theorem sh_89 (L : Nat) : (S0 L).1 89 = some (7, 2) := rfl
theorem p_89_0 (L : Nat) : (S0 L).2.1 89 0 = some 90 := rfl
theorem R_89 : R0 89 = some 16 := by decide +kernel
theorem sh_90 (L : Nat) : (S0 L).1 90 = some (100, 16) := rfl
theorem sh_91 (L : Nat) : (S0 L).1 91 = some (0, 3) := rfl
theorem p_91_0 (L : Nat) : (S0 L).2.1 91 0 = some 92 := rfl
theorem rc_91 : bw_rc R0 91 = false := by decide +kernel
theorem sh_92 (L : Nat) : (S0 L).1 92 = some (7, 2) := rfl
theorem p_92_0 (L : Nat) : (S0 L).2.1 92 0 = some 93 := rfl
theorem R_92 : R0 92 = some 16 := by decide +kernel
theorem sh_93 (L : Nat) : (S0 L).1 93 = some (100, 16) := rfl
theorem sh_94 (L : Nat) : (S0 L).1 94 = some (0, 3) := rfl
theorem p_94_0 (L : Nat) : (S0 L).2.1 94 0 = some 95 := rfl
theorem rc_94 : bw_rc R0 94 = false := by decide +kernel
theorem sh_95 (L : Nat) : (S0 L).1 95 = some (7, 2) := rfl
theorem p_95_0 (L : Nat) : (S0 L).2.1 95 0 = some 96 := rfl
theorem R_95 : R0 95 = some 16 := by decide +kernel
theorem sh_96 (L : Nat) : (S0 L).1 96 = some (100, 16) := rfl
theorem sh_97 (L : Nat) : (S0 L).1 97 = some (0, 3) := rfl
theorem p_97_0 (L : Nat) : (S0 L).2.1 97 0 = some 98 := rfl
theorem rc_97 : bw_rc R0 97 = false := by decide +kernel
theorem sh_98 (L : Nat) : (S0 L).1 98 = some (7, 2) := rfl
theorem p_98_0 (L : Nat) : (S0 L).2.1 98 0 = some 99 := rfl
theorem R_98 : R0 98 = some 16 := by decide +kernel
theorem sh_99 (L : Nat) : (S0 L).1 99 = some (100, 16) := rfl
theorem sh_100 (L : Nat) : (S0 L).1 100 = some (0, 3) := rfl
theorem p_100_0 (L : Nat) : (S0 L).2.1 100 0 = some 101 := rfl
theorem rc_100 : bw_rc R0 100 = false := by decide +kernel
theorem sh_101 (L : Nat) : (S0 L).1 101 = some (7, 2) := rfl
theorem p_101_0 (L : Nat) : (S0 L).2.1 101 0 = some 102 := rfl
theorem R_101 : R0 101 = some 16 := by decide +kernel
theorem sh_102 (L : Nat) : (S0 L).1 102 = some (100, 16) := rfl
theorem sh_103 (L : Nat) : (S0 L).1 103 = some (0, 3) := rfl
theorem p_103_0 (L : Nat) : (S0 L).2.1 103 0 = some 104 := rfl
theorem rc_103 : bw_rc R0 103 = false := by decide +kernel
theorem sh_104 (L : Nat) : (S0 L).1 104 = some (7, 2) := rfl
theorem p_104_0 (L : Nat) : (S0 L).2.1 104 0 = some 105 := rfl
theorem R_104 : R0 104 = some 16 := by decide +kernel
theorem sh_105 (L : Nat) : (S0 L).1 105 = some (100, 16) := rfl
theorem sh_106 (L : Nat) : (S0 L).1 106 = some (0, 3) := rfl
theorem p_106_0 (L : Nat) : (S0 L).2.1 106 0 = some 107 := rfl
theorem rc_106 : bw_rc R0 106 = false := by decide +kernel
theorem sh_107 (L : Nat) : (S0 L).1 107 = some (7, 2) := rfl
theorem p_107_0 (L : Nat) : (S0 L).2.1 107 0 = some 108 := rfl
theorem R_107 : R0 107 = some 16 := by decide +kernel
theorem sh_108 (L : Nat) : (S0 L).1 108 = some (100, 16) := rfl
theorem sh_109 (L : Nat) : (S0 L).1 109 = some (0, 3) := rfl
theorem p_109_0 (L : Nat) : (S0 L).2.1 109 0 = some 110 := rfl
theorem rc_109 : bw_rc R0 109 = false := by decide +kernel
theorem sh_110 (L : Nat) : (S0 L).1 110 = some (7, 2) := rfl
theorem p_110_0 (L : Nat) : (S0 L).2.1 110 0 = some 111 := rfl
theorem R_110 : R0 110 = some 16 := by decide +kernel
theorem sh_111 (L : Nat) : (S0 L).1 111 = some (100, 16) := rfl
theorem sh_112 (L : Nat) : (S0 L).1 112 = some (0, 3) := rfl
theorem p_112_0 (L : Nat) : (S0 L).2.1 112 0 = some 113 := rfl
theorem rc_112 : bw_rc R0 112 = false := by decide +kernel
theorem sh_113 (L : Nat) : (S0 L).1 113 = some (7, 2) := rfl
theorem p_113_0 (L : Nat) : (S0 L).2.1 113 0 = some 114 := rfl
theorem R_113 : R0 113 = some 16 := by decide +kernel
theorem sh_114 (L : Nat) : (S0 L).1 114 = some (100, 16) := rfl
theorem sh_115 (L : Nat) : (S0 L).1 115 = some (0, 3) := rfl
theorem p_115_0 (L : Nat) : (S0 L).2.1 115 0 = some 116 := rfl
theorem rc_115 : bw_rc R0 115 = false := by decide +kernel
theorem sh_116 (L : Nat) : (S0 L).1 116 = some (7, 2) := rfl
theorem p_116_0 (L : Nat) : (S0 L).2.1 116 0 = some 117 := rfl
theorem R_116 : R0 116 = some 16 := by decide +kernel
theorem sh_117 (L : Nat) : (S0 L).1 117 = some (100, 16) := rfl
theorem sh_118 (L : Nat) : (S0 L).1 118 = some (103, 4) := rfl
theorem p_118_0 (L : Nat) : (S0 L).2.1 118 0 = some 119 := rfl
theorem p_118_1 (L : Nat) : (S0 L).2.1 118 1 = some 121 := rfl
theorem p_118_2 (L : Nat) : (S0 L).2.1 118 2 = some 123 := rfl
theorem p_118_3 (L : Nat) : (S0 L).2.1 118 3 = some 125 := rfl
theorem rc_118 : bw_rc R0 118 = false := by decide +kernel
theorem sh_119 (L : Nat) : (S0 L).1 119 = some (7, 2) := rfl
theorem p_119_0 (L : Nat) : (S0 L).2.1 119 0 = some 120 := rfl
theorem R_119 : R0 119 = some 20 := by decide +kernel
theorem sh_120 (L : Nat) : (S0 L).1 120 = some (100, 20) := rfl
theorem sh_121 (L : Nat) : (S0 L).1 121 = some (7, 2) := rfl
theorem p_121_0 (L : Nat) : (S0 L).2.1 121 0 = some 122 := rfl
theorem R_121 : R0 121 = some 20 := by decide +kernel
theorem sh_122 (L : Nat) : (S0 L).1 122 = some (100, 20) := rfl
theorem sh_123 (L : Nat) : (S0 L).1 123 = some (7, 2) := rfl
theorem p_123_0 (L : Nat) : (S0 L).2.1 123 0 = some 124 := rfl
theorem R_123 : R0 123 = some 20 := by decide +kernel
theorem sh_124 (L : Nat) : (S0 L).1 124 = some (100, 20) := rfl
theorem sh_125 (L : Nat) : (S0 L).1 125 = some (7, 2) := rfl
theorem p_125_0 (L : Nat) : (S0 L).2.1 125 0 = some 126 := rfl
theorem R_125 : R0 125 = some 20 := by decide +kernel
theorem sh_126 (L : Nat) : (S0 L).1 126 = some (100, 20) := rfl
theorem sh_127 (L : Nat) : (S0 L).1 127 = some (100, 10) := rfl
theorem rc_127 : bw_rc R0 127 = false := by decide +kernel
theorem sh_128 (L : Nat) : (S0 L).1 128 = some (7, 2) := rfl
theorem p_128_0 (L : Nat) : (S0 L).2.1 128 0 = some 129 := rfl
theorem R_128 : R0 128 = some 20 := by decide +kernel
theorem sh_129 (L : Nat) : (S0 L).1 129 = some (100, 20) := rfl
theorem sh_130 (L : Nat) : (S0 L).1 130 = some (11, 62) := rfl
theorem p_130_2 (L : Nat) : (S0 L).2.1 130 2 = some 131 := rfl
theorem p_130_9 (L : Nat) : (S0 L).2.1 130 9 = some 132 := rfl
theorem p_130_10 (L : Nat) : (S0 L).2.1 130 10 = some 133 := rfl
theorem p_130_11 (L : Nat) : (S0 L).2.1 130 11 = some 134 := rfl
theorem p_130_12 (L : Nat) : (S0 L).2.1 130 12 = some 135 := rfl
theorem p_130_13 (L : Nat) : (S0 L).2.1 130 13 = some 136 := rfl
theorem p_130_14 (L : Nat) : (S0 L).2.1 130 14 = some 137 := rfl
theorem p_130_15 (L : Nat) : (S0 L).2.1 130 15 = some 138 := rfl
theorem p_130_16 (L : Nat) : (S0 L).2.1 130 16 = some 139 := rfl
theorem p_130_17 (L : Nat) : (S0 L).2.1 130 17 = some 140 := rfl
theorem p_130_18 (L : Nat) : (S0 L).2.1 130 18 = some 141 := rfl
theorem p_130_19 (L : Nat) : (S0 L).2.1 130 19 = some 142 := rfl
theorem p_130_20 (L : Nat) : (S0 L).2.1 130 20 = some 143 := rfl
theorem p_130_21 (L : Nat) : (S0 L).2.1 130 21 = some 144 := rfl
theorem p_130_22 (L : Nat) : (S0 L).2.1 130 22 = some 145 := rfl
theorem p_130_23 (L : Nat) : (S0 L).2.1 130 23 = some 146 := rfl
theorem p_130_24 (L : Nat) : (S0 L).2.1 130 24 = some 147 := rfl
theorem p_130_25 (L : Nat) : (S0 L).2.1 130 25 = some 148 := rfl
theorem p_130_26 (L : Nat) : (S0 L).2.1 130 26 = some 149 := rfl
theorem p_130_28 (L : Nat) : (S0 L).2.1 130 28 = some 150 := rfl
theorem p_130_30 (L : Nat) : (S0 L).2.1 130 30 = some 151 := rfl
theorem p_130_32 (L : Nat) : (S0 L).2.1 130 32 = some 152 := rfl
theorem p_130_33 (L : Nat) : (S0 L).2.1 130 33 = some 153 := rfl
theorem p_130_34 (L : Nat) : (S0 L).2.1 130 34 = some 154 := rfl
theorem p_130_35 (L : Nat) : (S0 L).2.1 130 35 = some 155 := rfl
theorem p_130_36 (L : Nat) : (S0 L).2.1 130 36 = some 156 := rfl
theorem p_130_40 (L : Nat) : (S0 L).2.1 130 40 = some 157 := rfl
theorem p_130_41 (L : Nat) : (S0 L).2.1 130 41 = some 158 := rfl
theorem p_130_42 (L : Nat) : (S0 L).2.1 130 42 = some 159 := rfl
theorem p_130_43 (L : Nat) : (S0 L).2.1 130 43 = some 160 := rfl
theorem p_130_51 (L : Nat) : (S0 L).2.1 130 51 = some 161 := rfl
theorem p_130_53 (L : Nat) : (S0 L).2.1 130 53 = some 162 := rfl
theorem p_130_56 (L : Nat) : (S0 L).2.1 130 56 = some 163 := rfl
theorem p_130_60 (L : Nat) : (S0 L).2.1 130 60 = some 164 := rfl
theorem p_130_61 (L : Nat) : (S0 L).2.1 130 61 = some 165 := rfl
theorem rc_130 : bw_rc R0 130 = false := by decide +kernel
theorem sh_131 (L : Nat) : (S0 L).1 131 = some (101, 37) := rfl
theorem rc_131 : bw_rc R0 131 = false := by decide +kernel
theorem sh_132 (L : Nat) : (S0 L).1 132 = some (100, 16) := rfl
theorem rc_132 : bw_rc R0 132 = false := by decide +kernel
theorem sh_133 (L : Nat) : (S0 L).1 133 = some (100, 2) := rfl
theorem rc_133 : bw_rc R0 133 = false := by decide +kernel
theorem sh_134 (L : Nat) : (S0 L).1 134 = some (100, 2) := rfl
theorem rc_134 : bw_rc R0 134 = false := by decide +kernel
theorem sh_135 (L : Nat) : (S0 L).1 135 = some (100, 2) := rfl
theorem rc_135 : bw_rc R0 135 = false := by decide +kernel
theorem sh_136 (L : Nat) : (S0 L).1 136 = some (101, 2) := rfl
theorem rc_136 : bw_rc R0 136 = false := by decide +kernel
theorem sh_137 (L : Nat) : (S0 L).1 137 = some (100, 2) := rfl
theorem rc_137 : bw_rc R0 137 = false := by decide +kernel
theorem sh_138 (L : Nat) : (S0 L).1 138 = some (100, 2) := rfl
theorem rc_138 : bw_rc R0 138 = false := by decide +kernel
theorem sh_139 (L : Nat) : (S0 L).1 139 = some (100, 16) := rfl
theorem rc_139 : bw_rc R0 139 = false := by decide +kernel
theorem sh_140 (L : Nat) : (S0 L).1 140 = some (100, 384) := rfl
theorem rc_140 : bw_rc R0 140 = false := by decide +kernel
theorem sh_141 (L : Nat) : (S0 L).1 141 = some (100, 16) := rfl
theorem rc_141 : bw_rc R0 141 = false := by decide +kernel
theorem sh_142 (L : Nat) : (S0 L).1 142 = some (100, 2) := rfl
theorem rc_142 : bw_rc R0 142 = false := by decide +kernel
theorem sh_143 (L : Nat) : (S0 L).1 143 = some (100, 2) := rfl
theorem rc_143 : bw_rc R0 143 = false := by decide +kernel
theorem sh_144 (L : Nat) : (S0 L).1 144 = some (100, 2) := rfl
theorem rc_144 : bw_rc R0 144 = false := by decide +kernel
theorem sh_145 (L : Nat) : (S0 L).1 145 = some (100, 96) := rfl
theorem rc_145 : bw_rc R0 145 = false := by decide +kernel
theorem sh_146 (L : Nat) : (S0 L).1 146 = some (100, 2) := rfl
theorem rc_146 : bw_rc R0 146 = false := by decide +kernel
theorem sh_147 (L : Nat) : (S0 L).1 147 = some (101, 2) := rfl
theorem rc_147 : bw_rc R0 147 = false := by decide +kernel
theorem sh_148 (L : Nat) : (S0 L).1 148 = some (100, 32) := rfl
theorem rc_148 : bw_rc R0 148 = false := by decide +kernel
theorem sh_149 (L : Nat) : (S0 L).1 149 = some (100, 2) := rfl
theorem rc_149 : bw_rc R0 149 = false := by decide +kernel
theorem sh_150 (L : Nat) : (S0 L).1 150 = some (100, 24) := rfl
theorem rc_150 : bw_rc R0 150 = false := by decide +kernel
theorem sh_151 (L : Nat) : (S0 L).1 151 = some (100, 40) := rfl
theorem rc_151 : bw_rc R0 151 = false := by decide +kernel
theorem sh_152 (L : Nat) : (S0 L).1 152 = some (100, 10) := rfl
theorem rc_152 : bw_rc R0 152 = false := by decide +kernel
theorem sh_153 (L : Nat) : (S0 L).1 153 = some (100, 10) := rfl
theorem rc_153 : bw_rc R0 153 = false := by decide +kernel
theorem sh_154 (L : Nat) : (S0 L).1 154 = some (100, 10) := rfl
theorem rc_154 : bw_rc R0 154 = false := by decide +kernel
theorem sh_155 (L : Nat) : (S0 L).1 155 = some (100, 160) := rfl
theorem rc_155 : bw_rc R0 155 = false := by decide +kernel
theorem sh_156 (L : Nat) : (S0 L).1 156 = some (100, 16) := rfl
theorem rc_156 : bw_rc R0 156 = false := by decide +kernel
theorem sh_157 (L : Nat) : (S0 L).1 157 = some (100, 4) := rfl
theorem rc_157 : bw_rc R0 157 = false := by decide +kernel
theorem sh_158 (L : Nat) : (S0 L).1 158 = some (100, 4) := rfl
theorem rc_158 : bw_rc R0 158 = false := by decide +kernel
theorem sh_159 (L : Nat) : (S0 L).1 159 = some (100, 4) := rfl
theorem rc_159 : bw_rc R0 159 = false := by decide +kernel
theorem sh_160 (L : Nat) : (S0 L).1 160 = some (100, 80) := rfl
theorem rc_160 : bw_rc R0 160 = false := by decide +kernel
theorem sh_161 (L : Nat) : (S0 L).1 161 = some (100, 24) := rfl
theorem rc_161 : bw_rc R0 161 = false := by decide +kernel
theorem sh_162 (L : Nat) : (S0 L).1 162 = some (100, 64) := rfl
theorem rc_162 : bw_rc R0 162 = false := by decide +kernel
theorem sh_163 (L : Nat) : (S0 L).1 163 = some (100, 8) := rfl
theorem rc_163 : bw_rc R0 163 = false := by decide +kernel
theorem sh_164 (L : Nat) : (S0 L).1 164 = some (100, 4) := rfl
theorem rc_164 : bw_rc R0 164 = false := by decide +kernel
theorem sh_165 (L : Nat) : (S0 L).1 165 = some (100, 96) := rfl
theorem rc_165 : bw_rc R0 165 = false := by decide +kernel
theorem sh_166 (L : Nat) : (S0 L).1 166 = some (102, 1) := rfl
theorem rc_166 : bw_rc R0 166 = false := by decide +kernel
theorem rc_0 : bw_rc R0 0 = false := by decide +kernel
