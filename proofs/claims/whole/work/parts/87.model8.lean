/-! Part 87 (written by gen37.py): the reference: sized, serverHandles -/
section MH
variable {n0 : Nat} {W : bw_W} {J : bw_J} {g : Nat} {L : bw_L}
variable {J1 : bw_J}
theorem mo_sized2 {d : Nat} (hd : 1 ≤ d) (hop : J 150 0 = Int32.ofNat 2) {n : Nat} (hn : J 130 27 = Int32.ofNat n) (hn20 : n ≤ 20)  : bm d (S0 n0) R0 162 [.ref 130] W J g L (bR (some (.int (if n = 2 then 1 else 0))) W J g L) := by
  obtain ⟨e, rfl⟩ : ∃ e, d = e + 1 := ⟨d - 1, by omega⟩
  refine bm_of (Nat.le_of_ble_eq_true rfl) (Or.inr bR_ret) ?_
  show bT e (S0 n0) R0 mt_Mo_sized _ 0 [(0, .ref 130)] [] W J g L 0 0
  have hSR := SR0 n0
  refine b_aln (pc2 := 1) d_Mo_sized_0 rfl rfl ?_
  refine b_gr (pc2 := 4) d_Mo_sized_1 q_11_72 (sh_130 n0) (by decide) (by decide) (p_130_28 n0) rfl ?_
  refine b_ic (pc2 := 5) (x := Int32.ofNat 0) d_Mo_sized_4 rfl rfl ?_
  refine b_ia (pc2 := 6) (q := 0) d_Mo_sized_5 (sh_150 n0) (i_in (i := 0) (by decide) (by decide)) (rfl) (rc_150) rfl ?_
  rw [hop]
  refine b_isn (pc2 := 7) (al2 := [(1, _), (0, _)]) d_Mo_sized_6 (by decide) rfl rfl ?_
  refine b_iln (pc2 := 8) d_Mo_sized_7 rfl rfl ?_
  refine b_ic (pc2 := 9) (x := Int32.ofNat 2) d_Mo_sized_8 rfl rfl ?_
  refine b_ifd (pc2 := 18) d_Mo_sized_9 rfl rfl rfl rfl rfl (fun h9 => ?_) (fun h9 => ?_)
  rotate_left
  · exact absurd (by decide) h9
  refine b_aln (pc2 := 19) d_Mo_sized_18 rfl rfl ?_
  refine b_gi (pc2 := 22) d_Mo_sized_19 q_11_174 (sh_130 n0) (by decide) (by decide) (rc_130) rfl ?_
  rw [hn]
  refine b_ic (pc2 := 23) (x := Int32.ofNat 2) d_Mo_sized_22 rfl rfl ?_
  refine b_ifd (pc2 := 30) d_Mo_sized_23 rfl rfl rfl rfl rfl (fun h23 => ?_) (fun h23 => ?_)
  · refine b_ic (pc2 := 31) (x := Int32.ofNat 0) d_Mo_sized_30 rfl rfl ?_
    refine b_br d_Mo_sized_31 rfl (by decide) ?_
    rw [i_eq (by omega) (by decide)] at h23
    exact ⟨by rw [if_neg (h23)]; rfl, rfl, rfl, rfl, rfl⟩
  · refine b_ic (pc2 := 27) (x := Int32.ofNat 1) d_Mo_sized_26 rfl rfl ?_
    refine b_go (pc2 := 31) d_Mo_sized_27 rfl ?_
    refine b_br d_Mo_sized_31 rfl (by decide) ?_
    rw [i_eq (by omega) (by decide)] at h23
    exact ⟨by rw [if_pos (Decidable.not_not.mp h23)]; rfl, rfl, rfl, rfl, rfl⟩
theorem mo_sized10 {d : Nat} (hd : 1 ≤ d) (hop : J 150 0 = Int32.ofNat 10) {n : Nat} (hn : J 130 27 = Int32.ofNat n) (hn20 : n ≤ 20)  : bm d (S0 n0) R0 162 [.ref 130] W J g L (bR (some (.int (if n = 2 then 1 else 0))) W J g L) := by
  obtain ⟨e, rfl⟩ : ∃ e, d = e + 1 := ⟨d - 1, by omega⟩
  refine bm_of (Nat.le_of_ble_eq_true rfl) (Or.inr bR_ret) ?_
  show bT e (S0 n0) R0 mt_Mo_sized _ 0 [(0, .ref 130)] [] W J g L 0 0
  have hSR := SR0 n0
  refine b_aln (pc2 := 1) d_Mo_sized_0 rfl rfl ?_
  refine b_gr (pc2 := 4) d_Mo_sized_1 q_11_72 (sh_130 n0) (by decide) (by decide) (p_130_28 n0) rfl ?_
  refine b_ic (pc2 := 5) (x := Int32.ofNat 0) d_Mo_sized_4 rfl rfl ?_
  refine b_ia (pc2 := 6) (q := 0) d_Mo_sized_5 (sh_150 n0) (i_in (i := 0) (by decide) (by decide)) (rfl) (rc_150) rfl ?_
  rw [hop]
  refine b_isn (pc2 := 7) (al2 := [(1, _), (0, _)]) d_Mo_sized_6 (by decide) rfl rfl ?_
  refine b_iln (pc2 := 8) d_Mo_sized_7 rfl rfl ?_
  refine b_ic (pc2 := 9) (x := Int32.ofNat 2) d_Mo_sized_8 rfl rfl ?_
  refine b_ifd (pc2 := 18) d_Mo_sized_9 rfl rfl rfl rfl rfl (fun h9 => ?_) (fun h9 => ?_)
  · exact absurd h9 (by decide)
  refine b_iln (pc2 := 13) d_Mo_sized_12 rfl rfl ?_
  refine b_bp (pc2 := 15) (x := Int32.ofNat 10) d_Mo_sized_13 rfl rfl ?_
  refine b_ifd (pc2 := 32) d_Mo_sized_15 rfl rfl rfl rfl rfl (fun h15 => ?_) (fun h15 => ?_)
  · exact absurd h15 (by decide)
  refine b_aln (pc2 := 19) d_Mo_sized_18 rfl rfl ?_
  refine b_gi (pc2 := 22) d_Mo_sized_19 q_11_174 (sh_130 n0) (by decide) (by decide) (rc_130) rfl ?_
  rw [hn]
  refine b_ic (pc2 := 23) (x := Int32.ofNat 2) d_Mo_sized_22 rfl rfl ?_
  refine b_ifd (pc2 := 30) d_Mo_sized_23 rfl rfl rfl rfl rfl (fun h23 => ?_) (fun h23 => ?_)
  · refine b_ic (pc2 := 31) (x := Int32.ofNat 0) d_Mo_sized_30 rfl rfl ?_
    refine b_br d_Mo_sized_31 rfl (by decide) ?_
    rw [i_eq (by omega) (by decide)] at h23
    exact ⟨by rw [if_neg (h23)]; rfl, rfl, rfl, rfl, rfl⟩
  · refine b_ic (pc2 := 27) (x := Int32.ofNat 1) d_Mo_sized_26 rfl rfl ?_
    refine b_go (pc2 := 31) d_Mo_sized_27 rfl ?_
    refine b_br d_Mo_sized_31 rfl (by decide) ?_
    rw [i_eq (by omega) (by decide)] at h23
    exact ⟨by rw [if_pos (Decidable.not_not.mp h23)]; rfl, rfl, rfl, rfl, rfl⟩
theorem mo_sized12 {d : Nat} (hd : 1 ≤ d) (hop : J 150 0 = Int32.ofNat 12) {n : Nat} (hn : J 130 27 = Int32.ofNat n) (hn20 : n ≤ 20)  : bm d (S0 n0) R0 162 [.ref 130] W J g L (bR (some (.int (if n = 3 then 1 else 0))) W J g L) := by
  obtain ⟨e, rfl⟩ : ∃ e, d = e + 1 := ⟨d - 1, by omega⟩
  refine bm_of (Nat.le_of_ble_eq_true rfl) (Or.inr bR_ret) ?_
  show bT e (S0 n0) R0 mt_Mo_sized _ 0 [(0, .ref 130)] [] W J g L 0 0
  have hSR := SR0 n0
  refine b_aln (pc2 := 1) d_Mo_sized_0 rfl rfl ?_
  refine b_gr (pc2 := 4) d_Mo_sized_1 q_11_72 (sh_130 n0) (by decide) (by decide) (p_130_28 n0) rfl ?_
  refine b_ic (pc2 := 5) (x := Int32.ofNat 0) d_Mo_sized_4 rfl rfl ?_
  refine b_ia (pc2 := 6) (q := 0) d_Mo_sized_5 (sh_150 n0) (i_in (i := 0) (by decide) (by decide)) (rfl) (rc_150) rfl ?_
  rw [hop]
  refine b_isn (pc2 := 7) (al2 := [(1, _), (0, _)]) d_Mo_sized_6 (by decide) rfl rfl ?_
  refine b_iln (pc2 := 8) d_Mo_sized_7 rfl rfl ?_
  refine b_ic (pc2 := 9) (x := Int32.ofNat 2) d_Mo_sized_8 rfl rfl ?_
  refine b_ifd (pc2 := 18) d_Mo_sized_9 rfl rfl rfl rfl rfl (fun h9 => ?_) (fun h9 => ?_)
  · exact absurd h9 (by decide)
  refine b_iln (pc2 := 13) d_Mo_sized_12 rfl rfl ?_
  refine b_bp (pc2 := 15) (x := Int32.ofNat 10) d_Mo_sized_13 rfl rfl ?_
  refine b_ifd (pc2 := 32) d_Mo_sized_15 rfl rfl rfl rfl rfl (fun h15 => ?_) (fun h15 => ?_)
  rotate_left
  · exact absurd (by decide) h15
  refine b_iln (pc2 := 33) d_Mo_sized_32 rfl rfl ?_
  refine b_bp (pc2 := 35) (x := Int32.ofNat 12) d_Mo_sized_33 rfl rfl ?_
  refine b_ifd (pc2 := 44) d_Mo_sized_35 rfl rfl rfl rfl rfl (fun h35 => ?_) (fun h35 => ?_)
  rotate_left
  · exact absurd (by decide) h35
  refine b_aln (pc2 := 45) d_Mo_sized_44 rfl rfl ?_
  refine b_gi (pc2 := 48) d_Mo_sized_45 q_11_174 (sh_130 n0) (by decide) (by decide) (rc_130) rfl ?_
  rw [hn]
  refine b_ic (pc2 := 49) (x := Int32.ofNat 3) d_Mo_sized_48 rfl rfl ?_
  refine b_ifd (pc2 := 56) d_Mo_sized_49 rfl rfl rfl rfl rfl (fun h49 => ?_) (fun h49 => ?_)
  · refine b_ic (pc2 := 57) (x := Int32.ofNat 0) d_Mo_sized_56 rfl rfl ?_
    refine b_br d_Mo_sized_57 rfl (by decide) ?_
    rw [i_eq (by omega) (by decide)] at h49
    exact ⟨by rw [if_neg (h49)]; rfl, rfl, rfl, rfl, rfl⟩
  · refine b_ic (pc2 := 53) (x := Int32.ofNat 1) d_Mo_sized_52 rfl rfl ?_
    refine b_go (pc2 := 57) d_Mo_sized_53 rfl ?_
    refine b_br d_Mo_sized_57 rfl (by decide) ?_
    rw [i_eq (by omega) (by decide)] at h49
    exact ⟨by rw [if_pos (Decidable.not_not.mp h49)]; rfl, rfl, rfl, rfl, rfl⟩
theorem mo_sized16 {d : Nat} (hd : 1 ≤ d) (hop : J 150 0 = Int32.ofNat 16) {n : Nat} (hn : J 130 27 = Int32.ofNat n) (hn20 : n ≤ 20)  : bm d (S0 n0) R0 162 [.ref 130] W J g L (bR (some (.int (if n = 3 then 1 else 0))) W J g L) := by
  obtain ⟨e, rfl⟩ : ∃ e, d = e + 1 := ⟨d - 1, by omega⟩
  refine bm_of (Nat.le_of_ble_eq_true rfl) (Or.inr bR_ret) ?_
  show bT e (S0 n0) R0 mt_Mo_sized _ 0 [(0, .ref 130)] [] W J g L 0 0
  have hSR := SR0 n0
  refine b_aln (pc2 := 1) d_Mo_sized_0 rfl rfl ?_
  refine b_gr (pc2 := 4) d_Mo_sized_1 q_11_72 (sh_130 n0) (by decide) (by decide) (p_130_28 n0) rfl ?_
  refine b_ic (pc2 := 5) (x := Int32.ofNat 0) d_Mo_sized_4 rfl rfl ?_
  refine b_ia (pc2 := 6) (q := 0) d_Mo_sized_5 (sh_150 n0) (i_in (i := 0) (by decide) (by decide)) (rfl) (rc_150) rfl ?_
  rw [hop]
  refine b_isn (pc2 := 7) (al2 := [(1, _), (0, _)]) d_Mo_sized_6 (by decide) rfl rfl ?_
  refine b_iln (pc2 := 8) d_Mo_sized_7 rfl rfl ?_
  refine b_ic (pc2 := 9) (x := Int32.ofNat 2) d_Mo_sized_8 rfl rfl ?_
  refine b_ifd (pc2 := 18) d_Mo_sized_9 rfl rfl rfl rfl rfl (fun h9 => ?_) (fun h9 => ?_)
  · exact absurd h9 (by decide)
  refine b_iln (pc2 := 13) d_Mo_sized_12 rfl rfl ?_
  refine b_bp (pc2 := 15) (x := Int32.ofNat 10) d_Mo_sized_13 rfl rfl ?_
  refine b_ifd (pc2 := 32) d_Mo_sized_15 rfl rfl rfl rfl rfl (fun h15 => ?_) (fun h15 => ?_)
  rotate_left
  · exact absurd (by decide) h15
  refine b_iln (pc2 := 33) d_Mo_sized_32 rfl rfl ?_
  refine b_bp (pc2 := 35) (x := Int32.ofNat 12) d_Mo_sized_33 rfl rfl ?_
  refine b_ifd (pc2 := 44) d_Mo_sized_35 rfl rfl rfl rfl rfl (fun h35 => ?_) (fun h35 => ?_)
  · exact absurd h35 (by decide)
  refine b_iln (pc2 := 39) d_Mo_sized_38 rfl rfl ?_
  refine b_bp (pc2 := 41) (x := Int32.ofNat 16) d_Mo_sized_39 rfl rfl ?_
  refine b_ifd (pc2 := 58) d_Mo_sized_41 rfl rfl rfl rfl rfl (fun h41 => ?_) (fun h41 => ?_)
  · exact absurd h41 (by decide)
  refine b_aln (pc2 := 45) d_Mo_sized_44 rfl rfl ?_
  refine b_gi (pc2 := 48) d_Mo_sized_45 q_11_174 (sh_130 n0) (by decide) (by decide) (rc_130) rfl ?_
  rw [hn]
  refine b_ic (pc2 := 49) (x := Int32.ofNat 3) d_Mo_sized_48 rfl rfl ?_
  refine b_ifd (pc2 := 56) d_Mo_sized_49 rfl rfl rfl rfl rfl (fun h49 => ?_) (fun h49 => ?_)
  · refine b_ic (pc2 := 57) (x := Int32.ofNat 0) d_Mo_sized_56 rfl rfl ?_
    refine b_br d_Mo_sized_57 rfl (by decide) ?_
    rw [i_eq (by omega) (by decide)] at h49
    exact ⟨by rw [if_neg (h49)]; rfl, rfl, rfl, rfl, rfl⟩
  · refine b_ic (pc2 := 53) (x := Int32.ofNat 1) d_Mo_sized_52 rfl rfl ?_
    refine b_go (pc2 := 57) d_Mo_sized_53 rfl ?_
    refine b_br d_Mo_sized_57 rfl (by decide) ?_
    rw [i_eq (by omega) (by decide)] at h49
    exact ⟨by rw [if_pos (Decidable.not_not.mp h49)]; rfl, rfl, rfl, rfl, rfl⟩
theorem mo_sized24 {d : Nat} (hd : 1 ≤ d) (hop : J 150 0 = Int32.ofNat 24) {n : Nat} (hn : J 130 27 = Int32.ofNat n) (hn20 : n ≤ 20) {b1 : Nat} (hb : J 150 1 = Int32.ofNat b1) (hb2 : b1 < 256) : bm d (S0 n0) R0 162 [.ref 130] W J g L (bR (some (.int (if n = 2 ∧ b1 < 2 then 1 else 0))) W J g L) := by
  obtain ⟨e, rfl⟩ : ∃ e, d = e + 1 := ⟨d - 1, by omega⟩
  refine bm_of (Nat.le_of_ble_eq_true rfl) (Or.inr bR_ret) ?_
  show bT e (S0 n0) R0 mt_Mo_sized _ 0 [(0, .ref 130)] [] W J g L 0 0
  have hSR := SR0 n0
  refine b_aln (pc2 := 1) d_Mo_sized_0 rfl rfl ?_
  refine b_gr (pc2 := 4) d_Mo_sized_1 q_11_72 (sh_130 n0) (by decide) (by decide) (p_130_28 n0) rfl ?_
  refine b_ic (pc2 := 5) (x := Int32.ofNat 0) d_Mo_sized_4 rfl rfl ?_
  refine b_ia (pc2 := 6) (q := 0) d_Mo_sized_5 (sh_150 n0) (i_in (i := 0) (by decide) (by decide)) (rfl) (rc_150) rfl ?_
  rw [hop]
  refine b_isn (pc2 := 7) (al2 := [(1, _), (0, _)]) d_Mo_sized_6 (by decide) rfl rfl ?_
  refine b_iln (pc2 := 8) d_Mo_sized_7 rfl rfl ?_
  refine b_ic (pc2 := 9) (x := Int32.ofNat 2) d_Mo_sized_8 rfl rfl ?_
  refine b_ifd (pc2 := 18) d_Mo_sized_9 rfl rfl rfl rfl rfl (fun h9 => ?_) (fun h9 => ?_)
  · exact absurd h9 (by decide)
  refine b_iln (pc2 := 13) d_Mo_sized_12 rfl rfl ?_
  refine b_bp (pc2 := 15) (x := Int32.ofNat 10) d_Mo_sized_13 rfl rfl ?_
  refine b_ifd (pc2 := 32) d_Mo_sized_15 rfl rfl rfl rfl rfl (fun h15 => ?_) (fun h15 => ?_)
  rotate_left
  · exact absurd (by decide) h15
  refine b_iln (pc2 := 33) d_Mo_sized_32 rfl rfl ?_
  refine b_bp (pc2 := 35) (x := Int32.ofNat 12) d_Mo_sized_33 rfl rfl ?_
  refine b_ifd (pc2 := 44) d_Mo_sized_35 rfl rfl rfl rfl rfl (fun h35 => ?_) (fun h35 => ?_)
  · exact absurd h35 (by decide)
  refine b_iln (pc2 := 39) d_Mo_sized_38 rfl rfl ?_
  refine b_bp (pc2 := 41) (x := Int32.ofNat 16) d_Mo_sized_39 rfl rfl ?_
  refine b_ifd (pc2 := 58) d_Mo_sized_41 rfl rfl rfl rfl rfl (fun h41 => ?_) (fun h41 => ?_)
  rotate_left
  · exact absurd (by decide) h41
  refine b_iln (pc2 := 59) d_Mo_sized_58 rfl rfl ?_
  refine b_bp (pc2 := 61) (x := Int32.ofNat 24) d_Mo_sized_59 rfl rfl ?_
  refine b_ifd (pc2 := 88) d_Mo_sized_61 rfl rfl rfl rfl rfl (fun h61 => ?_) (fun h61 => ?_)
  · exact absurd h61 (by decide)
  refine b_aln (pc2 := 65) d_Mo_sized_64 rfl rfl ?_
  refine b_gi (pc2 := 68) d_Mo_sized_65 q_11_174 (sh_130 n0) (by decide) (by decide) (rc_130) rfl ?_
  rw [hn]
  refine b_ic (pc2 := 69) (x := Int32.ofNat 2) d_Mo_sized_68 rfl rfl ?_
  refine b_ifd (pc2 := 86) d_Mo_sized_69 rfl rfl rfl rfl rfl (fun h69 => ?_) (fun h69 => ?_)
  · refine b_ic (pc2 := 87) (x := Int32.ofNat 0) d_Mo_sized_86 rfl rfl ?_
    refine b_br d_Mo_sized_87 rfl (by decide) ?_
    rw [i_eq (by omega) (by decide)] at h69
    exact ⟨by rw [if_neg (fun z => h69 z.1)]; rfl, rfl, rfl, rfl, rfl⟩
  · refine b_aln (pc2 := 73) d_Mo_sized_72 rfl rfl ?_
    refine b_gr (pc2 := 76) d_Mo_sized_73 q_11_72 (sh_130 n0) (by decide) (by decide) (p_130_28 n0) rfl ?_
    refine b_ic (pc2 := 77) (x := Int32.ofNat 1) d_Mo_sized_76 rfl rfl ?_
    refine b_ia (pc2 := 78) (q := 1) d_Mo_sized_77 (sh_150 n0) (i_in (i := 1) (by decide) (by decide)) (rfl) (rc_150) rfl ?_
    rw [hb]
    refine b_ic (pc2 := 79) (x := Int32.ofNat 2) d_Mo_sized_78 rfl rfl ?_
    refine b_ifd (pc2 := 86) d_Mo_sized_79 rfl rfl rfl rfl rfl (fun h79 => ?_) (fun h79 => ?_)
    · refine b_ic (pc2 := 87) (x := Int32.ofNat 0) d_Mo_sized_86 rfl rfl ?_
      refine b_br d_Mo_sized_87 rfl (by decide) ?_
      rw [i_le (by decide) (by omega)] at h79
      exact ⟨by rw [if_neg (fun z => by omega)]; rfl, rfl, rfl, rfl, rfl⟩
    · refine b_ic (pc2 := 83) (x := Int32.ofNat 1) d_Mo_sized_82 rfl rfl ?_
      refine b_go (pc2 := 87) d_Mo_sized_83 rfl ?_
      refine b_br d_Mo_sized_87 rfl (by decide) ?_
      rw [i_eq (by omega) (by decide)] at h69
      rw [i_le (by decide) (by omega)] at h79
      exact ⟨by rw [if_pos (⟨Decidable.not_not.mp h69, by omega⟩)]; rfl, rfl, rfl, rfl, rfl⟩
theorem mo_sized18 {d : Nat} (hd : 1 ≤ d) (hop : J 150 0 = Int32.ofNat 18) {n : Nat} (hn : J 130 27 = Int32.ofNat n) (hn20 : n ≤ 20)  : bm d (S0 n0) R0 162 [.ref 130] W J g L (bR (some (.int (if 2 ≤ n then 1 else 0))) W J g L) := by
  obtain ⟨e, rfl⟩ : ∃ e, d = e + 1 := ⟨d - 1, by omega⟩
  refine bm_of (Nat.le_of_ble_eq_true rfl) (Or.inr bR_ret) ?_
  show bT e (S0 n0) R0 mt_Mo_sized _ 0 [(0, .ref 130)] [] W J g L 0 0
  have hSR := SR0 n0
  refine b_aln (pc2 := 1) d_Mo_sized_0 rfl rfl ?_
  refine b_gr (pc2 := 4) d_Mo_sized_1 q_11_72 (sh_130 n0) (by decide) (by decide) (p_130_28 n0) rfl ?_
  refine b_ic (pc2 := 5) (x := Int32.ofNat 0) d_Mo_sized_4 rfl rfl ?_
  refine b_ia (pc2 := 6) (q := 0) d_Mo_sized_5 (sh_150 n0) (i_in (i := 0) (by decide) (by decide)) (rfl) (rc_150) rfl ?_
  rw [hop]
  refine b_isn (pc2 := 7) (al2 := [(1, _), (0, _)]) d_Mo_sized_6 (by decide) rfl rfl ?_
  refine b_iln (pc2 := 8) d_Mo_sized_7 rfl rfl ?_
  refine b_ic (pc2 := 9) (x := Int32.ofNat 2) d_Mo_sized_8 rfl rfl ?_
  refine b_ifd (pc2 := 18) d_Mo_sized_9 rfl rfl rfl rfl rfl (fun h9 => ?_) (fun h9 => ?_)
  · exact absurd h9 (by decide)
  refine b_iln (pc2 := 13) d_Mo_sized_12 rfl rfl ?_
  refine b_bp (pc2 := 15) (x := Int32.ofNat 10) d_Mo_sized_13 rfl rfl ?_
  refine b_ifd (pc2 := 32) d_Mo_sized_15 rfl rfl rfl rfl rfl (fun h15 => ?_) (fun h15 => ?_)
  rotate_left
  · exact absurd (by decide) h15
  refine b_iln (pc2 := 33) d_Mo_sized_32 rfl rfl ?_
  refine b_bp (pc2 := 35) (x := Int32.ofNat 12) d_Mo_sized_33 rfl rfl ?_
  refine b_ifd (pc2 := 44) d_Mo_sized_35 rfl rfl rfl rfl rfl (fun h35 => ?_) (fun h35 => ?_)
  · exact absurd h35 (by decide)
  refine b_iln (pc2 := 39) d_Mo_sized_38 rfl rfl ?_
  refine b_bp (pc2 := 41) (x := Int32.ofNat 16) d_Mo_sized_39 rfl rfl ?_
  refine b_ifd (pc2 := 58) d_Mo_sized_41 rfl rfl rfl rfl rfl (fun h41 => ?_) (fun h41 => ?_)
  rotate_left
  · exact absurd (by decide) h41
  refine b_iln (pc2 := 59) d_Mo_sized_58 rfl rfl ?_
  refine b_bp (pc2 := 61) (x := Int32.ofNat 24) d_Mo_sized_59 rfl rfl ?_
  refine b_ifd (pc2 := 88) d_Mo_sized_61 rfl rfl rfl rfl rfl (fun h61 => ?_) (fun h61 => ?_)
  rotate_left
  · exact absurd (by decide) h61
  refine b_iln (pc2 := 89) d_Mo_sized_88 rfl rfl ?_
  refine b_bp (pc2 := 91) (x := Int32.ofNat 18) d_Mo_sized_89 rfl rfl ?_
  refine b_ifd (pc2 := 110) d_Mo_sized_91 rfl rfl rfl rfl rfl (fun h91 => ?_) (fun h91 => ?_)
  · exact absurd h91 (by decide)
  refine b_aln (pc2 := 95) d_Mo_sized_94 rfl rfl ?_
  refine b_gi (pc2 := 98) d_Mo_sized_95 q_11_174 (sh_130 n0) (by decide) (by decide) (rc_130) rfl ?_
  rw [hn]
  refine b_ic (pc2 := 99) (x := Int32.ofNat 2) d_Mo_sized_98 rfl rfl ?_
  refine b_ifd (pc2 := 106) d_Mo_sized_99 rfl rfl rfl rfl rfl (fun h99 => ?_) (fun h99 => ?_)
  · refine b_ic (pc2 := 107) (x := Int32.ofNat 0) d_Mo_sized_106 rfl rfl ?_
    refine b_go (pc2 := 123) d_Mo_sized_107 rfl ?_
    refine b_br d_Mo_sized_123 rfl (by decide) ?_
    rw [i_lt (by omega) (by decide)] at h99
    exact ⟨by rw [if_neg (by omega)]; rfl, rfl, rfl, rfl, rfl⟩
  · refine b_ic (pc2 := 103) (x := Int32.ofNat 1) d_Mo_sized_102 rfl rfl ?_
    refine b_go (pc2 := 123) d_Mo_sized_103 rfl ?_
    refine b_br d_Mo_sized_123 rfl (by decide) ?_
    rw [i_lt (by omega) (by decide)] at h99
    exact ⟨by rw [if_pos (by omega)]; rfl, rfl, rfl, rfl, rfl⟩
theorem mo_sized22 {d : Nat} (hd : 1 ≤ d) (hop : J 150 0 = Int32.ofNat 22) {n : Nat} (hn : J 130 27 = Int32.ofNat n) (hn20 : n ≤ 20)  : bm d (S0 n0) R0 162 [.ref 130] W J g L (bR (some (.int (if 3 ≤ n then 1 else 0))) W J g L) := by
  obtain ⟨e, rfl⟩ : ∃ e, d = e + 1 := ⟨d - 1, by omega⟩
  refine bm_of (Nat.le_of_ble_eq_true rfl) (Or.inr bR_ret) ?_
  show bT e (S0 n0) R0 mt_Mo_sized _ 0 [(0, .ref 130)] [] W J g L 0 0
  have hSR := SR0 n0
  refine b_aln (pc2 := 1) d_Mo_sized_0 rfl rfl ?_
  refine b_gr (pc2 := 4) d_Mo_sized_1 q_11_72 (sh_130 n0) (by decide) (by decide) (p_130_28 n0) rfl ?_
  refine b_ic (pc2 := 5) (x := Int32.ofNat 0) d_Mo_sized_4 rfl rfl ?_
  refine b_ia (pc2 := 6) (q := 0) d_Mo_sized_5 (sh_150 n0) (i_in (i := 0) (by decide) (by decide)) (rfl) (rc_150) rfl ?_
  rw [hop]
  refine b_isn (pc2 := 7) (al2 := [(1, _), (0, _)]) d_Mo_sized_6 (by decide) rfl rfl ?_
  refine b_iln (pc2 := 8) d_Mo_sized_7 rfl rfl ?_
  refine b_ic (pc2 := 9) (x := Int32.ofNat 2) d_Mo_sized_8 rfl rfl ?_
  refine b_ifd (pc2 := 18) d_Mo_sized_9 rfl rfl rfl rfl rfl (fun h9 => ?_) (fun h9 => ?_)
  · exact absurd h9 (by decide)
  refine b_iln (pc2 := 13) d_Mo_sized_12 rfl rfl ?_
  refine b_bp (pc2 := 15) (x := Int32.ofNat 10) d_Mo_sized_13 rfl rfl ?_
  refine b_ifd (pc2 := 32) d_Mo_sized_15 rfl rfl rfl rfl rfl (fun h15 => ?_) (fun h15 => ?_)
  rotate_left
  · exact absurd (by decide) h15
  refine b_iln (pc2 := 33) d_Mo_sized_32 rfl rfl ?_
  refine b_bp (pc2 := 35) (x := Int32.ofNat 12) d_Mo_sized_33 rfl rfl ?_
  refine b_ifd (pc2 := 44) d_Mo_sized_35 rfl rfl rfl rfl rfl (fun h35 => ?_) (fun h35 => ?_)
  · exact absurd h35 (by decide)
  refine b_iln (pc2 := 39) d_Mo_sized_38 rfl rfl ?_
  refine b_bp (pc2 := 41) (x := Int32.ofNat 16) d_Mo_sized_39 rfl rfl ?_
  refine b_ifd (pc2 := 58) d_Mo_sized_41 rfl rfl rfl rfl rfl (fun h41 => ?_) (fun h41 => ?_)
  rotate_left
  · exact absurd (by decide) h41
  refine b_iln (pc2 := 59) d_Mo_sized_58 rfl rfl ?_
  refine b_bp (pc2 := 61) (x := Int32.ofNat 24) d_Mo_sized_59 rfl rfl ?_
  refine b_ifd (pc2 := 88) d_Mo_sized_61 rfl rfl rfl rfl rfl (fun h61 => ?_) (fun h61 => ?_)
  rotate_left
  · exact absurd (by decide) h61
  refine b_iln (pc2 := 89) d_Mo_sized_88 rfl rfl ?_
  refine b_bp (pc2 := 91) (x := Int32.ofNat 18) d_Mo_sized_89 rfl rfl ?_
  refine b_ifd (pc2 := 110) d_Mo_sized_91 rfl rfl rfl rfl rfl (fun h91 => ?_) (fun h91 => ?_)
  rotate_left
  · exact absurd (by decide) h91
  refine b_aln (pc2 := 111) d_Mo_sized_110 rfl rfl ?_
  refine b_gi (pc2 := 114) d_Mo_sized_111 q_11_174 (sh_130 n0) (by decide) (by decide) (rc_130) rfl ?_
  rw [hn]
  refine b_ic (pc2 := 115) (x := Int32.ofNat 3) d_Mo_sized_114 rfl rfl ?_
  refine b_ifd (pc2 := 122) d_Mo_sized_115 rfl rfl rfl rfl rfl (fun h115 => ?_) (fun h115 => ?_)
  · refine b_ic (pc2 := 123) (x := Int32.ofNat 0) d_Mo_sized_122 rfl rfl ?_
    refine b_br d_Mo_sized_123 rfl (by decide) ?_
    rw [i_lt (by omega) (by decide)] at h115
    exact ⟨by rw [if_neg (by omega)]; rfl, rfl, rfl, rfl, rfl⟩
  · refine b_ic (pc2 := 119) (x := Int32.ofNat 1) d_Mo_sized_118 rfl rfl ?_
    refine b_go (pc2 := 123) d_Mo_sized_119 rfl ?_
    refine b_br d_Mo_sized_123 rfl (by decide) ?_
    rw [i_lt (by omega) (by decide)] at h115
    exact ⟨by rw [if_pos (by omega)]; rfl, rfl, rfl, rfl, rfl⟩
theorem mo_sh_e {d : Nat} (hd : 5 ≤ d) (hn : J 130 27 = 0) : bm d (S0 n0) R0 160 [.ref 130] W J g L (bR none W J g L) := by
  obtain ⟨e, rfl⟩ : ∃ e, d = e + 1 := ⟨d - 1, by omega⟩
  refine bm_of (Nat.le_of_ble_eq_true rfl) (Or.inr bR_ret) ?_
  show bT e (S0 n0) R0 mt_Mo_serverHandles _ 0 [(0, .ref 130)] [] W J g L 0 0
  have hSR := SR0 n0
  refine b_aln (pc2 := 1) d_Mo_serverHandles_0 rfl rfl ?_
  refine b_gi (pc2 := 4) d_Mo_serverHandles_1 q_11_174 (sh_130 n0) (by decide) (by decide) (rc_130) rfl ?_
  refine b_ifd (pc2 := 8) d_Mo_serverHandles_4 rfl rfl rfl rfl rfl (fun h4 => ?_) (fun h4 => ?_)
  · exact absurd h4 (fun z => z hn)
  refine b_vr d_Mo_serverHandles_7 rfl ?_
  exact ⟨rfl, rfl, rfl, rfl, rfl⟩
theorem mo_sh_30 {d : Nat} (hd : 5 ≤ d) {n : Nat} (hn : J 130 27 = Int32.ofNat n) (hn20 : n ≤ 20) (hn1 : 1 ≤ n) (hop : J 150 0 = Int32.ofNat 30) : bm d (S0 n0) R0 160 [.ref 130] W J g L (bR none W (am_u2 J 130 38 (if ¬ J 130 38 = 0 ∧ 1 < n then 1 else 0)) g L) := by
  obtain ⟨e, rfl⟩ : ∃ e, d = e + 1 := ⟨d - 1, by omega⟩
  refine bm_of (Nat.le_of_ble_eq_true rfl) (Or.inr bR_ret) ?_
  show bT e (S0 n0) R0 mt_Mo_serverHandles _ 0 [(0, .ref 130)] [] W J g L 0 0
  have hSR := SR0 n0
  refine b_aln (pc2 := 1) d_Mo_serverHandles_0 rfl rfl ?_
  refine b_gi (pc2 := 4) d_Mo_serverHandles_1 q_11_174 (sh_130 n0) (by decide) (by decide) (rc_130) rfl ?_
  refine b_ifd (pc2 := 8) d_Mo_serverHandles_4 rfl rfl rfl rfl rfl (fun h4 => ?_) (fun h4 => ?_)
  rotate_left
  · exact absurd (fun z => by rw [hn, show (0 : Int32) = Int32.ofNat 0 from rfl, i_eq (by omega) (by decide)] at z; omega) h4
  refine b_aln (pc2 := 9) d_Mo_serverHandles_8 rfl rfl ?_
  refine b_gr (pc2 := 12) d_Mo_serverHandles_9 q_11_72 (sh_130 n0) (by decide) (by decide) (p_130_28 n0) rfl ?_
  refine b_ic (pc2 := 13) (x := Int32.ofNat 0) d_Mo_serverHandles_12 rfl rfl ?_
  refine b_ia (pc2 := 14) (q := 0) d_Mo_serverHandles_13 (sh_150 n0) (i_in (i := 0) (by decide) (by decide)) (rfl) (rc_150) rfl ?_
  rw [hop]
  refine b_isn (pc2 := 15) (al2 := [(1, _), (0, _)]) d_Mo_serverHandles_14 (by decide) rfl rfl ?_
  refine b_iln (pc2 := 16) d_Mo_serverHandles_15 rfl rfl ?_
  refine b_bp (pc2 := 18) (x := Int32.ofNat 30) d_Mo_serverHandles_16 rfl rfl ?_
  refine b_ifd (pc2 := 46) d_Mo_serverHandles_18 rfl rfl rfl rfl rfl (fun h18 => ?_) (fun h18 => ?_)
  · exact absurd h18 (by decide)
  refine b_aln (pc2 := 22) d_Mo_serverHandles_21 rfl rfl ?_
  refine b_aln (pc2 := 23) d_Mo_serverHandles_22 rfl rfl ?_
  refine b_gi (pc2 := 26) d_Mo_serverHandles_23 q_11_189 (sh_130 n0) (by decide) (by decide) (rc_130) rfl ?_
  refine b_ifd (pc2 := 41) d_Mo_serverHandles_26 rfl rfl rfl rfl rfl (fun h26 => ?_) (fun h26 => ?_)
  · refine b_ic (pc2 := 42) (x := Int32.ofNat 0) d_Mo_serverHandles_41 rfl rfl ?_
    refine b_pi (pc2 := 45) d_Mo_serverHandles_42 q_11_189 (sh_130 n0) (by decide) (Or.inl (by decide)) (Or.inr ⟨rfl, by decide⟩) (rc_130) rfl ?_
    refine b_vr d_Mo_serverHandles_45 rfl ?_
    exact ⟨rfl, rfl, by rw [if_neg (fun z => z.1 h26)]; rfl, rfl, rfl⟩
  · refine b_aln (pc2 := 30) d_Mo_serverHandles_29 rfl rfl ?_
    refine b_gi (pc2 := 33) d_Mo_serverHandles_30 q_11_174 (sh_130 n0) (by decide) (by decide) (rc_130) rfl ?_
    rw [hn]
    refine b_ic (pc2 := 34) (x := Int32.ofNat 1) d_Mo_serverHandles_33 rfl rfl ?_
    refine b_ifd (pc2 := 41) d_Mo_serverHandles_34 rfl rfl rfl rfl rfl (fun h34 => ?_) (fun h34 => ?_)
    · refine b_ic (pc2 := 42) (x := Int32.ofNat 0) d_Mo_serverHandles_41 rfl rfl ?_
      refine b_pi (pc2 := 45) d_Mo_serverHandles_42 q_11_189 (sh_130 n0) (by decide) (Or.inl (by decide)) (Or.inr ⟨rfl, by decide⟩) (rc_130) rfl ?_
      refine b_vr d_Mo_serverHandles_45 rfl ?_
      rw [i_le (by omega) (by decide)] at h34
      exact ⟨rfl, rfl, by rw [if_neg (fun z => by omega)]; rfl, rfl, rfl⟩
    · refine b_ic (pc2 := 38) (x := Int32.ofNat 1) d_Mo_serverHandles_37 rfl rfl ?_
      refine b_go (pc2 := 42) d_Mo_serverHandles_38 rfl ?_
      refine b_pi (pc2 := 45) d_Mo_serverHandles_42 q_11_189 (sh_130 n0) (by decide) (Or.inl (by decide)) (Or.inr ⟨rfl, by decide⟩) (rc_130) rfl ?_
      refine b_vr d_Mo_serverHandles_45 rfl ?_
      rw [i_le (by omega) (by decide)] at h34
      exact ⟨rfl, rfl, by rw [if_pos ⟨h26, by omega⟩]; rfl, rfl, rfl⟩
theorem mo_sh_0 {d : Nat} (hd : 5 ≤ d) {n : Nat} (hn : J 130 27 = Int32.ofNat n) (hn20 : n ≤ 20) (hn1 : 1 ≤ n) {op : Nat} (hop : J 150 0 = Int32.ofNat op) (ho2 : op < 256) (ho : ¬ (op = 2 ∨ op = 10 ∨ op = 12 ∨ op = 16 ∨ op = 18 ∨ op = 22 ∨ op = 24)) (ho30 : ¬ op = 30) (hR : ∀ e, 2 ≤ e → bm e (S0 n0) R0 161 [.ref 130, .int (Int32.ofNat 0), .int (Int32.ofNat 6)] W J g L (bR none W J1 g L)) : bm d (S0 n0) R0 160 [.ref 130] W J g L (bR none W J1 g L) := by
  obtain ⟨e, rfl⟩ : ∃ e, d = e + 1 := ⟨d - 1, by omega⟩
  refine bm_of (Nat.le_of_ble_eq_true rfl) (Or.inr bR_ret) ?_
  show bT e (S0 n0) R0 mt_Mo_serverHandles _ 0 [(0, .ref 130)] [] W J g L 0 0
  have hSR := SR0 n0
  refine b_aln (pc2 := 1) d_Mo_serverHandles_0 rfl rfl ?_
  refine b_gi (pc2 := 4) d_Mo_serverHandles_1 q_11_174 (sh_130 n0) (by decide) (by decide) (rc_130) rfl ?_
  refine b_ifd (pc2 := 8) d_Mo_serverHandles_4 rfl rfl rfl rfl rfl (fun h4 => ?_) (fun h4 => ?_)
  rotate_left
  · exact absurd (fun z => by rw [hn, show (0 : Int32) = Int32.ofNat 0 from rfl, i_eq (by omega) (by decide)] at z; omega) h4
  refine b_aln (pc2 := 9) d_Mo_serverHandles_8 rfl rfl ?_
  refine b_gr (pc2 := 12) d_Mo_serverHandles_9 q_11_72 (sh_130 n0) (by decide) (by decide) (p_130_28 n0) rfl ?_
  refine b_ic (pc2 := 13) (x := Int32.ofNat 0) d_Mo_serverHandles_12 rfl rfl ?_
  refine b_ia (pc2 := 14) (q := 0) d_Mo_serverHandles_13 (sh_150 n0) (i_in (i := 0) (by decide) (by decide)) (rfl) (rc_150) rfl ?_
  rw [hop]
  refine b_isn (pc2 := 15) (al2 := [(1, _), (0, _)]) d_Mo_serverHandles_14 (by decide) rfl rfl ?_
  refine b_iln (pc2 := 16) d_Mo_serverHandles_15 rfl rfl ?_
  refine b_bp (pc2 := 18) (x := Int32.ofNat 30) d_Mo_serverHandles_16 rfl rfl ?_
  refine b_ifd (pc2 := 46) d_Mo_serverHandles_18 rfl rfl rfl rfl rfl (fun h18 => ?_) (fun h18 => ?_)
  rotate_left
  · exact absurd (fun z => by rw [i_eq (by omega) (by decide)] at z; omega) h18
  refine b_iln (pc2 := 47) d_Mo_serverHandles_46 rfl rfl ?_
  refine b_ic (pc2 := 48) (x := Int32.ofNat 2) d_Mo_serverHandles_47 rfl rfl ?_
  refine b_ifd (pc2 := 97) d_Mo_serverHandles_48 rfl rfl rfl rfl rfl (fun h48 => ?_) (fun h48 => ?_)
  · exact absurd h48 (fun z => by rw [i_eq (by omega) (by decide)] at z; omega)
  refine b_iln (pc2 := 52) d_Mo_serverHandles_51 rfl rfl ?_
  refine b_bp (pc2 := 54) (x := Int32.ofNat 10) d_Mo_serverHandles_52 rfl rfl ?_
  refine b_ifd (pc2 := 97) d_Mo_serverHandles_54 rfl rfl rfl rfl rfl (fun h54 => ?_) (fun h54 => ?_)
  · exact absurd h54 (fun z => by rw [i_eq (by omega) (by decide)] at z; omega)
  refine b_iln (pc2 := 58) d_Mo_serverHandles_57 rfl rfl ?_
  refine b_bp (pc2 := 60) (x := Int32.ofNat 12) d_Mo_serverHandles_58 rfl rfl ?_
  refine b_ifd (pc2 := 97) d_Mo_serverHandles_60 rfl rfl rfl rfl rfl (fun h60 => ?_) (fun h60 => ?_)
  · exact absurd h60 (fun z => by rw [i_eq (by omega) (by decide)] at z; omega)
  refine b_iln (pc2 := 64) d_Mo_serverHandles_63 rfl rfl ?_
  refine b_bp (pc2 := 66) (x := Int32.ofNat 16) d_Mo_serverHandles_64 rfl rfl ?_
  refine b_ifd (pc2 := 97) d_Mo_serverHandles_66 rfl rfl rfl rfl rfl (fun h66 => ?_) (fun h66 => ?_)
  · exact absurd h66 (fun z => by rw [i_eq (by omega) (by decide)] at z; omega)
  refine b_iln (pc2 := 70) d_Mo_serverHandles_69 rfl rfl ?_
  refine b_bp (pc2 := 72) (x := Int32.ofNat 18) d_Mo_serverHandles_70 rfl rfl ?_
  refine b_ifd (pc2 := 97) d_Mo_serverHandles_72 rfl rfl rfl rfl rfl (fun h72 => ?_) (fun h72 => ?_)
  · exact absurd h72 (fun z => by rw [i_eq (by omega) (by decide)] at z; omega)
  refine b_iln (pc2 := 76) d_Mo_serverHandles_75 rfl rfl ?_
  refine b_bp (pc2 := 78) (x := Int32.ofNat 22) d_Mo_serverHandles_76 rfl rfl ?_
  refine b_ifd (pc2 := 97) d_Mo_serverHandles_78 rfl rfl rfl rfl rfl (fun h78 => ?_) (fun h78 => ?_)
  · exact absurd h78 (fun z => by rw [i_eq (by omega) (by decide)] at z; omega)
  refine b_iln (pc2 := 82) d_Mo_serverHandles_81 rfl rfl ?_
  refine b_bp (pc2 := 84) (x := Int32.ofNat 24) d_Mo_serverHandles_82 rfl rfl ?_
  refine b_ifd (pc2 := 97) d_Mo_serverHandles_84 rfl rfl rfl rfl rfl (fun h84 => ?_) (fun h84 => ?_)
  · exact absurd h84 (fun z => by rw [i_eq (by omega) (by decide)] at z; omega)
  refine b_aln (pc2 := 88) d_Mo_serverHandles_87 rfl rfl ?_
  refine b_ic (pc2 := 89) (x := Int32.ofNat 0) d_Mo_serverHandles_88 rfl rfl ?_
  refine b_bp (pc2 := 91) (x := Int32.ofNat 6) d_Mo_serverHandles_89 rfl rfl ?_
  refine b_cv0 (pc2 := 94) (c2 := 0) (u2 := 0) (hR e (by omega)) d_Mo_serverHandles_91 q_11_193 (Nat.le_of_ble_eq_true rfl) rfl rfl (sh_130 n0) (Nat.le_of_ble_eq_true rfl) rfl rfl (by decide) (by decide) rfl ?_
  refine b_go (pc2 := 162) d_Mo_serverHandles_94 rfl ?_
  refine b_vr d_Mo_serverHandles_162 rfl ?_
  exact ⟨rfl, rfl, rfl, rfl, rfl⟩
theorem mo_sh_x2 {d : Nat} (hd : 5 ≤ d) {n : Nat} (hn : J 130 27 = Int32.ofNat n) (hn20 : n ≤ 20) (hn1 : 1 ≤ n) (hop : J 150 0 = Int32.ofNat 2) (hS : ∀ e, 1 ≤ e → bm e (S0 n0) R0 162 [.ref 130] W J g L (bR (some (.int 0)) W J g L)) (hR : ∀ e, 2 ≤ e → bm e (S0 n0) R0 161 [.ref 130, .int (Int32.ofNat 0), .int (Int32.ofNat 4)] W J g L (bR none W J1 g L)) : bm d (S0 n0) R0 160 [.ref 130] W J g L (bR none W J1 g L) := by
  obtain ⟨e, rfl⟩ : ∃ e, d = e + 1 := ⟨d - 1, by omega⟩
  refine bm_of (Nat.le_of_ble_eq_true rfl) (Or.inr bR_ret) ?_
  show bT e (S0 n0) R0 mt_Mo_serverHandles _ 0 [(0, .ref 130)] [] W J g L 0 0
  have hSR := SR0 n0
  refine b_aln (pc2 := 1) d_Mo_serverHandles_0 rfl rfl ?_
  refine b_gi (pc2 := 4) d_Mo_serverHandles_1 q_11_174 (sh_130 n0) (by decide) (by decide) (rc_130) rfl ?_
  refine b_ifd (pc2 := 8) d_Mo_serverHandles_4 rfl rfl rfl rfl rfl (fun h4 => ?_) (fun h4 => ?_)
  rotate_left
  · exact absurd (fun z => by rw [hn, show (0 : Int32) = Int32.ofNat 0 from rfl, i_eq (by omega) (by decide)] at z; omega) h4
  refine b_aln (pc2 := 9) d_Mo_serverHandles_8 rfl rfl ?_
  refine b_gr (pc2 := 12) d_Mo_serverHandles_9 q_11_72 (sh_130 n0) (by decide) (by decide) (p_130_28 n0) rfl ?_
  refine b_ic (pc2 := 13) (x := Int32.ofNat 0) d_Mo_serverHandles_12 rfl rfl ?_
  refine b_ia (pc2 := 14) (q := 0) d_Mo_serverHandles_13 (sh_150 n0) (i_in (i := 0) (by decide) (by decide)) (rfl) (rc_150) rfl ?_
  rw [hop]
  refine b_isn (pc2 := 15) (al2 := [(1, _), (0, _)]) d_Mo_serverHandles_14 (by decide) rfl rfl ?_
  refine b_iln (pc2 := 16) d_Mo_serverHandles_15 rfl rfl ?_
  refine b_bp (pc2 := 18) (x := Int32.ofNat 30) d_Mo_serverHandles_16 rfl rfl ?_
  refine b_ifd (pc2 := 46) d_Mo_serverHandles_18 rfl rfl rfl rfl rfl (fun h18 => ?_) (fun h18 => ?_)
  rotate_left
  · exact absurd (by decide) h18
  refine b_iln (pc2 := 47) d_Mo_serverHandles_46 rfl rfl ?_
  refine b_ic (pc2 := 48) (x := Int32.ofNat 2) d_Mo_serverHandles_47 rfl rfl ?_
  refine b_ifd (pc2 := 97) d_Mo_serverHandles_48 rfl rfl rfl rfl rfl (fun h48 => ?_) (fun h48 => ?_)
  rotate_left
  · exact absurd (by decide) h48
  refine b_aln (pc2 := 98) d_Mo_serverHandles_97 rfl rfl ?_
  refine b_cv1 (pc2 := 101) (c2 := 0) (u2 := 0) (hS e (by omega)) d_Mo_serverHandles_98 q_11_196 (Nat.le_of_ble_eq_true rfl) rfl rfl (sh_130 n0) (Nat.le_of_ble_eq_true rfl) rfl rfl (by decide) (by decide) rfl ?_
  refine b_ifd (pc2 := 113) d_Mo_serverHandles_101 rfl rfl rfl rfl rfl (fun h101 => ?_) (fun h101 => ?_)
  · exact absurd h101 (fun z => z rfl)
  refine b_aln (pc2 := 105) d_Mo_serverHandles_104 rfl rfl ?_
  refine b_ic (pc2 := 106) (x := Int32.ofNat 0) d_Mo_serverHandles_105 rfl rfl ?_
  refine b_ic (pc2 := 107) (x := Int32.ofNat 4) d_Mo_serverHandles_106 rfl rfl ?_
  refine b_cv0 (pc2 := 110) (c2 := 0) (u2 := 0) (hR e (by omega)) d_Mo_serverHandles_107 q_11_193 (Nat.le_of_ble_eq_true rfl) rfl rfl (sh_130 n0) (Nat.le_of_ble_eq_true rfl) rfl rfl (by decide) (by decide) rfl ?_
  refine b_go (pc2 := 162) d_Mo_serverHandles_110 rfl ?_
  refine b_vr d_Mo_serverHandles_162 rfl ?_
  exact ⟨rfl, rfl, rfl, rfl, rfl⟩
theorem mo_sh_2 {d : Nat} (hd : 5 ≤ d) {n : Nat} (hn : J 130 27 = Int32.ofNat n) (hn20 : n ≤ 20) (hn1 : 1 ≤ n) (hop : J 150 0 = Int32.ofNat 2) (hS : ∀ e, 1 ≤ e → bm e (S0 n0) R0 162 [.ref 130] W J g L (bR (some (.int 1)) W J g L)) (hD : ∀ e, 4 ≤ e → bm e (S0 n0) R0 163 [.ref 130] W J g L (bR none W J1 g L)) : bm d (S0 n0) R0 160 [.ref 130] W J g L (bR none W J1 g L) := by
  obtain ⟨e, rfl⟩ : ∃ e, d = e + 1 := ⟨d - 1, by omega⟩
  refine bm_of (Nat.le_of_ble_eq_true rfl) (Or.inr bR_ret) ?_
  show bT e (S0 n0) R0 mt_Mo_serverHandles _ 0 [(0, .ref 130)] [] W J g L 0 0
  have hSR := SR0 n0
  refine b_aln (pc2 := 1) d_Mo_serverHandles_0 rfl rfl ?_
  refine b_gi (pc2 := 4) d_Mo_serverHandles_1 q_11_174 (sh_130 n0) (by decide) (by decide) (rc_130) rfl ?_
  refine b_ifd (pc2 := 8) d_Mo_serverHandles_4 rfl rfl rfl rfl rfl (fun h4 => ?_) (fun h4 => ?_)
  rotate_left
  · exact absurd (fun z => by rw [hn, show (0 : Int32) = Int32.ofNat 0 from rfl, i_eq (by omega) (by decide)] at z; omega) h4
  refine b_aln (pc2 := 9) d_Mo_serverHandles_8 rfl rfl ?_
  refine b_gr (pc2 := 12) d_Mo_serverHandles_9 q_11_72 (sh_130 n0) (by decide) (by decide) (p_130_28 n0) rfl ?_
  refine b_ic (pc2 := 13) (x := Int32.ofNat 0) d_Mo_serverHandles_12 rfl rfl ?_
  refine b_ia (pc2 := 14) (q := 0) d_Mo_serverHandles_13 (sh_150 n0) (i_in (i := 0) (by decide) (by decide)) (rfl) (rc_150) rfl ?_
  rw [hop]
  refine b_isn (pc2 := 15) (al2 := [(1, _), (0, _)]) d_Mo_serverHandles_14 (by decide) rfl rfl ?_
  refine b_iln (pc2 := 16) d_Mo_serverHandles_15 rfl rfl ?_
  refine b_bp (pc2 := 18) (x := Int32.ofNat 30) d_Mo_serverHandles_16 rfl rfl ?_
  refine b_ifd (pc2 := 46) d_Mo_serverHandles_18 rfl rfl rfl rfl rfl (fun h18 => ?_) (fun h18 => ?_)
  rotate_left
  · exact absurd (by decide) h18
  refine b_iln (pc2 := 47) d_Mo_serverHandles_46 rfl rfl ?_
  refine b_ic (pc2 := 48) (x := Int32.ofNat 2) d_Mo_serverHandles_47 rfl rfl ?_
  refine b_ifd (pc2 := 97) d_Mo_serverHandles_48 rfl rfl rfl rfl rfl (fun h48 => ?_) (fun h48 => ?_)
  rotate_left
  · exact absurd (by decide) h48
  refine b_aln (pc2 := 98) d_Mo_serverHandles_97 rfl rfl ?_
  refine b_cv1 (pc2 := 101) (c2 := 0) (u2 := 0) (hS e (by omega)) d_Mo_serverHandles_98 q_11_196 (Nat.le_of_ble_eq_true rfl) rfl rfl (sh_130 n0) (Nat.le_of_ble_eq_true rfl) rfl rfl (by decide) (by decide) rfl ?_
  refine b_ifd (pc2 := 113) d_Mo_serverHandles_101 rfl rfl rfl rfl rfl (fun h101 => ?_) (fun h101 => ?_)
  rotate_left
  · exact absurd (show ¬ (1 : Int32) = 0 by decide) h101
  refine b_iln (pc2 := 114) d_Mo_serverHandles_113 rfl rfl ?_
  refine b_ic (pc2 := 115) (x := Int32.ofNat 2) d_Mo_serverHandles_114 rfl rfl ?_
  refine b_ifd (pc2 := 125) d_Mo_serverHandles_115 rfl rfl rfl rfl rfl (fun h115 => ?_) (fun h115 => ?_)
  · exact absurd h115 (by decide)
  refine b_aln (pc2 := 119) d_Mo_serverHandles_118 rfl rfl ?_
  refine b_cv0 (pc2 := 122) (c2 := 0) (u2 := 0) (hD e (by omega)) d_Mo_serverHandles_119 q_11_200 (Nat.le_of_ble_eq_true rfl) rfl rfl (sh_130 n0) (Nat.le_of_ble_eq_true rfl) rfl rfl (by decide) (by decide) rfl ?_
  refine b_go (pc2 := 162) d_Mo_serverHandles_122 rfl ?_
  refine b_vr d_Mo_serverHandles_162 rfl ?_
  exact ⟨rfl, rfl, rfl, rfl, rfl⟩
theorem mo_sh_x10 {d : Nat} (hd : 5 ≤ d) {n : Nat} (hn : J 130 27 = Int32.ofNat n) (hn20 : n ≤ 20) (hn1 : 1 ≤ n) (hop : J 150 0 = Int32.ofNat 10) (hS : ∀ e, 1 ≤ e → bm e (S0 n0) R0 162 [.ref 130] W J g L (bR (some (.int 0)) W J g L)) (hR : ∀ e, 2 ≤ e → bm e (S0 n0) R0 161 [.ref 130, .int (Int32.ofNat 0), .int (Int32.ofNat 4)] W J g L (bR none W J1 g L)) : bm d (S0 n0) R0 160 [.ref 130] W J g L (bR none W J1 g L) := by
  obtain ⟨e, rfl⟩ : ∃ e, d = e + 1 := ⟨d - 1, by omega⟩
  refine bm_of (Nat.le_of_ble_eq_true rfl) (Or.inr bR_ret) ?_
  show bT e (S0 n0) R0 mt_Mo_serverHandles _ 0 [(0, .ref 130)] [] W J g L 0 0
  have hSR := SR0 n0
  refine b_aln (pc2 := 1) d_Mo_serverHandles_0 rfl rfl ?_
  refine b_gi (pc2 := 4) d_Mo_serverHandles_1 q_11_174 (sh_130 n0) (by decide) (by decide) (rc_130) rfl ?_
  refine b_ifd (pc2 := 8) d_Mo_serverHandles_4 rfl rfl rfl rfl rfl (fun h4 => ?_) (fun h4 => ?_)
  rotate_left
  · exact absurd (fun z => by rw [hn, show (0 : Int32) = Int32.ofNat 0 from rfl, i_eq (by omega) (by decide)] at z; omega) h4
  refine b_aln (pc2 := 9) d_Mo_serverHandles_8 rfl rfl ?_
  refine b_gr (pc2 := 12) d_Mo_serverHandles_9 q_11_72 (sh_130 n0) (by decide) (by decide) (p_130_28 n0) rfl ?_
  refine b_ic (pc2 := 13) (x := Int32.ofNat 0) d_Mo_serverHandles_12 rfl rfl ?_
  refine b_ia (pc2 := 14) (q := 0) d_Mo_serverHandles_13 (sh_150 n0) (i_in (i := 0) (by decide) (by decide)) (rfl) (rc_150) rfl ?_
  rw [hop]
  refine b_isn (pc2 := 15) (al2 := [(1, _), (0, _)]) d_Mo_serverHandles_14 (by decide) rfl rfl ?_
  refine b_iln (pc2 := 16) d_Mo_serverHandles_15 rfl rfl ?_
  refine b_bp (pc2 := 18) (x := Int32.ofNat 30) d_Mo_serverHandles_16 rfl rfl ?_
  refine b_ifd (pc2 := 46) d_Mo_serverHandles_18 rfl rfl rfl rfl rfl (fun h18 => ?_) (fun h18 => ?_)
  rotate_left
  · exact absurd (by decide) h18
  refine b_iln (pc2 := 47) d_Mo_serverHandles_46 rfl rfl ?_
  refine b_ic (pc2 := 48) (x := Int32.ofNat 2) d_Mo_serverHandles_47 rfl rfl ?_
  refine b_ifd (pc2 := 97) d_Mo_serverHandles_48 rfl rfl rfl rfl rfl (fun h48 => ?_) (fun h48 => ?_)
  · exact absurd h48 (by decide)
  refine b_iln (pc2 := 52) d_Mo_serverHandles_51 rfl rfl ?_
  refine b_bp (pc2 := 54) (x := Int32.ofNat 10) d_Mo_serverHandles_52 rfl rfl ?_
  refine b_ifd (pc2 := 97) d_Mo_serverHandles_54 rfl rfl rfl rfl rfl (fun h54 => ?_) (fun h54 => ?_)
  rotate_left
  · exact absurd (by decide) h54
  refine b_aln (pc2 := 98) d_Mo_serverHandles_97 rfl rfl ?_
  refine b_cv1 (pc2 := 101) (c2 := 0) (u2 := 0) (hS e (by omega)) d_Mo_serverHandles_98 q_11_196 (Nat.le_of_ble_eq_true rfl) rfl rfl (sh_130 n0) (Nat.le_of_ble_eq_true rfl) rfl rfl (by decide) (by decide) rfl ?_
  refine b_ifd (pc2 := 113) d_Mo_serverHandles_101 rfl rfl rfl rfl rfl (fun h101 => ?_) (fun h101 => ?_)
  · exact absurd h101 (fun z => z rfl)
  refine b_aln (pc2 := 105) d_Mo_serverHandles_104 rfl rfl ?_
  refine b_ic (pc2 := 106) (x := Int32.ofNat 0) d_Mo_serverHandles_105 rfl rfl ?_
  refine b_ic (pc2 := 107) (x := Int32.ofNat 4) d_Mo_serverHandles_106 rfl rfl ?_
  refine b_cv0 (pc2 := 110) (c2 := 0) (u2 := 0) (hR e (by omega)) d_Mo_serverHandles_107 q_11_193 (Nat.le_of_ble_eq_true rfl) rfl rfl (sh_130 n0) (Nat.le_of_ble_eq_true rfl) rfl rfl (by decide) (by decide) rfl ?_
  refine b_go (pc2 := 162) d_Mo_serverHandles_110 rfl ?_
  refine b_vr d_Mo_serverHandles_162 rfl ?_
  exact ⟨rfl, rfl, rfl, rfl, rfl⟩
theorem mo_sh_10 {d : Nat} (hd : 5 ≤ d) {n : Nat} (hn : J 130 27 = Int32.ofNat n) (hn20 : n ≤ 20) (hn1 : 1 ≤ n) (hop : J 150 0 = Int32.ofNat 10) (hS : ∀ e, 1 ≤ e → bm e (S0 n0) R0 162 [.ref 130] W J g L (bR (some (.int 1)) W J g L)) (hD : ∀ e, 4 ≤ e → bm e (S0 n0) R0 167 [.ref 130, .int (Int32.ofNat 10), .int (J 150 1)] W J g L (bR none W J1 g L)) : bm d (S0 n0) R0 160 [.ref 130] W J g L (bR none W J1 g L) := by
  obtain ⟨e, rfl⟩ : ∃ e, d = e + 1 := ⟨d - 1, by omega⟩
  refine bm_of (Nat.le_of_ble_eq_true rfl) (Or.inr bR_ret) ?_
  show bT e (S0 n0) R0 mt_Mo_serverHandles _ 0 [(0, .ref 130)] [] W J g L 0 0
  have hSR := SR0 n0
  refine b_aln (pc2 := 1) d_Mo_serverHandles_0 rfl rfl ?_
  refine b_gi (pc2 := 4) d_Mo_serverHandles_1 q_11_174 (sh_130 n0) (by decide) (by decide) (rc_130) rfl ?_
  refine b_ifd (pc2 := 8) d_Mo_serverHandles_4 rfl rfl rfl rfl rfl (fun h4 => ?_) (fun h4 => ?_)
  rotate_left
  · exact absurd (fun z => by rw [hn, show (0 : Int32) = Int32.ofNat 0 from rfl, i_eq (by omega) (by decide)] at z; omega) h4
  refine b_aln (pc2 := 9) d_Mo_serverHandles_8 rfl rfl ?_
  refine b_gr (pc2 := 12) d_Mo_serverHandles_9 q_11_72 (sh_130 n0) (by decide) (by decide) (p_130_28 n0) rfl ?_
  refine b_ic (pc2 := 13) (x := Int32.ofNat 0) d_Mo_serverHandles_12 rfl rfl ?_
  refine b_ia (pc2 := 14) (q := 0) d_Mo_serverHandles_13 (sh_150 n0) (i_in (i := 0) (by decide) (by decide)) (rfl) (rc_150) rfl ?_
  rw [hop]
  refine b_isn (pc2 := 15) (al2 := [(1, _), (0, _)]) d_Mo_serverHandles_14 (by decide) rfl rfl ?_
  refine b_iln (pc2 := 16) d_Mo_serverHandles_15 rfl rfl ?_
  refine b_bp (pc2 := 18) (x := Int32.ofNat 30) d_Mo_serverHandles_16 rfl rfl ?_
  refine b_ifd (pc2 := 46) d_Mo_serverHandles_18 rfl rfl rfl rfl rfl (fun h18 => ?_) (fun h18 => ?_)
  rotate_left
  · exact absurd (by decide) h18
  refine b_iln (pc2 := 47) d_Mo_serverHandles_46 rfl rfl ?_
  refine b_ic (pc2 := 48) (x := Int32.ofNat 2) d_Mo_serverHandles_47 rfl rfl ?_
  refine b_ifd (pc2 := 97) d_Mo_serverHandles_48 rfl rfl rfl rfl rfl (fun h48 => ?_) (fun h48 => ?_)
  · exact absurd h48 (by decide)
  refine b_iln (pc2 := 52) d_Mo_serverHandles_51 rfl rfl ?_
  refine b_bp (pc2 := 54) (x := Int32.ofNat 10) d_Mo_serverHandles_52 rfl rfl ?_
  refine b_ifd (pc2 := 97) d_Mo_serverHandles_54 rfl rfl rfl rfl rfl (fun h54 => ?_) (fun h54 => ?_)
  rotate_left
  · exact absurd (by decide) h54
  refine b_aln (pc2 := 98) d_Mo_serverHandles_97 rfl rfl ?_
  refine b_cv1 (pc2 := 101) (c2 := 0) (u2 := 0) (hS e (by omega)) d_Mo_serverHandles_98 q_11_196 (Nat.le_of_ble_eq_true rfl) rfl rfl (sh_130 n0) (Nat.le_of_ble_eq_true rfl) rfl rfl (by decide) (by decide) rfl ?_
  refine b_ifd (pc2 := 113) d_Mo_serverHandles_101 rfl rfl rfl rfl rfl (fun h101 => ?_) (fun h101 => ?_)
  rotate_left
  · exact absurd (show ¬ (1 : Int32) = 0 by decide) h101
  refine b_iln (pc2 := 114) d_Mo_serverHandles_113 rfl rfl ?_
  refine b_ic (pc2 := 115) (x := Int32.ofNat 2) d_Mo_serverHandles_114 rfl rfl ?_
  refine b_ifd (pc2 := 125) d_Mo_serverHandles_115 rfl rfl rfl rfl rfl (fun h115 => ?_) (fun h115 => ?_)
  rotate_left
  · exact absurd (by decide) h115
  refine b_iln (pc2 := 126) d_Mo_serverHandles_125 rfl rfl ?_
  refine b_bp (pc2 := 128) (x := Int32.ofNat 16) d_Mo_serverHandles_126 rfl rfl ?_
  refine b_ifd (pc2 := 138) d_Mo_serverHandles_128 rfl rfl rfl rfl rfl (fun h128 => ?_) (fun h128 => ?_)
  rotate_left
  · exact absurd (by decide) h128
  refine b_iln (pc2 := 139) d_Mo_serverHandles_138 rfl rfl ?_
  refine b_bp (pc2 := 141) (x := Int32.ofNat 24) d_Mo_serverHandles_139 rfl rfl ?_
  refine b_ifd (pc2 := 151) d_Mo_serverHandles_141 rfl rfl rfl rfl rfl (fun h141 => ?_) (fun h141 => ?_)
  rotate_left
  · exact absurd (by decide) h141
  refine b_aln (pc2 := 152) d_Mo_serverHandles_151 rfl rfl ?_
  refine b_iln (pc2 := 153) d_Mo_serverHandles_152 rfl rfl ?_
  refine b_aln (pc2 := 154) d_Mo_serverHandles_153 rfl rfl ?_
  refine b_gr (pc2 := 157) d_Mo_serverHandles_154 q_11_72 (sh_130 n0) (by decide) (by decide) (p_130_28 n0) rfl ?_
  refine b_ic (pc2 := 158) (x := Int32.ofNat 1) d_Mo_serverHandles_157 rfl rfl ?_
  refine b_ia (pc2 := 159) (q := 1) d_Mo_serverHandles_158 (sh_150 n0) (i_in (i := 1) (by decide) (by decide)) (rfl) (rc_150) rfl ?_
  refine b_cv0 (pc2 := 162) (c2 := 0) (u2 := 0) (hD e (by omega)) d_Mo_serverHandles_159 q_11_209 (Nat.le_of_ble_eq_true rfl) rfl rfl (sh_130 n0) (Nat.le_of_ble_eq_true rfl) rfl rfl (by decide) (by decide) rfl ?_
  refine b_vr d_Mo_serverHandles_162 rfl ?_
  exact ⟨rfl, rfl, rfl, rfl, rfl⟩
theorem mo_sh_x12 {d : Nat} (hd : 5 ≤ d) {n : Nat} (hn : J 130 27 = Int32.ofNat n) (hn20 : n ≤ 20) (hn1 : 1 ≤ n) (hop : J 150 0 = Int32.ofNat 12) (hS : ∀ e, 1 ≤ e → bm e (S0 n0) R0 162 [.ref 130] W J g L (bR (some (.int 0)) W J g L)) (hR : ∀ e, 2 ≤ e → bm e (S0 n0) R0 161 [.ref 130, .int (Int32.ofNat 0), .int (Int32.ofNat 4)] W J g L (bR none W J1 g L)) : bm d (S0 n0) R0 160 [.ref 130] W J g L (bR none W J1 g L) := by
  obtain ⟨e, rfl⟩ : ∃ e, d = e + 1 := ⟨d - 1, by omega⟩
  refine bm_of (Nat.le_of_ble_eq_true rfl) (Or.inr bR_ret) ?_
  show bT e (S0 n0) R0 mt_Mo_serverHandles _ 0 [(0, .ref 130)] [] W J g L 0 0
  have hSR := SR0 n0
  refine b_aln (pc2 := 1) d_Mo_serverHandles_0 rfl rfl ?_
  refine b_gi (pc2 := 4) d_Mo_serverHandles_1 q_11_174 (sh_130 n0) (by decide) (by decide) (rc_130) rfl ?_
  refine b_ifd (pc2 := 8) d_Mo_serverHandles_4 rfl rfl rfl rfl rfl (fun h4 => ?_) (fun h4 => ?_)
  rotate_left
  · exact absurd (fun z => by rw [hn, show (0 : Int32) = Int32.ofNat 0 from rfl, i_eq (by omega) (by decide)] at z; omega) h4
  refine b_aln (pc2 := 9) d_Mo_serverHandles_8 rfl rfl ?_
  refine b_gr (pc2 := 12) d_Mo_serverHandles_9 q_11_72 (sh_130 n0) (by decide) (by decide) (p_130_28 n0) rfl ?_
  refine b_ic (pc2 := 13) (x := Int32.ofNat 0) d_Mo_serverHandles_12 rfl rfl ?_
  refine b_ia (pc2 := 14) (q := 0) d_Mo_serverHandles_13 (sh_150 n0) (i_in (i := 0) (by decide) (by decide)) (rfl) (rc_150) rfl ?_
  rw [hop]
  refine b_isn (pc2 := 15) (al2 := [(1, _), (0, _)]) d_Mo_serverHandles_14 (by decide) rfl rfl ?_
  refine b_iln (pc2 := 16) d_Mo_serverHandles_15 rfl rfl ?_
  refine b_bp (pc2 := 18) (x := Int32.ofNat 30) d_Mo_serverHandles_16 rfl rfl ?_
  refine b_ifd (pc2 := 46) d_Mo_serverHandles_18 rfl rfl rfl rfl rfl (fun h18 => ?_) (fun h18 => ?_)
  rotate_left
  · exact absurd (by decide) h18
  refine b_iln (pc2 := 47) d_Mo_serverHandles_46 rfl rfl ?_
  refine b_ic (pc2 := 48) (x := Int32.ofNat 2) d_Mo_serverHandles_47 rfl rfl ?_
  refine b_ifd (pc2 := 97) d_Mo_serverHandles_48 rfl rfl rfl rfl rfl (fun h48 => ?_) (fun h48 => ?_)
  · exact absurd h48 (by decide)
  refine b_iln (pc2 := 52) d_Mo_serverHandles_51 rfl rfl ?_
  refine b_bp (pc2 := 54) (x := Int32.ofNat 10) d_Mo_serverHandles_52 rfl rfl ?_
  refine b_ifd (pc2 := 97) d_Mo_serverHandles_54 rfl rfl rfl rfl rfl (fun h54 => ?_) (fun h54 => ?_)
  · exact absurd h54 (by decide)
  refine b_iln (pc2 := 58) d_Mo_serverHandles_57 rfl rfl ?_
  refine b_bp (pc2 := 60) (x := Int32.ofNat 12) d_Mo_serverHandles_58 rfl rfl ?_
  refine b_ifd (pc2 := 97) d_Mo_serverHandles_60 rfl rfl rfl rfl rfl (fun h60 => ?_) (fun h60 => ?_)
  rotate_left
  · exact absurd (by decide) h60
  refine b_aln (pc2 := 98) d_Mo_serverHandles_97 rfl rfl ?_
  refine b_cv1 (pc2 := 101) (c2 := 0) (u2 := 0) (hS e (by omega)) d_Mo_serverHandles_98 q_11_196 (Nat.le_of_ble_eq_true rfl) rfl rfl (sh_130 n0) (Nat.le_of_ble_eq_true rfl) rfl rfl (by decide) (by decide) rfl ?_
  refine b_ifd (pc2 := 113) d_Mo_serverHandles_101 rfl rfl rfl rfl rfl (fun h101 => ?_) (fun h101 => ?_)
  · exact absurd h101 (fun z => z rfl)
  refine b_aln (pc2 := 105) d_Mo_serverHandles_104 rfl rfl ?_
  refine b_ic (pc2 := 106) (x := Int32.ofNat 0) d_Mo_serverHandles_105 rfl rfl ?_
  refine b_ic (pc2 := 107) (x := Int32.ofNat 4) d_Mo_serverHandles_106 rfl rfl ?_
  refine b_cv0 (pc2 := 110) (c2 := 0) (u2 := 0) (hR e (by omega)) d_Mo_serverHandles_107 q_11_193 (Nat.le_of_ble_eq_true rfl) rfl rfl (sh_130 n0) (Nat.le_of_ble_eq_true rfl) rfl rfl (by decide) (by decide) rfl ?_
  refine b_go (pc2 := 162) d_Mo_serverHandles_110 rfl ?_
  refine b_vr d_Mo_serverHandles_162 rfl ?_
  exact ⟨rfl, rfl, rfl, rfl, rfl⟩
theorem mo_sh_12 {d : Nat} (hd : 5 ≤ d) {n : Nat} (hn : J 130 27 = Int32.ofNat n) (hn20 : n ≤ 20) (hn1 : 1 ≤ n) (hop : J 150 0 = Int32.ofNat 12) (hS : ∀ e, 1 ≤ e → bm e (S0 n0) R0 162 [.ref 130] W J g L (bR (some (.int 1)) W J g L)) (hD : ∀ e, 4 ≤ e → bm e (S0 n0) R0 167 [.ref 130, .int (Int32.ofNat 12), .int (J 150 1)] W J g L (bR none W J1 g L)) : bm d (S0 n0) R0 160 [.ref 130] W J g L (bR none W J1 g L) := by
  obtain ⟨e, rfl⟩ : ∃ e, d = e + 1 := ⟨d - 1, by omega⟩
  refine bm_of (Nat.le_of_ble_eq_true rfl) (Or.inr bR_ret) ?_
  show bT e (S0 n0) R0 mt_Mo_serverHandles _ 0 [(0, .ref 130)] [] W J g L 0 0
  have hSR := SR0 n0
  refine b_aln (pc2 := 1) d_Mo_serverHandles_0 rfl rfl ?_
  refine b_gi (pc2 := 4) d_Mo_serverHandles_1 q_11_174 (sh_130 n0) (by decide) (by decide) (rc_130) rfl ?_
  refine b_ifd (pc2 := 8) d_Mo_serverHandles_4 rfl rfl rfl rfl rfl (fun h4 => ?_) (fun h4 => ?_)
  rotate_left
  · exact absurd (fun z => by rw [hn, show (0 : Int32) = Int32.ofNat 0 from rfl, i_eq (by omega) (by decide)] at z; omega) h4
  refine b_aln (pc2 := 9) d_Mo_serverHandles_8 rfl rfl ?_
  refine b_gr (pc2 := 12) d_Mo_serverHandles_9 q_11_72 (sh_130 n0) (by decide) (by decide) (p_130_28 n0) rfl ?_
  refine b_ic (pc2 := 13) (x := Int32.ofNat 0) d_Mo_serverHandles_12 rfl rfl ?_
  refine b_ia (pc2 := 14) (q := 0) d_Mo_serverHandles_13 (sh_150 n0) (i_in (i := 0) (by decide) (by decide)) (rfl) (rc_150) rfl ?_
  rw [hop]
  refine b_isn (pc2 := 15) (al2 := [(1, _), (0, _)]) d_Mo_serverHandles_14 (by decide) rfl rfl ?_
  refine b_iln (pc2 := 16) d_Mo_serverHandles_15 rfl rfl ?_
  refine b_bp (pc2 := 18) (x := Int32.ofNat 30) d_Mo_serverHandles_16 rfl rfl ?_
  refine b_ifd (pc2 := 46) d_Mo_serverHandles_18 rfl rfl rfl rfl rfl (fun h18 => ?_) (fun h18 => ?_)
  rotate_left
  · exact absurd (by decide) h18
  refine b_iln (pc2 := 47) d_Mo_serverHandles_46 rfl rfl ?_
  refine b_ic (pc2 := 48) (x := Int32.ofNat 2) d_Mo_serverHandles_47 rfl rfl ?_
  refine b_ifd (pc2 := 97) d_Mo_serverHandles_48 rfl rfl rfl rfl rfl (fun h48 => ?_) (fun h48 => ?_)
  · exact absurd h48 (by decide)
  refine b_iln (pc2 := 52) d_Mo_serverHandles_51 rfl rfl ?_
  refine b_bp (pc2 := 54) (x := Int32.ofNat 10) d_Mo_serverHandles_52 rfl rfl ?_
  refine b_ifd (pc2 := 97) d_Mo_serverHandles_54 rfl rfl rfl rfl rfl (fun h54 => ?_) (fun h54 => ?_)
  · exact absurd h54 (by decide)
  refine b_iln (pc2 := 58) d_Mo_serverHandles_57 rfl rfl ?_
  refine b_bp (pc2 := 60) (x := Int32.ofNat 12) d_Mo_serverHandles_58 rfl rfl ?_
  refine b_ifd (pc2 := 97) d_Mo_serverHandles_60 rfl rfl rfl rfl rfl (fun h60 => ?_) (fun h60 => ?_)
  rotate_left
  · exact absurd (by decide) h60
  refine b_aln (pc2 := 98) d_Mo_serverHandles_97 rfl rfl ?_
  refine b_cv1 (pc2 := 101) (c2 := 0) (u2 := 0) (hS e (by omega)) d_Mo_serverHandles_98 q_11_196 (Nat.le_of_ble_eq_true rfl) rfl rfl (sh_130 n0) (Nat.le_of_ble_eq_true rfl) rfl rfl (by decide) (by decide) rfl ?_
  refine b_ifd (pc2 := 113) d_Mo_serverHandles_101 rfl rfl rfl rfl rfl (fun h101 => ?_) (fun h101 => ?_)
  rotate_left
  · exact absurd (show ¬ (1 : Int32) = 0 by decide) h101
  refine b_iln (pc2 := 114) d_Mo_serverHandles_113 rfl rfl ?_
  refine b_ic (pc2 := 115) (x := Int32.ofNat 2) d_Mo_serverHandles_114 rfl rfl ?_
  refine b_ifd (pc2 := 125) d_Mo_serverHandles_115 rfl rfl rfl rfl rfl (fun h115 => ?_) (fun h115 => ?_)
  rotate_left
  · exact absurd (by decide) h115
  refine b_iln (pc2 := 126) d_Mo_serverHandles_125 rfl rfl ?_
  refine b_bp (pc2 := 128) (x := Int32.ofNat 16) d_Mo_serverHandles_126 rfl rfl ?_
  refine b_ifd (pc2 := 138) d_Mo_serverHandles_128 rfl rfl rfl rfl rfl (fun h128 => ?_) (fun h128 => ?_)
  rotate_left
  · exact absurd (by decide) h128
  refine b_iln (pc2 := 139) d_Mo_serverHandles_138 rfl rfl ?_
  refine b_bp (pc2 := 141) (x := Int32.ofNat 24) d_Mo_serverHandles_139 rfl rfl ?_
  refine b_ifd (pc2 := 151) d_Mo_serverHandles_141 rfl rfl rfl rfl rfl (fun h141 => ?_) (fun h141 => ?_)
  rotate_left
  · exact absurd (by decide) h141
  refine b_aln (pc2 := 152) d_Mo_serverHandles_151 rfl rfl ?_
  refine b_iln (pc2 := 153) d_Mo_serverHandles_152 rfl rfl ?_
  refine b_aln (pc2 := 154) d_Mo_serverHandles_153 rfl rfl ?_
  refine b_gr (pc2 := 157) d_Mo_serverHandles_154 q_11_72 (sh_130 n0) (by decide) (by decide) (p_130_28 n0) rfl ?_
  refine b_ic (pc2 := 158) (x := Int32.ofNat 1) d_Mo_serverHandles_157 rfl rfl ?_
  refine b_ia (pc2 := 159) (q := 1) d_Mo_serverHandles_158 (sh_150 n0) (i_in (i := 1) (by decide) (by decide)) (rfl) (rc_150) rfl ?_
  refine b_cv0 (pc2 := 162) (c2 := 0) (u2 := 0) (hD e (by omega)) d_Mo_serverHandles_159 q_11_209 (Nat.le_of_ble_eq_true rfl) rfl rfl (sh_130 n0) (Nat.le_of_ble_eq_true rfl) rfl rfl (by decide) (by decide) rfl ?_
  refine b_vr d_Mo_serverHandles_162 rfl ?_
  exact ⟨rfl, rfl, rfl, rfl, rfl⟩
theorem mo_sh_x16 {d : Nat} (hd : 5 ≤ d) {n : Nat} (hn : J 130 27 = Int32.ofNat n) (hn20 : n ≤ 20) (hn1 : 1 ≤ n) (hop : J 150 0 = Int32.ofNat 16) (hS : ∀ e, 1 ≤ e → bm e (S0 n0) R0 162 [.ref 130] W J g L (bR (some (.int 0)) W J g L)) (hR : ∀ e, 2 ≤ e → bm e (S0 n0) R0 161 [.ref 130, .int (Int32.ofNat 0), .int (Int32.ofNat 4)] W J g L (bR none W J1 g L)) : bm d (S0 n0) R0 160 [.ref 130] W J g L (bR none W J1 g L) := by
  obtain ⟨e, rfl⟩ : ∃ e, d = e + 1 := ⟨d - 1, by omega⟩
  refine bm_of (Nat.le_of_ble_eq_true rfl) (Or.inr bR_ret) ?_
  show bT e (S0 n0) R0 mt_Mo_serverHandles _ 0 [(0, .ref 130)] [] W J g L 0 0
  have hSR := SR0 n0
  refine b_aln (pc2 := 1) d_Mo_serverHandles_0 rfl rfl ?_
  refine b_gi (pc2 := 4) d_Mo_serverHandles_1 q_11_174 (sh_130 n0) (by decide) (by decide) (rc_130) rfl ?_
  refine b_ifd (pc2 := 8) d_Mo_serverHandles_4 rfl rfl rfl rfl rfl (fun h4 => ?_) (fun h4 => ?_)
  rotate_left
  · exact absurd (fun z => by rw [hn, show (0 : Int32) = Int32.ofNat 0 from rfl, i_eq (by omega) (by decide)] at z; omega) h4
  refine b_aln (pc2 := 9) d_Mo_serverHandles_8 rfl rfl ?_
  refine b_gr (pc2 := 12) d_Mo_serverHandles_9 q_11_72 (sh_130 n0) (by decide) (by decide) (p_130_28 n0) rfl ?_
  refine b_ic (pc2 := 13) (x := Int32.ofNat 0) d_Mo_serverHandles_12 rfl rfl ?_
  refine b_ia (pc2 := 14) (q := 0) d_Mo_serverHandles_13 (sh_150 n0) (i_in (i := 0) (by decide) (by decide)) (rfl) (rc_150) rfl ?_
  rw [hop]
  refine b_isn (pc2 := 15) (al2 := [(1, _), (0, _)]) d_Mo_serverHandles_14 (by decide) rfl rfl ?_
  refine b_iln (pc2 := 16) d_Mo_serverHandles_15 rfl rfl ?_
  refine b_bp (pc2 := 18) (x := Int32.ofNat 30) d_Mo_serverHandles_16 rfl rfl ?_
  refine b_ifd (pc2 := 46) d_Mo_serverHandles_18 rfl rfl rfl rfl rfl (fun h18 => ?_) (fun h18 => ?_)
  rotate_left
  · exact absurd (by decide) h18
  refine b_iln (pc2 := 47) d_Mo_serverHandles_46 rfl rfl ?_
  refine b_ic (pc2 := 48) (x := Int32.ofNat 2) d_Mo_serverHandles_47 rfl rfl ?_
  refine b_ifd (pc2 := 97) d_Mo_serverHandles_48 rfl rfl rfl rfl rfl (fun h48 => ?_) (fun h48 => ?_)
  · exact absurd h48 (by decide)
  refine b_iln (pc2 := 52) d_Mo_serverHandles_51 rfl rfl ?_
  refine b_bp (pc2 := 54) (x := Int32.ofNat 10) d_Mo_serverHandles_52 rfl rfl ?_
  refine b_ifd (pc2 := 97) d_Mo_serverHandles_54 rfl rfl rfl rfl rfl (fun h54 => ?_) (fun h54 => ?_)
  · exact absurd h54 (by decide)
  refine b_iln (pc2 := 58) d_Mo_serverHandles_57 rfl rfl ?_
  refine b_bp (pc2 := 60) (x := Int32.ofNat 12) d_Mo_serverHandles_58 rfl rfl ?_
  refine b_ifd (pc2 := 97) d_Mo_serverHandles_60 rfl rfl rfl rfl rfl (fun h60 => ?_) (fun h60 => ?_)
  · exact absurd h60 (by decide)
  refine b_iln (pc2 := 64) d_Mo_serverHandles_63 rfl rfl ?_
  refine b_bp (pc2 := 66) (x := Int32.ofNat 16) d_Mo_serverHandles_64 rfl rfl ?_
  refine b_ifd (pc2 := 97) d_Mo_serverHandles_66 rfl rfl rfl rfl rfl (fun h66 => ?_) (fun h66 => ?_)
  rotate_left
  · exact absurd (by decide) h66
  refine b_aln (pc2 := 98) d_Mo_serverHandles_97 rfl rfl ?_
  refine b_cv1 (pc2 := 101) (c2 := 0) (u2 := 0) (hS e (by omega)) d_Mo_serverHandles_98 q_11_196 (Nat.le_of_ble_eq_true rfl) rfl rfl (sh_130 n0) (Nat.le_of_ble_eq_true rfl) rfl rfl (by decide) (by decide) rfl ?_
  refine b_ifd (pc2 := 113) d_Mo_serverHandles_101 rfl rfl rfl rfl rfl (fun h101 => ?_) (fun h101 => ?_)
  · exact absurd h101 (fun z => z rfl)
  refine b_aln (pc2 := 105) d_Mo_serverHandles_104 rfl rfl ?_
  refine b_ic (pc2 := 106) (x := Int32.ofNat 0) d_Mo_serverHandles_105 rfl rfl ?_
  refine b_ic (pc2 := 107) (x := Int32.ofNat 4) d_Mo_serverHandles_106 rfl rfl ?_
  refine b_cv0 (pc2 := 110) (c2 := 0) (u2 := 0) (hR e (by omega)) d_Mo_serverHandles_107 q_11_193 (Nat.le_of_ble_eq_true rfl) rfl rfl (sh_130 n0) (Nat.le_of_ble_eq_true rfl) rfl rfl (by decide) (by decide) rfl ?_
  refine b_go (pc2 := 162) d_Mo_serverHandles_110 rfl ?_
  refine b_vr d_Mo_serverHandles_162 rfl ?_
  exact ⟨rfl, rfl, rfl, rfl, rfl⟩
theorem mo_sh_16 {d : Nat} (hd : 5 ≤ d) {n : Nat} (hn : J 130 27 = Int32.ofNat n) (hn20 : n ≤ 20) (hn1 : 1 ≤ n) (hop : J 150 0 = Int32.ofNat 16) (hS : ∀ e, 1 ≤ e → bm e (S0 n0) R0 162 [.ref 130] W J g L (bR (some (.int 1)) W J g L)) (hD : ∀ e, 4 ≤ e → bm e (S0 n0) R0 164 [.ref 130] W J g L (bR none W J1 g L)) : bm d (S0 n0) R0 160 [.ref 130] W J g L (bR none W J1 g L) := by
  obtain ⟨e, rfl⟩ : ∃ e, d = e + 1 := ⟨d - 1, by omega⟩
  refine bm_of (Nat.le_of_ble_eq_true rfl) (Or.inr bR_ret) ?_
  show bT e (S0 n0) R0 mt_Mo_serverHandles _ 0 [(0, .ref 130)] [] W J g L 0 0
  have hSR := SR0 n0
  refine b_aln (pc2 := 1) d_Mo_serverHandles_0 rfl rfl ?_
  refine b_gi (pc2 := 4) d_Mo_serverHandles_1 q_11_174 (sh_130 n0) (by decide) (by decide) (rc_130) rfl ?_
  refine b_ifd (pc2 := 8) d_Mo_serverHandles_4 rfl rfl rfl rfl rfl (fun h4 => ?_) (fun h4 => ?_)
  rotate_left
  · exact absurd (fun z => by rw [hn, show (0 : Int32) = Int32.ofNat 0 from rfl, i_eq (by omega) (by decide)] at z; omega) h4
  refine b_aln (pc2 := 9) d_Mo_serverHandles_8 rfl rfl ?_
  refine b_gr (pc2 := 12) d_Mo_serverHandles_9 q_11_72 (sh_130 n0) (by decide) (by decide) (p_130_28 n0) rfl ?_
  refine b_ic (pc2 := 13) (x := Int32.ofNat 0) d_Mo_serverHandles_12 rfl rfl ?_
  refine b_ia (pc2 := 14) (q := 0) d_Mo_serverHandles_13 (sh_150 n0) (i_in (i := 0) (by decide) (by decide)) (rfl) (rc_150) rfl ?_
  rw [hop]
  refine b_isn (pc2 := 15) (al2 := [(1, _), (0, _)]) d_Mo_serverHandles_14 (by decide) rfl rfl ?_
  refine b_iln (pc2 := 16) d_Mo_serverHandles_15 rfl rfl ?_
  refine b_bp (pc2 := 18) (x := Int32.ofNat 30) d_Mo_serverHandles_16 rfl rfl ?_
  refine b_ifd (pc2 := 46) d_Mo_serverHandles_18 rfl rfl rfl rfl rfl (fun h18 => ?_) (fun h18 => ?_)
  rotate_left
  · exact absurd (by decide) h18
  refine b_iln (pc2 := 47) d_Mo_serverHandles_46 rfl rfl ?_
  refine b_ic (pc2 := 48) (x := Int32.ofNat 2) d_Mo_serverHandles_47 rfl rfl ?_
  refine b_ifd (pc2 := 97) d_Mo_serverHandles_48 rfl rfl rfl rfl rfl (fun h48 => ?_) (fun h48 => ?_)
  · exact absurd h48 (by decide)
  refine b_iln (pc2 := 52) d_Mo_serverHandles_51 rfl rfl ?_
  refine b_bp (pc2 := 54) (x := Int32.ofNat 10) d_Mo_serverHandles_52 rfl rfl ?_
  refine b_ifd (pc2 := 97) d_Mo_serverHandles_54 rfl rfl rfl rfl rfl (fun h54 => ?_) (fun h54 => ?_)
  · exact absurd h54 (by decide)
  refine b_iln (pc2 := 58) d_Mo_serverHandles_57 rfl rfl ?_
  refine b_bp (pc2 := 60) (x := Int32.ofNat 12) d_Mo_serverHandles_58 rfl rfl ?_
  refine b_ifd (pc2 := 97) d_Mo_serverHandles_60 rfl rfl rfl rfl rfl (fun h60 => ?_) (fun h60 => ?_)
  · exact absurd h60 (by decide)
  refine b_iln (pc2 := 64) d_Mo_serverHandles_63 rfl rfl ?_
  refine b_bp (pc2 := 66) (x := Int32.ofNat 16) d_Mo_serverHandles_64 rfl rfl ?_
  refine b_ifd (pc2 := 97) d_Mo_serverHandles_66 rfl rfl rfl rfl rfl (fun h66 => ?_) (fun h66 => ?_)
  rotate_left
  · exact absurd (by decide) h66
  refine b_aln (pc2 := 98) d_Mo_serverHandles_97 rfl rfl ?_
  refine b_cv1 (pc2 := 101) (c2 := 0) (u2 := 0) (hS e (by omega)) d_Mo_serverHandles_98 q_11_196 (Nat.le_of_ble_eq_true rfl) rfl rfl (sh_130 n0) (Nat.le_of_ble_eq_true rfl) rfl rfl (by decide) (by decide) rfl ?_
  refine b_ifd (pc2 := 113) d_Mo_serverHandles_101 rfl rfl rfl rfl rfl (fun h101 => ?_) (fun h101 => ?_)
  rotate_left
  · exact absurd (show ¬ (1 : Int32) = 0 by decide) h101
  refine b_iln (pc2 := 114) d_Mo_serverHandles_113 rfl rfl ?_
  refine b_ic (pc2 := 115) (x := Int32.ofNat 2) d_Mo_serverHandles_114 rfl rfl ?_
  refine b_ifd (pc2 := 125) d_Mo_serverHandles_115 rfl rfl rfl rfl rfl (fun h115 => ?_) (fun h115 => ?_)
  rotate_left
  · exact absurd (by decide) h115
  refine b_iln (pc2 := 126) d_Mo_serverHandles_125 rfl rfl ?_
  refine b_bp (pc2 := 128) (x := Int32.ofNat 16) d_Mo_serverHandles_126 rfl rfl ?_
  refine b_ifd (pc2 := 138) d_Mo_serverHandles_128 rfl rfl rfl rfl rfl (fun h128 => ?_) (fun h128 => ?_)
  · exact absurd h128 (by decide)
  refine b_aln (pc2 := 132) d_Mo_serverHandles_131 rfl rfl ?_
  refine b_cv0 (pc2 := 135) (c2 := 0) (u2 := 0) (hD e (by omega)) d_Mo_serverHandles_132 q_11_203 (Nat.le_of_ble_eq_true rfl) rfl rfl (sh_130 n0) (Nat.le_of_ble_eq_true rfl) rfl rfl (by decide) (by decide) rfl ?_
  refine b_go (pc2 := 162) d_Mo_serverHandles_135 rfl ?_
  refine b_vr d_Mo_serverHandles_162 rfl ?_
  exact ⟨rfl, rfl, rfl, rfl, rfl⟩
theorem mo_sh_x18 {d : Nat} (hd : 5 ≤ d) {n : Nat} (hn : J 130 27 = Int32.ofNat n) (hn20 : n ≤ 20) (hn1 : 1 ≤ n) (hop : J 150 0 = Int32.ofNat 18) (hS : ∀ e, 1 ≤ e → bm e (S0 n0) R0 162 [.ref 130] W J g L (bR (some (.int 0)) W J g L)) (hR : ∀ e, 2 ≤ e → bm e (S0 n0) R0 161 [.ref 130, .int (Int32.ofNat 0), .int (Int32.ofNat 4)] W J g L (bR none W J1 g L)) : bm d (S0 n0) R0 160 [.ref 130] W J g L (bR none W J1 g L) := by
  obtain ⟨e, rfl⟩ : ∃ e, d = e + 1 := ⟨d - 1, by omega⟩
  refine bm_of (Nat.le_of_ble_eq_true rfl) (Or.inr bR_ret) ?_
  show bT e (S0 n0) R0 mt_Mo_serverHandles _ 0 [(0, .ref 130)] [] W J g L 0 0
  have hSR := SR0 n0
  refine b_aln (pc2 := 1) d_Mo_serverHandles_0 rfl rfl ?_
  refine b_gi (pc2 := 4) d_Mo_serverHandles_1 q_11_174 (sh_130 n0) (by decide) (by decide) (rc_130) rfl ?_
  refine b_ifd (pc2 := 8) d_Mo_serverHandles_4 rfl rfl rfl rfl rfl (fun h4 => ?_) (fun h4 => ?_)
  rotate_left
  · exact absurd (fun z => by rw [hn, show (0 : Int32) = Int32.ofNat 0 from rfl, i_eq (by omega) (by decide)] at z; omega) h4
  refine b_aln (pc2 := 9) d_Mo_serverHandles_8 rfl rfl ?_
  refine b_gr (pc2 := 12) d_Mo_serverHandles_9 q_11_72 (sh_130 n0) (by decide) (by decide) (p_130_28 n0) rfl ?_
  refine b_ic (pc2 := 13) (x := Int32.ofNat 0) d_Mo_serverHandles_12 rfl rfl ?_
  refine b_ia (pc2 := 14) (q := 0) d_Mo_serverHandles_13 (sh_150 n0) (i_in (i := 0) (by decide) (by decide)) (rfl) (rc_150) rfl ?_
  rw [hop]
  refine b_isn (pc2 := 15) (al2 := [(1, _), (0, _)]) d_Mo_serverHandles_14 (by decide) rfl rfl ?_
  refine b_iln (pc2 := 16) d_Mo_serverHandles_15 rfl rfl ?_
  refine b_bp (pc2 := 18) (x := Int32.ofNat 30) d_Mo_serverHandles_16 rfl rfl ?_
  refine b_ifd (pc2 := 46) d_Mo_serverHandles_18 rfl rfl rfl rfl rfl (fun h18 => ?_) (fun h18 => ?_)
  rotate_left
  · exact absurd (by decide) h18
  refine b_iln (pc2 := 47) d_Mo_serverHandles_46 rfl rfl ?_
  refine b_ic (pc2 := 48) (x := Int32.ofNat 2) d_Mo_serverHandles_47 rfl rfl ?_
  refine b_ifd (pc2 := 97) d_Mo_serverHandles_48 rfl rfl rfl rfl rfl (fun h48 => ?_) (fun h48 => ?_)
  · exact absurd h48 (by decide)
  refine b_iln (pc2 := 52) d_Mo_serverHandles_51 rfl rfl ?_
  refine b_bp (pc2 := 54) (x := Int32.ofNat 10) d_Mo_serverHandles_52 rfl rfl ?_
  refine b_ifd (pc2 := 97) d_Mo_serverHandles_54 rfl rfl rfl rfl rfl (fun h54 => ?_) (fun h54 => ?_)
  · exact absurd h54 (by decide)
  refine b_iln (pc2 := 58) d_Mo_serverHandles_57 rfl rfl ?_
  refine b_bp (pc2 := 60) (x := Int32.ofNat 12) d_Mo_serverHandles_58 rfl rfl ?_
  refine b_ifd (pc2 := 97) d_Mo_serverHandles_60 rfl rfl rfl rfl rfl (fun h60 => ?_) (fun h60 => ?_)
  · exact absurd h60 (by decide)
  refine b_iln (pc2 := 64) d_Mo_serverHandles_63 rfl rfl ?_
  refine b_bp (pc2 := 66) (x := Int32.ofNat 16) d_Mo_serverHandles_64 rfl rfl ?_
  refine b_ifd (pc2 := 97) d_Mo_serverHandles_66 rfl rfl rfl rfl rfl (fun h66 => ?_) (fun h66 => ?_)
  · exact absurd h66 (by decide)
  refine b_iln (pc2 := 70) d_Mo_serverHandles_69 rfl rfl ?_
  refine b_bp (pc2 := 72) (x := Int32.ofNat 18) d_Mo_serverHandles_70 rfl rfl ?_
  refine b_ifd (pc2 := 97) d_Mo_serverHandles_72 rfl rfl rfl rfl rfl (fun h72 => ?_) (fun h72 => ?_)
  rotate_left
  · exact absurd (by decide) h72
  refine b_aln (pc2 := 98) d_Mo_serverHandles_97 rfl rfl ?_
  refine b_cv1 (pc2 := 101) (c2 := 0) (u2 := 0) (hS e (by omega)) d_Mo_serverHandles_98 q_11_196 (Nat.le_of_ble_eq_true rfl) rfl rfl (sh_130 n0) (Nat.le_of_ble_eq_true rfl) rfl rfl (by decide) (by decide) rfl ?_
  refine b_ifd (pc2 := 113) d_Mo_serverHandles_101 rfl rfl rfl rfl rfl (fun h101 => ?_) (fun h101 => ?_)
  · exact absurd h101 (fun z => z rfl)
  refine b_aln (pc2 := 105) d_Mo_serverHandles_104 rfl rfl ?_
  refine b_ic (pc2 := 106) (x := Int32.ofNat 0) d_Mo_serverHandles_105 rfl rfl ?_
  refine b_ic (pc2 := 107) (x := Int32.ofNat 4) d_Mo_serverHandles_106 rfl rfl ?_
  refine b_cv0 (pc2 := 110) (c2 := 0) (u2 := 0) (hR e (by omega)) d_Mo_serverHandles_107 q_11_193 (Nat.le_of_ble_eq_true rfl) rfl rfl (sh_130 n0) (Nat.le_of_ble_eq_true rfl) rfl rfl (by decide) (by decide) rfl ?_
  refine b_go (pc2 := 162) d_Mo_serverHandles_110 rfl ?_
  refine b_vr d_Mo_serverHandles_162 rfl ?_
  exact ⟨rfl, rfl, rfl, rfl, rfl⟩
theorem mo_sh_18 {d : Nat} (hd : 5 ≤ d) {n : Nat} (hn : J 130 27 = Int32.ofNat n) (hn20 : n ≤ 20) (hn1 : 1 ≤ n) (hop : J 150 0 = Int32.ofNat 18) (hS : ∀ e, 1 ≤ e → bm e (S0 n0) R0 162 [.ref 130] W J g L (bR (some (.int 1)) W J g L)) (hD : ∀ e, 4 ≤ e → bm e (S0 n0) R0 167 [.ref 130, .int (Int32.ofNat 18), .int (J 150 1)] W J g L (bR none W J1 g L)) : bm d (S0 n0) R0 160 [.ref 130] W J g L (bR none W J1 g L) := by
  obtain ⟨e, rfl⟩ : ∃ e, d = e + 1 := ⟨d - 1, by omega⟩
  refine bm_of (Nat.le_of_ble_eq_true rfl) (Or.inr bR_ret) ?_
  show bT e (S0 n0) R0 mt_Mo_serverHandles _ 0 [(0, .ref 130)] [] W J g L 0 0
  have hSR := SR0 n0
  refine b_aln (pc2 := 1) d_Mo_serverHandles_0 rfl rfl ?_
  refine b_gi (pc2 := 4) d_Mo_serverHandles_1 q_11_174 (sh_130 n0) (by decide) (by decide) (rc_130) rfl ?_
  refine b_ifd (pc2 := 8) d_Mo_serverHandles_4 rfl rfl rfl rfl rfl (fun h4 => ?_) (fun h4 => ?_)
  rotate_left
  · exact absurd (fun z => by rw [hn, show (0 : Int32) = Int32.ofNat 0 from rfl, i_eq (by omega) (by decide)] at z; omega) h4
  refine b_aln (pc2 := 9) d_Mo_serverHandles_8 rfl rfl ?_
  refine b_gr (pc2 := 12) d_Mo_serverHandles_9 q_11_72 (sh_130 n0) (by decide) (by decide) (p_130_28 n0) rfl ?_
  refine b_ic (pc2 := 13) (x := Int32.ofNat 0) d_Mo_serverHandles_12 rfl rfl ?_
  refine b_ia (pc2 := 14) (q := 0) d_Mo_serverHandles_13 (sh_150 n0) (i_in (i := 0) (by decide) (by decide)) (rfl) (rc_150) rfl ?_
  rw [hop]
  refine b_isn (pc2 := 15) (al2 := [(1, _), (0, _)]) d_Mo_serverHandles_14 (by decide) rfl rfl ?_
  refine b_iln (pc2 := 16) d_Mo_serverHandles_15 rfl rfl ?_
  refine b_bp (pc2 := 18) (x := Int32.ofNat 30) d_Mo_serverHandles_16 rfl rfl ?_
  refine b_ifd (pc2 := 46) d_Mo_serverHandles_18 rfl rfl rfl rfl rfl (fun h18 => ?_) (fun h18 => ?_)
  rotate_left
  · exact absurd (by decide) h18
  refine b_iln (pc2 := 47) d_Mo_serverHandles_46 rfl rfl ?_
  refine b_ic (pc2 := 48) (x := Int32.ofNat 2) d_Mo_serverHandles_47 rfl rfl ?_
  refine b_ifd (pc2 := 97) d_Mo_serverHandles_48 rfl rfl rfl rfl rfl (fun h48 => ?_) (fun h48 => ?_)
  · exact absurd h48 (by decide)
  refine b_iln (pc2 := 52) d_Mo_serverHandles_51 rfl rfl ?_
  refine b_bp (pc2 := 54) (x := Int32.ofNat 10) d_Mo_serverHandles_52 rfl rfl ?_
  refine b_ifd (pc2 := 97) d_Mo_serverHandles_54 rfl rfl rfl rfl rfl (fun h54 => ?_) (fun h54 => ?_)
  · exact absurd h54 (by decide)
  refine b_iln (pc2 := 58) d_Mo_serverHandles_57 rfl rfl ?_
  refine b_bp (pc2 := 60) (x := Int32.ofNat 12) d_Mo_serverHandles_58 rfl rfl ?_
  refine b_ifd (pc2 := 97) d_Mo_serverHandles_60 rfl rfl rfl rfl rfl (fun h60 => ?_) (fun h60 => ?_)
  · exact absurd h60 (by decide)
  refine b_iln (pc2 := 64) d_Mo_serverHandles_63 rfl rfl ?_
  refine b_bp (pc2 := 66) (x := Int32.ofNat 16) d_Mo_serverHandles_64 rfl rfl ?_
  refine b_ifd (pc2 := 97) d_Mo_serverHandles_66 rfl rfl rfl rfl rfl (fun h66 => ?_) (fun h66 => ?_)
  · exact absurd h66 (by decide)
  refine b_iln (pc2 := 70) d_Mo_serverHandles_69 rfl rfl ?_
  refine b_bp (pc2 := 72) (x := Int32.ofNat 18) d_Mo_serverHandles_70 rfl rfl ?_
  refine b_ifd (pc2 := 97) d_Mo_serverHandles_72 rfl rfl rfl rfl rfl (fun h72 => ?_) (fun h72 => ?_)
  rotate_left
  · exact absurd (by decide) h72
  refine b_aln (pc2 := 98) d_Mo_serverHandles_97 rfl rfl ?_
  refine b_cv1 (pc2 := 101) (c2 := 0) (u2 := 0) (hS e (by omega)) d_Mo_serverHandles_98 q_11_196 (Nat.le_of_ble_eq_true rfl) rfl rfl (sh_130 n0) (Nat.le_of_ble_eq_true rfl) rfl rfl (by decide) (by decide) rfl ?_
  refine b_ifd (pc2 := 113) d_Mo_serverHandles_101 rfl rfl rfl rfl rfl (fun h101 => ?_) (fun h101 => ?_)
  rotate_left
  · exact absurd (show ¬ (1 : Int32) = 0 by decide) h101
  refine b_iln (pc2 := 114) d_Mo_serverHandles_113 rfl rfl ?_
  refine b_ic (pc2 := 115) (x := Int32.ofNat 2) d_Mo_serverHandles_114 rfl rfl ?_
  refine b_ifd (pc2 := 125) d_Mo_serverHandles_115 rfl rfl rfl rfl rfl (fun h115 => ?_) (fun h115 => ?_)
  rotate_left
  · exact absurd (by decide) h115
  refine b_iln (pc2 := 126) d_Mo_serverHandles_125 rfl rfl ?_
  refine b_bp (pc2 := 128) (x := Int32.ofNat 16) d_Mo_serverHandles_126 rfl rfl ?_
  refine b_ifd (pc2 := 138) d_Mo_serverHandles_128 rfl rfl rfl rfl rfl (fun h128 => ?_) (fun h128 => ?_)
  rotate_left
  · exact absurd (by decide) h128
  refine b_iln (pc2 := 139) d_Mo_serverHandles_138 rfl rfl ?_
  refine b_bp (pc2 := 141) (x := Int32.ofNat 24) d_Mo_serverHandles_139 rfl rfl ?_
  refine b_ifd (pc2 := 151) d_Mo_serverHandles_141 rfl rfl rfl rfl rfl (fun h141 => ?_) (fun h141 => ?_)
  rotate_left
  · exact absurd (by decide) h141
  refine b_aln (pc2 := 152) d_Mo_serverHandles_151 rfl rfl ?_
  refine b_iln (pc2 := 153) d_Mo_serverHandles_152 rfl rfl ?_
  refine b_aln (pc2 := 154) d_Mo_serverHandles_153 rfl rfl ?_
  refine b_gr (pc2 := 157) d_Mo_serverHandles_154 q_11_72 (sh_130 n0) (by decide) (by decide) (p_130_28 n0) rfl ?_
  refine b_ic (pc2 := 158) (x := Int32.ofNat 1) d_Mo_serverHandles_157 rfl rfl ?_
  refine b_ia (pc2 := 159) (q := 1) d_Mo_serverHandles_158 (sh_150 n0) (i_in (i := 1) (by decide) (by decide)) (rfl) (rc_150) rfl ?_
  refine b_cv0 (pc2 := 162) (c2 := 0) (u2 := 0) (hD e (by omega)) d_Mo_serverHandles_159 q_11_209 (Nat.le_of_ble_eq_true rfl) rfl rfl (sh_130 n0) (Nat.le_of_ble_eq_true rfl) rfl rfl (by decide) (by decide) rfl ?_
  refine b_vr d_Mo_serverHandles_162 rfl ?_
  exact ⟨rfl, rfl, rfl, rfl, rfl⟩
theorem mo_sh_x22 {d : Nat} (hd : 5 ≤ d) {n : Nat} (hn : J 130 27 = Int32.ofNat n) (hn20 : n ≤ 20) (hn1 : 1 ≤ n) (hop : J 150 0 = Int32.ofNat 22) (hS : ∀ e, 1 ≤ e → bm e (S0 n0) R0 162 [.ref 130] W J g L (bR (some (.int 0)) W J g L)) (hR : ∀ e, 2 ≤ e → bm e (S0 n0) R0 161 [.ref 130, .int (Int32.ofNat 0), .int (Int32.ofNat 4)] W J g L (bR none W J1 g L)) : bm d (S0 n0) R0 160 [.ref 130] W J g L (bR none W J1 g L) := by
  obtain ⟨e, rfl⟩ : ∃ e, d = e + 1 := ⟨d - 1, by omega⟩
  refine bm_of (Nat.le_of_ble_eq_true rfl) (Or.inr bR_ret) ?_
  show bT e (S0 n0) R0 mt_Mo_serverHandles _ 0 [(0, .ref 130)] [] W J g L 0 0
  have hSR := SR0 n0
  refine b_aln (pc2 := 1) d_Mo_serverHandles_0 rfl rfl ?_
  refine b_gi (pc2 := 4) d_Mo_serverHandles_1 q_11_174 (sh_130 n0) (by decide) (by decide) (rc_130) rfl ?_
  refine b_ifd (pc2 := 8) d_Mo_serverHandles_4 rfl rfl rfl rfl rfl (fun h4 => ?_) (fun h4 => ?_)
  rotate_left
  · exact absurd (fun z => by rw [hn, show (0 : Int32) = Int32.ofNat 0 from rfl, i_eq (by omega) (by decide)] at z; omega) h4
  refine b_aln (pc2 := 9) d_Mo_serverHandles_8 rfl rfl ?_
  refine b_gr (pc2 := 12) d_Mo_serverHandles_9 q_11_72 (sh_130 n0) (by decide) (by decide) (p_130_28 n0) rfl ?_
  refine b_ic (pc2 := 13) (x := Int32.ofNat 0) d_Mo_serverHandles_12 rfl rfl ?_
  refine b_ia (pc2 := 14) (q := 0) d_Mo_serverHandles_13 (sh_150 n0) (i_in (i := 0) (by decide) (by decide)) (rfl) (rc_150) rfl ?_
  rw [hop]
  refine b_isn (pc2 := 15) (al2 := [(1, _), (0, _)]) d_Mo_serverHandles_14 (by decide) rfl rfl ?_
  refine b_iln (pc2 := 16) d_Mo_serverHandles_15 rfl rfl ?_
  refine b_bp (pc2 := 18) (x := Int32.ofNat 30) d_Mo_serverHandles_16 rfl rfl ?_
  refine b_ifd (pc2 := 46) d_Mo_serverHandles_18 rfl rfl rfl rfl rfl (fun h18 => ?_) (fun h18 => ?_)
  rotate_left
  · exact absurd (by decide) h18
  refine b_iln (pc2 := 47) d_Mo_serverHandles_46 rfl rfl ?_
  refine b_ic (pc2 := 48) (x := Int32.ofNat 2) d_Mo_serverHandles_47 rfl rfl ?_
  refine b_ifd (pc2 := 97) d_Mo_serverHandles_48 rfl rfl rfl rfl rfl (fun h48 => ?_) (fun h48 => ?_)
  · exact absurd h48 (by decide)
  refine b_iln (pc2 := 52) d_Mo_serverHandles_51 rfl rfl ?_
  refine b_bp (pc2 := 54) (x := Int32.ofNat 10) d_Mo_serverHandles_52 rfl rfl ?_
  refine b_ifd (pc2 := 97) d_Mo_serverHandles_54 rfl rfl rfl rfl rfl (fun h54 => ?_) (fun h54 => ?_)
  · exact absurd h54 (by decide)
  refine b_iln (pc2 := 58) d_Mo_serverHandles_57 rfl rfl ?_
  refine b_bp (pc2 := 60) (x := Int32.ofNat 12) d_Mo_serverHandles_58 rfl rfl ?_
  refine b_ifd (pc2 := 97) d_Mo_serverHandles_60 rfl rfl rfl rfl rfl (fun h60 => ?_) (fun h60 => ?_)
  · exact absurd h60 (by decide)
  refine b_iln (pc2 := 64) d_Mo_serverHandles_63 rfl rfl ?_
  refine b_bp (pc2 := 66) (x := Int32.ofNat 16) d_Mo_serverHandles_64 rfl rfl ?_
  refine b_ifd (pc2 := 97) d_Mo_serverHandles_66 rfl rfl rfl rfl rfl (fun h66 => ?_) (fun h66 => ?_)
  · exact absurd h66 (by decide)
  refine b_iln (pc2 := 70) d_Mo_serverHandles_69 rfl rfl ?_
  refine b_bp (pc2 := 72) (x := Int32.ofNat 18) d_Mo_serverHandles_70 rfl rfl ?_
  refine b_ifd (pc2 := 97) d_Mo_serverHandles_72 rfl rfl rfl rfl rfl (fun h72 => ?_) (fun h72 => ?_)
  · exact absurd h72 (by decide)
  refine b_iln (pc2 := 76) d_Mo_serverHandles_75 rfl rfl ?_
  refine b_bp (pc2 := 78) (x := Int32.ofNat 22) d_Mo_serverHandles_76 rfl rfl ?_
  refine b_ifd (pc2 := 97) d_Mo_serverHandles_78 rfl rfl rfl rfl rfl (fun h78 => ?_) (fun h78 => ?_)
  rotate_left
  · exact absurd (by decide) h78
  refine b_aln (pc2 := 98) d_Mo_serverHandles_97 rfl rfl ?_
  refine b_cv1 (pc2 := 101) (c2 := 0) (u2 := 0) (hS e (by omega)) d_Mo_serverHandles_98 q_11_196 (Nat.le_of_ble_eq_true rfl) rfl rfl (sh_130 n0) (Nat.le_of_ble_eq_true rfl) rfl rfl (by decide) (by decide) rfl ?_
  refine b_ifd (pc2 := 113) d_Mo_serverHandles_101 rfl rfl rfl rfl rfl (fun h101 => ?_) (fun h101 => ?_)
  · exact absurd h101 (fun z => z rfl)
  refine b_aln (pc2 := 105) d_Mo_serverHandles_104 rfl rfl ?_
  refine b_ic (pc2 := 106) (x := Int32.ofNat 0) d_Mo_serverHandles_105 rfl rfl ?_
  refine b_ic (pc2 := 107) (x := Int32.ofNat 4) d_Mo_serverHandles_106 rfl rfl ?_
  refine b_cv0 (pc2 := 110) (c2 := 0) (u2 := 0) (hR e (by omega)) d_Mo_serverHandles_107 q_11_193 (Nat.le_of_ble_eq_true rfl) rfl rfl (sh_130 n0) (Nat.le_of_ble_eq_true rfl) rfl rfl (by decide) (by decide) rfl ?_
  refine b_go (pc2 := 162) d_Mo_serverHandles_110 rfl ?_
  refine b_vr d_Mo_serverHandles_162 rfl ?_
  exact ⟨rfl, rfl, rfl, rfl, rfl⟩
theorem mo_sh_22 {d : Nat} (hd : 5 ≤ d) {n : Nat} (hn : J 130 27 = Int32.ofNat n) (hn20 : n ≤ 20) (hn1 : 1 ≤ n) (hop : J 150 0 = Int32.ofNat 22) (hS : ∀ e, 1 ≤ e → bm e (S0 n0) R0 162 [.ref 130] W J g L (bR (some (.int 1)) W J g L)) (hD : ∀ e, 4 ≤ e → bm e (S0 n0) R0 167 [.ref 130, .int (Int32.ofNat 22), .int (J 150 1)] W J g L (bR none W J1 g L)) : bm d (S0 n0) R0 160 [.ref 130] W J g L (bR none W J1 g L) := by
  obtain ⟨e, rfl⟩ : ∃ e, d = e + 1 := ⟨d - 1, by omega⟩
  refine bm_of (Nat.le_of_ble_eq_true rfl) (Or.inr bR_ret) ?_
  show bT e (S0 n0) R0 mt_Mo_serverHandles _ 0 [(0, .ref 130)] [] W J g L 0 0
  have hSR := SR0 n0
  refine b_aln (pc2 := 1) d_Mo_serverHandles_0 rfl rfl ?_
  refine b_gi (pc2 := 4) d_Mo_serverHandles_1 q_11_174 (sh_130 n0) (by decide) (by decide) (rc_130) rfl ?_
  refine b_ifd (pc2 := 8) d_Mo_serverHandles_4 rfl rfl rfl rfl rfl (fun h4 => ?_) (fun h4 => ?_)
  rotate_left
  · exact absurd (fun z => by rw [hn, show (0 : Int32) = Int32.ofNat 0 from rfl, i_eq (by omega) (by decide)] at z; omega) h4
  refine b_aln (pc2 := 9) d_Mo_serverHandles_8 rfl rfl ?_
  refine b_gr (pc2 := 12) d_Mo_serverHandles_9 q_11_72 (sh_130 n0) (by decide) (by decide) (p_130_28 n0) rfl ?_
  refine b_ic (pc2 := 13) (x := Int32.ofNat 0) d_Mo_serverHandles_12 rfl rfl ?_
  refine b_ia (pc2 := 14) (q := 0) d_Mo_serverHandles_13 (sh_150 n0) (i_in (i := 0) (by decide) (by decide)) (rfl) (rc_150) rfl ?_
  rw [hop]
  refine b_isn (pc2 := 15) (al2 := [(1, _), (0, _)]) d_Mo_serverHandles_14 (by decide) rfl rfl ?_
  refine b_iln (pc2 := 16) d_Mo_serverHandles_15 rfl rfl ?_
  refine b_bp (pc2 := 18) (x := Int32.ofNat 30) d_Mo_serverHandles_16 rfl rfl ?_
  refine b_ifd (pc2 := 46) d_Mo_serverHandles_18 rfl rfl rfl rfl rfl (fun h18 => ?_) (fun h18 => ?_)
  rotate_left
  · exact absurd (by decide) h18
  refine b_iln (pc2 := 47) d_Mo_serverHandles_46 rfl rfl ?_
  refine b_ic (pc2 := 48) (x := Int32.ofNat 2) d_Mo_serverHandles_47 rfl rfl ?_
  refine b_ifd (pc2 := 97) d_Mo_serverHandles_48 rfl rfl rfl rfl rfl (fun h48 => ?_) (fun h48 => ?_)
  · exact absurd h48 (by decide)
  refine b_iln (pc2 := 52) d_Mo_serverHandles_51 rfl rfl ?_
  refine b_bp (pc2 := 54) (x := Int32.ofNat 10) d_Mo_serverHandles_52 rfl rfl ?_
  refine b_ifd (pc2 := 97) d_Mo_serverHandles_54 rfl rfl rfl rfl rfl (fun h54 => ?_) (fun h54 => ?_)
  · exact absurd h54 (by decide)
  refine b_iln (pc2 := 58) d_Mo_serverHandles_57 rfl rfl ?_
  refine b_bp (pc2 := 60) (x := Int32.ofNat 12) d_Mo_serverHandles_58 rfl rfl ?_
  refine b_ifd (pc2 := 97) d_Mo_serverHandles_60 rfl rfl rfl rfl rfl (fun h60 => ?_) (fun h60 => ?_)
  · exact absurd h60 (by decide)
  refine b_iln (pc2 := 64) d_Mo_serverHandles_63 rfl rfl ?_
  refine b_bp (pc2 := 66) (x := Int32.ofNat 16) d_Mo_serverHandles_64 rfl rfl ?_
  refine b_ifd (pc2 := 97) d_Mo_serverHandles_66 rfl rfl rfl rfl rfl (fun h66 => ?_) (fun h66 => ?_)
  · exact absurd h66 (by decide)
  refine b_iln (pc2 := 70) d_Mo_serverHandles_69 rfl rfl ?_
  refine b_bp (pc2 := 72) (x := Int32.ofNat 18) d_Mo_serverHandles_70 rfl rfl ?_
  refine b_ifd (pc2 := 97) d_Mo_serverHandles_72 rfl rfl rfl rfl rfl (fun h72 => ?_) (fun h72 => ?_)
  · exact absurd h72 (by decide)
  refine b_iln (pc2 := 76) d_Mo_serverHandles_75 rfl rfl ?_
  refine b_bp (pc2 := 78) (x := Int32.ofNat 22) d_Mo_serverHandles_76 rfl rfl ?_
  refine b_ifd (pc2 := 97) d_Mo_serverHandles_78 rfl rfl rfl rfl rfl (fun h78 => ?_) (fun h78 => ?_)
  rotate_left
  · exact absurd (by decide) h78
  refine b_aln (pc2 := 98) d_Mo_serverHandles_97 rfl rfl ?_
  refine b_cv1 (pc2 := 101) (c2 := 0) (u2 := 0) (hS e (by omega)) d_Mo_serverHandles_98 q_11_196 (Nat.le_of_ble_eq_true rfl) rfl rfl (sh_130 n0) (Nat.le_of_ble_eq_true rfl) rfl rfl (by decide) (by decide) rfl ?_
  refine b_ifd (pc2 := 113) d_Mo_serverHandles_101 rfl rfl rfl rfl rfl (fun h101 => ?_) (fun h101 => ?_)
  rotate_left
  · exact absurd (show ¬ (1 : Int32) = 0 by decide) h101
  refine b_iln (pc2 := 114) d_Mo_serverHandles_113 rfl rfl ?_
  refine b_ic (pc2 := 115) (x := Int32.ofNat 2) d_Mo_serverHandles_114 rfl rfl ?_
  refine b_ifd (pc2 := 125) d_Mo_serverHandles_115 rfl rfl rfl rfl rfl (fun h115 => ?_) (fun h115 => ?_)
  rotate_left
  · exact absurd (by decide) h115
  refine b_iln (pc2 := 126) d_Mo_serverHandles_125 rfl rfl ?_
  refine b_bp (pc2 := 128) (x := Int32.ofNat 16) d_Mo_serverHandles_126 rfl rfl ?_
  refine b_ifd (pc2 := 138) d_Mo_serverHandles_128 rfl rfl rfl rfl rfl (fun h128 => ?_) (fun h128 => ?_)
  rotate_left
  · exact absurd (by decide) h128
  refine b_iln (pc2 := 139) d_Mo_serverHandles_138 rfl rfl ?_
  refine b_bp (pc2 := 141) (x := Int32.ofNat 24) d_Mo_serverHandles_139 rfl rfl ?_
  refine b_ifd (pc2 := 151) d_Mo_serverHandles_141 rfl rfl rfl rfl rfl (fun h141 => ?_) (fun h141 => ?_)
  rotate_left
  · exact absurd (by decide) h141
  refine b_aln (pc2 := 152) d_Mo_serverHandles_151 rfl rfl ?_
  refine b_iln (pc2 := 153) d_Mo_serverHandles_152 rfl rfl ?_
  refine b_aln (pc2 := 154) d_Mo_serverHandles_153 rfl rfl ?_
  refine b_gr (pc2 := 157) d_Mo_serverHandles_154 q_11_72 (sh_130 n0) (by decide) (by decide) (p_130_28 n0) rfl ?_
  refine b_ic (pc2 := 158) (x := Int32.ofNat 1) d_Mo_serverHandles_157 rfl rfl ?_
  refine b_ia (pc2 := 159) (q := 1) d_Mo_serverHandles_158 (sh_150 n0) (i_in (i := 1) (by decide) (by decide)) (rfl) (rc_150) rfl ?_
  refine b_cv0 (pc2 := 162) (c2 := 0) (u2 := 0) (hD e (by omega)) d_Mo_serverHandles_159 q_11_209 (Nat.le_of_ble_eq_true rfl) rfl rfl (sh_130 n0) (Nat.le_of_ble_eq_true rfl) rfl rfl (by decide) (by decide) rfl ?_
  refine b_vr d_Mo_serverHandles_162 rfl ?_
  exact ⟨rfl, rfl, rfl, rfl, rfl⟩
theorem mo_sh_x24 {d : Nat} (hd : 5 ≤ d) {n : Nat} (hn : J 130 27 = Int32.ofNat n) (hn20 : n ≤ 20) (hn1 : 1 ≤ n) (hop : J 150 0 = Int32.ofNat 24) (hS : ∀ e, 1 ≤ e → bm e (S0 n0) R0 162 [.ref 130] W J g L (bR (some (.int 0)) W J g L)) (hR : ∀ e, 2 ≤ e → bm e (S0 n0) R0 161 [.ref 130, .int (Int32.ofNat 0), .int (Int32.ofNat 4)] W J g L (bR none W J1 g L)) : bm d (S0 n0) R0 160 [.ref 130] W J g L (bR none W J1 g L) := by
  obtain ⟨e, rfl⟩ : ∃ e, d = e + 1 := ⟨d - 1, by omega⟩
  refine bm_of (Nat.le_of_ble_eq_true rfl) (Or.inr bR_ret) ?_
  show bT e (S0 n0) R0 mt_Mo_serverHandles _ 0 [(0, .ref 130)] [] W J g L 0 0
  have hSR := SR0 n0
  refine b_aln (pc2 := 1) d_Mo_serverHandles_0 rfl rfl ?_
  refine b_gi (pc2 := 4) d_Mo_serverHandles_1 q_11_174 (sh_130 n0) (by decide) (by decide) (rc_130) rfl ?_
  refine b_ifd (pc2 := 8) d_Mo_serverHandles_4 rfl rfl rfl rfl rfl (fun h4 => ?_) (fun h4 => ?_)
  rotate_left
  · exact absurd (fun z => by rw [hn, show (0 : Int32) = Int32.ofNat 0 from rfl, i_eq (by omega) (by decide)] at z; omega) h4
  refine b_aln (pc2 := 9) d_Mo_serverHandles_8 rfl rfl ?_
  refine b_gr (pc2 := 12) d_Mo_serverHandles_9 q_11_72 (sh_130 n0) (by decide) (by decide) (p_130_28 n0) rfl ?_
  refine b_ic (pc2 := 13) (x := Int32.ofNat 0) d_Mo_serverHandles_12 rfl rfl ?_
  refine b_ia (pc2 := 14) (q := 0) d_Mo_serverHandles_13 (sh_150 n0) (i_in (i := 0) (by decide) (by decide)) (rfl) (rc_150) rfl ?_
  rw [hop]
  refine b_isn (pc2 := 15) (al2 := [(1, _), (0, _)]) d_Mo_serverHandles_14 (by decide) rfl rfl ?_
  refine b_iln (pc2 := 16) d_Mo_serverHandles_15 rfl rfl ?_
  refine b_bp (pc2 := 18) (x := Int32.ofNat 30) d_Mo_serverHandles_16 rfl rfl ?_
  refine b_ifd (pc2 := 46) d_Mo_serverHandles_18 rfl rfl rfl rfl rfl (fun h18 => ?_) (fun h18 => ?_)
  rotate_left
  · exact absurd (by decide) h18
  refine b_iln (pc2 := 47) d_Mo_serverHandles_46 rfl rfl ?_
  refine b_ic (pc2 := 48) (x := Int32.ofNat 2) d_Mo_serverHandles_47 rfl rfl ?_
  refine b_ifd (pc2 := 97) d_Mo_serverHandles_48 rfl rfl rfl rfl rfl (fun h48 => ?_) (fun h48 => ?_)
  · exact absurd h48 (by decide)
  refine b_iln (pc2 := 52) d_Mo_serverHandles_51 rfl rfl ?_
  refine b_bp (pc2 := 54) (x := Int32.ofNat 10) d_Mo_serverHandles_52 rfl rfl ?_
  refine b_ifd (pc2 := 97) d_Mo_serverHandles_54 rfl rfl rfl rfl rfl (fun h54 => ?_) (fun h54 => ?_)
  · exact absurd h54 (by decide)
  refine b_iln (pc2 := 58) d_Mo_serverHandles_57 rfl rfl ?_
  refine b_bp (pc2 := 60) (x := Int32.ofNat 12) d_Mo_serverHandles_58 rfl rfl ?_
  refine b_ifd (pc2 := 97) d_Mo_serverHandles_60 rfl rfl rfl rfl rfl (fun h60 => ?_) (fun h60 => ?_)
  · exact absurd h60 (by decide)
  refine b_iln (pc2 := 64) d_Mo_serverHandles_63 rfl rfl ?_
  refine b_bp (pc2 := 66) (x := Int32.ofNat 16) d_Mo_serverHandles_64 rfl rfl ?_
  refine b_ifd (pc2 := 97) d_Mo_serverHandles_66 rfl rfl rfl rfl rfl (fun h66 => ?_) (fun h66 => ?_)
  · exact absurd h66 (by decide)
  refine b_iln (pc2 := 70) d_Mo_serverHandles_69 rfl rfl ?_
  refine b_bp (pc2 := 72) (x := Int32.ofNat 18) d_Mo_serverHandles_70 rfl rfl ?_
  refine b_ifd (pc2 := 97) d_Mo_serverHandles_72 rfl rfl rfl rfl rfl (fun h72 => ?_) (fun h72 => ?_)
  · exact absurd h72 (by decide)
  refine b_iln (pc2 := 76) d_Mo_serverHandles_75 rfl rfl ?_
  refine b_bp (pc2 := 78) (x := Int32.ofNat 22) d_Mo_serverHandles_76 rfl rfl ?_
  refine b_ifd (pc2 := 97) d_Mo_serverHandles_78 rfl rfl rfl rfl rfl (fun h78 => ?_) (fun h78 => ?_)
  · exact absurd h78 (by decide)
  refine b_iln (pc2 := 82) d_Mo_serverHandles_81 rfl rfl ?_
  refine b_bp (pc2 := 84) (x := Int32.ofNat 24) d_Mo_serverHandles_82 rfl rfl ?_
  refine b_ifd (pc2 := 97) d_Mo_serverHandles_84 rfl rfl rfl rfl rfl (fun h84 => ?_) (fun h84 => ?_)
  rotate_left
  · exact absurd (by decide) h84
  refine b_aln (pc2 := 98) d_Mo_serverHandles_97 rfl rfl ?_
  refine b_cv1 (pc2 := 101) (c2 := 0) (u2 := 0) (hS e (by omega)) d_Mo_serverHandles_98 q_11_196 (Nat.le_of_ble_eq_true rfl) rfl rfl (sh_130 n0) (Nat.le_of_ble_eq_true rfl) rfl rfl (by decide) (by decide) rfl ?_
  refine b_ifd (pc2 := 113) d_Mo_serverHandles_101 rfl rfl rfl rfl rfl (fun h101 => ?_) (fun h101 => ?_)
  · exact absurd h101 (fun z => z rfl)
  refine b_aln (pc2 := 105) d_Mo_serverHandles_104 rfl rfl ?_
  refine b_ic (pc2 := 106) (x := Int32.ofNat 0) d_Mo_serverHandles_105 rfl rfl ?_
  refine b_ic (pc2 := 107) (x := Int32.ofNat 4) d_Mo_serverHandles_106 rfl rfl ?_
  refine b_cv0 (pc2 := 110) (c2 := 0) (u2 := 0) (hR e (by omega)) d_Mo_serverHandles_107 q_11_193 (Nat.le_of_ble_eq_true rfl) rfl rfl (sh_130 n0) (Nat.le_of_ble_eq_true rfl) rfl rfl (by decide) (by decide) rfl ?_
  refine b_go (pc2 := 162) d_Mo_serverHandles_110 rfl ?_
  refine b_vr d_Mo_serverHandles_162 rfl ?_
  exact ⟨rfl, rfl, rfl, rfl, rfl⟩
theorem mo_sh_24 {d : Nat} (hd : 5 ≤ d) {n : Nat} (hn : J 130 27 = Int32.ofNat n) (hn20 : n ≤ 20) (hn1 : 1 ≤ n) (hop : J 150 0 = Int32.ofNat 24) (hS : ∀ e, 1 ≤ e → bm e (S0 n0) R0 162 [.ref 130] W J g L (bR (some (.int 1)) W J g L)) (hD : ∀ e, 4 ≤ e → bm e (S0 n0) R0 165 [.ref 130] W J g L (bR none W J1 g L)) : bm d (S0 n0) R0 160 [.ref 130] W J g L (bR none W J1 g L) := by
  obtain ⟨e, rfl⟩ : ∃ e, d = e + 1 := ⟨d - 1, by omega⟩
  refine bm_of (Nat.le_of_ble_eq_true rfl) (Or.inr bR_ret) ?_
  show bT e (S0 n0) R0 mt_Mo_serverHandles _ 0 [(0, .ref 130)] [] W J g L 0 0
  have hSR := SR0 n0
  refine b_aln (pc2 := 1) d_Mo_serverHandles_0 rfl rfl ?_
  refine b_gi (pc2 := 4) d_Mo_serverHandles_1 q_11_174 (sh_130 n0) (by decide) (by decide) (rc_130) rfl ?_
  refine b_ifd (pc2 := 8) d_Mo_serverHandles_4 rfl rfl rfl rfl rfl (fun h4 => ?_) (fun h4 => ?_)
  rotate_left
  · exact absurd (fun z => by rw [hn, show (0 : Int32) = Int32.ofNat 0 from rfl, i_eq (by omega) (by decide)] at z; omega) h4
  refine b_aln (pc2 := 9) d_Mo_serverHandles_8 rfl rfl ?_
  refine b_gr (pc2 := 12) d_Mo_serverHandles_9 q_11_72 (sh_130 n0) (by decide) (by decide) (p_130_28 n0) rfl ?_
  refine b_ic (pc2 := 13) (x := Int32.ofNat 0) d_Mo_serverHandles_12 rfl rfl ?_
  refine b_ia (pc2 := 14) (q := 0) d_Mo_serverHandles_13 (sh_150 n0) (i_in (i := 0) (by decide) (by decide)) (rfl) (rc_150) rfl ?_
  rw [hop]
  refine b_isn (pc2 := 15) (al2 := [(1, _), (0, _)]) d_Mo_serverHandles_14 (by decide) rfl rfl ?_
  refine b_iln (pc2 := 16) d_Mo_serverHandles_15 rfl rfl ?_
  refine b_bp (pc2 := 18) (x := Int32.ofNat 30) d_Mo_serverHandles_16 rfl rfl ?_
  refine b_ifd (pc2 := 46) d_Mo_serverHandles_18 rfl rfl rfl rfl rfl (fun h18 => ?_) (fun h18 => ?_)
  rotate_left
  · exact absurd (by decide) h18
  refine b_iln (pc2 := 47) d_Mo_serverHandles_46 rfl rfl ?_
  refine b_ic (pc2 := 48) (x := Int32.ofNat 2) d_Mo_serverHandles_47 rfl rfl ?_
  refine b_ifd (pc2 := 97) d_Mo_serverHandles_48 rfl rfl rfl rfl rfl (fun h48 => ?_) (fun h48 => ?_)
  · exact absurd h48 (by decide)
  refine b_iln (pc2 := 52) d_Mo_serverHandles_51 rfl rfl ?_
  refine b_bp (pc2 := 54) (x := Int32.ofNat 10) d_Mo_serverHandles_52 rfl rfl ?_
  refine b_ifd (pc2 := 97) d_Mo_serverHandles_54 rfl rfl rfl rfl rfl (fun h54 => ?_) (fun h54 => ?_)
  · exact absurd h54 (by decide)
  refine b_iln (pc2 := 58) d_Mo_serverHandles_57 rfl rfl ?_
  refine b_bp (pc2 := 60) (x := Int32.ofNat 12) d_Mo_serverHandles_58 rfl rfl ?_
  refine b_ifd (pc2 := 97) d_Mo_serverHandles_60 rfl rfl rfl rfl rfl (fun h60 => ?_) (fun h60 => ?_)
  · exact absurd h60 (by decide)
  refine b_iln (pc2 := 64) d_Mo_serverHandles_63 rfl rfl ?_
  refine b_bp (pc2 := 66) (x := Int32.ofNat 16) d_Mo_serverHandles_64 rfl rfl ?_
  refine b_ifd (pc2 := 97) d_Mo_serverHandles_66 rfl rfl rfl rfl rfl (fun h66 => ?_) (fun h66 => ?_)
  · exact absurd h66 (by decide)
  refine b_iln (pc2 := 70) d_Mo_serverHandles_69 rfl rfl ?_
  refine b_bp (pc2 := 72) (x := Int32.ofNat 18) d_Mo_serverHandles_70 rfl rfl ?_
  refine b_ifd (pc2 := 97) d_Mo_serverHandles_72 rfl rfl rfl rfl rfl (fun h72 => ?_) (fun h72 => ?_)
  · exact absurd h72 (by decide)
  refine b_iln (pc2 := 76) d_Mo_serverHandles_75 rfl rfl ?_
  refine b_bp (pc2 := 78) (x := Int32.ofNat 22) d_Mo_serverHandles_76 rfl rfl ?_
  refine b_ifd (pc2 := 97) d_Mo_serverHandles_78 rfl rfl rfl rfl rfl (fun h78 => ?_) (fun h78 => ?_)
  · exact absurd h78 (by decide)
  refine b_iln (pc2 := 82) d_Mo_serverHandles_81 rfl rfl ?_
  refine b_bp (pc2 := 84) (x := Int32.ofNat 24) d_Mo_serverHandles_82 rfl rfl ?_
  refine b_ifd (pc2 := 97) d_Mo_serverHandles_84 rfl rfl rfl rfl rfl (fun h84 => ?_) (fun h84 => ?_)
  rotate_left
  · exact absurd (by decide) h84
  refine b_aln (pc2 := 98) d_Mo_serverHandles_97 rfl rfl ?_
  refine b_cv1 (pc2 := 101) (c2 := 0) (u2 := 0) (hS e (by omega)) d_Mo_serverHandles_98 q_11_196 (Nat.le_of_ble_eq_true rfl) rfl rfl (sh_130 n0) (Nat.le_of_ble_eq_true rfl) rfl rfl (by decide) (by decide) rfl ?_
  refine b_ifd (pc2 := 113) d_Mo_serverHandles_101 rfl rfl rfl rfl rfl (fun h101 => ?_) (fun h101 => ?_)
  rotate_left
  · exact absurd (show ¬ (1 : Int32) = 0 by decide) h101
  refine b_iln (pc2 := 114) d_Mo_serverHandles_113 rfl rfl ?_
  refine b_ic (pc2 := 115) (x := Int32.ofNat 2) d_Mo_serverHandles_114 rfl rfl ?_
  refine b_ifd (pc2 := 125) d_Mo_serverHandles_115 rfl rfl rfl rfl rfl (fun h115 => ?_) (fun h115 => ?_)
  rotate_left
  · exact absurd (by decide) h115
  refine b_iln (pc2 := 126) d_Mo_serverHandles_125 rfl rfl ?_
  refine b_bp (pc2 := 128) (x := Int32.ofNat 16) d_Mo_serverHandles_126 rfl rfl ?_
  refine b_ifd (pc2 := 138) d_Mo_serverHandles_128 rfl rfl rfl rfl rfl (fun h128 => ?_) (fun h128 => ?_)
  rotate_left
  · exact absurd (by decide) h128
  refine b_iln (pc2 := 139) d_Mo_serverHandles_138 rfl rfl ?_
  refine b_bp (pc2 := 141) (x := Int32.ofNat 24) d_Mo_serverHandles_139 rfl rfl ?_
  refine b_ifd (pc2 := 151) d_Mo_serverHandles_141 rfl rfl rfl rfl rfl (fun h141 => ?_) (fun h141 => ?_)
  · exact absurd h141 (by decide)
  refine b_aln (pc2 := 145) d_Mo_serverHandles_144 rfl rfl ?_
  refine b_cv0 (pc2 := 148) (c2 := 0) (u2 := 0) (hD e (by omega)) d_Mo_serverHandles_145 q_11_206 (Nat.le_of_ble_eq_true rfl) rfl rfl (sh_130 n0) (Nat.le_of_ble_eq_true rfl) rfl rfl (by decide) (by decide) rfl ?_
  refine b_go (pc2 := 162) d_Mo_serverHandles_148 rfl ?_
  refine b_vr d_Mo_serverHandles_162 rfl ?_
  exact ⟨rfl, rfl, rfl, rfl, rfl⟩
end MH
