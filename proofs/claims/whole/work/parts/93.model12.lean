/-! Part 93 (written by gen43.py): the reference: clientHandles, read, written, answered -/
section MC
variable {n0 : Nat} {W : bw_W} {J : bw_J} {g : Nat} {L : bw_L}
variable {J1 : bw_J} {Qh : am_O → am_H → Prop}
theorem mo_ch_e {d : Nat} (hd : 6 ≤ d) (hn : J 130 27 = Int32.ofNat 0) : bm d (S0 n0) R0 153 [.ref 130] W J g L (bR none W J g L) := by
  obtain ⟨e, rfl⟩ : ∃ e, d = e + 1 := ⟨d - 1, by omega⟩
  refine bm_of (Nat.le_of_ble_eq_true rfl) (Or.inr bR_ret) ?_
  show bT e (S0 n0) R0 mt_Mo_clientHandles _ 0 [(0, .ref 130)] [] W J g L 0 0
  have hSR := SR0 n0
  refine b_aln (pc2 := 1) d_Mo_clientHandles_0 rfl rfl ?_
  refine b_gi (pc2 := 4) d_Mo_clientHandles_1 q_11_174 (sh_130 n0) (by decide) (by decide) (rc_130) rfl ?_
  rw [hn]
  refine b_ifd (pc2 := 18) d_Mo_clientHandles_4 rfl rfl rfl rfl rfl (fun h4 => ?_) (fun h4 => ?_)
  rotate_left
  · exact absurd (by decide) h4
  refine b_vr d_Mo_clientHandles_18 rfl ?_
  exact ⟨rfl, rfl, rfl, rfl, rfl⟩
theorem mo_ch_0 {d : Nat} (hd : 6 ≤ d) {n : Nat} (hn : J 130 27 = Int32.ofNat n) (hn20 : n ≤ 20) (hn1 : 1 ≤ n) {b0 : Nat} (hb : J 150 0 = Int32.ofNat b0) (hb2 : b0 < 256) (hev : b0 % 2 = 0) : bm d (S0 n0) R0 153 [.ref 130] W J g L (bR none W J g L) := by
  obtain ⟨e, rfl⟩ : ∃ e, d = e + 1 := ⟨d - 1, by omega⟩
  refine bm_of (Nat.le_of_ble_eq_true rfl) (Or.inr bR_ret) ?_
  show bT e (S0 n0) R0 mt_Mo_clientHandles _ 0 [(0, .ref 130)] [] W J g L 0 0
  have hSR := SR0 n0
  refine b_aln (pc2 := 1) d_Mo_clientHandles_0 rfl rfl ?_
  refine b_gi (pc2 := 4) d_Mo_clientHandles_1 q_11_174 (sh_130 n0) (by decide) (by decide) (rc_130) rfl ?_
  rw [hn]
  refine b_ifd (pc2 := 18) d_Mo_clientHandles_4 rfl rfl rfl rfl rfl (fun h4 => ?_) (fun h4 => ?_)
  · exact absurd h4 (fun z => by rw [z_eq (by omega)] at z; omega)
  refine b_aln (pc2 := 8) d_Mo_clientHandles_7 rfl rfl ?_
  refine b_gr (pc2 := 11) d_Mo_clientHandles_8 q_11_72 (sh_130 n0) (by decide) (by decide) (p_130_28 n0) rfl ?_
  refine b_ic (pc2 := 12) (x := Int32.ofNat 0) d_Mo_clientHandles_11 rfl rfl ?_
  refine b_ia (pc2 := 13) (q := 0) d_Mo_clientHandles_12 (sh_150 n0) (i_in (i := 0) (by decide) (by decide)) (rfl) (rc_150) rfl ?_
  rw [hb]
  refine b_ic (pc2 := 14) (x := Int32.ofNat 2) d_Mo_clientHandles_13 rfl rfl ?_
  refine b_rem (pc2 := 15) d_Mo_clientHandles_14 (by decide) rfl ?_
  rw [i_rem (by omega) (by omega) (by omega)]
  refine b_ifd (pc2 := 19) d_Mo_clientHandles_15 rfl rfl rfl rfl rfl (fun h15 => ?_) (fun h15 => ?_)
  · exact absurd h15 (fun z => by rw [z_eq (by omega)] at z; omega)
  refine b_vr d_Mo_clientHandles_18 rfl ?_
  exact ⟨rfl, rfl, rfl, rfl, rfl⟩
theorem lp_ch {e : Nat} {m : Nat} (hm : m < 4) {n : Nat} (hn : J 130 27 = Int32.ofNat n) (hn20 : n ≤ 20) (hn1 : 1 ≤ n) (K : bH e (S0 n0) R0 mt_Mo_clientHandles Qh 104 [(0, .ref 130)] [] W (am_u1 J 165 (ovw (24 * m) (lst (J 150) 1 (n - 1)) (J 165))) g L 0 0) : ∀ (r j : Nat), j + r = n - 1 → bH e (S0 n0) R0 mt_Mo_clientHandles Qh 71 [(2, .int (Int32.ofNat (1 + j))), (1, .int (Int32.ofNat m)), (0, .ref 130)] [] W (am_u1 J 165 (ovw (24 * m) (lst (J 150) 1 j) (J 165))) g L 0 0 := by
  intro r
  induction r with
  | zero =>
    intro j hj
    refine b_iln (pc2 := 72) d_Mo_clientHandles_71 rfl rfl ?_
    refine b_aln (pc2 := 73) d_Mo_clientHandles_72 rfl rfl ?_
    refine b_gi (pc2 := 76) d_Mo_clientHandles_73 q_11_174 (sh_130 n0) (by decide) (by decide) (rc_130) rfl ?_
    rw [u1_ne _ _ (by decide), hn]
    refine b_ifd (pc2 := 104) d_Mo_clientHandles_76 rfl rfl rfl rfl rfl (fun h76 => ?_) (fun h76 => ?_)
    rotate_left
    · exact absurd (by rw [i_le (by omega) (by omega)]; omega) h76
    refine b_nf (al := [(0, _)]) (ks := [0]) (sub_c rfl (sub_n)) rfl (by decide) ?_
    dsimp only
    rw [show j = n - 1 by omega]
    exact K
  | succ r ih =>
    intro j hj
    refine b_iln (pc2 := 72) d_Mo_clientHandles_71 rfl rfl ?_
    refine b_aln (pc2 := 73) d_Mo_clientHandles_72 rfl rfl ?_
    refine b_gi (pc2 := 76) d_Mo_clientHandles_73 q_11_174 (sh_130 n0) (by decide) (by decide) (rc_130) rfl ?_
    rw [u1_ne _ _ (by decide), hn]
    refine b_ifd (pc2 := 104) d_Mo_clientHandles_76 rfl rfl rfl rfl rfl (fun h76 => ?_) (fun h76 => ?_)
    · exact absurd h76 (fun z => by rw [i_le (by omega) (by omega)] at z; omega)
    refine b_aln (pc2 := 80) d_Mo_clientHandles_79 rfl rfl ?_
    refine b_gr (pc2 := 83) d_Mo_clientHandles_80 q_11_126 (sh_130 n0) (by decide) (by decide) (p_130_61 n0) rfl ?_
    refine b_bp (pc2 := 85) (x := Int32.ofNat 24) d_Mo_clientHandles_83 rfl rfl ?_
    refine b_iln (pc2 := 86) d_Mo_clientHandles_85 rfl rfl ?_
    refine b_pure (pc2 := 87) d_Mo_clientHandles_86 rfl rfl rfl ?_
    rw [i_mul]
    refine b_iln (pc2 := 88) d_Mo_clientHandles_87 rfl rfl ?_
    refine b_pure (pc2 := 89) d_Mo_clientHandles_88 rfl rfl rfl ?_
    rw [i_add]
    refine b_ic (pc2 := 90) (x := Int32.ofNat 1) d_Mo_clientHandles_89 rfl rfl ?_
    refine b_pure (pc2 := 91) d_Mo_clientHandles_90 rfl rfl rfl ?_
    rw [i_sub (by omega), show 24 * m + (1 + j) - 1 = 24 * m + (lst (J 150) 1 j).length by rw [lst_len]; omega]
    refine b_aln (pc2 := 92) d_Mo_clientHandles_91 rfl rfl ?_
    refine b_gr (pc2 := 95) d_Mo_clientHandles_92 q_11_72 (sh_130 n0) (by decide) (by decide) (p_130_28 n0) rfl ?_
    refine b_iln (pc2 := 96) d_Mo_clientHandles_95 rfl rfl ?_
    refine b_ia (pc2 := 97) (q := (1 + j)) d_Mo_clientHandles_96 (sh_150 n0) (i_in (show 1 + j < 24 by omega) (by decide)) (i_tn (by omega)) (rc_150) rfl ?_
    rw [u1_ne _ _ (by decide)]
    refine b_ist (pc2 := 98) (q := (24 * m + (lst (J 150) 1 j).length)) d_Mo_clientHandles_97 (sh_165 n0) (i_in (show 24 * m + (lst (J 150) 1 j).length < 96 by rw [lst_len]; omega) (by decide)) (i_tn (by rw [lst_len]; omega)) (rc_165) rfl ?_
    rw [u21, ovw_step, ← lst_app]
    refine b_inc (pc2 := 101) (al2 := [(2, _), (1, _), (0, _)]) (y := Int32.ofNat 1) d_Mo_clientHandles_98 (by decide) rfl rfl rfl rfl ?_
    rw [i_add]
    refine b_go (pc2 := 71) d_Mo_clientHandles_101 rfl ?_
    refine b_nf (al := [(2, _), (1, _), (0, _)]) (ks := [2, 1, 0]) (sub_c rfl (sub_c rfl (sub_c rfl (sub_n)))) rfl (by decide) ?_
    dsimp only
    exact ih (j + 1) (by omega)
theorem mo_ch_s27 {d : Nat} (hd : 6 ≤ d) {n : Nat} (hn : J 130 27 = Int32.ofNat n) (hn20 : n ≤ 20) (hn1 : 1 ≤ n) (hn2 : n < 2) (hb : J 150 0 = Int32.ofNat 27) : bm d (S0 n0) R0 153 [.ref 130] W J g L (bR none W J g L) := by
  obtain ⟨e, rfl⟩ : ∃ e, d = e + 1 := ⟨d - 1, by omega⟩
  refine bm_of (Nat.le_of_ble_eq_true rfl) (Or.inr bR_ret) ?_
  show bT e (S0 n0) R0 mt_Mo_clientHandles _ 0 [(0, .ref 130)] [] W J g L 0 0
  have hSR := SR0 n0
  refine b_aln (pc2 := 1) d_Mo_clientHandles_0 rfl rfl ?_
  refine b_gi (pc2 := 4) d_Mo_clientHandles_1 q_11_174 (sh_130 n0) (by decide) (by decide) (rc_130) rfl ?_
  rw [hn]
  refine b_ifd (pc2 := 18) d_Mo_clientHandles_4 rfl rfl rfl rfl rfl (fun h4 => ?_) (fun h4 => ?_)
  · exact absurd h4 (fun z => by rw [z_eq (by omega)] at z; omega)
  refine b_aln (pc2 := 8) d_Mo_clientHandles_7 rfl rfl ?_
  refine b_gr (pc2 := 11) d_Mo_clientHandles_8 q_11_72 (sh_130 n0) (by decide) (by decide) (p_130_28 n0) rfl ?_
  refine b_ic (pc2 := 12) (x := Int32.ofNat 0) d_Mo_clientHandles_11 rfl rfl ?_
  refine b_ia (pc2 := 13) (q := 0) d_Mo_clientHandles_12 (sh_150 n0) (i_in (i := 0) (by decide) (by decide)) (rfl) (rc_150) rfl ?_
  rw [hb]
  refine b_ic (pc2 := 14) (x := Int32.ofNat 2) d_Mo_clientHandles_13 rfl rfl ?_
  refine b_rem (pc2 := 15) d_Mo_clientHandles_14 (by decide) rfl ?_
  rw [i_rem (by omega) (by omega) (by omega)]
  refine b_ifd (pc2 := 19) d_Mo_clientHandles_15 rfl rfl rfl rfl rfl (fun h15 => ?_) (fun h15 => ?_)
  rotate_left
  · exact absurd (by rw [z_eq (by omega)]; omega) h15
  refine b_aln (pc2 := 20) d_Mo_clientHandles_19 rfl rfl ?_
  refine b_gr (pc2 := 23) d_Mo_clientHandles_20 q_11_72 (sh_130 n0) (by decide) (by decide) (p_130_28 n0) rfl ?_
  refine b_ic (pc2 := 24) (x := Int32.ofNat 0) d_Mo_clientHandles_23 rfl rfl ?_
  refine b_ia (pc2 := 25) (q := 0) d_Mo_clientHandles_24 (sh_150 n0) (i_in (i := 0) (by decide) (by decide)) (rfl) (rc_150) rfl ?_
  rw [hb]
  refine b_bp (pc2 := 27) (x := Int32.ofNat 27) d_Mo_clientHandles_25 rfl rfl ?_
  refine b_ifd (pc2 := 41) d_Mo_clientHandles_27 rfl rfl rfl rfl rfl (fun h27 => ?_) (fun h27 => ?_)
  rotate_left
  · exact absurd (by decide) h27
  refine b_aln (pc2 := 42) d_Mo_clientHandles_41 rfl rfl ?_
  refine b_gi (pc2 := 45) d_Mo_clientHandles_42 q_11_174 (sh_130 n0) (by decide) (by decide) (rc_130) rfl ?_
  rw [hn]
  refine b_ic (pc2 := 46) (x := Int32.ofNat 2) d_Mo_clientHandles_45 rfl rfl ?_
  refine b_ifd (pc2 := 50) d_Mo_clientHandles_46 rfl rfl rfl rfl rfl (fun h46 => ?_) (fun h46 => ?_)
  · exact absurd h46 (fun z => by rw [i_le (by omega) (by omega)] at z; omega)
  refine b_vr d_Mo_clientHandles_49 rfl ?_
  exact ⟨rfl, rfl, rfl, rfl, rfl⟩
theorem mo_ch_s29 {d : Nat} (hd : 6 ≤ d) {n : Nat} (hn : J 130 27 = Int32.ofNat n) (hn20 : n ≤ 20) (hn1 : 1 ≤ n) (hn2 : n < 2) (hb : J 150 0 = Int32.ofNat 29) : bm d (S0 n0) R0 153 [.ref 130] W J g L (bR none W J g L) := by
  obtain ⟨e, rfl⟩ : ∃ e, d = e + 1 := ⟨d - 1, by omega⟩
  refine bm_of (Nat.le_of_ble_eq_true rfl) (Or.inr bR_ret) ?_
  show bT e (S0 n0) R0 mt_Mo_clientHandles _ 0 [(0, .ref 130)] [] W J g L 0 0
  have hSR := SR0 n0
  refine b_aln (pc2 := 1) d_Mo_clientHandles_0 rfl rfl ?_
  refine b_gi (pc2 := 4) d_Mo_clientHandles_1 q_11_174 (sh_130 n0) (by decide) (by decide) (rc_130) rfl ?_
  rw [hn]
  refine b_ifd (pc2 := 18) d_Mo_clientHandles_4 rfl rfl rfl rfl rfl (fun h4 => ?_) (fun h4 => ?_)
  · exact absurd h4 (fun z => by rw [z_eq (by omega)] at z; omega)
  refine b_aln (pc2 := 8) d_Mo_clientHandles_7 rfl rfl ?_
  refine b_gr (pc2 := 11) d_Mo_clientHandles_8 q_11_72 (sh_130 n0) (by decide) (by decide) (p_130_28 n0) rfl ?_
  refine b_ic (pc2 := 12) (x := Int32.ofNat 0) d_Mo_clientHandles_11 rfl rfl ?_
  refine b_ia (pc2 := 13) (q := 0) d_Mo_clientHandles_12 (sh_150 n0) (i_in (i := 0) (by decide) (by decide)) (rfl) (rc_150) rfl ?_
  rw [hb]
  refine b_ic (pc2 := 14) (x := Int32.ofNat 2) d_Mo_clientHandles_13 rfl rfl ?_
  refine b_rem (pc2 := 15) d_Mo_clientHandles_14 (by decide) rfl ?_
  rw [i_rem (by omega) (by omega) (by omega)]
  refine b_ifd (pc2 := 19) d_Mo_clientHandles_15 rfl rfl rfl rfl rfl (fun h15 => ?_) (fun h15 => ?_)
  rotate_left
  · exact absurd (by rw [z_eq (by omega)]; omega) h15
  refine b_aln (pc2 := 20) d_Mo_clientHandles_19 rfl rfl ?_
  refine b_gr (pc2 := 23) d_Mo_clientHandles_20 q_11_72 (sh_130 n0) (by decide) (by decide) (p_130_28 n0) rfl ?_
  refine b_ic (pc2 := 24) (x := Int32.ofNat 0) d_Mo_clientHandles_23 rfl rfl ?_
  refine b_ia (pc2 := 25) (q := 0) d_Mo_clientHandles_24 (sh_150 n0) (i_in (i := 0) (by decide) (by decide)) (rfl) (rc_150) rfl ?_
  rw [hb]
  refine b_bp (pc2 := 27) (x := Int32.ofNat 27) d_Mo_clientHandles_25 rfl rfl ?_
  refine b_ifd (pc2 := 41) d_Mo_clientHandles_27 rfl rfl rfl rfl rfl (fun h27 => ?_) (fun h27 => ?_)
  · exact absurd h27 (by decide)
  refine b_aln (pc2 := 31) d_Mo_clientHandles_30 rfl rfl ?_
  refine b_gr (pc2 := 34) d_Mo_clientHandles_31 q_11_72 (sh_130 n0) (by decide) (by decide) (p_130_28 n0) rfl ?_
  refine b_ic (pc2 := 35) (x := Int32.ofNat 0) d_Mo_clientHandles_34 rfl rfl ?_
  refine b_ia (pc2 := 36) (q := 0) d_Mo_clientHandles_35 (sh_150 n0) (i_in (i := 0) (by decide) (by decide)) (rfl) (rc_150) rfl ?_
  rw [hb]
  refine b_bp (pc2 := 38) (x := Int32.ofNat 29) d_Mo_clientHandles_36 rfl rfl ?_
  refine b_ifd (pc2 := 137) d_Mo_clientHandles_38 rfl rfl rfl rfl rfl (fun h38 => ?_) (fun h38 => ?_)
  · exact absurd h38 (by decide)
  refine b_aln (pc2 := 42) d_Mo_clientHandles_41 rfl rfl ?_
  refine b_gi (pc2 := 45) d_Mo_clientHandles_42 q_11_174 (sh_130 n0) (by decide) (by decide) (rc_130) rfl ?_
  rw [hn]
  refine b_ic (pc2 := 46) (x := Int32.ofNat 2) d_Mo_clientHandles_45 rfl rfl ?_
  refine b_ifd (pc2 := 50) d_Mo_clientHandles_46 rfl rfl rfl rfl rfl (fun h46 => ?_) (fun h46 => ?_)
  · exact absurd h46 (fun z => by rw [i_le (by omega) (by omega)] at z; omega)
  refine b_vr d_Mo_clientHandles_49 rfl ?_
  exact ⟨rfl, rfl, rfl, rfl, rfl⟩
theorem mo_ch_n27 {d : Nat} (hd : 6 ≤ d) {n : Nat} (hn : J 130 27 = Int32.ofNat n) (hn20 : n ≤ 20) (hn2 : 2 ≤ n) (hb : J 150 0 = Int32.ofNat 27) {nt : Nat} (hnt : J 130 59 = Int32.ofNat nt) (hnt2 : nt < 100000000) : bm d (S0 n0) R0 153 [.ref 130] W J g L (bR none W (am_u2 (am_u1 (am_u2 J 164 (nt % 4) (Int32.ofNat (n - 1))) 165 (ovw (24 * (nt % 4)) (lst (J 150) 1 (n - 1)) (J 165))) 130 59 (Int32.ofNat (nt + 1))) g L) := by
  obtain ⟨e, rfl⟩ : ∃ e, d = e + 1 := ⟨d - 1, by omega⟩
  refine bm_of (Nat.le_of_ble_eq_true rfl) (Or.inr bR_ret) ?_
  show bT e (S0 n0) R0 mt_Mo_clientHandles _ 0 [(0, .ref 130)] [] W J g L 0 0
  have hSR := SR0 n0
  refine b_aln (pc2 := 1) d_Mo_clientHandles_0 rfl rfl ?_
  refine b_gi (pc2 := 4) d_Mo_clientHandles_1 q_11_174 (sh_130 n0) (by decide) (by decide) (rc_130) rfl ?_
  rw [hn]
  refine b_ifd (pc2 := 18) d_Mo_clientHandles_4 rfl rfl rfl rfl rfl (fun h4 => ?_) (fun h4 => ?_)
  · exact absurd h4 (fun z => by rw [z_eq (by omega)] at z; omega)
  refine b_aln (pc2 := 8) d_Mo_clientHandles_7 rfl rfl ?_
  refine b_gr (pc2 := 11) d_Mo_clientHandles_8 q_11_72 (sh_130 n0) (by decide) (by decide) (p_130_28 n0) rfl ?_
  refine b_ic (pc2 := 12) (x := Int32.ofNat 0) d_Mo_clientHandles_11 rfl rfl ?_
  refine b_ia (pc2 := 13) (q := 0) d_Mo_clientHandles_12 (sh_150 n0) (i_in (i := 0) (by decide) (by decide)) (rfl) (rc_150) rfl ?_
  rw [hb]
  refine b_ic (pc2 := 14) (x := Int32.ofNat 2) d_Mo_clientHandles_13 rfl rfl ?_
  refine b_rem (pc2 := 15) d_Mo_clientHandles_14 (by decide) rfl ?_
  rw [i_rem (by omega) (by omega) (by omega)]
  refine b_ifd (pc2 := 19) d_Mo_clientHandles_15 rfl rfl rfl rfl rfl (fun h15 => ?_) (fun h15 => ?_)
  rotate_left
  · exact absurd (by rw [z_eq (by omega)]; omega) h15
  refine b_aln (pc2 := 20) d_Mo_clientHandles_19 rfl rfl ?_
  refine b_gr (pc2 := 23) d_Mo_clientHandles_20 q_11_72 (sh_130 n0) (by decide) (by decide) (p_130_28 n0) rfl ?_
  refine b_ic (pc2 := 24) (x := Int32.ofNat 0) d_Mo_clientHandles_23 rfl rfl ?_
  refine b_ia (pc2 := 25) (q := 0) d_Mo_clientHandles_24 (sh_150 n0) (i_in (i := 0) (by decide) (by decide)) (rfl) (rc_150) rfl ?_
  rw [hb]
  refine b_bp (pc2 := 27) (x := Int32.ofNat 27) d_Mo_clientHandles_25 rfl rfl ?_
  refine b_ifd (pc2 := 41) d_Mo_clientHandles_27 rfl rfl rfl rfl rfl (fun h27 => ?_) (fun h27 => ?_)
  rotate_left
  · exact absurd (by decide) h27
  refine b_aln (pc2 := 42) d_Mo_clientHandles_41 rfl rfl ?_
  refine b_gi (pc2 := 45) d_Mo_clientHandles_42 q_11_174 (sh_130 n0) (by decide) (by decide) (rc_130) rfl ?_
  rw [hn]
  refine b_ic (pc2 := 46) (x := Int32.ofNat 2) d_Mo_clientHandles_45 rfl rfl ?_
  refine b_ifd (pc2 := 50) d_Mo_clientHandles_46 rfl rfl rfl rfl rfl (fun h46 => ?_) (fun h46 => ?_)
  rotate_left
  · exact absurd (by rw [i_le (by omega) (by omega)]; omega) h46
  refine b_aln (pc2 := 51) d_Mo_clientHandles_50 rfl rfl ?_
  refine b_gi (pc2 := 54) d_Mo_clientHandles_51 q_11_232 (sh_130 n0) (by decide) (by decide) (rc_130) rfl ?_
  rw [hnt]
  refine b_ic (pc2 := 55) (x := Int32.ofNat 4) d_Mo_clientHandles_54 rfl rfl ?_
  refine b_rem (pc2 := 56) d_Mo_clientHandles_55 (by decide) rfl ?_
  rw [i_rem (by omega) (by omega) (by omega)]
  refine b_isn (pc2 := 57) (al2 := [(1, _), (0, _)]) d_Mo_clientHandles_56 (by decide) rfl rfl ?_
  refine b_aln (pc2 := 58) d_Mo_clientHandles_57 rfl rfl ?_
  refine b_gr (pc2 := 61) d_Mo_clientHandles_58 q_11_123 (sh_130 n0) (by decide) (by decide) (p_130_60 n0) rfl ?_
  refine b_iln (pc2 := 62) d_Mo_clientHandles_61 rfl rfl ?_
  refine b_aln (pc2 := 63) d_Mo_clientHandles_62 rfl rfl ?_
  refine b_gi (pc2 := 66) d_Mo_clientHandles_63 q_11_174 (sh_130 n0) (by decide) (by decide) (rc_130) rfl ?_
  rw [hn]
  refine b_ic (pc2 := 67) (x := Int32.ofNat 1) d_Mo_clientHandles_66 rfl rfl ?_
  refine b_pure (pc2 := 68) d_Mo_clientHandles_67 rfl rfl rfl ?_
  rw [i_sub (by omega)]
  refine b_ist (pc2 := 69) (q := (nt % 4)) d_Mo_clientHandles_68 (sh_164 n0) (i_in (show nt % 4 < 4 by omega) (by decide)) (i_tn (by omega)) (rc_164) rfl ?_
  refine b_ic (pc2 := 70) (x := Int32.ofNat 1) d_Mo_clientHandles_69 rfl rfl ?_
  refine b_isn (pc2 := 71) (al2 := [(2, _), (1, _), (0, _)]) d_Mo_clientHandles_70 (by decide) rfl rfl ?_
  refine b_nf (al := [(2, _), (1, _), (0, _)]) (ks := [2, 1, 0]) (sub_c rfl (sub_c rfl (sub_c rfl (sub_n)))) rfl (by decide) ?_
  dsimp only
  have hK : ∀ c, ¬ c = 164 → (am_u2 J 164 (nt % 4) (Int32.ofNat (n - 1))) c = J c := fun c a1 => u2_a _ _ a1
  refine (fun z => ?_ : _ → _) (lp_ch (n0 := n0) (W := W) (J := (am_u2 J 164 (nt % 4) (Int32.ofNat (n - 1)))) (g := g) (L := L) (e := e) (m := nt % 4) (n := n) (Qh := bw_Q (S0 n0) R0 (bR none W (am_u2 (am_u1 (am_u2 J 164 (nt % 4) (Int32.ofNat (n - 1))) 165 (ovw (24 * (nt % 4)) (lst (J 150) 1 (n - 1)) (J 165))) 130 59 (Int32.ofNat (nt + 1))) g L)) (by omega) (by rw [hK 130 (by decide)]; exact hn) hn20 (by omega) ?_ (n - 1) 0 (by omega))
  · rw [show lst ((am_u2 J 164 (nt % 4) (Int32.ofNat (n - 1))) 150) 1 0 = [] from rfl, ovw_nil, u1_id] at z
    exact z
  · rw [hK 150 (by decide), hK 165 (by decide)]
    refine b_aln (pc2 := 105) d_Mo_clientHandles_104 rfl rfl ?_
    refine b_pure (pc2 := 106) d_Mo_clientHandles_105 rfl rfl rfl ?_
    refine b_gi (pc2 := 109) d_Mo_clientHandles_106 q_11_232 (sh_130 n0) (by decide) (by decide) (rc_130) rfl ?_
    rw [u1_ne _ _ (by decide), u2_a _ _ (by decide), hnt]
    refine b_ic (pc2 := 110) (x := Int32.ofNat 1) d_Mo_clientHandles_109 rfl rfl ?_
    refine b_pure (pc2 := 111) d_Mo_clientHandles_110 rfl rfl rfl ?_
    rw [i_add]
    refine b_pi (pc2 := 114) d_Mo_clientHandles_111 q_11_232 (sh_130 n0) (by decide) (Or.inl (by decide)) (Or.inl rfl) (rc_130) rfl ?_
    refine b_aln (pc2 := 115) d_Mo_clientHandles_114 rfl rfl ?_
    refine b_gr (pc2 := 118) d_Mo_clientHandles_115 q_11_72 (sh_130 n0) (by decide) (by decide) (p_130_28 n0) rfl ?_
    refine b_ic (pc2 := 119) (x := Int32.ofNat 0) d_Mo_clientHandles_118 rfl rfl ?_
    refine b_ia (pc2 := 120) (q := 0) d_Mo_clientHandles_119 (sh_150 n0) (i_in (i := 0) (by decide) (by decide)) (rfl) (rc_150) rfl ?_
    rw [u2_a _ _ (by decide), u1_ne _ _ (by decide), u2_a _ _ (by decide), hb]
    refine b_bp (pc2 := 122) (x := Int32.ofNat 29) d_Mo_clientHandles_120 rfl rfl ?_
    refine b_ifd (pc2 := 136) d_Mo_clientHandles_122 rfl rfl rfl rfl rfl (fun h122 => ?_) (fun h122 => ?_)
    rotate_left
    · exact absurd (by decide) h122
    refine b_vr d_Mo_clientHandles_136 rfl ?_
    exact ⟨rfl, rfl, rfl, rfl, rfl⟩
theorem mo_ch_n29 {d : Nat} (hd : 6 ≤ d) {n : Nat} (hn : J 130 27 = Int32.ofNat n) (hn20 : n ≤ 20) (hn2 : 2 ≤ n) (hb : J 150 0 = Int32.ofNat 29) {nt : Nat} (hnt : J 130 59 = Int32.ofNat nt) (hnt2 : nt < 100000000) (hG : ∀ e, 1 ≤ e → bm e (S0 n0) R0 135 [.ref 130, .int (Int32.ofNat 0)] W (mkJ (am_u2 (am_u1 (am_u2 J 164 (nt % 4) (Int32.ofNat (n - 1))) 165 (ovw (24 * (nt % 4)) (lst (J 150) 1 (n - 1)) (J 165))) 130 59 (Int32.ofNat (nt + 1))) [Int32.ofNat 30]) g L (bR none W J1 g L)) : bm d (S0 n0) R0 153 [.ref 130] W J g L (bR none W J1 g L) := by
  obtain ⟨e, rfl⟩ : ∃ e, d = e + 1 := ⟨d - 1, by omega⟩
  refine bm_of (Nat.le_of_ble_eq_true rfl) (Or.inr bR_ret) ?_
  show bT e (S0 n0) R0 mt_Mo_clientHandles _ 0 [(0, .ref 130)] [] W J g L 0 0
  have hSR := SR0 n0
  refine b_aln (pc2 := 1) d_Mo_clientHandles_0 rfl rfl ?_
  refine b_gi (pc2 := 4) d_Mo_clientHandles_1 q_11_174 (sh_130 n0) (by decide) (by decide) (rc_130) rfl ?_
  rw [hn]
  refine b_ifd (pc2 := 18) d_Mo_clientHandles_4 rfl rfl rfl rfl rfl (fun h4 => ?_) (fun h4 => ?_)
  · exact absurd h4 (fun z => by rw [z_eq (by omega)] at z; omega)
  refine b_aln (pc2 := 8) d_Mo_clientHandles_7 rfl rfl ?_
  refine b_gr (pc2 := 11) d_Mo_clientHandles_8 q_11_72 (sh_130 n0) (by decide) (by decide) (p_130_28 n0) rfl ?_
  refine b_ic (pc2 := 12) (x := Int32.ofNat 0) d_Mo_clientHandles_11 rfl rfl ?_
  refine b_ia (pc2 := 13) (q := 0) d_Mo_clientHandles_12 (sh_150 n0) (i_in (i := 0) (by decide) (by decide)) (rfl) (rc_150) rfl ?_
  rw [hb]
  refine b_ic (pc2 := 14) (x := Int32.ofNat 2) d_Mo_clientHandles_13 rfl rfl ?_
  refine b_rem (pc2 := 15) d_Mo_clientHandles_14 (by decide) rfl ?_
  rw [i_rem (by omega) (by omega) (by omega)]
  refine b_ifd (pc2 := 19) d_Mo_clientHandles_15 rfl rfl rfl rfl rfl (fun h15 => ?_) (fun h15 => ?_)
  rotate_left
  · exact absurd (by rw [z_eq (by omega)]; omega) h15
  refine b_aln (pc2 := 20) d_Mo_clientHandles_19 rfl rfl ?_
  refine b_gr (pc2 := 23) d_Mo_clientHandles_20 q_11_72 (sh_130 n0) (by decide) (by decide) (p_130_28 n0) rfl ?_
  refine b_ic (pc2 := 24) (x := Int32.ofNat 0) d_Mo_clientHandles_23 rfl rfl ?_
  refine b_ia (pc2 := 25) (q := 0) d_Mo_clientHandles_24 (sh_150 n0) (i_in (i := 0) (by decide) (by decide)) (rfl) (rc_150) rfl ?_
  rw [hb]
  refine b_bp (pc2 := 27) (x := Int32.ofNat 27) d_Mo_clientHandles_25 rfl rfl ?_
  refine b_ifd (pc2 := 41) d_Mo_clientHandles_27 rfl rfl rfl rfl rfl (fun h27 => ?_) (fun h27 => ?_)
  · exact absurd h27 (by decide)
  refine b_aln (pc2 := 31) d_Mo_clientHandles_30 rfl rfl ?_
  refine b_gr (pc2 := 34) d_Mo_clientHandles_31 q_11_72 (sh_130 n0) (by decide) (by decide) (p_130_28 n0) rfl ?_
  refine b_ic (pc2 := 35) (x := Int32.ofNat 0) d_Mo_clientHandles_34 rfl rfl ?_
  refine b_ia (pc2 := 36) (q := 0) d_Mo_clientHandles_35 (sh_150 n0) (i_in (i := 0) (by decide) (by decide)) (rfl) (rc_150) rfl ?_
  rw [hb]
  refine b_bp (pc2 := 38) (x := Int32.ofNat 29) d_Mo_clientHandles_36 rfl rfl ?_
  refine b_ifd (pc2 := 137) d_Mo_clientHandles_38 rfl rfl rfl rfl rfl (fun h38 => ?_) (fun h38 => ?_)
  · exact absurd h38 (by decide)
  refine b_aln (pc2 := 42) d_Mo_clientHandles_41 rfl rfl ?_
  refine b_gi (pc2 := 45) d_Mo_clientHandles_42 q_11_174 (sh_130 n0) (by decide) (by decide) (rc_130) rfl ?_
  rw [hn]
  refine b_ic (pc2 := 46) (x := Int32.ofNat 2) d_Mo_clientHandles_45 rfl rfl ?_
  refine b_ifd (pc2 := 50) d_Mo_clientHandles_46 rfl rfl rfl rfl rfl (fun h46 => ?_) (fun h46 => ?_)
  rotate_left
  · exact absurd (by rw [i_le (by omega) (by omega)]; omega) h46
  refine b_aln (pc2 := 51) d_Mo_clientHandles_50 rfl rfl ?_
  refine b_gi (pc2 := 54) d_Mo_clientHandles_51 q_11_232 (sh_130 n0) (by decide) (by decide) (rc_130) rfl ?_
  rw [hnt]
  refine b_ic (pc2 := 55) (x := Int32.ofNat 4) d_Mo_clientHandles_54 rfl rfl ?_
  refine b_rem (pc2 := 56) d_Mo_clientHandles_55 (by decide) rfl ?_
  rw [i_rem (by omega) (by omega) (by omega)]
  refine b_isn (pc2 := 57) (al2 := [(1, _), (0, _)]) d_Mo_clientHandles_56 (by decide) rfl rfl ?_
  refine b_aln (pc2 := 58) d_Mo_clientHandles_57 rfl rfl ?_
  refine b_gr (pc2 := 61) d_Mo_clientHandles_58 q_11_123 (sh_130 n0) (by decide) (by decide) (p_130_60 n0) rfl ?_
  refine b_iln (pc2 := 62) d_Mo_clientHandles_61 rfl rfl ?_
  refine b_aln (pc2 := 63) d_Mo_clientHandles_62 rfl rfl ?_
  refine b_gi (pc2 := 66) d_Mo_clientHandles_63 q_11_174 (sh_130 n0) (by decide) (by decide) (rc_130) rfl ?_
  rw [hn]
  refine b_ic (pc2 := 67) (x := Int32.ofNat 1) d_Mo_clientHandles_66 rfl rfl ?_
  refine b_pure (pc2 := 68) d_Mo_clientHandles_67 rfl rfl rfl ?_
  rw [i_sub (by omega)]
  refine b_ist (pc2 := 69) (q := (nt % 4)) d_Mo_clientHandles_68 (sh_164 n0) (i_in (show nt % 4 < 4 by omega) (by decide)) (i_tn (by omega)) (rc_164) rfl ?_
  refine b_ic (pc2 := 70) (x := Int32.ofNat 1) d_Mo_clientHandles_69 rfl rfl ?_
  refine b_isn (pc2 := 71) (al2 := [(2, _), (1, _), (0, _)]) d_Mo_clientHandles_70 (by decide) rfl rfl ?_
  refine b_nf (al := [(2, _), (1, _), (0, _)]) (ks := [2, 1, 0]) (sub_c rfl (sub_c rfl (sub_c rfl (sub_n)))) rfl (by decide) ?_
  dsimp only
  have hK : ∀ c, ¬ c = 164 → (am_u2 J 164 (nt % 4) (Int32.ofNat (n - 1))) c = J c := fun c a1 => u2_a _ _ a1
  refine (fun z => ?_ : _ → _) (lp_ch (n0 := n0) (W := W) (J := (am_u2 J 164 (nt % 4) (Int32.ofNat (n - 1)))) (g := g) (L := L) (e := e) (m := nt % 4) (n := n) (Qh := bw_Q (S0 n0) R0 (bR none W J1 g L)) (by omega) (by rw [hK 130 (by decide)]; exact hn) hn20 (by omega) ?_ (n - 1) 0 (by omega))
  · rw [show lst ((am_u2 J 164 (nt % 4) (Int32.ofNat (n - 1))) 150) 1 0 = [] from rfl, ovw_nil, u1_id] at z
    exact z
  · rw [hK 150 (by decide), hK 165 (by decide)]
    refine b_aln (pc2 := 105) d_Mo_clientHandles_104 rfl rfl ?_
    refine b_pure (pc2 := 106) d_Mo_clientHandles_105 rfl rfl rfl ?_
    refine b_gi (pc2 := 109) d_Mo_clientHandles_106 q_11_232 (sh_130 n0) (by decide) (by decide) (rc_130) rfl ?_
    rw [u1_ne _ _ (by decide), u2_a _ _ (by decide), hnt]
    refine b_ic (pc2 := 110) (x := Int32.ofNat 1) d_Mo_clientHandles_109 rfl rfl ?_
    refine b_pure (pc2 := 111) d_Mo_clientHandles_110 rfl rfl rfl ?_
    rw [i_add]
    refine b_pi (pc2 := 114) d_Mo_clientHandles_111 q_11_232 (sh_130 n0) (by decide) (Or.inl (by decide)) (Or.inl rfl) (rc_130) rfl ?_
    refine b_aln (pc2 := 115) d_Mo_clientHandles_114 rfl rfl ?_
    refine b_gr (pc2 := 118) d_Mo_clientHandles_115 q_11_72 (sh_130 n0) (by decide) (by decide) (p_130_28 n0) rfl ?_
    refine b_ic (pc2 := 119) (x := Int32.ofNat 0) d_Mo_clientHandles_118 rfl rfl ?_
    refine b_ia (pc2 := 120) (q := 0) d_Mo_clientHandles_119 (sh_150 n0) (i_in (i := 0) (by decide) (by decide)) (rfl) (rc_150) rfl ?_
    rw [u2_a _ _ (by decide), u1_ne _ _ (by decide), u2_a _ _ (by decide), hb]
    refine b_bp (pc2 := 122) (x := Int32.ofNat 29) d_Mo_clientHandles_120 rfl rfl ?_
    refine b_ifd (pc2 := 136) d_Mo_clientHandles_122 rfl rfl rfl rfl rfl (fun h122 => ?_) (fun h122 => ?_)
    · exact absurd h122 (by decide)
    refine b_aln (pc2 := 126) d_Mo_clientHandles_125 rfl rfl ?_
    refine b_bp (pc2 := 128) (x := Int32.ofNat 30) d_Mo_clientHandles_126 rfl rfl ?_
    refine b_cv0 (pc2 := 131) (c2 := 0) (u2 := 0) (mo_start (by omega)) d_Mo_clientHandles_128 q_11_183 (Nat.le_of_ble_eq_true rfl) rfl rfl (sh_130 n0) (Nat.le_of_ble_eq_true rfl) rfl rfl (by decide) (by decide) rfl ?_
    rw [show Int32.ofNat 30 &&& 255 = Int32.ofNat 30 from rfl]
    refine b_aln (pc2 := 132) d_Mo_clientHandles_131 rfl rfl ?_
    refine b_ic (pc2 := 133) (x := Int32.ofNat 0) d_Mo_clientHandles_132 rfl rfl ?_
    refine b_cv0 (pc2 := 136) (c2 := 0) (u2 := 0) (hG e (by omega)) d_Mo_clientHandles_133 q_11_149 (Nat.le_of_ble_eq_true rfl) rfl rfl (sh_130 n0) (Nat.le_of_ble_eq_true rfl) rfl rfl (by decide) (by decide) rfl ?_
    refine b_vr d_Mo_clientHandles_136 rfl ?_
    exact ⟨rfl, rfl, rfl, rfl, rfl⟩
theorem mo_ch_i0 {d : Nat} (hd : 6 ≤ d) {n : Nat} (hn : J 130 27 = Int32.ofNat n) (hn20 : n ≤ 20) (hn1 : 1 ≤ n) {b0 : Nat} (hb : J 150 0 = Int32.ofNat b0) (hb2 : b0 < 256) (hod : b0 % 2 = 1) (h27 : ¬ b0 = 27) (h29 : ¬ b0 = 29) (hop : J 130 45 = Int32.ofNat 0) : bm d (S0 n0) R0 153 [.ref 130] W J g L (bR none W J g L) := by
  obtain ⟨e, rfl⟩ : ∃ e, d = e + 1 := ⟨d - 1, by omega⟩
  refine bm_of (Nat.le_of_ble_eq_true rfl) (Or.inr bR_ret) ?_
  show bT e (S0 n0) R0 mt_Mo_clientHandles _ 0 [(0, .ref 130)] [] W J g L 0 0
  have hSR := SR0 n0
  refine b_aln (pc2 := 1) d_Mo_clientHandles_0 rfl rfl ?_
  refine b_gi (pc2 := 4) d_Mo_clientHandles_1 q_11_174 (sh_130 n0) (by decide) (by decide) (rc_130) rfl ?_
  rw [hn]
  refine b_ifd (pc2 := 18) d_Mo_clientHandles_4 rfl rfl rfl rfl rfl (fun h4 => ?_) (fun h4 => ?_)
  · exact absurd h4 (fun z => by rw [z_eq (by omega)] at z; omega)
  refine b_aln (pc2 := 8) d_Mo_clientHandles_7 rfl rfl ?_
  refine b_gr (pc2 := 11) d_Mo_clientHandles_8 q_11_72 (sh_130 n0) (by decide) (by decide) (p_130_28 n0) rfl ?_
  refine b_ic (pc2 := 12) (x := Int32.ofNat 0) d_Mo_clientHandles_11 rfl rfl ?_
  refine b_ia (pc2 := 13) (q := 0) d_Mo_clientHandles_12 (sh_150 n0) (i_in (i := 0) (by decide) (by decide)) (rfl) (rc_150) rfl ?_
  rw [hb]
  refine b_ic (pc2 := 14) (x := Int32.ofNat 2) d_Mo_clientHandles_13 rfl rfl ?_
  refine b_rem (pc2 := 15) d_Mo_clientHandles_14 (by decide) rfl ?_
  rw [i_rem (by omega) (by omega) (by omega)]
  refine b_ifd (pc2 := 19) d_Mo_clientHandles_15 rfl rfl rfl rfl rfl (fun h15 => ?_) (fun h15 => ?_)
  rotate_left
  · exact absurd (by rw [z_eq (by omega)]; omega) h15
  refine b_aln (pc2 := 20) d_Mo_clientHandles_19 rfl rfl ?_
  refine b_gr (pc2 := 23) d_Mo_clientHandles_20 q_11_72 (sh_130 n0) (by decide) (by decide) (p_130_28 n0) rfl ?_
  refine b_ic (pc2 := 24) (x := Int32.ofNat 0) d_Mo_clientHandles_23 rfl rfl ?_
  refine b_ia (pc2 := 25) (q := 0) d_Mo_clientHandles_24 (sh_150 n0) (i_in (i := 0) (by decide) (by decide)) (rfl) (rc_150) rfl ?_
  rw [hb]
  refine b_bp (pc2 := 27) (x := Int32.ofNat 27) d_Mo_clientHandles_25 rfl rfl ?_
  refine b_ifd (pc2 := 41) d_Mo_clientHandles_27 rfl rfl rfl rfl rfl (fun h27 => ?_) (fun h27 => ?_)
  · exact absurd h27 (fun z => by rw [i_eq (by omega) (by omega)] at z; omega)
  refine b_aln (pc2 := 31) d_Mo_clientHandles_30 rfl rfl ?_
  refine b_gr (pc2 := 34) d_Mo_clientHandles_31 q_11_72 (sh_130 n0) (by decide) (by decide) (p_130_28 n0) rfl ?_
  refine b_ic (pc2 := 35) (x := Int32.ofNat 0) d_Mo_clientHandles_34 rfl rfl ?_
  refine b_ia (pc2 := 36) (q := 0) d_Mo_clientHandles_35 (sh_150 n0) (i_in (i := 0) (by decide) (by decide)) (rfl) (rc_150) rfl ?_
  rw [hb]
  refine b_bp (pc2 := 38) (x := Int32.ofNat 29) d_Mo_clientHandles_36 rfl rfl ?_
  refine b_ifd (pc2 := 137) d_Mo_clientHandles_38 rfl rfl rfl rfl rfl (fun h38 => ?_) (fun h38 => ?_)
  rotate_left
  · exact absurd (by rw [i_eq (by omega) (by omega)]; omega) h38
  refine b_aln (pc2 := 138) d_Mo_clientHandles_137 rfl rfl ?_
  refine b_gi (pc2 := 141) d_Mo_clientHandles_138 q_11_235 (sh_130 n0) (by decide) (by decide) (rc_130) rfl ?_
  rw [hop]
  refine b_ifd (pc2 := 155) d_Mo_clientHandles_141 rfl rfl rfl rfl rfl (fun h141 => ?_) (fun h141 => ?_)
  rotate_left
  · exact absurd (by decide) h141
  refine b_vr d_Mo_clientHandles_155 rfl ?_
  exact ⟨rfl, rfl, rfl, rfl, rfl⟩
theorem mo_ch_i1 {d : Nat} (hd : 6 ≤ d) {n : Nat} (hn : J 130 27 = Int32.ofNat n) (hn20 : n ≤ 20) (hn1 : 1 ≤ n) {b0 : Nat} (hb : J 150 0 = Int32.ofNat b0) (hb2 : b0 < 256) (hod : b0 % 2 = 1) (h27 : ¬ b0 = 27) (h29 : ¬ b0 = 29) {op oc : Nat} (hop : J 130 45 = Int32.ofNat op) (hop2 : 1 ≤ op) (hop3 : op ≤ 7) (hoc : J 130 47 = Int32.ofNat oc) (hoc2 : 1 ≤ oc) (hoc3 : oc ≤ 4) : bm d (S0 n0) R0 153 [.ref 130] W J g L (bR none W J g L) := by
  obtain ⟨e, rfl⟩ : ∃ e, d = e + 1 := ⟨d - 1, by omega⟩
  refine bm_of (Nat.le_of_ble_eq_true rfl) (Or.inr bR_ret) ?_
  show bT e (S0 n0) R0 mt_Mo_clientHandles _ 0 [(0, .ref 130)] [] W J g L 0 0
  have hSR := SR0 n0
  refine b_aln (pc2 := 1) d_Mo_clientHandles_0 rfl rfl ?_
  refine b_gi (pc2 := 4) d_Mo_clientHandles_1 q_11_174 (sh_130 n0) (by decide) (by decide) (rc_130) rfl ?_
  rw [hn]
  refine b_ifd (pc2 := 18) d_Mo_clientHandles_4 rfl rfl rfl rfl rfl (fun h4 => ?_) (fun h4 => ?_)
  · exact absurd h4 (fun z => by rw [z_eq (by omega)] at z; omega)
  refine b_aln (pc2 := 8) d_Mo_clientHandles_7 rfl rfl ?_
  refine b_gr (pc2 := 11) d_Mo_clientHandles_8 q_11_72 (sh_130 n0) (by decide) (by decide) (p_130_28 n0) rfl ?_
  refine b_ic (pc2 := 12) (x := Int32.ofNat 0) d_Mo_clientHandles_11 rfl rfl ?_
  refine b_ia (pc2 := 13) (q := 0) d_Mo_clientHandles_12 (sh_150 n0) (i_in (i := 0) (by decide) (by decide)) (rfl) (rc_150) rfl ?_
  rw [hb]
  refine b_ic (pc2 := 14) (x := Int32.ofNat 2) d_Mo_clientHandles_13 rfl rfl ?_
  refine b_rem (pc2 := 15) d_Mo_clientHandles_14 (by decide) rfl ?_
  rw [i_rem (by omega) (by omega) (by omega)]
  refine b_ifd (pc2 := 19) d_Mo_clientHandles_15 rfl rfl rfl rfl rfl (fun h15 => ?_) (fun h15 => ?_)
  rotate_left
  · exact absurd (by rw [z_eq (by omega)]; omega) h15
  refine b_aln (pc2 := 20) d_Mo_clientHandles_19 rfl rfl ?_
  refine b_gr (pc2 := 23) d_Mo_clientHandles_20 q_11_72 (sh_130 n0) (by decide) (by decide) (p_130_28 n0) rfl ?_
  refine b_ic (pc2 := 24) (x := Int32.ofNat 0) d_Mo_clientHandles_23 rfl rfl ?_
  refine b_ia (pc2 := 25) (q := 0) d_Mo_clientHandles_24 (sh_150 n0) (i_in (i := 0) (by decide) (by decide)) (rfl) (rc_150) rfl ?_
  rw [hb]
  refine b_bp (pc2 := 27) (x := Int32.ofNat 27) d_Mo_clientHandles_25 rfl rfl ?_
  refine b_ifd (pc2 := 41) d_Mo_clientHandles_27 rfl rfl rfl rfl rfl (fun h27 => ?_) (fun h27 => ?_)
  · exact absurd h27 (fun z => by rw [i_eq (by omega) (by omega)] at z; omega)
  refine b_aln (pc2 := 31) d_Mo_clientHandles_30 rfl rfl ?_
  refine b_gr (pc2 := 34) d_Mo_clientHandles_31 q_11_72 (sh_130 n0) (by decide) (by decide) (p_130_28 n0) rfl ?_
  refine b_ic (pc2 := 35) (x := Int32.ofNat 0) d_Mo_clientHandles_34 rfl rfl ?_
  refine b_ia (pc2 := 36) (q := 0) d_Mo_clientHandles_35 (sh_150 n0) (i_in (i := 0) (by decide) (by decide)) (rfl) (rc_150) rfl ?_
  rw [hb]
  refine b_bp (pc2 := 38) (x := Int32.ofNat 29) d_Mo_clientHandles_36 rfl rfl ?_
  refine b_ifd (pc2 := 137) d_Mo_clientHandles_38 rfl rfl rfl rfl rfl (fun h38 => ?_) (fun h38 => ?_)
  rotate_left
  · exact absurd (by rw [i_eq (by omega) (by omega)]; omega) h38
  refine b_aln (pc2 := 138) d_Mo_clientHandles_137 rfl rfl ?_
  refine b_gi (pc2 := 141) d_Mo_clientHandles_138 q_11_235 (sh_130 n0) (by decide) (by decide) (rc_130) rfl ?_
  rw [hop]
  refine b_ifd (pc2 := 155) d_Mo_clientHandles_141 rfl rfl rfl rfl rfl (fun h141 => ?_) (fun h141 => ?_)
  · exact absurd h141 (fun z => by rw [z_le (by omega)] at z; omega)
  refine b_aln (pc2 := 145) d_Mo_clientHandles_144 rfl rfl ?_
  refine b_gi (pc2 := 148) d_Mo_clientHandles_145 q_11_111 (sh_130 n0) (by decide) (by decide) (rc_130) rfl ?_
  rw [hoc]
  refine b_ifd (pc2 := 155) d_Mo_clientHandles_148 rfl rfl rfl rfl rfl (fun h148 => ?_) (fun h148 => ?_)
  rotate_left
  · exact absurd (by rw [z_eq (by omega)]; omega) h148
  refine b_vr d_Mo_clientHandles_155 rfl ?_
  exact ⟨rfl, rfl, rfl, rfl, rfl⟩
theorem mo_ch_a {d : Nat} (hd : 6 ≤ d) {n : Nat} (hn : J 130 27 = Int32.ofNat n) (hn20 : n ≤ 20) (hn1 : 1 ≤ n) {b0 : Nat} (hb : J 150 0 = Int32.ofNat b0) (hb2 : b0 < 256) (hod : b0 % 2 = 1) (h27 : ¬ b0 = 27) (h29 : ¬ b0 = 29) {op : Nat} (hop : J 130 45 = Int32.ofNat op) (hop2 : 1 ≤ op) (hop3 : op ≤ 7) (hoc : J 130 47 = Int32.ofNat 0) (hA : ∀ e, 5 ≤ e → bm e (S0 n0) R0 154 [.ref 130] W J g L (bR none W J1 g L)) : bm d (S0 n0) R0 153 [.ref 130] W J g L (bR none W J1 g L) := by
  obtain ⟨e, rfl⟩ : ∃ e, d = e + 1 := ⟨d - 1, by omega⟩
  refine bm_of (Nat.le_of_ble_eq_true rfl) (Or.inr bR_ret) ?_
  show bT e (S0 n0) R0 mt_Mo_clientHandles _ 0 [(0, .ref 130)] [] W J g L 0 0
  have hSR := SR0 n0
  refine b_aln (pc2 := 1) d_Mo_clientHandles_0 rfl rfl ?_
  refine b_gi (pc2 := 4) d_Mo_clientHandles_1 q_11_174 (sh_130 n0) (by decide) (by decide) (rc_130) rfl ?_
  rw [hn]
  refine b_ifd (pc2 := 18) d_Mo_clientHandles_4 rfl rfl rfl rfl rfl (fun h4 => ?_) (fun h4 => ?_)
  · exact absurd h4 (fun z => by rw [z_eq (by omega)] at z; omega)
  refine b_aln (pc2 := 8) d_Mo_clientHandles_7 rfl rfl ?_
  refine b_gr (pc2 := 11) d_Mo_clientHandles_8 q_11_72 (sh_130 n0) (by decide) (by decide) (p_130_28 n0) rfl ?_
  refine b_ic (pc2 := 12) (x := Int32.ofNat 0) d_Mo_clientHandles_11 rfl rfl ?_
  refine b_ia (pc2 := 13) (q := 0) d_Mo_clientHandles_12 (sh_150 n0) (i_in (i := 0) (by decide) (by decide)) (rfl) (rc_150) rfl ?_
  rw [hb]
  refine b_ic (pc2 := 14) (x := Int32.ofNat 2) d_Mo_clientHandles_13 rfl rfl ?_
  refine b_rem (pc2 := 15) d_Mo_clientHandles_14 (by decide) rfl ?_
  rw [i_rem (by omega) (by omega) (by omega)]
  refine b_ifd (pc2 := 19) d_Mo_clientHandles_15 rfl rfl rfl rfl rfl (fun h15 => ?_) (fun h15 => ?_)
  rotate_left
  · exact absurd (by rw [z_eq (by omega)]; omega) h15
  refine b_aln (pc2 := 20) d_Mo_clientHandles_19 rfl rfl ?_
  refine b_gr (pc2 := 23) d_Mo_clientHandles_20 q_11_72 (sh_130 n0) (by decide) (by decide) (p_130_28 n0) rfl ?_
  refine b_ic (pc2 := 24) (x := Int32.ofNat 0) d_Mo_clientHandles_23 rfl rfl ?_
  refine b_ia (pc2 := 25) (q := 0) d_Mo_clientHandles_24 (sh_150 n0) (i_in (i := 0) (by decide) (by decide)) (rfl) (rc_150) rfl ?_
  rw [hb]
  refine b_bp (pc2 := 27) (x := Int32.ofNat 27) d_Mo_clientHandles_25 rfl rfl ?_
  refine b_ifd (pc2 := 41) d_Mo_clientHandles_27 rfl rfl rfl rfl rfl (fun h27 => ?_) (fun h27 => ?_)
  · exact absurd h27 (fun z => by rw [i_eq (by omega) (by omega)] at z; omega)
  refine b_aln (pc2 := 31) d_Mo_clientHandles_30 rfl rfl ?_
  refine b_gr (pc2 := 34) d_Mo_clientHandles_31 q_11_72 (sh_130 n0) (by decide) (by decide) (p_130_28 n0) rfl ?_
  refine b_ic (pc2 := 35) (x := Int32.ofNat 0) d_Mo_clientHandles_34 rfl rfl ?_
  refine b_ia (pc2 := 36) (q := 0) d_Mo_clientHandles_35 (sh_150 n0) (i_in (i := 0) (by decide) (by decide)) (rfl) (rc_150) rfl ?_
  rw [hb]
  refine b_bp (pc2 := 38) (x := Int32.ofNat 29) d_Mo_clientHandles_36 rfl rfl ?_
  refine b_ifd (pc2 := 137) d_Mo_clientHandles_38 rfl rfl rfl rfl rfl (fun h38 => ?_) (fun h38 => ?_)
  rotate_left
  · exact absurd (by rw [i_eq (by omega) (by omega)]; omega) h38
  refine b_aln (pc2 := 138) d_Mo_clientHandles_137 rfl rfl ?_
  refine b_gi (pc2 := 141) d_Mo_clientHandles_138 q_11_235 (sh_130 n0) (by decide) (by decide) (rc_130) rfl ?_
  rw [hop]
  refine b_ifd (pc2 := 155) d_Mo_clientHandles_141 rfl rfl rfl rfl rfl (fun h141 => ?_) (fun h141 => ?_)
  · exact absurd h141 (fun z => by rw [z_le (by omega)] at z; omega)
  refine b_aln (pc2 := 145) d_Mo_clientHandles_144 rfl rfl ?_
  refine b_gi (pc2 := 148) d_Mo_clientHandles_145 q_11_111 (sh_130 n0) (by decide) (by decide) (rc_130) rfl ?_
  rw [hoc]
  refine b_ifd (pc2 := 155) d_Mo_clientHandles_148 rfl rfl rfl rfl rfl (fun h148 => ?_) (fun h148 => ?_)
  · exact absurd h148 (by decide)
  refine b_aln (pc2 := 152) d_Mo_clientHandles_151 rfl rfl ?_
  refine b_cv0 (pc2 := 155) (c2 := 0) (u2 := 0) (hA e (by omega)) d_Mo_clientHandles_152 q_11_238 (Nat.le_of_ble_eq_true rfl) rfl rfl (sh_130 n0) (Nat.le_of_ble_eq_true rfl) rfl rfl (by decide) (by decide) rfl ?_
  refine b_vr d_Mo_clientHandles_155 rfl ?_
  exact ⟨rfl, rfl, rfl, rfl, rfl⟩
theorem lp_rd_r {e : Nat} {n : Nat} (hn : J 130 27 = Int32.ofNat n) (hn20 : n ≤ 20) (hn1 : 1 ≤ n) {gt : Nat} (hg : J 130 52 = Int32.ofNat gt) (hgt : gt + n ≤ 64) (hop : J 130 45 = Int32.ofNat 2) (K : bH e (S0 n0) R0 mt_Mo_read Qh 58 [(0, .ref 130)] [] W (am_u2 (am_u1 J 162 (ovw gt (lst (J 150) 1 (n - 1)) (J 162))) 130 52 (Int32.ofNat (gt + (n - 1)))) g L 0 0) : ∀ (r j : Nat), j + r = (n - 1) → bH e (S0 n0) R0 mt_Mo_read Qh 2 [(1, .int (Int32.ofNat (1 + j))), (0, .ref 130)] [] W (am_u2 (am_u1 J 162 (ovw gt (lst (J 150) 1 j) (J 162))) 130 52 (Int32.ofNat (gt + j))) g L 0 0 := by
  intro r
  induction r with
  | zero =>
    intro j hj
    refine b_iln (pc2 := 3) d_Mo_read_2 rfl rfl ?_
    refine b_aln (pc2 := 4) d_Mo_read_3 rfl rfl ?_
    refine b_gi (pc2 := 7) d_Mo_read_4 q_11_174 (sh_130 n0) (by decide) (by decide) (rc_130) rfl ?_
    rw [u2_k _ _ (by decide), u1_ne _ _ (by decide), hn]
    refine b_ifd (pc2 := 58) d_Mo_read_7 rfl rfl rfl rfl rfl (fun h7 => ?_) (fun h7 => ?_)
    rotate_left
    · exact absurd (by rw [i_le (by omega) (by omega)]; omega) h7
    refine b_nf (al := [(0, _)]) (ks := [0]) (sub_c rfl (sub_n)) rfl (by decide) ?_
    dsimp only
    rw [show j = (n - 1) by omega]
    exact K
  | succ r ih =>
    intro j hj
    refine b_iln (pc2 := 3) d_Mo_read_2 rfl rfl ?_
    refine b_aln (pc2 := 4) d_Mo_read_3 rfl rfl ?_
    refine b_gi (pc2 := 7) d_Mo_read_4 q_11_174 (sh_130 n0) (by decide) (by decide) (rc_130) rfl ?_
    rw [u2_k _ _ (by decide), u1_ne _ _ (by decide), hn]
    refine b_ifd (pc2 := 58) d_Mo_read_7 rfl rfl rfl rfl rfl (fun h7 => ?_) (fun h7 => ?_)
    · exact absurd h7 (fun z => by rw [i_le (by omega) (by omega)] at z; omega)
    refine b_aln (pc2 := 11) d_Mo_read_10 rfl rfl ?_
    refine b_gi (pc2 := 14) d_Mo_read_11 q_11_235 (sh_130 n0) (by decide) (by decide) (rc_130) rfl ?_
    rw [u2_k _ _ (by decide), u1_ne _ _ (by decide), hop]
    refine b_ic (pc2 := 15) (x := Int32.ofNat 2) d_Mo_read_14 rfl rfl ?_
    refine b_ifd (pc2 := 27) d_Mo_read_15 rfl rfl rfl rfl rfl (fun h15 => ?_) (fun h15 => ?_)
    rotate_left
    · exact absurd (by decide) h15
    refine b_aln (pc2 := 28) d_Mo_read_27 rfl rfl ?_
    refine b_gr (pc2 := 31) d_Mo_read_28 q_11_117 (sh_130 n0) (by decide) (by decide) (p_130_53 n0) rfl ?_
    refine b_aln (pc2 := 32) d_Mo_read_31 rfl rfl ?_
    refine b_gi (pc2 := 35) d_Mo_read_32 q_11_262 (sh_130 n0) (by decide) (by decide) (rc_130) rfl ?_
    rw [u2_at, show gt + j = gt + (lst (J 150) 1 j).length by rw [lst_len]]
    refine b_aln (pc2 := 36) d_Mo_read_35 rfl rfl ?_
    refine b_gr (pc2 := 39) d_Mo_read_36 q_11_72 (sh_130 n0) (by decide) (by decide) (p_130_28 n0) rfl ?_
    refine b_iln (pc2 := 40) d_Mo_read_39 rfl rfl ?_
    refine b_ia (pc2 := 41) (q := (1 + j)) d_Mo_read_40 (sh_150 n0) (i_in (show 1 + j < 24 by omega) (by decide)) (i_tn (by omega)) (rc_150) rfl ?_
    rw [u2_a _ _ (by decide), u1_ne _ _ (by decide)]
    refine b_ist (pc2 := 42) (q := (gt + (lst (J 150) 1 j).length)) d_Mo_read_41 (sh_162 n0) (i_in (show gt + (lst (J 150) 1 j).length < 64 by rw [lst_len]; omega) (by decide)) (i_tn (by rw [lst_len]; omega)) (rc_162) rfl ?_
    rw [u2_c _ _ _ (by decide), u21, ovw_step, ← lst_app, lst_len]
    refine b_aln (pc2 := 43) d_Mo_read_42 rfl rfl ?_
    refine b_pure (pc2 := 44) d_Mo_read_43 rfl rfl rfl ?_
    refine b_gi (pc2 := 47) d_Mo_read_44 q_11_262 (sh_130 n0) (by decide) (by decide) (rc_130) rfl ?_
    rw [u2_at]
    refine b_ic (pc2 := 48) (x := Int32.ofNat 1) d_Mo_read_47 rfl rfl ?_
    refine b_pure (pc2 := 49) d_Mo_read_48 rfl rfl rfl ?_
    rw [i_add]
    refine b_pi (pc2 := 52) d_Mo_read_49 q_11_262 (sh_130 n0) (by decide) (Or.inl (by decide)) (Or.inl rfl) (rc_130) rfl ?_
    rw [u2_u2, show gt + j + 1 = gt + (j + 1) by omega]
    refine b_inc (pc2 := 55) (al2 := [(1, _), (0, _)]) (y := Int32.ofNat 1) d_Mo_read_52 (by decide) rfl rfl rfl rfl ?_
    rw [i_add]
    refine b_go (pc2 := 2) d_Mo_read_55 rfl ?_
    refine b_nf (al := [(1, _), (0, _)]) (ks := [1, 0]) (sub_c rfl (sub_c rfl (sub_n))) rfl (by decide) ?_
    dsimp only
    exact ih (j + 1) (by omega)
theorem lp_rd_a {e : Nat} {n : Nat} (hn : J 130 27 = Int32.ofNat n) (hn20 : n ≤ 20) (hn1 : 1 ≤ n) {gt : Nat} (hg : J 130 52 = Int32.ofNat gt) (hgt : gt ≤ 16) (hop : J 130 45 = Int32.ofNat 3) (K : bH e (S0 n0) R0 mt_Mo_read Qh 58 [(0, .ref 130)] [] W (am_u2 (am_u1 J 162 (ovw gt (lst (J 150) 1 (min (n - 1) (16 - gt))) (J 162))) 130 52 (Int32.ofNat (gt + (min (n - 1) (16 - gt))))) g L 0 0) : ∀ (r j : Nat), j + r = (min (n - 1) (16 - gt)) → bH e (S0 n0) R0 mt_Mo_read Qh 2 [(1, .int (Int32.ofNat (1 + j))), (0, .ref 130)] [] W (am_u2 (am_u1 J 162 (ovw gt (lst (J 150) 1 j) (J 162))) 130 52 (Int32.ofNat (gt + j))) g L 0 0 := by
  intro r
  induction r with
  | zero =>
    intro j hj
    refine b_iln (pc2 := 3) d_Mo_read_2 rfl rfl ?_
    refine b_aln (pc2 := 4) d_Mo_read_3 rfl rfl ?_
    refine b_gi (pc2 := 7) d_Mo_read_4 q_11_174 (sh_130 n0) (by decide) (by decide) (rc_130) rfl ?_
    rw [u2_k _ _ (by decide), u1_ne _ _ (by decide), hn]
    refine b_ifd (pc2 := 58) d_Mo_read_7 rfl rfl rfl rfl rfl (fun h7 => ?_) (fun h7 => ?_)
    · rw [i_le (by omega) (by omega)] at h7
      refine b_nf (al := [(0, _)]) (ks := [0]) (sub_c rfl (sub_n)) rfl (by decide) ?_
      dsimp only
      rw [show j = (min (n - 1) (16 - gt)) by omega]
      exact K
    · rw [i_le (by omega) (by omega)] at h7
      refine b_aln (pc2 := 11) d_Mo_read_10 rfl rfl ?_
      refine b_gi (pc2 := 14) d_Mo_read_11 q_11_235 (sh_130 n0) (by decide) (by decide) (rc_130) rfl ?_
      rw [u2_k _ _ (by decide), u1_ne _ _ (by decide), hop]
      refine b_ic (pc2 := 15) (x := Int32.ofNat 2) d_Mo_read_14 rfl rfl ?_
      refine b_ifd (pc2 := 27) d_Mo_read_15 rfl rfl rfl rfl rfl (fun h15 => ?_) (fun h15 => ?_)
      · exact absurd h15 (by decide)
      refine b_aln (pc2 := 19) d_Mo_read_18 rfl rfl ?_
      refine b_gi (pc2 := 22) d_Mo_read_19 q_11_262 (sh_130 n0) (by decide) (by decide) (rc_130) rfl ?_
      rw [u2_at]
      refine b_bp (pc2 := 24) (x := Int32.ofNat 16) d_Mo_read_22 rfl rfl ?_
      refine b_ifd (pc2 := 58) d_Mo_read_24 rfl rfl rfl rfl rfl (fun h24 => ?_) (fun h24 => ?_)
      · rw [i_le (by omega) (by omega)] at h24
        refine b_nf (al := [(0, _)]) (ks := [0]) (sub_c rfl (sub_n)) rfl (by decide) ?_
        dsimp only
        rw [show j = (min (n - 1) (16 - gt)) by omega]
        exact K
      · rw [i_le (by omega) (by omega)] at h24
        omega
  | succ r ih =>
    intro j hj
    refine b_iln (pc2 := 3) d_Mo_read_2 rfl rfl ?_
    refine b_aln (pc2 := 4) d_Mo_read_3 rfl rfl ?_
    refine b_gi (pc2 := 7) d_Mo_read_4 q_11_174 (sh_130 n0) (by decide) (by decide) (rc_130) rfl ?_
    rw [u2_k _ _ (by decide), u1_ne _ _ (by decide), hn]
    refine b_ifd (pc2 := 58) d_Mo_read_7 rfl rfl rfl rfl rfl (fun h7 => ?_) (fun h7 => ?_)
    · exact absurd h7 (fun z => by rw [i_le (by omega) (by omega)] at z; omega)
    refine b_aln (pc2 := 11) d_Mo_read_10 rfl rfl ?_
    refine b_gi (pc2 := 14) d_Mo_read_11 q_11_235 (sh_130 n0) (by decide) (by decide) (rc_130) rfl ?_
    rw [u2_k _ _ (by decide), u1_ne _ _ (by decide), hop]
    refine b_ic (pc2 := 15) (x := Int32.ofNat 2) d_Mo_read_14 rfl rfl ?_
    refine b_ifd (pc2 := 27) d_Mo_read_15 rfl rfl rfl rfl rfl (fun h15 => ?_) (fun h15 => ?_)
    · exact absurd h15 (by decide)
    refine b_aln (pc2 := 19) d_Mo_read_18 rfl rfl ?_
    refine b_gi (pc2 := 22) d_Mo_read_19 q_11_262 (sh_130 n0) (by decide) (by decide) (rc_130) rfl ?_
    rw [u2_at]
    refine b_bp (pc2 := 24) (x := Int32.ofNat 16) d_Mo_read_22 rfl rfl ?_
    refine b_ifd (pc2 := 58) d_Mo_read_24 rfl rfl rfl rfl rfl (fun h24 => ?_) (fun h24 => ?_)
    · exact absurd h24 (fun z => by rw [i_le (by omega) (by omega)] at z; omega)
    refine b_aln (pc2 := 28) d_Mo_read_27 rfl rfl ?_
    refine b_gr (pc2 := 31) d_Mo_read_28 q_11_117 (sh_130 n0) (by decide) (by decide) (p_130_53 n0) rfl ?_
    refine b_aln (pc2 := 32) d_Mo_read_31 rfl rfl ?_
    refine b_gi (pc2 := 35) d_Mo_read_32 q_11_262 (sh_130 n0) (by decide) (by decide) (rc_130) rfl ?_
    rw [u2_at, show gt + j = gt + (lst (J 150) 1 j).length by rw [lst_len]]
    refine b_aln (pc2 := 36) d_Mo_read_35 rfl rfl ?_
    refine b_gr (pc2 := 39) d_Mo_read_36 q_11_72 (sh_130 n0) (by decide) (by decide) (p_130_28 n0) rfl ?_
    refine b_iln (pc2 := 40) d_Mo_read_39 rfl rfl ?_
    refine b_ia (pc2 := 41) (q := (1 + j)) d_Mo_read_40 (sh_150 n0) (i_in (show 1 + j < 24 by omega) (by decide)) (i_tn (by omega)) (rc_150) rfl ?_
    rw [u2_a _ _ (by decide), u1_ne _ _ (by decide)]
    refine b_ist (pc2 := 42) (q := (gt + (lst (J 150) 1 j).length)) d_Mo_read_41 (sh_162 n0) (i_in (show gt + (lst (J 150) 1 j).length < 64 by rw [lst_len]; omega) (by decide)) (i_tn (by rw [lst_len]; omega)) (rc_162) rfl ?_
    rw [u2_c _ _ _ (by decide), u21, ovw_step, ← lst_app, lst_len]
    refine b_aln (pc2 := 43) d_Mo_read_42 rfl rfl ?_
    refine b_pure (pc2 := 44) d_Mo_read_43 rfl rfl rfl ?_
    refine b_gi (pc2 := 47) d_Mo_read_44 q_11_262 (sh_130 n0) (by decide) (by decide) (rc_130) rfl ?_
    rw [u2_at]
    refine b_ic (pc2 := 48) (x := Int32.ofNat 1) d_Mo_read_47 rfl rfl ?_
    refine b_pure (pc2 := 49) d_Mo_read_48 rfl rfl rfl ?_
    rw [i_add]
    refine b_pi (pc2 := 52) d_Mo_read_49 q_11_262 (sh_130 n0) (by decide) (Or.inl (by decide)) (Or.inl rfl) (rc_130) rfl ?_
    rw [u2_u2, show gt + j + 1 = gt + (j + 1) by omega]
    refine b_inc (pc2 := 55) (al2 := [(1, _), (0, _)]) (y := Int32.ofNat 1) d_Mo_read_52 (by decide) rfl rfl rfl rfl ?_
    rw [i_add]
    refine b_go (pc2 := 2) d_Mo_read_55 rfl ?_
    refine b_nf (al := [(1, _), (0, _)]) (ks := [1, 0]) (sub_c rfl (sub_c rfl (sub_n))) rfl (by decide) ?_
    dsimp only
    exact ih (j + 1) (by omega)
theorem mo_read_r {d : Nat} (hd : 4 ≤ d) {n : Nat} (hn : J 130 27 = Int32.ofNat n) (hn20 : n ≤ 20) (hn1 : 1 ≤ n) {gt : Nat} (hg : J 130 52 = Int32.ofNat gt) (hgt : gt + n ≤ 64) (hop : J 130 45 = Int32.ofNat 2) : bm d (S0 n0) R0 157 [.ref 130] W J g L (bR none W (am_u2 (am_u2 (am_u2 (am_u1 J 162 (ovw gt (lst (J 150) 1 (n - 1)) (J 162))) 130 52 (Int32.ofNat (gt + (n - 1)))) 130 47 (Int32.ofNat 1)) 130 48 (Int32.ofNat 0)) g L) := by
  obtain ⟨e, rfl⟩ : ∃ e, d = e + 1 := ⟨d - 1, by omega⟩
  refine bm_of (Nat.le_of_ble_eq_true rfl) (Or.inr bR_ret) ?_
  show bT e (S0 n0) R0 mt_Mo_read _ 0 [(0, .ref 130)] [] W J g L 0 0
  have hSR := SR0 n0
  refine b_ic (pc2 := 1) (x := Int32.ofNat 1) d_Mo_read_0 rfl rfl ?_
  refine b_isn (pc2 := 2) (al2 := [(1, _), (0, _)]) d_Mo_read_1 (by decide) rfl rfl ?_
  refine b_nf (al := [(1, _), (0, _)]) (ks := [1, 0]) (sub_c rfl (sub_c rfl (sub_n))) rfl (by decide) ?_
  dsimp only
  refine (fun z => ?_ : _ → _) (lp_rd_r (n0 := n0) (W := W) (J := J) (g := g) (L := L) (e := e) (n := n) (gt := gt) (Qh := bw_Q (S0 n0) R0 (bR none W (am_u2 (am_u2 (am_u2 (am_u1 J 162 (ovw gt (lst (J 150) 1 (n - 1)) (J 162))) 130 52 (Int32.ofNat (gt + (n - 1)))) 130 47 (Int32.ofNat 1)) 130 48 (Int32.ofNat 0)) g L)) hn hn20 hn1 hg hgt hop ?_ (n - 1) 0 (by omega))
  · rw [show lst (J 150) 1 0 = [] from rfl, ovw_nil, u1_id, show gt + 0 = gt from rfl, ← hg, u2_id] at z
    exact z
  · refine b_aln (pc2 := 59) d_Mo_read_58 rfl rfl ?_
    refine b_gi (pc2 := 62) d_Mo_read_59 q_11_235 (sh_130 n0) (by decide) (by decide) (rc_130) rfl ?_
    rw [u2_k _ _ (by decide), u1_ne _ _ (by decide), hop]
    refine b_ic (pc2 := 63) (x := Int32.ofNat 2) d_Mo_read_62 rfl rfl ?_
    refine b_ifd (pc2 := 86) d_Mo_read_63 rfl rfl rfl rfl rfl (fun h63 => ?_) (fun h63 => ?_)
    rotate_left
    · exact absurd (by decide) h63
    refine b_aln (pc2 := 87) d_Mo_read_86 rfl rfl ?_
    refine b_ic (pc2 := 88) (x := Int32.ofNat 1) d_Mo_read_87 rfl rfl ?_
    refine b_ic (pc2 := 89) (x := Int32.ofNat 0) d_Mo_read_88 rfl rfl ?_
    refine b_cv0 (pc2 := 92) (c2 := 0) (u2 := 0) (mo_end (by omega)) d_Mo_read_89 q_11_247 (Nat.le_of_ble_eq_true rfl) rfl rfl (sh_130 n0) (Nat.le_of_ble_eq_true rfl) rfl rfl (by decide) (by decide) rfl ?_
    refine b_vr d_Mo_read_92 rfl ?_
    exact ⟨rfl, rfl, rfl, rfl, rfl⟩
theorem mo_read_e {d : Nat} (hd : 4 ≤ d) {n : Nat} (hn : J 130 27 = Int32.ofNat n) (hn20 : n ≤ 20) (hn1 : 1 ≤ n) {gt : Nat} (hg : J 130 52 = Int32.ofNat gt) (hgt : gt ≤ 16) (hop : J 130 45 = Int32.ofNat 3) {lm : Nat} (hlm : J 130 44 = Int32.ofNat lm) (hl2 : lm ≤ 20) (hx : ¬ n = lm ∨ 16 ≤ gt + (min (n - 1) (16 - gt))) : bm d (S0 n0) R0 157 [.ref 130] W J g L (bR none W (am_u2 (am_u2 (am_u2 (am_u1 J 162 (ovw gt (lst (J 150) 1 (min (n - 1) (16 - gt))) (J 162))) 130 52 (Int32.ofNat (gt + (min (n - 1) (16 - gt))))) 130 47 (Int32.ofNat 1)) 130 48 (Int32.ofNat 0)) g L) := by
  obtain ⟨e, rfl⟩ : ∃ e, d = e + 1 := ⟨d - 1, by omega⟩
  refine bm_of (Nat.le_of_ble_eq_true rfl) (Or.inr bR_ret) ?_
  show bT e (S0 n0) R0 mt_Mo_read _ 0 [(0, .ref 130)] [] W J g L 0 0
  have hSR := SR0 n0
  refine b_ic (pc2 := 1) (x := Int32.ofNat 1) d_Mo_read_0 rfl rfl ?_
  refine b_isn (pc2 := 2) (al2 := [(1, _), (0, _)]) d_Mo_read_1 (by decide) rfl rfl ?_
  refine b_nf (al := [(1, _), (0, _)]) (ks := [1, 0]) (sub_c rfl (sub_c rfl (sub_n))) rfl (by decide) ?_
  dsimp only
  refine (fun z => ?_ : _ → _) (lp_rd_a (n0 := n0) (W := W) (J := J) (g := g) (L := L) (e := e) (n := n) (gt := gt) (Qh := bw_Q (S0 n0) R0 (bR none W (am_u2 (am_u2 (am_u2 (am_u1 J 162 (ovw gt (lst (J 150) 1 (min (n - 1) (16 - gt))) (J 162))) 130 52 (Int32.ofNat (gt + (min (n - 1) (16 - gt))))) 130 47 (Int32.ofNat 1)) 130 48 (Int32.ofNat 0)) g L)) hn hn20 hn1 hg hgt hop ?_ (min (n - 1) (16 - gt)) 0 (by omega))
  · rw [show lst (J 150) 1 0 = [] from rfl, ovw_nil, u1_id, show gt + 0 = gt from rfl, ← hg, u2_id] at z
    exact z
  · refine b_aln (pc2 := 59) d_Mo_read_58 rfl rfl ?_
    refine b_gi (pc2 := 62) d_Mo_read_59 q_11_235 (sh_130 n0) (by decide) (by decide) (rc_130) rfl ?_
    rw [u2_k _ _ (by decide), u1_ne _ _ (by decide), hop]
    refine b_ic (pc2 := 63) (x := Int32.ofNat 2) d_Mo_read_62 rfl rfl ?_
    refine b_ifd (pc2 := 86) d_Mo_read_63 rfl rfl rfl rfl rfl (fun h63 => ?_) (fun h63 => ?_)
    · exact absurd h63 (by decide)
    refine b_aln (pc2 := 67) d_Mo_read_66 rfl rfl ?_
    refine b_gi (pc2 := 70) d_Mo_read_67 q_11_174 (sh_130 n0) (by decide) (by decide) (rc_130) rfl ?_
    rw [u2_k _ _ (by decide), u1_ne _ _ (by decide), hn]
    refine b_aln (pc2 := 71) d_Mo_read_70 rfl rfl ?_
    refine b_gi (pc2 := 74) d_Mo_read_71 q_11_108 (sh_130 n0) (by decide) (by decide) (rc_130) rfl ?_
    rw [u2_k _ _ (by decide), u1_ne _ _ (by decide), hlm]
    refine b_ifd (pc2 := 86) d_Mo_read_74 rfl rfl rfl rfl rfl (fun h74 => ?_) (fun h74 => ?_)
    · rw [i_eq (by omega) (by omega)] at h74
      refine b_aln (pc2 := 87) d_Mo_read_86 rfl rfl ?_
      refine b_ic (pc2 := 88) (x := Int32.ofNat 1) d_Mo_read_87 rfl rfl ?_
      refine b_ic (pc2 := 89) (x := Int32.ofNat 0) d_Mo_read_88 rfl rfl ?_
      refine b_cv0 (pc2 := 92) (c2 := 0) (u2 := 0) (mo_end (by omega)) d_Mo_read_89 q_11_247 (Nat.le_of_ble_eq_true rfl) rfl rfl (sh_130 n0) (Nat.le_of_ble_eq_true rfl) rfl rfl (by decide) (by decide) rfl ?_
      refine b_vr d_Mo_read_92 rfl ?_
      exact ⟨rfl, rfl, rfl, rfl, rfl⟩
    · rw [i_eq (by omega) (by omega)] at h74
      refine b_aln (pc2 := 78) d_Mo_read_77 rfl rfl ?_
      refine b_gi (pc2 := 81) d_Mo_read_78 q_11_262 (sh_130 n0) (by decide) (by decide) (rc_130) rfl ?_
      rw [u2_at]
      refine b_bp (pc2 := 83) (x := Int32.ofNat 16) d_Mo_read_81 rfl rfl ?_
      refine b_ifd (pc2 := 93) d_Mo_read_83 rfl rfl rfl rfl rfl (fun h83 => ?_) (fun h83 => ?_)
      · rw [i_lt (by omega) (by omega)] at h83
        omega
      · rw [i_lt (by omega) (by omega)] at h83
        refine b_aln (pc2 := 87) d_Mo_read_86 rfl rfl ?_
        refine b_ic (pc2 := 88) (x := Int32.ofNat 1) d_Mo_read_87 rfl rfl ?_
        refine b_ic (pc2 := 89) (x := Int32.ofNat 0) d_Mo_read_88 rfl rfl ?_
        refine b_cv0 (pc2 := 92) (c2 := 0) (u2 := 0) (mo_end (by omega)) d_Mo_read_89 q_11_247 (Nat.le_of_ble_eq_true rfl) rfl rfl (sh_130 n0) (Nat.le_of_ble_eq_true rfl) rfl rfl (by decide) (by decide) rfl ?_
        refine b_vr d_Mo_read_92 rfl ?_
        exact ⟨rfl, rfl, rfl, rfl, rfl⟩
theorem mo_read_g {d : Nat} (hd : 4 ≤ d) {n : Nat} (hn : J 130 27 = Int32.ofNat n) (hn20 : n ≤ 20) (hn1 : 1 ≤ n) {gt : Nat} (hg : J 130 52 = Int32.ofNat gt) (hgt : gt ≤ 16) (hop : J 130 45 = Int32.ofNat 3) {lm : Nat} (hlm : J 130 44 = Int32.ofNat lm) (hl2 : lm ≤ 20) (hx : n = lm) (hx2 : gt + (min (n - 1) (16 - gt)) < 16) {ab : Nat} (hab : J 130 46 = Int32.ofNat ab) (hab2 : ab < 256) (hA : ∀ e, 2 ≤ e → bm e (S0 n0) R0 139 [.ref 130] W (mkJ (am_u2 (am_u1 J 162 (ovw gt (lst (J 150) 1 (min (n - 1) (16 - gt))) (J 162))) 130 52 (Int32.ofNat (gt + (min (n - 1) (16 - gt))))) [Int32.ofNat 12, Int32.ofNat ab, Int32.ofNat (gt + (min (n - 1) (16 - gt)))]) g L (bR none W J1 g L)) : bm d (S0 n0) R0 157 [.ref 130] W J g L (bR none W J1 g L) := by
  obtain ⟨e, rfl⟩ : ∃ e, d = e + 1 := ⟨d - 1, by omega⟩
  refine bm_of (Nat.le_of_ble_eq_true rfl) (Or.inr bR_ret) ?_
  show bT e (S0 n0) R0 mt_Mo_read _ 0 [(0, .ref 130)] [] W J g L 0 0
  have hSR := SR0 n0
  refine b_ic (pc2 := 1) (x := Int32.ofNat 1) d_Mo_read_0 rfl rfl ?_
  refine b_isn (pc2 := 2) (al2 := [(1, _), (0, _)]) d_Mo_read_1 (by decide) rfl rfl ?_
  refine b_nf (al := [(1, _), (0, _)]) (ks := [1, 0]) (sub_c rfl (sub_c rfl (sub_n))) rfl (by decide) ?_
  dsimp only
  refine (fun z => ?_ : _ → _) (lp_rd_a (n0 := n0) (W := W) (J := J) (g := g) (L := L) (e := e) (n := n) (gt := gt) (Qh := bw_Q (S0 n0) R0 (bR none W J1 g L)) hn hn20 hn1 hg hgt hop ?_ (min (n - 1) (16 - gt)) 0 (by omega))
  · rw [show lst (J 150) 1 0 = [] from rfl, ovw_nil, u1_id, show gt + 0 = gt from rfl, ← hg, u2_id] at z
    exact z
  · refine b_aln (pc2 := 59) d_Mo_read_58 rfl rfl ?_
    refine b_gi (pc2 := 62) d_Mo_read_59 q_11_235 (sh_130 n0) (by decide) (by decide) (rc_130) rfl ?_
    rw [u2_k _ _ (by decide), u1_ne _ _ (by decide), hop]
    refine b_ic (pc2 := 63) (x := Int32.ofNat 2) d_Mo_read_62 rfl rfl ?_
    refine b_ifd (pc2 := 86) d_Mo_read_63 rfl rfl rfl rfl rfl (fun h63 => ?_) (fun h63 => ?_)
    · exact absurd h63 (by decide)
    refine b_aln (pc2 := 67) d_Mo_read_66 rfl rfl ?_
    refine b_gi (pc2 := 70) d_Mo_read_67 q_11_174 (sh_130 n0) (by decide) (by decide) (rc_130) rfl ?_
    rw [u2_k _ _ (by decide), u1_ne _ _ (by decide), hn]
    refine b_aln (pc2 := 71) d_Mo_read_70 rfl rfl ?_
    refine b_gi (pc2 := 74) d_Mo_read_71 q_11_108 (sh_130 n0) (by decide) (by decide) (rc_130) rfl ?_
    rw [u2_k _ _ (by decide), u1_ne _ _ (by decide), hlm]
    refine b_ifd (pc2 := 86) d_Mo_read_74 rfl rfl rfl rfl rfl (fun h74 => ?_) (fun h74 => ?_)
    · rw [i_eq (by omega) (by omega)] at h74
      omega
    · rw [i_eq (by omega) (by omega)] at h74
      refine b_aln (pc2 := 78) d_Mo_read_77 rfl rfl ?_
      refine b_gi (pc2 := 81) d_Mo_read_78 q_11_262 (sh_130 n0) (by decide) (by decide) (rc_130) rfl ?_
      rw [u2_at]
      refine b_bp (pc2 := 83) (x := Int32.ofNat 16) d_Mo_read_81 rfl rfl ?_
      refine b_ifd (pc2 := 93) d_Mo_read_83 rfl rfl rfl rfl rfl (fun h83 => ?_) (fun h83 => ?_)
      · rw [i_lt (by omega) (by omega)] at h83
        refine b_aln (pc2 := 94) d_Mo_read_93 rfl rfl ?_
        refine b_bp (pc2 := 96) (x := Int32.ofNat 12) d_Mo_read_94 rfl rfl ?_
        refine b_cv0 (pc2 := 99) (c2 := 0) (u2 := 0) (mo_start (by omega)) d_Mo_read_96 q_11_183 (Nat.le_of_ble_eq_true rfl) rfl rfl (sh_130 n0) (Nat.le_of_ble_eq_true rfl) rfl rfl (by decide) (by decide) rfl ?_
        rw [show Int32.ofNat 12 &&& 255 = Int32.ofNat 12 from rfl]
        refine b_aln (pc2 := 100) d_Mo_read_99 rfl rfl ?_
        refine b_aln (pc2 := 101) d_Mo_read_100 rfl rfl ?_
        refine b_gi (pc2 := 104) d_Mo_read_101 q_11_265 (sh_130 n0) (by decide) (by decide) (rc_130) rfl ?_
        rw [mkJ_f _ _ (by decide), u2_k _ _ (by decide), u1_ne _ _ (by decide), hab]
        refine b_cv0 (pc2 := 107) (c2 := 0) (u2 := 0) (mo_lay (by omega) (by show 1 < 40; decide)) d_Mo_read_104 q_11_186 (Nat.le_of_ble_eq_true rfl) rfl rfl (sh_130 n0) (Nat.le_of_ble_eq_true rfl) rfl rfl (by decide) (by decide) rfl ?_
        rw [b255 (by omega)]
        refine b_aln (pc2 := 108) d_Mo_read_107 rfl rfl ?_
        refine b_aln (pc2 := 109) d_Mo_read_108 rfl rfl ?_
        refine b_gi (pc2 := 112) d_Mo_read_109 q_11_262 (sh_130 n0) (by decide) (by decide) (rc_130) rfl ?_
        rw [mkJ_f _ _ (by decide), u2_at]
        refine b_cv0 (pc2 := 115) (c2 := 0) (u2 := 0) (mo_lay (by omega) (by show 2 < 40; decide)) d_Mo_read_112 q_11_186 (Nat.le_of_ble_eq_true rfl) rfl rfl (sh_130 n0) (Nat.le_of_ble_eq_true rfl) rfl rfl (by decide) (by decide) rfl ?_
        rw [b255 (by omega)]
        refine b_aln (pc2 := 116) d_Mo_read_115 rfl rfl ?_
        refine b_cv0 (pc2 := 119) (c2 := 0) (u2 := 0) (hA e (by omega)) d_Mo_read_116 q_11_268 (Nat.le_of_ble_eq_true rfl) rfl rfl (sh_130 n0) (Nat.le_of_ble_eq_true rfl) rfl rfl (by decide) (by decide) rfl ?_
        refine b_vr d_Mo_read_119 rfl ?_
        exact ⟨rfl, rfl, rfl, rfl, rfl⟩
      · rw [i_lt (by omega) (by omega)] at h83
        omega
end MC
