/-! Part 93 (written by gen44.py): the reference: written, answered -/
def sameV (f h : Nat → Int32) : Nat → Nat → Nat
  | _, 0 => 1
  | k, r + 1 => if f k = h k then sameV f h (k + 1) r else 0
section MW
variable {n0 : Nat} {W : bw_W} {J : bw_J} {g : Nat} {L : bw_L}
variable {J1 : bw_J} {Qh : am_O → am_H → Prop}
theorem lp_wr {e : Nat} {n : Nat} (hn : J 130 27 = Int32.ofNat n) (hn20 : n ≤ 20) : ∀ (r j : Nat), 1 + j + r = n → bH e (S0 n0) R0 mt_Mo_written Qh 102 [(1, .int (Int32.ofNat (sameV (J 150) (J 161) (1 + j) r))), (0, .ref 130)] [] W J g L 0 0 → bH e (S0 n0) R0 mt_Mo_written Qh 63 [(2, .int (Int32.ofNat (1 + j))), (1, .int (Int32.ofNat 1)), (0, .ref 130)] [] W J g L 0 0 := by
  intro r
  induction r with
  | zero =>
    intro j hj K
    refine b_iln (pc2 := 64) d_Mo_written_63 rfl rfl ?_
    refine b_aln (pc2 := 65) d_Mo_written_64 rfl rfl ?_
    refine b_gi (pc2 := 68) d_Mo_written_65 q_11_174 (sh_130 n0) (by decide) (by decide) (rc_130) rfl ?_
    rw [hn]
    refine b_ifd (pc2 := 102) d_Mo_written_68 rfl rfl rfl rfl rfl (fun h68 => ?_) (fun h68 => ?_)
    rotate_left
    · exact absurd (by rw [i_le (by omega) (by omega)]; omega) h68
    refine b_nf (al := [(1, _), (0, _)]) (ks := [1, 0]) (sub_c rfl (sub_c rfl (sub_n))) rfl (by decide) ?_
    dsimp only
    exact K
  | succ r ih =>
    intro j hj K
    unfold sameV at K
    refine b_iln (pc2 := 64) d_Mo_written_63 rfl rfl ?_
    refine b_aln (pc2 := 65) d_Mo_written_64 rfl rfl ?_
    refine b_gi (pc2 := 68) d_Mo_written_65 q_11_174 (sh_130 n0) (by decide) (by decide) (rc_130) rfl ?_
    rw [hn]
    refine b_ifd (pc2 := 102) d_Mo_written_68 rfl rfl rfl rfl rfl (fun h68 => ?_) (fun h68 => ?_)
    · exact absurd h68 (fun z => by rw [i_le (by omega) (by omega)] at z; omega)
    refine b_iln (pc2 := 72) d_Mo_written_71 rfl rfl ?_
    refine b_ifd (pc2 := 102) d_Mo_written_72 rfl rfl rfl rfl rfl (fun h72 => ?_) (fun h72 => ?_)
    · exact absurd h72 (by decide)
    refine b_aln (pc2 := 76) d_Mo_written_75 rfl rfl ?_
    refine b_gr (pc2 := 79) d_Mo_written_76 q_11_72 (sh_130 n0) (by decide) (by decide) (p_130_28 n0) rfl ?_
    refine b_iln (pc2 := 80) d_Mo_written_79 rfl rfl ?_
    refine b_ia (pc2 := 81) (q := (1 + j)) d_Mo_written_80 (sh_150 n0) (i_in (show 1 + j < 24 by omega) (by decide)) (i_tn (by omega)) (rc_150) rfl ?_
    refine b_aln (pc2 := 82) d_Mo_written_81 rfl rfl ?_
    refine b_gr (pc2 := 85) d_Mo_written_82 q_11_114 (sh_130 n0) (by decide) (by decide) (p_130_51 n0) rfl ?_
    refine b_iln (pc2 := 86) d_Mo_written_85 rfl rfl ?_
    refine b_ia (pc2 := 87) (q := (1 + j)) d_Mo_written_86 (sh_161 n0) (i_in (show 1 + j < 24 by omega) (by decide)) (i_tn (by omega)) (rc_161) rfl ?_
    refine b_ifd (pc2 := 94) d_Mo_written_87 rfl rfl rfl rfl rfl (fun h87 => ?_) (fun h87 => ?_)
    · refine b_ic (pc2 := 95) (x := Int32.ofNat 0) d_Mo_written_94 rfl rfl ?_
      refine b_isn (pc2 := 96) (al2 := [(1, _), (2, _), (0, _)]) d_Mo_written_95 (by decide) rfl rfl ?_
      refine b_inc (pc2 := 99) (al2 := [(2, _), (1, _), (0, _)]) (y := Int32.ofNat 1) d_Mo_written_96 (by decide) rfl rfl rfl rfl ?_
      rw [i_add]
      refine b_go (pc2 := 63) d_Mo_written_99 rfl ?_
      refine b_iln (pc2 := 64) d_Mo_written_63 rfl rfl ?_
      refine b_aln (pc2 := 65) d_Mo_written_64 rfl rfl ?_
      refine b_gi (pc2 := 68) d_Mo_written_65 q_11_174 (sh_130 n0) (by decide) (by decide) (rc_130) rfl ?_
      rw [hn]
      refine b_ifd (pc2 := 102) d_Mo_written_68 rfl rfl rfl rfl rfl (fun h68 => ?_) (fun h68 => ?_)
      · rw [i_le (by omega) (by omega)] at h68
        refine b_nf (al := [(1, _), (0, _)]) (ks := [1, 0]) (sub_c rfl (sub_c rfl (sub_n))) rfl (by decide) ?_
        dsimp only
        rw [if_neg h87] at K
        exact K
      · rw [i_le (by omega) (by omega)] at h68
        refine b_iln (pc2 := 72) d_Mo_written_71 rfl rfl ?_
        refine b_ifd (pc2 := 102) d_Mo_written_72 rfl rfl rfl rfl rfl (fun h72 => ?_) (fun h72 => ?_)
        rotate_left
        · exact absurd (by decide) h72
        refine b_nf (al := [(1, _), (0, _)]) (ks := [1, 0]) (sub_c rfl (sub_c rfl (sub_n))) rfl (by decide) ?_
        dsimp only
        rw [if_neg h87] at K
        exact K
    · refine b_ic (pc2 := 91) (x := Int32.ofNat 1) d_Mo_written_90 rfl rfl ?_
      refine b_go (pc2 := 95) d_Mo_written_91 rfl ?_
      refine b_isn (pc2 := 96) (al2 := [(1, _), (2, _), (0, _)]) d_Mo_written_95 (by decide) rfl rfl ?_
      refine b_inc (pc2 := 99) (al2 := [(2, _), (1, _), (0, _)]) (y := Int32.ofNat 1) d_Mo_written_96 (by decide) rfl rfl rfl rfl ?_
      rw [i_add]
      refine b_go (pc2 := 63) d_Mo_written_99 rfl ?_
      refine b_nf (al := [(2, _), (1, _), (0, _)]) (ks := [2, 1, 0]) (sub_c rfl (sub_c rfl (sub_c rfl (sub_n)))) rfl (by decide) ?_
      dsimp only
      rw [if_pos (Classical.not_not.mp h87)] at K
      exact ih (j + 1) (by omega) K
theorem lp_wr0 {e : Nat} {n : Nat} (hn : J 130 27 = Int32.ofNat n) (hn20 : n ≤ 20) (hn1 : 1 ≤ n) {aq sv : Nat} (haq : J 130 50 = Int32.ofNat aq) (haq2 : aq ≤ 20) (hsv : sv = if n = aq then sameV (J 150) (J 161) 1 (n - 1) else 0) (K : bH e (S0 n0) R0 mt_Mo_written Qh 102 [(1, .int (Int32.ofNat sv)), (0, .ref 130)] [] W J g L 0 0) : bH e (S0 n0) R0 mt_Mo_written Qh 44 [(0, .ref 130)] [] W J g L 0 0 := by
  refine b_aln (pc2 := 45) d_Mo_written_44 rfl rfl ?_
  refine b_gi (pc2 := 48) d_Mo_written_45 q_11_174 (sh_130 n0) (by decide) (by decide) (rc_130) rfl ?_
  rw [hn]
  refine b_aln (pc2 := 49) d_Mo_written_48 rfl rfl ?_
  refine b_gi (pc2 := 52) d_Mo_written_49 q_11_146 (sh_130 n0) (by decide) (by decide) (rc_130) rfl ?_
  rw [haq]
  refine b_ifd (pc2 := 59) d_Mo_written_52 rfl rfl rfl rfl rfl (fun h52 => ?_) (fun h52 => ?_)
  · rw [i_eq (by omega) (by omega)] at h52
    refine b_ic (pc2 := 60) (x := Int32.ofNat 0) d_Mo_written_59 rfl rfl ?_
    refine b_isn (pc2 := 61) (al2 := [(1, _), (0, _)]) d_Mo_written_60 (by decide) rfl rfl ?_
    refine b_ic (pc2 := 62) (x := Int32.ofNat 1) d_Mo_written_61 rfl rfl ?_
    refine b_isn (pc2 := 63) (al2 := [(2, _), (1, _), (0, _)]) d_Mo_written_62 (by decide) rfl rfl ?_
    rw [if_neg h52] at hsv
    subst hsv
    refine b_iln (pc2 := 64) d_Mo_written_63 rfl rfl ?_
    refine b_aln (pc2 := 65) d_Mo_written_64 rfl rfl ?_
    refine b_gi (pc2 := 68) d_Mo_written_65 q_11_174 (sh_130 n0) (by decide) (by decide) (rc_130) rfl ?_
    rw [hn]
    refine b_ifd (pc2 := 102) d_Mo_written_68 rfl rfl rfl rfl rfl (fun h68 => ?_) (fun h68 => ?_)
    · rw [i_le (by omega) (by omega)] at h68
      refine b_nf (al := [(1, _), (0, _)]) (ks := [1, 0]) (sub_c rfl (sub_c rfl (sub_n))) rfl (by decide) ?_
      dsimp only
      exact K
    · rw [i_le (by omega) (by omega)] at h68
      refine b_iln (pc2 := 72) d_Mo_written_71 rfl rfl ?_
      refine b_ifd (pc2 := 102) d_Mo_written_72 rfl rfl rfl rfl rfl (fun h72 => ?_) (fun h72 => ?_)
      rotate_left
      · exact absurd (by decide) h72
      refine b_nf (al := [(1, _), (0, _)]) (ks := [1, 0]) (sub_c rfl (sub_c rfl (sub_n))) rfl (by decide) ?_
      dsimp only
      exact K
  · rw [i_eq (by omega) (by omega)] at h52
    refine b_ic (pc2 := 56) (x := Int32.ofNat 1) d_Mo_written_55 rfl rfl ?_
    refine b_go (pc2 := 60) d_Mo_written_56 rfl ?_
    refine b_isn (pc2 := 61) (al2 := [(1, _), (0, _)]) d_Mo_written_60 (by decide) rfl rfl ?_
    refine b_ic (pc2 := 62) (x := Int32.ofNat 1) d_Mo_written_61 rfl rfl ?_
    refine b_isn (pc2 := 63) (al2 := [(2, _), (1, _), (0, _)]) d_Mo_written_62 (by decide) rfl rfl ?_
    refine b_nf (al := [(2, _), (1, _), (0, _)]) (ks := [2, 1, 0]) (sub_c rfl (sub_c rfl (sub_c rfl (sub_n)))) rfl (by decide) ?_
    dsimp only
    rw [if_pos (by omega)] at hsv
    subst hsv
    exact lp_wr hn hn20 (n - 1) 0 (by omega) K
theorem mo_wr_s {d : Nat} (hd : 4 ≤ d) (hsp : J 130 57 = Int32.ofNat 1) : bm d (S0 n0) R0 159 [.ref 130] W J g L (bR none W (am_u2 (am_u2 J 130 47 (Int32.ofNat 2)) 130 48 (Int32.ofNat 14)) g L) := by
  obtain ⟨e, rfl⟩ : ∃ e, d = e + 1 := ⟨d - 1, by omega⟩
  refine bm_of (Nat.le_of_ble_eq_true rfl) (Or.inr bR_ret) ?_
  show bT e (S0 n0) R0 mt_Mo_written _ 0 [(0, .ref 130)] [] W J g L 0 0
  have hSR := SR0 n0
  refine b_aln (pc2 := 1) d_Mo_written_0 rfl rfl ?_
  refine b_gi (pc2 := 4) d_Mo_written_1 q_11_244 (sh_130 n0) (by decide) (by decide) (rc_130) rfl ?_
  rw [hsp]
  refine b_ifd (pc2 := 14) d_Mo_written_4 rfl rfl rfl rfl rfl (fun h4 => ?_) (fun h4 => ?_)
  rotate_left
  · exact absurd (by decide) h4
  refine b_aln (pc2 := 15) d_Mo_written_14 rfl rfl ?_
  refine b_aln (pc2 := 16) d_Mo_written_15 rfl rfl ?_
  refine b_gi (pc2 := 19) d_Mo_written_16 q_11_244 (sh_130 n0) (by decide) (by decide) (rc_130) rfl ?_
  rw [hsp]
  refine b_ifd (pc2 := 26) d_Mo_written_19 rfl rfl rfl rfl rfl (fun h19 => ?_) (fun h19 => ?_)
  · exact absurd h19 (by decide)
  refine b_ic (pc2 := 23) (x := Int32.ofNat 2) d_Mo_written_22 rfl rfl ?_
  refine b_go (pc2 := 27) d_Mo_written_23 rfl ?_
  refine b_aln (pc2 := 28) d_Mo_written_27 rfl rfl ?_
  refine b_gi (pc2 := 31) d_Mo_written_28 q_11_244 (sh_130 n0) (by decide) (by decide) (rc_130) rfl ?_
  rw [hsp]
  refine b_ifd (pc2 := 39) d_Mo_written_31 rfl rfl rfl rfl rfl (fun h31 => ?_) (fun h31 => ?_)
  · exact absurd h31 (by decide)
  refine b_bp (pc2 := 36) (x := Int32.ofNat 14) d_Mo_written_34 rfl rfl ?_
  refine b_go (pc2 := 40) d_Mo_written_36 rfl ?_
  refine b_cv0 (pc2 := 43) (c2 := 0) (u2 := 0) (mo_end (by omega)) d_Mo_written_40 q_11_247 (Nat.le_of_ble_eq_true rfl) rfl rfl (sh_130 n0) (Nat.le_of_ble_eq_true rfl) rfl rfl (by decide) (by decide) rfl ?_
  refine b_vr d_Mo_written_43 rfl ?_
  exact ⟨rfl, rfl, rfl, rfl, rfl⟩
theorem mo_wr_f {d : Nat} (hd : 4 ≤ d) (hsp : J 130 57 = Int32.ofNat 0) (hfi : J 130 58 = Int32.ofNat 1) : bm d (S0 n0) R0 159 [.ref 130] W J g L (bR none W (am_u2 (am_u2 J 130 47 (Int32.ofNat 1)) 130 48 (Int32.ofNat 0)) g L) := by
  obtain ⟨e, rfl⟩ : ∃ e, d = e + 1 := ⟨d - 1, by omega⟩
  refine bm_of (Nat.le_of_ble_eq_true rfl) (Or.inr bR_ret) ?_
  show bT e (S0 n0) R0 mt_Mo_written _ 0 [(0, .ref 130)] [] W J g L 0 0
  have hSR := SR0 n0
  refine b_aln (pc2 := 1) d_Mo_written_0 rfl rfl ?_
  refine b_gi (pc2 := 4) d_Mo_written_1 q_11_244 (sh_130 n0) (by decide) (by decide) (rc_130) rfl ?_
  rw [hsp]
  refine b_ifd (pc2 := 14) d_Mo_written_4 rfl rfl rfl rfl rfl (fun h4 => ?_) (fun h4 => ?_)
  · exact absurd h4 (by decide)
  refine b_aln (pc2 := 8) d_Mo_written_7 rfl rfl ?_
  refine b_gi (pc2 := 11) d_Mo_written_8 q_11_277 (sh_130 n0) (by decide) (by decide) (rc_130) rfl ?_
  rw [hfi]
  refine b_ifd (pc2 := 44) d_Mo_written_11 rfl rfl rfl rfl rfl (fun h11 => ?_) (fun h11 => ?_)
  · exact absurd h11 (by decide)
  refine b_aln (pc2 := 15) d_Mo_written_14 rfl rfl ?_
  refine b_aln (pc2 := 16) d_Mo_written_15 rfl rfl ?_
  refine b_gi (pc2 := 19) d_Mo_written_16 q_11_244 (sh_130 n0) (by decide) (by decide) (rc_130) rfl ?_
  rw [hsp]
  refine b_ifd (pc2 := 26) d_Mo_written_19 rfl rfl rfl rfl rfl (fun h19 => ?_) (fun h19 => ?_)
  rotate_left
  · exact absurd (by decide) h19
  refine b_ic (pc2 := 27) (x := Int32.ofNat 1) d_Mo_written_26 rfl rfl ?_
  refine b_aln (pc2 := 28) d_Mo_written_27 rfl rfl ?_
  refine b_gi (pc2 := 31) d_Mo_written_28 q_11_244 (sh_130 n0) (by decide) (by decide) (rc_130) rfl ?_
  rw [hsp]
  refine b_ifd (pc2 := 39) d_Mo_written_31 rfl rfl rfl rfl rfl (fun h31 => ?_) (fun h31 => ?_)
  rotate_left
  · exact absurd (by decide) h31
  refine b_ic (pc2 := 40) (x := Int32.ofNat 0) d_Mo_written_39 rfl rfl ?_
  refine b_cv0 (pc2 := 43) (c2 := 0) (u2 := 0) (mo_end (by omega)) d_Mo_written_40 q_11_247 (Nat.le_of_ble_eq_true rfl) rfl rfl (sh_130 n0) (Nat.le_of_ble_eq_true rfl) rfl rfl (by decide) (by decide) rfl ?_
  refine b_vr d_Mo_written_43 rfl ?_
  exact ⟨rfl, rfl, rfl, rfl, rfl⟩
theorem mo_wr_w {d : Nat} (hd : 4 ≤ d) (hsp : J 130 57 = Int32.ofNat 0) (hfi : J 130 58 = Int32.ofNat 0) {n : Nat} (hn : J 130 27 = Int32.ofNat n) (hn20 : n ≤ 20) (hn1 : 1 ≤ n) {aq sv : Nat} (haq : J 130 50 = Int32.ofNat aq) (haq2 : aq ≤ 20) (hsv : sv = if n = aq then sameV (J 150) (J 161) 1 (n - 1) else 0) {wp ws lm : Nat} (hwp : J 130 55 = Int32.ofNat wp) (hwp2 : wp < 100) (hws : J 130 54 = Int32.ofNat ws) (hws8 : ws ≤ 8) (hlm : J 130 44 = Int32.ofNat lm) (hl1 : 8 ≤ lm) (hl2 : lm ≤ 20) (hsv1 : sv = 1) (hx : wp + lm - 3 < ws) (hA : ∀ e, 3 ≤ e → bm e (S0 n0) R0 141 [.ref 130] W (am_u2 J 130 55 (Int32.ofNat (wp + lm - 3))) g L (bR none W J1 g L)) : bm d (S0 n0) R0 159 [.ref 130] W J g L (bR none W J1 g L) := by
  obtain ⟨e, rfl⟩ : ∃ e, d = e + 1 := ⟨d - 1, by omega⟩
  refine bm_of (Nat.le_of_ble_eq_true rfl) (Or.inr bR_ret) ?_
  show bT e (S0 n0) R0 mt_Mo_written _ 0 [(0, .ref 130)] [] W J g L 0 0
  have hSR := SR0 n0
  refine b_aln (pc2 := 1) d_Mo_written_0 rfl rfl ?_
  refine b_gi (pc2 := 4) d_Mo_written_1 q_11_244 (sh_130 n0) (by decide) (by decide) (rc_130) rfl ?_
  rw [hsp]
  refine b_ifd (pc2 := 14) d_Mo_written_4 rfl rfl rfl rfl rfl (fun h4 => ?_) (fun h4 => ?_)
  · exact absurd h4 (by decide)
  refine b_aln (pc2 := 8) d_Mo_written_7 rfl rfl ?_
  refine b_gi (pc2 := 11) d_Mo_written_8 q_11_277 (sh_130 n0) (by decide) (by decide) (rc_130) rfl ?_
  rw [hfi]
  refine b_ifd (pc2 := 44) d_Mo_written_11 rfl rfl rfl rfl rfl (fun h11 => ?_) (fun h11 => ?_)
  rotate_left
  · exact absurd (by decide) h11
  refine b_nf (al := [(0, _)]) (ks := [0]) (sub_c rfl (sub_n)) rfl (by decide) ?_
  dsimp only
  refine lp_wr0 (n := n) (aq := aq) (sv := sv) hn hn20 hn1 haq haq2 hsv ?_
  subst hsv1
  refine b_aln (pc2 := 103) d_Mo_written_102 rfl rfl ?_
  refine b_aln (pc2 := 104) d_Mo_written_103 rfl rfl ?_
  refine b_gi (pc2 := 107) d_Mo_written_104 q_11_271 (sh_130 n0) (by decide) (by decide) (rc_130) rfl ?_
  rw [hwp]
  refine b_aln (pc2 := 108) d_Mo_written_107 rfl rfl ?_
  refine b_gi (pc2 := 111) d_Mo_written_108 q_11_108 (sh_130 n0) (by decide) (by decide) (rc_130) rfl ?_
  rw [hlm]
  refine b_pure (pc2 := 112) d_Mo_written_111 rfl rfl rfl ?_
  rw [i_add]
  refine b_ic (pc2 := 113) (x := Int32.ofNat 3) d_Mo_written_112 rfl rfl ?_
  refine b_pure (pc2 := 114) d_Mo_written_113 rfl rfl rfl ?_
  rw [i_sub (by omega)]
  refine b_pi (pc2 := 117) d_Mo_written_114 q_11_271 (sh_130 n0) (by decide) (Or.inl (by decide)) (Or.inl rfl) (rc_130) rfl ?_
  refine b_iln (pc2 := 118) d_Mo_written_117 rfl rfl ?_
  refine b_ifd (pc2 := 137) d_Mo_written_118 rfl rfl rfl rfl rfl (fun h118 => ?_) (fun h118 => ?_)
  · exact absurd h118 (by decide)
  refine b_aln (pc2 := 122) d_Mo_written_121 rfl rfl ?_
  refine b_gi (pc2 := 125) d_Mo_written_122 q_11_271 (sh_130 n0) (by decide) (by decide) (rc_130) rfl ?_
  rw [u2_at]
  refine b_aln (pc2 := 126) d_Mo_written_125 rfl rfl ?_
  refine b_gi (pc2 := 129) d_Mo_written_126 q_11_274 (sh_130 n0) (by decide) (by decide) (rc_130) rfl ?_
  rw [u2_k _ _ (by decide), hws]
  refine b_ifd (pc2 := 137) d_Mo_written_129 rfl rfl rfl rfl rfl (fun h129 => ?_) (fun h129 => ?_)
  · exact absurd h129 (fun z => by rw [i_le (by omega) (by omega)] at z; omega)
  refine b_aln (pc2 := 133) d_Mo_written_132 rfl rfl ?_
  refine b_cv0 (pc2 := 136) (c2 := 0) (u2 := 0) (hA e (by omega)) d_Mo_written_133 q_11_280 (Nat.le_of_ble_eq_true rfl) rfl rfl (sh_130 n0) (Nat.le_of_ble_eq_true rfl) rfl rfl (by decide) (by decide) rfl ?_
  refine b_vr d_Mo_written_136 rfl ?_
  exact ⟨rfl, rfl, rfl, rfl, rfl⟩
theorem mo_wr_e {d : Nat} (hd : 4 ≤ d) (hsp : J 130 57 = Int32.ofNat 0) (hfi : J 130 58 = Int32.ofNat 0) {n : Nat} (hn : J 130 27 = Int32.ofNat n) (hn20 : n ≤ 20) (hn1 : 1 ≤ n) {aq sv : Nat} (haq : J 130 50 = Int32.ofNat aq) (haq2 : aq ≤ 20) (hsv : sv = if n = aq then sameV (J 150) (J 161) 1 (n - 1) else 0) {wp ws lm : Nat} (hwp : J 130 55 = Int32.ofNat wp) (hwp2 : wp < 100) (hws : J 130 54 = Int32.ofNat ws) (hws8 : ws ≤ 8) (hlm : J 130 44 = Int32.ofNat lm) (hl1 : 8 ≤ lm) (hl2 : lm ≤ 20) (hsv1 : sv = 1) (hx : ws ≤ wp + lm - 3) (hA : ∀ e, 2 ≤ e → bm e (S0 n0) R0 139 [.ref 130] W (mkJ (am_u2 (am_u2 (am_u2 J 130 55 (Int32.ofNat (wp + lm - 3))) 130 57 (Int32.ofNat 0)) 130 58 (Int32.ofNat 1)) [Int32.ofNat 24, Int32.ofNat 1]) g L (bR none W J1 g L)) : bm d (S0 n0) R0 159 [.ref 130] W J g L (bR none W J1 g L) := by
  obtain ⟨e, rfl⟩ : ∃ e, d = e + 1 := ⟨d - 1, by omega⟩
  refine bm_of (Nat.le_of_ble_eq_true rfl) (Or.inr bR_ret) ?_
  show bT e (S0 n0) R0 mt_Mo_written _ 0 [(0, .ref 130)] [] W J g L 0 0
  have hSR := SR0 n0
  refine b_aln (pc2 := 1) d_Mo_written_0 rfl rfl ?_
  refine b_gi (pc2 := 4) d_Mo_written_1 q_11_244 (sh_130 n0) (by decide) (by decide) (rc_130) rfl ?_
  rw [hsp]
  refine b_ifd (pc2 := 14) d_Mo_written_4 rfl rfl rfl rfl rfl (fun h4 => ?_) (fun h4 => ?_)
  · exact absurd h4 (by decide)
  refine b_aln (pc2 := 8) d_Mo_written_7 rfl rfl ?_
  refine b_gi (pc2 := 11) d_Mo_written_8 q_11_277 (sh_130 n0) (by decide) (by decide) (rc_130) rfl ?_
  rw [hfi]
  refine b_ifd (pc2 := 44) d_Mo_written_11 rfl rfl rfl rfl rfl (fun h11 => ?_) (fun h11 => ?_)
  rotate_left
  · exact absurd (by decide) h11
  refine b_nf (al := [(0, _)]) (ks := [0]) (sub_c rfl (sub_n)) rfl (by decide) ?_
  dsimp only
  refine lp_wr0 (n := n) (aq := aq) (sv := sv) hn hn20 hn1 haq haq2 hsv ?_
  subst hsv1
  refine b_aln (pc2 := 103) d_Mo_written_102 rfl rfl ?_
  refine b_aln (pc2 := 104) d_Mo_written_103 rfl rfl ?_
  refine b_gi (pc2 := 107) d_Mo_written_104 q_11_271 (sh_130 n0) (by decide) (by decide) (rc_130) rfl ?_
  rw [hwp]
  refine b_aln (pc2 := 108) d_Mo_written_107 rfl rfl ?_
  refine b_gi (pc2 := 111) d_Mo_written_108 q_11_108 (sh_130 n0) (by decide) (by decide) (rc_130) rfl ?_
  rw [hlm]
  refine b_pure (pc2 := 112) d_Mo_written_111 rfl rfl rfl ?_
  rw [i_add]
  refine b_ic (pc2 := 113) (x := Int32.ofNat 3) d_Mo_written_112 rfl rfl ?_
  refine b_pure (pc2 := 114) d_Mo_written_113 rfl rfl rfl ?_
  rw [i_sub (by omega)]
  refine b_pi (pc2 := 117) d_Mo_written_114 q_11_271 (sh_130 n0) (by decide) (Or.inl (by decide)) (Or.inl rfl) (rc_130) rfl ?_
  refine b_iln (pc2 := 118) d_Mo_written_117 rfl rfl ?_
  refine b_ifd (pc2 := 137) d_Mo_written_118 rfl rfl rfl rfl rfl (fun h118 => ?_) (fun h118 => ?_)
  · exact absurd h118 (by decide)
  refine b_aln (pc2 := 122) d_Mo_written_121 rfl rfl ?_
  refine b_gi (pc2 := 125) d_Mo_written_122 q_11_271 (sh_130 n0) (by decide) (by decide) (rc_130) rfl ?_
  rw [u2_at]
  refine b_aln (pc2 := 126) d_Mo_written_125 rfl rfl ?_
  refine b_gi (pc2 := 129) d_Mo_written_126 q_11_274 (sh_130 n0) (by decide) (by decide) (rc_130) rfl ?_
  rw [u2_k _ _ (by decide), hws]
  refine b_ifd (pc2 := 137) d_Mo_written_129 rfl rfl rfl rfl rfl (fun h129 => ?_) (fun h129 => ?_)
  rotate_left
  · exact absurd (by rw [i_le (by omega) (by omega)]; omega) h129
  refine b_aln (pc2 := 138) d_Mo_written_137 rfl rfl ?_
  refine b_iln (pc2 := 139) d_Mo_written_138 rfl rfl ?_
  refine b_ifd (pc2 := 146) d_Mo_written_139 rfl rfl rfl rfl rfl (fun h139 => ?_) (fun h139 => ?_)
  rotate_left
  · exact absurd (by decide) h139
  refine b_ic (pc2 := 147) (x := Int32.ofNat 0) d_Mo_written_146 rfl rfl ?_
  refine b_pi (pc2 := 150) d_Mo_written_147 q_11_244 (sh_130 n0) (by decide) (Or.inl (by decide)) (Or.inr ⟨rfl, by decide⟩) (rc_130) rfl ?_
  refine b_aln (pc2 := 151) d_Mo_written_150 rfl rfl ?_
  refine b_iln (pc2 := 152) d_Mo_written_151 rfl rfl ?_
  refine b_pi (pc2 := 155) d_Mo_written_152 q_11_277 (sh_130 n0) (by decide) (Or.inl (by decide)) (Or.inr ⟨rfl, by decide⟩) (rc_130) rfl ?_
  refine b_aln (pc2 := 156) d_Mo_written_155 rfl rfl ?_
  refine b_bp (pc2 := 158) (x := Int32.ofNat 24) d_Mo_written_156 rfl rfl ?_
  refine b_cv0 (pc2 := 161) (c2 := 0) (u2 := 0) (mo_start (by omega)) d_Mo_written_158 q_11_183 (Nat.le_of_ble_eq_true rfl) rfl rfl (sh_130 n0) (Nat.le_of_ble_eq_true rfl) rfl rfl (by decide) (by decide) rfl ?_
  rw [show Int32.ofNat 24 &&& 255 = Int32.ofNat 24 from rfl]
  refine b_aln (pc2 := 162) d_Mo_written_161 rfl rfl ?_
  refine b_iln (pc2 := 163) d_Mo_written_162 rfl rfl ?_
  refine b_ifd (pc2 := 170) d_Mo_written_163 rfl rfl rfl rfl rfl (fun h163 => ?_) (fun h163 => ?_)
  · exact absurd h163 (by decide)
  refine b_ic (pc2 := 167) (x := Int32.ofNat 1) d_Mo_written_166 rfl rfl ?_
  refine b_go (pc2 := 171) d_Mo_written_167 rfl ?_
  refine b_cv0 (pc2 := 174) (c2 := 0) (u2 := 0) (mo_lay (by omega) (by show 1 < 40; decide)) d_Mo_written_171 q_11_186 (Nat.le_of_ble_eq_true rfl) rfl rfl (sh_130 n0) (Nat.le_of_ble_eq_true rfl) rfl rfl (by decide) (by decide) rfl ?_
  rw [show Int32.ofNat 1 &&& 255 = Int32.ofNat 1 from rfl]
  refine b_aln (pc2 := 175) d_Mo_written_174 rfl rfl ?_
  refine b_cv0 (pc2 := 178) (c2 := 0) (u2 := 0) (hA e (by omega)) d_Mo_written_175 q_11_268 (Nat.le_of_ble_eq_true rfl) rfl rfl (sh_130 n0) (Nat.le_of_ble_eq_true rfl) rfl rfl (by decide) (by decide) rfl ?_
  refine b_vr d_Mo_written_178 rfl ?_
  exact ⟨rfl, rfl, rfl, rfl, rfl⟩
theorem mo_wr_b {d : Nat} (hd : 4 ≤ d) (hsp : J 130 57 = Int32.ofNat 0) (hfi : J 130 58 = Int32.ofNat 0) {n : Nat} (hn : J 130 27 = Int32.ofNat n) (hn20 : n ≤ 20) (hn1 : 1 ≤ n) {aq sv : Nat} (haq : J 130 50 = Int32.ofNat aq) (haq2 : aq ≤ 20) (hsv : sv = if n = aq then sameV (J 150) (J 161) 1 (n - 1) else 0) {wp ws lm : Nat} (hwp : J 130 55 = Int32.ofNat wp) (hwp2 : wp < 100) (hws : J 130 54 = Int32.ofNat ws) (hws8 : ws ≤ 8) (hlm : J 130 44 = Int32.ofNat lm) (hl1 : 8 ≤ lm) (hl2 : lm ≤ 20) (hsv1 : sv = 0) (hA : ∀ e, 2 ≤ e → bm e (S0 n0) R0 139 [.ref 130] W (mkJ (am_u2 (am_u2 (am_u2 J 130 55 (Int32.ofNat (wp + lm - 3))) 130 57 (Int32.ofNat 1)) 130 58 (Int32.ofNat 0)) [Int32.ofNat 24, Int32.ofNat 0]) g L (bR none W J1 g L)) : bm d (S0 n0) R0 159 [.ref 130] W J g L (bR none W J1 g L) := by
  obtain ⟨e, rfl⟩ : ∃ e, d = e + 1 := ⟨d - 1, by omega⟩
  refine bm_of (Nat.le_of_ble_eq_true rfl) (Or.inr bR_ret) ?_
  show bT e (S0 n0) R0 mt_Mo_written _ 0 [(0, .ref 130)] [] W J g L 0 0
  have hSR := SR0 n0
  refine b_aln (pc2 := 1) d_Mo_written_0 rfl rfl ?_
  refine b_gi (pc2 := 4) d_Mo_written_1 q_11_244 (sh_130 n0) (by decide) (by decide) (rc_130) rfl ?_
  rw [hsp]
  refine b_ifd (pc2 := 14) d_Mo_written_4 rfl rfl rfl rfl rfl (fun h4 => ?_) (fun h4 => ?_)
  · exact absurd h4 (by decide)
  refine b_aln (pc2 := 8) d_Mo_written_7 rfl rfl ?_
  refine b_gi (pc2 := 11) d_Mo_written_8 q_11_277 (sh_130 n0) (by decide) (by decide) (rc_130) rfl ?_
  rw [hfi]
  refine b_ifd (pc2 := 44) d_Mo_written_11 rfl rfl rfl rfl rfl (fun h11 => ?_) (fun h11 => ?_)
  rotate_left
  · exact absurd (by decide) h11
  refine b_nf (al := [(0, _)]) (ks := [0]) (sub_c rfl (sub_n)) rfl (by decide) ?_
  dsimp only
  refine lp_wr0 (n := n) (aq := aq) (sv := sv) hn hn20 hn1 haq haq2 hsv ?_
  subst hsv1
  refine b_aln (pc2 := 103) d_Mo_written_102 rfl rfl ?_
  refine b_aln (pc2 := 104) d_Mo_written_103 rfl rfl ?_
  refine b_gi (pc2 := 107) d_Mo_written_104 q_11_271 (sh_130 n0) (by decide) (by decide) (rc_130) rfl ?_
  rw [hwp]
  refine b_aln (pc2 := 108) d_Mo_written_107 rfl rfl ?_
  refine b_gi (pc2 := 111) d_Mo_written_108 q_11_108 (sh_130 n0) (by decide) (by decide) (rc_130) rfl ?_
  rw [hlm]
  refine b_pure (pc2 := 112) d_Mo_written_111 rfl rfl rfl ?_
  rw [i_add]
  refine b_ic (pc2 := 113) (x := Int32.ofNat 3) d_Mo_written_112 rfl rfl ?_
  refine b_pure (pc2 := 114) d_Mo_written_113 rfl rfl rfl ?_
  rw [i_sub (by omega)]
  refine b_pi (pc2 := 117) d_Mo_written_114 q_11_271 (sh_130 n0) (by decide) (Or.inl (by decide)) (Or.inl rfl) (rc_130) rfl ?_
  refine b_iln (pc2 := 118) d_Mo_written_117 rfl rfl ?_
  refine b_ifd (pc2 := 137) d_Mo_written_118 rfl rfl rfl rfl rfl (fun h118 => ?_) (fun h118 => ?_)
  rotate_left
  · exact absurd (by decide) h118
  refine b_aln (pc2 := 138) d_Mo_written_137 rfl rfl ?_
  refine b_iln (pc2 := 139) d_Mo_written_138 rfl rfl ?_
  refine b_ifd (pc2 := 146) d_Mo_written_139 rfl rfl rfl rfl rfl (fun h139 => ?_) (fun h139 => ?_)
  · exact absurd h139 (by decide)
  refine b_ic (pc2 := 143) (x := Int32.ofNat 1) d_Mo_written_142 rfl rfl ?_
  refine b_go (pc2 := 147) d_Mo_written_143 rfl ?_
  refine b_pi (pc2 := 150) d_Mo_written_147 q_11_244 (sh_130 n0) (by decide) (Or.inl (by decide)) (Or.inr ⟨rfl, by decide⟩) (rc_130) rfl ?_
  refine b_aln (pc2 := 151) d_Mo_written_150 rfl rfl ?_
  refine b_iln (pc2 := 152) d_Mo_written_151 rfl rfl ?_
  refine b_pi (pc2 := 155) d_Mo_written_152 q_11_277 (sh_130 n0) (by decide) (Or.inl (by decide)) (Or.inr ⟨rfl, by decide⟩) (rc_130) rfl ?_
  refine b_aln (pc2 := 156) d_Mo_written_155 rfl rfl ?_
  refine b_bp (pc2 := 158) (x := Int32.ofNat 24) d_Mo_written_156 rfl rfl ?_
  refine b_cv0 (pc2 := 161) (c2 := 0) (u2 := 0) (mo_start (by omega)) d_Mo_written_158 q_11_183 (Nat.le_of_ble_eq_true rfl) rfl rfl (sh_130 n0) (Nat.le_of_ble_eq_true rfl) rfl rfl (by decide) (by decide) rfl ?_
  rw [show Int32.ofNat 24 &&& 255 = Int32.ofNat 24 from rfl]
  refine b_aln (pc2 := 162) d_Mo_written_161 rfl rfl ?_
  refine b_iln (pc2 := 163) d_Mo_written_162 rfl rfl ?_
  refine b_ifd (pc2 := 170) d_Mo_written_163 rfl rfl rfl rfl rfl (fun h163 => ?_) (fun h163 => ?_)
  rotate_left
  · exact absurd (by decide) h163
  refine b_ic (pc2 := 171) (x := Int32.ofNat 0) d_Mo_written_170 rfl rfl ?_
  refine b_cv0 (pc2 := 174) (c2 := 0) (u2 := 0) (mo_lay (by omega) (by show 1 < 40; decide)) d_Mo_written_171 q_11_186 (Nat.le_of_ble_eq_true rfl) rfl rfl (sh_130 n0) (Nat.le_of_ble_eq_true rfl) rfl rfl (by decide) (by decide) rfl ?_
  rw [show Int32.ofNat 0 &&& 255 = Int32.ofNat 0 from rfl]
  refine b_aln (pc2 := 175) d_Mo_written_174 rfl rfl ?_
  refine b_cv0 (pc2 := 178) (c2 := 0) (u2 := 0) (hA e (by omega)) d_Mo_written_175 q_11_268 (Nat.le_of_ble_eq_true rfl) rfl rfl (sh_130 n0) (Nat.le_of_ble_eq_true rfl) rfl rfl (by decide) (by decide) rfl ?_
  refine b_vr d_Mo_written_178 rfl ?_
  exact ⟨rfl, rfl, rfl, rfl, rfl⟩
theorem mo_an_f {d : Nat} (hd : 5 ≤ d) {op sp : Nat} (hop : J 130 45 = Int32.ofNat op) (hop2 : op ≤ 6) (hsp : J 130 57 = Int32.ofNat sp) (hsp2 : op = 6 → sp = 0) (hsp3 : sp ≤ 1) (hb : J 150 0 = Int32.ofNat 1) (hn : J 130 27 = Int32.ofNat 4) {b3 : Nat} (hb3 : J 150 3 = Int32.ofNat b3) (hb32 : b3 < 256) (hx : op = 4) (hx2 : b3 = 10) : bm d (S0 n0) R0 154 [.ref 130] W J g L (bR none W (am_u2 (am_u2 J 130 47 (Int32.ofNat 1)) 130 48 (Int32.ofNat 0)) g L) := by
  obtain ⟨e, rfl⟩ : ∃ e, d = e + 1 := ⟨d - 1, by omega⟩
  refine bm_of (Nat.le_of_ble_eq_true rfl) (Or.inr bR_ret) ?_
  show bT e (S0 n0) R0 mt_Mo_answered _ 0 [(0, .ref 130)] [] W J g L 0 0
  have hSR := SR0 n0
  refine b_aln (pc2 := 1) d_Mo_answered_0 rfl rfl ?_
  refine b_gi (pc2 := 4) d_Mo_answered_1 q_11_235 (sh_130 n0) (by decide) (by decide) (rc_130) rfl ?_
  rw [hop]
  refine b_bp (pc2 := 6) (x := Int32.ofNat 7) d_Mo_answered_4 rfl rfl ?_
  refine b_ifd (pc2 := 29) d_Mo_answered_6 rfl rfl rfl rfl rfl (fun h6 => ?_) (fun h6 => ?_)
  · exact absurd h6 (fun z => by rw [i_eq (by omega) (by omega)] at z; omega)
  refine b_aln (pc2 := 10) d_Mo_answered_9 rfl rfl ?_
  refine b_gi (pc2 := 13) d_Mo_answered_10 q_11_235 (sh_130 n0) (by decide) (by decide) (rc_130) rfl ?_
  rw [hop]
  refine b_bp (pc2 := 15) (x := Int32.ofNat 6) d_Mo_answered_13 rfl rfl ?_
  refine b_ifd (pc2 := 25) d_Mo_answered_15 rfl rfl rfl rfl rfl (fun h15 => ?_) (fun h15 => ?_)
  · rw [i_eq (by omega) (by omega)] at h15
    refine b_ic (pc2 := 26) (x := Int32.ofNat 1) d_Mo_answered_25 rfl rfl ?_
    refine b_go (pc2 := 30) d_Mo_answered_26 rfl ?_
    refine b_isn (pc2 := 31) (al2 := [(1, _), (0, _)]) d_Mo_answered_30 (by decide) rfl rfl ?_
    refine b_iln (pc2 := 32) d_Mo_answered_31 rfl rfl ?_
    refine b_ifd (pc2 := 108) d_Mo_answered_32 rfl rfl rfl rfl rfl (fun h32 => ?_) (fun h32 => ?_)
    · exact absurd h32 (by decide)
    refine b_aln (pc2 := 36) d_Mo_answered_35 rfl rfl ?_
    refine b_gr (pc2 := 39) d_Mo_answered_36 q_11_72 (sh_130 n0) (by decide) (by decide) (p_130_28 n0) rfl ?_
    refine b_ic (pc2 := 40) (x := Int32.ofNat 0) d_Mo_answered_39 rfl rfl ?_
    refine b_ia (pc2 := 41) (q := 0) d_Mo_answered_40 (sh_150 n0) (i_in (i := 0) (by decide) (by decide)) (rfl) (rc_150) rfl ?_
    rw [hb]
    refine b_ic (pc2 := 42) (x := Int32.ofNat 1) d_Mo_answered_41 rfl rfl ?_
    refine b_ifd (pc2 := 108) d_Mo_answered_42 rfl rfl rfl rfl rfl (fun h42 => ?_) (fun h42 => ?_)
    · exact absurd h42 (by decide)
    refine b_aln (pc2 := 46) d_Mo_answered_45 rfl rfl ?_
    refine b_gi (pc2 := 49) d_Mo_answered_46 q_11_174 (sh_130 n0) (by decide) (by decide) (rc_130) rfl ?_
    rw [hn]
    refine b_ic (pc2 := 50) (x := Int32.ofNat 4) d_Mo_answered_49 rfl rfl ?_
    refine b_ifd (pc2 := 108) d_Mo_answered_50 rfl rfl rfl rfl rfl (fun h50 => ?_) (fun h50 => ?_)
    · exact absurd h50 (by decide)
    refine b_aln (pc2 := 54) d_Mo_answered_53 rfl rfl ?_
    refine b_gi (pc2 := 57) d_Mo_answered_54 q_11_235 (sh_130 n0) (by decide) (by decide) (rc_130) rfl ?_
    rw [hop]
    refine b_ic (pc2 := 58) (x := Int32.ofNat 4) d_Mo_answered_57 rfl rfl ?_
    refine b_ifd (pc2 := 76) d_Mo_answered_58 rfl rfl rfl rfl rfl (fun h58 => ?_) (fun h58 => ?_)
    · rw [i_eq (by omega) (by omega)] at h58
      omega
    · rw [i_eq (by omega) (by omega)] at h58
      refine b_aln (pc2 := 62) d_Mo_answered_61 rfl rfl ?_
      refine b_gr (pc2 := 65) d_Mo_answered_62 q_11_72 (sh_130 n0) (by decide) (by decide) (p_130_28 n0) rfl ?_
      refine b_ic (pc2 := 66) (x := Int32.ofNat 3) d_Mo_answered_65 rfl rfl ?_
      refine b_ia (pc2 := 67) (q := 3) d_Mo_answered_66 (sh_150 n0) (i_in (i := 3) (by decide) (by decide)) (rfl) (rc_150) rfl ?_
      rw [hb3]
      refine b_bp (pc2 := 69) (x := Int32.ofNat 10) d_Mo_answered_67 rfl rfl ?_
      refine b_ifd (pc2 := 76) d_Mo_answered_69 rfl rfl rfl rfl rfl (fun h69 => ?_) (fun h69 => ?_)
      · rw [i_eq (by omega) (by omega)] at h69
        omega
      · rw [i_eq (by omega) (by omega)] at h69
        refine b_ic (pc2 := 73) (x := Int32.ofNat 1) d_Mo_answered_72 rfl rfl ?_
        refine b_go (pc2 := 77) d_Mo_answered_73 rfl ?_
        refine b_isn (pc2 := 78) (al2 := [(2, _), (1, _), (0, _)]) d_Mo_answered_77 (by decide) rfl rfl ?_
        refine b_aln (pc2 := 79) d_Mo_answered_78 rfl rfl ?_
        refine b_iln (pc2 := 80) d_Mo_answered_79 rfl rfl ?_
        refine b_ifd (pc2 := 87) d_Mo_answered_80 rfl rfl rfl rfl rfl (fun h80 => ?_) (fun h80 => ?_)
        · exact absurd h80 (by decide)
        refine b_ic (pc2 := 84) (x := Int32.ofNat 1) d_Mo_answered_83 rfl rfl ?_
        refine b_go (pc2 := 88) d_Mo_answered_84 rfl ?_
        refine b_iln (pc2 := 89) d_Mo_answered_88 rfl rfl ?_
        refine b_ifd (pc2 := 96) d_Mo_answered_89 rfl rfl rfl rfl rfl (fun h89 => ?_) (fun h89 => ?_)
        · exact absurd h89 (by decide)
        refine b_ic (pc2 := 93) (x := Int32.ofNat 0) d_Mo_answered_92 rfl rfl ?_
        refine b_go (pc2 := 102) d_Mo_answered_93 rfl ?_
        refine b_cv0 (pc2 := 105) (c2 := 0) (u2 := 0) (mo_end (by omega)) d_Mo_answered_102 q_11_247 (Nat.le_of_ble_eq_true rfl) rfl rfl (sh_130 n0) (Nat.le_of_ble_eq_true rfl) rfl rfl (by decide) (by decide) rfl ?_
        refine b_go (pc2 := 275) d_Mo_answered_105 rfl ?_
        refine b_vr d_Mo_answered_275 rfl ?_
        exact ⟨rfl, rfl, rfl, rfl, rfl⟩
  · rw [i_eq (by omega) (by omega)] at h15
    refine b_aln (pc2 := 19) d_Mo_answered_18 rfl rfl ?_
    refine b_gi (pc2 := 22) d_Mo_answered_19 q_11_244 (sh_130 n0) (by decide) (by decide) (rc_130) rfl ?_
    rw [hsp]
    refine b_ifd (pc2 := 29) d_Mo_answered_22 rfl rfl rfl rfl rfl (fun h22 => ?_) (fun h22 => ?_)
    · rw [z_eq (by omega)] at h22
      omega
    · rw [z_eq (by omega)] at h22
      refine b_ic (pc2 := 26) (x := Int32.ofNat 1) d_Mo_answered_25 rfl rfl ?_
      refine b_go (pc2 := 30) d_Mo_answered_26 rfl ?_
      refine b_isn (pc2 := 31) (al2 := [(1, _), (0, _)]) d_Mo_answered_30 (by decide) rfl rfl ?_
      refine b_iln (pc2 := 32) d_Mo_answered_31 rfl rfl ?_
      refine b_ifd (pc2 := 108) d_Mo_answered_32 rfl rfl rfl rfl rfl (fun h32 => ?_) (fun h32 => ?_)
      · exact absurd h32 (by decide)
      refine b_aln (pc2 := 36) d_Mo_answered_35 rfl rfl ?_
      refine b_gr (pc2 := 39) d_Mo_answered_36 q_11_72 (sh_130 n0) (by decide) (by decide) (p_130_28 n0) rfl ?_
      refine b_ic (pc2 := 40) (x := Int32.ofNat 0) d_Mo_answered_39 rfl rfl ?_
      refine b_ia (pc2 := 41) (q := 0) d_Mo_answered_40 (sh_150 n0) (i_in (i := 0) (by decide) (by decide)) (rfl) (rc_150) rfl ?_
      rw [hb]
      refine b_ic (pc2 := 42) (x := Int32.ofNat 1) d_Mo_answered_41 rfl rfl ?_
      refine b_ifd (pc2 := 108) d_Mo_answered_42 rfl rfl rfl rfl rfl (fun h42 => ?_) (fun h42 => ?_)
      · exact absurd h42 (by decide)
      refine b_aln (pc2 := 46) d_Mo_answered_45 rfl rfl ?_
      refine b_gi (pc2 := 49) d_Mo_answered_46 q_11_174 (sh_130 n0) (by decide) (by decide) (rc_130) rfl ?_
      rw [hn]
      refine b_ic (pc2 := 50) (x := Int32.ofNat 4) d_Mo_answered_49 rfl rfl ?_
      refine b_ifd (pc2 := 108) d_Mo_answered_50 rfl rfl rfl rfl rfl (fun h50 => ?_) (fun h50 => ?_)
      · exact absurd h50 (by decide)
      refine b_aln (pc2 := 54) d_Mo_answered_53 rfl rfl ?_
      refine b_gi (pc2 := 57) d_Mo_answered_54 q_11_235 (sh_130 n0) (by decide) (by decide) (rc_130) rfl ?_
      rw [hop]
      refine b_ic (pc2 := 58) (x := Int32.ofNat 4) d_Mo_answered_57 rfl rfl ?_
      refine b_ifd (pc2 := 76) d_Mo_answered_58 rfl rfl rfl rfl rfl (fun h58 => ?_) (fun h58 => ?_)
      · rw [i_eq (by omega) (by omega)] at h58
        omega
      · rw [i_eq (by omega) (by omega)] at h58
        refine b_aln (pc2 := 62) d_Mo_answered_61 rfl rfl ?_
        refine b_gr (pc2 := 65) d_Mo_answered_62 q_11_72 (sh_130 n0) (by decide) (by decide) (p_130_28 n0) rfl ?_
        refine b_ic (pc2 := 66) (x := Int32.ofNat 3) d_Mo_answered_65 rfl rfl ?_
        refine b_ia (pc2 := 67) (q := 3) d_Mo_answered_66 (sh_150 n0) (i_in (i := 3) (by decide) (by decide)) (rfl) (rc_150) rfl ?_
        rw [hb3]
        refine b_bp (pc2 := 69) (x := Int32.ofNat 10) d_Mo_answered_67 rfl rfl ?_
        refine b_ifd (pc2 := 76) d_Mo_answered_69 rfl rfl rfl rfl rfl (fun h69 => ?_) (fun h69 => ?_)
        · rw [i_eq (by omega) (by omega)] at h69
          omega
        · rw [i_eq (by omega) (by omega)] at h69
          refine b_ic (pc2 := 73) (x := Int32.ofNat 1) d_Mo_answered_72 rfl rfl ?_
          refine b_go (pc2 := 77) d_Mo_answered_73 rfl ?_
          refine b_isn (pc2 := 78) (al2 := [(2, _), (1, _), (0, _)]) d_Mo_answered_77 (by decide) rfl rfl ?_
          refine b_aln (pc2 := 79) d_Mo_answered_78 rfl rfl ?_
          refine b_iln (pc2 := 80) d_Mo_answered_79 rfl rfl ?_
          refine b_ifd (pc2 := 87) d_Mo_answered_80 rfl rfl rfl rfl rfl (fun h80 => ?_) (fun h80 => ?_)
          · exact absurd h80 (by decide)
          refine b_ic (pc2 := 84) (x := Int32.ofNat 1) d_Mo_answered_83 rfl rfl ?_
          refine b_go (pc2 := 88) d_Mo_answered_84 rfl ?_
          refine b_iln (pc2 := 89) d_Mo_answered_88 rfl rfl ?_
          refine b_ifd (pc2 := 96) d_Mo_answered_89 rfl rfl rfl rfl rfl (fun h89 => ?_) (fun h89 => ?_)
          · exact absurd h89 (by decide)
          refine b_ic (pc2 := 93) (x := Int32.ofNat 0) d_Mo_answered_92 rfl rfl ?_
          refine b_go (pc2 := 102) d_Mo_answered_93 rfl ?_
          refine b_cv0 (pc2 := 105) (c2 := 0) (u2 := 0) (mo_end (by omega)) d_Mo_answered_102 q_11_247 (Nat.le_of_ble_eq_true rfl) rfl rfl (sh_130 n0) (Nat.le_of_ble_eq_true rfl) rfl rfl (by decide) (by decide) rfl ?_
          refine b_go (pc2 := 275) d_Mo_answered_105 rfl ?_
          refine b_vr d_Mo_answered_275 rfl ?_
          exact ⟨rfl, rfl, rfl, rfl, rfl⟩
theorem mo_an_x {d : Nat} (hd : 5 ≤ d) {op sp : Nat} (hop : J 130 45 = Int32.ofNat op) (hop2 : op ≤ 6) (hsp : J 130 57 = Int32.ofNat sp) (hsp2 : op = 6 → sp = 0) (hsp3 : sp ≤ 1) (hb : J 150 0 = Int32.ofNat 1) (hn : J 130 27 = Int32.ofNat 4) {b3 : Nat} (hb3 : J 150 3 = Int32.ofNat b3) (hb32 : b3 < 256) (hx : ¬ (op = 4 ∧ b3 = 10)) : bm d (S0 n0) R0 154 [.ref 130] W J g L (bR none W (am_u2 (am_u2 J 130 47 (Int32.ofNat 2)) 130 48 (Int32.ofNat b3)) g L) := by
  obtain ⟨e, rfl⟩ : ∃ e, d = e + 1 := ⟨d - 1, by omega⟩
  refine bm_of (Nat.le_of_ble_eq_true rfl) (Or.inr bR_ret) ?_
  show bT e (S0 n0) R0 mt_Mo_answered _ 0 [(0, .ref 130)] [] W J g L 0 0
  have hSR := SR0 n0
  refine b_aln (pc2 := 1) d_Mo_answered_0 rfl rfl ?_
  refine b_gi (pc2 := 4) d_Mo_answered_1 q_11_235 (sh_130 n0) (by decide) (by decide) (rc_130) rfl ?_
  rw [hop]
  refine b_bp (pc2 := 6) (x := Int32.ofNat 7) d_Mo_answered_4 rfl rfl ?_
  refine b_ifd (pc2 := 29) d_Mo_answered_6 rfl rfl rfl rfl rfl (fun h6 => ?_) (fun h6 => ?_)
  · exact absurd h6 (fun z => by rw [i_eq (by omega) (by omega)] at z; omega)
  refine b_aln (pc2 := 10) d_Mo_answered_9 rfl rfl ?_
  refine b_gi (pc2 := 13) d_Mo_answered_10 q_11_235 (sh_130 n0) (by decide) (by decide) (rc_130) rfl ?_
  rw [hop]
  refine b_bp (pc2 := 15) (x := Int32.ofNat 6) d_Mo_answered_13 rfl rfl ?_
  refine b_ifd (pc2 := 25) d_Mo_answered_15 rfl rfl rfl rfl rfl (fun h15 => ?_) (fun h15 => ?_)
  · rw [i_eq (by omega) (by omega)] at h15
    refine b_ic (pc2 := 26) (x := Int32.ofNat 1) d_Mo_answered_25 rfl rfl ?_
    refine b_go (pc2 := 30) d_Mo_answered_26 rfl ?_
    refine b_isn (pc2 := 31) (al2 := [(1, _), (0, _)]) d_Mo_answered_30 (by decide) rfl rfl ?_
    refine b_iln (pc2 := 32) d_Mo_answered_31 rfl rfl ?_
    refine b_ifd (pc2 := 108) d_Mo_answered_32 rfl rfl rfl rfl rfl (fun h32 => ?_) (fun h32 => ?_)
    · exact absurd h32 (by decide)
    refine b_aln (pc2 := 36) d_Mo_answered_35 rfl rfl ?_
    refine b_gr (pc2 := 39) d_Mo_answered_36 q_11_72 (sh_130 n0) (by decide) (by decide) (p_130_28 n0) rfl ?_
    refine b_ic (pc2 := 40) (x := Int32.ofNat 0) d_Mo_answered_39 rfl rfl ?_
    refine b_ia (pc2 := 41) (q := 0) d_Mo_answered_40 (sh_150 n0) (i_in (i := 0) (by decide) (by decide)) (rfl) (rc_150) rfl ?_
    rw [hb]
    refine b_ic (pc2 := 42) (x := Int32.ofNat 1) d_Mo_answered_41 rfl rfl ?_
    refine b_ifd (pc2 := 108) d_Mo_answered_42 rfl rfl rfl rfl rfl (fun h42 => ?_) (fun h42 => ?_)
    · exact absurd h42 (by decide)
    refine b_aln (pc2 := 46) d_Mo_answered_45 rfl rfl ?_
    refine b_gi (pc2 := 49) d_Mo_answered_46 q_11_174 (sh_130 n0) (by decide) (by decide) (rc_130) rfl ?_
    rw [hn]
    refine b_ic (pc2 := 50) (x := Int32.ofNat 4) d_Mo_answered_49 rfl rfl ?_
    refine b_ifd (pc2 := 108) d_Mo_answered_50 rfl rfl rfl rfl rfl (fun h50 => ?_) (fun h50 => ?_)
    · exact absurd h50 (by decide)
    refine b_aln (pc2 := 54) d_Mo_answered_53 rfl rfl ?_
    refine b_gi (pc2 := 57) d_Mo_answered_54 q_11_235 (sh_130 n0) (by decide) (by decide) (rc_130) rfl ?_
    rw [hop]
    refine b_ic (pc2 := 58) (x := Int32.ofNat 4) d_Mo_answered_57 rfl rfl ?_
    refine b_ifd (pc2 := 76) d_Mo_answered_58 rfl rfl rfl rfl rfl (fun h58 => ?_) (fun h58 => ?_)
    · rw [i_eq (by omega) (by omega)] at h58
      refine b_ic (pc2 := 77) (x := Int32.ofNat 0) d_Mo_answered_76 rfl rfl ?_
      refine b_isn (pc2 := 78) (al2 := [(2, _), (1, _), (0, _)]) d_Mo_answered_77 (by decide) rfl rfl ?_
      refine b_aln (pc2 := 79) d_Mo_answered_78 rfl rfl ?_
      refine b_iln (pc2 := 80) d_Mo_answered_79 rfl rfl ?_
      refine b_ifd (pc2 := 87) d_Mo_answered_80 rfl rfl rfl rfl rfl (fun h80 => ?_) (fun h80 => ?_)
      rotate_left
      · exact absurd (by decide) h80
      refine b_ic (pc2 := 88) (x := Int32.ofNat 2) d_Mo_answered_87 rfl rfl ?_
      refine b_iln (pc2 := 89) d_Mo_answered_88 rfl rfl ?_
      refine b_ifd (pc2 := 96) d_Mo_answered_89 rfl rfl rfl rfl rfl (fun h89 => ?_) (fun h89 => ?_)
      rotate_left
      · exact absurd (by decide) h89
      refine b_aln (pc2 := 97) d_Mo_answered_96 rfl rfl ?_
      refine b_gr (pc2 := 100) d_Mo_answered_97 q_11_72 (sh_130 n0) (by decide) (by decide) (p_130_28 n0) rfl ?_
      refine b_ic (pc2 := 101) (x := Int32.ofNat 3) d_Mo_answered_100 rfl rfl ?_
      refine b_ia (pc2 := 102) (q := 3) d_Mo_answered_101 (sh_150 n0) (i_in (i := 3) (by decide) (by decide)) (rfl) (rc_150) rfl ?_
      rw [hb3]
      refine b_cv0 (pc2 := 105) (c2 := 0) (u2 := 0) (mo_end (by omega)) d_Mo_answered_102 q_11_247 (Nat.le_of_ble_eq_true rfl) rfl rfl (sh_130 n0) (Nat.le_of_ble_eq_true rfl) rfl rfl (by decide) (by decide) rfl ?_
      refine b_go (pc2 := 275) d_Mo_answered_105 rfl ?_
      refine b_vr d_Mo_answered_275 rfl ?_
      exact ⟨rfl, rfl, rfl, rfl, rfl⟩
    · rw [i_eq (by omega) (by omega)] at h58
      refine b_aln (pc2 := 62) d_Mo_answered_61 rfl rfl ?_
      refine b_gr (pc2 := 65) d_Mo_answered_62 q_11_72 (sh_130 n0) (by decide) (by decide) (p_130_28 n0) rfl ?_
      refine b_ic (pc2 := 66) (x := Int32.ofNat 3) d_Mo_answered_65 rfl rfl ?_
      refine b_ia (pc2 := 67) (q := 3) d_Mo_answered_66 (sh_150 n0) (i_in (i := 3) (by decide) (by decide)) (rfl) (rc_150) rfl ?_
      rw [hb3]
      refine b_bp (pc2 := 69) (x := Int32.ofNat 10) d_Mo_answered_67 rfl rfl ?_
      refine b_ifd (pc2 := 76) d_Mo_answered_69 rfl rfl rfl rfl rfl (fun h69 => ?_) (fun h69 => ?_)
      · rw [i_eq (by omega) (by omega)] at h69
        refine b_ic (pc2 := 77) (x := Int32.ofNat 0) d_Mo_answered_76 rfl rfl ?_
        refine b_isn (pc2 := 78) (al2 := [(2, _), (1, _), (0, _)]) d_Mo_answered_77 (by decide) rfl rfl ?_
        refine b_aln (pc2 := 79) d_Mo_answered_78 rfl rfl ?_
        refine b_iln (pc2 := 80) d_Mo_answered_79 rfl rfl ?_
        refine b_ifd (pc2 := 87) d_Mo_answered_80 rfl rfl rfl rfl rfl (fun h80 => ?_) (fun h80 => ?_)
        rotate_left
        · exact absurd (by decide) h80
        refine b_ic (pc2 := 88) (x := Int32.ofNat 2) d_Mo_answered_87 rfl rfl ?_
        refine b_iln (pc2 := 89) d_Mo_answered_88 rfl rfl ?_
        refine b_ifd (pc2 := 96) d_Mo_answered_89 rfl rfl rfl rfl rfl (fun h89 => ?_) (fun h89 => ?_)
        rotate_left
        · exact absurd (by decide) h89
        refine b_aln (pc2 := 97) d_Mo_answered_96 rfl rfl ?_
        refine b_gr (pc2 := 100) d_Mo_answered_97 q_11_72 (sh_130 n0) (by decide) (by decide) (p_130_28 n0) rfl ?_
        refine b_ic (pc2 := 101) (x := Int32.ofNat 3) d_Mo_answered_100 rfl rfl ?_
        refine b_ia (pc2 := 102) (q := 3) d_Mo_answered_101 (sh_150 n0) (i_in (i := 3) (by decide) (by decide)) (rfl) (rc_150) rfl ?_
        rw [hb3]
        refine b_cv0 (pc2 := 105) (c2 := 0) (u2 := 0) (mo_end (by omega)) d_Mo_answered_102 q_11_247 (Nat.le_of_ble_eq_true rfl) rfl rfl (sh_130 n0) (Nat.le_of_ble_eq_true rfl) rfl rfl (by decide) (by decide) rfl ?_
        refine b_go (pc2 := 275) d_Mo_answered_105 rfl ?_
        refine b_vr d_Mo_answered_275 rfl ?_
        exact ⟨rfl, rfl, rfl, rfl, rfl⟩
      · rw [i_eq (by omega) (by omega)] at h69
        omega
  · rw [i_eq (by omega) (by omega)] at h15
    refine b_aln (pc2 := 19) d_Mo_answered_18 rfl rfl ?_
    refine b_gi (pc2 := 22) d_Mo_answered_19 q_11_244 (sh_130 n0) (by decide) (by decide) (rc_130) rfl ?_
    rw [hsp]
    refine b_ifd (pc2 := 29) d_Mo_answered_22 rfl rfl rfl rfl rfl (fun h22 => ?_) (fun h22 => ?_)
    · rw [z_eq (by omega)] at h22
      omega
    · rw [z_eq (by omega)] at h22
      refine b_ic (pc2 := 26) (x := Int32.ofNat 1) d_Mo_answered_25 rfl rfl ?_
      refine b_go (pc2 := 30) d_Mo_answered_26 rfl ?_
      refine b_isn (pc2 := 31) (al2 := [(1, _), (0, _)]) d_Mo_answered_30 (by decide) rfl rfl ?_
      refine b_iln (pc2 := 32) d_Mo_answered_31 rfl rfl ?_
      refine b_ifd (pc2 := 108) d_Mo_answered_32 rfl rfl rfl rfl rfl (fun h32 => ?_) (fun h32 => ?_)
      · exact absurd h32 (by decide)
      refine b_aln (pc2 := 36) d_Mo_answered_35 rfl rfl ?_
      refine b_gr (pc2 := 39) d_Mo_answered_36 q_11_72 (sh_130 n0) (by decide) (by decide) (p_130_28 n0) rfl ?_
      refine b_ic (pc2 := 40) (x := Int32.ofNat 0) d_Mo_answered_39 rfl rfl ?_
      refine b_ia (pc2 := 41) (q := 0) d_Mo_answered_40 (sh_150 n0) (i_in (i := 0) (by decide) (by decide)) (rfl) (rc_150) rfl ?_
      rw [hb]
      refine b_ic (pc2 := 42) (x := Int32.ofNat 1) d_Mo_answered_41 rfl rfl ?_
      refine b_ifd (pc2 := 108) d_Mo_answered_42 rfl rfl rfl rfl rfl (fun h42 => ?_) (fun h42 => ?_)
      · exact absurd h42 (by decide)
      refine b_aln (pc2 := 46) d_Mo_answered_45 rfl rfl ?_
      refine b_gi (pc2 := 49) d_Mo_answered_46 q_11_174 (sh_130 n0) (by decide) (by decide) (rc_130) rfl ?_
      rw [hn]
      refine b_ic (pc2 := 50) (x := Int32.ofNat 4) d_Mo_answered_49 rfl rfl ?_
      refine b_ifd (pc2 := 108) d_Mo_answered_50 rfl rfl rfl rfl rfl (fun h50 => ?_) (fun h50 => ?_)
      · exact absurd h50 (by decide)
      refine b_aln (pc2 := 54) d_Mo_answered_53 rfl rfl ?_
      refine b_gi (pc2 := 57) d_Mo_answered_54 q_11_235 (sh_130 n0) (by decide) (by decide) (rc_130) rfl ?_
      rw [hop]
      refine b_ic (pc2 := 58) (x := Int32.ofNat 4) d_Mo_answered_57 rfl rfl ?_
      refine b_ifd (pc2 := 76) d_Mo_answered_58 rfl rfl rfl rfl rfl (fun h58 => ?_) (fun h58 => ?_)
      · rw [i_eq (by omega) (by omega)] at h58
        refine b_ic (pc2 := 77) (x := Int32.ofNat 0) d_Mo_answered_76 rfl rfl ?_
        refine b_isn (pc2 := 78) (al2 := [(2, _), (1, _), (0, _)]) d_Mo_answered_77 (by decide) rfl rfl ?_
        refine b_aln (pc2 := 79) d_Mo_answered_78 rfl rfl ?_
        refine b_iln (pc2 := 80) d_Mo_answered_79 rfl rfl ?_
        refine b_ifd (pc2 := 87) d_Mo_answered_80 rfl rfl rfl rfl rfl (fun h80 => ?_) (fun h80 => ?_)
        rotate_left
        · exact absurd (by decide) h80
        refine b_ic (pc2 := 88) (x := Int32.ofNat 2) d_Mo_answered_87 rfl rfl ?_
        refine b_iln (pc2 := 89) d_Mo_answered_88 rfl rfl ?_
        refine b_ifd (pc2 := 96) d_Mo_answered_89 rfl rfl rfl rfl rfl (fun h89 => ?_) (fun h89 => ?_)
        rotate_left
        · exact absurd (by decide) h89
        refine b_aln (pc2 := 97) d_Mo_answered_96 rfl rfl ?_
        refine b_gr (pc2 := 100) d_Mo_answered_97 q_11_72 (sh_130 n0) (by decide) (by decide) (p_130_28 n0) rfl ?_
        refine b_ic (pc2 := 101) (x := Int32.ofNat 3) d_Mo_answered_100 rfl rfl ?_
        refine b_ia (pc2 := 102) (q := 3) d_Mo_answered_101 (sh_150 n0) (i_in (i := 3) (by decide) (by decide)) (rfl) (rc_150) rfl ?_
        rw [hb3]
        refine b_cv0 (pc2 := 105) (c2 := 0) (u2 := 0) (mo_end (by omega)) d_Mo_answered_102 q_11_247 (Nat.le_of_ble_eq_true rfl) rfl rfl (sh_130 n0) (Nat.le_of_ble_eq_true rfl) rfl rfl (by decide) (by decide) rfl ?_
        refine b_go (pc2 := 275) d_Mo_answered_105 rfl ?_
        refine b_vr d_Mo_answered_275 rfl ?_
        exact ⟨rfl, rfl, rfl, rfl, rfl⟩
      · rw [i_eq (by omega) (by omega)] at h58
        refine b_aln (pc2 := 62) d_Mo_answered_61 rfl rfl ?_
        refine b_gr (pc2 := 65) d_Mo_answered_62 q_11_72 (sh_130 n0) (by decide) (by decide) (p_130_28 n0) rfl ?_
        refine b_ic (pc2 := 66) (x := Int32.ofNat 3) d_Mo_answered_65 rfl rfl ?_
        refine b_ia (pc2 := 67) (q := 3) d_Mo_answered_66 (sh_150 n0) (i_in (i := 3) (by decide) (by decide)) (rfl) (rc_150) rfl ?_
        rw [hb3]
        refine b_bp (pc2 := 69) (x := Int32.ofNat 10) d_Mo_answered_67 rfl rfl ?_
        refine b_ifd (pc2 := 76) d_Mo_answered_69 rfl rfl rfl rfl rfl (fun h69 => ?_) (fun h69 => ?_)
        · rw [i_eq (by omega) (by omega)] at h69
          refine b_ic (pc2 := 77) (x := Int32.ofNat 0) d_Mo_answered_76 rfl rfl ?_
          refine b_isn (pc2 := 78) (al2 := [(2, _), (1, _), (0, _)]) d_Mo_answered_77 (by decide) rfl rfl ?_
          refine b_aln (pc2 := 79) d_Mo_answered_78 rfl rfl ?_
          refine b_iln (pc2 := 80) d_Mo_answered_79 rfl rfl ?_
          refine b_ifd (pc2 := 87) d_Mo_answered_80 rfl rfl rfl rfl rfl (fun h80 => ?_) (fun h80 => ?_)
          rotate_left
          · exact absurd (by decide) h80
          refine b_ic (pc2 := 88) (x := Int32.ofNat 2) d_Mo_answered_87 rfl rfl ?_
          refine b_iln (pc2 := 89) d_Mo_answered_88 rfl rfl ?_
          refine b_ifd (pc2 := 96) d_Mo_answered_89 rfl rfl rfl rfl rfl (fun h89 => ?_) (fun h89 => ?_)
          rotate_left
          · exact absurd (by decide) h89
          refine b_aln (pc2 := 97) d_Mo_answered_96 rfl rfl ?_
          refine b_gr (pc2 := 100) d_Mo_answered_97 q_11_72 (sh_130 n0) (by decide) (by decide) (p_130_28 n0) rfl ?_
          refine b_ic (pc2 := 101) (x := Int32.ofNat 3) d_Mo_answered_100 rfl rfl ?_
          refine b_ia (pc2 := 102) (q := 3) d_Mo_answered_101 (sh_150 n0) (i_in (i := 3) (by decide) (by decide)) (rfl) (rc_150) rfl ?_
          rw [hb3]
          refine b_cv0 (pc2 := 105) (c2 := 0) (u2 := 0) (mo_end (by omega)) d_Mo_answered_102 q_11_247 (Nat.le_of_ble_eq_true rfl) rfl rfl (sh_130 n0) (Nat.le_of_ble_eq_true rfl) rfl rfl (by decide) (by decide) rfl ?_
          refine b_go (pc2 := 275) d_Mo_answered_105 rfl ?_
          refine b_vr d_Mo_answered_275 rfl ?_
          exact ⟨rfl, rfl, rfl, rfl, rfl⟩
        · rw [i_eq (by omega) (by omega)] at h69
          omega
theorem mo_an_w {d : Nat} (hd : 5 ≤ d) {op sp : Nat} (hop : J 130 45 = Int32.ofNat op) (hop2 : op ≤ 6) (hsp : J 130 57 = Int32.ofNat sp) (hsp2 : op = 6 → sp = 0) (hsp3 : sp ≤ 1) {n : Nat} (hn : J 130 27 = Int32.ofNat n) (hn20 : n ≤ 20) {b0 : Nat} (hb : J 150 0 = Int32.ofNat b0) (hb2 : b0 < 256) {r0 : Nat} (hr : J 161 0 = Int32.ofNat r0) (hr2 : r0 < 256) (hx : ¬ (b0 = 1 ∧ n = 4)) (hw : ¬ b0 = r0 + 1) : bm d (S0 n0) R0 154 [.ref 130] W J g L (bR none W (am_u2 (am_u2 J 130 47 (Int32.ofNat 2)) 130 48 (Int32.ofNat 14)) g L) := by
  obtain ⟨e, rfl⟩ : ∃ e, d = e + 1 := ⟨d - 1, by omega⟩
  refine bm_of (Nat.le_of_ble_eq_true rfl) (Or.inr bR_ret) ?_
  show bT e (S0 n0) R0 mt_Mo_answered _ 0 [(0, .ref 130)] [] W J g L 0 0
  have hSR := SR0 n0
  refine b_aln (pc2 := 1) d_Mo_answered_0 rfl rfl ?_
  refine b_gi (pc2 := 4) d_Mo_answered_1 q_11_235 (sh_130 n0) (by decide) (by decide) (rc_130) rfl ?_
  rw [hop]
  refine b_bp (pc2 := 6) (x := Int32.ofNat 7) d_Mo_answered_4 rfl rfl ?_
  refine b_ifd (pc2 := 29) d_Mo_answered_6 rfl rfl rfl rfl rfl (fun h6 => ?_) (fun h6 => ?_)
  · exact absurd h6 (fun z => by rw [i_eq (by omega) (by omega)] at z; omega)
  refine b_aln (pc2 := 10) d_Mo_answered_9 rfl rfl ?_
  refine b_gi (pc2 := 13) d_Mo_answered_10 q_11_235 (sh_130 n0) (by decide) (by decide) (rc_130) rfl ?_
  rw [hop]
  refine b_bp (pc2 := 15) (x := Int32.ofNat 6) d_Mo_answered_13 rfl rfl ?_
  refine b_ifd (pc2 := 25) d_Mo_answered_15 rfl rfl rfl rfl rfl (fun h15 => ?_) (fun h15 => ?_)
  · rw [i_eq (by omega) (by omega)] at h15
    refine b_ic (pc2 := 26) (x := Int32.ofNat 1) d_Mo_answered_25 rfl rfl ?_
    refine b_go (pc2 := 30) d_Mo_answered_26 rfl ?_
    refine b_isn (pc2 := 31) (al2 := [(1, _), (0, _)]) d_Mo_answered_30 (by decide) rfl rfl ?_
    refine b_iln (pc2 := 32) d_Mo_answered_31 rfl rfl ?_
    refine b_ifd (pc2 := 108) d_Mo_answered_32 rfl rfl rfl rfl rfl (fun h32 => ?_) (fun h32 => ?_)
    · exact absurd h32 (by decide)
    refine b_aln (pc2 := 36) d_Mo_answered_35 rfl rfl ?_
    refine b_gr (pc2 := 39) d_Mo_answered_36 q_11_72 (sh_130 n0) (by decide) (by decide) (p_130_28 n0) rfl ?_
    refine b_ic (pc2 := 40) (x := Int32.ofNat 0) d_Mo_answered_39 rfl rfl ?_
    refine b_ia (pc2 := 41) (q := 0) d_Mo_answered_40 (sh_150 n0) (i_in (i := 0) (by decide) (by decide)) (rfl) (rc_150) rfl ?_
    rw [hb]
    refine b_ic (pc2 := 42) (x := Int32.ofNat 1) d_Mo_answered_41 rfl rfl ?_
    refine b_ifd (pc2 := 108) d_Mo_answered_42 rfl rfl rfl rfl rfl (fun h42 => ?_) (fun h42 => ?_)
    · rw [i_eq (by omega) (by omega)] at h42
      refine b_iln (pc2 := 109) d_Mo_answered_108 rfl rfl ?_
      refine b_ifd (pc2 := 139) d_Mo_answered_109 rfl rfl rfl rfl rfl (fun h109 => ?_) (fun h109 => ?_)
      · exact absurd h109 (by decide)
      refine b_aln (pc2 := 113) d_Mo_answered_112 rfl rfl ?_
      refine b_gr (pc2 := 116) d_Mo_answered_113 q_11_72 (sh_130 n0) (by decide) (by decide) (p_130_28 n0) rfl ?_
      refine b_ic (pc2 := 117) (x := Int32.ofNat 0) d_Mo_answered_116 rfl rfl ?_
      refine b_ia (pc2 := 118) (q := 0) d_Mo_answered_117 (sh_150 n0) (i_in (i := 0) (by decide) (by decide)) (rfl) (rc_150) rfl ?_
      rw [hb]
      refine b_aln (pc2 := 119) d_Mo_answered_118 rfl rfl ?_
      refine b_gr (pc2 := 122) d_Mo_answered_119 q_11_114 (sh_130 n0) (by decide) (by decide) (p_130_51 n0) rfl ?_
      refine b_ic (pc2 := 123) (x := Int32.ofNat 0) d_Mo_answered_122 rfl rfl ?_
      refine b_ia (pc2 := 124) (q := 0) d_Mo_answered_123 (sh_161 n0) (i_in (i := 0) (by decide) (by decide)) (rfl) (rc_161) rfl ?_
      rw [hr]
      refine b_ic (pc2 := 125) (x := Int32.ofNat 1) d_Mo_answered_124 rfl rfl ?_
      refine b_pure (pc2 := 126) d_Mo_answered_125 rfl rfl rfl ?_
      rw [i_add]
      refine b_ifd (pc2 := 139) d_Mo_answered_126 rfl rfl rfl rfl rfl (fun h126 => ?_) (fun h126 => ?_)
      · exact absurd h126 (fun z => by rw [i_eq (by omega) (by omega)] at z; omega)
      refine b_aln (pc2 := 130) d_Mo_answered_129 rfl rfl ?_
      refine b_ic (pc2 := 131) (x := Int32.ofNat 2) d_Mo_answered_130 rfl rfl ?_
      refine b_bp (pc2 := 133) (x := Int32.ofNat 14) d_Mo_answered_131 rfl rfl ?_
      refine b_cv0 (pc2 := 136) (c2 := 0) (u2 := 0) (mo_end (by omega)) d_Mo_answered_133 q_11_247 (Nat.le_of_ble_eq_true rfl) rfl rfl (sh_130 n0) (Nat.le_of_ble_eq_true rfl) rfl rfl (by decide) (by decide) rfl ?_
      refine b_go (pc2 := 275) d_Mo_answered_136 rfl ?_
      refine b_vr d_Mo_answered_275 rfl ?_
      exact ⟨rfl, rfl, rfl, rfl, rfl⟩
    · rw [i_eq (by omega) (by omega)] at h42
      refine b_aln (pc2 := 46) d_Mo_answered_45 rfl rfl ?_
      refine b_gi (pc2 := 49) d_Mo_answered_46 q_11_174 (sh_130 n0) (by decide) (by decide) (rc_130) rfl ?_
      rw [hn]
      refine b_ic (pc2 := 50) (x := Int32.ofNat 4) d_Mo_answered_49 rfl rfl ?_
      refine b_ifd (pc2 := 108) d_Mo_answered_50 rfl rfl rfl rfl rfl (fun h50 => ?_) (fun h50 => ?_)
      · rw [i_eq (by omega) (by omega)] at h50
        refine b_iln (pc2 := 109) d_Mo_answered_108 rfl rfl ?_
        refine b_ifd (pc2 := 139) d_Mo_answered_109 rfl rfl rfl rfl rfl (fun h109 => ?_) (fun h109 => ?_)
        · exact absurd h109 (by decide)
        refine b_aln (pc2 := 113) d_Mo_answered_112 rfl rfl ?_
        refine b_gr (pc2 := 116) d_Mo_answered_113 q_11_72 (sh_130 n0) (by decide) (by decide) (p_130_28 n0) rfl ?_
        refine b_ic (pc2 := 117) (x := Int32.ofNat 0) d_Mo_answered_116 rfl rfl ?_
        refine b_ia (pc2 := 118) (q := 0) d_Mo_answered_117 (sh_150 n0) (i_in (i := 0) (by decide) (by decide)) (rfl) (rc_150) rfl ?_
        rw [hb]
        refine b_aln (pc2 := 119) d_Mo_answered_118 rfl rfl ?_
        refine b_gr (pc2 := 122) d_Mo_answered_119 q_11_114 (sh_130 n0) (by decide) (by decide) (p_130_51 n0) rfl ?_
        refine b_ic (pc2 := 123) (x := Int32.ofNat 0) d_Mo_answered_122 rfl rfl ?_
        refine b_ia (pc2 := 124) (q := 0) d_Mo_answered_123 (sh_161 n0) (i_in (i := 0) (by decide) (by decide)) (rfl) (rc_161) rfl ?_
        rw [hr]
        refine b_ic (pc2 := 125) (x := Int32.ofNat 1) d_Mo_answered_124 rfl rfl ?_
        refine b_pure (pc2 := 126) d_Mo_answered_125 rfl rfl rfl ?_
        rw [i_add]
        refine b_ifd (pc2 := 139) d_Mo_answered_126 rfl rfl rfl rfl rfl (fun h126 => ?_) (fun h126 => ?_)
        · exact absurd h126 (fun z => by rw [i_eq (by omega) (by omega)] at z; omega)
        refine b_aln (pc2 := 130) d_Mo_answered_129 rfl rfl ?_
        refine b_ic (pc2 := 131) (x := Int32.ofNat 2) d_Mo_answered_130 rfl rfl ?_
        refine b_bp (pc2 := 133) (x := Int32.ofNat 14) d_Mo_answered_131 rfl rfl ?_
        refine b_cv0 (pc2 := 136) (c2 := 0) (u2 := 0) (mo_end (by omega)) d_Mo_answered_133 q_11_247 (Nat.le_of_ble_eq_true rfl) rfl rfl (sh_130 n0) (Nat.le_of_ble_eq_true rfl) rfl rfl (by decide) (by decide) rfl ?_
        refine b_go (pc2 := 275) d_Mo_answered_136 rfl ?_
        refine b_vr d_Mo_answered_275 rfl ?_
        exact ⟨rfl, rfl, rfl, rfl, rfl⟩
      · rw [i_eq (by omega) (by omega)] at h50
        omega
  · rw [i_eq (by omega) (by omega)] at h15
    refine b_aln (pc2 := 19) d_Mo_answered_18 rfl rfl ?_
    refine b_gi (pc2 := 22) d_Mo_answered_19 q_11_244 (sh_130 n0) (by decide) (by decide) (rc_130) rfl ?_
    rw [hsp]
    refine b_ifd (pc2 := 29) d_Mo_answered_22 rfl rfl rfl rfl rfl (fun h22 => ?_) (fun h22 => ?_)
    · rw [z_eq (by omega)] at h22
      omega
    · rw [z_eq (by omega)] at h22
      refine b_ic (pc2 := 26) (x := Int32.ofNat 1) d_Mo_answered_25 rfl rfl ?_
      refine b_go (pc2 := 30) d_Mo_answered_26 rfl ?_
      refine b_isn (pc2 := 31) (al2 := [(1, _), (0, _)]) d_Mo_answered_30 (by decide) rfl rfl ?_
      refine b_iln (pc2 := 32) d_Mo_answered_31 rfl rfl ?_
      refine b_ifd (pc2 := 108) d_Mo_answered_32 rfl rfl rfl rfl rfl (fun h32 => ?_) (fun h32 => ?_)
      · exact absurd h32 (by decide)
      refine b_aln (pc2 := 36) d_Mo_answered_35 rfl rfl ?_
      refine b_gr (pc2 := 39) d_Mo_answered_36 q_11_72 (sh_130 n0) (by decide) (by decide) (p_130_28 n0) rfl ?_
      refine b_ic (pc2 := 40) (x := Int32.ofNat 0) d_Mo_answered_39 rfl rfl ?_
      refine b_ia (pc2 := 41) (q := 0) d_Mo_answered_40 (sh_150 n0) (i_in (i := 0) (by decide) (by decide)) (rfl) (rc_150) rfl ?_
      rw [hb]
      refine b_ic (pc2 := 42) (x := Int32.ofNat 1) d_Mo_answered_41 rfl rfl ?_
      refine b_ifd (pc2 := 108) d_Mo_answered_42 rfl rfl rfl rfl rfl (fun h42 => ?_) (fun h42 => ?_)
      · rw [i_eq (by omega) (by omega)] at h42
        refine b_iln (pc2 := 109) d_Mo_answered_108 rfl rfl ?_
        refine b_ifd (pc2 := 139) d_Mo_answered_109 rfl rfl rfl rfl rfl (fun h109 => ?_) (fun h109 => ?_)
        · exact absurd h109 (by decide)
        refine b_aln (pc2 := 113) d_Mo_answered_112 rfl rfl ?_
        refine b_gr (pc2 := 116) d_Mo_answered_113 q_11_72 (sh_130 n0) (by decide) (by decide) (p_130_28 n0) rfl ?_
        refine b_ic (pc2 := 117) (x := Int32.ofNat 0) d_Mo_answered_116 rfl rfl ?_
        refine b_ia (pc2 := 118) (q := 0) d_Mo_answered_117 (sh_150 n0) (i_in (i := 0) (by decide) (by decide)) (rfl) (rc_150) rfl ?_
        rw [hb]
        refine b_aln (pc2 := 119) d_Mo_answered_118 rfl rfl ?_
        refine b_gr (pc2 := 122) d_Mo_answered_119 q_11_114 (sh_130 n0) (by decide) (by decide) (p_130_51 n0) rfl ?_
        refine b_ic (pc2 := 123) (x := Int32.ofNat 0) d_Mo_answered_122 rfl rfl ?_
        refine b_ia (pc2 := 124) (q := 0) d_Mo_answered_123 (sh_161 n0) (i_in (i := 0) (by decide) (by decide)) (rfl) (rc_161) rfl ?_
        rw [hr]
        refine b_ic (pc2 := 125) (x := Int32.ofNat 1) d_Mo_answered_124 rfl rfl ?_
        refine b_pure (pc2 := 126) d_Mo_answered_125 rfl rfl rfl ?_
        rw [i_add]
        refine b_ifd (pc2 := 139) d_Mo_answered_126 rfl rfl rfl rfl rfl (fun h126 => ?_) (fun h126 => ?_)
        · exact absurd h126 (fun z => by rw [i_eq (by omega) (by omega)] at z; omega)
        refine b_aln (pc2 := 130) d_Mo_answered_129 rfl rfl ?_
        refine b_ic (pc2 := 131) (x := Int32.ofNat 2) d_Mo_answered_130 rfl rfl ?_
        refine b_bp (pc2 := 133) (x := Int32.ofNat 14) d_Mo_answered_131 rfl rfl ?_
        refine b_cv0 (pc2 := 136) (c2 := 0) (u2 := 0) (mo_end (by omega)) d_Mo_answered_133 q_11_247 (Nat.le_of_ble_eq_true rfl) rfl rfl (sh_130 n0) (Nat.le_of_ble_eq_true rfl) rfl rfl (by decide) (by decide) rfl ?_
        refine b_go (pc2 := 275) d_Mo_answered_136 rfl ?_
        refine b_vr d_Mo_answered_275 rfl ?_
        exact ⟨rfl, rfl, rfl, rfl, rfl⟩
      · rw [i_eq (by omega) (by omega)] at h42
        refine b_aln (pc2 := 46) d_Mo_answered_45 rfl rfl ?_
        refine b_gi (pc2 := 49) d_Mo_answered_46 q_11_174 (sh_130 n0) (by decide) (by decide) (rc_130) rfl ?_
        rw [hn]
        refine b_ic (pc2 := 50) (x := Int32.ofNat 4) d_Mo_answered_49 rfl rfl ?_
        refine b_ifd (pc2 := 108) d_Mo_answered_50 rfl rfl rfl rfl rfl (fun h50 => ?_) (fun h50 => ?_)
        · rw [i_eq (by omega) (by omega)] at h50
          refine b_iln (pc2 := 109) d_Mo_answered_108 rfl rfl ?_
          refine b_ifd (pc2 := 139) d_Mo_answered_109 rfl rfl rfl rfl rfl (fun h109 => ?_) (fun h109 => ?_)
          · exact absurd h109 (by decide)
          refine b_aln (pc2 := 113) d_Mo_answered_112 rfl rfl ?_
          refine b_gr (pc2 := 116) d_Mo_answered_113 q_11_72 (sh_130 n0) (by decide) (by decide) (p_130_28 n0) rfl ?_
          refine b_ic (pc2 := 117) (x := Int32.ofNat 0) d_Mo_answered_116 rfl rfl ?_
          refine b_ia (pc2 := 118) (q := 0) d_Mo_answered_117 (sh_150 n0) (i_in (i := 0) (by decide) (by decide)) (rfl) (rc_150) rfl ?_
          rw [hb]
          refine b_aln (pc2 := 119) d_Mo_answered_118 rfl rfl ?_
          refine b_gr (pc2 := 122) d_Mo_answered_119 q_11_114 (sh_130 n0) (by decide) (by decide) (p_130_51 n0) rfl ?_
          refine b_ic (pc2 := 123) (x := Int32.ofNat 0) d_Mo_answered_122 rfl rfl ?_
          refine b_ia (pc2 := 124) (q := 0) d_Mo_answered_123 (sh_161 n0) (i_in (i := 0) (by decide) (by decide)) (rfl) (rc_161) rfl ?_
          rw [hr]
          refine b_ic (pc2 := 125) (x := Int32.ofNat 1) d_Mo_answered_124 rfl rfl ?_
          refine b_pure (pc2 := 126) d_Mo_answered_125 rfl rfl rfl ?_
          rw [i_add]
          refine b_ifd (pc2 := 139) d_Mo_answered_126 rfl rfl rfl rfl rfl (fun h126 => ?_) (fun h126 => ?_)
          · exact absurd h126 (fun z => by rw [i_eq (by omega) (by omega)] at z; omega)
          refine b_aln (pc2 := 130) d_Mo_answered_129 rfl rfl ?_
          refine b_ic (pc2 := 131) (x := Int32.ofNat 2) d_Mo_answered_130 rfl rfl ?_
          refine b_bp (pc2 := 133) (x := Int32.ofNat 14) d_Mo_answered_131 rfl rfl ?_
          refine b_cv0 (pc2 := 136) (c2 := 0) (u2 := 0) (mo_end (by omega)) d_Mo_answered_133 q_11_247 (Nat.le_of_ble_eq_true rfl) rfl rfl (sh_130 n0) (Nat.le_of_ble_eq_true rfl) rfl rfl (by decide) (by decide) rfl ?_
          refine b_go (pc2 := 275) d_Mo_answered_136 rfl ?_
          refine b_vr d_Mo_answered_275 rfl ?_
          exact ⟨rfl, rfl, rfl, rfl, rfl⟩
        · rw [i_eq (by omega) (by omega)] at h50
          omega
theorem mo_an_1 {d : Nat} (hd : 5 ≤ d) (hop : J 130 45 = Int32.ofNat 1) {n : Nat} (hn : J 130 27 = Int32.ofNat n) (hn20 : n ≤ 20) {b0 : Nat} (hb : J 150 0 = Int32.ofNat b0) (hb2 : b0 < 256) {r0 : Nat} (hr : J 161 0 = Int32.ofNat r0) (hr2 : r0 < 256) (hx : ¬ (b0 = 1 ∧ n = 4)) (hw : b0 = r0 + 1) (hA : ∀ e, 2 ≤ e → bm e (S0 n0) R0 156 [.ref 130] W J g L (bR none W J1 g L)) : bm d (S0 n0) R0 154 [.ref 130] W J g L (bR none W J1 g L) := by
  obtain ⟨e, rfl⟩ : ∃ e, d = e + 1 := ⟨d - 1, by omega⟩
  refine bm_of (Nat.le_of_ble_eq_true rfl) (Or.inr bR_ret) ?_
  show bT e (S0 n0) R0 mt_Mo_answered _ 0 [(0, .ref 130)] [] W J g L 0 0
  have hSR := SR0 n0
  refine b_aln (pc2 := 1) d_Mo_answered_0 rfl rfl ?_
  refine b_gi (pc2 := 4) d_Mo_answered_1 q_11_235 (sh_130 n0) (by decide) (by decide) (rc_130) rfl ?_
  rw [hop]
  refine b_bp (pc2 := 6) (x := Int32.ofNat 7) d_Mo_answered_4 rfl rfl ?_
  refine b_ifd (pc2 := 29) d_Mo_answered_6 rfl rfl rfl rfl rfl (fun h6 => ?_) (fun h6 => ?_)
  · exact absurd h6 (by decide)
  refine b_aln (pc2 := 10) d_Mo_answered_9 rfl rfl ?_
  refine b_gi (pc2 := 13) d_Mo_answered_10 q_11_235 (sh_130 n0) (by decide) (by decide) (rc_130) rfl ?_
  rw [hop]
  refine b_bp (pc2 := 15) (x := Int32.ofNat 6) d_Mo_answered_13 rfl rfl ?_
  refine b_ifd (pc2 := 25) d_Mo_answered_15 rfl rfl rfl rfl rfl (fun h15 => ?_) (fun h15 => ?_)
  rotate_left
  · exact absurd (by decide) h15
  refine b_ic (pc2 := 26) (x := Int32.ofNat 1) d_Mo_answered_25 rfl rfl ?_
  refine b_go (pc2 := 30) d_Mo_answered_26 rfl ?_
  refine b_isn (pc2 := 31) (al2 := [(1, _), (0, _)]) d_Mo_answered_30 (by decide) rfl rfl ?_
  refine b_iln (pc2 := 32) d_Mo_answered_31 rfl rfl ?_
  refine b_ifd (pc2 := 108) d_Mo_answered_32 rfl rfl rfl rfl rfl (fun h32 => ?_) (fun h32 => ?_)
  · exact absurd h32 (by decide)
  refine b_aln (pc2 := 36) d_Mo_answered_35 rfl rfl ?_
  refine b_gr (pc2 := 39) d_Mo_answered_36 q_11_72 (sh_130 n0) (by decide) (by decide) (p_130_28 n0) rfl ?_
  refine b_ic (pc2 := 40) (x := Int32.ofNat 0) d_Mo_answered_39 rfl rfl ?_
  refine b_ia (pc2 := 41) (q := 0) d_Mo_answered_40 (sh_150 n0) (i_in (i := 0) (by decide) (by decide)) (rfl) (rc_150) rfl ?_
  rw [hb]
  refine b_ic (pc2 := 42) (x := Int32.ofNat 1) d_Mo_answered_41 rfl rfl ?_
  refine b_ifd (pc2 := 108) d_Mo_answered_42 rfl rfl rfl rfl rfl (fun h42 => ?_) (fun h42 => ?_)
  · rw [i_eq (by omega) (by omega)] at h42
    refine b_iln (pc2 := 109) d_Mo_answered_108 rfl rfl ?_
    refine b_ifd (pc2 := 139) d_Mo_answered_109 rfl rfl rfl rfl rfl (fun h109 => ?_) (fun h109 => ?_)
    · exact absurd h109 (by decide)
    refine b_aln (pc2 := 113) d_Mo_answered_112 rfl rfl ?_
    refine b_gr (pc2 := 116) d_Mo_answered_113 q_11_72 (sh_130 n0) (by decide) (by decide) (p_130_28 n0) rfl ?_
    refine b_ic (pc2 := 117) (x := Int32.ofNat 0) d_Mo_answered_116 rfl rfl ?_
    refine b_ia (pc2 := 118) (q := 0) d_Mo_answered_117 (sh_150 n0) (i_in (i := 0) (by decide) (by decide)) (rfl) (rc_150) rfl ?_
    rw [hb]
    refine b_aln (pc2 := 119) d_Mo_answered_118 rfl rfl ?_
    refine b_gr (pc2 := 122) d_Mo_answered_119 q_11_114 (sh_130 n0) (by decide) (by decide) (p_130_51 n0) rfl ?_
    refine b_ic (pc2 := 123) (x := Int32.ofNat 0) d_Mo_answered_122 rfl rfl ?_
    refine b_ia (pc2 := 124) (q := 0) d_Mo_answered_123 (sh_161 n0) (i_in (i := 0) (by decide) (by decide)) (rfl) (rc_161) rfl ?_
    rw [hr]
    refine b_ic (pc2 := 125) (x := Int32.ofNat 1) d_Mo_answered_124 rfl rfl ?_
    refine b_pure (pc2 := 126) d_Mo_answered_125 rfl rfl rfl ?_
    rw [i_add]
    refine b_ifd (pc2 := 139) d_Mo_answered_126 rfl rfl rfl rfl rfl (fun h126 => ?_) (fun h126 => ?_)
    rotate_left
    · exact absurd (by rw [i_eq (by omega) (by omega)]; omega) h126
    refine b_aln (pc2 := 140) d_Mo_answered_139 rfl rfl ?_
    refine b_gi (pc2 := 143) d_Mo_answered_140 q_11_235 (sh_130 n0) (by decide) (by decide) (rc_130) rfl ?_
    rw [hop]
    refine b_ic (pc2 := 144) (x := Int32.ofNat 1) d_Mo_answered_143 rfl rfl ?_
    refine b_ifd (pc2 := 154) d_Mo_answered_144 rfl rfl rfl rfl rfl (fun h144 => ?_) (fun h144 => ?_)
    · exact absurd h144 (by decide)
    refine b_aln (pc2 := 148) d_Mo_answered_147 rfl rfl ?_
    refine b_cv0 (pc2 := 151) (c2 := 0) (u2 := 0) (hA e (by omega)) d_Mo_answered_148 q_11_250 (Nat.le_of_ble_eq_true rfl) rfl rfl (sh_130 n0) (Nat.le_of_ble_eq_true rfl) rfl rfl (by decide) (by decide) rfl ?_
    refine b_go (pc2 := 275) d_Mo_answered_151 rfl ?_
    refine b_vr d_Mo_answered_275 rfl ?_
    exact ⟨rfl, rfl, rfl, rfl, rfl⟩
  · rw [i_eq (by omega) (by omega)] at h42
    refine b_aln (pc2 := 46) d_Mo_answered_45 rfl rfl ?_
    refine b_gi (pc2 := 49) d_Mo_answered_46 q_11_174 (sh_130 n0) (by decide) (by decide) (rc_130) rfl ?_
    rw [hn]
    refine b_ic (pc2 := 50) (x := Int32.ofNat 4) d_Mo_answered_49 rfl rfl ?_
    refine b_ifd (pc2 := 108) d_Mo_answered_50 rfl rfl rfl rfl rfl (fun h50 => ?_) (fun h50 => ?_)
    · rw [i_eq (by omega) (by omega)] at h50
      refine b_iln (pc2 := 109) d_Mo_answered_108 rfl rfl ?_
      refine b_ifd (pc2 := 139) d_Mo_answered_109 rfl rfl rfl rfl rfl (fun h109 => ?_) (fun h109 => ?_)
      · exact absurd h109 (by decide)
      refine b_aln (pc2 := 113) d_Mo_answered_112 rfl rfl ?_
      refine b_gr (pc2 := 116) d_Mo_answered_113 q_11_72 (sh_130 n0) (by decide) (by decide) (p_130_28 n0) rfl ?_
      refine b_ic (pc2 := 117) (x := Int32.ofNat 0) d_Mo_answered_116 rfl rfl ?_
      refine b_ia (pc2 := 118) (q := 0) d_Mo_answered_117 (sh_150 n0) (i_in (i := 0) (by decide) (by decide)) (rfl) (rc_150) rfl ?_
      rw [hb]
      refine b_aln (pc2 := 119) d_Mo_answered_118 rfl rfl ?_
      refine b_gr (pc2 := 122) d_Mo_answered_119 q_11_114 (sh_130 n0) (by decide) (by decide) (p_130_51 n0) rfl ?_
      refine b_ic (pc2 := 123) (x := Int32.ofNat 0) d_Mo_answered_122 rfl rfl ?_
      refine b_ia (pc2 := 124) (q := 0) d_Mo_answered_123 (sh_161 n0) (i_in (i := 0) (by decide) (by decide)) (rfl) (rc_161) rfl ?_
      rw [hr]
      refine b_ic (pc2 := 125) (x := Int32.ofNat 1) d_Mo_answered_124 rfl rfl ?_
      refine b_pure (pc2 := 126) d_Mo_answered_125 rfl rfl rfl ?_
      rw [i_add]
      refine b_ifd (pc2 := 139) d_Mo_answered_126 rfl rfl rfl rfl rfl (fun h126 => ?_) (fun h126 => ?_)
      rotate_left
      · exact absurd (by rw [i_eq (by omega) (by omega)]; omega) h126
      refine b_aln (pc2 := 140) d_Mo_answered_139 rfl rfl ?_
      refine b_gi (pc2 := 143) d_Mo_answered_140 q_11_235 (sh_130 n0) (by decide) (by decide) (rc_130) rfl ?_
      rw [hop]
      refine b_ic (pc2 := 144) (x := Int32.ofNat 1) d_Mo_answered_143 rfl rfl ?_
      refine b_ifd (pc2 := 154) d_Mo_answered_144 rfl rfl rfl rfl rfl (fun h144 => ?_) (fun h144 => ?_)
      · exact absurd h144 (by decide)
      refine b_aln (pc2 := 148) d_Mo_answered_147 rfl rfl ?_
      refine b_cv0 (pc2 := 151) (c2 := 0) (u2 := 0) (hA e (by omega)) d_Mo_answered_148 q_11_250 (Nat.le_of_ble_eq_true rfl) rfl rfl (sh_130 n0) (Nat.le_of_ble_eq_true rfl) rfl rfl (by decide) (by decide) rfl ?_
      refine b_go (pc2 := 275) d_Mo_answered_151 rfl ?_
      refine b_vr d_Mo_answered_275 rfl ?_
      exact ⟨rfl, rfl, rfl, rfl, rfl⟩
    · rw [i_eq (by omega) (by omega)] at h50
      omega
theorem mo_an_2 {d : Nat} (hd : 5 ≤ d) (hop : J 130 45 = Int32.ofNat 2) {n : Nat} (hn : J 130 27 = Int32.ofNat n) (hn20 : n ≤ 20) {b0 : Nat} (hb : J 150 0 = Int32.ofNat b0) (hb2 : b0 < 256) {r0 : Nat} (hr : J 161 0 = Int32.ofNat r0) (hr2 : r0 < 256) (hx : ¬ (b0 = 1 ∧ n = 4)) (hw : b0 = r0 + 1) (hA : ∀ e, 4 ≤ e → bm e (S0 n0) R0 157 [.ref 130] W J g L (bR none W J1 g L)) : bm d (S0 n0) R0 154 [.ref 130] W J g L (bR none W J1 g L) := by
  obtain ⟨e, rfl⟩ : ∃ e, d = e + 1 := ⟨d - 1, by omega⟩
  refine bm_of (Nat.le_of_ble_eq_true rfl) (Or.inr bR_ret) ?_
  show bT e (S0 n0) R0 mt_Mo_answered _ 0 [(0, .ref 130)] [] W J g L 0 0
  have hSR := SR0 n0
  refine b_aln (pc2 := 1) d_Mo_answered_0 rfl rfl ?_
  refine b_gi (pc2 := 4) d_Mo_answered_1 q_11_235 (sh_130 n0) (by decide) (by decide) (rc_130) rfl ?_
  rw [hop]
  refine b_bp (pc2 := 6) (x := Int32.ofNat 7) d_Mo_answered_4 rfl rfl ?_
  refine b_ifd (pc2 := 29) d_Mo_answered_6 rfl rfl rfl rfl rfl (fun h6 => ?_) (fun h6 => ?_)
  · exact absurd h6 (by decide)
  refine b_aln (pc2 := 10) d_Mo_answered_9 rfl rfl ?_
  refine b_gi (pc2 := 13) d_Mo_answered_10 q_11_235 (sh_130 n0) (by decide) (by decide) (rc_130) rfl ?_
  rw [hop]
  refine b_bp (pc2 := 15) (x := Int32.ofNat 6) d_Mo_answered_13 rfl rfl ?_
  refine b_ifd (pc2 := 25) d_Mo_answered_15 rfl rfl rfl rfl rfl (fun h15 => ?_) (fun h15 => ?_)
  rotate_left
  · exact absurd (by decide) h15
  refine b_ic (pc2 := 26) (x := Int32.ofNat 1) d_Mo_answered_25 rfl rfl ?_
  refine b_go (pc2 := 30) d_Mo_answered_26 rfl ?_
  refine b_isn (pc2 := 31) (al2 := [(1, _), (0, _)]) d_Mo_answered_30 (by decide) rfl rfl ?_
  refine b_iln (pc2 := 32) d_Mo_answered_31 rfl rfl ?_
  refine b_ifd (pc2 := 108) d_Mo_answered_32 rfl rfl rfl rfl rfl (fun h32 => ?_) (fun h32 => ?_)
  · exact absurd h32 (by decide)
  refine b_aln (pc2 := 36) d_Mo_answered_35 rfl rfl ?_
  refine b_gr (pc2 := 39) d_Mo_answered_36 q_11_72 (sh_130 n0) (by decide) (by decide) (p_130_28 n0) rfl ?_
  refine b_ic (pc2 := 40) (x := Int32.ofNat 0) d_Mo_answered_39 rfl rfl ?_
  refine b_ia (pc2 := 41) (q := 0) d_Mo_answered_40 (sh_150 n0) (i_in (i := 0) (by decide) (by decide)) (rfl) (rc_150) rfl ?_
  rw [hb]
  refine b_ic (pc2 := 42) (x := Int32.ofNat 1) d_Mo_answered_41 rfl rfl ?_
  refine b_ifd (pc2 := 108) d_Mo_answered_42 rfl rfl rfl rfl rfl (fun h42 => ?_) (fun h42 => ?_)
  · rw [i_eq (by omega) (by omega)] at h42
    refine b_iln (pc2 := 109) d_Mo_answered_108 rfl rfl ?_
    refine b_ifd (pc2 := 139) d_Mo_answered_109 rfl rfl rfl rfl rfl (fun h109 => ?_) (fun h109 => ?_)
    · exact absurd h109 (by decide)
    refine b_aln (pc2 := 113) d_Mo_answered_112 rfl rfl ?_
    refine b_gr (pc2 := 116) d_Mo_answered_113 q_11_72 (sh_130 n0) (by decide) (by decide) (p_130_28 n0) rfl ?_
    refine b_ic (pc2 := 117) (x := Int32.ofNat 0) d_Mo_answered_116 rfl rfl ?_
    refine b_ia (pc2 := 118) (q := 0) d_Mo_answered_117 (sh_150 n0) (i_in (i := 0) (by decide) (by decide)) (rfl) (rc_150) rfl ?_
    rw [hb]
    refine b_aln (pc2 := 119) d_Mo_answered_118 rfl rfl ?_
    refine b_gr (pc2 := 122) d_Mo_answered_119 q_11_114 (sh_130 n0) (by decide) (by decide) (p_130_51 n0) rfl ?_
    refine b_ic (pc2 := 123) (x := Int32.ofNat 0) d_Mo_answered_122 rfl rfl ?_
    refine b_ia (pc2 := 124) (q := 0) d_Mo_answered_123 (sh_161 n0) (i_in (i := 0) (by decide) (by decide)) (rfl) (rc_161) rfl ?_
    rw [hr]
    refine b_ic (pc2 := 125) (x := Int32.ofNat 1) d_Mo_answered_124 rfl rfl ?_
    refine b_pure (pc2 := 126) d_Mo_answered_125 rfl rfl rfl ?_
    rw [i_add]
    refine b_ifd (pc2 := 139) d_Mo_answered_126 rfl rfl rfl rfl rfl (fun h126 => ?_) (fun h126 => ?_)
    rotate_left
    · exact absurd (by rw [i_eq (by omega) (by omega)]; omega) h126
    refine b_aln (pc2 := 140) d_Mo_answered_139 rfl rfl ?_
    refine b_gi (pc2 := 143) d_Mo_answered_140 q_11_235 (sh_130 n0) (by decide) (by decide) (rc_130) rfl ?_
    rw [hop]
    refine b_ic (pc2 := 144) (x := Int32.ofNat 1) d_Mo_answered_143 rfl rfl ?_
    refine b_ifd (pc2 := 154) d_Mo_answered_144 rfl rfl rfl rfl rfl (fun h144 => ?_) (fun h144 => ?_)
    rotate_left
    · exact absurd (by decide) h144
    refine b_aln (pc2 := 155) d_Mo_answered_154 rfl rfl ?_
    refine b_gi (pc2 := 158) d_Mo_answered_155 q_11_235 (sh_130 n0) (by decide) (by decide) (rc_130) rfl ?_
    rw [hop]
    refine b_ic (pc2 := 159) (x := Int32.ofNat 2) d_Mo_answered_158 rfl rfl ?_
    refine b_ifd (pc2 := 170) d_Mo_answered_159 rfl rfl rfl rfl rfl (fun h159 => ?_) (fun h159 => ?_)
    rotate_left
    · exact absurd (by decide) h159
    refine b_aln (pc2 := 171) d_Mo_answered_170 rfl rfl ?_
    refine b_cv0 (pc2 := 174) (c2 := 0) (u2 := 0) (hA e (by omega)) d_Mo_answered_171 q_11_253 (Nat.le_of_ble_eq_true rfl) rfl rfl (sh_130 n0) (Nat.le_of_ble_eq_true rfl) rfl rfl (by decide) (by decide) rfl ?_
    refine b_go (pc2 := 275) d_Mo_answered_174 rfl ?_
    refine b_vr d_Mo_answered_275 rfl ?_
    exact ⟨rfl, rfl, rfl, rfl, rfl⟩
  · rw [i_eq (by omega) (by omega)] at h42
    refine b_aln (pc2 := 46) d_Mo_answered_45 rfl rfl ?_
    refine b_gi (pc2 := 49) d_Mo_answered_46 q_11_174 (sh_130 n0) (by decide) (by decide) (rc_130) rfl ?_
    rw [hn]
    refine b_ic (pc2 := 50) (x := Int32.ofNat 4) d_Mo_answered_49 rfl rfl ?_
    refine b_ifd (pc2 := 108) d_Mo_answered_50 rfl rfl rfl rfl rfl (fun h50 => ?_) (fun h50 => ?_)
    · rw [i_eq (by omega) (by omega)] at h50
      refine b_iln (pc2 := 109) d_Mo_answered_108 rfl rfl ?_
      refine b_ifd (pc2 := 139) d_Mo_answered_109 rfl rfl rfl rfl rfl (fun h109 => ?_) (fun h109 => ?_)
      · exact absurd h109 (by decide)
      refine b_aln (pc2 := 113) d_Mo_answered_112 rfl rfl ?_
      refine b_gr (pc2 := 116) d_Mo_answered_113 q_11_72 (sh_130 n0) (by decide) (by decide) (p_130_28 n0) rfl ?_
      refine b_ic (pc2 := 117) (x := Int32.ofNat 0) d_Mo_answered_116 rfl rfl ?_
      refine b_ia (pc2 := 118) (q := 0) d_Mo_answered_117 (sh_150 n0) (i_in (i := 0) (by decide) (by decide)) (rfl) (rc_150) rfl ?_
      rw [hb]
      refine b_aln (pc2 := 119) d_Mo_answered_118 rfl rfl ?_
      refine b_gr (pc2 := 122) d_Mo_answered_119 q_11_114 (sh_130 n0) (by decide) (by decide) (p_130_51 n0) rfl ?_
      refine b_ic (pc2 := 123) (x := Int32.ofNat 0) d_Mo_answered_122 rfl rfl ?_
      refine b_ia (pc2 := 124) (q := 0) d_Mo_answered_123 (sh_161 n0) (i_in (i := 0) (by decide) (by decide)) (rfl) (rc_161) rfl ?_
      rw [hr]
      refine b_ic (pc2 := 125) (x := Int32.ofNat 1) d_Mo_answered_124 rfl rfl ?_
      refine b_pure (pc2 := 126) d_Mo_answered_125 rfl rfl rfl ?_
      rw [i_add]
      refine b_ifd (pc2 := 139) d_Mo_answered_126 rfl rfl rfl rfl rfl (fun h126 => ?_) (fun h126 => ?_)
      rotate_left
      · exact absurd (by rw [i_eq (by omega) (by omega)]; omega) h126
      refine b_aln (pc2 := 140) d_Mo_answered_139 rfl rfl ?_
      refine b_gi (pc2 := 143) d_Mo_answered_140 q_11_235 (sh_130 n0) (by decide) (by decide) (rc_130) rfl ?_
      rw [hop]
      refine b_ic (pc2 := 144) (x := Int32.ofNat 1) d_Mo_answered_143 rfl rfl ?_
      refine b_ifd (pc2 := 154) d_Mo_answered_144 rfl rfl rfl rfl rfl (fun h144 => ?_) (fun h144 => ?_)
      rotate_left
      · exact absurd (by decide) h144
      refine b_aln (pc2 := 155) d_Mo_answered_154 rfl rfl ?_
      refine b_gi (pc2 := 158) d_Mo_answered_155 q_11_235 (sh_130 n0) (by decide) (by decide) (rc_130) rfl ?_
      rw [hop]
      refine b_ic (pc2 := 159) (x := Int32.ofNat 2) d_Mo_answered_158 rfl rfl ?_
      refine b_ifd (pc2 := 170) d_Mo_answered_159 rfl rfl rfl rfl rfl (fun h159 => ?_) (fun h159 => ?_)
      rotate_left
      · exact absurd (by decide) h159
      refine b_aln (pc2 := 171) d_Mo_answered_170 rfl rfl ?_
      refine b_cv0 (pc2 := 174) (c2 := 0) (u2 := 0) (hA e (by omega)) d_Mo_answered_171 q_11_253 (Nat.le_of_ble_eq_true rfl) rfl rfl (sh_130 n0) (Nat.le_of_ble_eq_true rfl) rfl rfl (by decide) (by decide) rfl ?_
      refine b_go (pc2 := 275) d_Mo_answered_174 rfl ?_
      refine b_vr d_Mo_answered_275 rfl ?_
      exact ⟨rfl, rfl, rfl, rfl, rfl⟩
    · rw [i_eq (by omega) (by omega)] at h50
      omega
theorem mo_an_3 {d : Nat} (hd : 5 ≤ d) (hop : J 130 45 = Int32.ofNat 3) {n : Nat} (hn : J 130 27 = Int32.ofNat n) (hn20 : n ≤ 20) {b0 : Nat} (hb : J 150 0 = Int32.ofNat b0) (hb2 : b0 < 256) {r0 : Nat} (hr : J 161 0 = Int32.ofNat r0) (hr2 : r0 < 256) (hx : ¬ (b0 = 1 ∧ n = 4)) (hw : b0 = r0 + 1) (hA : ∀ e, 4 ≤ e → bm e (S0 n0) R0 157 [.ref 130] W J g L (bR none W J1 g L)) : bm d (S0 n0) R0 154 [.ref 130] W J g L (bR none W J1 g L) := by
  obtain ⟨e, rfl⟩ : ∃ e, d = e + 1 := ⟨d - 1, by omega⟩
  refine bm_of (Nat.le_of_ble_eq_true rfl) (Or.inr bR_ret) ?_
  show bT e (S0 n0) R0 mt_Mo_answered _ 0 [(0, .ref 130)] [] W J g L 0 0
  have hSR := SR0 n0
  refine b_aln (pc2 := 1) d_Mo_answered_0 rfl rfl ?_
  refine b_gi (pc2 := 4) d_Mo_answered_1 q_11_235 (sh_130 n0) (by decide) (by decide) (rc_130) rfl ?_
  rw [hop]
  refine b_bp (pc2 := 6) (x := Int32.ofNat 7) d_Mo_answered_4 rfl rfl ?_
  refine b_ifd (pc2 := 29) d_Mo_answered_6 rfl rfl rfl rfl rfl (fun h6 => ?_) (fun h6 => ?_)
  · exact absurd h6 (by decide)
  refine b_aln (pc2 := 10) d_Mo_answered_9 rfl rfl ?_
  refine b_gi (pc2 := 13) d_Mo_answered_10 q_11_235 (sh_130 n0) (by decide) (by decide) (rc_130) rfl ?_
  rw [hop]
  refine b_bp (pc2 := 15) (x := Int32.ofNat 6) d_Mo_answered_13 rfl rfl ?_
  refine b_ifd (pc2 := 25) d_Mo_answered_15 rfl rfl rfl rfl rfl (fun h15 => ?_) (fun h15 => ?_)
  rotate_left
  · exact absurd (by decide) h15
  refine b_ic (pc2 := 26) (x := Int32.ofNat 1) d_Mo_answered_25 rfl rfl ?_
  refine b_go (pc2 := 30) d_Mo_answered_26 rfl ?_
  refine b_isn (pc2 := 31) (al2 := [(1, _), (0, _)]) d_Mo_answered_30 (by decide) rfl rfl ?_
  refine b_iln (pc2 := 32) d_Mo_answered_31 rfl rfl ?_
  refine b_ifd (pc2 := 108) d_Mo_answered_32 rfl rfl rfl rfl rfl (fun h32 => ?_) (fun h32 => ?_)
  · exact absurd h32 (by decide)
  refine b_aln (pc2 := 36) d_Mo_answered_35 rfl rfl ?_
  refine b_gr (pc2 := 39) d_Mo_answered_36 q_11_72 (sh_130 n0) (by decide) (by decide) (p_130_28 n0) rfl ?_
  refine b_ic (pc2 := 40) (x := Int32.ofNat 0) d_Mo_answered_39 rfl rfl ?_
  refine b_ia (pc2 := 41) (q := 0) d_Mo_answered_40 (sh_150 n0) (i_in (i := 0) (by decide) (by decide)) (rfl) (rc_150) rfl ?_
  rw [hb]
  refine b_ic (pc2 := 42) (x := Int32.ofNat 1) d_Mo_answered_41 rfl rfl ?_
  refine b_ifd (pc2 := 108) d_Mo_answered_42 rfl rfl rfl rfl rfl (fun h42 => ?_) (fun h42 => ?_)
  · rw [i_eq (by omega) (by omega)] at h42
    refine b_iln (pc2 := 109) d_Mo_answered_108 rfl rfl ?_
    refine b_ifd (pc2 := 139) d_Mo_answered_109 rfl rfl rfl rfl rfl (fun h109 => ?_) (fun h109 => ?_)
    · exact absurd h109 (by decide)
    refine b_aln (pc2 := 113) d_Mo_answered_112 rfl rfl ?_
    refine b_gr (pc2 := 116) d_Mo_answered_113 q_11_72 (sh_130 n0) (by decide) (by decide) (p_130_28 n0) rfl ?_
    refine b_ic (pc2 := 117) (x := Int32.ofNat 0) d_Mo_answered_116 rfl rfl ?_
    refine b_ia (pc2 := 118) (q := 0) d_Mo_answered_117 (sh_150 n0) (i_in (i := 0) (by decide) (by decide)) (rfl) (rc_150) rfl ?_
    rw [hb]
    refine b_aln (pc2 := 119) d_Mo_answered_118 rfl rfl ?_
    refine b_gr (pc2 := 122) d_Mo_answered_119 q_11_114 (sh_130 n0) (by decide) (by decide) (p_130_51 n0) rfl ?_
    refine b_ic (pc2 := 123) (x := Int32.ofNat 0) d_Mo_answered_122 rfl rfl ?_
    refine b_ia (pc2 := 124) (q := 0) d_Mo_answered_123 (sh_161 n0) (i_in (i := 0) (by decide) (by decide)) (rfl) (rc_161) rfl ?_
    rw [hr]
    refine b_ic (pc2 := 125) (x := Int32.ofNat 1) d_Mo_answered_124 rfl rfl ?_
    refine b_pure (pc2 := 126) d_Mo_answered_125 rfl rfl rfl ?_
    rw [i_add]
    refine b_ifd (pc2 := 139) d_Mo_answered_126 rfl rfl rfl rfl rfl (fun h126 => ?_) (fun h126 => ?_)
    rotate_left
    · exact absurd (by rw [i_eq (by omega) (by omega)]; omega) h126
    refine b_aln (pc2 := 140) d_Mo_answered_139 rfl rfl ?_
    refine b_gi (pc2 := 143) d_Mo_answered_140 q_11_235 (sh_130 n0) (by decide) (by decide) (rc_130) rfl ?_
    rw [hop]
    refine b_ic (pc2 := 144) (x := Int32.ofNat 1) d_Mo_answered_143 rfl rfl ?_
    refine b_ifd (pc2 := 154) d_Mo_answered_144 rfl rfl rfl rfl rfl (fun h144 => ?_) (fun h144 => ?_)
    rotate_left
    · exact absurd (by decide) h144
    refine b_aln (pc2 := 155) d_Mo_answered_154 rfl rfl ?_
    refine b_gi (pc2 := 158) d_Mo_answered_155 q_11_235 (sh_130 n0) (by decide) (by decide) (rc_130) rfl ?_
    rw [hop]
    refine b_ic (pc2 := 159) (x := Int32.ofNat 2) d_Mo_answered_158 rfl rfl ?_
    refine b_ifd (pc2 := 170) d_Mo_answered_159 rfl rfl rfl rfl rfl (fun h159 => ?_) (fun h159 => ?_)
    · exact absurd h159 (by decide)
    refine b_aln (pc2 := 163) d_Mo_answered_162 rfl rfl ?_
    refine b_gi (pc2 := 166) d_Mo_answered_163 q_11_235 (sh_130 n0) (by decide) (by decide) (rc_130) rfl ?_
    rw [hop]
    refine b_ic (pc2 := 167) (x := Int32.ofNat 3) d_Mo_answered_166 rfl rfl ?_
    refine b_ifd (pc2 := 177) d_Mo_answered_167 rfl rfl rfl rfl rfl (fun h167 => ?_) (fun h167 => ?_)
    · exact absurd h167 (by decide)
    refine b_aln (pc2 := 171) d_Mo_answered_170 rfl rfl ?_
    refine b_cv0 (pc2 := 174) (c2 := 0) (u2 := 0) (hA e (by omega)) d_Mo_answered_171 q_11_253 (Nat.le_of_ble_eq_true rfl) rfl rfl (sh_130 n0) (Nat.le_of_ble_eq_true rfl) rfl rfl (by decide) (by decide) rfl ?_
    refine b_go (pc2 := 275) d_Mo_answered_174 rfl ?_
    refine b_vr d_Mo_answered_275 rfl ?_
    exact ⟨rfl, rfl, rfl, rfl, rfl⟩
  · rw [i_eq (by omega) (by omega)] at h42
    refine b_aln (pc2 := 46) d_Mo_answered_45 rfl rfl ?_
    refine b_gi (pc2 := 49) d_Mo_answered_46 q_11_174 (sh_130 n0) (by decide) (by decide) (rc_130) rfl ?_
    rw [hn]
    refine b_ic (pc2 := 50) (x := Int32.ofNat 4) d_Mo_answered_49 rfl rfl ?_
    refine b_ifd (pc2 := 108) d_Mo_answered_50 rfl rfl rfl rfl rfl (fun h50 => ?_) (fun h50 => ?_)
    · rw [i_eq (by omega) (by omega)] at h50
      refine b_iln (pc2 := 109) d_Mo_answered_108 rfl rfl ?_
      refine b_ifd (pc2 := 139) d_Mo_answered_109 rfl rfl rfl rfl rfl (fun h109 => ?_) (fun h109 => ?_)
      · exact absurd h109 (by decide)
      refine b_aln (pc2 := 113) d_Mo_answered_112 rfl rfl ?_
      refine b_gr (pc2 := 116) d_Mo_answered_113 q_11_72 (sh_130 n0) (by decide) (by decide) (p_130_28 n0) rfl ?_
      refine b_ic (pc2 := 117) (x := Int32.ofNat 0) d_Mo_answered_116 rfl rfl ?_
      refine b_ia (pc2 := 118) (q := 0) d_Mo_answered_117 (sh_150 n0) (i_in (i := 0) (by decide) (by decide)) (rfl) (rc_150) rfl ?_
      rw [hb]
      refine b_aln (pc2 := 119) d_Mo_answered_118 rfl rfl ?_
      refine b_gr (pc2 := 122) d_Mo_answered_119 q_11_114 (sh_130 n0) (by decide) (by decide) (p_130_51 n0) rfl ?_
      refine b_ic (pc2 := 123) (x := Int32.ofNat 0) d_Mo_answered_122 rfl rfl ?_
      refine b_ia (pc2 := 124) (q := 0) d_Mo_answered_123 (sh_161 n0) (i_in (i := 0) (by decide) (by decide)) (rfl) (rc_161) rfl ?_
      rw [hr]
      refine b_ic (pc2 := 125) (x := Int32.ofNat 1) d_Mo_answered_124 rfl rfl ?_
      refine b_pure (pc2 := 126) d_Mo_answered_125 rfl rfl rfl ?_
      rw [i_add]
      refine b_ifd (pc2 := 139) d_Mo_answered_126 rfl rfl rfl rfl rfl (fun h126 => ?_) (fun h126 => ?_)
      rotate_left
      · exact absurd (by rw [i_eq (by omega) (by omega)]; omega) h126
      refine b_aln (pc2 := 140) d_Mo_answered_139 rfl rfl ?_
      refine b_gi (pc2 := 143) d_Mo_answered_140 q_11_235 (sh_130 n0) (by decide) (by decide) (rc_130) rfl ?_
      rw [hop]
      refine b_ic (pc2 := 144) (x := Int32.ofNat 1) d_Mo_answered_143 rfl rfl ?_
      refine b_ifd (pc2 := 154) d_Mo_answered_144 rfl rfl rfl rfl rfl (fun h144 => ?_) (fun h144 => ?_)
      rotate_left
      · exact absurd (by decide) h144
      refine b_aln (pc2 := 155) d_Mo_answered_154 rfl rfl ?_
      refine b_gi (pc2 := 158) d_Mo_answered_155 q_11_235 (sh_130 n0) (by decide) (by decide) (rc_130) rfl ?_
      rw [hop]
      refine b_ic (pc2 := 159) (x := Int32.ofNat 2) d_Mo_answered_158 rfl rfl ?_
      refine b_ifd (pc2 := 170) d_Mo_answered_159 rfl rfl rfl rfl rfl (fun h159 => ?_) (fun h159 => ?_)
      · exact absurd h159 (by decide)
      refine b_aln (pc2 := 163) d_Mo_answered_162 rfl rfl ?_
      refine b_gi (pc2 := 166) d_Mo_answered_163 q_11_235 (sh_130 n0) (by decide) (by decide) (rc_130) rfl ?_
      rw [hop]
      refine b_ic (pc2 := 167) (x := Int32.ofNat 3) d_Mo_answered_166 rfl rfl ?_
      refine b_ifd (pc2 := 177) d_Mo_answered_167 rfl rfl rfl rfl rfl (fun h167 => ?_) (fun h167 => ?_)
      · exact absurd h167 (by decide)
      refine b_aln (pc2 := 171) d_Mo_answered_170 rfl rfl ?_
      refine b_cv0 (pc2 := 174) (c2 := 0) (u2 := 0) (hA e (by omega)) d_Mo_answered_171 q_11_253 (Nat.le_of_ble_eq_true rfl) rfl rfl (sh_130 n0) (Nat.le_of_ble_eq_true rfl) rfl rfl (by decide) (by decide) rfl ?_
      refine b_go (pc2 := 275) d_Mo_answered_174 rfl ?_
      refine b_vr d_Mo_answered_275 rfl ?_
      exact ⟨rfl, rfl, rfl, rfl, rfl⟩
    · rw [i_eq (by omega) (by omega)] at h50
      omega
theorem mo_an_4 {d : Nat} (hd : 5 ≤ d) (hop : J 130 45 = Int32.ofNat 4) {n : Nat} (hn : J 130 27 = Int32.ofNat n) (hn20 : n ≤ 20) {b0 : Nat} (hb : J 150 0 = Int32.ofNat b0) (hb2 : b0 < 256) {r0 : Nat} (hr : J 161 0 = Int32.ofNat r0) (hr2 : r0 < 256) (hx : ¬ (b0 = 1 ∧ n = 4)) (hw : b0 = r0 + 1) (hA : ∀ e, 3 ≤ e → bm e (S0 n0) R0 158 [.ref 130] W J g L (bR none W J1 g L)) : bm d (S0 n0) R0 154 [.ref 130] W J g L (bR none W J1 g L) := by
  obtain ⟨e, rfl⟩ : ∃ e, d = e + 1 := ⟨d - 1, by omega⟩
  refine bm_of (Nat.le_of_ble_eq_true rfl) (Or.inr bR_ret) ?_
  show bT e (S0 n0) R0 mt_Mo_answered _ 0 [(0, .ref 130)] [] W J g L 0 0
  have hSR := SR0 n0
  refine b_aln (pc2 := 1) d_Mo_answered_0 rfl rfl ?_
  refine b_gi (pc2 := 4) d_Mo_answered_1 q_11_235 (sh_130 n0) (by decide) (by decide) (rc_130) rfl ?_
  rw [hop]
  refine b_bp (pc2 := 6) (x := Int32.ofNat 7) d_Mo_answered_4 rfl rfl ?_
  refine b_ifd (pc2 := 29) d_Mo_answered_6 rfl rfl rfl rfl rfl (fun h6 => ?_) (fun h6 => ?_)
  · exact absurd h6 (by decide)
  refine b_aln (pc2 := 10) d_Mo_answered_9 rfl rfl ?_
  refine b_gi (pc2 := 13) d_Mo_answered_10 q_11_235 (sh_130 n0) (by decide) (by decide) (rc_130) rfl ?_
  rw [hop]
  refine b_bp (pc2 := 15) (x := Int32.ofNat 6) d_Mo_answered_13 rfl rfl ?_
  refine b_ifd (pc2 := 25) d_Mo_answered_15 rfl rfl rfl rfl rfl (fun h15 => ?_) (fun h15 => ?_)
  rotate_left
  · exact absurd (by decide) h15
  refine b_ic (pc2 := 26) (x := Int32.ofNat 1) d_Mo_answered_25 rfl rfl ?_
  refine b_go (pc2 := 30) d_Mo_answered_26 rfl ?_
  refine b_isn (pc2 := 31) (al2 := [(1, _), (0, _)]) d_Mo_answered_30 (by decide) rfl rfl ?_
  refine b_iln (pc2 := 32) d_Mo_answered_31 rfl rfl ?_
  refine b_ifd (pc2 := 108) d_Mo_answered_32 rfl rfl rfl rfl rfl (fun h32 => ?_) (fun h32 => ?_)
  · exact absurd h32 (by decide)
  refine b_aln (pc2 := 36) d_Mo_answered_35 rfl rfl ?_
  refine b_gr (pc2 := 39) d_Mo_answered_36 q_11_72 (sh_130 n0) (by decide) (by decide) (p_130_28 n0) rfl ?_
  refine b_ic (pc2 := 40) (x := Int32.ofNat 0) d_Mo_answered_39 rfl rfl ?_
  refine b_ia (pc2 := 41) (q := 0) d_Mo_answered_40 (sh_150 n0) (i_in (i := 0) (by decide) (by decide)) (rfl) (rc_150) rfl ?_
  rw [hb]
  refine b_ic (pc2 := 42) (x := Int32.ofNat 1) d_Mo_answered_41 rfl rfl ?_
  refine b_ifd (pc2 := 108) d_Mo_answered_42 rfl rfl rfl rfl rfl (fun h42 => ?_) (fun h42 => ?_)
  · rw [i_eq (by omega) (by omega)] at h42
    refine b_iln (pc2 := 109) d_Mo_answered_108 rfl rfl ?_
    refine b_ifd (pc2 := 139) d_Mo_answered_109 rfl rfl rfl rfl rfl (fun h109 => ?_) (fun h109 => ?_)
    · exact absurd h109 (by decide)
    refine b_aln (pc2 := 113) d_Mo_answered_112 rfl rfl ?_
    refine b_gr (pc2 := 116) d_Mo_answered_113 q_11_72 (sh_130 n0) (by decide) (by decide) (p_130_28 n0) rfl ?_
    refine b_ic (pc2 := 117) (x := Int32.ofNat 0) d_Mo_answered_116 rfl rfl ?_
    refine b_ia (pc2 := 118) (q := 0) d_Mo_answered_117 (sh_150 n0) (i_in (i := 0) (by decide) (by decide)) (rfl) (rc_150) rfl ?_
    rw [hb]
    refine b_aln (pc2 := 119) d_Mo_answered_118 rfl rfl ?_
    refine b_gr (pc2 := 122) d_Mo_answered_119 q_11_114 (sh_130 n0) (by decide) (by decide) (p_130_51 n0) rfl ?_
    refine b_ic (pc2 := 123) (x := Int32.ofNat 0) d_Mo_answered_122 rfl rfl ?_
    refine b_ia (pc2 := 124) (q := 0) d_Mo_answered_123 (sh_161 n0) (i_in (i := 0) (by decide) (by decide)) (rfl) (rc_161) rfl ?_
    rw [hr]
    refine b_ic (pc2 := 125) (x := Int32.ofNat 1) d_Mo_answered_124 rfl rfl ?_
    refine b_pure (pc2 := 126) d_Mo_answered_125 rfl rfl rfl ?_
    rw [i_add]
    refine b_ifd (pc2 := 139) d_Mo_answered_126 rfl rfl rfl rfl rfl (fun h126 => ?_) (fun h126 => ?_)
    rotate_left
    · exact absurd (by rw [i_eq (by omega) (by omega)]; omega) h126
    refine b_aln (pc2 := 140) d_Mo_answered_139 rfl rfl ?_
    refine b_gi (pc2 := 143) d_Mo_answered_140 q_11_235 (sh_130 n0) (by decide) (by decide) (rc_130) rfl ?_
    rw [hop]
    refine b_ic (pc2 := 144) (x := Int32.ofNat 1) d_Mo_answered_143 rfl rfl ?_
    refine b_ifd (pc2 := 154) d_Mo_answered_144 rfl rfl rfl rfl rfl (fun h144 => ?_) (fun h144 => ?_)
    rotate_left
    · exact absurd (by decide) h144
    refine b_aln (pc2 := 155) d_Mo_answered_154 rfl rfl ?_
    refine b_gi (pc2 := 158) d_Mo_answered_155 q_11_235 (sh_130 n0) (by decide) (by decide) (rc_130) rfl ?_
    rw [hop]
    refine b_ic (pc2 := 159) (x := Int32.ofNat 2) d_Mo_answered_158 rfl rfl ?_
    refine b_ifd (pc2 := 170) d_Mo_answered_159 rfl rfl rfl rfl rfl (fun h159 => ?_) (fun h159 => ?_)
    · exact absurd h159 (by decide)
    refine b_aln (pc2 := 163) d_Mo_answered_162 rfl rfl ?_
    refine b_gi (pc2 := 166) d_Mo_answered_163 q_11_235 (sh_130 n0) (by decide) (by decide) (rc_130) rfl ?_
    rw [hop]
    refine b_ic (pc2 := 167) (x := Int32.ofNat 3) d_Mo_answered_166 rfl rfl ?_
    refine b_ifd (pc2 := 177) d_Mo_answered_167 rfl rfl rfl rfl rfl (fun h167 => ?_) (fun h167 => ?_)
    rotate_left
    · exact absurd (by decide) h167
    refine b_aln (pc2 := 178) d_Mo_answered_177 rfl rfl ?_
    refine b_gi (pc2 := 181) d_Mo_answered_178 q_11_235 (sh_130 n0) (by decide) (by decide) (rc_130) rfl ?_
    rw [hop]
    refine b_ic (pc2 := 182) (x := Int32.ofNat 4) d_Mo_answered_181 rfl rfl ?_
    refine b_ifd (pc2 := 192) d_Mo_answered_182 rfl rfl rfl rfl rfl (fun h182 => ?_) (fun h182 => ?_)
    · exact absurd h182 (by decide)
    refine b_aln (pc2 := 186) d_Mo_answered_185 rfl rfl ?_
    refine b_cv0 (pc2 := 189) (c2 := 0) (u2 := 0) (hA e (by omega)) d_Mo_answered_186 q_11_256 (Nat.le_of_ble_eq_true rfl) rfl rfl (sh_130 n0) (Nat.le_of_ble_eq_true rfl) rfl rfl (by decide) (by decide) rfl ?_
    refine b_go (pc2 := 275) d_Mo_answered_189 rfl ?_
    refine b_vr d_Mo_answered_275 rfl ?_
    exact ⟨rfl, rfl, rfl, rfl, rfl⟩
  · rw [i_eq (by omega) (by omega)] at h42
    refine b_aln (pc2 := 46) d_Mo_answered_45 rfl rfl ?_
    refine b_gi (pc2 := 49) d_Mo_answered_46 q_11_174 (sh_130 n0) (by decide) (by decide) (rc_130) rfl ?_
    rw [hn]
    refine b_ic (pc2 := 50) (x := Int32.ofNat 4) d_Mo_answered_49 rfl rfl ?_
    refine b_ifd (pc2 := 108) d_Mo_answered_50 rfl rfl rfl rfl rfl (fun h50 => ?_) (fun h50 => ?_)
    · rw [i_eq (by omega) (by omega)] at h50
      refine b_iln (pc2 := 109) d_Mo_answered_108 rfl rfl ?_
      refine b_ifd (pc2 := 139) d_Mo_answered_109 rfl rfl rfl rfl rfl (fun h109 => ?_) (fun h109 => ?_)
      · exact absurd h109 (by decide)
      refine b_aln (pc2 := 113) d_Mo_answered_112 rfl rfl ?_
      refine b_gr (pc2 := 116) d_Mo_answered_113 q_11_72 (sh_130 n0) (by decide) (by decide) (p_130_28 n0) rfl ?_
      refine b_ic (pc2 := 117) (x := Int32.ofNat 0) d_Mo_answered_116 rfl rfl ?_
      refine b_ia (pc2 := 118) (q := 0) d_Mo_answered_117 (sh_150 n0) (i_in (i := 0) (by decide) (by decide)) (rfl) (rc_150) rfl ?_
      rw [hb]
      refine b_aln (pc2 := 119) d_Mo_answered_118 rfl rfl ?_
      refine b_gr (pc2 := 122) d_Mo_answered_119 q_11_114 (sh_130 n0) (by decide) (by decide) (p_130_51 n0) rfl ?_
      refine b_ic (pc2 := 123) (x := Int32.ofNat 0) d_Mo_answered_122 rfl rfl ?_
      refine b_ia (pc2 := 124) (q := 0) d_Mo_answered_123 (sh_161 n0) (i_in (i := 0) (by decide) (by decide)) (rfl) (rc_161) rfl ?_
      rw [hr]
      refine b_ic (pc2 := 125) (x := Int32.ofNat 1) d_Mo_answered_124 rfl rfl ?_
      refine b_pure (pc2 := 126) d_Mo_answered_125 rfl rfl rfl ?_
      rw [i_add]
      refine b_ifd (pc2 := 139) d_Mo_answered_126 rfl rfl rfl rfl rfl (fun h126 => ?_) (fun h126 => ?_)
      rotate_left
      · exact absurd (by rw [i_eq (by omega) (by omega)]; omega) h126
      refine b_aln (pc2 := 140) d_Mo_answered_139 rfl rfl ?_
      refine b_gi (pc2 := 143) d_Mo_answered_140 q_11_235 (sh_130 n0) (by decide) (by decide) (rc_130) rfl ?_
      rw [hop]
      refine b_ic (pc2 := 144) (x := Int32.ofNat 1) d_Mo_answered_143 rfl rfl ?_
      refine b_ifd (pc2 := 154) d_Mo_answered_144 rfl rfl rfl rfl rfl (fun h144 => ?_) (fun h144 => ?_)
      rotate_left
      · exact absurd (by decide) h144
      refine b_aln (pc2 := 155) d_Mo_answered_154 rfl rfl ?_
      refine b_gi (pc2 := 158) d_Mo_answered_155 q_11_235 (sh_130 n0) (by decide) (by decide) (rc_130) rfl ?_
      rw [hop]
      refine b_ic (pc2 := 159) (x := Int32.ofNat 2) d_Mo_answered_158 rfl rfl ?_
      refine b_ifd (pc2 := 170) d_Mo_answered_159 rfl rfl rfl rfl rfl (fun h159 => ?_) (fun h159 => ?_)
      · exact absurd h159 (by decide)
      refine b_aln (pc2 := 163) d_Mo_answered_162 rfl rfl ?_
      refine b_gi (pc2 := 166) d_Mo_answered_163 q_11_235 (sh_130 n0) (by decide) (by decide) (rc_130) rfl ?_
      rw [hop]
      refine b_ic (pc2 := 167) (x := Int32.ofNat 3) d_Mo_answered_166 rfl rfl ?_
      refine b_ifd (pc2 := 177) d_Mo_answered_167 rfl rfl rfl rfl rfl (fun h167 => ?_) (fun h167 => ?_)
      rotate_left
      · exact absurd (by decide) h167
      refine b_aln (pc2 := 178) d_Mo_answered_177 rfl rfl ?_
      refine b_gi (pc2 := 181) d_Mo_answered_178 q_11_235 (sh_130 n0) (by decide) (by decide) (rc_130) rfl ?_
      rw [hop]
      refine b_ic (pc2 := 182) (x := Int32.ofNat 4) d_Mo_answered_181 rfl rfl ?_
      refine b_ifd (pc2 := 192) d_Mo_answered_182 rfl rfl rfl rfl rfl (fun h182 => ?_) (fun h182 => ?_)
      · exact absurd h182 (by decide)
      refine b_aln (pc2 := 186) d_Mo_answered_185 rfl rfl ?_
      refine b_cv0 (pc2 := 189) (c2 := 0) (u2 := 0) (hA e (by omega)) d_Mo_answered_186 q_11_256 (Nat.le_of_ble_eq_true rfl) rfl rfl (sh_130 n0) (Nat.le_of_ble_eq_true rfl) rfl rfl (by decide) (by decide) rfl ?_
      refine b_go (pc2 := 275) d_Mo_answered_189 rfl ?_
      refine b_vr d_Mo_answered_275 rfl ?_
      exact ⟨rfl, rfl, rfl, rfl, rfl⟩
    · rw [i_eq (by omega) (by omega)] at h50
      omega
theorem mo_an_6 {d : Nat} (hd : 5 ≤ d) (hop : J 130 45 = Int32.ofNat 6) (hsp : J 130 57 = Int32.ofNat 0) {n : Nat} (hn : J 130 27 = Int32.ofNat n) (hn20 : n ≤ 20) {b0 : Nat} (hb : J 150 0 = Int32.ofNat b0) (hb2 : b0 < 256) {r0 : Nat} (hr : J 161 0 = Int32.ofNat r0) (hr2 : r0 < 256) (hx : ¬ (b0 = 1 ∧ n = 4)) (hw : b0 = r0 + 1) (hA : ∀ e, 4 ≤ e → bm e (S0 n0) R0 159 [.ref 130] W J g L (bR none W J1 g L)) : bm d (S0 n0) R0 154 [.ref 130] W J g L (bR none W J1 g L) := by
  obtain ⟨e, rfl⟩ : ∃ e, d = e + 1 := ⟨d - 1, by omega⟩
  refine bm_of (Nat.le_of_ble_eq_true rfl) (Or.inr bR_ret) ?_
  show bT e (S0 n0) R0 mt_Mo_answered _ 0 [(0, .ref 130)] [] W J g L 0 0
  have hSR := SR0 n0
  refine b_aln (pc2 := 1) d_Mo_answered_0 rfl rfl ?_
  refine b_gi (pc2 := 4) d_Mo_answered_1 q_11_235 (sh_130 n0) (by decide) (by decide) (rc_130) rfl ?_
  rw [hop]
  refine b_bp (pc2 := 6) (x := Int32.ofNat 7) d_Mo_answered_4 rfl rfl ?_
  refine b_ifd (pc2 := 29) d_Mo_answered_6 rfl rfl rfl rfl rfl (fun h6 => ?_) (fun h6 => ?_)
  · exact absurd h6 (by decide)
  refine b_aln (pc2 := 10) d_Mo_answered_9 rfl rfl ?_
  refine b_gi (pc2 := 13) d_Mo_answered_10 q_11_235 (sh_130 n0) (by decide) (by decide) (rc_130) rfl ?_
  rw [hop]
  refine b_bp (pc2 := 15) (x := Int32.ofNat 6) d_Mo_answered_13 rfl rfl ?_
  refine b_ifd (pc2 := 25) d_Mo_answered_15 rfl rfl rfl rfl rfl (fun h15 => ?_) (fun h15 => ?_)
  · exact absurd h15 (by decide)
  refine b_aln (pc2 := 19) d_Mo_answered_18 rfl rfl ?_
  refine b_gi (pc2 := 22) d_Mo_answered_19 q_11_244 (sh_130 n0) (by decide) (by decide) (rc_130) rfl ?_
  rw [hsp]
  refine b_ifd (pc2 := 29) d_Mo_answered_22 rfl rfl rfl rfl rfl (fun h22 => ?_) (fun h22 => ?_)
  · exact absurd h22 (by decide)
  refine b_ic (pc2 := 26) (x := Int32.ofNat 1) d_Mo_answered_25 rfl rfl ?_
  refine b_go (pc2 := 30) d_Mo_answered_26 rfl ?_
  refine b_isn (pc2 := 31) (al2 := [(1, _), (0, _)]) d_Mo_answered_30 (by decide) rfl rfl ?_
  refine b_iln (pc2 := 32) d_Mo_answered_31 rfl rfl ?_
  refine b_ifd (pc2 := 108) d_Mo_answered_32 rfl rfl rfl rfl rfl (fun h32 => ?_) (fun h32 => ?_)
  · exact absurd h32 (by decide)
  refine b_aln (pc2 := 36) d_Mo_answered_35 rfl rfl ?_
  refine b_gr (pc2 := 39) d_Mo_answered_36 q_11_72 (sh_130 n0) (by decide) (by decide) (p_130_28 n0) rfl ?_
  refine b_ic (pc2 := 40) (x := Int32.ofNat 0) d_Mo_answered_39 rfl rfl ?_
  refine b_ia (pc2 := 41) (q := 0) d_Mo_answered_40 (sh_150 n0) (i_in (i := 0) (by decide) (by decide)) (rfl) (rc_150) rfl ?_
  rw [hb]
  refine b_ic (pc2 := 42) (x := Int32.ofNat 1) d_Mo_answered_41 rfl rfl ?_
  refine b_ifd (pc2 := 108) d_Mo_answered_42 rfl rfl rfl rfl rfl (fun h42 => ?_) (fun h42 => ?_)
  · rw [i_eq (by omega) (by omega)] at h42
    refine b_iln (pc2 := 109) d_Mo_answered_108 rfl rfl ?_
    refine b_ifd (pc2 := 139) d_Mo_answered_109 rfl rfl rfl rfl rfl (fun h109 => ?_) (fun h109 => ?_)
    · exact absurd h109 (by decide)
    refine b_aln (pc2 := 113) d_Mo_answered_112 rfl rfl ?_
    refine b_gr (pc2 := 116) d_Mo_answered_113 q_11_72 (sh_130 n0) (by decide) (by decide) (p_130_28 n0) rfl ?_
    refine b_ic (pc2 := 117) (x := Int32.ofNat 0) d_Mo_answered_116 rfl rfl ?_
    refine b_ia (pc2 := 118) (q := 0) d_Mo_answered_117 (sh_150 n0) (i_in (i := 0) (by decide) (by decide)) (rfl) (rc_150) rfl ?_
    rw [hb]
    refine b_aln (pc2 := 119) d_Mo_answered_118 rfl rfl ?_
    refine b_gr (pc2 := 122) d_Mo_answered_119 q_11_114 (sh_130 n0) (by decide) (by decide) (p_130_51 n0) rfl ?_
    refine b_ic (pc2 := 123) (x := Int32.ofNat 0) d_Mo_answered_122 rfl rfl ?_
    refine b_ia (pc2 := 124) (q := 0) d_Mo_answered_123 (sh_161 n0) (i_in (i := 0) (by decide) (by decide)) (rfl) (rc_161) rfl ?_
    rw [hr]
    refine b_ic (pc2 := 125) (x := Int32.ofNat 1) d_Mo_answered_124 rfl rfl ?_
    refine b_pure (pc2 := 126) d_Mo_answered_125 rfl rfl rfl ?_
    rw [i_add]
    refine b_ifd (pc2 := 139) d_Mo_answered_126 rfl rfl rfl rfl rfl (fun h126 => ?_) (fun h126 => ?_)
    rotate_left
    · exact absurd (by rw [i_eq (by omega) (by omega)]; omega) h126
    refine b_aln (pc2 := 140) d_Mo_answered_139 rfl rfl ?_
    refine b_gi (pc2 := 143) d_Mo_answered_140 q_11_235 (sh_130 n0) (by decide) (by decide) (rc_130) rfl ?_
    rw [hop]
    refine b_ic (pc2 := 144) (x := Int32.ofNat 1) d_Mo_answered_143 rfl rfl ?_
    refine b_ifd (pc2 := 154) d_Mo_answered_144 rfl rfl rfl rfl rfl (fun h144 => ?_) (fun h144 => ?_)
    rotate_left
    · exact absurd (by decide) h144
    refine b_aln (pc2 := 155) d_Mo_answered_154 rfl rfl ?_
    refine b_gi (pc2 := 158) d_Mo_answered_155 q_11_235 (sh_130 n0) (by decide) (by decide) (rc_130) rfl ?_
    rw [hop]
    refine b_ic (pc2 := 159) (x := Int32.ofNat 2) d_Mo_answered_158 rfl rfl ?_
    refine b_ifd (pc2 := 170) d_Mo_answered_159 rfl rfl rfl rfl rfl (fun h159 => ?_) (fun h159 => ?_)
    · exact absurd h159 (by decide)
    refine b_aln (pc2 := 163) d_Mo_answered_162 rfl rfl ?_
    refine b_gi (pc2 := 166) d_Mo_answered_163 q_11_235 (sh_130 n0) (by decide) (by decide) (rc_130) rfl ?_
    rw [hop]
    refine b_ic (pc2 := 167) (x := Int32.ofNat 3) d_Mo_answered_166 rfl rfl ?_
    refine b_ifd (pc2 := 177) d_Mo_answered_167 rfl rfl rfl rfl rfl (fun h167 => ?_) (fun h167 => ?_)
    rotate_left
    · exact absurd (by decide) h167
    refine b_aln (pc2 := 178) d_Mo_answered_177 rfl rfl ?_
    refine b_gi (pc2 := 181) d_Mo_answered_178 q_11_235 (sh_130 n0) (by decide) (by decide) (rc_130) rfl ?_
    rw [hop]
    refine b_ic (pc2 := 182) (x := Int32.ofNat 4) d_Mo_answered_181 rfl rfl ?_
    refine b_ifd (pc2 := 192) d_Mo_answered_182 rfl rfl rfl rfl rfl (fun h182 => ?_) (fun h182 => ?_)
    rotate_left
    · exact absurd (by decide) h182
    refine b_aln (pc2 := 193) d_Mo_answered_192 rfl rfl ?_
    refine b_gi (pc2 := 196) d_Mo_answered_193 q_11_235 (sh_130 n0) (by decide) (by decide) (rc_130) rfl ?_
    rw [hop]
    refine b_bp (pc2 := 198) (x := Int32.ofNat 6) d_Mo_answered_196 rfl rfl ?_
    refine b_ifd (pc2 := 208) d_Mo_answered_198 rfl rfl rfl rfl rfl (fun h198 => ?_) (fun h198 => ?_)
    · exact absurd h198 (by decide)
    refine b_aln (pc2 := 202) d_Mo_answered_201 rfl rfl ?_
    refine b_cv0 (pc2 := 205) (c2 := 0) (u2 := 0) (hA e (by omega)) d_Mo_answered_202 q_11_259 (Nat.le_of_ble_eq_true rfl) rfl rfl (sh_130 n0) (Nat.le_of_ble_eq_true rfl) rfl rfl (by decide) (by decide) rfl ?_
    refine b_go (pc2 := 275) d_Mo_answered_205 rfl ?_
    refine b_vr d_Mo_answered_275 rfl ?_
    exact ⟨rfl, rfl, rfl, rfl, rfl⟩
  · rw [i_eq (by omega) (by omega)] at h42
    refine b_aln (pc2 := 46) d_Mo_answered_45 rfl rfl ?_
    refine b_gi (pc2 := 49) d_Mo_answered_46 q_11_174 (sh_130 n0) (by decide) (by decide) (rc_130) rfl ?_
    rw [hn]
    refine b_ic (pc2 := 50) (x := Int32.ofNat 4) d_Mo_answered_49 rfl rfl ?_
    refine b_ifd (pc2 := 108) d_Mo_answered_50 rfl rfl rfl rfl rfl (fun h50 => ?_) (fun h50 => ?_)
    · rw [i_eq (by omega) (by omega)] at h50
      refine b_iln (pc2 := 109) d_Mo_answered_108 rfl rfl ?_
      refine b_ifd (pc2 := 139) d_Mo_answered_109 rfl rfl rfl rfl rfl (fun h109 => ?_) (fun h109 => ?_)
      · exact absurd h109 (by decide)
      refine b_aln (pc2 := 113) d_Mo_answered_112 rfl rfl ?_
      refine b_gr (pc2 := 116) d_Mo_answered_113 q_11_72 (sh_130 n0) (by decide) (by decide) (p_130_28 n0) rfl ?_
      refine b_ic (pc2 := 117) (x := Int32.ofNat 0) d_Mo_answered_116 rfl rfl ?_
      refine b_ia (pc2 := 118) (q := 0) d_Mo_answered_117 (sh_150 n0) (i_in (i := 0) (by decide) (by decide)) (rfl) (rc_150) rfl ?_
      rw [hb]
      refine b_aln (pc2 := 119) d_Mo_answered_118 rfl rfl ?_
      refine b_gr (pc2 := 122) d_Mo_answered_119 q_11_114 (sh_130 n0) (by decide) (by decide) (p_130_51 n0) rfl ?_
      refine b_ic (pc2 := 123) (x := Int32.ofNat 0) d_Mo_answered_122 rfl rfl ?_
      refine b_ia (pc2 := 124) (q := 0) d_Mo_answered_123 (sh_161 n0) (i_in (i := 0) (by decide) (by decide)) (rfl) (rc_161) rfl ?_
      rw [hr]
      refine b_ic (pc2 := 125) (x := Int32.ofNat 1) d_Mo_answered_124 rfl rfl ?_
      refine b_pure (pc2 := 126) d_Mo_answered_125 rfl rfl rfl ?_
      rw [i_add]
      refine b_ifd (pc2 := 139) d_Mo_answered_126 rfl rfl rfl rfl rfl (fun h126 => ?_) (fun h126 => ?_)
      rotate_left
      · exact absurd (by rw [i_eq (by omega) (by omega)]; omega) h126
      refine b_aln (pc2 := 140) d_Mo_answered_139 rfl rfl ?_
      refine b_gi (pc2 := 143) d_Mo_answered_140 q_11_235 (sh_130 n0) (by decide) (by decide) (rc_130) rfl ?_
      rw [hop]
      refine b_ic (pc2 := 144) (x := Int32.ofNat 1) d_Mo_answered_143 rfl rfl ?_
      refine b_ifd (pc2 := 154) d_Mo_answered_144 rfl rfl rfl rfl rfl (fun h144 => ?_) (fun h144 => ?_)
      rotate_left
      · exact absurd (by decide) h144
      refine b_aln (pc2 := 155) d_Mo_answered_154 rfl rfl ?_
      refine b_gi (pc2 := 158) d_Mo_answered_155 q_11_235 (sh_130 n0) (by decide) (by decide) (rc_130) rfl ?_
      rw [hop]
      refine b_ic (pc2 := 159) (x := Int32.ofNat 2) d_Mo_answered_158 rfl rfl ?_
      refine b_ifd (pc2 := 170) d_Mo_answered_159 rfl rfl rfl rfl rfl (fun h159 => ?_) (fun h159 => ?_)
      · exact absurd h159 (by decide)
      refine b_aln (pc2 := 163) d_Mo_answered_162 rfl rfl ?_
      refine b_gi (pc2 := 166) d_Mo_answered_163 q_11_235 (sh_130 n0) (by decide) (by decide) (rc_130) rfl ?_
      rw [hop]
      refine b_ic (pc2 := 167) (x := Int32.ofNat 3) d_Mo_answered_166 rfl rfl ?_
      refine b_ifd (pc2 := 177) d_Mo_answered_167 rfl rfl rfl rfl rfl (fun h167 => ?_) (fun h167 => ?_)
      rotate_left
      · exact absurd (by decide) h167
      refine b_aln (pc2 := 178) d_Mo_answered_177 rfl rfl ?_
      refine b_gi (pc2 := 181) d_Mo_answered_178 q_11_235 (sh_130 n0) (by decide) (by decide) (rc_130) rfl ?_
      rw [hop]
      refine b_ic (pc2 := 182) (x := Int32.ofNat 4) d_Mo_answered_181 rfl rfl ?_
      refine b_ifd (pc2 := 192) d_Mo_answered_182 rfl rfl rfl rfl rfl (fun h182 => ?_) (fun h182 => ?_)
      rotate_left
      · exact absurd (by decide) h182
      refine b_aln (pc2 := 193) d_Mo_answered_192 rfl rfl ?_
      refine b_gi (pc2 := 196) d_Mo_answered_193 q_11_235 (sh_130 n0) (by decide) (by decide) (rc_130) rfl ?_
      rw [hop]
      refine b_bp (pc2 := 198) (x := Int32.ofNat 6) d_Mo_answered_196 rfl rfl ?_
      refine b_ifd (pc2 := 208) d_Mo_answered_198 rfl rfl rfl rfl rfl (fun h198 => ?_) (fun h198 => ?_)
      · exact absurd h198 (by decide)
      refine b_aln (pc2 := 202) d_Mo_answered_201 rfl rfl ?_
      refine b_cv0 (pc2 := 205) (c2 := 0) (u2 := 0) (hA e (by omega)) d_Mo_answered_202 q_11_259 (Nat.le_of_ble_eq_true rfl) rfl rfl (sh_130 n0) (Nat.le_of_ble_eq_true rfl) rfl rfl (by decide) (by decide) rfl ?_
      refine b_go (pc2 := 275) d_Mo_answered_205 rfl ?_
      refine b_vr d_Mo_answered_275 rfl ?_
      exact ⟨rfl, rfl, rfl, rfl, rfl⟩
    · rw [i_eq (by omega) (by omega)] at h50
      omega
theorem mo_an_6s {d : Nat} (hd : 5 ≤ d) (hop : J 130 45 = Int32.ofNat 6) (hsp : J 130 57 = Int32.ofNat 1) (hA : ∀ e, 4 ≤ e → bm e (S0 n0) R0 159 [.ref 130] W J g L (bR none W J1 g L)) : bm d (S0 n0) R0 154 [.ref 130] W J g L (bR none W J1 g L) := by
  obtain ⟨e, rfl⟩ : ∃ e, d = e + 1 := ⟨d - 1, by omega⟩
  refine bm_of (Nat.le_of_ble_eq_true rfl) (Or.inr bR_ret) ?_
  show bT e (S0 n0) R0 mt_Mo_answered _ 0 [(0, .ref 130)] [] W J g L 0 0
  have hSR := SR0 n0
  refine b_aln (pc2 := 1) d_Mo_answered_0 rfl rfl ?_
  refine b_gi (pc2 := 4) d_Mo_answered_1 q_11_235 (sh_130 n0) (by decide) (by decide) (rc_130) rfl ?_
  rw [hop]
  refine b_bp (pc2 := 6) (x := Int32.ofNat 7) d_Mo_answered_4 rfl rfl ?_
  refine b_ifd (pc2 := 29) d_Mo_answered_6 rfl rfl rfl rfl rfl (fun h6 => ?_) (fun h6 => ?_)
  · exact absurd h6 (by decide)
  refine b_aln (pc2 := 10) d_Mo_answered_9 rfl rfl ?_
  refine b_gi (pc2 := 13) d_Mo_answered_10 q_11_235 (sh_130 n0) (by decide) (by decide) (rc_130) rfl ?_
  rw [hop]
  refine b_bp (pc2 := 15) (x := Int32.ofNat 6) d_Mo_answered_13 rfl rfl ?_
  refine b_ifd (pc2 := 25) d_Mo_answered_15 rfl rfl rfl rfl rfl (fun h15 => ?_) (fun h15 => ?_)
  · exact absurd h15 (by decide)
  refine b_aln (pc2 := 19) d_Mo_answered_18 rfl rfl ?_
  refine b_gi (pc2 := 22) d_Mo_answered_19 q_11_244 (sh_130 n0) (by decide) (by decide) (rc_130) rfl ?_
  rw [hsp]
  refine b_ifd (pc2 := 29) d_Mo_answered_22 rfl rfl rfl rfl rfl (fun h22 => ?_) (fun h22 => ?_)
  rotate_left
  · exact absurd (by decide) h22
  refine b_ic (pc2 := 30) (x := Int32.ofNat 0) d_Mo_answered_29 rfl rfl ?_
  refine b_isn (pc2 := 31) (al2 := [(1, _), (0, _)]) d_Mo_answered_30 (by decide) rfl rfl ?_
  refine b_iln (pc2 := 32) d_Mo_answered_31 rfl rfl ?_
  refine b_ifd (pc2 := 108) d_Mo_answered_32 rfl rfl rfl rfl rfl (fun h32 => ?_) (fun h32 => ?_)
  rotate_left
  · exact absurd (by decide) h32
  refine b_iln (pc2 := 109) d_Mo_answered_108 rfl rfl ?_
  refine b_ifd (pc2 := 139) d_Mo_answered_109 rfl rfl rfl rfl rfl (fun h109 => ?_) (fun h109 => ?_)
  rotate_left
  · exact absurd (by decide) h109
  refine b_aln (pc2 := 140) d_Mo_answered_139 rfl rfl ?_
  refine b_gi (pc2 := 143) d_Mo_answered_140 q_11_235 (sh_130 n0) (by decide) (by decide) (rc_130) rfl ?_
  rw [hop]
  refine b_ic (pc2 := 144) (x := Int32.ofNat 1) d_Mo_answered_143 rfl rfl ?_
  refine b_ifd (pc2 := 154) d_Mo_answered_144 rfl rfl rfl rfl rfl (fun h144 => ?_) (fun h144 => ?_)
  rotate_left
  · exact absurd (by decide) h144
  refine b_aln (pc2 := 155) d_Mo_answered_154 rfl rfl ?_
  refine b_gi (pc2 := 158) d_Mo_answered_155 q_11_235 (sh_130 n0) (by decide) (by decide) (rc_130) rfl ?_
  rw [hop]
  refine b_ic (pc2 := 159) (x := Int32.ofNat 2) d_Mo_answered_158 rfl rfl ?_
  refine b_ifd (pc2 := 170) d_Mo_answered_159 rfl rfl rfl rfl rfl (fun h159 => ?_) (fun h159 => ?_)
  · exact absurd h159 (by decide)
  refine b_aln (pc2 := 163) d_Mo_answered_162 rfl rfl ?_
  refine b_gi (pc2 := 166) d_Mo_answered_163 q_11_235 (sh_130 n0) (by decide) (by decide) (rc_130) rfl ?_
  rw [hop]
  refine b_ic (pc2 := 167) (x := Int32.ofNat 3) d_Mo_answered_166 rfl rfl ?_
  refine b_ifd (pc2 := 177) d_Mo_answered_167 rfl rfl rfl rfl rfl (fun h167 => ?_) (fun h167 => ?_)
  rotate_left
  · exact absurd (by decide) h167
  refine b_aln (pc2 := 178) d_Mo_answered_177 rfl rfl ?_
  refine b_gi (pc2 := 181) d_Mo_answered_178 q_11_235 (sh_130 n0) (by decide) (by decide) (rc_130) rfl ?_
  rw [hop]
  refine b_ic (pc2 := 182) (x := Int32.ofNat 4) d_Mo_answered_181 rfl rfl ?_
  refine b_ifd (pc2 := 192) d_Mo_answered_182 rfl rfl rfl rfl rfl (fun h182 => ?_) (fun h182 => ?_)
  rotate_left
  · exact absurd (by decide) h182
  refine b_aln (pc2 := 193) d_Mo_answered_192 rfl rfl ?_
  refine b_gi (pc2 := 196) d_Mo_answered_193 q_11_235 (sh_130 n0) (by decide) (by decide) (rc_130) rfl ?_
  rw [hop]
  refine b_bp (pc2 := 198) (x := Int32.ofNat 6) d_Mo_answered_196 rfl rfl ?_
  refine b_ifd (pc2 := 208) d_Mo_answered_198 rfl rfl rfl rfl rfl (fun h198 => ?_) (fun h198 => ?_)
  · exact absurd h198 (by decide)
  refine b_aln (pc2 := 202) d_Mo_answered_201 rfl rfl ?_
  refine b_cv0 (pc2 := 205) (c2 := 0) (u2 := 0) (hA e (by omega)) d_Mo_answered_202 q_11_259 (Nat.le_of_ble_eq_true rfl) rfl rfl (sh_130 n0) (Nat.le_of_ble_eq_true rfl) rfl rfl (by decide) (by decide) rfl ?_
  refine b_go (pc2 := 275) d_Mo_answered_205 rfl ?_
  refine b_vr d_Mo_answered_275 rfl ?_
  exact ⟨rfl, rfl, rfl, rfl, rfl⟩
theorem mo_an_5 {d : Nat} (hd : 5 ≤ d) (hop : J 130 45 = Int32.ofNat 5) {n : Nat} (hn : J 130 27 = Int32.ofNat n) (hn20 : n ≤ 20) {b0 : Nat} (hb : J 150 0 = Int32.ofNat b0) (hb2 : b0 < 256) {r0 : Nat} (hr : J 161 0 = Int32.ofNat r0) (hr2 : r0 < 256) (hx : ¬ (b0 = 1 ∧ n = 4)) (hw : b0 = r0 + 1)  : bm d (S0 n0) R0 154 [.ref 130] W J g L (bR none W (am_u2 (am_u2 J 130 47 (Int32.ofNat 1)) 130 48 (Int32.ofNat 0)) g L) := by
  obtain ⟨e, rfl⟩ : ∃ e, d = e + 1 := ⟨d - 1, by omega⟩
  refine bm_of (Nat.le_of_ble_eq_true rfl) (Or.inr bR_ret) ?_
  show bT e (S0 n0) R0 mt_Mo_answered _ 0 [(0, .ref 130)] [] W J g L 0 0
  have hSR := SR0 n0
  refine b_aln (pc2 := 1) d_Mo_answered_0 rfl rfl ?_
  refine b_gi (pc2 := 4) d_Mo_answered_1 q_11_235 (sh_130 n0) (by decide) (by decide) (rc_130) rfl ?_
  rw [hop]
  refine b_bp (pc2 := 6) (x := Int32.ofNat 7) d_Mo_answered_4 rfl rfl ?_
  refine b_ifd (pc2 := 29) d_Mo_answered_6 rfl rfl rfl rfl rfl (fun h6 => ?_) (fun h6 => ?_)
  · exact absurd h6 (by decide)
  refine b_aln (pc2 := 10) d_Mo_answered_9 rfl rfl ?_
  refine b_gi (pc2 := 13) d_Mo_answered_10 q_11_235 (sh_130 n0) (by decide) (by decide) (rc_130) rfl ?_
  rw [hop]
  refine b_bp (pc2 := 15) (x := Int32.ofNat 6) d_Mo_answered_13 rfl rfl ?_
  refine b_ifd (pc2 := 25) d_Mo_answered_15 rfl rfl rfl rfl rfl (fun h15 => ?_) (fun h15 => ?_)
  rotate_left
  · exact absurd (by decide) h15
  refine b_ic (pc2 := 26) (x := Int32.ofNat 1) d_Mo_answered_25 rfl rfl ?_
  refine b_go (pc2 := 30) d_Mo_answered_26 rfl ?_
  refine b_isn (pc2 := 31) (al2 := [(1, _), (0, _)]) d_Mo_answered_30 (by decide) rfl rfl ?_
  refine b_iln (pc2 := 32) d_Mo_answered_31 rfl rfl ?_
  refine b_ifd (pc2 := 108) d_Mo_answered_32 rfl rfl rfl rfl rfl (fun h32 => ?_) (fun h32 => ?_)
  · exact absurd h32 (by decide)
  refine b_aln (pc2 := 36) d_Mo_answered_35 rfl rfl ?_
  refine b_gr (pc2 := 39) d_Mo_answered_36 q_11_72 (sh_130 n0) (by decide) (by decide) (p_130_28 n0) rfl ?_
  refine b_ic (pc2 := 40) (x := Int32.ofNat 0) d_Mo_answered_39 rfl rfl ?_
  refine b_ia (pc2 := 41) (q := 0) d_Mo_answered_40 (sh_150 n0) (i_in (i := 0) (by decide) (by decide)) (rfl) (rc_150) rfl ?_
  rw [hb]
  refine b_ic (pc2 := 42) (x := Int32.ofNat 1) d_Mo_answered_41 rfl rfl ?_
  refine b_ifd (pc2 := 108) d_Mo_answered_42 rfl rfl rfl rfl rfl (fun h42 => ?_) (fun h42 => ?_)
  · rw [i_eq (by omega) (by omega)] at h42
    refine b_iln (pc2 := 109) d_Mo_answered_108 rfl rfl ?_
    refine b_ifd (pc2 := 139) d_Mo_answered_109 rfl rfl rfl rfl rfl (fun h109 => ?_) (fun h109 => ?_)
    · exact absurd h109 (by decide)
    refine b_aln (pc2 := 113) d_Mo_answered_112 rfl rfl ?_
    refine b_gr (pc2 := 116) d_Mo_answered_113 q_11_72 (sh_130 n0) (by decide) (by decide) (p_130_28 n0) rfl ?_
    refine b_ic (pc2 := 117) (x := Int32.ofNat 0) d_Mo_answered_116 rfl rfl ?_
    refine b_ia (pc2 := 118) (q := 0) d_Mo_answered_117 (sh_150 n0) (i_in (i := 0) (by decide) (by decide)) (rfl) (rc_150) rfl ?_
    rw [hb]
    refine b_aln (pc2 := 119) d_Mo_answered_118 rfl rfl ?_
    refine b_gr (pc2 := 122) d_Mo_answered_119 q_11_114 (sh_130 n0) (by decide) (by decide) (p_130_51 n0) rfl ?_
    refine b_ic (pc2 := 123) (x := Int32.ofNat 0) d_Mo_answered_122 rfl rfl ?_
    refine b_ia (pc2 := 124) (q := 0) d_Mo_answered_123 (sh_161 n0) (i_in (i := 0) (by decide) (by decide)) (rfl) (rc_161) rfl ?_
    rw [hr]
    refine b_ic (pc2 := 125) (x := Int32.ofNat 1) d_Mo_answered_124 rfl rfl ?_
    refine b_pure (pc2 := 126) d_Mo_answered_125 rfl rfl rfl ?_
    rw [i_add]
    refine b_ifd (pc2 := 139) d_Mo_answered_126 rfl rfl rfl rfl rfl (fun h126 => ?_) (fun h126 => ?_)
    rotate_left
    · exact absurd (by rw [i_eq (by omega) (by omega)]; omega) h126
    refine b_aln (pc2 := 140) d_Mo_answered_139 rfl rfl ?_
    refine b_gi (pc2 := 143) d_Mo_answered_140 q_11_235 (sh_130 n0) (by decide) (by decide) (rc_130) rfl ?_
    rw [hop]
    refine b_ic (pc2 := 144) (x := Int32.ofNat 1) d_Mo_answered_143 rfl rfl ?_
    refine b_ifd (pc2 := 154) d_Mo_answered_144 rfl rfl rfl rfl rfl (fun h144 => ?_) (fun h144 => ?_)
    rotate_left
    · exact absurd (by decide) h144
    refine b_aln (pc2 := 155) d_Mo_answered_154 rfl rfl ?_
    refine b_gi (pc2 := 158) d_Mo_answered_155 q_11_235 (sh_130 n0) (by decide) (by decide) (rc_130) rfl ?_
    rw [hop]
    refine b_ic (pc2 := 159) (x := Int32.ofNat 2) d_Mo_answered_158 rfl rfl ?_
    refine b_ifd (pc2 := 170) d_Mo_answered_159 rfl rfl rfl rfl rfl (fun h159 => ?_) (fun h159 => ?_)
    · exact absurd h159 (by decide)
    refine b_aln (pc2 := 163) d_Mo_answered_162 rfl rfl ?_
    refine b_gi (pc2 := 166) d_Mo_answered_163 q_11_235 (sh_130 n0) (by decide) (by decide) (rc_130) rfl ?_
    rw [hop]
    refine b_ic (pc2 := 167) (x := Int32.ofNat 3) d_Mo_answered_166 rfl rfl ?_
    refine b_ifd (pc2 := 177) d_Mo_answered_167 rfl rfl rfl rfl rfl (fun h167 => ?_) (fun h167 => ?_)
    rotate_left
    · exact absurd (by decide) h167
    refine b_aln (pc2 := 178) d_Mo_answered_177 rfl rfl ?_
    refine b_gi (pc2 := 181) d_Mo_answered_178 q_11_235 (sh_130 n0) (by decide) (by decide) (rc_130) rfl ?_
    rw [hop]
    refine b_ic (pc2 := 182) (x := Int32.ofNat 4) d_Mo_answered_181 rfl rfl ?_
    refine b_ifd (pc2 := 192) d_Mo_answered_182 rfl rfl rfl rfl rfl (fun h182 => ?_) (fun h182 => ?_)
    rotate_left
    · exact absurd (by decide) h182
    refine b_aln (pc2 := 193) d_Mo_answered_192 rfl rfl ?_
    refine b_gi (pc2 := 196) d_Mo_answered_193 q_11_235 (sh_130 n0) (by decide) (by decide) (rc_130) rfl ?_
    rw [hop]
    refine b_bp (pc2 := 198) (x := Int32.ofNat 6) d_Mo_answered_196 rfl rfl ?_
    refine b_ifd (pc2 := 208) d_Mo_answered_198 rfl rfl rfl rfl rfl (fun h198 => ?_) (fun h198 => ?_)
    rotate_left
    · exact absurd (by decide) h198
    refine b_ic (pc2 := 209) (x := Int32.ofNat 0) d_Mo_answered_208 rfl rfl ?_
    refine b_isn (pc2 := 210) (al2 := [(2, _), (1, _), (0, _)]) d_Mo_answered_209 (by decide) rfl rfl ?_
    refine b_iln (pc2 := 211) d_Mo_answered_210 rfl rfl ?_
    refine b_aln (pc2 := 212) d_Mo_answered_211 rfl rfl ?_
    refine b_gi (pc2 := 215) d_Mo_answered_212 q_11_174 (sh_130 n0) (by decide) (by decide) (rc_130) rfl ?_
    rw [hn]
    refine b_ifd (pc2 := 245) d_Mo_answered_215 rfl rfl rfl rfl rfl (fun h215 => ?_) (fun h215 => ?_)
    · rw [i_le (by omega) (by omega)] at h215
      refine b_aln (pc2 := 246) d_Mo_answered_245 rfl rfl ?_
      refine b_aln (pc2 := 247) d_Mo_answered_246 rfl rfl ?_
      refine b_gi (pc2 := 250) d_Mo_answered_247 q_11_235 (sh_130 n0) (by decide) (by decide) (rc_130) rfl ?_
      rw [hop]
      refine b_bp (pc2 := 252) (x := Int32.ofNat 7) d_Mo_answered_250 rfl rfl ?_
      refine b_ifd (pc2 := 262) d_Mo_answered_252 rfl rfl rfl rfl rfl (fun h252 => ?_) (fun h252 => ?_)
      rotate_left
      · exact absurd (by decide) h252
      refine b_aln (pc2 := 263) d_Mo_answered_262 rfl rfl ?_
      refine b_gi (pc2 := 266) d_Mo_answered_263 q_11_262 (sh_130 n0) (by decide) (by decide) (rc_130) rfl ?_
      refine b_pi (pc2 := 269) d_Mo_answered_266 q_11_262 (sh_130 n0) (by decide) (Or.inl (by decide)) (Or.inl rfl) (rc_130) rfl ?_
      rw [u2_id]
      refine b_aln (pc2 := 270) d_Mo_answered_269 rfl rfl ?_
      refine b_ic (pc2 := 271) (x := Int32.ofNat 1) d_Mo_answered_270 rfl rfl ?_
      refine b_ic (pc2 := 272) (x := Int32.ofNat 0) d_Mo_answered_271 rfl rfl ?_
      refine b_cv0 (pc2 := 275) (c2 := 0) (u2 := 0) (mo_end (by omega)) d_Mo_answered_272 q_11_247 (Nat.le_of_ble_eq_true rfl) rfl rfl (sh_130 n0) (Nat.le_of_ble_eq_true rfl) rfl rfl (by decide) (by decide) rfl ?_
      refine b_vr d_Mo_answered_275 rfl ?_
      exact ⟨rfl, rfl, rfl, rfl, rfl⟩
    · rw [i_le (by omega) (by omega)] at h215
      refine b_aln (pc2 := 219) d_Mo_answered_218 rfl rfl ?_
      refine b_gi (pc2 := 222) d_Mo_answered_219 q_11_235 (sh_130 n0) (by decide) (by decide) (rc_130) rfl ?_
      rw [hop]
      refine b_bp (pc2 := 224) (x := Int32.ofNat 7) d_Mo_answered_222 rfl rfl ?_
      refine b_ifd (pc2 := 245) d_Mo_answered_224 rfl rfl rfl rfl rfl (fun h224 => ?_) (fun h224 => ?_)
      rotate_left
      · exact absurd (by decide) h224
      refine b_aln (pc2 := 246) d_Mo_answered_245 rfl rfl ?_
      refine b_aln (pc2 := 247) d_Mo_answered_246 rfl rfl ?_
      refine b_gi (pc2 := 250) d_Mo_answered_247 q_11_235 (sh_130 n0) (by decide) (by decide) (rc_130) rfl ?_
      rw [hop]
      refine b_bp (pc2 := 252) (x := Int32.ofNat 7) d_Mo_answered_250 rfl rfl ?_
      refine b_ifd (pc2 := 262) d_Mo_answered_252 rfl rfl rfl rfl rfl (fun h252 => ?_) (fun h252 => ?_)
      rotate_left
      · exact absurd (by decide) h252
      refine b_aln (pc2 := 263) d_Mo_answered_262 rfl rfl ?_
      refine b_gi (pc2 := 266) d_Mo_answered_263 q_11_262 (sh_130 n0) (by decide) (by decide) (rc_130) rfl ?_
      refine b_pi (pc2 := 269) d_Mo_answered_266 q_11_262 (sh_130 n0) (by decide) (Or.inl (by decide)) (Or.inl rfl) (rc_130) rfl ?_
      rw [u2_id]
      refine b_aln (pc2 := 270) d_Mo_answered_269 rfl rfl ?_
      refine b_ic (pc2 := 271) (x := Int32.ofNat 1) d_Mo_answered_270 rfl rfl ?_
      refine b_ic (pc2 := 272) (x := Int32.ofNat 0) d_Mo_answered_271 rfl rfl ?_
      refine b_cv0 (pc2 := 275) (c2 := 0) (u2 := 0) (mo_end (by omega)) d_Mo_answered_272 q_11_247 (Nat.le_of_ble_eq_true rfl) rfl rfl (sh_130 n0) (Nat.le_of_ble_eq_true rfl) rfl rfl (by decide) (by decide) rfl ?_
      refine b_vr d_Mo_answered_275 rfl ?_
      exact ⟨rfl, rfl, rfl, rfl, rfl⟩
  · rw [i_eq (by omega) (by omega)] at h42
    refine b_aln (pc2 := 46) d_Mo_answered_45 rfl rfl ?_
    refine b_gi (pc2 := 49) d_Mo_answered_46 q_11_174 (sh_130 n0) (by decide) (by decide) (rc_130) rfl ?_
    rw [hn]
    refine b_ic (pc2 := 50) (x := Int32.ofNat 4) d_Mo_answered_49 rfl rfl ?_
    refine b_ifd (pc2 := 108) d_Mo_answered_50 rfl rfl rfl rfl rfl (fun h50 => ?_) (fun h50 => ?_)
    · rw [i_eq (by omega) (by omega)] at h50
      refine b_iln (pc2 := 109) d_Mo_answered_108 rfl rfl ?_
      refine b_ifd (pc2 := 139) d_Mo_answered_109 rfl rfl rfl rfl rfl (fun h109 => ?_) (fun h109 => ?_)
      · exact absurd h109 (by decide)
      refine b_aln (pc2 := 113) d_Mo_answered_112 rfl rfl ?_
      refine b_gr (pc2 := 116) d_Mo_answered_113 q_11_72 (sh_130 n0) (by decide) (by decide) (p_130_28 n0) rfl ?_
      refine b_ic (pc2 := 117) (x := Int32.ofNat 0) d_Mo_answered_116 rfl rfl ?_
      refine b_ia (pc2 := 118) (q := 0) d_Mo_answered_117 (sh_150 n0) (i_in (i := 0) (by decide) (by decide)) (rfl) (rc_150) rfl ?_
      rw [hb]
      refine b_aln (pc2 := 119) d_Mo_answered_118 rfl rfl ?_
      refine b_gr (pc2 := 122) d_Mo_answered_119 q_11_114 (sh_130 n0) (by decide) (by decide) (p_130_51 n0) rfl ?_
      refine b_ic (pc2 := 123) (x := Int32.ofNat 0) d_Mo_answered_122 rfl rfl ?_
      refine b_ia (pc2 := 124) (q := 0) d_Mo_answered_123 (sh_161 n0) (i_in (i := 0) (by decide) (by decide)) (rfl) (rc_161) rfl ?_
      rw [hr]
      refine b_ic (pc2 := 125) (x := Int32.ofNat 1) d_Mo_answered_124 rfl rfl ?_
      refine b_pure (pc2 := 126) d_Mo_answered_125 rfl rfl rfl ?_
      rw [i_add]
      refine b_ifd (pc2 := 139) d_Mo_answered_126 rfl rfl rfl rfl rfl (fun h126 => ?_) (fun h126 => ?_)
      rotate_left
      · exact absurd (by rw [i_eq (by omega) (by omega)]; omega) h126
      refine b_aln (pc2 := 140) d_Mo_answered_139 rfl rfl ?_
      refine b_gi (pc2 := 143) d_Mo_answered_140 q_11_235 (sh_130 n0) (by decide) (by decide) (rc_130) rfl ?_
      rw [hop]
      refine b_ic (pc2 := 144) (x := Int32.ofNat 1) d_Mo_answered_143 rfl rfl ?_
      refine b_ifd (pc2 := 154) d_Mo_answered_144 rfl rfl rfl rfl rfl (fun h144 => ?_) (fun h144 => ?_)
      rotate_left
      · exact absurd (by decide) h144
      refine b_aln (pc2 := 155) d_Mo_answered_154 rfl rfl ?_
      refine b_gi (pc2 := 158) d_Mo_answered_155 q_11_235 (sh_130 n0) (by decide) (by decide) (rc_130) rfl ?_
      rw [hop]
      refine b_ic (pc2 := 159) (x := Int32.ofNat 2) d_Mo_answered_158 rfl rfl ?_
      refine b_ifd (pc2 := 170) d_Mo_answered_159 rfl rfl rfl rfl rfl (fun h159 => ?_) (fun h159 => ?_)
      · exact absurd h159 (by decide)
      refine b_aln (pc2 := 163) d_Mo_answered_162 rfl rfl ?_
      refine b_gi (pc2 := 166) d_Mo_answered_163 q_11_235 (sh_130 n0) (by decide) (by decide) (rc_130) rfl ?_
      rw [hop]
      refine b_ic (pc2 := 167) (x := Int32.ofNat 3) d_Mo_answered_166 rfl rfl ?_
      refine b_ifd (pc2 := 177) d_Mo_answered_167 rfl rfl rfl rfl rfl (fun h167 => ?_) (fun h167 => ?_)
      rotate_left
      · exact absurd (by decide) h167
      refine b_aln (pc2 := 178) d_Mo_answered_177 rfl rfl ?_
      refine b_gi (pc2 := 181) d_Mo_answered_178 q_11_235 (sh_130 n0) (by decide) (by decide) (rc_130) rfl ?_
      rw [hop]
      refine b_ic (pc2 := 182) (x := Int32.ofNat 4) d_Mo_answered_181 rfl rfl ?_
      refine b_ifd (pc2 := 192) d_Mo_answered_182 rfl rfl rfl rfl rfl (fun h182 => ?_) (fun h182 => ?_)
      rotate_left
      · exact absurd (by decide) h182
      refine b_aln (pc2 := 193) d_Mo_answered_192 rfl rfl ?_
      refine b_gi (pc2 := 196) d_Mo_answered_193 q_11_235 (sh_130 n0) (by decide) (by decide) (rc_130) rfl ?_
      rw [hop]
      refine b_bp (pc2 := 198) (x := Int32.ofNat 6) d_Mo_answered_196 rfl rfl ?_
      refine b_ifd (pc2 := 208) d_Mo_answered_198 rfl rfl rfl rfl rfl (fun h198 => ?_) (fun h198 => ?_)
      rotate_left
      · exact absurd (by decide) h198
      refine b_ic (pc2 := 209) (x := Int32.ofNat 0) d_Mo_answered_208 rfl rfl ?_
      refine b_isn (pc2 := 210) (al2 := [(2, _), (1, _), (0, _)]) d_Mo_answered_209 (by decide) rfl rfl ?_
      refine b_iln (pc2 := 211) d_Mo_answered_210 rfl rfl ?_
      refine b_aln (pc2 := 212) d_Mo_answered_211 rfl rfl ?_
      refine b_gi (pc2 := 215) d_Mo_answered_212 q_11_174 (sh_130 n0) (by decide) (by decide) (rc_130) rfl ?_
      rw [hn]
      refine b_ifd (pc2 := 245) d_Mo_answered_215 rfl rfl rfl rfl rfl (fun h215 => ?_) (fun h215 => ?_)
      · rw [i_le (by omega) (by omega)] at h215
        refine b_aln (pc2 := 246) d_Mo_answered_245 rfl rfl ?_
        refine b_aln (pc2 := 247) d_Mo_answered_246 rfl rfl ?_
        refine b_gi (pc2 := 250) d_Mo_answered_247 q_11_235 (sh_130 n0) (by decide) (by decide) (rc_130) rfl ?_
        rw [hop]
        refine b_bp (pc2 := 252) (x := Int32.ofNat 7) d_Mo_answered_250 rfl rfl ?_
        refine b_ifd (pc2 := 262) d_Mo_answered_252 rfl rfl rfl rfl rfl (fun h252 => ?_) (fun h252 => ?_)
        rotate_left
        · exact absurd (by decide) h252
        refine b_aln (pc2 := 263) d_Mo_answered_262 rfl rfl ?_
        refine b_gi (pc2 := 266) d_Mo_answered_263 q_11_262 (sh_130 n0) (by decide) (by decide) (rc_130) rfl ?_
        refine b_pi (pc2 := 269) d_Mo_answered_266 q_11_262 (sh_130 n0) (by decide) (Or.inl (by decide)) (Or.inl rfl) (rc_130) rfl ?_
        rw [u2_id]
        refine b_aln (pc2 := 270) d_Mo_answered_269 rfl rfl ?_
        refine b_ic (pc2 := 271) (x := Int32.ofNat 1) d_Mo_answered_270 rfl rfl ?_
        refine b_ic (pc2 := 272) (x := Int32.ofNat 0) d_Mo_answered_271 rfl rfl ?_
        refine b_cv0 (pc2 := 275) (c2 := 0) (u2 := 0) (mo_end (by omega)) d_Mo_answered_272 q_11_247 (Nat.le_of_ble_eq_true rfl) rfl rfl (sh_130 n0) (Nat.le_of_ble_eq_true rfl) rfl rfl (by decide) (by decide) rfl ?_
        refine b_vr d_Mo_answered_275 rfl ?_
        exact ⟨rfl, rfl, rfl, rfl, rfl⟩
      · rw [i_le (by omega) (by omega)] at h215
        refine b_aln (pc2 := 219) d_Mo_answered_218 rfl rfl ?_
        refine b_gi (pc2 := 222) d_Mo_answered_219 q_11_235 (sh_130 n0) (by decide) (by decide) (rc_130) rfl ?_
        rw [hop]
        refine b_bp (pc2 := 224) (x := Int32.ofNat 7) d_Mo_answered_222 rfl rfl ?_
        refine b_ifd (pc2 := 245) d_Mo_answered_224 rfl rfl rfl rfl rfl (fun h224 => ?_) (fun h224 => ?_)
        rotate_left
        · exact absurd (by decide) h224
        refine b_aln (pc2 := 246) d_Mo_answered_245 rfl rfl ?_
        refine b_aln (pc2 := 247) d_Mo_answered_246 rfl rfl ?_
        refine b_gi (pc2 := 250) d_Mo_answered_247 q_11_235 (sh_130 n0) (by decide) (by decide) (rc_130) rfl ?_
        rw [hop]
        refine b_bp (pc2 := 252) (x := Int32.ofNat 7) d_Mo_answered_250 rfl rfl ?_
        refine b_ifd (pc2 := 262) d_Mo_answered_252 rfl rfl rfl rfl rfl (fun h252 => ?_) (fun h252 => ?_)
        rotate_left
        · exact absurd (by decide) h252
        refine b_aln (pc2 := 263) d_Mo_answered_262 rfl rfl ?_
        refine b_gi (pc2 := 266) d_Mo_answered_263 q_11_262 (sh_130 n0) (by decide) (by decide) (rc_130) rfl ?_
        refine b_pi (pc2 := 269) d_Mo_answered_266 q_11_262 (sh_130 n0) (by decide) (Or.inl (by decide)) (Or.inl rfl) (rc_130) rfl ?_
        rw [u2_id]
        refine b_aln (pc2 := 270) d_Mo_answered_269 rfl rfl ?_
        refine b_ic (pc2 := 271) (x := Int32.ofNat 1) d_Mo_answered_270 rfl rfl ?_
        refine b_ic (pc2 := 272) (x := Int32.ofNat 0) d_Mo_answered_271 rfl rfl ?_
        refine b_cv0 (pc2 := 275) (c2 := 0) (u2 := 0) (mo_end (by omega)) d_Mo_answered_272 q_11_247 (Nat.le_of_ble_eq_true rfl) rfl rfl (sh_130 n0) (Nat.le_of_ble_eq_true rfl) rfl rfl (by decide) (by decide) rfl ?_
        refine b_vr d_Mo_answered_275 rfl ?_
        exact ⟨rfl, rfl, rfl, rfl, rfl⟩
    · rw [i_eq (by omega) (by omega)] at h50
      omega
theorem lp_raw {e : Nat} {n : Nat} (hn : J 130 27 = Int32.ofNat n) (hn20 : n ≤ 20) (hop : J 130 45 = Int32.ofNat 7) (K : bH e (S0 n0) R0 mt_Mo_answered Qh 245 [(0, .ref 130)] [] W (am_u1 J 162 (ovw 0 (lst (J 150) 0 n) (J 162))) g L 0 0) : ∀ (r j : Nat), j + r = n → bH e (S0 n0) R0 mt_Mo_answered Qh 210 [(2, .int (Int32.ofNat j)), (0, .ref 130), (1, .int (Int32.ofNat 0))] [] W (am_u1 J 162 (ovw 0 (lst (J 150) 0 j) (J 162))) g L 0 0 := by
  intro r
  induction r with
  | zero =>
    intro j hj
    refine b_iln (pc2 := 211) d_Mo_answered_210 rfl rfl ?_
    refine b_aln (pc2 := 212) d_Mo_answered_211 rfl rfl ?_
    refine b_gi (pc2 := 215) d_Mo_answered_212 q_11_174 (sh_130 n0) (by decide) (by decide) (rc_130) rfl ?_
    rw [u1_ne _ _ (by decide), hn]
    refine b_ifd (pc2 := 245) d_Mo_answered_215 rfl rfl rfl rfl rfl (fun h215 => ?_) (fun h215 => ?_)
    rotate_left
    · exact absurd (by rw [i_le (by omega) (by omega)]; omega) h215
    refine b_nf (al := [(0, _)]) (ks := [0]) (sub_c rfl (sub_n)) rfl (by decide) ?_
    dsimp only
    rw [show j = n by omega]
    exact K
  | succ r ih =>
    intro j hj
    refine b_iln (pc2 := 211) d_Mo_answered_210 rfl rfl ?_
    refine b_aln (pc2 := 212) d_Mo_answered_211 rfl rfl ?_
    refine b_gi (pc2 := 215) d_Mo_answered_212 q_11_174 (sh_130 n0) (by decide) (by decide) (rc_130) rfl ?_
    rw [u1_ne _ _ (by decide), hn]
    refine b_ifd (pc2 := 245) d_Mo_answered_215 rfl rfl rfl rfl rfl (fun h215 => ?_) (fun h215 => ?_)
    · exact absurd h215 (fun z => by rw [i_le (by omega) (by omega)] at z; omega)
    refine b_aln (pc2 := 219) d_Mo_answered_218 rfl rfl ?_
    refine b_gi (pc2 := 222) d_Mo_answered_219 q_11_235 (sh_130 n0) (by decide) (by decide) (rc_130) rfl ?_
    rw [u1_ne _ _ (by decide), hop]
    refine b_bp (pc2 := 224) (x := Int32.ofNat 7) d_Mo_answered_222 rfl rfl ?_
    refine b_ifd (pc2 := 245) d_Mo_answered_224 rfl rfl rfl rfl rfl (fun h224 => ?_) (fun h224 => ?_)
    · exact absurd h224 (by decide)
    refine b_aln (pc2 := 228) d_Mo_answered_227 rfl rfl ?_
    refine b_gr (pc2 := 231) d_Mo_answered_228 q_11_117 (sh_130 n0) (by decide) (by decide) (p_130_53 n0) rfl ?_
    refine b_iln (pc2 := 232) d_Mo_answered_231 rfl rfl ?_
    refine b_aln (pc2 := 233) d_Mo_answered_232 rfl rfl ?_
    refine b_gr (pc2 := 236) d_Mo_answered_233 q_11_72 (sh_130 n0) (by decide) (by decide) (p_130_28 n0) rfl ?_
    refine b_iln (pc2 := 237) d_Mo_answered_236 rfl rfl ?_
    refine b_ia (pc2 := 238) (q := j) d_Mo_answered_237 (sh_150 n0) (i_in (show j < 24 by omega) (by decide)) (i_tn (by omega)) (rc_150) rfl ?_
    rw [u1_ne _ _ (by decide)]
    refine b_ist (pc2 := 239) (q := j) d_Mo_answered_238 (sh_162 n0) (i_in (show j < 64 by omega) (by decide)) (i_tn (by omega)) (rc_162) rfl ?_
    have hl0 := ovw_step 0 (lst (J 150) 0 j) (J 162) (J 150 j)
    rw [lst_len, Nat.zero_add] at hl0
    rw [u21, hl0, show lst (J 150) 0 j ++ [J 150 j] = lst (J 150) 0 (j + 1) by rw [lst_app, Nat.zero_add]]
    refine b_inc (pc2 := 242) (al2 := [(2, _), (0, _), (1, _)]) (y := Int32.ofNat 1) d_Mo_answered_239 (by decide) rfl rfl rfl rfl ?_
    rw [i_add]
    refine b_go (pc2 := 210) d_Mo_answered_242 rfl ?_
    refine b_nf (al := [(2, _), (0, _), (1, _)]) (ks := [2, 0, 1]) (sub_c rfl (sub_c rfl (sub_c rfl (sub_n)))) rfl (by decide) ?_
    dsimp only
    exact ih (j + 1) (by omega)
theorem mo_an_7 {d : Nat} (hd : 5 ≤ d) (hop : J 130 45 = Int32.ofNat 7) {n : Nat} (hn : J 130 27 = Int32.ofNat n) (hn20 : n ≤ 20)  : bm d (S0 n0) R0 154 [.ref 130] W J g L (bR none W (am_u2 (am_u2 (am_u2 (am_u1 J 162 (ovw 0 (lst (J 150) 0 n) (J 162))) 130 52 (Int32.ofNat n)) 130 47 (Int32.ofNat 1)) 130 48 (Int32.ofNat 0)) g L) := by
  obtain ⟨e, rfl⟩ : ∃ e, d = e + 1 := ⟨d - 1, by omega⟩
  refine bm_of (Nat.le_of_ble_eq_true rfl) (Or.inr bR_ret) ?_
  show bT e (S0 n0) R0 mt_Mo_answered _ 0 [(0, .ref 130)] [] W J g L 0 0
  have hSR := SR0 n0
  refine b_aln (pc2 := 1) d_Mo_answered_0 rfl rfl ?_
  refine b_gi (pc2 := 4) d_Mo_answered_1 q_11_235 (sh_130 n0) (by decide) (by decide) (rc_130) rfl ?_
  rw [hop]
  refine b_bp (pc2 := 6) (x := Int32.ofNat 7) d_Mo_answered_4 rfl rfl ?_
  refine b_ifd (pc2 := 29) d_Mo_answered_6 rfl rfl rfl rfl rfl (fun h6 => ?_) (fun h6 => ?_)
  rotate_left
  · exact absurd (by decide) h6
  refine b_ic (pc2 := 30) (x := Int32.ofNat 0) d_Mo_answered_29 rfl rfl ?_
  refine b_isn (pc2 := 31) (al2 := [(1, _), (0, _)]) d_Mo_answered_30 (by decide) rfl rfl ?_
  refine b_iln (pc2 := 32) d_Mo_answered_31 rfl rfl ?_
  refine b_ifd (pc2 := 108) d_Mo_answered_32 rfl rfl rfl rfl rfl (fun h32 => ?_) (fun h32 => ?_)
  rotate_left
  · exact absurd (by decide) h32
  refine b_iln (pc2 := 109) d_Mo_answered_108 rfl rfl ?_
  refine b_ifd (pc2 := 139) d_Mo_answered_109 rfl rfl rfl rfl rfl (fun h109 => ?_) (fun h109 => ?_)
  rotate_left
  · exact absurd (by decide) h109
  refine b_aln (pc2 := 140) d_Mo_answered_139 rfl rfl ?_
  refine b_gi (pc2 := 143) d_Mo_answered_140 q_11_235 (sh_130 n0) (by decide) (by decide) (rc_130) rfl ?_
  rw [hop]
  refine b_ic (pc2 := 144) (x := Int32.ofNat 1) d_Mo_answered_143 rfl rfl ?_
  refine b_ifd (pc2 := 154) d_Mo_answered_144 rfl rfl rfl rfl rfl (fun h144 => ?_) (fun h144 => ?_)
  rotate_left
  · exact absurd (by decide) h144
  refine b_aln (pc2 := 155) d_Mo_answered_154 rfl rfl ?_
  refine b_gi (pc2 := 158) d_Mo_answered_155 q_11_235 (sh_130 n0) (by decide) (by decide) (rc_130) rfl ?_
  rw [hop]
  refine b_ic (pc2 := 159) (x := Int32.ofNat 2) d_Mo_answered_158 rfl rfl ?_
  refine b_ifd (pc2 := 170) d_Mo_answered_159 rfl rfl rfl rfl rfl (fun h159 => ?_) (fun h159 => ?_)
  · exact absurd h159 (by decide)
  refine b_aln (pc2 := 163) d_Mo_answered_162 rfl rfl ?_
  refine b_gi (pc2 := 166) d_Mo_answered_163 q_11_235 (sh_130 n0) (by decide) (by decide) (rc_130) rfl ?_
  rw [hop]
  refine b_ic (pc2 := 167) (x := Int32.ofNat 3) d_Mo_answered_166 rfl rfl ?_
  refine b_ifd (pc2 := 177) d_Mo_answered_167 rfl rfl rfl rfl rfl (fun h167 => ?_) (fun h167 => ?_)
  rotate_left
  · exact absurd (by decide) h167
  refine b_aln (pc2 := 178) d_Mo_answered_177 rfl rfl ?_
  refine b_gi (pc2 := 181) d_Mo_answered_178 q_11_235 (sh_130 n0) (by decide) (by decide) (rc_130) rfl ?_
  rw [hop]
  refine b_ic (pc2 := 182) (x := Int32.ofNat 4) d_Mo_answered_181 rfl rfl ?_
  refine b_ifd (pc2 := 192) d_Mo_answered_182 rfl rfl rfl rfl rfl (fun h182 => ?_) (fun h182 => ?_)
  rotate_left
  · exact absurd (by decide) h182
  refine b_aln (pc2 := 193) d_Mo_answered_192 rfl rfl ?_
  refine b_gi (pc2 := 196) d_Mo_answered_193 q_11_235 (sh_130 n0) (by decide) (by decide) (rc_130) rfl ?_
  rw [hop]
  refine b_bp (pc2 := 198) (x := Int32.ofNat 6) d_Mo_answered_196 rfl rfl ?_
  refine b_ifd (pc2 := 208) d_Mo_answered_198 rfl rfl rfl rfl rfl (fun h198 => ?_) (fun h198 => ?_)
  rotate_left
  · exact absurd (by decide) h198
  refine b_ic (pc2 := 209) (x := Int32.ofNat 0) d_Mo_answered_208 rfl rfl ?_
  refine b_isn (pc2 := 210) (al2 := [(2, _), (1, _), (0, _)]) d_Mo_answered_209 (by decide) rfl rfl ?_
  refine b_nf (al := [(2, _), (0, _), (1, _)]) (ks := [2, 0, 1]) (sub_c rfl (sub_c rfl (sub_c rfl (sub_n)))) rfl (by decide) ?_
  dsimp only
  refine (fun z => ?_ : _ → _) (lp_raw (n0 := n0) (W := W) (J := J) (g := g) (L := L) (e := e) (n := n) (Qh := bw_Q (S0 n0) R0 (bR none W (am_u2 (am_u2 (am_u2 (am_u1 J 162 (ovw 0 (lst (J 150) 0 n) (J 162))) 130 52 (Int32.ofNat n)) 130 47 (Int32.ofNat 1)) 130 48 (Int32.ofNat 0)) g L)) hn hn20 hop ?_ n 0 (by omega))
  · rw [show lst (J 150) 0 0 = [] from rfl, ovw_nil, u1_id] at z
    exact z
  · refine b_aln (pc2 := 246) d_Mo_answered_245 rfl rfl ?_
    refine b_aln (pc2 := 247) d_Mo_answered_246 rfl rfl ?_
    refine b_gi (pc2 := 250) d_Mo_answered_247 q_11_235 (sh_130 n0) (by decide) (by decide) (rc_130) rfl ?_
    rw [u1_ne _ _ (by decide), hop]
    refine b_bp (pc2 := 252) (x := Int32.ofNat 7) d_Mo_answered_250 rfl rfl ?_
    refine b_ifd (pc2 := 262) d_Mo_answered_252 rfl rfl rfl rfl rfl (fun h252 => ?_) (fun h252 => ?_)
    · exact absurd h252 (by decide)
    refine b_aln (pc2 := 256) d_Mo_answered_255 rfl rfl ?_
    refine b_gi (pc2 := 259) d_Mo_answered_256 q_11_174 (sh_130 n0) (by decide) (by decide) (rc_130) rfl ?_
    rw [u1_ne _ _ (by decide), hn]
    refine b_go (pc2 := 266) d_Mo_answered_259 rfl ?_
    refine b_pi (pc2 := 269) d_Mo_answered_266 q_11_262 (sh_130 n0) (by decide) (Or.inl (by decide)) (Or.inl rfl) (rc_130) rfl ?_
    refine b_aln (pc2 := 270) d_Mo_answered_269 rfl rfl ?_
    refine b_ic (pc2 := 271) (x := Int32.ofNat 1) d_Mo_answered_270 rfl rfl ?_
    refine b_ic (pc2 := 272) (x := Int32.ofNat 0) d_Mo_answered_271 rfl rfl ?_
    refine b_cv0 (pc2 := 275) (c2 := 0) (u2 := 0) (mo_end (by omega)) d_Mo_answered_272 q_11_247 (Nat.le_of_ble_eq_true rfl) rfl rfl (sh_130 n0) (Nat.le_of_ble_eq_true rfl) rfl rfl (by decide) (by decide) rfl ?_
    refine b_vr d_Mo_answered_275 rfl ?_
    exact ⟨rfl, rfl, rfl, rfl, rfl⟩
end MW
