/-! Part 81 (written by gen31.py): the reference: give -/
theorem ov4 (J : bw_J) (to : Nat) (x0 x1 x2 x3 : Int32) : am_u2 (am_u2 (am_u2 (am_u2 J 140 to x0) 140 (to + 1) x1) 140 (to + 2) x2) 140 (to + 3) x3 = am_u1 J 140 (ovw to [x0, x1, x2, x3] (J 140)) := by
  have e0 : am_u1 (J 140) to x0 = ovw to [x0] (J 140) := by
    have := ovw_step to [] (J 140) x0
    rw [ovw_nil] at this
    exact this
  have e1 : am_u1 (ovw to [x0] (J 140)) (to + 1) x1 = ovw to [x0, x1] (J 140) := ovw_step to [x0] (J 140) x1
  have e2 : am_u1 (ovw to [x0, x1] (J 140)) (to + 2) x2 = ovw to [x0, x1, x2] (J 140) := ovw_step to [x0, x1] (J 140) x2
  have e3 : am_u1 (ovw to [x0, x1, x2] (J 140)) (to + 3) x3 = ovw to [x0, x1, x2, x3] (J 140) := ovw_step to [x0, x1, x2] (J 140) x3
  rw [u2_u1 J 140, u21, u21, u21, e0, e1, e2, e3]
theorem l_tk {l : List Int32} {k : Nat} (h : k < l.length) : l.take k ++ [l.getD k 0] = l.take (k + 1) := by
  rw [List.take_succ, List.getElem?_eq_getElem h, List.getD_eq_getElem?_getD, List.getElem?_eq_getElem h]
  rfl
def gvL (l : List Int32) : List Int32 := [Int32.ofNat l.length, Int32.ofNat 0, Int32.ofNat 4, Int32.ofNat 0] ++ l
def gvJ (d a w : Nat) (l : List Int32) (J : bw_J) : bw_J := am_u2 (am_u2 (am_u1 J 140 (ovw (24 * a) (gvL l) (J 140))) 141 a (Int32.ofNat (l.length + 4))) 143 d (Int32.ofNat (w + 1))
section MG
variable {n0 : Nat} {W : bw_W} {J : bw_J} {g : Nat} {L : bw_L}
variable {Qh : am_O → am_H → Prop}
theorem lp_give {e : Nat} {l : List Int32} {a : Nat} {d0 : Int32} (ha : a < 16) (hmk : J 130 29 = Int32.ofNat l.length) (hmv : ∀ k, k < l.length → J 151 k = l.getD k 0) (hl : l.length ≤ 20) (K : bH e (S0 n0) R0 mt_Mo_give Qh 112 [(0, .ref 130), (1, .int d0), (2, .int (Int32.ofNat a))] [] W (am_u1 J 140 (ovw (24 * a) (gvL l) (J 140))) g L 0 0) : ∀ (r k : Nat), k + r = l.length → bH e (S0 n0) R0 mt_Mo_give Qh 79 [(4, .int (Int32.ofNat k)), (0, .ref 130), (1, .int d0), (2, .int (Int32.ofNat a)), (3, .int (Int32.ofNat (24 * a)))] [] W (am_u1 J 140 (ovw (24 * a) ([Int32.ofNat l.length, Int32.ofNat 0, Int32.ofNat 4, Int32.ofNat 0] ++ l.take k) (J 140))) g L 0 0 := by
  have hSR := SR0 n0
  intro r
  induction r with
  | zero =>
    intro k hk
    refine b_il (pc2 := 81) d_Mo_give_79 rfl rfl ?_
    refine b_aln (pc2 := 82) d_Mo_give_81 rfl rfl ?_
    refine b_gi (pc2 := 85) d_Mo_give_82 q_11_140 (sh_130 n0) (by decide) (by decide) (rc_130) rfl ?_
    rw [u1_ne _ _ (by decide), hmk]
    refine b_ifd (pc2 := 112) d_Mo_give_85 rfl rfl rfl rfl rfl (fun h85 => ?_) (fun h85 => ?_)
    rotate_left
    · exact absurd ((i_le (by omega) (by omega)).mpr (by omega)) h85
    refine b_nf (al := [(0, _), (1, _), (2, _)]) (ks := [0, 1, 2]) (sub_c rfl (sub_c rfl (sub_c rfl (sub_n)))) rfl (by decide) ?_
    dsimp only
    rw [List.take_of_length_le (show l.length ≤ k by omega)]
    exact K
  | succ r ih =>
    intro k hk
    refine b_il (pc2 := 81) d_Mo_give_79 rfl rfl ?_
    refine b_aln (pc2 := 82) d_Mo_give_81 rfl rfl ?_
    refine b_gi (pc2 := 85) d_Mo_give_82 q_11_140 (sh_130 n0) (by decide) (by decide) (rc_130) rfl ?_
    rw [u1_ne _ _ (by decide), hmk]
    refine b_ifd (pc2 := 112) d_Mo_give_85 rfl rfl rfl rfl rfl (fun h85 => ?_) (fun h85 => ?_)
    · exact absurd h85 (fun z => by rw [i_le (by omega) (by omega)] at z; omega)
    refine b_aln (pc2 := 89) d_Mo_give_88 rfl rfl ?_
    refine b_gr (pc2 := 92) d_Mo_give_89 q_11_42 (sh_130 n0) (by decide) (by decide) (p_130_17 n0) rfl ?_
    refine b_iln (pc2 := 93) d_Mo_give_92 rfl rfl ?_
    refine b_ic (pc2 := 94) (x := Int32.ofNat 4) d_Mo_give_93 rfl rfl ?_
    refine b_pure (pc2 := 95) d_Mo_give_94 rfl rfl rfl ?_
    rw [i_add]
    refine b_il (pc2 := 97) d_Mo_give_95 rfl rfl ?_
    refine b_pure (pc2 := 98) d_Mo_give_97 rfl rfl rfl ?_
    rw [i_add]
    refine b_aln (pc2 := 99) d_Mo_give_98 rfl rfl ?_
    refine b_gr (pc2 := 102) d_Mo_give_99 q_11_75 (sh_130 n0) (by decide) (by decide) (p_130_30 n0) rfl ?_
    refine b_il (pc2 := 104) d_Mo_give_102 rfl rfl ?_
    refine b_ia (pc2 := 105) (q := k) d_Mo_give_104 (sh_151 n0) (i_in (show k < 40 by omega) (by decide)) (i_tn (by omega)) (rc_151) rfl ?_
    rw [u1_ne _ _ (by decide), hmv k (by omega)]
    refine b_ist (pc2 := 106) (q := (24 * a + 4 + k)) d_Mo_give_105 (sh_140 n0) (i_in (show 24 * a + 4 + k < 384 by omega) (by decide)) (i_tn (by omega)) (rc_140) rfl ?_
    have hlen : 24 * a + 4 + k = 24 * a + ([Int32.ofNat l.length, Int32.ofNat 0, Int32.ofNat 4, Int32.ofNat 0] ++ l.take k).length := by rw [List.length_append, List.length_take, Nat.min_eq_left (by omega)]; show _ = 24 * a + (4 + k); omega
    rw [u21, hlen, ovw_step, List.append_assoc, l_tk (by omega)]
    refine b_inc (pc2 := 109) (al2 := [(4, _), (0, _), (1, _), (2, _), (3, _)]) (y := Int32.ofNat 1) d_Mo_give_106 (by decide) rfl rfl rfl rfl ?_
    refine b_go (pc2 := 79) d_Mo_give_109 rfl ?_
    refine b_nf (al := [(4, _), (0, _), (1, _), (2, _), (3, _)]) (ks := [4, 0, 1, 2, 3]) (sub_c rfl (sub_c rfl (sub_c rfl (sub_c rfl (sub_c rfl (sub_n)))))) rfl (by decide) ?_
    dsimp only
    rw [i_add]
    exact ih (k + 1) (by omega)
theorem mo_give0_full {d : Nat} (hd : 1 ≤ d) (hw : J 143 0 = Int32.ofNat 8) : bm d (S0 n0) R0 135 [.ref 130, .int (Int32.ofNat 0)] W J g L (bR none W J g L) := by
  obtain ⟨e, rfl⟩ : ∃ e, d = e + 1 := ⟨d - 1, by omega⟩
  refine bm_of (Nat.le_of_ble_eq_true rfl) (Or.inr bR_ret) ?_
  show bT e (S0 n0) R0 mt_Mo_give _ 0 [(0, .ref 130), (1, .int (Int32.ofNat 0))] [] W J g L 0 0
  have hSR := SR0 n0
  refine b_aln (pc2 := 1) d_Mo_give_0 rfl rfl ?_
  refine b_gr (pc2 := 4) d_Mo_give_1 q_11_51 (sh_130 n0) (by decide) (by decide) (p_130_20 n0) rfl ?_
  refine b_iln (pc2 := 5) d_Mo_give_4 rfl rfl ?_
  refine b_ia (pc2 := 6) (q := 0) d_Mo_give_5 (sh_143 n0) (i_in (i := 0) (by decide) (by decide)) (rfl) (rc_143) rfl ?_
  refine b_bp (pc2 := 8) (x := Int32.ofNat 8) d_Mo_give_6 rfl rfl ?_
  refine b_ifd (pc2 := 12) d_Mo_give_8 rfl rfl rfl rfl rfl (fun h8 => ?_) (fun h8 => ?_)
  · exact absurd h8 (fun z => z hw)
  refine b_vr d_Mo_give_11 rfl ?_
  exact ⟨rfl, rfl, rfl, rfl, rfl⟩
theorem mo_give0 {d : Nat} (hd : 1 ≤ d) {l : List Int32} {fr w : Nat} (hmk : J 130 29 = Int32.ofNat l.length) (hmv : ∀ k, k < l.length → J 151 k = l.getD k 0) (hl : l.length ≤ 20) (hf : J 142 0 = Int32.ofNat fr) (hf8 : fr < 8) (hw : J 143 0 = Int32.ofNat w) (hw8 : w < 8) {a : Nat} (hae : a = 0 + (fr + w) % 8) : bm d (S0 n0) R0 135 [.ref 130, .int (Int32.ofNat 0)] W J g L (bR none W (gvJ 0 a w l J) g L) := by
  obtain ⟨e, rfl⟩ : ∃ e, d = e + 1 := ⟨d - 1, by omega⟩
  refine bm_of (Nat.le_of_ble_eq_true rfl) (Or.inr bR_ret) ?_
  show bT e (S0 n0) R0 mt_Mo_give _ 0 [(0, .ref 130), (1, .int (Int32.ofNat 0))] [] W J g L 0 0
  have hSR := SR0 n0
  have hm8 : (fr + w) % 8 < 8 := Nat.mod_lt _ (by decide)
  refine b_aln (pc2 := 1) d_Mo_give_0 rfl rfl ?_
  refine b_gr (pc2 := 4) d_Mo_give_1 q_11_51 (sh_130 n0) (by decide) (by decide) (p_130_20 n0) rfl ?_
  refine b_iln (pc2 := 5) d_Mo_give_4 rfl rfl ?_
  refine b_ia (pc2 := 6) (q := 0) d_Mo_give_5 (sh_143 n0) (i_in (i := 0) (by decide) (by decide)) (rfl) (rc_143) rfl ?_
  rw [hw]
  refine b_bp (pc2 := 8) (x := Int32.ofNat 8) d_Mo_give_6 rfl rfl ?_
  refine b_ifd (pc2 := 12) d_Mo_give_8 rfl rfl rfl rfl rfl (fun h8 => ?_) (fun h8 => ?_)
  rotate_left
  · exact absurd (fun z => by rw [i_eq (by omega) (by decide)] at z; omega) h8
  refine b_bp (pc2 := 14) (x := Int32.ofNat 8) d_Mo_give_12 rfl rfl ?_
  refine b_iln (pc2 := 15) d_Mo_give_14 rfl rfl ?_
  refine b_pure (pc2 := 16) d_Mo_give_15 rfl rfl rfl ?_
  rw [i_mul]
  refine b_aln (pc2 := 17) d_Mo_give_16 rfl rfl ?_
  refine b_gr (pc2 := 20) d_Mo_give_17 q_11_48 (sh_130 n0) (by decide) (by decide) (p_130_19 n0) rfl ?_
  refine b_iln (pc2 := 21) d_Mo_give_20 rfl rfl ?_
  refine b_ia (pc2 := 22) (q := 0) d_Mo_give_21 (sh_142 n0) (i_in (i := 0) (by decide) (by decide)) (rfl) (rc_142) rfl ?_
  rw [hf]
  refine b_aln (pc2 := 23) d_Mo_give_22 rfl rfl ?_
  refine b_gr (pc2 := 26) d_Mo_give_23 q_11_51 (sh_130 n0) (by decide) (by decide) (p_130_20 n0) rfl ?_
  refine b_iln (pc2 := 27) d_Mo_give_26 rfl rfl ?_
  refine b_ia (pc2 := 28) (q := 0) d_Mo_give_27 (sh_143 n0) (i_in (i := 0) (by decide) (by decide)) (rfl) (rc_143) rfl ?_
  rw [hw]
  refine b_pure (pc2 := 29) d_Mo_give_28 rfl rfl rfl ?_
  rw [i_add]
  refine b_bp (pc2 := 31) (x := Int32.ofNat 8) d_Mo_give_29 rfl rfl ?_
  refine b_rem (pc2 := 32) d_Mo_give_31 (by decide) rfl ?_
  rw [i_rem (by omega) (by decide) (by decide)]
  refine b_pure (pc2 := 33) d_Mo_give_32 rfl rfl rfl ?_
  rw [i_add, show 8 * 0 + (fr + w) % 8 = a from hae.symm]
  refine b_isn (pc2 := 34) (al2 := [(2, _), (0, _), (1, _)]) d_Mo_give_33 (by decide) rfl rfl ?_
  refine b_bp (pc2 := 36) (x := Int32.ofNat 24) d_Mo_give_34 rfl rfl ?_
  refine b_iln (pc2 := 37) d_Mo_give_36 rfl rfl ?_
  refine b_pure (pc2 := 38) d_Mo_give_37 rfl rfl rfl ?_
  rw [i_mul]
  refine b_isn (pc2 := 39) (al2 := [(3, _), (2, _), (0, _), (1, _)]) d_Mo_give_38 (by decide) rfl rfl ?_
  refine b_aln (pc2 := 40) d_Mo_give_39 rfl rfl ?_
  refine b_gr (pc2 := 43) d_Mo_give_40 q_11_42 (sh_130 n0) (by decide) (by decide) (p_130_17 n0) rfl ?_
  refine b_iln (pc2 := 44) d_Mo_give_43 rfl rfl ?_
  refine b_aln (pc2 := 45) d_Mo_give_44 rfl rfl ?_
  refine b_gi (pc2 := 48) d_Mo_give_45 q_11_140 (sh_130 n0) (by decide) (by decide) (rc_130) rfl ?_
  rw [hmk]
  refine b_ist (pc2 := 49) (q := (24 * a)) d_Mo_give_48 (sh_140 n0) (i_in (show 24 * a < 384 by omega) (by decide)) (i_tn (by omega)) (rc_140) rfl ?_
  refine b_aln (pc2 := 50) d_Mo_give_49 rfl rfl ?_
  refine b_gr (pc2 := 53) d_Mo_give_50 q_11_42 (sh_130 n0) (by decide) (by decide) (p_130_17 n0) rfl ?_
  refine b_iln (pc2 := 54) d_Mo_give_53 rfl rfl ?_
  refine b_ic (pc2 := 55) (x := Int32.ofNat 1) d_Mo_give_54 rfl rfl ?_
  refine b_pure (pc2 := 56) d_Mo_give_55 rfl rfl rfl ?_
  rw [i_add]
  refine b_ic (pc2 := 57) (x := Int32.ofNat 0) d_Mo_give_56 rfl rfl ?_
  refine b_ist (pc2 := 58) (q := (24 * a + 1)) d_Mo_give_57 (sh_140 n0) (i_in (show 24 * a + 1 < 384 by omega) (by decide)) (i_tn (by omega)) (rc_140) rfl ?_
  refine b_aln (pc2 := 59) d_Mo_give_58 rfl rfl ?_
  refine b_gr (pc2 := 62) d_Mo_give_59 q_11_42 (sh_130 n0) (by decide) (by decide) (p_130_17 n0) rfl ?_
  refine b_iln (pc2 := 63) d_Mo_give_62 rfl rfl ?_
  refine b_ic (pc2 := 64) (x := Int32.ofNat 2) d_Mo_give_63 rfl rfl ?_
  refine b_pure (pc2 := 65) d_Mo_give_64 rfl rfl rfl ?_
  rw [i_add]
  refine b_ic (pc2 := 66) (x := Int32.ofNat 4) d_Mo_give_65 rfl rfl ?_
  refine b_ist (pc2 := 67) (q := (24 * a + 2)) d_Mo_give_66 (sh_140 n0) (i_in (show 24 * a + 2 < 384 by omega) (by decide)) (i_tn (by omega)) (rc_140) rfl ?_
  refine b_aln (pc2 := 68) d_Mo_give_67 rfl rfl ?_
  refine b_gr (pc2 := 71) d_Mo_give_68 q_11_42 (sh_130 n0) (by decide) (by decide) (p_130_17 n0) rfl ?_
  refine b_iln (pc2 := 72) d_Mo_give_71 rfl rfl ?_
  refine b_ic (pc2 := 73) (x := Int32.ofNat 3) d_Mo_give_72 rfl rfl ?_
  refine b_pure (pc2 := 74) d_Mo_give_73 rfl rfl rfl ?_
  rw [i_add]
  refine b_ic (pc2 := 75) (x := Int32.ofNat 0) d_Mo_give_74 rfl rfl ?_
  refine b_ist (pc2 := 76) (q := (24 * a + 3)) d_Mo_give_75 (sh_140 n0) (i_in (show 24 * a + 3 < 384 by omega) (by decide)) (i_tn (by omega)) (rc_140) rfl ?_
  rw [ov4]
  refine b_ic (pc2 := 77) (x := Int32.ofNat 0) d_Mo_give_76 rfl rfl ?_
  refine b_is (pc2 := 79) (al2 := [(4, _), (3, _), (2, _), (0, _), (1, _)]) d_Mo_give_77 (by decide) rfl rfl ?_
  refine b_nf (al := [(4, _), (0, _), (1, _), (2, _), (3, _)]) (ks := [4, 0, 1, 2, 3]) (sub_c rfl (sub_c rfl (sub_c rfl (sub_c rfl (sub_c rfl (sub_n)))))) rfl (by decide) ?_
  dsimp only
  refine lp_give (by omega) hmk hmv hl ?_ l.length 0 (by omega)
  refine b_aln (pc2 := 113) d_Mo_give_112 rfl rfl ?_
  refine b_gr (pc2 := 116) d_Mo_give_113 q_11_45 (sh_130 n0) (by decide) (by decide) (p_130_18 n0) rfl ?_
  refine b_iln (pc2 := 117) d_Mo_give_116 rfl rfl ?_
  refine b_aln (pc2 := 118) d_Mo_give_117 rfl rfl ?_
  refine b_gi (pc2 := 121) d_Mo_give_118 q_11_140 (sh_130 n0) (by decide) (by decide) (rc_130) rfl ?_
  rw [u1_ne _ _ (by decide), hmk]
  refine b_ic (pc2 := 122) (x := Int32.ofNat 4) d_Mo_give_121 rfl rfl ?_
  refine b_pure (pc2 := 123) d_Mo_give_122 rfl rfl rfl ?_
  rw [i_add]
  refine b_ist (pc2 := 124) (q := a) d_Mo_give_123 (sh_141 n0) (i_in (show a < 16 by omega) (by decide)) (i_tn (by omega)) (rc_141) rfl ?_
  refine b_aln (pc2 := 125) d_Mo_give_124 rfl rfl ?_
  refine b_gr (pc2 := 128) d_Mo_give_125 q_11_51 (sh_130 n0) (by decide) (by decide) (p_130_20 n0) rfl ?_
  refine b_iln (pc2 := 129) d_Mo_give_128 rfl rfl ?_
  refine b_pure (pc2 := 130) d_Mo_give_129 rfl rfl rfl ?_
  refine b_ia (pc2 := 131) (q := 0) d_Mo_give_130 (sh_143 n0) (i_in (i := 0) (by decide) (by decide)) (rfl) (rc_143) rfl ?_
  rw [u2_a _ _ (by decide), u1_ne _ _ (by decide), hw]
  refine b_ic (pc2 := 132) (x := Int32.ofNat 1) d_Mo_give_131 rfl rfl ?_
  refine b_pure (pc2 := 133) d_Mo_give_132 rfl rfl rfl ?_
  rw [i_add]
  refine b_ist (pc2 := 134) (q := 0) d_Mo_give_133 (sh_143 n0) (i_in (i := 0) (by decide) (by decide)) (rfl) (rc_143) rfl ?_
  refine b_vr d_Mo_give_134 rfl ?_
  exact ⟨rfl, rfl, rfl, rfl, rfl⟩
theorem mo_give1_full {d : Nat} (hd : 1 ≤ d) (hw : J 143 1 = Int32.ofNat 8) : bm d (S0 n0) R0 135 [.ref 130, .int (Int32.ofNat 1)] W J g L (bR none W J g L) := by
  obtain ⟨e, rfl⟩ : ∃ e, d = e + 1 := ⟨d - 1, by omega⟩
  refine bm_of (Nat.le_of_ble_eq_true rfl) (Or.inr bR_ret) ?_
  show bT e (S0 n0) R0 mt_Mo_give _ 0 [(0, .ref 130), (1, .int (Int32.ofNat 1))] [] W J g L 0 0
  have hSR := SR0 n0
  refine b_aln (pc2 := 1) d_Mo_give_0 rfl rfl ?_
  refine b_gr (pc2 := 4) d_Mo_give_1 q_11_51 (sh_130 n0) (by decide) (by decide) (p_130_20 n0) rfl ?_
  refine b_iln (pc2 := 5) d_Mo_give_4 rfl rfl ?_
  refine b_ia (pc2 := 6) (q := 1) d_Mo_give_5 (sh_143 n0) (i_in (i := 1) (by decide) (by decide)) (rfl) (rc_143) rfl ?_
  refine b_bp (pc2 := 8) (x := Int32.ofNat 8) d_Mo_give_6 rfl rfl ?_
  refine b_ifd (pc2 := 12) d_Mo_give_8 rfl rfl rfl rfl rfl (fun h8 => ?_) (fun h8 => ?_)
  · exact absurd h8 (fun z => z hw)
  refine b_vr d_Mo_give_11 rfl ?_
  exact ⟨rfl, rfl, rfl, rfl, rfl⟩
theorem mo_give1 {d : Nat} (hd : 1 ≤ d) {l : List Int32} {fr w : Nat} (hmk : J 130 29 = Int32.ofNat l.length) (hmv : ∀ k, k < l.length → J 151 k = l.getD k 0) (hl : l.length ≤ 20) (hf : J 142 1 = Int32.ofNat fr) (hf8 : fr < 8) (hw : J 143 1 = Int32.ofNat w) (hw8 : w < 8) {a : Nat} (hae : a = 8 + (fr + w) % 8) : bm d (S0 n0) R0 135 [.ref 130, .int (Int32.ofNat 1)] W J g L (bR none W (gvJ 1 a w l J) g L) := by
  obtain ⟨e, rfl⟩ : ∃ e, d = e + 1 := ⟨d - 1, by omega⟩
  refine bm_of (Nat.le_of_ble_eq_true rfl) (Or.inr bR_ret) ?_
  show bT e (S0 n0) R0 mt_Mo_give _ 0 [(0, .ref 130), (1, .int (Int32.ofNat 1))] [] W J g L 0 0
  have hSR := SR0 n0
  have hm8 : (fr + w) % 8 < 8 := Nat.mod_lt _ (by decide)
  refine b_aln (pc2 := 1) d_Mo_give_0 rfl rfl ?_
  refine b_gr (pc2 := 4) d_Mo_give_1 q_11_51 (sh_130 n0) (by decide) (by decide) (p_130_20 n0) rfl ?_
  refine b_iln (pc2 := 5) d_Mo_give_4 rfl rfl ?_
  refine b_ia (pc2 := 6) (q := 1) d_Mo_give_5 (sh_143 n0) (i_in (i := 1) (by decide) (by decide)) (rfl) (rc_143) rfl ?_
  rw [hw]
  refine b_bp (pc2 := 8) (x := Int32.ofNat 8) d_Mo_give_6 rfl rfl ?_
  refine b_ifd (pc2 := 12) d_Mo_give_8 rfl rfl rfl rfl rfl (fun h8 => ?_) (fun h8 => ?_)
  rotate_left
  · exact absurd (fun z => by rw [i_eq (by omega) (by decide)] at z; omega) h8
  refine b_bp (pc2 := 14) (x := Int32.ofNat 8) d_Mo_give_12 rfl rfl ?_
  refine b_iln (pc2 := 15) d_Mo_give_14 rfl rfl ?_
  refine b_pure (pc2 := 16) d_Mo_give_15 rfl rfl rfl ?_
  rw [i_mul]
  refine b_aln (pc2 := 17) d_Mo_give_16 rfl rfl ?_
  refine b_gr (pc2 := 20) d_Mo_give_17 q_11_48 (sh_130 n0) (by decide) (by decide) (p_130_19 n0) rfl ?_
  refine b_iln (pc2 := 21) d_Mo_give_20 rfl rfl ?_
  refine b_ia (pc2 := 22) (q := 1) d_Mo_give_21 (sh_142 n0) (i_in (i := 1) (by decide) (by decide)) (rfl) (rc_142) rfl ?_
  rw [hf]
  refine b_aln (pc2 := 23) d_Mo_give_22 rfl rfl ?_
  refine b_gr (pc2 := 26) d_Mo_give_23 q_11_51 (sh_130 n0) (by decide) (by decide) (p_130_20 n0) rfl ?_
  refine b_iln (pc2 := 27) d_Mo_give_26 rfl rfl ?_
  refine b_ia (pc2 := 28) (q := 1) d_Mo_give_27 (sh_143 n0) (i_in (i := 1) (by decide) (by decide)) (rfl) (rc_143) rfl ?_
  rw [hw]
  refine b_pure (pc2 := 29) d_Mo_give_28 rfl rfl rfl ?_
  rw [i_add]
  refine b_bp (pc2 := 31) (x := Int32.ofNat 8) d_Mo_give_29 rfl rfl ?_
  refine b_rem (pc2 := 32) d_Mo_give_31 (by decide) rfl ?_
  rw [i_rem (by omega) (by decide) (by decide)]
  refine b_pure (pc2 := 33) d_Mo_give_32 rfl rfl rfl ?_
  rw [i_add, show 8 * 1 + (fr + w) % 8 = a from hae.symm]
  refine b_isn (pc2 := 34) (al2 := [(2, _), (0, _), (1, _)]) d_Mo_give_33 (by decide) rfl rfl ?_
  refine b_bp (pc2 := 36) (x := Int32.ofNat 24) d_Mo_give_34 rfl rfl ?_
  refine b_iln (pc2 := 37) d_Mo_give_36 rfl rfl ?_
  refine b_pure (pc2 := 38) d_Mo_give_37 rfl rfl rfl ?_
  rw [i_mul]
  refine b_isn (pc2 := 39) (al2 := [(3, _), (2, _), (0, _), (1, _)]) d_Mo_give_38 (by decide) rfl rfl ?_
  refine b_aln (pc2 := 40) d_Mo_give_39 rfl rfl ?_
  refine b_gr (pc2 := 43) d_Mo_give_40 q_11_42 (sh_130 n0) (by decide) (by decide) (p_130_17 n0) rfl ?_
  refine b_iln (pc2 := 44) d_Mo_give_43 rfl rfl ?_
  refine b_aln (pc2 := 45) d_Mo_give_44 rfl rfl ?_
  refine b_gi (pc2 := 48) d_Mo_give_45 q_11_140 (sh_130 n0) (by decide) (by decide) (rc_130) rfl ?_
  rw [hmk]
  refine b_ist (pc2 := 49) (q := (24 * a)) d_Mo_give_48 (sh_140 n0) (i_in (show 24 * a < 384 by omega) (by decide)) (i_tn (by omega)) (rc_140) rfl ?_
  refine b_aln (pc2 := 50) d_Mo_give_49 rfl rfl ?_
  refine b_gr (pc2 := 53) d_Mo_give_50 q_11_42 (sh_130 n0) (by decide) (by decide) (p_130_17 n0) rfl ?_
  refine b_iln (pc2 := 54) d_Mo_give_53 rfl rfl ?_
  refine b_ic (pc2 := 55) (x := Int32.ofNat 1) d_Mo_give_54 rfl rfl ?_
  refine b_pure (pc2 := 56) d_Mo_give_55 rfl rfl rfl ?_
  rw [i_add]
  refine b_ic (pc2 := 57) (x := Int32.ofNat 0) d_Mo_give_56 rfl rfl ?_
  refine b_ist (pc2 := 58) (q := (24 * a + 1)) d_Mo_give_57 (sh_140 n0) (i_in (show 24 * a + 1 < 384 by omega) (by decide)) (i_tn (by omega)) (rc_140) rfl ?_
  refine b_aln (pc2 := 59) d_Mo_give_58 rfl rfl ?_
  refine b_gr (pc2 := 62) d_Mo_give_59 q_11_42 (sh_130 n0) (by decide) (by decide) (p_130_17 n0) rfl ?_
  refine b_iln (pc2 := 63) d_Mo_give_62 rfl rfl ?_
  refine b_ic (pc2 := 64) (x := Int32.ofNat 2) d_Mo_give_63 rfl rfl ?_
  refine b_pure (pc2 := 65) d_Mo_give_64 rfl rfl rfl ?_
  rw [i_add]
  refine b_ic (pc2 := 66) (x := Int32.ofNat 4) d_Mo_give_65 rfl rfl ?_
  refine b_ist (pc2 := 67) (q := (24 * a + 2)) d_Mo_give_66 (sh_140 n0) (i_in (show 24 * a + 2 < 384 by omega) (by decide)) (i_tn (by omega)) (rc_140) rfl ?_
  refine b_aln (pc2 := 68) d_Mo_give_67 rfl rfl ?_
  refine b_gr (pc2 := 71) d_Mo_give_68 q_11_42 (sh_130 n0) (by decide) (by decide) (p_130_17 n0) rfl ?_
  refine b_iln (pc2 := 72) d_Mo_give_71 rfl rfl ?_
  refine b_ic (pc2 := 73) (x := Int32.ofNat 3) d_Mo_give_72 rfl rfl ?_
  refine b_pure (pc2 := 74) d_Mo_give_73 rfl rfl rfl ?_
  rw [i_add]
  refine b_ic (pc2 := 75) (x := Int32.ofNat 0) d_Mo_give_74 rfl rfl ?_
  refine b_ist (pc2 := 76) (q := (24 * a + 3)) d_Mo_give_75 (sh_140 n0) (i_in (show 24 * a + 3 < 384 by omega) (by decide)) (i_tn (by omega)) (rc_140) rfl ?_
  rw [ov4]
  refine b_ic (pc2 := 77) (x := Int32.ofNat 0) d_Mo_give_76 rfl rfl ?_
  refine b_is (pc2 := 79) (al2 := [(4, _), (3, _), (2, _), (0, _), (1, _)]) d_Mo_give_77 (by decide) rfl rfl ?_
  refine b_nf (al := [(4, _), (0, _), (1, _), (2, _), (3, _)]) (ks := [4, 0, 1, 2, 3]) (sub_c rfl (sub_c rfl (sub_c rfl (sub_c rfl (sub_c rfl (sub_n)))))) rfl (by decide) ?_
  dsimp only
  refine lp_give (by omega) hmk hmv hl ?_ l.length 0 (by omega)
  refine b_aln (pc2 := 113) d_Mo_give_112 rfl rfl ?_
  refine b_gr (pc2 := 116) d_Mo_give_113 q_11_45 (sh_130 n0) (by decide) (by decide) (p_130_18 n0) rfl ?_
  refine b_iln (pc2 := 117) d_Mo_give_116 rfl rfl ?_
  refine b_aln (pc2 := 118) d_Mo_give_117 rfl rfl ?_
  refine b_gi (pc2 := 121) d_Mo_give_118 q_11_140 (sh_130 n0) (by decide) (by decide) (rc_130) rfl ?_
  rw [u1_ne _ _ (by decide), hmk]
  refine b_ic (pc2 := 122) (x := Int32.ofNat 4) d_Mo_give_121 rfl rfl ?_
  refine b_pure (pc2 := 123) d_Mo_give_122 rfl rfl rfl ?_
  rw [i_add]
  refine b_ist (pc2 := 124) (q := a) d_Mo_give_123 (sh_141 n0) (i_in (show a < 16 by omega) (by decide)) (i_tn (by omega)) (rc_141) rfl ?_
  refine b_aln (pc2 := 125) d_Mo_give_124 rfl rfl ?_
  refine b_gr (pc2 := 128) d_Mo_give_125 q_11_51 (sh_130 n0) (by decide) (by decide) (p_130_20 n0) rfl ?_
  refine b_iln (pc2 := 129) d_Mo_give_128 rfl rfl ?_
  refine b_pure (pc2 := 130) d_Mo_give_129 rfl rfl rfl ?_
  refine b_ia (pc2 := 131) (q := 1) d_Mo_give_130 (sh_143 n0) (i_in (i := 1) (by decide) (by decide)) (rfl) (rc_143) rfl ?_
  rw [u2_a _ _ (by decide), u1_ne _ _ (by decide), hw]
  refine b_ic (pc2 := 132) (x := Int32.ofNat 1) d_Mo_give_131 rfl rfl ?_
  refine b_pure (pc2 := 133) d_Mo_give_132 rfl rfl rfl ?_
  rw [i_add]
  refine b_ist (pc2 := 134) (q := 1) d_Mo_give_133 (sh_143 n0) (i_in (i := 1) (by decide) (by decide)) (rfl) (rc_143) rfl ?_
  refine b_vr d_Mo_give_134 rfl ?_
  exact ⟨rfl, rfl, rfl, rfl, rfl⟩
end MG
