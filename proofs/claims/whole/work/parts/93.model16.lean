/-! Part 93 (written by gen46.py): the reference: send -/
theorem ovw_s0 (l : List Int32) (f : Nat → Int32) (x : Int32) {k : Nat} (h : k = l.length) : am_u1 (ovw 0 l f) k x = ovw 0 (l ++ [x]) f := by
  have := ovw_step 0 l f x
  rw [Nat.zero_add] at this
  rw [h]; exact this
theorem ovw_sA (to : Nat) (l : List Int32) (f : Nat → Int32) (x : Int32) {k : Nat} (h : k = to + l.length) : am_u1 (ovw to l f) k x = ovw to (l ++ [x]) f := by
  rw [h]; exact ovw_step to l f x
theorem ov2 (J : bw_J) (c : Nat) (x0 x1 : Int32) : am_u2 (am_u2 J c 0 x0) c 1 x1 = am_u1 J c (ovw 0 [x0, x1] (J c)) := by
  rw [u2_u1 J, u21]
  congr 1
  have h1 : am_u1 (J c) 0 x0 = ovw 0 [x0] (J c) := by
    have := ovw_s0 [] (J c) x0 (k := 0) rfl
    rw [ovw_nil] at this; exact this
  rw [h1, ovw_s0 [x0] (J c) x1 (k := 1) rfl]; rfl
/-- what send leaves: packet row P, air row A, n bytes -/
def sdJ (J : bw_J) (dv n : Nat) (P A : Nat → Int32) : bw_J := am_u1 (am_u2 (am_u2 (am_u1 J 132 P) 130 8 (Int32.ofNat n)) 149 dv (Int32.ofNat n)) 148 A
theorem c255 {c : Nat} : Int32.ofNat c &&& Int32.ofNat 255 = Int32.ofNat (c % 256) := by
  rw [i_and]; congr 1; exact Nat.and_two_pow_sub_one_eq_mod c 8
section MS
variable {n0 : Nat} {W : bw_W} {J : bw_J} {g : Nat} {L : bw_L}
variable {J1 : bw_J} {Qh : am_O → am_H → Prop} {dv : Nat}
theorem lp_sd1 {e : Nat} (hdv : dv < 2) {h : List Int32} {a b : Int32} (h7 : h.length ≤ 7) (k2 : ∀ k, k < h.length → J 139 (8 * dv + k) = h.getD k 0) (K : bH e (S0 n0) R0 mt_Mo_send Qh 82 [(2, .int (Int32.ofNat h.length)), (0, .ref 130), (1, .int (Int32.ofNat dv))] [] W (am_u1 J 132 (ovw 0 ([a, b] ++ h) (J 132))) g L 0 0) : ∀ (r j : Nat), j + r = h.length → bH e (S0 n0) R0 mt_Mo_send Qh 52 [(3, .int (Int32.ofNat j)), (2, .int (Int32.ofNat h.length)), (0, .ref 130), (1, .int (Int32.ofNat dv))] [] W (am_u1 J 132 (ovw 0 ([a, b] ++ h.take j) (J 132))) g L 0 0 := by
  intro r
  induction r with
  | zero =>
    intro j hj
    refine b_iln (pc2 := 53) d_Mo_send_52 rfl rfl ?_
    refine b_iln (pc2 := 54) d_Mo_send_53 rfl rfl ?_
    refine b_ifd (pc2 := 82) d_Mo_send_54 rfl rfl rfl rfl rfl (fun h54 => ?_) (fun h54 => ?_)
    rotate_left
    · exact absurd (by rw [i_le (by omega) (by omega)]; omega) h54
    refine b_nf (al := [(2, _), (0, _), (1, _)]) (ks := [2, 0, 1]) (sub_c rfl (sub_c rfl (sub_c rfl (sub_n)))) rfl (by decide) ?_
    dsimp only
    rw [List.take_of_length_le (by omega)]
    exact K
  | succ r ih =>
    intro j hj
    refine b_iln (pc2 := 53) d_Mo_send_52 rfl rfl ?_
    refine b_iln (pc2 := 54) d_Mo_send_53 rfl rfl ?_
    refine b_ifd (pc2 := 82) d_Mo_send_54 rfl rfl rfl rfl rfl (fun h54 => ?_) (fun h54 => ?_)
    · exact absurd h54 (fun z => by rw [i_le (by omega) (by omega)] at z; omega)
    refine b_aln (pc2 := 58) d_Mo_send_57 rfl rfl ?_
    refine b_gr (pc2 := 61) d_Mo_send_58 q_11_17 (sh_130 n0) (by decide) (by decide) (p_130_9 n0) rfl ?_
    refine b_ic (pc2 := 62) (x := Int32.ofNat 2) d_Mo_send_61 rfl rfl ?_
    refine b_iln (pc2 := 63) d_Mo_send_62 rfl rfl ?_
    refine b_pure (pc2 := 64) d_Mo_send_63 rfl rfl rfl ?_
    rw [i_add]
    refine b_aln (pc2 := 65) d_Mo_send_64 rfl rfl ?_
    refine b_gr (pc2 := 68) d_Mo_send_65 q_11_39 (sh_130 n0) (by decide) (by decide) (p_130_16 n0) rfl ?_
    refine b_bp (pc2 := 70) (x := Int32.ofNat 8) d_Mo_send_68 rfl rfl ?_
    refine b_iln (pc2 := 71) d_Mo_send_70 rfl rfl ?_
    refine b_pure (pc2 := 72) d_Mo_send_71 rfl rfl rfl ?_
    rw [i_mul]
    refine b_iln (pc2 := 73) d_Mo_send_72 rfl rfl ?_
    refine b_pure (pc2 := 74) d_Mo_send_73 rfl rfl rfl ?_
    rw [i_add]
    refine b_ia (pc2 := 75) (q := (8 * dv + j)) d_Mo_send_74 (sh_139 n0) (i_in (show 8 * dv + j < 16 by omega) (by decide)) (i_tn (by omega)) (rc_139) rfl ?_
    rw [u1_ne _ _ (by decide), k2 j (by omega)]
    refine b_ist (pc2 := 76) (q := (2 + j)) d_Mo_send_75 (sh_132 n0) (i_in (show 2 + j < 16 by omega) (by decide)) (i_tn (by omega)) (rc_132) rfl ?_
    rw [u21, ovw_s0 _ _ _ (show 2 + j = ([a, b] ++ h.take j).length by simp only [List.length_append, List.length_cons, List.length_nil, List.length_take]; omega), List.append_assoc, l_tk (show j < h.length by omega)]
    refine b_inc (pc2 := 79) (al2 := [(3, _), (2, _), (0, _), (1, _)]) (y := Int32.ofNat 1) d_Mo_send_76 (by decide) rfl rfl rfl rfl ?_
    rw [i_add]
    refine b_go (pc2 := 52) d_Mo_send_79 rfl ?_
    refine b_nf (al := [(3, _), (2, _), (0, _), (1, _)]) (ks := [3, 2, 0, 1]) (sub_c rfl (sub_c rfl (sub_c rfl (sub_c rfl (sub_n))))) rfl (by decide) ?_
    dsimp only
    exact ih (j + 1) (by omega)
theorem lp_sd2 {e : Nat} (hdv : dv < 2) {l : List Int32} (hl : l.length ≤ 12) (q1 : J 130 8 = Int32.ofNat l.length) (q2 : ∀ k, k < l.length → J 132 k = l.getD k 0) {c u : Nat} : ∀ (r j : Nat), j + r = l.length → bT e (S0 n0) R0 mt_Mo_send (bR none W (am_u1 J 148 (ovw (16 * dv) l (J 148))) g L) 155 [(4, .int (Int32.ofNat j)), (0, .ref 130), (1, .int (Int32.ofNat dv))] [] W (am_u1 J 148 (ovw (16 * dv) (l.take j) (J 148))) g L c u := by
  intro r
  induction r with
  | zero =>
    intro j hj
    rw [List.take_of_length_le (by omega)]
    refine b_il (pc2 := 157) d_Mo_send_155 rfl rfl ?_
    refine b_aln (pc2 := 158) d_Mo_send_157 rfl rfl ?_
    refine b_gi (pc2 := 161) d_Mo_send_158 q_11_156 (sh_130 n0) (by decide) (by decide) (rc_130) rfl ?_
    rw [u1_ne _ _ (by decide), q1]
    refine b_ifd (pc2 := 189) d_Mo_send_161 rfl rfl rfl rfl rfl (fun h161 => ?_) (fun h161 => ?_)
    rotate_left
    · exact absurd (by rw [i_le (by omega) (by omega)]; omega) h161
    refine b_vr d_Mo_send_189 rfl ?_
    exact ⟨rfl, rfl, rfl, rfl, rfl⟩
  | succ r ih =>
    intro j hj
    refine b_il (pc2 := 157) d_Mo_send_155 rfl rfl ?_
    refine b_aln (pc2 := 158) d_Mo_send_157 rfl rfl ?_
    refine b_gi (pc2 := 161) d_Mo_send_158 q_11_156 (sh_130 n0) (by decide) (by decide) (rc_130) rfl ?_
    rw [u1_ne _ _ (by decide), q1]
    refine b_ifd (pc2 := 189) d_Mo_send_161 rfl rfl rfl rfl rfl (fun h161 => ?_) (fun h161 => ?_)
    · exact absurd h161 (fun z => by rw [i_le (by omega) (by omega)] at z; omega)
    refine b_aln (pc2 := 165) d_Mo_send_164 rfl rfl ?_
    refine b_gr (pc2 := 168) d_Mo_send_165 q_11_66 (sh_130 n0) (by decide) (by decide) (p_130_25 n0) rfl ?_
    refine b_bp (pc2 := 170) (x := Int32.ofNat 16) d_Mo_send_168 rfl rfl ?_
    refine b_iln (pc2 := 171) d_Mo_send_170 rfl rfl ?_
    refine b_pure (pc2 := 172) d_Mo_send_171 rfl rfl rfl ?_
    rw [i_mul]
    refine b_il (pc2 := 174) d_Mo_send_172 rfl rfl ?_
    refine b_pure (pc2 := 175) d_Mo_send_174 rfl rfl rfl ?_
    rw [i_add]
    refine b_aln (pc2 := 176) d_Mo_send_175 rfl rfl ?_
    refine b_gr (pc2 := 179) d_Mo_send_176 q_11_17 (sh_130 n0) (by decide) (by decide) (p_130_9 n0) rfl ?_
    refine b_il (pc2 := 181) d_Mo_send_179 rfl rfl ?_
    refine b_ia (pc2 := 182) (q := j) d_Mo_send_181 (sh_132 n0) (i_in (show j < 16 by omega) (by decide)) (i_tn (by omega)) (rc_132) rfl ?_
    rw [u1_ne _ _ (by decide), q2 j (by omega)]
    refine b_ist (pc2 := 183) (q := (16 * dv + j)) d_Mo_send_182 (sh_148 n0) (i_in (show 16 * dv + j < 32 by omega) (by decide)) (i_tn (by omega)) (rc_148) rfl ?_
    rw [u21, ovw_sA _ _ _ _ (show 16 * dv + j = 16 * dv + (l.take j).length by rw [List.length_take]; omega), l_tk (show j < l.length by omega)]
    refine b_inc (pc2 := 186) (al2 := [(4, _), (0, _), (1, _)]) (y := Int32.ofNat 1) d_Mo_send_183 (by decide) rfl rfl rfl rfl ?_
    rw [i_add]
    refine b_go (pc2 := 155) d_Mo_send_186 rfl ?_
    refine b_nf (al := [(4, _), (0, _), (1, _)]) (ks := [4, 0, 1]) (sub_c rfl (sub_c rfl (sub_c rfl (sub_n)))) rfl (by decide) ?_
    dsimp only
    exact ih (j + 1) (by omega)
theorem mo_send {d : Nat} (hd : 2 ≤ d) (hdv : dv < 2) {h : List Int32} {kd nx tu ch : Nat} (hT : ∀ e, 1 ≤ e → bm e (S0 n0) R0 148 [.ref 130, .int (Int32.ofNat dv)] W J g L (bR none W J1 g L)) (h7 : h.length ≤ 7) (hb : byl h) (k1 : J1 138 dv = Int32.ofNat h.length) (k2 : ∀ k, k < h.length → J1 139 (8 * dv + k) = h.getD k 0) (k3 : J1 137 dv = Int32.ofNat kd) (hkd : kd ≤ 2) (k4 : J1 134 dv = Int32.ofNat nx) (hnx : nx ≤ 1) (k5 : J1 133 dv = Int32.ofNat tu) (htu : tu ≤ 1) (k6 : J1 130 5 = Int32.ofNat ch) (hch : ch < 64) : bm d (S0 n0) R0 147 [.ref 130, .int (Int32.ofNat dv)] W J g L (bR none W (sdJ J1 dv (h.length + 5) (ovw 0 (wz (mkf (64 + ch)) 0 (pkt kd nx tu h)) (J1 132)) (ovw (16 * dv) (wz (mkf (64 + ch)) 0 (pkt kd nx tu h)) (J1 148))) g L) := by
  obtain ⟨e, rfl⟩ : ∃ e, d = e + 1 := ⟨d - 1, by omega⟩
  refine bm_of (Nat.le_of_ble_eq_true rfl) (Or.inr bR_ret) ?_
  show bT e (S0 n0) R0 mt_Mo_send _ 0 [(0, .ref 130), (1, .int (Int32.ofNat dv))] [] W J g L 0 0
  have hSR := SR0 n0
  refine b_aln (pc2 := 1) d_Mo_send_0 rfl rfl ?_
  refine b_iln (pc2 := 2) d_Mo_send_1 rfl rfl ?_
  refine b_cv0 (pc2 := 5) (c2 := 0) (u2 := 0) (hT e (by omega)) d_Mo_send_2 q_11_159 (Nat.le_of_ble_eq_true rfl) rfl rfl (sh_130 n0) (Nat.le_of_ble_eq_true rfl) rfl rfl (by decide) (by decide) rfl ?_
  refine b_aln (pc2 := 6) d_Mo_send_5 rfl rfl ?_
  refine b_gr (pc2 := 9) d_Mo_send_6 q_11_36 (sh_130 n0) (by decide) (by decide) (p_130_15 n0) rfl ?_
  refine b_iln (pc2 := 10) d_Mo_send_9 rfl rfl ?_
  refine b_ia (pc2 := 11) (q := dv) d_Mo_send_10 (sh_138 n0) (i_in (show dv < 2 by omega) (by decide)) (i_tn (by omega)) (rc_138) rfl ?_
  rw [k1]
  refine b_isn (pc2 := 12) (al2 := [(2, _), (0, _), (1, _)]) d_Mo_send_11 (by decide) rfl rfl ?_
  refine b_aln (pc2 := 13) d_Mo_send_12 rfl rfl ?_
  refine b_gr (pc2 := 16) d_Mo_send_13 q_11_17 (sh_130 n0) (by decide) (by decide) (p_130_9 n0) rfl ?_
  refine b_ic (pc2 := 17) (x := Int32.ofNat 0) d_Mo_send_16 rfl rfl ?_
  refine b_aln (pc2 := 18) d_Mo_send_17 rfl rfl ?_
  refine b_gr (pc2 := 21) d_Mo_send_18 q_11_33 (sh_130 n0) (by decide) (by decide) (p_130_14 n0) rfl ?_
  refine b_iln (pc2 := 22) d_Mo_send_21 rfl rfl ?_
  refine b_ia (pc2 := 23) (q := dv) d_Mo_send_22 (sh_137 n0) (i_in (show dv < 2 by omega) (by decide)) (i_tn (by omega)) (rc_137) rfl ?_
  rw [k3]
  refine b_ic (pc2 := 24) (x := Int32.ofNat 4) d_Mo_send_23 rfl rfl ?_
  refine b_aln (pc2 := 25) d_Mo_send_24 rfl rfl ?_
  refine b_gr (pc2 := 28) d_Mo_send_25 q_11_24 (sh_130 n0) (by decide) (by decide) (p_130_11 n0) rfl ?_
  refine b_iln (pc2 := 29) d_Mo_send_28 rfl rfl ?_
  refine b_ia (pc2 := 30) (q := dv) d_Mo_send_29 (sh_134 n0) (i_in (show dv < 2 by omega) (by decide)) (i_tn (by omega)) (rc_134) rfl ?_
  rw [k4]
  refine b_pure (pc2 := 31) d_Mo_send_30 rfl rfl rfl ?_
  rw [i_mul]
  refine b_pure (pc2 := 32) d_Mo_send_31 rfl rfl rfl ?_
  rw [i_add]
  refine b_bp (pc2 := 34) (x := Int32.ofNat 8) d_Mo_send_32 rfl rfl ?_
  refine b_aln (pc2 := 35) d_Mo_send_34 rfl rfl ?_
  refine b_gr (pc2 := 38) d_Mo_send_35 q_11_21 (sh_130 n0) (by decide) (by decide) (p_130_10 n0) rfl ?_
  refine b_iln (pc2 := 39) d_Mo_send_38 rfl rfl ?_
  refine b_ia (pc2 := 40) (q := dv) d_Mo_send_39 (sh_133 n0) (i_in (show dv < 2 by omega) (by decide)) (i_tn (by omega)) (rc_133) rfl ?_
  rw [k5]
  refine b_pure (pc2 := 41) d_Mo_send_40 rfl rfl rfl ?_
  rw [i_mul]
  refine b_pure (pc2 := 42) d_Mo_send_41 rfl rfl rfl ?_
  rw [i_add]
  refine b_ist (pc2 := 43) (q := 0) d_Mo_send_42 (sh_132 n0) (i_in (i := 0) (by decide) (by decide)) (rfl) (rc_132) rfl ?_
  refine b_aln (pc2 := 44) d_Mo_send_43 rfl rfl ?_
  refine b_gr (pc2 := 47) d_Mo_send_44 q_11_17 (sh_130 n0) (by decide) (by decide) (p_130_9 n0) rfl ?_
  refine b_ic (pc2 := 48) (x := Int32.ofNat 1) d_Mo_send_47 rfl rfl ?_
  refine b_iln (pc2 := 49) d_Mo_send_48 rfl rfl ?_
  refine b_ist (pc2 := 50) (q := 1) d_Mo_send_49 (sh_132 n0) (i_in (i := 1) (by decide) (by decide)) (rfl) (rc_132) rfl ?_
  rw [ov2]
  refine b_ic (pc2 := 51) (x := Int32.ofNat 0) d_Mo_send_50 rfl rfl ?_
  refine b_isn (pc2 := 52) (al2 := [(3, _), (2, _), (0, _), (1, _)]) d_Mo_send_51 (by decide) rfl rfl ?_
  refine b_nf (al := [(3, _), (2, _), (0, _), (1, _)]) (ks := [3, 2, 0, 1]) (sub_c rfl (sub_c rfl (sub_c rfl (sub_c rfl (sub_n))))) rfl (by decide) ?_
  dsimp only
  refine (fun z => ?_ : _ → _) (lp_sd1 (n0 := n0) (W := W) (J := J1) (g := g) (L := L) (e := e) (dv := dv) (h := h) (a := Int32.ofNat (kd + 4 * nx + 8 * tu)) (b := Int32.ofNat h.length) (Qh := bw_Q (S0 n0) R0 (bR none W (sdJ J1 dv (h.length + 5) (ovw 0 (wz (mkf (64 + ch)) 0 (pkt kd nx tu h)) (J1 132)) (ovw (16 * dv) (wz (mkf (64 + ch)) 0 (pkt kd nx tu h)) (J1 148))) g L)) hdv h7 k2 ?_ h.length 0 (by omega))
  · exact z
  · show bH e (S0 n0) R0 mt_Mo_send _ 82 _ [] W (am_u1 J1 132 (ovw 0 (pk0 kd nx tu h) (J1 132))) g L 0 0
    have hpl : (pk0 kd nx tu h).length = 2 + h.length := by unfold pk0; simp only [List.length_append, List.length_cons, List.length_nil]
    have hcl := crL_lt (pk0 kd nx tu h) 5592405 (by decide)
    have hpk : pk0 kd nx tu h ++ [Int32.ofNat (crL (pk0 kd nx tu h) 5592405 / 2 ^ 16)] ++ [Int32.ofNat (crL (pk0 kd nx tu h) 5592405 / 2 ^ 8 % 256)] ++ [Int32.ofNat (crL (pk0 kd nx tu h) 5592405 % 256)] = pkt kd nx tu h := by
      unfold pkt
      rw [by8_3 hcl, List.append_assoc, List.append_assoc]
      rfl
    have hpt := pkt_len kd nx tu h
    generalize hcc : crL (pk0 kd nx tu h) 5592405 = cc at hcl hpk
    refine b_aln (pc2 := 83) d_Mo_send_82 rfl rfl ?_
    refine b_ic (pc2 := 84) (x := Int32.ofNat 2) d_Mo_send_83 rfl rfl ?_
    refine b_iln (pc2 := 85) d_Mo_send_84 rfl rfl ?_
    refine b_pure (pc2 := 86) d_Mo_send_85 rfl rfl rfl ?_
    rw [i_add]
    refine b_cv1 (pc2 := 89) (c2 := 0) (u2 := 0) (mo_check (n := 2 + h.length) (by omega) (by omega)) d_Mo_send_86 q_11_162 (Nat.le_of_ble_eq_true rfl) rfl rfl (sh_130 n0) (Nat.le_of_ble_eq_true rfl) rfl rfl (by decide) (by decide) rfl ?_
    rw [u1_at, lst_ovw0 _ _ (by omega), List.take_of_length_le (by omega), hcc]
    refine b_isn (pc2 := 90) (al2 := [(3, _), (2, _), (0, _), (1, _)]) d_Mo_send_89 (by decide) rfl rfl ?_
    refine b_aln (pc2 := 91) d_Mo_send_90 rfl rfl ?_
    refine b_gr (pc2 := 94) d_Mo_send_91 q_11_17 (sh_130 n0) (by decide) (by decide) (p_130_9 n0) rfl ?_
    refine b_ic (pc2 := 95) (x := Int32.ofNat 2) d_Mo_send_94 rfl rfl ?_
    refine b_iln (pc2 := 96) d_Mo_send_95 rfl rfl ?_
    refine b_pure (pc2 := 97) d_Mo_send_96 rfl rfl rfl ?_
    rw [i_add]
    refine b_iln (pc2 := 98) d_Mo_send_97 rfl rfl ?_
    refine b_bp (pc2 := 100) (x := Int32.ofNat 16) d_Mo_send_98 rfl rfl ?_
    refine b_pure (pc2 := 101) d_Mo_send_100 rfl rfl rfl ?_
    rw [i_shr (by omega) (by decide)]
    refine b_ist (pc2 := 102) (q := (2 + h.length)) d_Mo_send_101 (sh_132 n0) (i_in (show 2 + h.length < 16 by omega) (by decide)) (i_tn (by omega)) (rc_132) rfl ?_
    rw [u21, ovw_s0 _ _ _ (by omega)]
    refine b_aln (pc2 := 103) d_Mo_send_102 rfl rfl ?_
    refine b_gr (pc2 := 106) d_Mo_send_103 q_11_17 (sh_130 n0) (by decide) (by decide) (p_130_9 n0) rfl ?_
    refine b_ic (pc2 := 107) (x := Int32.ofNat 3) d_Mo_send_106 rfl rfl ?_
    refine b_iln (pc2 := 108) d_Mo_send_107 rfl rfl ?_
    refine b_pure (pc2 := 109) d_Mo_send_108 rfl rfl rfl ?_
    rw [i_add]
    refine b_iln (pc2 := 110) d_Mo_send_109 rfl rfl ?_
    refine b_bp (pc2 := 112) (x := Int32.ofNat 8) d_Mo_send_110 rfl rfl ?_
    refine b_pure (pc2 := 113) d_Mo_send_112 rfl rfl rfl ?_
    rw [i_shr (by omega) (by decide)]
    refine b_sp (pc2 := 116) (x := Int32.ofNat 255) d_Mo_send_113 rfl rfl ?_
    refine b_pure (pc2 := 117) d_Mo_send_116 rfl rfl rfl ?_
    rw [c255]
    refine b_ist (pc2 := 118) (q := (3 + h.length)) d_Mo_send_117 (sh_132 n0) (i_in (show 3 + h.length < 16 by omega) (by decide)) (i_tn (by omega)) (rc_132) rfl ?_
    rw [u21, ovw_s0 _ _ _ (by simp only [List.length_append, List.length_cons, List.length_nil, hpl]; omega)]
    refine b_aln (pc2 := 119) d_Mo_send_118 rfl rfl ?_
    refine b_gr (pc2 := 122) d_Mo_send_119 q_11_17 (sh_130 n0) (by decide) (by decide) (p_130_9 n0) rfl ?_
    refine b_ic (pc2 := 123) (x := Int32.ofNat 4) d_Mo_send_122 rfl rfl ?_
    refine b_iln (pc2 := 124) d_Mo_send_123 rfl rfl ?_
    refine b_pure (pc2 := 125) d_Mo_send_124 rfl rfl rfl ?_
    rw [i_add]
    refine b_iln (pc2 := 126) d_Mo_send_125 rfl rfl ?_
    refine b_sp (pc2 := 129) (x := Int32.ofNat 255) d_Mo_send_126 rfl rfl ?_
    refine b_pure (pc2 := 130) d_Mo_send_129 rfl rfl rfl ?_
    rw [c255]
    refine b_ist (pc2 := 131) (q := (4 + h.length)) d_Mo_send_130 (sh_132 n0) (i_in (show 4 + h.length < 16 by omega) (by decide)) (i_tn (by omega)) (rc_132) rfl ?_
    rw [u21, ovw_s0 _ _ _ (by simp only [List.length_append, List.length_cons, List.length_nil, hpl]; omega), hpk]
    refine b_aln (pc2 := 132) d_Mo_send_131 rfl rfl ?_
    refine b_ic (pc2 := 133) (x := Int32.ofNat 5) d_Mo_send_132 rfl rfl ?_
    refine b_iln (pc2 := 134) d_Mo_send_133 rfl rfl ?_
    refine b_pure (pc2 := 135) d_Mo_send_134 rfl rfl rfl ?_
    rw [i_add]
    refine b_pi (pc2 := 138) d_Mo_send_135 q_11_156 (sh_130 n0) (by decide) (Or.inl (by decide)) (Or.inl rfl) (rc_130) rfl ?_
    refine b_aln (pc2 := 139) d_Mo_send_138 rfl rfl ?_
    refine b_cv0 (pc2 := 142) (c2 := 0) (u2 := 0) (mo_whiten (c := ch) (n := 5 + h.length) (by omega) (by rw [u2_k _ _ (by decide), u1_ne _ _ (by decide), k6]) hch (by rw [u2_at]) (by omega)) d_Mo_send_139 q_11_166 (Nat.le_of_ble_eq_true rfl) rfl rfl (sh_130 n0) (Nat.le_of_ble_eq_true rfl) rfl rfl (by decide) (by decide) rfl ?_
    rw [u2_a _ _ (by decide), u1_at, xz_ovw (byl_pkt (by omega) hnx htu h7 hb) _ _ (by omega), u12c _ _ _ (by decide), u1_u1]
    refine b_aln (pc2 := 143) d_Mo_send_142 rfl rfl ?_
    refine b_gr (pc2 := 146) d_Mo_send_143 q_11_69 (sh_130 n0) (by decide) (by decide) (p_130_26 n0) rfl ?_
    refine b_iln (pc2 := 147) d_Mo_send_146 rfl rfl ?_
    refine b_aln (pc2 := 148) d_Mo_send_147 rfl rfl ?_
    refine b_gi (pc2 := 151) d_Mo_send_148 q_11_156 (sh_130 n0) (by decide) (by decide) (rc_130) rfl ?_
    rw [u2_at]
    refine b_ist (pc2 := 152) (q := dv) d_Mo_send_151 (sh_149 n0) (i_in (show dv < 2 by omega) (by decide)) (i_tn (by omega)) (rc_149) rfl ?_
    refine b_ic (pc2 := 153) (x := Int32.ofNat 0) d_Mo_send_152 rfl rfl ?_
    refine b_is (pc2 := 155) (al2 := [(4, _), (3, _), (2, _), (0, _), (1, _)]) d_Mo_send_153 (by decide) rfl rfl ?_
    refine b_nf (al := [(4, _), (0, _), (1, _)]) (ks := [4, 0, 1]) (sub_c rfl (sub_c rfl (sub_c rfl (sub_n)))) rfl (by decide) ?_
    dsimp only
    refine (fun z => ?_ : _ → _) (lp_sd2 (n0 := n0) (W := W) (J := am_u2 (am_u2 (am_u1 J1 132 (ovw 0 (wz (mkf (64 + ch)) 0 (pkt kd nx tu h)) (J1 132))) 130 8 (Int32.ofNat (h.length + 5))) 149 dv (Int32.ofNat (h.length + 5))) (g := g) (L := L) (e := e) (dv := dv) (l := (wz (mkf (64 + ch)) 0 (pkt kd nx tu h))) (c := 0) (u := 0) hdv (by rw [wz_len]; omega) (by rw [u2_a _ _ (by decide), u2_at, wz_len, hpt]) (fun k hk => by rw [u2_a _ _ (by decide), u2_a _ _ (by decide), u1_at, ovw_0 hk]) (wz (mkf (64 + ch)) 0 (pkt kd nx tu h)).length 0 (by omega))
    rw [List.take_zero, ovw_nil, u1_id, u2_a _ _ (by decide), u2_a _ _ (by decide), u1_ne _ _ (by decide)] at z
    rw [show 5 + h.length = h.length + 5 by omega]
    exact z
end MS
