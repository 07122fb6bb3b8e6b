/-! Part 93 (written by gen47.py): the reference: collect, hear, carry -/
theorem c3 {c : Nat} : Int32.ofNat c &&& Int32.ofNat 3 = Int32.ofNat (c % 4) := by
  rw [i_and]; congr 1; exact Nat.and_two_pow_sub_one_eq_mod c 2
theorem c1 {c : Nat} : Int32.ofNat c &&& Int32.ofNat 1 = Int32.ofNat (c % 2) := by
  rw [i_and]; congr 1; exact Nat.and_two_pow_sub_one_eq_mod c 1
theorem ok_n {a b c : Nat} (ha : a < 256) (hb : b < 256) (hc : c < 256) : ((Int32.ofNat a <<< (Int32.ofNat 16 &&& 31)) ||| (Int32.ofNat b <<< (Int32.ofNat 8 &&& 31))) ||| Int32.ofNat c = Int32.ofNat (a * 65536 + b * 256 + c) := by
  rw [i_shl _ (by decide), i_shl _ (by decide), i_or, i_or]
  congr 1
  have h1 := Nat.two_pow_add_eq_or_of_lt (i := 16) (b := b * 2 ^ 8) (by omega) a
  have h2 := Nat.two_pow_add_eq_or_of_lt (i := 8) (b := c) (by omega) (a * 256 + b)
  rw [Nat.mul_comm a, ← h1, show 2 ^ 16 * a + b * 2 ^ 8 = 2 ^ 8 * (a * 256 + b) by omega, ← h2]
theorem de_ok_n {p : List Int32} {s a b c : Nat} (ha : p.getD (p.length - 3) 0 = Int32.ofNat a) (ha2 : a < 256) (hb : p.getD (p.length - 3 + 1) 0 = Int32.ofNat b) (hb2 : b < 256) (hc : p.getD (p.length - 3 + 2) 0 = Int32.ofNat c) (hc2 : c < 256) : de_ok p s = true ↔ (s ≤ 7 ∧ s + 5 = p.length ∧ crL (p.take (p.length - 3)) 5592405 = a * 65536 + b * 256 + c) := by
  have hl := crL_lt (p.take (p.length - 3)) 5592405 (by decide)
  unfold de_ok
  rw [decide_eq_true_iff, ha, hb, hc, ok_n ha2 hb2 hc2, i_eq (by omega) (by omega)]
  constructor
  · rintro ⟨h1, h2, h3⟩; exact ⟨h1, h2, h3.symm⟩
  · rintro ⟨h1, h2, h3⟩; exact ⟨h1, h2, h3.symm⟩
section MH
variable {n0 : Nat} {W : bw_W} {J : bw_J} {g : Nat} {L : bw_L}
variable {J1 : bw_J} {Qh : am_O → am_H → Prop} {dv : Nat}
theorem lp_col {e : Nat} (hdv : dv < 2) {l : List Int32} (hl : l.length ≤ 31) (hq : ∀ k, k < l.length → J 145 (48 * dv + k) = l.getD k 0) {nn : Nat} (hn : l.length = nn + 4) (hn20 : nn ≤ 20) {c u : Nat} (K : bH e (S0 n0) R0 mt_Mo_collect Qh 247 [(0, .ref 130), (1, .int (Int32.ofNat dv))] [] W (am_u1 J 150 (ovw 0 (l.drop 4) (J 150))) g L c u) : ∀ (r k : Nat), k + r = nn → bH e (S0 n0) R0 mt_Mo_collect Qh 216 [(6, .int (Int32.ofNat k)), (4, .int (Int32.ofNat nn)), (3, .int (Int32.ofNat (48 * dv))), (0, .ref 130), (1, .int (Int32.ofNat dv))] [] W (am_u1 J 150 (ovw 0 ((l.drop 4).take k) (J 150))) g L c u := by
  intro r
  induction r with
  | zero =>
    intro k hk
    refine b_il (pc2 := 218) d_Mo_collect_216 rfl rfl ?_
    refine b_il (pc2 := 220) d_Mo_collect_218 rfl rfl ?_
    refine b_ifd (pc2 := 247) d_Mo_collect_220 rfl rfl rfl rfl rfl (fun h220 => ?_) (fun h220 => ?_)
    rotate_left
    · exact absurd (by rw [i_le (by omega) (by omega)]; omega) h220
    refine b_nf (al := [(0, _), (1, _)]) (ks := [0, 1]) (sub_c rfl (sub_c rfl (sub_n))) rfl (by decide) ?_
    dsimp only
    rw [List.take_of_length_le (by rw [List.length_drop]; omega)]
    exact K
  | succ r ih =>
    intro k hk
    refine b_il (pc2 := 218) d_Mo_collect_216 rfl rfl ?_
    refine b_il (pc2 := 220) d_Mo_collect_218 rfl rfl ?_
    refine b_ifd (pc2 := 247) d_Mo_collect_220 rfl rfl rfl rfl rfl (fun h220 => ?_) (fun h220 => ?_)
    · exact absurd h220 (fun z => by rw [i_le (by omega) (by omega)] at z; omega)
    refine b_aln (pc2 := 224) d_Mo_collect_223 rfl rfl ?_
    refine b_gr (pc2 := 227) d_Mo_collect_224 q_11_72 (sh_130 n0) (by decide) (by decide) (p_130_28 n0) rfl ?_
    refine b_il (pc2 := 229) d_Mo_collect_227 rfl rfl ?_
    refine b_aln (pc2 := 230) d_Mo_collect_229 rfl rfl ?_
    refine b_gr (pc2 := 233) d_Mo_collect_230 q_11_57 (sh_130 n0) (by decide) (by decide) (p_130_22 n0) rfl ?_
    refine b_iln (pc2 := 234) d_Mo_collect_233 rfl rfl ?_
    refine b_ic (pc2 := 235) (x := Int32.ofNat 4) d_Mo_collect_234 rfl rfl ?_
    refine b_pure (pc2 := 236) d_Mo_collect_235 rfl rfl rfl ?_
    rw [i_add]
    refine b_il (pc2 := 238) d_Mo_collect_236 rfl rfl ?_
    refine b_pure (pc2 := 239) d_Mo_collect_238 rfl rfl rfl ?_
    rw [i_add, show 48 * dv + 4 + k = 48 * dv + (4 + k) by omega]
    refine b_ia (pc2 := 240) (q := (48 * dv + (4 + k))) d_Mo_collect_239 (sh_145 n0) (i_in (show 48 * dv + (4 + k) < 96 by omega) (by decide)) (i_tn (by omega)) (rc_145) rfl ?_
    rw [u1_ne _ _ (by decide), hq (4 + k) (by omega)]
    refine b_ist (pc2 := 241) (q := k) d_Mo_collect_240 (sh_150 n0) (i_in (show k < 24 by omega) (by decide)) (i_tn (by omega)) (rc_150) rfl ?_
    rw [u21, ovw_s0 _ _ _ (show k = ((l.drop 4).take k).length by rw [List.length_take, List.length_drop]; omega), show l.getD (4 + k) 0 = (l.drop 4).getD k 0 by rw [List.getD_eq_getElem?_getD, List.getD_eq_getElem?_getD, List.getElem?_drop], l_tk (show k < (l.drop 4).length by rw [List.length_drop]; omega)]
    refine b_inc (pc2 := 244) (al2 := [(6, _), (4, _), (3, _), (0, _), (1, _)]) (y := Int32.ofNat 1) d_Mo_collect_241 (by decide) rfl rfl rfl rfl ?_
    rw [i_add]
    refine b_go (pc2 := 216) d_Mo_collect_244 rfl ?_
    refine b_nf (al := [(6, _), (4, _), (3, _), (0, _), (1, _)]) (ks := [6, 4, 3, 0, 1]) (sub_c rfl (sub_c rfl (sub_c rfl (sub_c rfl (sub_c rfl (sub_n)))))) rfl (by decide) ?_
    dsimp only
    exact ih (k + 1) (by omega)
theorem c90_s {e : Nat} (hdv : dv < 2) {l : List Int32} (hl : l.length ≤ 31) (hq : ∀ k, k < l.length → J 145 (48 * dv + k) = l.getD k 0) (hc : J 146 dv = Int32.ofNat l.length) (h4 : l.length < 4) : bT e (S0 n0) R0 mt_Mo_collect (bR none W J g L) 90 [(0, .ref 130), (1, .int (Int32.ofNat dv))] [] W J g L 0 0 := by
  refine b_aln (pc2 := 91) d_Mo_collect_90 rfl rfl ?_
  refine b_gr (pc2 := 94) d_Mo_collect_91 q_11_60 (sh_130 n0) (by decide) (by decide) (p_130_23 n0) rfl ?_
  refine b_iln (pc2 := 95) d_Mo_collect_94 rfl rfl ?_
  refine b_ia (pc2 := 96) (q := dv) d_Mo_collect_95 (sh_146 n0) (i_in (show dv < 2 by omega) (by decide)) (i_tn (by omega)) (rc_146) rfl ?_
  rw [hc]
  refine b_ic (pc2 := 97) (x := Int32.ofNat 4) d_Mo_collect_96 rfl rfl ?_
  refine b_ifd (pc2 := 101) d_Mo_collect_97 rfl rfl rfl rfl rfl (fun h97 => ?_) (fun h97 => ?_)
  · exact absurd h97 (fun z => by rw [i_le (by omega) (by omega)] at z; omega)
  refine b_vr d_Mo_collect_100 rfl ?_
  exact ⟨rfl, rfl, rfl, rfl, rfl⟩
theorem c90_g {e : Nat} (hdv : dv < 2) {l : List Int32} (hl : l.length ≤ 31) (hq : ∀ k, k < l.length → J 145 (48 * dv + k) = l.getD k 0) (hc : J 146 dv = Int32.ofNat l.length) (h4 : 4 ≤ l.length) {nn : Nat} (hn0 : l.getD 0 0 = Int32.ofNat nn) (hn2 : nn < 256) (hf1 : nn ≤ 20) (hf2 : l.getD 1 0 = 0) (hf3 : l.getD 2 0 = 4) (hf4 : l.getD 3 0 = 0) (hf5 : l.length ≤ nn + 4) (hx : l.length < nn + 4) : bT e (S0 n0) R0 mt_Mo_collect (bR none W J g L) 90 [(0, .ref 130), (1, .int (Int32.ofNat dv))] [] W J g L 0 0 := by
  refine b_aln (pc2 := 91) d_Mo_collect_90 rfl rfl ?_
  refine b_gr (pc2 := 94) d_Mo_collect_91 q_11_60 (sh_130 n0) (by decide) (by decide) (p_130_23 n0) rfl ?_
  refine b_iln (pc2 := 95) d_Mo_collect_94 rfl rfl ?_
  refine b_ia (pc2 := 96) (q := dv) d_Mo_collect_95 (sh_146 n0) (i_in (show dv < 2 by omega) (by decide)) (i_tn (by omega)) (rc_146) rfl ?_
  rw [hc]
  refine b_ic (pc2 := 97) (x := Int32.ofNat 4) d_Mo_collect_96 rfl rfl ?_
  refine b_ifd (pc2 := 101) d_Mo_collect_97 rfl rfl rfl rfl rfl (fun h97 => ?_) (fun h97 => ?_)
  rotate_left
  · exact absurd (by rw [i_le (by omega) (by omega)]; omega) h97
  refine b_bp (pc2 := 103) (x := Int32.ofNat 48) d_Mo_collect_101 rfl rfl ?_
  refine b_iln (pc2 := 104) d_Mo_collect_103 rfl rfl ?_
  refine b_pure (pc2 := 105) d_Mo_collect_104 rfl rfl rfl ?_
  rw [i_mul]
  refine b_isn (pc2 := 106) (al2 := [(3, _), (0, _), (1, _)]) d_Mo_collect_105 (by decide) rfl rfl ?_
  refine b_aln (pc2 := 107) d_Mo_collect_106 rfl rfl ?_
  refine b_gr (pc2 := 110) d_Mo_collect_107 q_11_57 (sh_130 n0) (by decide) (by decide) (p_130_22 n0) rfl ?_
  refine b_iln (pc2 := 111) d_Mo_collect_110 rfl rfl ?_
  refine b_ia (pc2 := 112) (q := (48 * dv + 0)) d_Mo_collect_111 (sh_145 n0) (i_in (show 48 * dv < 96 by omega) (by decide)) (i_tn (by omega)) (rc_145) rfl ?_
  rw [hq 0 (by omega), hn0]
  refine b_is (pc2 := 114) (al2 := [(4, _), (3, _), (0, _), (1, _)]) d_Mo_collect_112 (by decide) rfl rfl ?_
  refine b_il (pc2 := 116) d_Mo_collect_114 rfl rfl ?_
  refine b_bp (pc2 := 118) (x := Int32.ofNat 20) d_Mo_collect_116 rfl rfl ?_
  refine b_ifd (pc2 := 172) d_Mo_collect_118 rfl rfl rfl rfl rfl (fun h118 => ?_) (fun h118 => ?_)
  · exact absurd h118 (fun z => by rw [i_lt (by omega) (by omega)] at z; omega)
  refine b_aln (pc2 := 122) d_Mo_collect_121 rfl rfl ?_
  refine b_gr (pc2 := 125) d_Mo_collect_122 q_11_57 (sh_130 n0) (by decide) (by decide) (p_130_22 n0) rfl ?_
  refine b_iln (pc2 := 126) d_Mo_collect_125 rfl rfl ?_
  refine b_ic (pc2 := 127) (x := Int32.ofNat 1) d_Mo_collect_126 rfl rfl ?_
  refine b_pure (pc2 := 128) d_Mo_collect_127 rfl rfl rfl ?_
  rw [i_add]
  refine b_ia (pc2 := 129) (q := (48 * dv + 1)) d_Mo_collect_128 (sh_145 n0) (i_in (show 48 * dv + 1 < 96 by omega) (by decide)) (i_tn (by omega)) (rc_145) rfl ?_
  rw [hq 1 (by omega)]
  refine b_ifd (pc2 := 172) d_Mo_collect_129 rfl rfl rfl rfl rfl (fun h129 => ?_) (fun h129 => ?_)
  · exact absurd h129 (fun z => z hf2)
  refine b_aln (pc2 := 133) d_Mo_collect_132 rfl rfl ?_
  refine b_gr (pc2 := 136) d_Mo_collect_133 q_11_57 (sh_130 n0) (by decide) (by decide) (p_130_22 n0) rfl ?_
  refine b_iln (pc2 := 137) d_Mo_collect_136 rfl rfl ?_
  refine b_ic (pc2 := 138) (x := Int32.ofNat 2) d_Mo_collect_137 rfl rfl ?_
  refine b_pure (pc2 := 139) d_Mo_collect_138 rfl rfl rfl ?_
  rw [i_add]
  refine b_ia (pc2 := 140) (q := (48 * dv + 2)) d_Mo_collect_139 (sh_145 n0) (i_in (show 48 * dv + 2 < 96 by omega) (by decide)) (i_tn (by omega)) (rc_145) rfl ?_
  rw [hq 2 (by omega)]
  refine b_ic (pc2 := 141) (x := Int32.ofNat 4) d_Mo_collect_140 rfl rfl ?_
  refine b_ifd (pc2 := 172) d_Mo_collect_141 rfl rfl rfl rfl rfl (fun h141 => ?_) (fun h141 => ?_)
  · exact absurd h141 (fun z => z hf3)
  refine b_aln (pc2 := 145) d_Mo_collect_144 rfl rfl ?_
  refine b_gr (pc2 := 148) d_Mo_collect_145 q_11_57 (sh_130 n0) (by decide) (by decide) (p_130_22 n0) rfl ?_
  refine b_iln (pc2 := 149) d_Mo_collect_148 rfl rfl ?_
  refine b_ic (pc2 := 150) (x := Int32.ofNat 3) d_Mo_collect_149 rfl rfl ?_
  refine b_pure (pc2 := 151) d_Mo_collect_150 rfl rfl rfl ?_
  rw [i_add]
  refine b_ia (pc2 := 152) (q := (48 * dv + 3)) d_Mo_collect_151 (sh_145 n0) (i_in (show 48 * dv + 3 < 96 by omega) (by decide)) (i_tn (by omega)) (rc_145) rfl ?_
  rw [hq 3 (by omega)]
  refine b_ifd (pc2 := 172) d_Mo_collect_152 rfl rfl rfl rfl rfl (fun h152 => ?_) (fun h152 => ?_)
  · exact absurd h152 (fun z => z hf4)
  refine b_aln (pc2 := 156) d_Mo_collect_155 rfl rfl ?_
  refine b_gr (pc2 := 159) d_Mo_collect_156 q_11_60 (sh_130 n0) (by decide) (by decide) (p_130_23 n0) rfl ?_
  refine b_iln (pc2 := 160) d_Mo_collect_159 rfl rfl ?_
  refine b_ia (pc2 := 161) (q := dv) d_Mo_collect_160 (sh_146 n0) (i_in (show dv < 2 by omega) (by decide)) (i_tn (by omega)) (rc_146) rfl ?_
  rw [hc]
  refine b_il (pc2 := 163) d_Mo_collect_161 rfl rfl ?_
  refine b_ic (pc2 := 164) (x := Int32.ofNat 4) d_Mo_collect_163 rfl rfl ?_
  refine b_pure (pc2 := 165) d_Mo_collect_164 rfl rfl rfl ?_
  rw [i_add]
  refine b_ifd (pc2 := 172) d_Mo_collect_165 rfl rfl rfl rfl rfl (fun h165 => ?_) (fun h165 => ?_)
  · exact absurd h165 (fun z => by rw [i_lt (by omega) (by omega)] at z; omega)
  refine b_ic (pc2 := 169) (x := Int32.ofNat 1) d_Mo_collect_168 rfl rfl ?_
  refine b_go (pc2 := 173) d_Mo_collect_169 rfl ?_
  refine b_is (pc2 := 175) (al2 := [(5, _), (4, _), (3, _), (0, _), (1, _)]) d_Mo_collect_173 (by decide) rfl rfl ?_
  refine b_il (pc2 := 177) d_Mo_collect_175 rfl rfl ?_
  refine b_ifd (pc2 := 194) d_Mo_collect_177 rfl rfl rfl rfl rfl (fun h177 => ?_) (fun h177 => ?_)
  · exact absurd h177 (by decide)
  refine b_aln (pc2 := 181) d_Mo_collect_180 rfl rfl ?_
  refine b_gr (pc2 := 184) d_Mo_collect_181 q_11_60 (sh_130 n0) (by decide) (by decide) (p_130_23 n0) rfl ?_
  refine b_iln (pc2 := 185) d_Mo_collect_184 rfl rfl ?_
  refine b_ia (pc2 := 186) (q := dv) d_Mo_collect_185 (sh_146 n0) (i_in (show dv < 2 by omega) (by decide)) (i_tn (by omega)) (rc_146) rfl ?_
  rw [hc]
  refine b_il (pc2 := 188) d_Mo_collect_186 rfl rfl ?_
  refine b_ic (pc2 := 189) (x := Int32.ofNat 4) d_Mo_collect_188 rfl rfl ?_
  refine b_pure (pc2 := 190) d_Mo_collect_189 rfl rfl rfl ?_
  rw [i_add]
  refine b_ifd (pc2 := 194) d_Mo_collect_190 rfl rfl rfl rfl rfl (fun h190 => ?_) (fun h190 => ?_)
  · exact absurd h190 (fun z => by rw [i_le (by omega) (by omega)] at z; omega)
  refine b_vr d_Mo_collect_193 rfl ?_
  exact ⟨rfl, rfl, rfl, rfl, rfl⟩
theorem c90_x {e : Nat} (hdv : dv < 2) {l : List Int32} (hl : l.length ≤ 31) (hq : ∀ k, k < l.length → J 145 (48 * dv + k) = l.getD k 0) (hc : J 146 dv = Int32.ofNat l.length) (h4 : 4 ≤ l.length) {nn : Nat} (hn0 : l.getD 0 0 = Int32.ofNat nn) (hn2 : nn < 256) (hx : ¬ (nn ≤ 20 ∧ l.getD 1 0 = 0 ∧ l.getD 2 0 = 4 ∧ l.getD 3 0 = 0 ∧ l.length ≤ nn + 4)) : bT e (S0 n0) R0 mt_Mo_collect (bR none W (am_u2 J 147 dv (Int32.ofNat 0)) g L) 90 [(0, .ref 130), (1, .int (Int32.ofNat dv))] [] W J g L 0 0 := by
  refine b_aln (pc2 := 91) d_Mo_collect_90 rfl rfl ?_
  refine b_gr (pc2 := 94) d_Mo_collect_91 q_11_60 (sh_130 n0) (by decide) (by decide) (p_130_23 n0) rfl ?_
  refine b_iln (pc2 := 95) d_Mo_collect_94 rfl rfl ?_
  refine b_ia (pc2 := 96) (q := dv) d_Mo_collect_95 (sh_146 n0) (i_in (show dv < 2 by omega) (by decide)) (i_tn (by omega)) (rc_146) rfl ?_
  rw [hc]
  refine b_ic (pc2 := 97) (x := Int32.ofNat 4) d_Mo_collect_96 rfl rfl ?_
  refine b_ifd (pc2 := 101) d_Mo_collect_97 rfl rfl rfl rfl rfl (fun h97 => ?_) (fun h97 => ?_)
  rotate_left
  · exact absurd (by rw [i_le (by omega) (by omega)]; omega) h97
  refine b_bp (pc2 := 103) (x := Int32.ofNat 48) d_Mo_collect_101 rfl rfl ?_
  refine b_iln (pc2 := 104) d_Mo_collect_103 rfl rfl ?_
  refine b_pure (pc2 := 105) d_Mo_collect_104 rfl rfl rfl ?_
  rw [i_mul]
  refine b_isn (pc2 := 106) (al2 := [(3, _), (0, _), (1, _)]) d_Mo_collect_105 (by decide) rfl rfl ?_
  refine b_aln (pc2 := 107) d_Mo_collect_106 rfl rfl ?_
  refine b_gr (pc2 := 110) d_Mo_collect_107 q_11_57 (sh_130 n0) (by decide) (by decide) (p_130_22 n0) rfl ?_
  refine b_iln (pc2 := 111) d_Mo_collect_110 rfl rfl ?_
  refine b_ia (pc2 := 112) (q := (48 * dv + 0)) d_Mo_collect_111 (sh_145 n0) (i_in (show 48 * dv < 96 by omega) (by decide)) (i_tn (by omega)) (rc_145) rfl ?_
  rw [hq 0 (by omega), hn0]
  refine b_is (pc2 := 114) (al2 := [(4, _), (3, _), (0, _), (1, _)]) d_Mo_collect_112 (by decide) rfl rfl ?_
  refine b_il (pc2 := 116) d_Mo_collect_114 rfl rfl ?_
  refine b_bp (pc2 := 118) (x := Int32.ofNat 20) d_Mo_collect_116 rfl rfl ?_
  refine b_ifd (pc2 := 172) d_Mo_collect_118 rfl rfl rfl rfl rfl (fun h118 => ?_) (fun h118 => ?_)
  · rw [i_lt (by omega) (by omega)] at h118
    refine b_ic (pc2 := 173) (x := Int32.ofNat 0) d_Mo_collect_172 rfl rfl ?_
    refine b_is (pc2 := 175) (al2 := [(5, _), (4, _), (3, _), (0, _), (1, _)]) d_Mo_collect_173 (by decide) rfl rfl ?_
    refine b_il (pc2 := 177) d_Mo_collect_175 rfl rfl ?_
    refine b_ifd (pc2 := 194) d_Mo_collect_177 rfl rfl rfl rfl rfl (fun h177 => ?_) (fun h177 => ?_)
    rotate_left
    · exact absurd (by decide) h177
    refine b_aln (pc2 := 195) d_Mo_collect_194 rfl rfl ?_
    refine b_gr (pc2 := 198) d_Mo_collect_195 q_11_63 (sh_130 n0) (by decide) (by decide) (p_130_24 n0) rfl ?_
    refine b_iln (pc2 := 199) d_Mo_collect_198 rfl rfl ?_
    refine b_ic (pc2 := 200) (x := Int32.ofNat 0) d_Mo_collect_199 rfl rfl ?_
    refine b_bst (pc2 := 201) (q := dv) d_Mo_collect_200 (sh_147 n0) (i_in (show dv < 2 by omega) (by decide)) (i_tn (by omega)) (rc_147) (Or.inl rfl) rfl ?_
    refine b_il (pc2 := 203) d_Mo_collect_201 rfl rfl ?_
    refine b_ifd (pc2 := 207) d_Mo_collect_203 rfl rfl rfl rfl rfl (fun h203 => ?_) (fun h203 => ?_)
    · exact absurd h203 (by decide)
    refine b_vr d_Mo_collect_206 rfl ?_
    exact ⟨rfl, rfl, rfl, rfl, rfl⟩
  · rw [i_lt (by omega) (by omega)] at h118
    refine b_aln (pc2 := 122) d_Mo_collect_121 rfl rfl ?_
    refine b_gr (pc2 := 125) d_Mo_collect_122 q_11_57 (sh_130 n0) (by decide) (by decide) (p_130_22 n0) rfl ?_
    refine b_iln (pc2 := 126) d_Mo_collect_125 rfl rfl ?_
    refine b_ic (pc2 := 127) (x := Int32.ofNat 1) d_Mo_collect_126 rfl rfl ?_
    refine b_pure (pc2 := 128) d_Mo_collect_127 rfl rfl rfl ?_
    rw [i_add]
    refine b_ia (pc2 := 129) (q := (48 * dv + 1)) d_Mo_collect_128 (sh_145 n0) (i_in (show 48 * dv + 1 < 96 by omega) (by decide)) (i_tn (by omega)) (rc_145) rfl ?_
    rw [hq 1 (by omega)]
    refine b_ifd (pc2 := 172) d_Mo_collect_129 rfl rfl rfl rfl rfl (fun h129 => ?_) (fun h129 => ?_)
    · refine b_ic (pc2 := 173) (x := Int32.ofNat 0) d_Mo_collect_172 rfl rfl ?_
      refine b_is (pc2 := 175) (al2 := [(5, _), (4, _), (3, _), (0, _), (1, _)]) d_Mo_collect_173 (by decide) rfl rfl ?_
      refine b_il (pc2 := 177) d_Mo_collect_175 rfl rfl ?_
      refine b_ifd (pc2 := 194) d_Mo_collect_177 rfl rfl rfl rfl rfl (fun h177 => ?_) (fun h177 => ?_)
      rotate_left
      · exact absurd (by decide) h177
      refine b_aln (pc2 := 195) d_Mo_collect_194 rfl rfl ?_
      refine b_gr (pc2 := 198) d_Mo_collect_195 q_11_63 (sh_130 n0) (by decide) (by decide) (p_130_24 n0) rfl ?_
      refine b_iln (pc2 := 199) d_Mo_collect_198 rfl rfl ?_
      refine b_ic (pc2 := 200) (x := Int32.ofNat 0) d_Mo_collect_199 rfl rfl ?_
      refine b_bst (pc2 := 201) (q := dv) d_Mo_collect_200 (sh_147 n0) (i_in (show dv < 2 by omega) (by decide)) (i_tn (by omega)) (rc_147) (Or.inl rfl) rfl ?_
      refine b_il (pc2 := 203) d_Mo_collect_201 rfl rfl ?_
      refine b_ifd (pc2 := 207) d_Mo_collect_203 rfl rfl rfl rfl rfl (fun h203 => ?_) (fun h203 => ?_)
      · exact absurd h203 (by decide)
      refine b_vr d_Mo_collect_206 rfl ?_
      exact ⟨rfl, rfl, rfl, rfl, rfl⟩
    · refine b_aln (pc2 := 133) d_Mo_collect_132 rfl rfl ?_
      refine b_gr (pc2 := 136) d_Mo_collect_133 q_11_57 (sh_130 n0) (by decide) (by decide) (p_130_22 n0) rfl ?_
      refine b_iln (pc2 := 137) d_Mo_collect_136 rfl rfl ?_
      refine b_ic (pc2 := 138) (x := Int32.ofNat 2) d_Mo_collect_137 rfl rfl ?_
      refine b_pure (pc2 := 139) d_Mo_collect_138 rfl rfl rfl ?_
      rw [i_add]
      refine b_ia (pc2 := 140) (q := (48 * dv + 2)) d_Mo_collect_139 (sh_145 n0) (i_in (show 48 * dv + 2 < 96 by omega) (by decide)) (i_tn (by omega)) (rc_145) rfl ?_
      rw [hq 2 (by omega)]
      refine b_ic (pc2 := 141) (x := Int32.ofNat 4) d_Mo_collect_140 rfl rfl ?_
      refine b_ifd (pc2 := 172) d_Mo_collect_141 rfl rfl rfl rfl rfl (fun h141 => ?_) (fun h141 => ?_)
      · refine b_ic (pc2 := 173) (x := Int32.ofNat 0) d_Mo_collect_172 rfl rfl ?_
        refine b_is (pc2 := 175) (al2 := [(5, _), (4, _), (3, _), (0, _), (1, _)]) d_Mo_collect_173 (by decide) rfl rfl ?_
        refine b_il (pc2 := 177) d_Mo_collect_175 rfl rfl ?_
        refine b_ifd (pc2 := 194) d_Mo_collect_177 rfl rfl rfl rfl rfl (fun h177 => ?_) (fun h177 => ?_)
        rotate_left
        · exact absurd (by decide) h177
        refine b_aln (pc2 := 195) d_Mo_collect_194 rfl rfl ?_
        refine b_gr (pc2 := 198) d_Mo_collect_195 q_11_63 (sh_130 n0) (by decide) (by decide) (p_130_24 n0) rfl ?_
        refine b_iln (pc2 := 199) d_Mo_collect_198 rfl rfl ?_
        refine b_ic (pc2 := 200) (x := Int32.ofNat 0) d_Mo_collect_199 rfl rfl ?_
        refine b_bst (pc2 := 201) (q := dv) d_Mo_collect_200 (sh_147 n0) (i_in (show dv < 2 by omega) (by decide)) (i_tn (by omega)) (rc_147) (Or.inl rfl) rfl ?_
        refine b_il (pc2 := 203) d_Mo_collect_201 rfl rfl ?_
        refine b_ifd (pc2 := 207) d_Mo_collect_203 rfl rfl rfl rfl rfl (fun h203 => ?_) (fun h203 => ?_)
        · exact absurd h203 (by decide)
        refine b_vr d_Mo_collect_206 rfl ?_
        exact ⟨rfl, rfl, rfl, rfl, rfl⟩
      · refine b_aln (pc2 := 145) d_Mo_collect_144 rfl rfl ?_
        refine b_gr (pc2 := 148) d_Mo_collect_145 q_11_57 (sh_130 n0) (by decide) (by decide) (p_130_22 n0) rfl ?_
        refine b_iln (pc2 := 149) d_Mo_collect_148 rfl rfl ?_
        refine b_ic (pc2 := 150) (x := Int32.ofNat 3) d_Mo_collect_149 rfl rfl ?_
        refine b_pure (pc2 := 151) d_Mo_collect_150 rfl rfl rfl ?_
        rw [i_add]
        refine b_ia (pc2 := 152) (q := (48 * dv + 3)) d_Mo_collect_151 (sh_145 n0) (i_in (show 48 * dv + 3 < 96 by omega) (by decide)) (i_tn (by omega)) (rc_145) rfl ?_
        rw [hq 3 (by omega)]
        refine b_ifd (pc2 := 172) d_Mo_collect_152 rfl rfl rfl rfl rfl (fun h152 => ?_) (fun h152 => ?_)
        · refine b_ic (pc2 := 173) (x := Int32.ofNat 0) d_Mo_collect_172 rfl rfl ?_
          refine b_is (pc2 := 175) (al2 := [(5, _), (4, _), (3, _), (0, _), (1, _)]) d_Mo_collect_173 (by decide) rfl rfl ?_
          refine b_il (pc2 := 177) d_Mo_collect_175 rfl rfl ?_
          refine b_ifd (pc2 := 194) d_Mo_collect_177 rfl rfl rfl rfl rfl (fun h177 => ?_) (fun h177 => ?_)
          rotate_left
          · exact absurd (by decide) h177
          refine b_aln (pc2 := 195) d_Mo_collect_194 rfl rfl ?_
          refine b_gr (pc2 := 198) d_Mo_collect_195 q_11_63 (sh_130 n0) (by decide) (by decide) (p_130_24 n0) rfl ?_
          refine b_iln (pc2 := 199) d_Mo_collect_198 rfl rfl ?_
          refine b_ic (pc2 := 200) (x := Int32.ofNat 0) d_Mo_collect_199 rfl rfl ?_
          refine b_bst (pc2 := 201) (q := dv) d_Mo_collect_200 (sh_147 n0) (i_in (show dv < 2 by omega) (by decide)) (i_tn (by omega)) (rc_147) (Or.inl rfl) rfl ?_
          refine b_il (pc2 := 203) d_Mo_collect_201 rfl rfl ?_
          refine b_ifd (pc2 := 207) d_Mo_collect_203 rfl rfl rfl rfl rfl (fun h203 => ?_) (fun h203 => ?_)
          · exact absurd h203 (by decide)
          refine b_vr d_Mo_collect_206 rfl ?_
          exact ⟨rfl, rfl, rfl, rfl, rfl⟩
        · refine b_aln (pc2 := 156) d_Mo_collect_155 rfl rfl ?_
          refine b_gr (pc2 := 159) d_Mo_collect_156 q_11_60 (sh_130 n0) (by decide) (by decide) (p_130_23 n0) rfl ?_
          refine b_iln (pc2 := 160) d_Mo_collect_159 rfl rfl ?_
          refine b_ia (pc2 := 161) (q := dv) d_Mo_collect_160 (sh_146 n0) (i_in (show dv < 2 by omega) (by decide)) (i_tn (by omega)) (rc_146) rfl ?_
          rw [hc]
          refine b_il (pc2 := 163) d_Mo_collect_161 rfl rfl ?_
          refine b_ic (pc2 := 164) (x := Int32.ofNat 4) d_Mo_collect_163 rfl rfl ?_
          refine b_pure (pc2 := 165) d_Mo_collect_164 rfl rfl rfl ?_
          rw [i_add]
          refine b_ifd (pc2 := 172) d_Mo_collect_165 rfl rfl rfl rfl rfl (fun h165 => ?_) (fun h165 => ?_)
          · rw [i_lt (by omega) (by omega)] at h165
            refine b_ic (pc2 := 173) (x := Int32.ofNat 0) d_Mo_collect_172 rfl rfl ?_
            refine b_is (pc2 := 175) (al2 := [(5, _), (4, _), (3, _), (0, _), (1, _)]) d_Mo_collect_173 (by decide) rfl rfl ?_
            refine b_il (pc2 := 177) d_Mo_collect_175 rfl rfl ?_
            refine b_ifd (pc2 := 194) d_Mo_collect_177 rfl rfl rfl rfl rfl (fun h177 => ?_) (fun h177 => ?_)
            rotate_left
            · exact absurd (by decide) h177
            refine b_aln (pc2 := 195) d_Mo_collect_194 rfl rfl ?_
            refine b_gr (pc2 := 198) d_Mo_collect_195 q_11_63 (sh_130 n0) (by decide) (by decide) (p_130_24 n0) rfl ?_
            refine b_iln (pc2 := 199) d_Mo_collect_198 rfl rfl ?_
            refine b_ic (pc2 := 200) (x := Int32.ofNat 0) d_Mo_collect_199 rfl rfl ?_
            refine b_bst (pc2 := 201) (q := dv) d_Mo_collect_200 (sh_147 n0) (i_in (show dv < 2 by omega) (by decide)) (i_tn (by omega)) (rc_147) (Or.inl rfl) rfl ?_
            refine b_il (pc2 := 203) d_Mo_collect_201 rfl rfl ?_
            refine b_ifd (pc2 := 207) d_Mo_collect_203 rfl rfl rfl rfl rfl (fun h203 => ?_) (fun h203 => ?_)
            · exact absurd h203 (by decide)
            refine b_vr d_Mo_collect_206 rfl ?_
            exact ⟨rfl, rfl, rfl, rfl, rfl⟩
          · rw [i_lt (by omega) (by omega)] at h165
            exact absurd ⟨by omega, Classical.not_not.mp h129, Classical.not_not.mp h141, Classical.not_not.mp h152, by omega⟩ hx
theorem c90_dc {e : Nat} (hdv : dv < 2) {l : List Int32} (hl : l.length ≤ 31) (hq : ∀ k, k < l.length → J 145 (48 * dv + k) = l.getD k 0) (hc : J 146 dv = Int32.ofNat l.length) (h4 : 4 ≤ l.length) {nn : Nat} (hn0 : l.getD 0 0 = Int32.ofNat nn) (hn2 : nn < 256) (hf1 : nn ≤ 20) (hf2 : l.getD 1 0 = 0) (hf3 : l.getD 2 0 = 4) (hf4 : l.getD 3 0 = 0) (hf5 : l.length ≤ nn + 4) (hx : l.length = nn + 4) (he : 6 ≤ e) (hd0 : dv = 0) (hH : ∀ e, 6 ≤ e → bm e (S0 n0) R0 153 [.ref 130] W (am_u1 (am_u2 (am_u2 J 147 dv (Int32.ofNat 0)) 130 27 (Int32.ofNat nn)) 150 (ovw 0 (l.drop 4) (J 150))) g L (bR none W J1 g L)) : bT e (S0 n0) R0 mt_Mo_collect (bR none W J1 g L) 90 [(0, .ref 130), (1, .int (Int32.ofNat dv))] [] W J g L 0 0 := by
  refine b_aln (pc2 := 91) d_Mo_collect_90 rfl rfl ?_
  refine b_gr (pc2 := 94) d_Mo_collect_91 q_11_60 (sh_130 n0) (by decide) (by decide) (p_130_23 n0) rfl ?_
  refine b_iln (pc2 := 95) d_Mo_collect_94 rfl rfl ?_
  refine b_ia (pc2 := 96) (q := dv) d_Mo_collect_95 (sh_146 n0) (i_in (show dv < 2 by omega) (by decide)) (i_tn (by omega)) (rc_146) rfl ?_
  rw [hc]
  refine b_ic (pc2 := 97) (x := Int32.ofNat 4) d_Mo_collect_96 rfl rfl ?_
  refine b_ifd (pc2 := 101) d_Mo_collect_97 rfl rfl rfl rfl rfl (fun h97 => ?_) (fun h97 => ?_)
  rotate_left
  · exact absurd (by rw [i_le (by omega) (by omega)]; omega) h97
  refine b_bp (pc2 := 103) (x := Int32.ofNat 48) d_Mo_collect_101 rfl rfl ?_
  refine b_iln (pc2 := 104) d_Mo_collect_103 rfl rfl ?_
  refine b_pure (pc2 := 105) d_Mo_collect_104 rfl rfl rfl ?_
  rw [i_mul]
  refine b_isn (pc2 := 106) (al2 := [(3, _), (0, _), (1, _)]) d_Mo_collect_105 (by decide) rfl rfl ?_
  refine b_aln (pc2 := 107) d_Mo_collect_106 rfl rfl ?_
  refine b_gr (pc2 := 110) d_Mo_collect_107 q_11_57 (sh_130 n0) (by decide) (by decide) (p_130_22 n0) rfl ?_
  refine b_iln (pc2 := 111) d_Mo_collect_110 rfl rfl ?_
  refine b_ia (pc2 := 112) (q := (48 * dv + 0)) d_Mo_collect_111 (sh_145 n0) (i_in (show 48 * dv < 96 by omega) (by decide)) (i_tn (by omega)) (rc_145) rfl ?_
  rw [hq 0 (by omega), hn0]
  refine b_is (pc2 := 114) (al2 := [(4, _), (3, _), (0, _), (1, _)]) d_Mo_collect_112 (by decide) rfl rfl ?_
  refine b_il (pc2 := 116) d_Mo_collect_114 rfl rfl ?_
  refine b_bp (pc2 := 118) (x := Int32.ofNat 20) d_Mo_collect_116 rfl rfl ?_
  refine b_ifd (pc2 := 172) d_Mo_collect_118 rfl rfl rfl rfl rfl (fun h118 => ?_) (fun h118 => ?_)
  · exact absurd h118 (fun z => by rw [i_lt (by omega) (by omega)] at z; omega)
  refine b_aln (pc2 := 122) d_Mo_collect_121 rfl rfl ?_
  refine b_gr (pc2 := 125) d_Mo_collect_122 q_11_57 (sh_130 n0) (by decide) (by decide) (p_130_22 n0) rfl ?_
  refine b_iln (pc2 := 126) d_Mo_collect_125 rfl rfl ?_
  refine b_ic (pc2 := 127) (x := Int32.ofNat 1) d_Mo_collect_126 rfl rfl ?_
  refine b_pure (pc2 := 128) d_Mo_collect_127 rfl rfl rfl ?_
  rw [i_add]
  refine b_ia (pc2 := 129) (q := (48 * dv + 1)) d_Mo_collect_128 (sh_145 n0) (i_in (show 48 * dv + 1 < 96 by omega) (by decide)) (i_tn (by omega)) (rc_145) rfl ?_
  rw [hq 1 (by omega)]
  refine b_ifd (pc2 := 172) d_Mo_collect_129 rfl rfl rfl rfl rfl (fun h129 => ?_) (fun h129 => ?_)
  · exact absurd h129 (fun z => z hf2)
  refine b_aln (pc2 := 133) d_Mo_collect_132 rfl rfl ?_
  refine b_gr (pc2 := 136) d_Mo_collect_133 q_11_57 (sh_130 n0) (by decide) (by decide) (p_130_22 n0) rfl ?_
  refine b_iln (pc2 := 137) d_Mo_collect_136 rfl rfl ?_
  refine b_ic (pc2 := 138) (x := Int32.ofNat 2) d_Mo_collect_137 rfl rfl ?_
  refine b_pure (pc2 := 139) d_Mo_collect_138 rfl rfl rfl ?_
  rw [i_add]
  refine b_ia (pc2 := 140) (q := (48 * dv + 2)) d_Mo_collect_139 (sh_145 n0) (i_in (show 48 * dv + 2 < 96 by omega) (by decide)) (i_tn (by omega)) (rc_145) rfl ?_
  rw [hq 2 (by omega)]
  refine b_ic (pc2 := 141) (x := Int32.ofNat 4) d_Mo_collect_140 rfl rfl ?_
  refine b_ifd (pc2 := 172) d_Mo_collect_141 rfl rfl rfl rfl rfl (fun h141 => ?_) (fun h141 => ?_)
  · exact absurd h141 (fun z => z hf3)
  refine b_aln (pc2 := 145) d_Mo_collect_144 rfl rfl ?_
  refine b_gr (pc2 := 148) d_Mo_collect_145 q_11_57 (sh_130 n0) (by decide) (by decide) (p_130_22 n0) rfl ?_
  refine b_iln (pc2 := 149) d_Mo_collect_148 rfl rfl ?_
  refine b_ic (pc2 := 150) (x := Int32.ofNat 3) d_Mo_collect_149 rfl rfl ?_
  refine b_pure (pc2 := 151) d_Mo_collect_150 rfl rfl rfl ?_
  rw [i_add]
  refine b_ia (pc2 := 152) (q := (48 * dv + 3)) d_Mo_collect_151 (sh_145 n0) (i_in (show 48 * dv + 3 < 96 by omega) (by decide)) (i_tn (by omega)) (rc_145) rfl ?_
  rw [hq 3 (by omega)]
  refine b_ifd (pc2 := 172) d_Mo_collect_152 rfl rfl rfl rfl rfl (fun h152 => ?_) (fun h152 => ?_)
  · exact absurd h152 (fun z => z hf4)
  refine b_aln (pc2 := 156) d_Mo_collect_155 rfl rfl ?_
  refine b_gr (pc2 := 159) d_Mo_collect_156 q_11_60 (sh_130 n0) (by decide) (by decide) (p_130_23 n0) rfl ?_
  refine b_iln (pc2 := 160) d_Mo_collect_159 rfl rfl ?_
  refine b_ia (pc2 := 161) (q := dv) d_Mo_collect_160 (sh_146 n0) (i_in (show dv < 2 by omega) (by decide)) (i_tn (by omega)) (rc_146) rfl ?_
  rw [hc]
  refine b_il (pc2 := 163) d_Mo_collect_161 rfl rfl ?_
  refine b_ic (pc2 := 164) (x := Int32.ofNat 4) d_Mo_collect_163 rfl rfl ?_
  refine b_pure (pc2 := 165) d_Mo_collect_164 rfl rfl rfl ?_
  rw [i_add]
  refine b_ifd (pc2 := 172) d_Mo_collect_165 rfl rfl rfl rfl rfl (fun h165 => ?_) (fun h165 => ?_)
  · exact absurd h165 (fun z => by rw [i_lt (by omega) (by omega)] at z; omega)
  refine b_ic (pc2 := 169) (x := Int32.ofNat 1) d_Mo_collect_168 rfl rfl ?_
  refine b_go (pc2 := 173) d_Mo_collect_169 rfl ?_
  refine b_is (pc2 := 175) (al2 := [(5, _), (4, _), (3, _), (0, _), (1, _)]) d_Mo_collect_173 (by decide) rfl rfl ?_
  refine b_il (pc2 := 177) d_Mo_collect_175 rfl rfl ?_
  refine b_ifd (pc2 := 194) d_Mo_collect_177 rfl rfl rfl rfl rfl (fun h177 => ?_) (fun h177 => ?_)
  · exact absurd h177 (by decide)
  refine b_aln (pc2 := 181) d_Mo_collect_180 rfl rfl ?_
  refine b_gr (pc2 := 184) d_Mo_collect_181 q_11_60 (sh_130 n0) (by decide) (by decide) (p_130_23 n0) rfl ?_
  refine b_iln (pc2 := 185) d_Mo_collect_184 rfl rfl ?_
  refine b_ia (pc2 := 186) (q := dv) d_Mo_collect_185 (sh_146 n0) (i_in (show dv < 2 by omega) (by decide)) (i_tn (by omega)) (rc_146) rfl ?_
  rw [hc]
  refine b_il (pc2 := 188) d_Mo_collect_186 rfl rfl ?_
  refine b_ic (pc2 := 189) (x := Int32.ofNat 4) d_Mo_collect_188 rfl rfl ?_
  refine b_pure (pc2 := 190) d_Mo_collect_189 rfl rfl rfl ?_
  rw [i_add]
  refine b_ifd (pc2 := 194) d_Mo_collect_190 rfl rfl rfl rfl rfl (fun h190 => ?_) (fun h190 => ?_)
  rotate_left
  · exact absurd (by rw [i_le (by omega) (by omega)]; omega) h190
  refine b_aln (pc2 := 195) d_Mo_collect_194 rfl rfl ?_
  refine b_gr (pc2 := 198) d_Mo_collect_195 q_11_63 (sh_130 n0) (by decide) (by decide) (p_130_24 n0) rfl ?_
  refine b_iln (pc2 := 199) d_Mo_collect_198 rfl rfl ?_
  refine b_ic (pc2 := 200) (x := Int32.ofNat 0) d_Mo_collect_199 rfl rfl ?_
  refine b_bst (pc2 := 201) (q := dv) d_Mo_collect_200 (sh_147 n0) (i_in (show dv < 2 by omega) (by decide)) (i_tn (by omega)) (rc_147) (Or.inl rfl) rfl ?_
  refine b_il (pc2 := 203) d_Mo_collect_201 rfl rfl ?_
  refine b_ifd (pc2 := 207) d_Mo_collect_203 rfl rfl rfl rfl rfl (fun h203 => ?_) (fun h203 => ?_)
  rotate_left
  · exact absurd (by decide) h203
  refine b_aln (pc2 := 208) d_Mo_collect_207 rfl rfl ?_
  refine b_il (pc2 := 210) d_Mo_collect_208 rfl rfl ?_
  refine b_pi (pc2 := 213) d_Mo_collect_210 q_11_174 (sh_130 n0) (by decide) (Or.inl (by decide)) (Or.inl rfl) (rc_130) rfl ?_
  refine b_ic (pc2 := 214) (x := Int32.ofNat 0) d_Mo_collect_213 rfl rfl ?_
  refine b_is (pc2 := 216) (al2 := [(6, _), (5, _), (4, _), (3, _), (0, _), (1, _)]) d_Mo_collect_214 (by decide) rfl rfl ?_
  refine b_nf (al := [(6, _), (4, _), (3, _), (0, _), (1, _)]) (ks := [6, 4, 3, 0, 1]) (sub_c rfl (sub_c rfl (sub_c rfl (sub_c rfl (sub_c rfl (sub_n)))))) rfl (by decide) ?_
  dsimp only
  have hK : ∀ c, ¬ c = 147 → ¬ c = 130 → am_u2 (am_u2 J 147 dv (Int32.ofNat 0)) 130 27 (Int32.ofNat nn) c = J c := fun c a1 a2 => by rw [u2_a _ _ a2, u2_a _ _ a1]
  refine (fun z => ?_ : _ → _) (lp_col (n0 := n0) (W := W) (J := am_u2 (am_u2 J 147 dv (Int32.ofNat 0)) 130 27 (Int32.ofNat nn)) (g := g) (L := L) (e := e) (dv := dv) (l := l) (nn := nn) (c := 0) (u := 0) (Qh := bw_Q (S0 n0) R0 (bR none W J1 g L)) hdv hl (by rw [hK 145 (by decide) (by decide)]; exact hq) hx hf1 ?_ nn 0 (by omega))
  · rw [List.take_zero, ovw_nil, u1_id] at z
    exact z
  · rw [hK 150 (by decide) (by decide)]
    subst hd0
    refine b_iln (pc2 := 248) d_Mo_collect_247 rfl rfl ?_
    refine b_ifd (pc2 := 258) d_Mo_collect_248 rfl rfl rfl rfl rfl (fun h248 => ?_) (fun h248 => ?_)
    · exact absurd h248 (by decide)
    refine b_aln (pc2 := 252) d_Mo_collect_251 rfl rfl ?_
    refine b_cv0 (pc2 := 255) (c2 := 0) (u2 := 0) (hH e (by omega)) d_Mo_collect_252 q_11_177 (Nat.le_of_ble_eq_true rfl) rfl rfl (sh_130 n0) (Nat.le_of_ble_eq_true rfl) rfl rfl (by decide) (by decide) rfl ?_
    refine b_go (pc2 := 262) d_Mo_collect_255 rfl ?_
    refine b_vr d_Mo_collect_262 rfl ?_
    exact ⟨rfl, rfl, rfl, rfl, rfl⟩
theorem c90_ds {e : Nat} (hdv : dv < 2) {l : List Int32} (hl : l.length ≤ 31) (hq : ∀ k, k < l.length → J 145 (48 * dv + k) = l.getD k 0) (hc : J 146 dv = Int32.ofNat l.length) (h4 : 4 ≤ l.length) {nn : Nat} (hn0 : l.getD 0 0 = Int32.ofNat nn) (hn2 : nn < 256) (hf1 : nn ≤ 20) (hf2 : l.getD 1 0 = 0) (hf3 : l.getD 2 0 = 4) (hf4 : l.getD 3 0 = 0) (hf5 : l.length ≤ nn + 4) (hx : l.length = nn + 4) (he : 6 ≤ e) (hd0 : dv = 1) (hH : ∀ e, 5 ≤ e → bm e (S0 n0) R0 160 [.ref 130] W (am_u1 (am_u2 (am_u2 J 147 dv (Int32.ofNat 0)) 130 27 (Int32.ofNat nn)) 150 (ovw 0 (l.drop 4) (J 150))) g L (bR none W J1 g L)) : bT e (S0 n0) R0 mt_Mo_collect (bR none W J1 g L) 90 [(0, .ref 130), (1, .int (Int32.ofNat dv))] [] W J g L 0 0 := by
  refine b_aln (pc2 := 91) d_Mo_collect_90 rfl rfl ?_
  refine b_gr (pc2 := 94) d_Mo_collect_91 q_11_60 (sh_130 n0) (by decide) (by decide) (p_130_23 n0) rfl ?_
  refine b_iln (pc2 := 95) d_Mo_collect_94 rfl rfl ?_
  refine b_ia (pc2 := 96) (q := dv) d_Mo_collect_95 (sh_146 n0) (i_in (show dv < 2 by omega) (by decide)) (i_tn (by omega)) (rc_146) rfl ?_
  rw [hc]
  refine b_ic (pc2 := 97) (x := Int32.ofNat 4) d_Mo_collect_96 rfl rfl ?_
  refine b_ifd (pc2 := 101) d_Mo_collect_97 rfl rfl rfl rfl rfl (fun h97 => ?_) (fun h97 => ?_)
  rotate_left
  · exact absurd (by rw [i_le (by omega) (by omega)]; omega) h97
  refine b_bp (pc2 := 103) (x := Int32.ofNat 48) d_Mo_collect_101 rfl rfl ?_
  refine b_iln (pc2 := 104) d_Mo_collect_103 rfl rfl ?_
  refine b_pure (pc2 := 105) d_Mo_collect_104 rfl rfl rfl ?_
  rw [i_mul]
  refine b_isn (pc2 := 106) (al2 := [(3, _), (0, _), (1, _)]) d_Mo_collect_105 (by decide) rfl rfl ?_
  refine b_aln (pc2 := 107) d_Mo_collect_106 rfl rfl ?_
  refine b_gr (pc2 := 110) d_Mo_collect_107 q_11_57 (sh_130 n0) (by decide) (by decide) (p_130_22 n0) rfl ?_
  refine b_iln (pc2 := 111) d_Mo_collect_110 rfl rfl ?_
  refine b_ia (pc2 := 112) (q := (48 * dv + 0)) d_Mo_collect_111 (sh_145 n0) (i_in (show 48 * dv < 96 by omega) (by decide)) (i_tn (by omega)) (rc_145) rfl ?_
  rw [hq 0 (by omega), hn0]
  refine b_is (pc2 := 114) (al2 := [(4, _), (3, _), (0, _), (1, _)]) d_Mo_collect_112 (by decide) rfl rfl ?_
  refine b_il (pc2 := 116) d_Mo_collect_114 rfl rfl ?_
  refine b_bp (pc2 := 118) (x := Int32.ofNat 20) d_Mo_collect_116 rfl rfl ?_
  refine b_ifd (pc2 := 172) d_Mo_collect_118 rfl rfl rfl rfl rfl (fun h118 => ?_) (fun h118 => ?_)
  · exact absurd h118 (fun z => by rw [i_lt (by omega) (by omega)] at z; omega)
  refine b_aln (pc2 := 122) d_Mo_collect_121 rfl rfl ?_
  refine b_gr (pc2 := 125) d_Mo_collect_122 q_11_57 (sh_130 n0) (by decide) (by decide) (p_130_22 n0) rfl ?_
  refine b_iln (pc2 := 126) d_Mo_collect_125 rfl rfl ?_
  refine b_ic (pc2 := 127) (x := Int32.ofNat 1) d_Mo_collect_126 rfl rfl ?_
  refine b_pure (pc2 := 128) d_Mo_collect_127 rfl rfl rfl ?_
  rw [i_add]
  refine b_ia (pc2 := 129) (q := (48 * dv + 1)) d_Mo_collect_128 (sh_145 n0) (i_in (show 48 * dv + 1 < 96 by omega) (by decide)) (i_tn (by omega)) (rc_145) rfl ?_
  rw [hq 1 (by omega)]
  refine b_ifd (pc2 := 172) d_Mo_collect_129 rfl rfl rfl rfl rfl (fun h129 => ?_) (fun h129 => ?_)
  · exact absurd h129 (fun z => z hf2)
  refine b_aln (pc2 := 133) d_Mo_collect_132 rfl rfl ?_
  refine b_gr (pc2 := 136) d_Mo_collect_133 q_11_57 (sh_130 n0) (by decide) (by decide) (p_130_22 n0) rfl ?_
  refine b_iln (pc2 := 137) d_Mo_collect_136 rfl rfl ?_
  refine b_ic (pc2 := 138) (x := Int32.ofNat 2) d_Mo_collect_137 rfl rfl ?_
  refine b_pure (pc2 := 139) d_Mo_collect_138 rfl rfl rfl ?_
  rw [i_add]
  refine b_ia (pc2 := 140) (q := (48 * dv + 2)) d_Mo_collect_139 (sh_145 n0) (i_in (show 48 * dv + 2 < 96 by omega) (by decide)) (i_tn (by omega)) (rc_145) rfl ?_
  rw [hq 2 (by omega)]
  refine b_ic (pc2 := 141) (x := Int32.ofNat 4) d_Mo_collect_140 rfl rfl ?_
  refine b_ifd (pc2 := 172) d_Mo_collect_141 rfl rfl rfl rfl rfl (fun h141 => ?_) (fun h141 => ?_)
  · exact absurd h141 (fun z => z hf3)
  refine b_aln (pc2 := 145) d_Mo_collect_144 rfl rfl ?_
  refine b_gr (pc2 := 148) d_Mo_collect_145 q_11_57 (sh_130 n0) (by decide) (by decide) (p_130_22 n0) rfl ?_
  refine b_iln (pc2 := 149) d_Mo_collect_148 rfl rfl ?_
  refine b_ic (pc2 := 150) (x := Int32.ofNat 3) d_Mo_collect_149 rfl rfl ?_
  refine b_pure (pc2 := 151) d_Mo_collect_150 rfl rfl rfl ?_
  rw [i_add]
  refine b_ia (pc2 := 152) (q := (48 * dv + 3)) d_Mo_collect_151 (sh_145 n0) (i_in (show 48 * dv + 3 < 96 by omega) (by decide)) (i_tn (by omega)) (rc_145) rfl ?_
  rw [hq 3 (by omega)]
  refine b_ifd (pc2 := 172) d_Mo_collect_152 rfl rfl rfl rfl rfl (fun h152 => ?_) (fun h152 => ?_)
  · exact absurd h152 (fun z => z hf4)
  refine b_aln (pc2 := 156) d_Mo_collect_155 rfl rfl ?_
  refine b_gr (pc2 := 159) d_Mo_collect_156 q_11_60 (sh_130 n0) (by decide) (by decide) (p_130_23 n0) rfl ?_
  refine b_iln (pc2 := 160) d_Mo_collect_159 rfl rfl ?_
  refine b_ia (pc2 := 161) (q := dv) d_Mo_collect_160 (sh_146 n0) (i_in (show dv < 2 by omega) (by decide)) (i_tn (by omega)) (rc_146) rfl ?_
  rw [hc]
  refine b_il (pc2 := 163) d_Mo_collect_161 rfl rfl ?_
  refine b_ic (pc2 := 164) (x := Int32.ofNat 4) d_Mo_collect_163 rfl rfl ?_
  refine b_pure (pc2 := 165) d_Mo_collect_164 rfl rfl rfl ?_
  rw [i_add]
  refine b_ifd (pc2 := 172) d_Mo_collect_165 rfl rfl rfl rfl rfl (fun h165 => ?_) (fun h165 => ?_)
  · exact absurd h165 (fun z => by rw [i_lt (by omega) (by omega)] at z; omega)
  refine b_ic (pc2 := 169) (x := Int32.ofNat 1) d_Mo_collect_168 rfl rfl ?_
  refine b_go (pc2 := 173) d_Mo_collect_169 rfl ?_
  refine b_is (pc2 := 175) (al2 := [(5, _), (4, _), (3, _), (0, _), (1, _)]) d_Mo_collect_173 (by decide) rfl rfl ?_
  refine b_il (pc2 := 177) d_Mo_collect_175 rfl rfl ?_
  refine b_ifd (pc2 := 194) d_Mo_collect_177 rfl rfl rfl rfl rfl (fun h177 => ?_) (fun h177 => ?_)
  · exact absurd h177 (by decide)
  refine b_aln (pc2 := 181) d_Mo_collect_180 rfl rfl ?_
  refine b_gr (pc2 := 184) d_Mo_collect_181 q_11_60 (sh_130 n0) (by decide) (by decide) (p_130_23 n0) rfl ?_
  refine b_iln (pc2 := 185) d_Mo_collect_184 rfl rfl ?_
  refine b_ia (pc2 := 186) (q := dv) d_Mo_collect_185 (sh_146 n0) (i_in (show dv < 2 by omega) (by decide)) (i_tn (by omega)) (rc_146) rfl ?_
  rw [hc]
  refine b_il (pc2 := 188) d_Mo_collect_186 rfl rfl ?_
  refine b_ic (pc2 := 189) (x := Int32.ofNat 4) d_Mo_collect_188 rfl rfl ?_
  refine b_pure (pc2 := 190) d_Mo_collect_189 rfl rfl rfl ?_
  rw [i_add]
  refine b_ifd (pc2 := 194) d_Mo_collect_190 rfl rfl rfl rfl rfl (fun h190 => ?_) (fun h190 => ?_)
  rotate_left
  · exact absurd (by rw [i_le (by omega) (by omega)]; omega) h190
  refine b_aln (pc2 := 195) d_Mo_collect_194 rfl rfl ?_
  refine b_gr (pc2 := 198) d_Mo_collect_195 q_11_63 (sh_130 n0) (by decide) (by decide) (p_130_24 n0) rfl ?_
  refine b_iln (pc2 := 199) d_Mo_collect_198 rfl rfl ?_
  refine b_ic (pc2 := 200) (x := Int32.ofNat 0) d_Mo_collect_199 rfl rfl ?_
  refine b_bst (pc2 := 201) (q := dv) d_Mo_collect_200 (sh_147 n0) (i_in (show dv < 2 by omega) (by decide)) (i_tn (by omega)) (rc_147) (Or.inl rfl) rfl ?_
  refine b_il (pc2 := 203) d_Mo_collect_201 rfl rfl ?_
  refine b_ifd (pc2 := 207) d_Mo_collect_203 rfl rfl rfl rfl rfl (fun h203 => ?_) (fun h203 => ?_)
  rotate_left
  · exact absurd (by decide) h203
  refine b_aln (pc2 := 208) d_Mo_collect_207 rfl rfl ?_
  refine b_il (pc2 := 210) d_Mo_collect_208 rfl rfl ?_
  refine b_pi (pc2 := 213) d_Mo_collect_210 q_11_174 (sh_130 n0) (by decide) (Or.inl (by decide)) (Or.inl rfl) (rc_130) rfl ?_
  refine b_ic (pc2 := 214) (x := Int32.ofNat 0) d_Mo_collect_213 rfl rfl ?_
  refine b_is (pc2 := 216) (al2 := [(6, _), (5, _), (4, _), (3, _), (0, _), (1, _)]) d_Mo_collect_214 (by decide) rfl rfl ?_
  refine b_nf (al := [(6, _), (4, _), (3, _), (0, _), (1, _)]) (ks := [6, 4, 3, 0, 1]) (sub_c rfl (sub_c rfl (sub_c rfl (sub_c rfl (sub_c rfl (sub_n)))))) rfl (by decide) ?_
  dsimp only
  have hK : ∀ c, ¬ c = 147 → ¬ c = 130 → am_u2 (am_u2 J 147 dv (Int32.ofNat 0)) 130 27 (Int32.ofNat nn) c = J c := fun c a1 a2 => by rw [u2_a _ _ a2, u2_a _ _ a1]
  refine (fun z => ?_ : _ → _) (lp_col (n0 := n0) (W := W) (J := am_u2 (am_u2 J 147 dv (Int32.ofNat 0)) 130 27 (Int32.ofNat nn)) (g := g) (L := L) (e := e) (dv := dv) (l := l) (nn := nn) (c := 0) (u := 0) (Qh := bw_Q (S0 n0) R0 (bR none W J1 g L)) hdv hl (by rw [hK 145 (by decide) (by decide)]; exact hq) hx hf1 ?_ nn 0 (by omega))
  · rw [List.take_zero, ovw_nil, u1_id] at z
    exact z
  · rw [hK 150 (by decide) (by decide)]
    subst hd0
    refine b_iln (pc2 := 248) d_Mo_collect_247 rfl rfl ?_
    refine b_ifd (pc2 := 258) d_Mo_collect_248 rfl rfl rfl rfl rfl (fun h248 => ?_) (fun h248 => ?_)
    rotate_left
    · exact absurd (by decide) h248
    refine b_aln (pc2 := 259) d_Mo_collect_258 rfl rfl ?_
    refine b_cv0 (pc2 := 262) (c2 := 0) (u2 := 0) (hH e (by omega)) d_Mo_collect_259 q_11_180 (Nat.le_of_ble_eq_true rfl) rfl rfl (sh_130 n0) (Nat.le_of_ble_eq_true rfl) rfl rfl (by decide) (by decide) rfl ?_
    refine b_vr d_Mo_collect_262 rfl ?_
    exact ⟨rfl, rfl, rfl, rfl, rfl⟩
theorem mo_col0 {d : Nat} (hd : 7 ≤ d) (hdv : dv < 2) {kd bg : Nat} (hkd : kd < 4) (hk2 : ¬ kd = 2) (hbg : J 147 dv = Int32.ofNat bg) (hbg2 : bg ≤ 1) (hx : kd = 1 → bg = 0) : bm d (S0 n0) R0 152 [.ref 130, .int (Int32.ofNat dv), .int (Int32.ofNat kd)] W J g L (bR none W J g L) := by
  obtain ⟨e, rfl⟩ : ∃ e, d = e + 1 := ⟨d - 1, by omega⟩
  refine bm_of (Nat.le_of_ble_eq_true rfl) (Or.inr bR_ret) ?_
  show bT e (S0 n0) R0 mt_Mo_collect _ 0 [(0, .ref 130), (1, .int (Int32.ofNat dv)), (2, .int (Int32.ofNat kd))] [] W J g L 0 0
  have hSR := SR0 n0
  refine b_iln (pc2 := 1) d_Mo_collect_0 rfl rfl ?_
  refine b_ic (pc2 := 2) (x := Int32.ofNat 2) d_Mo_collect_1 rfl rfl ?_
  refine b_ifd (pc2 := 19) d_Mo_collect_2 rfl rfl rfl rfl rfl (fun h2 => ?_) (fun h2 => ?_)
  rotate_left
  · exact absurd (by rw [i_eq (by omega) (by omega)]; omega) h2
  refine b_aln (pc2 := 20) d_Mo_collect_19 rfl rfl ?_
  refine b_gr (pc2 := 23) d_Mo_collect_20 q_11_63 (sh_130 n0) (by decide) (by decide) (p_130_24 n0) rfl ?_
  refine b_iln (pc2 := 24) d_Mo_collect_23 rfl rfl ?_
  refine b_ba (pc2 := 25) (q := dv) d_Mo_collect_24 (sh_147 n0) (i_in (show dv < 2 by omega) (by decide)) (i_tn (by omega)) (rc_147) rfl ?_
  rw [hbg]
  refine b_ifd (pc2 := 37) d_Mo_collect_25 rfl rfl rfl rfl rfl (fun h25 => ?_) (fun h25 => ?_)
  · rw [z_eq (by omega)] at h25
    refine b_vr d_Mo_collect_37 rfl ?_
    exact ⟨rfl, rfl, rfl, rfl, rfl⟩
  · rw [z_eq (by omega)] at h25
    refine b_iln (pc2 := 29) d_Mo_collect_28 rfl rfl ?_
    refine b_ifd (pc2 := 37) d_Mo_collect_29 rfl rfl rfl rfl rfl (fun h29 => ?_) (fun h29 => ?_)
    · rw [z_eq (by omega)] at h29
      refine b_vr d_Mo_collect_37 rfl ?_
      exact ⟨rfl, rfl, rfl, rfl, rfl⟩
    · rw [z_eq (by omega)] at h29
      refine b_iln (pc2 := 33) d_Mo_collect_32 rfl rfl ?_
      refine b_ic (pc2 := 34) (x := Int32.ofNat 3) d_Mo_collect_33 rfl rfl ?_
      refine b_ifd (pc2 := 38) d_Mo_collect_34 rfl rfl rfl rfl rfl (fun h34 => ?_) (fun h34 => ?_)
      · rw [i_eq (by omega) (by omega)] at h34
        omega
      · rw [i_eq (by omega) (by omega)] at h34
        refine b_vr d_Mo_collect_37 rfl ?_
        exact ⟨rfl, rfl, rfl, rfl, rfl⟩
theorem lp_co1 {e : Nat} (hdv : dv < 2) {p : List Int32} {s cm : Nat} (hp : ∀ k, k < p.length → J 132 k = p.getD k 0) (hs : p.getD 1 0 = Int32.ofNat s) (hs7 : s ≤ 7) (hpl : s + 5 = p.length) (hcm : cm ≤ 24) {kd : Nat} (K : bH e (S0 n0) R0 mt_Mo_collect Qh 90 [(0, .ref 130), (1, .int (Int32.ofNat dv))] [] W (am_u2 (am_u1 J 145 (ovw (48 * dv + cm) ((p.drop 2).take s) (J 145))) 146 dv (Int32.ofNat (cm + s))) g L 0 0) : ∀ (r j : Nat), j + r = s → bH e (S0 n0) R0 mt_Mo_collect Qh 40 [(3, .int (Int32.ofNat j)), (0, .ref 130), (1, .int (Int32.ofNat dv)), (2, .int (Int32.ofNat kd))] [] W (am_u2 (am_u1 J 145 (ovw (48 * dv + cm) ((p.drop 2).take j) (J 145))) 146 dv (Int32.ofNat (cm + j))) g L 0 0 := by
  intro r
  induction r with
  | zero =>
    intro j hj
    refine b_iln (pc2 := 41) d_Mo_collect_40 rfl rfl ?_
    refine b_aln (pc2 := 42) d_Mo_collect_41 rfl rfl ?_
    refine b_gr (pc2 := 45) d_Mo_collect_42 q_11_17 (sh_130 n0) (by decide) (by decide) (p_130_9 n0) rfl ?_
    refine b_ic (pc2 := 46) (x := Int32.ofNat 1) d_Mo_collect_45 rfl rfl ?_
    refine b_ia (pc2 := 47) (q := 1) d_Mo_collect_46 (sh_132 n0) (i_in (i := 1) (by decide) (by decide)) (rfl) (rc_132) rfl ?_
    rw [u2_a _ _ (by decide), u1_ne _ _ (by decide), hp 1 (by omega), hs]
    refine b_ifd (pc2 := 90) d_Mo_collect_47 rfl rfl rfl rfl rfl (fun h47 => ?_) (fun h47 => ?_)
    rotate_left
    · exact absurd (by rw [i_le (by omega) (by omega)]; omega) h47
    refine b_nf (al := [(0, _), (1, _)]) (ks := [0, 1]) (sub_c rfl (sub_c rfl (sub_n))) rfl (by decide) ?_
    dsimp only
    rw [show j = s by omega]
    exact K
  | succ r ih =>
    intro j hj
    refine b_iln (pc2 := 41) d_Mo_collect_40 rfl rfl ?_
    refine b_aln (pc2 := 42) d_Mo_collect_41 rfl rfl ?_
    refine b_gr (pc2 := 45) d_Mo_collect_42 q_11_17 (sh_130 n0) (by decide) (by decide) (p_130_9 n0) rfl ?_
    refine b_ic (pc2 := 46) (x := Int32.ofNat 1) d_Mo_collect_45 rfl rfl ?_
    refine b_ia (pc2 := 47) (q := 1) d_Mo_collect_46 (sh_132 n0) (i_in (i := 1) (by decide) (by decide)) (rfl) (rc_132) rfl ?_
    rw [u2_a _ _ (by decide), u1_ne _ _ (by decide), hp 1 (by omega), hs]
    refine b_ifd (pc2 := 90) d_Mo_collect_47 rfl rfl rfl rfl rfl (fun h47 => ?_) (fun h47 => ?_)
    · exact absurd h47 (fun z => by rw [i_le (by omega) (by omega)] at z; omega)
    refine b_aln (pc2 := 51) d_Mo_collect_50 rfl rfl ?_
    refine b_gr (pc2 := 54) d_Mo_collect_51 q_11_57 (sh_130 n0) (by decide) (by decide) (p_130_22 n0) rfl ?_
    refine b_bp (pc2 := 56) (x := Int32.ofNat 48) d_Mo_collect_54 rfl rfl ?_
    refine b_iln (pc2 := 57) d_Mo_collect_56 rfl rfl ?_
    refine b_pure (pc2 := 58) d_Mo_collect_57 rfl rfl rfl ?_
    rw [i_mul]
    refine b_aln (pc2 := 59) d_Mo_collect_58 rfl rfl ?_
    refine b_gr (pc2 := 62) d_Mo_collect_59 q_11_60 (sh_130 n0) (by decide) (by decide) (p_130_23 n0) rfl ?_
    refine b_iln (pc2 := 63) d_Mo_collect_62 rfl rfl ?_
    refine b_ia (pc2 := 64) (q := dv) d_Mo_collect_63 (sh_146 n0) (i_in (show dv < 2 by omega) (by decide)) (i_tn (by omega)) (rc_146) rfl ?_
    rw [u2_at]
    refine b_pure (pc2 := 65) d_Mo_collect_64 rfl rfl rfl ?_
    rw [i_add, show 48 * dv + (cm + j) = 48 * dv + cm + j by omega]
    refine b_aln (pc2 := 66) d_Mo_collect_65 rfl rfl ?_
    refine b_gr (pc2 := 69) d_Mo_collect_66 q_11_17 (sh_130 n0) (by decide) (by decide) (p_130_9 n0) rfl ?_
    refine b_ic (pc2 := 70) (x := Int32.ofNat 2) d_Mo_collect_69 rfl rfl ?_
    refine b_iln (pc2 := 71) d_Mo_collect_70 rfl rfl ?_
    refine b_pure (pc2 := 72) d_Mo_collect_71 rfl rfl rfl ?_
    rw [i_add]
    refine b_ia (pc2 := 73) (q := (2 + j)) d_Mo_collect_72 (sh_132 n0) (i_in (show 2 + j < 16 by omega) (by decide)) (i_tn (by omega)) (rc_132) rfl ?_
    rw [u2_a _ _ (by decide), u1_ne _ _ (by decide), hp (2 + j) (by omega)]
    refine b_ist (pc2 := 74) (q := (48 * dv + cm + j)) d_Mo_collect_73 (sh_145 n0) (i_in (show 48 * dv + cm + j < 96 by omega) (by decide)) (i_tn (by omega)) (rc_145) rfl ?_
    rw [u2_c _ _ _ (by decide), u21, ovw_sA _ _ _ _ (show 48 * dv + cm + j = 48 * dv + cm + ((p.drop 2).take j).length by rw [List.length_take, List.length_drop]; omega), show p.getD (2 + j) 0 = (p.drop 2).getD j 0 by rw [List.getD_eq_getElem?_getD, List.getD_eq_getElem?_getD, List.getElem?_drop], l_tk (show j < (p.drop 2).length by rw [List.length_drop]; omega)]
    refine b_aln (pc2 := 75) d_Mo_collect_74 rfl rfl ?_
    refine b_gr (pc2 := 78) d_Mo_collect_75 q_11_60 (sh_130 n0) (by decide) (by decide) (p_130_23 n0) rfl ?_
    refine b_iln (pc2 := 79) d_Mo_collect_78 rfl rfl ?_
    refine b_pure (pc2 := 80) d_Mo_collect_79 rfl rfl rfl ?_
    refine b_ia (pc2 := 81) (q := dv) d_Mo_collect_80 (sh_146 n0) (i_in (show dv < 2 by omega) (by decide)) (i_tn (by omega)) (rc_146) rfl ?_
    rw [u2_at]
    refine b_ic (pc2 := 82) (x := Int32.ofNat 1) d_Mo_collect_81 rfl rfl ?_
    refine b_pure (pc2 := 83) d_Mo_collect_82 rfl rfl rfl ?_
    rw [i_add]
    refine b_ist (pc2 := 84) (q := dv) d_Mo_collect_83 (sh_146 n0) (i_in (show dv < 2 by omega) (by decide)) (i_tn (by omega)) (rc_146) rfl ?_
    rw [u2_u2, show cm + j + 1 = cm + (j + 1) by omega]
    refine b_inc (pc2 := 87) (al2 := [(3, _), (0, _), (1, _), (2, _)]) (y := Int32.ofNat 1) d_Mo_collect_84 (by decide) rfl rfl rfl rfl ?_
    rw [i_add]
    refine b_go (pc2 := 40) d_Mo_collect_87 rfl ?_
    refine b_nf (al := [(3, _), (0, _), (1, _), (2, _)]) (ks := [3, 0, 1, 2]) (sub_c rfl (sub_c rfl (sub_c rfl (sub_c rfl (sub_n))))) rfl (by decide) ?_
    dsimp only
    exact ih (j + 1) (by omega)
theorem mo_col1 {d : Nat} (hd : 7 ≤ d) (hdv : dv < 2) (hbg : J 147 dv = Int32.ofNat 1) {p : List Int32} {s cm : Nat} (hp : ∀ k, k < p.length → J 132 k = p.getD k 0) (hs : p.getD 1 0 = Int32.ofNat s) (hs7 : s ≤ 7) (hpl : s + 5 = p.length) (hcm : cm ≤ 24) (hc : J 146 dv = Int32.ofNat cm) (hK : ∀ e, 6 ≤ e → bT e (S0 n0) R0 mt_Mo_collect (bR none W J1 g L) 90 [(0, .ref 130), (1, .int (Int32.ofNat dv))] [] W (am_u2 (am_u1 J 145 (ovw (48 * dv + cm) ((p.drop 2).take s) (J 145))) 146 dv (Int32.ofNat (cm + s))) g L 0 0) : bm d (S0 n0) R0 152 [.ref 130, .int (Int32.ofNat dv), .int (Int32.ofNat 1)] W J g L (bR none W J1 g L) := by
  obtain ⟨e, rfl⟩ : ∃ e, d = e + 1 := ⟨d - 1, by omega⟩
  refine bm_of (Nat.le_of_ble_eq_true rfl) (Or.inr bR_ret) ?_
  show bT e (S0 n0) R0 mt_Mo_collect _ 0 [(0, .ref 130), (1, .int (Int32.ofNat dv)), (2, .int (Int32.ofNat 1))] [] W J g L 0 0
  have hSR := SR0 n0
  refine b_iln (pc2 := 1) d_Mo_collect_0 rfl rfl ?_
  refine b_ic (pc2 := 2) (x := Int32.ofNat 2) d_Mo_collect_1 rfl rfl ?_
  refine b_ifd (pc2 := 19) d_Mo_collect_2 rfl rfl rfl rfl rfl (fun h2 => ?_) (fun h2 => ?_)
  rotate_left
  · exact absurd (by decide) h2
  refine b_aln (pc2 := 20) d_Mo_collect_19 rfl rfl ?_
  refine b_gr (pc2 := 23) d_Mo_collect_20 q_11_63 (sh_130 n0) (by decide) (by decide) (p_130_24 n0) rfl ?_
  refine b_iln (pc2 := 24) d_Mo_collect_23 rfl rfl ?_
  refine b_ba (pc2 := 25) (q := dv) d_Mo_collect_24 (sh_147 n0) (i_in (show dv < 2 by omega) (by decide)) (i_tn (by omega)) (rc_147) rfl ?_
  rw [hbg]
  refine b_ifd (pc2 := 37) d_Mo_collect_25 rfl rfl rfl rfl rfl (fun h25 => ?_) (fun h25 => ?_)
  · exact absurd h25 (by decide)
  refine b_iln (pc2 := 29) d_Mo_collect_28 rfl rfl ?_
  refine b_ifd (pc2 := 37) d_Mo_collect_29 rfl rfl rfl rfl rfl (fun h29 => ?_) (fun h29 => ?_)
  · exact absurd h29 (by decide)
  refine b_iln (pc2 := 33) d_Mo_collect_32 rfl rfl ?_
  refine b_ic (pc2 := 34) (x := Int32.ofNat 3) d_Mo_collect_33 rfl rfl ?_
  refine b_ifd (pc2 := 38) d_Mo_collect_34 rfl rfl rfl rfl rfl (fun h34 => ?_) (fun h34 => ?_)
  rotate_left
  · exact absurd (by decide) h34
  refine b_ic (pc2 := 39) (x := Int32.ofNat 0) d_Mo_collect_38 rfl rfl ?_
  refine b_isn (pc2 := 40) (al2 := [(3, _), (0, _), (1, _), (2, _)]) d_Mo_collect_39 (by decide) rfl rfl ?_
  refine b_nf (al := [(3, _), (0, _), (1, _), (2, _)]) (ks := [3, 0, 1, 2]) (sub_c rfl (sub_c rfl (sub_c rfl (sub_c rfl (sub_n))))) rfl (by decide) ?_
  dsimp only
  refine (fun z => ?_ : _ → _) (lp_co1 (n0 := n0) (W := W) (J := J) (g := g) (L := L) (e := e) (dv := dv) (p := p) (s := s) (cm := cm) (kd := 1) (Qh := bw_Q (S0 n0) R0 (bR none W J1 g L)) hdv hp hs hs7 hpl hcm (hK e (by omega)) s 0 (by omega))
  rw [List.take_zero, ovw_nil, u1_id, show cm + 0 = cm from rfl, ← hc, u2_id] at z
  exact z
theorem mo_col2 {d : Nat} (hd : 7 ≤ d) (hdv : dv < 2) {p : List Int32} {s : Nat} (hp : ∀ k, k < p.length → J 132 k = p.getD k 0) (hs : p.getD 1 0 = Int32.ofNat s) (hs7 : s ≤ 7) (hpl : s + 5 = p.length) (hK : ∀ e, 6 ≤ e → bT e (S0 n0) R0 mt_Mo_collect (bR none W J1 g L) 90 [(0, .ref 130), (1, .int (Int32.ofNat dv))] [] W (am_u2 (am_u1 (am_u2 (am_u2 J 146 dv (Int32.ofNat 0)) 147 dv (Int32.ofNat 1)) 145 (ovw (48 * dv + 0) ((p.drop 2).take s) (J 145))) 146 dv (Int32.ofNat (0 + s))) g L 0 0) : bm d (S0 n0) R0 152 [.ref 130, .int (Int32.ofNat dv), .int (Int32.ofNat 2)] W J g L (bR none W J1 g L) := by
  obtain ⟨e, rfl⟩ : ∃ e, d = e + 1 := ⟨d - 1, by omega⟩
  refine bm_of (Nat.le_of_ble_eq_true rfl) (Or.inr bR_ret) ?_
  show bT e (S0 n0) R0 mt_Mo_collect _ 0 [(0, .ref 130), (1, .int (Int32.ofNat dv)), (2, .int (Int32.ofNat 2))] [] W J g L 0 0
  have hSR := SR0 n0
  refine b_iln (pc2 := 1) d_Mo_collect_0 rfl rfl ?_
  refine b_ic (pc2 := 2) (x := Int32.ofNat 2) d_Mo_collect_1 rfl rfl ?_
  refine b_ifd (pc2 := 19) d_Mo_collect_2 rfl rfl rfl rfl rfl (fun h2 => ?_) (fun h2 => ?_)
  · exact absurd h2 (by decide)
  refine b_aln (pc2 := 6) d_Mo_collect_5 rfl rfl ?_
  refine b_gr (pc2 := 9) d_Mo_collect_6 q_11_60 (sh_130 n0) (by decide) (by decide) (p_130_23 n0) rfl ?_
  refine b_iln (pc2 := 10) d_Mo_collect_9 rfl rfl ?_
  refine b_ic (pc2 := 11) (x := Int32.ofNat 0) d_Mo_collect_10 rfl rfl ?_
  refine b_ist (pc2 := 12) (q := dv) d_Mo_collect_11 (sh_146 n0) (i_in (show dv < 2 by omega) (by decide)) (i_tn (by omega)) (rc_146) rfl ?_
  refine b_aln (pc2 := 13) d_Mo_collect_12 rfl rfl ?_
  refine b_gr (pc2 := 16) d_Mo_collect_13 q_11_63 (sh_130 n0) (by decide) (by decide) (p_130_24 n0) rfl ?_
  refine b_iln (pc2 := 17) d_Mo_collect_16 rfl rfl ?_
  refine b_ic (pc2 := 18) (x := Int32.ofNat 1) d_Mo_collect_17 rfl rfl ?_
  refine b_bst (pc2 := 19) (q := dv) d_Mo_collect_18 (sh_147 n0) (i_in (show dv < 2 by omega) (by decide)) (i_tn (by omega)) (rc_147) (Or.inr rfl) rfl ?_
  refine b_aln (pc2 := 20) d_Mo_collect_19 rfl rfl ?_
  refine b_gr (pc2 := 23) d_Mo_collect_20 q_11_63 (sh_130 n0) (by decide) (by decide) (p_130_24 n0) rfl ?_
  refine b_iln (pc2 := 24) d_Mo_collect_23 rfl rfl ?_
  refine b_ba (pc2 := 25) (q := dv) d_Mo_collect_24 (sh_147 n0) (i_in (show dv < 2 by omega) (by decide)) (i_tn (by omega)) (rc_147) rfl ?_
  rw [u2_at]
  refine b_ifd (pc2 := 37) d_Mo_collect_25 rfl rfl rfl rfl rfl (fun h25 => ?_) (fun h25 => ?_)
  · exact absurd h25 (by decide)
  refine b_iln (pc2 := 29) d_Mo_collect_28 rfl rfl ?_
  refine b_ifd (pc2 := 37) d_Mo_collect_29 rfl rfl rfl rfl rfl (fun h29 => ?_) (fun h29 => ?_)
  · exact absurd h29 (by decide)
  refine b_iln (pc2 := 33) d_Mo_collect_32 rfl rfl ?_
  refine b_ic (pc2 := 34) (x := Int32.ofNat 3) d_Mo_collect_33 rfl rfl ?_
  refine b_ifd (pc2 := 38) d_Mo_collect_34 rfl rfl rfl rfl rfl (fun h34 => ?_) (fun h34 => ?_)
  rotate_left
  · exact absurd (by decide) h34
  refine b_ic (pc2 := 39) (x := Int32.ofNat 0) d_Mo_collect_38 rfl rfl ?_
  refine b_isn (pc2 := 40) (al2 := [(3, _), (0, _), (1, _), (2, _)]) d_Mo_collect_39 (by decide) rfl rfl ?_
  refine b_nf (al := [(3, _), (0, _), (1, _), (2, _)]) (ks := [3, 0, 1, 2]) (sub_c rfl (sub_c rfl (sub_c rfl (sub_c rfl (sub_n))))) rfl (by decide) ?_
  dsimp only
  have hK2 : ∀ c, ¬ c = 146 → ¬ c = 147 → (am_u2 (am_u2 J 146 dv (Int32.ofNat 0)) 147 dv (Int32.ofNat 1)) c = J c := fun c a1 a2 => by rw [u2_a _ _ a2, u2_a _ _ a1]
  have hK3 := hK e (by omega)
  rw [← hK2 145 (by decide) (by decide)] at hK3
  refine (fun z => ?_ : _ → _) (lp_co1 (n0 := n0) (W := W) (J := (am_u2 (am_u2 J 146 dv (Int32.ofNat 0)) 147 dv (Int32.ofNat 1))) (g := g) (L := L) (e := e) (dv := dv) (p := p) (s := s) (cm := 0) (kd := 2) (Qh := bw_Q (S0 n0) R0 (bR none W J1 g L)) hdv (by rw [hK2 132 (by decide) (by decide)]; exact hp) hs hs7 hpl (by decide) hK3 s 0 (by omega))
  have q : (am_u2 (am_u2 J 146 dv (Int32.ofNat 0)) 147 dv (Int32.ofNat 1)) 146 dv = Int32.ofNat (0 + 0) := by rw [u2_a _ _ (by decide), u2_at]
  rw [List.take_zero, ovw_nil, u1_id, u2_idq q] at z
  exact z
theorem mo_hear0 {d : Nat} (hd : 8 ≤ d) (hdv : dv < 2) {p : List Int32} {s f ch : Nat} {f0 : Nat → Int32} (h5 : 5 ≤ p.length) (h12 : p.length ≤ 12) (hby : byl p) (hch : J 130 5 = Int32.ofNat ch) (hch2 : ch < 64) (hln : J 130 8 = Int32.ofNat p.length) (hxz : xz (J 132) (64 + ch) p.length = ovw 0 p f0) (hs : p.getD 1 0 = Int32.ofNat s) (hs2 : s < 256) (hg : de_ok p s = false) : bm d (S0 n0) R0 151 [.ref 130, .int (Int32.ofNat dv)] W J g L (bR (some (.int (Int32.ofNat 0))) W (am_u1 J 132 (ovw 0 p f0)) g L) := by
  obtain ⟨e, rfl⟩ : ∃ e, d = e + 1 := ⟨d - 1, by omega⟩
  refine bm_of (Nat.le_of_ble_eq_true rfl) (Or.inr bR_ret) ?_
  show bT e (S0 n0) R0 mt_Mo_hear _ 0 [(0, .ref 130), (1, .int (Int32.ofNat dv))] [] W J g L 0 0
  have hSR := SR0 n0
  obtain ⟨a, ha2, ha⟩ := byl_n hby (p.length - 3)
  obtain ⟨b, hb2, hb⟩ := byl_n hby (p.length - 3 + 1)
  obtain ⟨c, hc2, hc⟩ := byl_n hby (p.length - 3 + 2)
  have hok := de_ok_n (s := s) ha ha2 hb hb2 hc hc2
  have hcl := crL_lt (p.take (p.length - 3)) 5592405 (by decide)
  refine b_aln (pc2 := 1) d_Mo_hear_0 rfl rfl ?_
  refine b_cv0 (pc2 := 4) (c2 := 0) (u2 := 0) (mo_whiten (c := ch) (n := p.length) (by omega) hch hch2 hln (by omega)) d_Mo_hear_1 q_11_166 (Nat.le_of_ble_eq_true rfl) rfl rfl (sh_130 n0) (Nat.le_of_ble_eq_true rfl) rfl rfl (by decide) (by decide) rfl ?_
  rw [hxz]
  refine b_aln (pc2 := 5) d_Mo_hear_4 rfl rfl ?_
  refine b_gr (pc2 := 8) d_Mo_hear_5 q_11_17 (sh_130 n0) (by decide) (by decide) (p_130_9 n0) rfl ?_
  refine b_ic (pc2 := 9) (x := Int32.ofNat 1) d_Mo_hear_8 rfl rfl ?_
  refine b_ia (pc2 := 10) (q := 1) d_Mo_hear_9 (sh_132 n0) (i_in (i := 1) (by decide) (by decide)) (rfl) (rc_132) rfl ?_
  rw [u1_at, ovw_0 (by omega), hs]
  refine b_bp (pc2 := 12) (x := Int32.ofNat 7) d_Mo_hear_10 rfl rfl ?_
  refine b_ifd (pc2 := 30) d_Mo_hear_12 rfl rfl rfl rfl rfl (fun h12 => ?_) (fun h12 => ?_)
  · rw [i_lt (by omega) (by omega)] at h12
    refine b_ic (pc2 := 31) (x := Int32.ofNat 0) d_Mo_hear_30 rfl rfl ?_
    refine b_br d_Mo_hear_31 rfl (by decide) ?_
    exact ⟨rfl, rfl, rfl, rfl, rfl⟩
  · rw [i_lt (by omega) (by omega)] at h12
    refine b_aln (pc2 := 16) d_Mo_hear_15 rfl rfl ?_
    refine b_gr (pc2 := 19) d_Mo_hear_16 q_11_17 (sh_130 n0) (by decide) (by decide) (p_130_9 n0) rfl ?_
    refine b_ic (pc2 := 20) (x := Int32.ofNat 1) d_Mo_hear_19 rfl rfl ?_
    refine b_ia (pc2 := 21) (q := 1) d_Mo_hear_20 (sh_132 n0) (i_in (i := 1) (by decide) (by decide)) (rfl) (rc_132) rfl ?_
    rw [u1_at, ovw_0 (by omega), hs]
    refine b_ic (pc2 := 22) (x := Int32.ofNat 5) d_Mo_hear_21 rfl rfl ?_
    refine b_pure (pc2 := 23) d_Mo_hear_22 rfl rfl rfl ?_
    rw [i_add]
    refine b_aln (pc2 := 24) d_Mo_hear_23 rfl rfl ?_
    refine b_gi (pc2 := 27) d_Mo_hear_24 q_11_156 (sh_130 n0) (by decide) (by decide) (rc_130) rfl ?_
    rw [u1_ne _ _ (by decide), hln]
    refine b_ifd (pc2 := 32) d_Mo_hear_27 rfl rfl rfl rfl rfl (fun h27 => ?_) (fun h27 => ?_)
    · rw [i_eq (by omega) (by omega)] at h27
      refine b_aln (pc2 := 33) d_Mo_hear_32 rfl rfl ?_
      refine b_gi (pc2 := 36) d_Mo_hear_33 q_11_156 (sh_130 n0) (by decide) (by decide) (rc_130) rfl ?_
      rw [u1_ne _ _ (by decide), hln]
      refine b_ic (pc2 := 37) (x := Int32.ofNat 3) d_Mo_hear_36 rfl rfl ?_
      refine b_pure (pc2 := 38) d_Mo_hear_37 rfl rfl rfl ?_
      rw [i_sub (by omega)]
      refine b_isn (pc2 := 39) (al2 := [(2, _), (0, _), (1, _)]) d_Mo_hear_38 (by decide) rfl rfl ?_
      refine b_aln (pc2 := 40) d_Mo_hear_39 rfl rfl ?_
      refine b_iln (pc2 := 41) d_Mo_hear_40 rfl rfl ?_
      refine b_cv1 (pc2 := 44) (c2 := 0) (u2 := 0) (mo_check (n := p.length - 3) (by omega) (by omega)) d_Mo_hear_41 q_11_162 (Nat.le_of_ble_eq_true rfl) rfl rfl (sh_130 n0) (Nat.le_of_ble_eq_true rfl) rfl rfl (by decide) (by decide) rfl ?_
      rw [u1_at, lst_ovw0 _ _ (by omega)]
      refine b_aln (pc2 := 45) d_Mo_hear_44 rfl rfl ?_
      refine b_gr (pc2 := 48) d_Mo_hear_45 q_11_17 (sh_130 n0) (by decide) (by decide) (p_130_9 n0) rfl ?_
      refine b_iln (pc2 := 49) d_Mo_hear_48 rfl rfl ?_
      refine b_ia (pc2 := 50) (q := (p.length - 3)) d_Mo_hear_49 (sh_132 n0) (i_in (show p.length - 3 < 16 by omega) (by decide)) (i_tn (by omega)) (rc_132) rfl ?_
      rw [u1_at, ovw_0 (by omega), ha]
      refine b_ldc (pc2 := 52) d_Mo_hear_50 rfl rfl ?_
      rw [show (65536 : Int32) = Int32.ofNat 65536 from rfl]
      refine b_pure (pc2 := 53) d_Mo_hear_52 rfl rfl rfl ?_
      rw [i_mul]
      refine b_aln (pc2 := 54) d_Mo_hear_53 rfl rfl ?_
      refine b_gr (pc2 := 57) d_Mo_hear_54 q_11_17 (sh_130 n0) (by decide) (by decide) (p_130_9 n0) rfl ?_
      refine b_iln (pc2 := 58) d_Mo_hear_57 rfl rfl ?_
      refine b_ic (pc2 := 59) (x := Int32.ofNat 1) d_Mo_hear_58 rfl rfl ?_
      refine b_pure (pc2 := 60) d_Mo_hear_59 rfl rfl rfl ?_
      rw [i_add]
      refine b_ia (pc2 := 61) (q := (p.length - 3 + 1)) d_Mo_hear_60 (sh_132 n0) (i_in (show p.length - 3 + 1 < 16 by omega) (by decide)) (i_tn (by omega)) (rc_132) rfl ?_
      rw [u1_at, ovw_0 (by omega), hb]
      refine b_sp (pc2 := 64) (x := Int32.ofNat 256) d_Mo_hear_61 rfl rfl ?_
      refine b_pure (pc2 := 65) d_Mo_hear_64 rfl rfl rfl ?_
      rw [i_mul]
      refine b_pure (pc2 := 66) d_Mo_hear_65 rfl rfl rfl ?_
      rw [i_add]
      refine b_aln (pc2 := 67) d_Mo_hear_66 rfl rfl ?_
      refine b_gr (pc2 := 70) d_Mo_hear_67 q_11_17 (sh_130 n0) (by decide) (by decide) (p_130_9 n0) rfl ?_
      refine b_iln (pc2 := 71) d_Mo_hear_70 rfl rfl ?_
      refine b_ic (pc2 := 72) (x := Int32.ofNat 2) d_Mo_hear_71 rfl rfl ?_
      refine b_pure (pc2 := 73) d_Mo_hear_72 rfl rfl rfl ?_
      rw [i_add]
      refine b_ia (pc2 := 74) (q := (p.length - 3 + 2)) d_Mo_hear_73 (sh_132 n0) (i_in (show p.length - 3 + 2 < 16 by omega) (by decide)) (i_tn (by omega)) (rc_132) rfl ?_
      rw [u1_at, ovw_0 (by omega), hc]
      refine b_pure (pc2 := 75) d_Mo_hear_74 rfl rfl rfl ?_
      rw [i_add]
      refine b_ifd (pc2 := 80) d_Mo_hear_75 rfl rfl rfl rfl rfl (fun h75 => ?_) (fun h75 => ?_)
      · rw [i_eq (by omega) (by omega)] at h75
        rw [hok.mpr ⟨by omega, by omega, by omega⟩] at hg
        cases hg
      · rw [i_eq (by omega) (by omega)] at h75
        refine b_ic (pc2 := 79) (x := Int32.ofNat 0) d_Mo_hear_78 rfl rfl ?_
        refine b_br d_Mo_hear_79 rfl (by decide) ?_
        exact ⟨rfl, rfl, rfl, rfl, rfl⟩
    · rw [i_eq (by omega) (by omega)] at h27
      refine b_ic (pc2 := 31) (x := Int32.ofNat 0) d_Mo_hear_30 rfl rfl ?_
      refine b_br d_Mo_hear_31 rfl (by decide) ?_
      exact ⟨rfl, rfl, rfl, rfl, rfl⟩
theorem hear129 {e : Nat} (he : 7 ≤ e) (hdv : dv < 2) {p : List Int32} {s f : Nat} {f0 : Nat → Int32} (h5 : 5 ≤ p.length) (hpk : J 132 = ovw 0 p f0) (hs : p.getD 1 0 = Int32.ofNat s) (hs2 : s < 256) (hf : p.getD 0 0 = Int32.ofNat f) (hf2 : f < 256) {nx : Nat} (hnx : J 134 dv = Int32.ofNat nx) (hnx2 : nx ≤ 1) (h1 : f / 8 % 2 = nx → 0 < s → ∀ e, 7 ≤ e → bm e (S0 n0) R0 152 [.ref 130, .int (Int32.ofNat dv), .int (Int32.ofNat (f % 4))] W (am_u2 J 134 dv (Int32.ofNat (1 - nx))) g L (bR none W J1 g L)) (h2 : f / 8 % 2 = nx → s = 0 → J1 = am_u2 J 134 dv (Int32.ofNat (1 - nx))) (h3 : ¬ f / 8 % 2 = nx → J1 = J) : bT e (S0 n0) R0 mt_Mo_hear (bR (some (.int (Int32.ofNat 1))) W J1 g L) 129 [(0, .ref 130), (1, .int (Int32.ofNat dv)), (3, .int (Int32.ofNat (f % 4)))] [] W J g L 0 0 := by
  refine b_aln (pc2 := 130) d_Mo_hear_129 rfl rfl ?_
  refine b_gr (pc2 := 133) d_Mo_hear_130 q_11_17 (sh_130 n0) (by decide) (by decide) (p_130_9 n0) rfl ?_
  refine b_ic (pc2 := 134) (x := Int32.ofNat 0) d_Mo_hear_133 rfl rfl ?_
  refine b_ia (pc2 := 135) (q := 0) d_Mo_hear_134 (sh_132 n0) (i_in (i := 0) (by decide) (by decide)) (rfl) (rc_132) rfl ?_
  rw [hpk, ovw_0 (by omega), hf]
  refine b_ic (pc2 := 136) (x := Int32.ofNat 3) d_Mo_hear_135 rfl rfl ?_
  refine b_pure (pc2 := 137) d_Mo_hear_136 rfl rfl rfl ?_
  rw [i_shr (by omega) (by decide)]
  refine b_ic (pc2 := 138) (x := Int32.ofNat 1) d_Mo_hear_137 rfl rfl ?_
  refine b_pure (pc2 := 139) d_Mo_hear_138 rfl rfl rfl ?_
  rw [c1]
  refine b_aln (pc2 := 140) d_Mo_hear_139 rfl rfl ?_
  refine b_gr (pc2 := 143) d_Mo_hear_140 q_11_24 (sh_130 n0) (by decide) (by decide) (p_130_11 n0) rfl ?_
  refine b_iln (pc2 := 144) d_Mo_hear_143 rfl rfl ?_
  refine b_ia (pc2 := 145) (q := dv) d_Mo_hear_144 (sh_134 n0) (i_in (show dv < 2 by omega) (by decide)) (i_tn (by omega)) (rc_134) rfl ?_
  rw [hnx]
  refine b_ifd (pc2 := 150) d_Mo_hear_145 rfl rfl rfl rfl rfl (fun h145 => ?_) (fun h145 => ?_)
  · rw [i_eq (by omega) (by omega)] at h145
    refine b_aln (pc2 := 151) d_Mo_hear_150 rfl rfl ?_
    refine b_gr (pc2 := 154) d_Mo_hear_151 q_11_24 (sh_130 n0) (by decide) (by decide) (p_130_11 n0) rfl ?_
    refine b_iln (pc2 := 155) d_Mo_hear_154 rfl rfl ?_
    refine b_ic (pc2 := 156) (x := Int32.ofNat 1) d_Mo_hear_155 rfl rfl ?_
    refine b_aln (pc2 := 157) d_Mo_hear_156 rfl rfl ?_
    refine b_gr (pc2 := 160) d_Mo_hear_157 q_11_24 (sh_130 n0) (by decide) (by decide) (p_130_11 n0) rfl ?_
    refine b_iln (pc2 := 161) d_Mo_hear_160 rfl rfl ?_
    refine b_ia (pc2 := 162) (q := dv) d_Mo_hear_161 (sh_134 n0) (i_in (show dv < 2 by omega) (by decide)) (i_tn (by omega)) (rc_134) rfl ?_
    rw [hnx]
    refine b_pure (pc2 := 163) d_Mo_hear_162 rfl rfl rfl ?_
    rw [i_sub (by omega)]
    refine b_ist (pc2 := 164) (q := dv) d_Mo_hear_163 (sh_134 n0) (i_in (show dv < 2 by omega) (by decide)) (i_tn (by omega)) (rc_134) rfl ?_
    refine b_aln (pc2 := 165) d_Mo_hear_164 rfl rfl ?_
    refine b_gr (pc2 := 168) d_Mo_hear_165 q_11_17 (sh_130 n0) (by decide) (by decide) (p_130_9 n0) rfl ?_
    refine b_ic (pc2 := 169) (x := Int32.ofNat 1) d_Mo_hear_168 rfl rfl ?_
    refine b_ia (pc2 := 170) (q := 1) d_Mo_hear_169 (sh_132 n0) (i_in (i := 1) (by decide) (by decide)) (rfl) (rc_132) rfl ?_
    rw [u2_a _ _ (by decide), hpk, ovw_0 (by omega), hs]
    refine b_ifd (pc2 := 179) d_Mo_hear_170 rfl rfl rfl rfl rfl (fun h170 => ?_) (fun h170 => ?_)
    · rw [z_le (by omega)] at h170
      rw [h2 (by omega) (by omega)]
      refine b_ic (pc2 := 180) (x := Int32.ofNat 1) d_Mo_hear_179 rfl rfl ?_
      refine b_br d_Mo_hear_180 rfl (by decide) ?_
      exact ⟨rfl, rfl, rfl, rfl, rfl⟩
    · rw [z_le (by omega)] at h170
      refine b_aln (pc2 := 174) d_Mo_hear_173 rfl rfl ?_
      refine b_iln (pc2 := 175) d_Mo_hear_174 rfl rfl ?_
      refine b_iln (pc2 := 176) d_Mo_hear_175 rfl rfl ?_
      refine b_cv0 (pc2 := 179) (c2 := 0) (u2 := 0) (h1 (by omega) (by omega) e (by omega)) d_Mo_hear_176 q_11_170 (Nat.le_of_ble_eq_true rfl) rfl rfl (sh_130 n0) (Nat.le_of_ble_eq_true rfl) rfl rfl (by decide) (by decide) rfl ?_
      refine b_ic (pc2 := 180) (x := Int32.ofNat 1) d_Mo_hear_179 rfl rfl ?_
      refine b_br d_Mo_hear_180 rfl (by decide) ?_
      exact ⟨rfl, rfl, rfl, rfl, rfl⟩
  · rw [i_eq (by omega) (by omega)] at h145
    rw [h3 (by omega)]
    refine b_ic (pc2 := 149) (x := Int32.ofNat 1) d_Mo_hear_148 rfl rfl ?_
    refine b_br d_Mo_hear_149 rfl (by decide) ?_
    exact ⟨rfl, rfl, rfl, rfl, rfl⟩
theorem mo_hear1 {d : Nat} (hd : 8 ≤ d) (hdv : dv < 2) {p : List Int32} {s f ch : Nat} {f0 : Nat → Int32} (h5 : 5 ≤ p.length) (h12 : p.length ≤ 12) (hby : byl p) (hch : J 130 5 = Int32.ofNat ch) (hch2 : ch < 64) (hln : J 130 8 = Int32.ofNat p.length) (hxz : xz (J 132) (64 + ch) p.length = ovw 0 p f0) (hs : p.getD 1 0 = Int32.ofNat s) (hs2 : s < 256) (hg : de_ok p s = true) (hf : p.getD 0 0 = Int32.ofNat f) (hf2 : f < 256) {nx : Nat} {tu : Nat} (hnx : J 134 dv = Int32.ofNat nx) (hnx2 : nx ≤ 1) (htu : J 133 dv = Int32.ofNat tu) (htu2 : tu ≤ 1) {J0 : bw_J} (hJ : J0 = if f / 4 % 2 = tu then (am_u1 J 132 (ovw 0 p f0)) else am_u2 (am_u2 (am_u1 J 132 (ovw 0 p f0)) 133 dv (Int32.ofNat (1 - tu))) 136 dv (Int32.ofNat 0)) (h1 : f / 8 % 2 = nx → 0 < s → ∀ e, 7 ≤ e → bm e (S0 n0) R0 152 [.ref 130, .int (Int32.ofNat dv), .int (Int32.ofNat (f % 4))] W (am_u2 J0 134 dv (Int32.ofNat (1 - nx))) g L (bR none W J1 g L)) (h2 : f / 8 % 2 = nx → s = 0 → J1 = am_u2 J0 134 dv (Int32.ofNat (1 - nx))) (h3 : ¬ f / 8 % 2 = nx → J1 = J0)  : bm d (S0 n0) R0 151 [.ref 130, .int (Int32.ofNat dv)] W J g L (bR (some (.int (Int32.ofNat 1))) W J1 g L) := by
  obtain ⟨e, rfl⟩ : ∃ e, d = e + 1 := ⟨d - 1, by omega⟩
  refine bm_of (Nat.le_of_ble_eq_true rfl) (Or.inr bR_ret) ?_
  show bT e (S0 n0) R0 mt_Mo_hear _ 0 [(0, .ref 130), (1, .int (Int32.ofNat dv))] [] W J g L 0 0
  have hSR := SR0 n0
  obtain ⟨a, ha2, ha⟩ := byl_n hby (p.length - 3)
  obtain ⟨b, hb2, hb⟩ := byl_n hby (p.length - 3 + 1)
  obtain ⟨c, hc2, hc⟩ := byl_n hby (p.length - 3 + 2)
  have hok := de_ok_n (s := s) ha ha2 hb hb2 hc hc2
  have hcl := crL_lt (p.take (p.length - 3)) 5592405 (by decide)
  refine b_aln (pc2 := 1) d_Mo_hear_0 rfl rfl ?_
  refine b_cv0 (pc2 := 4) (c2 := 0) (u2 := 0) (mo_whiten (c := ch) (n := p.length) (by omega) hch hch2 hln (by omega)) d_Mo_hear_1 q_11_166 (Nat.le_of_ble_eq_true rfl) rfl rfl (sh_130 n0) (Nat.le_of_ble_eq_true rfl) rfl rfl (by decide) (by decide) rfl ?_
  rw [hxz]
  refine b_aln (pc2 := 5) d_Mo_hear_4 rfl rfl ?_
  refine b_gr (pc2 := 8) d_Mo_hear_5 q_11_17 (sh_130 n0) (by decide) (by decide) (p_130_9 n0) rfl ?_
  refine b_ic (pc2 := 9) (x := Int32.ofNat 1) d_Mo_hear_8 rfl rfl ?_
  refine b_ia (pc2 := 10) (q := 1) d_Mo_hear_9 (sh_132 n0) (i_in (i := 1) (by decide) (by decide)) (rfl) (rc_132) rfl ?_
  rw [u1_at, ovw_0 (by omega), hs]
  refine b_bp (pc2 := 12) (x := Int32.ofNat 7) d_Mo_hear_10 rfl rfl ?_
  obtain ⟨g1, g2, g3⟩ := hok.mp hg
  refine b_ifd (pc2 := 30) d_Mo_hear_12 rfl rfl rfl rfl rfl (fun h12 => ?_) (fun h12 => ?_)
  · exact absurd h12 (fun z => by rw [i_lt (by omega) (by omega)] at z; omega)
  refine b_aln (pc2 := 16) d_Mo_hear_15 rfl rfl ?_
  refine b_gr (pc2 := 19) d_Mo_hear_16 q_11_17 (sh_130 n0) (by decide) (by decide) (p_130_9 n0) rfl ?_
  refine b_ic (pc2 := 20) (x := Int32.ofNat 1) d_Mo_hear_19 rfl rfl ?_
  refine b_ia (pc2 := 21) (q := 1) d_Mo_hear_20 (sh_132 n0) (i_in (i := 1) (by decide) (by decide)) (rfl) (rc_132) rfl ?_
  rw [u1_at, ovw_0 (by omega), hs]
  refine b_ic (pc2 := 22) (x := Int32.ofNat 5) d_Mo_hear_21 rfl rfl ?_
  refine b_pure (pc2 := 23) d_Mo_hear_22 rfl rfl rfl ?_
  rw [i_add]
  refine b_aln (pc2 := 24) d_Mo_hear_23 rfl rfl ?_
  refine b_gi (pc2 := 27) d_Mo_hear_24 q_11_156 (sh_130 n0) (by decide) (by decide) (rc_130) rfl ?_
  rw [u1_ne _ _ (by decide), hln]
  refine b_ifd (pc2 := 32) d_Mo_hear_27 rfl rfl rfl rfl rfl (fun h27 => ?_) (fun h27 => ?_)
  rotate_left
  · exact absurd (by rw [i_eq (by omega) (by omega)]; omega) h27
  refine b_aln (pc2 := 33) d_Mo_hear_32 rfl rfl ?_
  refine b_gi (pc2 := 36) d_Mo_hear_33 q_11_156 (sh_130 n0) (by decide) (by decide) (rc_130) rfl ?_
  rw [u1_ne _ _ (by decide), hln]
  refine b_ic (pc2 := 37) (x := Int32.ofNat 3) d_Mo_hear_36 rfl rfl ?_
  refine b_pure (pc2 := 38) d_Mo_hear_37 rfl rfl rfl ?_
  rw [i_sub (by omega)]
  refine b_isn (pc2 := 39) (al2 := [(2, _), (0, _), (1, _)]) d_Mo_hear_38 (by decide) rfl rfl ?_
  refine b_aln (pc2 := 40) d_Mo_hear_39 rfl rfl ?_
  refine b_iln (pc2 := 41) d_Mo_hear_40 rfl rfl ?_
  refine b_cv1 (pc2 := 44) (c2 := 0) (u2 := 0) (mo_check (n := p.length - 3) (by omega) (by omega)) d_Mo_hear_41 q_11_162 (Nat.le_of_ble_eq_true rfl) rfl rfl (sh_130 n0) (Nat.le_of_ble_eq_true rfl) rfl rfl (by decide) (by decide) rfl ?_
  rw [u1_at, lst_ovw0 _ _ (by omega)]
  refine b_aln (pc2 := 45) d_Mo_hear_44 rfl rfl ?_
  refine b_gr (pc2 := 48) d_Mo_hear_45 q_11_17 (sh_130 n0) (by decide) (by decide) (p_130_9 n0) rfl ?_
  refine b_iln (pc2 := 49) d_Mo_hear_48 rfl rfl ?_
  refine b_ia (pc2 := 50) (q := (p.length - 3)) d_Mo_hear_49 (sh_132 n0) (i_in (show p.length - 3 < 16 by omega) (by decide)) (i_tn (by omega)) (rc_132) rfl ?_
  rw [u1_at, ovw_0 (by omega), ha]
  refine b_ldc (pc2 := 52) d_Mo_hear_50 rfl rfl ?_
  rw [show (65536 : Int32) = Int32.ofNat 65536 from rfl]
  refine b_pure (pc2 := 53) d_Mo_hear_52 rfl rfl rfl ?_
  rw [i_mul]
  refine b_aln (pc2 := 54) d_Mo_hear_53 rfl rfl ?_
  refine b_gr (pc2 := 57) d_Mo_hear_54 q_11_17 (sh_130 n0) (by decide) (by decide) (p_130_9 n0) rfl ?_
  refine b_iln (pc2 := 58) d_Mo_hear_57 rfl rfl ?_
  refine b_ic (pc2 := 59) (x := Int32.ofNat 1) d_Mo_hear_58 rfl rfl ?_
  refine b_pure (pc2 := 60) d_Mo_hear_59 rfl rfl rfl ?_
  rw [i_add]
  refine b_ia (pc2 := 61) (q := (p.length - 3 + 1)) d_Mo_hear_60 (sh_132 n0) (i_in (show p.length - 3 + 1 < 16 by omega) (by decide)) (i_tn (by omega)) (rc_132) rfl ?_
  rw [u1_at, ovw_0 (by omega), hb]
  refine b_sp (pc2 := 64) (x := Int32.ofNat 256) d_Mo_hear_61 rfl rfl ?_
  refine b_pure (pc2 := 65) d_Mo_hear_64 rfl rfl rfl ?_
  rw [i_mul]
  refine b_pure (pc2 := 66) d_Mo_hear_65 rfl rfl rfl ?_
  rw [i_add]
  refine b_aln (pc2 := 67) d_Mo_hear_66 rfl rfl ?_
  refine b_gr (pc2 := 70) d_Mo_hear_67 q_11_17 (sh_130 n0) (by decide) (by decide) (p_130_9 n0) rfl ?_
  refine b_iln (pc2 := 71) d_Mo_hear_70 rfl rfl ?_
  refine b_ic (pc2 := 72) (x := Int32.ofNat 2) d_Mo_hear_71 rfl rfl ?_
  refine b_pure (pc2 := 73) d_Mo_hear_72 rfl rfl rfl ?_
  rw [i_add]
  refine b_ia (pc2 := 74) (q := (p.length - 3 + 2)) d_Mo_hear_73 (sh_132 n0) (i_in (show p.length - 3 + 2 < 16 by omega) (by decide)) (i_tn (by omega)) (rc_132) rfl ?_
  rw [u1_at, ovw_0 (by omega), hc]
  refine b_pure (pc2 := 75) d_Mo_hear_74 rfl rfl rfl ?_
  rw [i_add]
  refine b_ifd (pc2 := 80) d_Mo_hear_75 rfl rfl rfl rfl rfl (fun h75 => ?_) (fun h75 => ?_)
  rotate_left
  · exact absurd (by rw [i_eq (by omega) (by omega)]; omega) h75
  refine b_aln (pc2 := 81) d_Mo_hear_80 rfl rfl ?_
  refine b_gr (pc2 := 84) d_Mo_hear_81 q_11_17 (sh_130 n0) (by decide) (by decide) (p_130_9 n0) rfl ?_
  refine b_ic (pc2 := 85) (x := Int32.ofNat 0) d_Mo_hear_84 rfl rfl ?_
  refine b_ia (pc2 := 86) (q := 0) d_Mo_hear_85 (sh_132 n0) (i_in (i := 0) (by decide) (by decide)) (rfl) (rc_132) rfl ?_
  rw [u1_at, ovw_0 (by omega), hf]
  refine b_ic (pc2 := 87) (x := Int32.ofNat 3) d_Mo_hear_86 rfl rfl ?_
  refine b_pure (pc2 := 88) d_Mo_hear_87 rfl rfl rfl ?_
  rw [c3]
  refine b_isn (pc2 := 89) (al2 := [(3, _), (2, _), (0, _), (1, _)]) d_Mo_hear_88 (by decide) rfl rfl ?_
  refine b_aln (pc2 := 90) d_Mo_hear_89 rfl rfl ?_
  refine b_gr (pc2 := 93) d_Mo_hear_90 q_11_17 (sh_130 n0) (by decide) (by decide) (p_130_9 n0) rfl ?_
  refine b_ic (pc2 := 94) (x := Int32.ofNat 0) d_Mo_hear_93 rfl rfl ?_
  refine b_ia (pc2 := 95) (q := 0) d_Mo_hear_94 (sh_132 n0) (i_in (i := 0) (by decide) (by decide)) (rfl) (rc_132) rfl ?_
  rw [u1_at, ovw_0 (by omega), hf]
  refine b_ic (pc2 := 96) (x := Int32.ofNat 2) d_Mo_hear_95 rfl rfl ?_
  refine b_pure (pc2 := 97) d_Mo_hear_96 rfl rfl rfl ?_
  rw [i_shr (by omega) (by decide)]
  refine b_ic (pc2 := 98) (x := Int32.ofNat 1) d_Mo_hear_97 rfl rfl ?_
  refine b_pure (pc2 := 99) d_Mo_hear_98 rfl rfl rfl ?_
  rw [c1]
  refine b_aln (pc2 := 100) d_Mo_hear_99 rfl rfl ?_
  refine b_gr (pc2 := 103) d_Mo_hear_100 q_11_21 (sh_130 n0) (by decide) (by decide) (p_130_10 n0) rfl ?_
  refine b_iln (pc2 := 104) d_Mo_hear_103 rfl rfl ?_
  refine b_ia (pc2 := 105) (q := dv) d_Mo_hear_104 (sh_133 n0) (i_in (show dv < 2 by omega) (by decide)) (i_tn (by omega)) (rc_133) rfl ?_
  rw [u1_ne _ _ (by decide), htu]
  refine b_ifd (pc2 := 129) d_Mo_hear_105 rfl rfl rfl rfl rfl (fun h105 => ?_) (fun h105 => ?_)
  · rw [i_eq (by omega) (by omega)] at h105
    refine b_nf (al := [(0, _), (1, _), (3, _)]) (ks := [0, 1, 3]) (sub_c rfl (sub_c rfl (sub_c rfl (sub_n)))) rfl (by decide) ?_
    dsimp only
    rw [if_pos (by omega)] at hJ
    subst hJ
    exact hear129 (by omega) hdv h5 (u1_at _ _ _) hs hs2 hf hf2 (by rw [u1_ne _ _ (by decide)]; exact hnx) hnx2 h1 h2 h3
  · rw [i_eq (by omega) (by omega)] at h105
    refine b_aln (pc2 := 109) d_Mo_hear_108 rfl rfl ?_
    refine b_gr (pc2 := 112) d_Mo_hear_109 q_11_21 (sh_130 n0) (by decide) (by decide) (p_130_10 n0) rfl ?_
    refine b_iln (pc2 := 113) d_Mo_hear_112 rfl rfl ?_
    refine b_ic (pc2 := 114) (x := Int32.ofNat 1) d_Mo_hear_113 rfl rfl ?_
    refine b_aln (pc2 := 115) d_Mo_hear_114 rfl rfl ?_
    refine b_gr (pc2 := 118) d_Mo_hear_115 q_11_21 (sh_130 n0) (by decide) (by decide) (p_130_10 n0) rfl ?_
    refine b_iln (pc2 := 119) d_Mo_hear_118 rfl rfl ?_
    refine b_ia (pc2 := 120) (q := dv) d_Mo_hear_119 (sh_133 n0) (i_in (show dv < 2 by omega) (by decide)) (i_tn (by omega)) (rc_133) rfl ?_
    rw [u1_ne _ _ (by decide), htu]
    refine b_pure (pc2 := 121) d_Mo_hear_120 rfl rfl rfl ?_
    rw [i_sub (by omega)]
    refine b_ist (pc2 := 122) (q := dv) d_Mo_hear_121 (sh_133 n0) (i_in (show dv < 2 by omega) (by decide)) (i_tn (by omega)) (rc_133) rfl ?_
    refine b_aln (pc2 := 123) d_Mo_hear_122 rfl rfl ?_
    refine b_gr (pc2 := 126) d_Mo_hear_123 q_11_30 (sh_130 n0) (by decide) (by decide) (p_130_13 n0) rfl ?_
    refine b_iln (pc2 := 127) d_Mo_hear_126 rfl rfl ?_
    refine b_ic (pc2 := 128) (x := Int32.ofNat 0) d_Mo_hear_127 rfl rfl ?_
    refine b_bst (pc2 := 129) (q := dv) d_Mo_hear_128 (sh_136 n0) (i_in (show dv < 2 by omega) (by decide)) (i_tn (by omega)) (rc_136) (Or.inl rfl) rfl ?_
    refine b_nf (al := [(0, _), (1, _), (3, _)]) (ks := [0, 1, 3]) (sub_c rfl (sub_c rfl (sub_c rfl (sub_n)))) rfl (by decide) ?_
    dsimp only
    rw [if_neg (by omega)] at hJ
    subst hJ
    exact hear129 (by omega) hdv h5 (by rw [u2_a _ _ (by decide), u2_a _ _ (by decide), u1_at]) hs hs2 hf hf2 (by rw [u2_a _ _ (by decide), u2_a _ _ (by decide), u1_ne _ _ (by decide)]; exact hnx) hnx2 h1 h2 h3
theorem lp_car {e : Nat} (he : 1 ≤ e) {lo n : Nat} {v : Int64} (hn : J 130 8 = Int32.ofNat n) (hn16 : n ≤ 16) (K : bH e (S0 n0) R0 mt_Mo_carry Qh 54 [(0, .ref 130), (1, .int (Int32.ofNat dv)), (2, .int (Int32.ofNat lo))] [] W (am_u1 J 132 (sx v (min 8 n) (J 132))) g L 0 0) : ∀ (r k : Nat), k + r = min 8 n → bH e (S0 n0) R0 mt_Mo_carry Qh 8 [(5, .int (Int32.ofNat k)), (0, .ref 130), (1, .int (Int32.ofNat dv)), (2, .int (Int32.ofNat lo)), (3, .long v)] [] W (am_u1 J 132 (sx v k (J 132))) g L 0 0 := by
  intro r
  induction r with
  | zero =>
    intro k hk
    refine b_il (pc2 := 10) d_Mo_carry_8 rfl rfl ?_
    refine b_bp (pc2 := 12) (x := Int32.ofNat 8) d_Mo_carry_10 rfl rfl ?_
    refine b_ifd (pc2 := 54) d_Mo_carry_12 rfl rfl rfl rfl rfl (fun h12 => ?_) (fun h12 => ?_)
    · rw [i_le (by omega) (by omega)] at h12
      refine b_nf (al := [(0, _), (1, _), (2, _)]) (ks := [0, 1, 2]) (sub_c rfl (sub_c rfl (sub_c rfl (sub_n)))) rfl (by decide) ?_
      dsimp only
      rw [show k = min 8 n by omega]
      exact K
    · rw [i_le (by omega) (by omega)] at h12
      refine b_il (pc2 := 17) d_Mo_carry_15 rfl rfl ?_
      refine b_aln (pc2 := 18) d_Mo_carry_17 rfl rfl ?_
      refine b_gi (pc2 := 21) d_Mo_carry_18 q_11_156 (sh_130 n0) (by decide) (by decide) (rc_130) rfl ?_
      rw [u1_ne _ _ (by decide), hn]
      refine b_ifd (pc2 := 54) d_Mo_carry_21 rfl rfl rfl rfl rfl (fun h21 => ?_) (fun h21 => ?_)
      · rw [i_le (by omega) (by omega)] at h21
        refine b_nf (al := [(0, _), (1, _), (2, _)]) (ks := [0, 1, 2]) (sub_c rfl (sub_c rfl (sub_c rfl (sub_n)))) rfl (by decide) ?_
        dsimp only
        rw [show k = min 8 n by omega]
        exact K
      · rw [i_le (by omega) (by omega)] at h21
        omega
  | succ r ih =>
    intro k hk
    refine b_il (pc2 := 10) d_Mo_carry_8 rfl rfl ?_
    refine b_bp (pc2 := 12) (x := Int32.ofNat 8) d_Mo_carry_10 rfl rfl ?_
    refine b_ifd (pc2 := 54) d_Mo_carry_12 rfl rfl rfl rfl rfl (fun h12 => ?_) (fun h12 => ?_)
    · exact absurd h12 (fun z => by rw [i_le (by omega) (by omega)] at z; omega)
    refine b_il (pc2 := 17) d_Mo_carry_15 rfl rfl ?_
    refine b_aln (pc2 := 18) d_Mo_carry_17 rfl rfl ?_
    refine b_gi (pc2 := 21) d_Mo_carry_18 q_11_156 (sh_130 n0) (by decide) (by decide) (rc_130) rfl ?_
    rw [u1_ne _ _ (by decide), hn]
    refine b_ifd (pc2 := 54) d_Mo_carry_21 rfl rfl rfl rfl rfl (fun h21 => ?_) (fun h21 => ?_)
    · exact absurd h21 (fun z => by rw [i_le (by omega) (by omega)] at z; omega)
    refine b_aln (pc2 := 25) d_Mo_carry_24 rfl rfl ?_
    refine b_gr (pc2 := 28) d_Mo_carry_25 q_11_17 (sh_130 n0) (by decide) (by decide) (p_130_9 n0) rfl ?_
    refine b_il (pc2 := 30) d_Mo_carry_28 rfl rfl ?_
    refine b_aln (pc2 := 31) d_Mo_carry_30 rfl rfl ?_
    refine b_gr (pc2 := 34) d_Mo_carry_31 q_11_17 (sh_130 n0) (by decide) (by decide) (p_130_9 n0) rfl ?_
    refine b_il (pc2 := 36) d_Mo_carry_34 rfl rfl ?_
    refine b_ia (pc2 := 37) (q := k) d_Mo_carry_36 (sh_132 n0) (i_in (show k < 16 by omega) (by decide)) (i_tn (by omega)) (rc_132) rfl ?_
    rw [u1_at]
    refine b_lln (pc2 := 38) d_Mo_carry_37 rfl rfl ?_
    refine b_bp (pc2 := 40) (x := Int32.ofNat 7) d_Mo_carry_38 rfl rfl ?_
    refine b_il (pc2 := 42) d_Mo_carry_40 rfl rfl ?_
    refine b_pure (pc2 := 43) d_Mo_carry_42 rfl rfl rfl ?_
    rw [i_sub (by omega)]
    refine b_cs1 (pc2 := 46) (c2 := 0) (u2 := 0) (mo_byteOf (by omega)) d_Mo_carry_43 q_11_286 (Or.inl rfl) (Nat.le_of_ble_eq_true rfl) rfl rfl (Nat.le_of_ble_eq_true rfl) rfl rfl (by decide) (by decide) rfl ?_
    rw [by_eq v (show 7 - k < 8 by omega)]
    refine b_pure (pc2 := 47) d_Mo_carry_46 rfl rfl rfl ?_
    refine b_ist (pc2 := 48) (q := k) d_Mo_carry_47 (sh_132 n0) (i_in (show k < 16 by omega) (by decide)) (i_tn (by omega)) (rc_132) rfl ?_
    rw [u21, sx_step v (show k < 8 by omega)]
    refine b_inc (pc2 := 51) (al2 := [(5, _), (0, _), (1, _), (2, _), (3, _)]) (y := Int32.ofNat 1) d_Mo_carry_48 (by decide) rfl rfl rfl rfl ?_
    rw [i_add]
    refine b_go (pc2 := 8) d_Mo_carry_51 rfl ?_
    refine b_nf (al := [(5, _), (0, _), (1, _), (2, _), (3, _)]) (ks := [5, 0, 1, 2, 3]) (sub_c rfl (sub_c rfl (sub_c rfl (sub_c rfl (sub_c rfl (sub_n)))))) rfl (by decide) ?_
    dsimp only
    exact ih (k + 1) (by omega)
theorem mo_carry0 {d : Nat} (hd : 9 ≤ d) (hdv : dv < 2) {v : Int64} {n : Nat} (hS : ∀ e, 2 ≤ e → bm e (S0 n0) R0 147 [.ref 130, .int (Int32.ofNat dv)] W J g L (bR none W J1 g L)) (hn : J1 130 8 = Int32.ofNat n) (hn16 : n ≤ 16)  : bm d (S0 n0) R0 146 [.ref 130, .int (Int32.ofNat dv), .int (Int32.ofNat 1), .long v] W J g L (bR (some (.int (Int32.ofNat 0))) W (am_u1 J1 132 (sx v (min 8 n) (J1 132))) g L) := by
  obtain ⟨e, rfl⟩ : ∃ e, d = e + 1 := ⟨d - 1, by omega⟩
  refine bm_of (Nat.le_of_ble_eq_true rfl) (Or.inr bR_ret) ?_
  show bT e (S0 n0) R0 mt_Mo_carry _ 0 [(0, .ref 130), (1, .int (Int32.ofNat dv)), (2, .int (Int32.ofNat 1)), (3, .long v)] [] W J g L 0 0
  have hSR := SR0 n0
  refine b_aln (pc2 := 1) d_Mo_carry_0 rfl rfl ?_
  refine b_iln (pc2 := 2) d_Mo_carry_1 rfl rfl ?_
  refine b_cv0 (pc2 := 5) (c2 := 0) (u2 := 0) (hS e (by omega)) d_Mo_carry_2 q_11_299 (Nat.le_of_ble_eq_true rfl) rfl rfl (sh_130 n0) (Nat.le_of_ble_eq_true rfl) rfl rfl (by decide) (by decide) rfl ?_
  refine b_ic (pc2 := 6) (x := Int32.ofNat 0) d_Mo_carry_5 rfl rfl ?_
  refine b_is (pc2 := 8) (al2 := [(5, _), (0, _), (1, _), (2, _), (3, _)]) d_Mo_carry_6 (by decide) rfl rfl ?_
  refine b_nf (al := [(5, _), (0, _), (1, _), (2, _), (3, _)]) (ks := [5, 0, 1, 2, 3]) (sub_c rfl (sub_c rfl (sub_c rfl (sub_c rfl (sub_c rfl (sub_n)))))) rfl (by decide) ?_
  dsimp only
  refine (fun z => ?_ : _ → _) (lp_car (n0 := n0) (W := W) (J := J1) (g := g) (L := L) (e := e) (dv := dv) (lo := 1) (n := n) (v := v) (Qh := bw_Q (S0 n0) R0 (bR (some (.int (Int32.ofNat 0))) W (am_u1 J1 132 (sx v (min 8 n) (J1 132))) g L)) (by omega) hn hn16 ?_ (min 8 n) 0 (by omega))
  · rw [sx_0, u1_id] at z
    exact z
  · refine b_iln (pc2 := 55) d_Mo_carry_54 rfl rfl ?_
    refine b_ifd (pc2 := 72) d_Mo_carry_55 rfl rfl rfl rfl rfl (fun h55 => ?_) (fun h55 => ?_)
    rotate_left
    · exact absurd (by decide) h55
    refine b_ic (pc2 := 73) (x := Int32.ofNat 0) d_Mo_carry_72 rfl rfl ?_
    refine b_br d_Mo_carry_73 rfl (by decide) ?_
    exact ⟨rfl, rfl, rfl, rfl, rfl⟩
theorem mo_carry1_0 {d : Nat} (hd : 9 ≤ d) (hdv : dv < 2) {v : Int64} {n : Nat} (hS : ∀ e, 2 ≤ e → bm e (S0 n0) R0 147 [.ref 130, .int (Int32.ofNat dv)] W J g L (bR none W J1 g L)) (hn : J1 130 8 = Int32.ofNat n) (hn16 : n ≤ 16) {J2 : bw_J} (hH : ∀ e, 8 ≤ e → bm e (S0 n0) R0 151 [.ref 130, .int (Int32.ofNat (1 - dv))] W (am_u1 J1 132 (sx v (min 8 n) (J1 132))) g L (bR (some (.int (Int32.ofNat 0))) W J2 g L)) : bm d (S0 n0) R0 146 [.ref 130, .int (Int32.ofNat dv), .int (Int32.ofNat 0), .long v] W J g L (bR (some (.int (Int32.ofNat 0))) W J2 g L) := by
  obtain ⟨e, rfl⟩ : ∃ e, d = e + 1 := ⟨d - 1, by omega⟩
  refine bm_of (Nat.le_of_ble_eq_true rfl) (Or.inr bR_ret) ?_
  show bT e (S0 n0) R0 mt_Mo_carry _ 0 [(0, .ref 130), (1, .int (Int32.ofNat dv)), (2, .int (Int32.ofNat 0)), (3, .long v)] [] W J g L 0 0
  have hSR := SR0 n0
  refine b_aln (pc2 := 1) d_Mo_carry_0 rfl rfl ?_
  refine b_iln (pc2 := 2) d_Mo_carry_1 rfl rfl ?_
  refine b_cv0 (pc2 := 5) (c2 := 0) (u2 := 0) (hS e (by omega)) d_Mo_carry_2 q_11_299 (Nat.le_of_ble_eq_true rfl) rfl rfl (sh_130 n0) (Nat.le_of_ble_eq_true rfl) rfl rfl (by decide) (by decide) rfl ?_
  refine b_ic (pc2 := 6) (x := Int32.ofNat 0) d_Mo_carry_5 rfl rfl ?_
  refine b_is (pc2 := 8) (al2 := [(5, _), (0, _), (1, _), (2, _), (3, _)]) d_Mo_carry_6 (by decide) rfl rfl ?_
  refine b_nf (al := [(5, _), (0, _), (1, _), (2, _), (3, _)]) (ks := [5, 0, 1, 2, 3]) (sub_c rfl (sub_c rfl (sub_c rfl (sub_c rfl (sub_c rfl (sub_n)))))) rfl (by decide) ?_
  dsimp only
  refine (fun z => ?_ : _ → _) (lp_car (n0 := n0) (W := W) (J := J1) (g := g) (L := L) (e := e) (dv := dv) (lo := 0) (n := n) (v := v) (Qh := bw_Q (S0 n0) R0 (bR (some (.int (Int32.ofNat 0))) W J2 g L)) (by omega) hn hn16 ?_ (min 8 n) 0 (by omega))
  · rw [sx_0, u1_id] at z
    exact z
  · refine b_iln (pc2 := 55) d_Mo_carry_54 rfl rfl ?_
    refine b_ifd (pc2 := 72) d_Mo_carry_55 rfl rfl rfl rfl rfl (fun h55 => ?_) (fun h55 => ?_)
    · exact absurd h55 (by decide)
    refine b_aln (pc2 := 59) d_Mo_carry_58 rfl rfl ?_
    refine b_ic (pc2 := 60) (x := Int32.ofNat 1) d_Mo_carry_59 rfl rfl ?_
    refine b_iln (pc2 := 61) d_Mo_carry_60 rfl rfl ?_
    refine b_pure (pc2 := 62) d_Mo_carry_61 rfl rfl rfl ?_
    rw [i_sub (by omega)]
    refine b_cv1 (pc2 := 65) (c2 := 0) (u2 := 0) (hH e (by omega)) d_Mo_carry_62 q_11_302 (Nat.le_of_ble_eq_true rfl) rfl rfl (sh_130 n0) (Nat.le_of_ble_eq_true rfl) rfl rfl (by decide) (by decide) rfl ?_
    refine b_ifd (pc2 := 72) d_Mo_carry_65 rfl rfl rfl rfl rfl (fun h65 => ?_) (fun h65 => ?_)
    rotate_left
    · exact absurd (by decide) h65
    refine b_ic (pc2 := 73) (x := Int32.ofNat 0) d_Mo_carry_72 rfl rfl ?_
    refine b_br d_Mo_carry_73 rfl (by decide) ?_
    exact ⟨rfl, rfl, rfl, rfl, rfl⟩
theorem mo_carry1_1 {d : Nat} (hd : 9 ≤ d) (hdv : dv < 2) {v : Int64} {n : Nat} (hS : ∀ e, 2 ≤ e → bm e (S0 n0) R0 147 [.ref 130, .int (Int32.ofNat dv)] W J g L (bR none W J1 g L)) (hn : J1 130 8 = Int32.ofNat n) (hn16 : n ≤ 16) {J2 : bw_J} (hH : ∀ e, 8 ≤ e → bm e (S0 n0) R0 151 [.ref 130, .int (Int32.ofNat (1 - dv))] W (am_u1 J1 132 (sx v (min 8 n) (J1 132))) g L (bR (some (.int (Int32.ofNat 1))) W J2 g L)) : bm d (S0 n0) R0 146 [.ref 130, .int (Int32.ofNat dv), .int (Int32.ofNat 0), .long v] W J g L (bR (some (.int (Int32.ofNat 1))) W J2 g L) := by
  obtain ⟨e, rfl⟩ : ∃ e, d = e + 1 := ⟨d - 1, by omega⟩
  refine bm_of (Nat.le_of_ble_eq_true rfl) (Or.inr bR_ret) ?_
  show bT e (S0 n0) R0 mt_Mo_carry _ 0 [(0, .ref 130), (1, .int (Int32.ofNat dv)), (2, .int (Int32.ofNat 0)), (3, .long v)] [] W J g L 0 0
  have hSR := SR0 n0
  refine b_aln (pc2 := 1) d_Mo_carry_0 rfl rfl ?_
  refine b_iln (pc2 := 2) d_Mo_carry_1 rfl rfl ?_
  refine b_cv0 (pc2 := 5) (c2 := 0) (u2 := 0) (hS e (by omega)) d_Mo_carry_2 q_11_299 (Nat.le_of_ble_eq_true rfl) rfl rfl (sh_130 n0) (Nat.le_of_ble_eq_true rfl) rfl rfl (by decide) (by decide) rfl ?_
  refine b_ic (pc2 := 6) (x := Int32.ofNat 0) d_Mo_carry_5 rfl rfl ?_
  refine b_is (pc2 := 8) (al2 := [(5, _), (0, _), (1, _), (2, _), (3, _)]) d_Mo_carry_6 (by decide) rfl rfl ?_
  refine b_nf (al := [(5, _), (0, _), (1, _), (2, _), (3, _)]) (ks := [5, 0, 1, 2, 3]) (sub_c rfl (sub_c rfl (sub_c rfl (sub_c rfl (sub_c rfl (sub_n)))))) rfl (by decide) ?_
  dsimp only
  refine (fun z => ?_ : _ → _) (lp_car (n0 := n0) (W := W) (J := J1) (g := g) (L := L) (e := e) (dv := dv) (lo := 0) (n := n) (v := v) (Qh := bw_Q (S0 n0) R0 (bR (some (.int (Int32.ofNat 1))) W J2 g L)) (by omega) hn hn16 ?_ (min 8 n) 0 (by omega))
  · rw [sx_0, u1_id] at z
    exact z
  · refine b_iln (pc2 := 55) d_Mo_carry_54 rfl rfl ?_
    refine b_ifd (pc2 := 72) d_Mo_carry_55 rfl rfl rfl rfl rfl (fun h55 => ?_) (fun h55 => ?_)
    · exact absurd h55 (by decide)
    refine b_aln (pc2 := 59) d_Mo_carry_58 rfl rfl ?_
    refine b_ic (pc2 := 60) (x := Int32.ofNat 1) d_Mo_carry_59 rfl rfl ?_
    refine b_iln (pc2 := 61) d_Mo_carry_60 rfl rfl ?_
    refine b_pure (pc2 := 62) d_Mo_carry_61 rfl rfl rfl ?_
    rw [i_sub (by omega)]
    refine b_cv1 (pc2 := 65) (c2 := 0) (u2 := 0) (hH e (by omega)) d_Mo_carry_62 q_11_302 (Nat.le_of_ble_eq_true rfl) rfl rfl (sh_130 n0) (Nat.le_of_ble_eq_true rfl) rfl rfl (by decide) (by decide) rfl ?_
    refine b_ifd (pc2 := 72) d_Mo_carry_65 rfl rfl rfl rfl rfl (fun h65 => ?_) (fun h65 => ?_)
    · exact absurd h65 (by decide)
    refine b_ic (pc2 := 69) (x := Int32.ofNat 1) d_Mo_carry_68 rfl rfl ?_
    refine b_go (pc2 := 73) d_Mo_carry_69 rfl ?_
    refine b_br d_Mo_carry_73 rfl (by decide) ?_
    exact ⟨rfl, rfl, rfl, rfl, rfl⟩
end MH
