/-! Part 85 (written by gen35.py): the reference: replace, touch -/
section MR
variable {n0 : Nat} {W : bw_W} {J : bw_J} {g : Nat} {L : bw_L}
variable {J1 : bw_J} {Qh : am_O → am_H → Prop}
theorem lp_rep {e : Nat} {a n : Nat} (ha : a < 10) (hn : J 130 27 = Int32.ofNat n) (hn2 : 2 ≤ n) (hn18 : n ≤ 18) (K : bH e (S0 n0) R0 mt_Mo_replace Qh 68 [(0, .ref 130)] [] W (am_u1 J 155 (ovw (16 * a) (lst (J 150) 2 (n - 2)) (J 155))) g L 0 0) : ∀ (r j : Nat), j + r = n - 2 → bH e (S0 n0) R0 mt_Mo_replace Qh 33 [(2, .int (Int32.ofNat (2 + j))), (0, .ref 130), (1, .int (Int32.ofNat (a + 1)))] [] W (am_u1 J 155 (ovw (16 * a) (lst (J 150) 2 j) (J 155))) g L 0 0 := by
  have hSR := SR0 n0
  intro r
  induction r with
  | zero =>
    intro j hj
    refine b_iln (pc2 := 34) d_Mo_replace_33 rfl rfl ?_
    refine b_aln (pc2 := 35) d_Mo_replace_34 rfl rfl ?_
    refine b_gi (pc2 := 38) d_Mo_replace_35 q_11_174 (sh_130 n0) (by decide) (by decide) (rc_130) rfl ?_
    rw [u1_ne _ _ (by decide), hn]
    refine b_ifd (pc2 := 68) d_Mo_replace_38 rfl rfl rfl rfl rfl (fun h38 => ?_) (fun h38 => ?_)
    rotate_left
    · exact absurd ((i_le (by omega) (by omega)).mpr (by omega)) h38
    refine b_nf (al := [(0, _)]) (ks := [0]) (sub_c rfl (sub_n)) rfl (by decide) ?_
    dsimp only
    rw [show j = n - 2 by omega]
    exact K
  | succ r ih =>
    intro j hj
    refine b_iln (pc2 := 34) d_Mo_replace_33 rfl rfl ?_
    refine b_aln (pc2 := 35) d_Mo_replace_34 rfl rfl ?_
    refine b_gi (pc2 := 38) d_Mo_replace_35 q_11_174 (sh_130 n0) (by decide) (by decide) (rc_130) rfl ?_
    rw [u1_ne _ _ (by decide), hn]
    refine b_ifd (pc2 := 68) d_Mo_replace_38 rfl rfl rfl rfl rfl (fun h38 => ?_) (fun h38 => ?_)
    · exact absurd h38 (fun z => by rw [i_le (by omega) (by omega)] at z; omega)
    refine b_aln (pc2 := 42) d_Mo_replace_41 rfl rfl ?_
    refine b_gr (pc2 := 45) d_Mo_replace_42 q_11_87 (sh_130 n0) (by decide) (by decide) (p_130_35 n0) rfl ?_
    refine b_bp (pc2 := 47) (x := Int32.ofNat 16) d_Mo_replace_45 rfl rfl ?_
    refine b_iln (pc2 := 48) d_Mo_replace_47 rfl rfl ?_
    refine b_ic (pc2 := 49) (x := Int32.ofNat 1) d_Mo_replace_48 rfl rfl ?_
    refine b_pure (pc2 := 50) d_Mo_replace_49 rfl rfl rfl ?_
    rw [i_sub (by omega)]
    refine b_pure (pc2 := 51) d_Mo_replace_50 rfl rfl rfl ?_
    rw [i_mul]
    refine b_iln (pc2 := 52) d_Mo_replace_51 rfl rfl ?_
    refine b_pure (pc2 := 53) d_Mo_replace_52 rfl rfl rfl ?_
    rw [i_add]
    refine b_ic (pc2 := 54) (x := Int32.ofNat 2) d_Mo_replace_53 rfl rfl ?_
    refine b_pure (pc2 := 55) d_Mo_replace_54 rfl rfl rfl ?_
    rw [i_sub (by omega)]
    refine b_aln (pc2 := 56) d_Mo_replace_55 rfl rfl ?_
    refine b_gr (pc2 := 59) d_Mo_replace_56 q_11_72 (sh_130 n0) (by decide) (by decide) (p_130_28 n0) rfl ?_
    refine b_iln (pc2 := 60) d_Mo_replace_59 rfl rfl ?_
    refine b_ia (pc2 := 61) (q := (2 + j)) d_Mo_replace_60 (sh_150 n0) (i_in (show 2 + j < 24 by omega) (by decide)) (i_tn (by omega)) (rc_150) rfl ?_
    rw [u1_ne _ _ (by decide)]
    refine b_ist (pc2 := 62) (q := (16 * (a + 1 - 1) + (2 + j) - 2)) d_Mo_replace_61 (sh_155 n0) (i_in (show 16 * (a + 1 - 1) + (2 + j) - 2 < 160 by omega) (by decide)) (i_tn (by omega)) (rc_155) rfl ?_
    have hlen : 16 * (a + 1 - 1) + (2 + j) - 2 = 16 * a + (lst (J 150) 2 j).length := by rw [lst_len]; omega
    rw [u21, hlen, ovw_step, ← lst_app]
    refine b_inc (pc2 := 65) (al2 := [(2, _), (0, _), (1, _)]) (y := Int32.ofNat 1) d_Mo_replace_62 (by decide) rfl rfl rfl rfl ?_
    refine b_go (pc2 := 33) d_Mo_replace_65 rfl ?_
    refine b_nf (al := [(2, _), (0, _), (1, _)]) (ks := [2, 0, 1]) (sub_c rfl (sub_c rfl (sub_c rfl (sub_n)))) rfl (by decide) ?_
    dsimp only
    rw [i_add]
    exact ih (j + 1) (by omega)
theorem mo_rep0 {d : Nat} (hd : 3 ≤ d) {a n : Nat} (ha : a < 10) (hn : J 130 27 = Int32.ofNat n) (hn2 : 2 ≤ n) (hn20 : n ≤ 20) (hx : 18 < n) (hR : ∀ e, 2 ≤ e → bm e (S0 n0) R0 161 [.ref 130, .int (Int32.ofNat (a + 1)), .int (Int32.ofNat 13)] W J g L (bR none W J1 g L)) : bm d (S0 n0) R0 169 [.ref 130, .int (Int32.ofNat (a + 1))] W J g L (bR none W J1 g L) := by
  obtain ⟨e, rfl⟩ : ∃ e, d = e + 1 := ⟨d - 1, by omega⟩
  refine bm_of (Nat.le_of_ble_eq_true rfl) (Or.inr bR_ret) ?_
  show bT e (S0 n0) R0 mt_Mo_replace _ 0 [(0, .ref 130), (1, .int (Int32.ofNat (a + 1)))] [] W J g L 0 0
  have hSR := SR0 n0
  refine b_aln (pc2 := 1) d_Mo_replace_0 rfl rfl ?_
  refine b_gi (pc2 := 4) d_Mo_replace_1 q_11_174 (sh_130 n0) (by decide) (by decide) (rc_130) rfl ?_
  rw [hn]
  refine b_bp (pc2 := 6) (x := Int32.ofNat 18) d_Mo_replace_4 rfl rfl ?_
  refine b_ifd (pc2 := 17) d_Mo_replace_6 rfl rfl rfl rfl rfl (fun h6 => ?_) (fun h6 => ?_)
  · exact absurd h6 (fun z => by rw [i_le (by omega) (by decide)] at z; omega)
  refine b_aln (pc2 := 10) d_Mo_replace_9 rfl rfl ?_
  refine b_iln (pc2 := 11) d_Mo_replace_10 rfl rfl ?_
  refine b_bp (pc2 := 13) (x := Int32.ofNat 13) d_Mo_replace_11 rfl rfl ?_
  refine b_cv0 (pc2 := 16) (c2 := 0) (u2 := 0) (hR e (by omega)) d_Mo_replace_13 q_11_193 (Nat.le_of_ble_eq_true rfl) rfl rfl (sh_130 n0) (Nat.le_of_ble_eq_true rfl) rfl rfl (by decide) (by decide) rfl ?_
  refine b_vr d_Mo_replace_16 rfl ?_
  exact ⟨rfl, rfl, rfl, rfl, rfl⟩
theorem mo_rep1 {d : Nat} (hd : 3 ≤ d) {a n : Nat} (ha : a < 10) (hn : J 130 27 = Int32.ofNat n) (hn2 : 2 ≤ n) (hn20 : n ≤ 20) (hx : n ≤ 18) (hG : ∀ e, 1 ≤ e → bm e (S0 n0) R0 135 [.ref 130, .int (Int32.ofNat 1)] W (mkJ (am_u1 (am_u2 J 154 a (Int32.ofNat (n - 2))) 155 (ovw (16 * a) (lst (J 150) 2 (n - 2)) (J 155))) [Int32.ofNat 19]) g L (bR none W J1 g L)) : bm d (S0 n0) R0 169 [.ref 130, .int (Int32.ofNat (a + 1))] W J g L (bR none W J1 g L) := by
  obtain ⟨e, rfl⟩ : ∃ e, d = e + 1 := ⟨d - 1, by omega⟩
  refine bm_of (Nat.le_of_ble_eq_true rfl) (Or.inr bR_ret) ?_
  show bT e (S0 n0) R0 mt_Mo_replace _ 0 [(0, .ref 130), (1, .int (Int32.ofNat (a + 1)))] [] W J g L 0 0
  have hSR := SR0 n0
  refine b_aln (pc2 := 1) d_Mo_replace_0 rfl rfl ?_
  refine b_gi (pc2 := 4) d_Mo_replace_1 q_11_174 (sh_130 n0) (by decide) (by decide) (rc_130) rfl ?_
  rw [hn]
  refine b_bp (pc2 := 6) (x := Int32.ofNat 18) d_Mo_replace_4 rfl rfl ?_
  refine b_ifd (pc2 := 17) d_Mo_replace_6 rfl rfl rfl rfl rfl (fun h6 => ?_) (fun h6 => ?_)
  rotate_left
  · exact absurd ((i_le (by omega) (by decide)).mpr hx) h6
  refine b_aln (pc2 := 18) d_Mo_replace_17 rfl rfl ?_
  refine b_gr (pc2 := 21) d_Mo_replace_18 q_11_84 (sh_130 n0) (by decide) (by decide) (p_130_34 n0) rfl ?_
  refine b_iln (pc2 := 22) d_Mo_replace_21 rfl rfl ?_
  refine b_ic (pc2 := 23) (x := Int32.ofNat 1) d_Mo_replace_22 rfl rfl ?_
  refine b_pure (pc2 := 24) d_Mo_replace_23 rfl rfl rfl ?_
  rw [i_sub (by omega), show a + 1 - 1 = a by omega]
  refine b_aln (pc2 := 25) d_Mo_replace_24 rfl rfl ?_
  refine b_gi (pc2 := 28) d_Mo_replace_25 q_11_174 (sh_130 n0) (by decide) (by decide) (rc_130) rfl ?_
  rw [hn]
  refine b_ic (pc2 := 29) (x := Int32.ofNat 2) d_Mo_replace_28 rfl rfl ?_
  refine b_pure (pc2 := 30) d_Mo_replace_29 rfl rfl rfl ?_
  rw [i_sub (by omega)]
  refine b_ist (pc2 := 31) (q := a) d_Mo_replace_30 (sh_154 n0) (i_in ha (by decide)) (i_tn (by omega)) (rc_154) rfl ?_
  refine b_ic (pc2 := 32) (x := Int32.ofNat 2) d_Mo_replace_31 rfl rfl ?_
  refine b_isn (pc2 := 33) (al2 := [(2, _), (0, _), (1, _)]) d_Mo_replace_32 (by decide) rfl rfl ?_
  refine b_nf (al := [(2, _), (0, _), (1, _)]) (ks := [2, 0, 1]) (sub_c rfl (sub_c rfl (sub_c rfl (sub_n)))) rfl (by decide) ?_
  dsimp only
  have h155 : am_u2 J 154 a (Int32.ofNat (n - 2)) 155 = J 155 := u2_a _ _ (by decide)
  have h150 : am_u2 J 154 a (Int32.ofNat (n - 2)) 150 = J 150 := u2_a _ _ (by decide)
  refine (fun z => ?_ : _ → _) (lp_rep (n0 := n0) (W := W) (J := am_u2 J 154 a (Int32.ofNat (n - 2))) (g := g) (L := L) (e := e) (a := a) (n := n) (Qh := bw_Q (S0 n0) R0 (bR none W J1 g L)) ha (by rw [u2_a _ _ (by decide)]; exact hn) hn2 hx ?_ (n - 2) 0 (by omega))
  · rw [show lst (am_u2 J 154 a (Int32.ofNat (n - 2)) 150) 2 0 = [] from rfl, ovw_nil, u1_id] at z
    exact z
  · rw [h155, h150]
    refine b_aln (pc2 := 69) d_Mo_replace_68 rfl rfl ?_
    refine b_bp (pc2 := 71) (x := Int32.ofNat 19) d_Mo_replace_69 rfl rfl ?_
    refine b_cv0 (pc2 := 74) (c2 := 0) (u2 := 0) (mo_start (by omega)) d_Mo_replace_71 q_11_183 (Nat.le_of_ble_eq_true rfl) rfl rfl (sh_130 n0) (Nat.le_of_ble_eq_true rfl) rfl rfl (by decide) (by decide) rfl ?_
    rw [show Int32.ofNat 19 &&& 255 = Int32.ofNat 19 from rfl]
    refine b_aln (pc2 := 75) d_Mo_replace_74 rfl rfl ?_
    refine b_ic (pc2 := 76) (x := Int32.ofNat 1) d_Mo_replace_75 rfl rfl ?_
    refine b_cv0 (pc2 := 79) (c2 := 0) (u2 := 0) (hG e (by omega)) d_Mo_replace_76 q_11_149 (Nat.le_of_ble_eq_true rfl) rfl rfl (sh_130 n0) (Nat.le_of_ble_eq_true rfl) rfl rfl (by decide) (by decide) rfl ?_
    refine b_vr d_Mo_replace_79 rfl ?_
    exact ⟨rfl, rfl, rfl, rfl, rfl⟩
theorem mo_touch0 {d : Nat} (hd : 4 ≤ d) {op h : Nat} {ct : Nat} (hc : J 130 31 = Int32.ofNat ct) (hct : ct ≤ 10) (hh : h < 256) (hno : h = 0 ∨ ct < h) (hR : ∀ e, 2 ≤ e → bm e (S0 n0) R0 161 [.ref 130, .int (Int32.ofNat h), .int (Int32.ofNat 1)] W J g L (bR none W J1 g L)) : bm d (S0 n0) R0 167 [.ref 130, .int (Int32.ofNat op), .int (Int32.ofNat h)] W J g L (bR none W J1 g L) := by
  obtain ⟨e, rfl⟩ : ∃ e, d = e + 1 := ⟨d - 1, by omega⟩
  refine bm_of (Nat.le_of_ble_eq_true rfl) (Or.inr bR_ret) ?_
  show bT e (S0 n0) R0 mt_Mo_touch _ 0 [(0, .ref 130), (1, .int (Int32.ofNat op)), (2, .int (Int32.ofNat h))] [] W J g L 0 0
  have hSR := SR0 n0
  refine b_iln (pc2 := 1) d_Mo_touch_0 rfl rfl ?_
  refine b_ic (pc2 := 2) (x := Int32.ofNat 1) d_Mo_touch_1 rfl rfl ?_
  refine b_ifd (pc2 := 13) d_Mo_touch_2 rfl rfl rfl rfl rfl (fun h2 => ?_) (fun h2 => ?_)
  · refine b_aln (pc2 := 14) d_Mo_touch_13 rfl rfl ?_
    refine b_iln (pc2 := 15) d_Mo_touch_14 rfl rfl ?_
    refine b_ic (pc2 := 16) (x := Int32.ofNat 1) d_Mo_touch_15 rfl rfl ?_
    refine b_cv0 (pc2 := 19) (c2 := 0) (u2 := 0) (hR e (by omega)) d_Mo_touch_16 q_11_193 (Nat.le_of_ble_eq_true rfl) rfl rfl (sh_130 n0) (Nat.le_of_ble_eq_true rfl) rfl rfl (by decide) (by decide) rfl ?_
    refine b_vr d_Mo_touch_19 rfl ?_
    exact ⟨rfl, rfl, rfl, rfl, rfl⟩
  · refine b_iln (pc2 := 6) d_Mo_touch_5 rfl rfl ?_
    refine b_aln (pc2 := 7) d_Mo_touch_6 rfl rfl ?_
    refine b_gi (pc2 := 10) d_Mo_touch_7 q_11_212 (sh_130 n0) (by decide) (by decide) (rc_130) rfl ?_
    rw [hc]
    refine b_ifd (pc2 := 20) d_Mo_touch_10 rfl rfl rfl rfl rfl (fun h10 => ?_) (fun h10 => ?_)
    · rw [i_lt (by omega) (by decide)] at h2
      rw [i_le (by omega) (by omega)] at h10
      omega
    · refine b_aln (pc2 := 14) d_Mo_touch_13 rfl rfl ?_
      refine b_iln (pc2 := 15) d_Mo_touch_14 rfl rfl ?_
      refine b_ic (pc2 := 16) (x := Int32.ofNat 1) d_Mo_touch_15 rfl rfl ?_
      refine b_cv0 (pc2 := 19) (c2 := 0) (u2 := 0) (hR e (by omega)) d_Mo_touch_16 q_11_193 (Nat.le_of_ble_eq_true rfl) rfl rfl (sh_130 n0) (Nat.le_of_ble_eq_true rfl) rfl rfl (by decide) (by decide) rfl ?_
      refine b_vr d_Mo_touch_19 rfl ?_
      exact ⟨rfl, rfl, rfl, rfl, rfl⟩
theorem mo_touch_no10 {d : Nat} (hd : 4 ≤ d) {a : Nat} {ct : Nat} (hc : J 130 31 = Int32.ofNat ct) (hct : ct ≤ 10) (hac : a < ct) (hr : J 153 a &&& Int32.ofNat 1 = 0) (hR : ∀ e, 2 ≤ e → bm e (S0 n0) R0 161 [.ref 130, .int (Int32.ofNat (a + 1)), .int (Int32.ofNat 2)] W J g L (bR none W J1 g L)) : bm d (S0 n0) R0 167 [.ref 130, .int (Int32.ofNat 10), .int (Int32.ofNat (a + 1))] W J g L (bR none W J1 g L) := by
  obtain ⟨e, rfl⟩ : ∃ e, d = e + 1 := ⟨d - 1, by omega⟩
  refine bm_of (Nat.le_of_ble_eq_true rfl) (Or.inr bR_ret) ?_
  show bT e (S0 n0) R0 mt_Mo_touch _ 0 [(0, .ref 130), (1, .int (Int32.ofNat 10)), (2, .int (Int32.ofNat (a + 1)))] [] W J g L 0 0
  have hSR := SR0 n0
  refine b_iln (pc2 := 1) d_Mo_touch_0 rfl rfl ?_
  refine b_ic (pc2 := 2) (x := Int32.ofNat 1) d_Mo_touch_1 rfl rfl ?_
  refine b_ifd (pc2 := 13) d_Mo_touch_2 rfl rfl rfl rfl rfl (fun h2 => ?_) (fun h2 => ?_)
  · exact absurd h2 (fun z => by rw [i_lt (by omega) (by decide)] at z; omega)
  refine b_iln (pc2 := 6) d_Mo_touch_5 rfl rfl ?_
  refine b_aln (pc2 := 7) d_Mo_touch_6 rfl rfl ?_
  refine b_gi (pc2 := 10) d_Mo_touch_7 q_11_212 (sh_130 n0) (by decide) (by decide) (rc_130) rfl ?_
  rw [hc]
  refine b_ifd (pc2 := 20) d_Mo_touch_10 rfl rfl rfl rfl rfl (fun h10 => ?_) (fun h10 => ?_)
  rotate_left
  · exact absurd ((i_le (by omega) (by omega)).mpr (by omega)) h10
  refine b_iln (pc2 := 21) d_Mo_touch_20 rfl rfl ?_
  refine b_bp (pc2 := 23) (x := Int32.ofNat 16) d_Mo_touch_21 rfl rfl ?_
  refine b_ifd (pc2 := 39) d_Mo_touch_23 rfl rfl rfl rfl rfl (fun h23 => ?_) (fun h23 => ?_)
  · exact absurd h23 (by decide)
  refine b_aln (pc2 := 27) d_Mo_touch_26 rfl rfl ?_
  refine b_gr (pc2 := 30) d_Mo_touch_27 q_11_81 (sh_130 n0) (by decide) (by decide) (p_130_33 n0) rfl ?_
  refine b_iln (pc2 := 31) d_Mo_touch_30 rfl rfl ?_
  refine b_ic (pc2 := 32) (x := Int32.ofNat 1) d_Mo_touch_31 rfl rfl ?_
  refine b_pure (pc2 := 33) d_Mo_touch_32 rfl rfl rfl ?_
  rw [i_sub (by omega), show a + 1 - 1 = a by omega]
  refine b_ia (pc2 := 34) (q := a) d_Mo_touch_33 (sh_153 n0) (i_in (show a < 10 by omega) (by decide)) (i_tn (by omega)) (rc_153) rfl ?_
  refine b_ic (pc2 := 35) (x := Int32.ofNat 1) d_Mo_touch_34 rfl rfl ?_
  refine b_pure (pc2 := 36) d_Mo_touch_35 rfl rfl rfl ?_
  refine b_go (pc2 := 49) d_Mo_touch_36 rfl ?_
  refine b_isn (pc2 := 50) (al2 := [(3, _), (0, _), (1, _), (2, _)]) d_Mo_touch_49 (by decide) rfl rfl ?_
  refine b_iln (pc2 := 51) d_Mo_touch_50 rfl rfl ?_
  refine b_ifd (pc2 := 73) d_Mo_touch_51 rfl rfl rfl rfl rfl (fun h51 => ?_) (fun h51 => ?_)
  · exact absurd h51 (fun z => z hr)
  refine b_aln (pc2 := 55) d_Mo_touch_54 rfl rfl ?_
  refine b_iln (pc2 := 56) d_Mo_touch_55 rfl rfl ?_
  refine b_iln (pc2 := 57) d_Mo_touch_56 rfl rfl ?_
  refine b_bp (pc2 := 59) (x := Int32.ofNat 16) d_Mo_touch_57 rfl rfl ?_
  refine b_ifd (pc2 := 66) d_Mo_touch_59 rfl rfl rfl rfl rfl (fun h59 => ?_) (fun h59 => ?_)
  · exact absurd h59 (by decide)
  refine b_ic (pc2 := 63) (x := Int32.ofNat 2) d_Mo_touch_62 rfl rfl ?_
  refine b_go (pc2 := 67) d_Mo_touch_63 rfl ?_
  refine b_cv0 (pc2 := 70) (c2 := 0) (u2 := 0) (hR e (by omega)) d_Mo_touch_67 q_11_193 (Nat.le_of_ble_eq_true rfl) rfl rfl (sh_130 n0) (Nat.le_of_ble_eq_true rfl) rfl rfl (by decide) (by decide) rfl ?_
  refine b_go (pc2 := 125) d_Mo_touch_70 rfl ?_
  refine b_vr d_Mo_touch_125 rfl ?_
  exact ⟨rfl, rfl, rfl, rfl, rfl⟩
theorem mo_touch_ok10 {d : Nat} (hd : 4 ≤ d) {a : Nat} {ct : Nat} (hc : J 130 31 = Int32.ofNat ct) (hct : ct ≤ 10) (hac : a < ct) (hr : ¬ J 153 a &&& Int32.ofNat 1 = 0) (hS : ∀ e, 3 ≤ e → bm e (S0 n0) R0 168 [.ref 130, .int (Int32.ofNat 10), .int (Int32.ofNat a), .int (Int32.ofNat 0)] W J g L (bR none W J1 g L)) : bm d (S0 n0) R0 167 [.ref 130, .int (Int32.ofNat 10), .int (Int32.ofNat (a + 1))] W J g L (bR none W J1 g L) := by
  obtain ⟨e, rfl⟩ : ∃ e, d = e + 1 := ⟨d - 1, by omega⟩
  refine bm_of (Nat.le_of_ble_eq_true rfl) (Or.inr bR_ret) ?_
  show bT e (S0 n0) R0 mt_Mo_touch _ 0 [(0, .ref 130), (1, .int (Int32.ofNat 10)), (2, .int (Int32.ofNat (a + 1)))] [] W J g L 0 0
  have hSR := SR0 n0
  refine b_iln (pc2 := 1) d_Mo_touch_0 rfl rfl ?_
  refine b_ic (pc2 := 2) (x := Int32.ofNat 1) d_Mo_touch_1 rfl rfl ?_
  refine b_ifd (pc2 := 13) d_Mo_touch_2 rfl rfl rfl rfl rfl (fun h2 => ?_) (fun h2 => ?_)
  · exact absurd h2 (fun z => by rw [i_lt (by omega) (by decide)] at z; omega)
  refine b_iln (pc2 := 6) d_Mo_touch_5 rfl rfl ?_
  refine b_aln (pc2 := 7) d_Mo_touch_6 rfl rfl ?_
  refine b_gi (pc2 := 10) d_Mo_touch_7 q_11_212 (sh_130 n0) (by decide) (by decide) (rc_130) rfl ?_
  rw [hc]
  refine b_ifd (pc2 := 20) d_Mo_touch_10 rfl rfl rfl rfl rfl (fun h10 => ?_) (fun h10 => ?_)
  rotate_left
  · exact absurd ((i_le (by omega) (by omega)).mpr (by omega)) h10
  refine b_iln (pc2 := 21) d_Mo_touch_20 rfl rfl ?_
  refine b_bp (pc2 := 23) (x := Int32.ofNat 16) d_Mo_touch_21 rfl rfl ?_
  refine b_ifd (pc2 := 39) d_Mo_touch_23 rfl rfl rfl rfl rfl (fun h23 => ?_) (fun h23 => ?_)
  · exact absurd h23 (by decide)
  refine b_aln (pc2 := 27) d_Mo_touch_26 rfl rfl ?_
  refine b_gr (pc2 := 30) d_Mo_touch_27 q_11_81 (sh_130 n0) (by decide) (by decide) (p_130_33 n0) rfl ?_
  refine b_iln (pc2 := 31) d_Mo_touch_30 rfl rfl ?_
  refine b_ic (pc2 := 32) (x := Int32.ofNat 1) d_Mo_touch_31 rfl rfl ?_
  refine b_pure (pc2 := 33) d_Mo_touch_32 rfl rfl rfl ?_
  rw [i_sub (by omega), show a + 1 - 1 = a by omega]
  refine b_ia (pc2 := 34) (q := a) d_Mo_touch_33 (sh_153 n0) (i_in (show a < 10 by omega) (by decide)) (i_tn (by omega)) (rc_153) rfl ?_
  refine b_ic (pc2 := 35) (x := Int32.ofNat 1) d_Mo_touch_34 rfl rfl ?_
  refine b_pure (pc2 := 36) d_Mo_touch_35 rfl rfl rfl ?_
  refine b_go (pc2 := 49) d_Mo_touch_36 rfl ?_
  refine b_isn (pc2 := 50) (al2 := [(3, _), (0, _), (1, _), (2, _)]) d_Mo_touch_49 (by decide) rfl rfl ?_
  refine b_iln (pc2 := 51) d_Mo_touch_50 rfl rfl ?_
  refine b_ifd (pc2 := 73) d_Mo_touch_51 rfl rfl rfl rfl rfl (fun h51 => ?_) (fun h51 => ?_)
  rotate_left
  · exact absurd (hr) h51
  refine b_iln (pc2 := 74) d_Mo_touch_73 rfl rfl ?_
  refine b_bp (pc2 := 76) (x := Int32.ofNat 16) d_Mo_touch_74 rfl rfl ?_
  refine b_ifd (pc2 := 106) d_Mo_touch_76 rfl rfl rfl rfl rfl (fun h76 => ?_) (fun h76 => ?_)
  · exact absurd h76 (by decide)
  refine b_aln (pc2 := 80) d_Mo_touch_79 rfl rfl ?_
  refine b_iln (pc2 := 81) d_Mo_touch_80 rfl rfl ?_
  refine b_iln (pc2 := 82) d_Mo_touch_81 rfl rfl ?_
  refine b_ic (pc2 := 83) (x := Int32.ofNat 1) d_Mo_touch_82 rfl rfl ?_
  refine b_pure (pc2 := 84) d_Mo_touch_83 rfl rfl rfl ?_
  rw [i_sub (by omega), show a + 1 - 1 = a by omega]
  refine b_iln (pc2 := 85) d_Mo_touch_84 rfl rfl ?_
  refine b_bp (pc2 := 87) (x := Int32.ofNat 12) d_Mo_touch_85 rfl rfl ?_
  refine b_ifd (pc2 := 99) d_Mo_touch_87 rfl rfl rfl rfl rfl (fun h87 => ?_) (fun h87 => ?_)
  rotate_left
  · exact absurd (by decide) h87
  refine b_ic (pc2 := 100) (x := Int32.ofNat 0) d_Mo_touch_99 rfl rfl ?_
  refine b_cv0 (pc2 := 103) (c2 := 0) (u2 := 0) (hS e (by omega)) d_Mo_touch_100 q_11_215 (Nat.le_of_ble_eq_true rfl) rfl rfl (sh_130 n0) (Nat.le_of_ble_eq_true rfl) rfl rfl (by decide) (by decide) rfl ?_
  refine b_go (pc2 := 125) d_Mo_touch_103 rfl ?_
  refine b_vr d_Mo_touch_125 rfl ?_
  exact ⟨rfl, rfl, rfl, rfl, rfl⟩
theorem mo_touch_no12 {d : Nat} (hd : 4 ≤ d) {a : Nat} {ct : Nat} (hc : J 130 31 = Int32.ofNat ct) (hct : ct ≤ 10) (hac : a < ct) (hr : J 153 a &&& Int32.ofNat 1 = 0) (hR : ∀ e, 2 ≤ e → bm e (S0 n0) R0 161 [.ref 130, .int (Int32.ofNat (a + 1)), .int (Int32.ofNat 2)] W J g L (bR none W J1 g L)) : bm d (S0 n0) R0 167 [.ref 130, .int (Int32.ofNat 12), .int (Int32.ofNat (a + 1))] W J g L (bR none W J1 g L) := by
  obtain ⟨e, rfl⟩ : ∃ e, d = e + 1 := ⟨d - 1, by omega⟩
  refine bm_of (Nat.le_of_ble_eq_true rfl) (Or.inr bR_ret) ?_
  show bT e (S0 n0) R0 mt_Mo_touch _ 0 [(0, .ref 130), (1, .int (Int32.ofNat 12)), (2, .int (Int32.ofNat (a + 1)))] [] W J g L 0 0
  have hSR := SR0 n0
  refine b_iln (pc2 := 1) d_Mo_touch_0 rfl rfl ?_
  refine b_ic (pc2 := 2) (x := Int32.ofNat 1) d_Mo_touch_1 rfl rfl ?_
  refine b_ifd (pc2 := 13) d_Mo_touch_2 rfl rfl rfl rfl rfl (fun h2 => ?_) (fun h2 => ?_)
  · exact absurd h2 (fun z => by rw [i_lt (by omega) (by decide)] at z; omega)
  refine b_iln (pc2 := 6) d_Mo_touch_5 rfl rfl ?_
  refine b_aln (pc2 := 7) d_Mo_touch_6 rfl rfl ?_
  refine b_gi (pc2 := 10) d_Mo_touch_7 q_11_212 (sh_130 n0) (by decide) (by decide) (rc_130) rfl ?_
  rw [hc]
  refine b_ifd (pc2 := 20) d_Mo_touch_10 rfl rfl rfl rfl rfl (fun h10 => ?_) (fun h10 => ?_)
  rotate_left
  · exact absurd ((i_le (by omega) (by omega)).mpr (by omega)) h10
  refine b_iln (pc2 := 21) d_Mo_touch_20 rfl rfl ?_
  refine b_bp (pc2 := 23) (x := Int32.ofNat 16) d_Mo_touch_21 rfl rfl ?_
  refine b_ifd (pc2 := 39) d_Mo_touch_23 rfl rfl rfl rfl rfl (fun h23 => ?_) (fun h23 => ?_)
  · exact absurd h23 (by decide)
  refine b_aln (pc2 := 27) d_Mo_touch_26 rfl rfl ?_
  refine b_gr (pc2 := 30) d_Mo_touch_27 q_11_81 (sh_130 n0) (by decide) (by decide) (p_130_33 n0) rfl ?_
  refine b_iln (pc2 := 31) d_Mo_touch_30 rfl rfl ?_
  refine b_ic (pc2 := 32) (x := Int32.ofNat 1) d_Mo_touch_31 rfl rfl ?_
  refine b_pure (pc2 := 33) d_Mo_touch_32 rfl rfl rfl ?_
  rw [i_sub (by omega), show a + 1 - 1 = a by omega]
  refine b_ia (pc2 := 34) (q := a) d_Mo_touch_33 (sh_153 n0) (i_in (show a < 10 by omega) (by decide)) (i_tn (by omega)) (rc_153) rfl ?_
  refine b_ic (pc2 := 35) (x := Int32.ofNat 1) d_Mo_touch_34 rfl rfl ?_
  refine b_pure (pc2 := 36) d_Mo_touch_35 rfl rfl rfl ?_
  refine b_go (pc2 := 49) d_Mo_touch_36 rfl ?_
  refine b_isn (pc2 := 50) (al2 := [(3, _), (0, _), (1, _), (2, _)]) d_Mo_touch_49 (by decide) rfl rfl ?_
  refine b_iln (pc2 := 51) d_Mo_touch_50 rfl rfl ?_
  refine b_ifd (pc2 := 73) d_Mo_touch_51 rfl rfl rfl rfl rfl (fun h51 => ?_) (fun h51 => ?_)
  · exact absurd h51 (fun z => z hr)
  refine b_aln (pc2 := 55) d_Mo_touch_54 rfl rfl ?_
  refine b_iln (pc2 := 56) d_Mo_touch_55 rfl rfl ?_
  refine b_iln (pc2 := 57) d_Mo_touch_56 rfl rfl ?_
  refine b_bp (pc2 := 59) (x := Int32.ofNat 16) d_Mo_touch_57 rfl rfl ?_
  refine b_ifd (pc2 := 66) d_Mo_touch_59 rfl rfl rfl rfl rfl (fun h59 => ?_) (fun h59 => ?_)
  · exact absurd h59 (by decide)
  refine b_ic (pc2 := 63) (x := Int32.ofNat 2) d_Mo_touch_62 rfl rfl ?_
  refine b_go (pc2 := 67) d_Mo_touch_63 rfl ?_
  refine b_cv0 (pc2 := 70) (c2 := 0) (u2 := 0) (hR e (by omega)) d_Mo_touch_67 q_11_193 (Nat.le_of_ble_eq_true rfl) rfl rfl (sh_130 n0) (Nat.le_of_ble_eq_true rfl) rfl rfl (by decide) (by decide) rfl ?_
  refine b_go (pc2 := 125) d_Mo_touch_70 rfl ?_
  refine b_vr d_Mo_touch_125 rfl ?_
  exact ⟨rfl, rfl, rfl, rfl, rfl⟩
theorem mo_touch_ok12 {d : Nat} (hd : 4 ≤ d) {a : Nat} {ct : Nat} (hc : J 130 31 = Int32.ofNat ct) (hct : ct ≤ 10) (hac : a < ct) (hr : ¬ J 153 a &&& Int32.ofNat 1 = 0) (hS : ∀ e, 3 ≤ e → bm e (S0 n0) R0 168 [.ref 130, .int (Int32.ofNat 12), .int (Int32.ofNat a), .int (J 150 2)] W J g L (bR none W J1 g L)) : bm d (S0 n0) R0 167 [.ref 130, .int (Int32.ofNat 12), .int (Int32.ofNat (a + 1))] W J g L (bR none W J1 g L) := by
  obtain ⟨e, rfl⟩ : ∃ e, d = e + 1 := ⟨d - 1, by omega⟩
  refine bm_of (Nat.le_of_ble_eq_true rfl) (Or.inr bR_ret) ?_
  show bT e (S0 n0) R0 mt_Mo_touch _ 0 [(0, .ref 130), (1, .int (Int32.ofNat 12)), (2, .int (Int32.ofNat (a + 1)))] [] W J g L 0 0
  have hSR := SR0 n0
  refine b_iln (pc2 := 1) d_Mo_touch_0 rfl rfl ?_
  refine b_ic (pc2 := 2) (x := Int32.ofNat 1) d_Mo_touch_1 rfl rfl ?_
  refine b_ifd (pc2 := 13) d_Mo_touch_2 rfl rfl rfl rfl rfl (fun h2 => ?_) (fun h2 => ?_)
  · exact absurd h2 (fun z => by rw [i_lt (by omega) (by decide)] at z; omega)
  refine b_iln (pc2 := 6) d_Mo_touch_5 rfl rfl ?_
  refine b_aln (pc2 := 7) d_Mo_touch_6 rfl rfl ?_
  refine b_gi (pc2 := 10) d_Mo_touch_7 q_11_212 (sh_130 n0) (by decide) (by decide) (rc_130) rfl ?_
  rw [hc]
  refine b_ifd (pc2 := 20) d_Mo_touch_10 rfl rfl rfl rfl rfl (fun h10 => ?_) (fun h10 => ?_)
  rotate_left
  · exact absurd ((i_le (by omega) (by omega)).mpr (by omega)) h10
  refine b_iln (pc2 := 21) d_Mo_touch_20 rfl rfl ?_
  refine b_bp (pc2 := 23) (x := Int32.ofNat 16) d_Mo_touch_21 rfl rfl ?_
  refine b_ifd (pc2 := 39) d_Mo_touch_23 rfl rfl rfl rfl rfl (fun h23 => ?_) (fun h23 => ?_)
  · exact absurd h23 (by decide)
  refine b_aln (pc2 := 27) d_Mo_touch_26 rfl rfl ?_
  refine b_gr (pc2 := 30) d_Mo_touch_27 q_11_81 (sh_130 n0) (by decide) (by decide) (p_130_33 n0) rfl ?_
  refine b_iln (pc2 := 31) d_Mo_touch_30 rfl rfl ?_
  refine b_ic (pc2 := 32) (x := Int32.ofNat 1) d_Mo_touch_31 rfl rfl ?_
  refine b_pure (pc2 := 33) d_Mo_touch_32 rfl rfl rfl ?_
  rw [i_sub (by omega), show a + 1 - 1 = a by omega]
  refine b_ia (pc2 := 34) (q := a) d_Mo_touch_33 (sh_153 n0) (i_in (show a < 10 by omega) (by decide)) (i_tn (by omega)) (rc_153) rfl ?_
  refine b_ic (pc2 := 35) (x := Int32.ofNat 1) d_Mo_touch_34 rfl rfl ?_
  refine b_pure (pc2 := 36) d_Mo_touch_35 rfl rfl rfl ?_
  refine b_go (pc2 := 49) d_Mo_touch_36 rfl ?_
  refine b_isn (pc2 := 50) (al2 := [(3, _), (0, _), (1, _), (2, _)]) d_Mo_touch_49 (by decide) rfl rfl ?_
  refine b_iln (pc2 := 51) d_Mo_touch_50 rfl rfl ?_
  refine b_ifd (pc2 := 73) d_Mo_touch_51 rfl rfl rfl rfl rfl (fun h51 => ?_) (fun h51 => ?_)
  rotate_left
  · exact absurd (hr) h51
  refine b_iln (pc2 := 74) d_Mo_touch_73 rfl rfl ?_
  refine b_bp (pc2 := 76) (x := Int32.ofNat 16) d_Mo_touch_74 rfl rfl ?_
  refine b_ifd (pc2 := 106) d_Mo_touch_76 rfl rfl rfl rfl rfl (fun h76 => ?_) (fun h76 => ?_)
  · exact absurd h76 (by decide)
  refine b_aln (pc2 := 80) d_Mo_touch_79 rfl rfl ?_
  refine b_iln (pc2 := 81) d_Mo_touch_80 rfl rfl ?_
  refine b_iln (pc2 := 82) d_Mo_touch_81 rfl rfl ?_
  refine b_ic (pc2 := 83) (x := Int32.ofNat 1) d_Mo_touch_82 rfl rfl ?_
  refine b_pure (pc2 := 84) d_Mo_touch_83 rfl rfl rfl ?_
  rw [i_sub (by omega), show a + 1 - 1 = a by omega]
  refine b_iln (pc2 := 85) d_Mo_touch_84 rfl rfl ?_
  refine b_bp (pc2 := 87) (x := Int32.ofNat 12) d_Mo_touch_85 rfl rfl ?_
  refine b_ifd (pc2 := 99) d_Mo_touch_87 rfl rfl rfl rfl rfl (fun h87 => ?_) (fun h87 => ?_)
  · exact absurd h87 (by decide)
  refine b_aln (pc2 := 91) d_Mo_touch_90 rfl rfl ?_
  refine b_gr (pc2 := 94) d_Mo_touch_91 q_11_72 (sh_130 n0) (by decide) (by decide) (p_130_28 n0) rfl ?_
  refine b_ic (pc2 := 95) (x := Int32.ofNat 2) d_Mo_touch_94 rfl rfl ?_
  refine b_ia (pc2 := 96) (q := 2) d_Mo_touch_95 (sh_150 n0) (i_in (i := 2) (by decide) (by decide)) (rfl) (rc_150) rfl ?_
  refine b_go (pc2 := 100) d_Mo_touch_96 rfl ?_
  refine b_cv0 (pc2 := 103) (c2 := 0) (u2 := 0) (hS e (by omega)) d_Mo_touch_100 q_11_215 (Nat.le_of_ble_eq_true rfl) rfl rfl (sh_130 n0) (Nat.le_of_ble_eq_true rfl) rfl rfl (by decide) (by decide) rfl ?_
  refine b_go (pc2 := 125) d_Mo_touch_103 rfl ?_
  refine b_vr d_Mo_touch_125 rfl ?_
  exact ⟨rfl, rfl, rfl, rfl, rfl⟩
theorem mo_touch_no18 {d : Nat} (hd : 4 ≤ d) {a : Nat} {ct : Nat} (hc : J 130 31 = Int32.ofNat ct) (hct : ct ≤ 10) (hac : a < ct) (hr : J 153 a &&& Int32.ofNat 2 = 0) (hR : ∀ e, 2 ≤ e → bm e (S0 n0) R0 161 [.ref 130, .int (Int32.ofNat (a + 1)), .int (Int32.ofNat 3)] W J g L (bR none W J1 g L)) : bm d (S0 n0) R0 167 [.ref 130, .int (Int32.ofNat 18), .int (Int32.ofNat (a + 1))] W J g L (bR none W J1 g L) := by
  obtain ⟨e, rfl⟩ : ∃ e, d = e + 1 := ⟨d - 1, by omega⟩
  refine bm_of (Nat.le_of_ble_eq_true rfl) (Or.inr bR_ret) ?_
  show bT e (S0 n0) R0 mt_Mo_touch _ 0 [(0, .ref 130), (1, .int (Int32.ofNat 18)), (2, .int (Int32.ofNat (a + 1)))] [] W J g L 0 0
  have hSR := SR0 n0
  refine b_iln (pc2 := 1) d_Mo_touch_0 rfl rfl ?_
  refine b_ic (pc2 := 2) (x := Int32.ofNat 1) d_Mo_touch_1 rfl rfl ?_
  refine b_ifd (pc2 := 13) d_Mo_touch_2 rfl rfl rfl rfl rfl (fun h2 => ?_) (fun h2 => ?_)
  · exact absurd h2 (fun z => by rw [i_lt (by omega) (by decide)] at z; omega)
  refine b_iln (pc2 := 6) d_Mo_touch_5 rfl rfl ?_
  refine b_aln (pc2 := 7) d_Mo_touch_6 rfl rfl ?_
  refine b_gi (pc2 := 10) d_Mo_touch_7 q_11_212 (sh_130 n0) (by decide) (by decide) (rc_130) rfl ?_
  rw [hc]
  refine b_ifd (pc2 := 20) d_Mo_touch_10 rfl rfl rfl rfl rfl (fun h10 => ?_) (fun h10 => ?_)
  rotate_left
  · exact absurd ((i_le (by omega) (by omega)).mpr (by omega)) h10
  refine b_iln (pc2 := 21) d_Mo_touch_20 rfl rfl ?_
  refine b_bp (pc2 := 23) (x := Int32.ofNat 16) d_Mo_touch_21 rfl rfl ?_
  refine b_ifd (pc2 := 39) d_Mo_touch_23 rfl rfl rfl rfl rfl (fun h23 => ?_) (fun h23 => ?_)
  rotate_left
  · exact absurd (by decide) h23
  refine b_aln (pc2 := 40) d_Mo_touch_39 rfl rfl ?_
  refine b_gr (pc2 := 43) d_Mo_touch_40 q_11_81 (sh_130 n0) (by decide) (by decide) (p_130_33 n0) rfl ?_
  refine b_iln (pc2 := 44) d_Mo_touch_43 rfl rfl ?_
  refine b_ic (pc2 := 45) (x := Int32.ofNat 1) d_Mo_touch_44 rfl rfl ?_
  refine b_pure (pc2 := 46) d_Mo_touch_45 rfl rfl rfl ?_
  rw [i_sub (by omega), show a + 1 - 1 = a by omega]
  refine b_ia (pc2 := 47) (q := a) d_Mo_touch_46 (sh_153 n0) (i_in (show a < 10 by omega) (by decide)) (i_tn (by omega)) (rc_153) rfl ?_
  refine b_ic (pc2 := 48) (x := Int32.ofNat 2) d_Mo_touch_47 rfl rfl ?_
  refine b_pure (pc2 := 49) d_Mo_touch_48 rfl rfl rfl ?_
  refine b_isn (pc2 := 50) (al2 := [(3, _), (0, _), (1, _), (2, _)]) d_Mo_touch_49 (by decide) rfl rfl ?_
  refine b_iln (pc2 := 51) d_Mo_touch_50 rfl rfl ?_
  refine b_ifd (pc2 := 73) d_Mo_touch_51 rfl rfl rfl rfl rfl (fun h51 => ?_) (fun h51 => ?_)
  · exact absurd h51 (fun z => z hr)
  refine b_aln (pc2 := 55) d_Mo_touch_54 rfl rfl ?_
  refine b_iln (pc2 := 56) d_Mo_touch_55 rfl rfl ?_
  refine b_iln (pc2 := 57) d_Mo_touch_56 rfl rfl ?_
  refine b_bp (pc2 := 59) (x := Int32.ofNat 16) d_Mo_touch_57 rfl rfl ?_
  refine b_ifd (pc2 := 66) d_Mo_touch_59 rfl rfl rfl rfl rfl (fun h59 => ?_) (fun h59 => ?_)
  rotate_left
  · exact absurd (by decide) h59
  refine b_ic (pc2 := 67) (x := Int32.ofNat 3) d_Mo_touch_66 rfl rfl ?_
  refine b_cv0 (pc2 := 70) (c2 := 0) (u2 := 0) (hR e (by omega)) d_Mo_touch_67 q_11_193 (Nat.le_of_ble_eq_true rfl) rfl rfl (sh_130 n0) (Nat.le_of_ble_eq_true rfl) rfl rfl (by decide) (by decide) rfl ?_
  refine b_go (pc2 := 125) d_Mo_touch_70 rfl ?_
  refine b_vr d_Mo_touch_125 rfl ?_
  exact ⟨rfl, rfl, rfl, rfl, rfl⟩
theorem mo_touch_ok18 {d : Nat} (hd : 4 ≤ d) {a : Nat} {ct : Nat} (hc : J 130 31 = Int32.ofNat ct) (hct : ct ≤ 10) (hac : a < ct) (hr : ¬ J 153 a &&& Int32.ofNat 2 = 0) (hS : ∀ e, 3 ≤ e → bm e (S0 n0) R0 169 [.ref 130, .int (Int32.ofNat (a + 1))] W J g L (bR none W J1 g L)) : bm d (S0 n0) R0 167 [.ref 130, .int (Int32.ofNat 18), .int (Int32.ofNat (a + 1))] W J g L (bR none W J1 g L) := by
  obtain ⟨e, rfl⟩ : ∃ e, d = e + 1 := ⟨d - 1, by omega⟩
  refine bm_of (Nat.le_of_ble_eq_true rfl) (Or.inr bR_ret) ?_
  show bT e (S0 n0) R0 mt_Mo_touch _ 0 [(0, .ref 130), (1, .int (Int32.ofNat 18)), (2, .int (Int32.ofNat (a + 1)))] [] W J g L 0 0
  have hSR := SR0 n0
  refine b_iln (pc2 := 1) d_Mo_touch_0 rfl rfl ?_
  refine b_ic (pc2 := 2) (x := Int32.ofNat 1) d_Mo_touch_1 rfl rfl ?_
  refine b_ifd (pc2 := 13) d_Mo_touch_2 rfl rfl rfl rfl rfl (fun h2 => ?_) (fun h2 => ?_)
  · exact absurd h2 (fun z => by rw [i_lt (by omega) (by decide)] at z; omega)
  refine b_iln (pc2 := 6) d_Mo_touch_5 rfl rfl ?_
  refine b_aln (pc2 := 7) d_Mo_touch_6 rfl rfl ?_
  refine b_gi (pc2 := 10) d_Mo_touch_7 q_11_212 (sh_130 n0) (by decide) (by decide) (rc_130) rfl ?_
  rw [hc]
  refine b_ifd (pc2 := 20) d_Mo_touch_10 rfl rfl rfl rfl rfl (fun h10 => ?_) (fun h10 => ?_)
  rotate_left
  · exact absurd ((i_le (by omega) (by omega)).mpr (by omega)) h10
  refine b_iln (pc2 := 21) d_Mo_touch_20 rfl rfl ?_
  refine b_bp (pc2 := 23) (x := Int32.ofNat 16) d_Mo_touch_21 rfl rfl ?_
  refine b_ifd (pc2 := 39) d_Mo_touch_23 rfl rfl rfl rfl rfl (fun h23 => ?_) (fun h23 => ?_)
  rotate_left
  · exact absurd (by decide) h23
  refine b_aln (pc2 := 40) d_Mo_touch_39 rfl rfl ?_
  refine b_gr (pc2 := 43) d_Mo_touch_40 q_11_81 (sh_130 n0) (by decide) (by decide) (p_130_33 n0) rfl ?_
  refine b_iln (pc2 := 44) d_Mo_touch_43 rfl rfl ?_
  refine b_ic (pc2 := 45) (x := Int32.ofNat 1) d_Mo_touch_44 rfl rfl ?_
  refine b_pure (pc2 := 46) d_Mo_touch_45 rfl rfl rfl ?_
  rw [i_sub (by omega), show a + 1 - 1 = a by omega]
  refine b_ia (pc2 := 47) (q := a) d_Mo_touch_46 (sh_153 n0) (i_in (show a < 10 by omega) (by decide)) (i_tn (by omega)) (rc_153) rfl ?_
  refine b_ic (pc2 := 48) (x := Int32.ofNat 2) d_Mo_touch_47 rfl rfl ?_
  refine b_pure (pc2 := 49) d_Mo_touch_48 rfl rfl rfl ?_
  refine b_isn (pc2 := 50) (al2 := [(3, _), (0, _), (1, _), (2, _)]) d_Mo_touch_49 (by decide) rfl rfl ?_
  refine b_iln (pc2 := 51) d_Mo_touch_50 rfl rfl ?_
  refine b_ifd (pc2 := 73) d_Mo_touch_51 rfl rfl rfl rfl rfl (fun h51 => ?_) (fun h51 => ?_)
  rotate_left
  · exact absurd (hr) h51
  refine b_iln (pc2 := 74) d_Mo_touch_73 rfl rfl ?_
  refine b_bp (pc2 := 76) (x := Int32.ofNat 16) d_Mo_touch_74 rfl rfl ?_
  refine b_ifd (pc2 := 106) d_Mo_touch_76 rfl rfl rfl rfl rfl (fun h76 => ?_) (fun h76 => ?_)
  rotate_left
  · exact absurd (by decide) h76
  refine b_iln (pc2 := 107) d_Mo_touch_106 rfl rfl ?_
  refine b_bp (pc2 := 109) (x := Int32.ofNat 18) d_Mo_touch_107 rfl rfl ?_
  refine b_ifd (pc2 := 120) d_Mo_touch_109 rfl rfl rfl rfl rfl (fun h109 => ?_) (fun h109 => ?_)
  · exact absurd h109 (by decide)
  refine b_aln (pc2 := 113) d_Mo_touch_112 rfl rfl ?_
  refine b_iln (pc2 := 114) d_Mo_touch_113 rfl rfl ?_
  refine b_cv0 (pc2 := 117) (c2 := 0) (u2 := 0) (hS e (by omega)) d_Mo_touch_114 q_11_219 (Nat.le_of_ble_eq_true rfl) rfl rfl (sh_130 n0) (Nat.le_of_ble_eq_true rfl) rfl rfl (by decide) (by decide) rfl ?_
  refine b_go (pc2 := 125) d_Mo_touch_117 rfl ?_
  refine b_vr d_Mo_touch_125 rfl ?_
  exact ⟨rfl, rfl, rfl, rfl, rfl⟩
theorem mo_touch_no22 {d : Nat} (hd : 4 ≤ d) {a : Nat} {ct : Nat} (hc : J 130 31 = Int32.ofNat ct) (hct : ct ≤ 10) (hac : a < ct) (hr : J 153 a &&& Int32.ofNat 2 = 0) (hR : ∀ e, 2 ≤ e → bm e (S0 n0) R0 161 [.ref 130, .int (Int32.ofNat (a + 1)), .int (Int32.ofNat 3)] W J g L (bR none W J1 g L)) : bm d (S0 n0) R0 167 [.ref 130, .int (Int32.ofNat 22), .int (Int32.ofNat (a + 1))] W J g L (bR none W J1 g L) := by
  obtain ⟨e, rfl⟩ : ∃ e, d = e + 1 := ⟨d - 1, by omega⟩
  refine bm_of (Nat.le_of_ble_eq_true rfl) (Or.inr bR_ret) ?_
  show bT e (S0 n0) R0 mt_Mo_touch _ 0 [(0, .ref 130), (1, .int (Int32.ofNat 22)), (2, .int (Int32.ofNat (a + 1)))] [] W J g L 0 0
  have hSR := SR0 n0
  refine b_iln (pc2 := 1) d_Mo_touch_0 rfl rfl ?_
  refine b_ic (pc2 := 2) (x := Int32.ofNat 1) d_Mo_touch_1 rfl rfl ?_
  refine b_ifd (pc2 := 13) d_Mo_touch_2 rfl rfl rfl rfl rfl (fun h2 => ?_) (fun h2 => ?_)
  · exact absurd h2 (fun z => by rw [i_lt (by omega) (by decide)] at z; omega)
  refine b_iln (pc2 := 6) d_Mo_touch_5 rfl rfl ?_
  refine b_aln (pc2 := 7) d_Mo_touch_6 rfl rfl ?_
  refine b_gi (pc2 := 10) d_Mo_touch_7 q_11_212 (sh_130 n0) (by decide) (by decide) (rc_130) rfl ?_
  rw [hc]
  refine b_ifd (pc2 := 20) d_Mo_touch_10 rfl rfl rfl rfl rfl (fun h10 => ?_) (fun h10 => ?_)
  rotate_left
  · exact absurd ((i_le (by omega) (by omega)).mpr (by omega)) h10
  refine b_iln (pc2 := 21) d_Mo_touch_20 rfl rfl ?_
  refine b_bp (pc2 := 23) (x := Int32.ofNat 16) d_Mo_touch_21 rfl rfl ?_
  refine b_ifd (pc2 := 39) d_Mo_touch_23 rfl rfl rfl rfl rfl (fun h23 => ?_) (fun h23 => ?_)
  rotate_left
  · exact absurd (by decide) h23
  refine b_aln (pc2 := 40) d_Mo_touch_39 rfl rfl ?_
  refine b_gr (pc2 := 43) d_Mo_touch_40 q_11_81 (sh_130 n0) (by decide) (by decide) (p_130_33 n0) rfl ?_
  refine b_iln (pc2 := 44) d_Mo_touch_43 rfl rfl ?_
  refine b_ic (pc2 := 45) (x := Int32.ofNat 1) d_Mo_touch_44 rfl rfl ?_
  refine b_pure (pc2 := 46) d_Mo_touch_45 rfl rfl rfl ?_
  rw [i_sub (by omega), show a + 1 - 1 = a by omega]
  refine b_ia (pc2 := 47) (q := a) d_Mo_touch_46 (sh_153 n0) (i_in (show a < 10 by omega) (by decide)) (i_tn (by omega)) (rc_153) rfl ?_
  refine b_ic (pc2 := 48) (x := Int32.ofNat 2) d_Mo_touch_47 rfl rfl ?_
  refine b_pure (pc2 := 49) d_Mo_touch_48 rfl rfl rfl ?_
  refine b_isn (pc2 := 50) (al2 := [(3, _), (0, _), (1, _), (2, _)]) d_Mo_touch_49 (by decide) rfl rfl ?_
  refine b_iln (pc2 := 51) d_Mo_touch_50 rfl rfl ?_
  refine b_ifd (pc2 := 73) d_Mo_touch_51 rfl rfl rfl rfl rfl (fun h51 => ?_) (fun h51 => ?_)
  · exact absurd h51 (fun z => z hr)
  refine b_aln (pc2 := 55) d_Mo_touch_54 rfl rfl ?_
  refine b_iln (pc2 := 56) d_Mo_touch_55 rfl rfl ?_
  refine b_iln (pc2 := 57) d_Mo_touch_56 rfl rfl ?_
  refine b_bp (pc2 := 59) (x := Int32.ofNat 16) d_Mo_touch_57 rfl rfl ?_
  refine b_ifd (pc2 := 66) d_Mo_touch_59 rfl rfl rfl rfl rfl (fun h59 => ?_) (fun h59 => ?_)
  rotate_left
  · exact absurd (by decide) h59
  refine b_ic (pc2 := 67) (x := Int32.ofNat 3) d_Mo_touch_66 rfl rfl ?_
  refine b_cv0 (pc2 := 70) (c2 := 0) (u2 := 0) (hR e (by omega)) d_Mo_touch_67 q_11_193 (Nat.le_of_ble_eq_true rfl) rfl rfl (sh_130 n0) (Nat.le_of_ble_eq_true rfl) rfl rfl (by decide) (by decide) rfl ?_
  refine b_go (pc2 := 125) d_Mo_touch_70 rfl ?_
  refine b_vr d_Mo_touch_125 rfl ?_
  exact ⟨rfl, rfl, rfl, rfl, rfl⟩
theorem mo_touch_ok22 {d : Nat} (hd : 4 ≤ d) {a : Nat} {ct : Nat} (hc : J 130 31 = Int32.ofNat ct) (hct : ct ≤ 10) (hac : a < ct) (hr : ¬ J 153 a &&& Int32.ofNat 2 = 0) (hS : ∀ e, 3 ≤ e → bm e (S0 n0) R0 170 [.ref 130, .int (Int32.ofNat (a + 1))] W J g L (bR none W J1 g L)) : bm d (S0 n0) R0 167 [.ref 130, .int (Int32.ofNat 22), .int (Int32.ofNat (a + 1))] W J g L (bR none W J1 g L) := by
  obtain ⟨e, rfl⟩ : ∃ e, d = e + 1 := ⟨d - 1, by omega⟩
  refine bm_of (Nat.le_of_ble_eq_true rfl) (Or.inr bR_ret) ?_
  show bT e (S0 n0) R0 mt_Mo_touch _ 0 [(0, .ref 130), (1, .int (Int32.ofNat 22)), (2, .int (Int32.ofNat (a + 1)))] [] W J g L 0 0
  have hSR := SR0 n0
  refine b_iln (pc2 := 1) d_Mo_touch_0 rfl rfl ?_
  refine b_ic (pc2 := 2) (x := Int32.ofNat 1) d_Mo_touch_1 rfl rfl ?_
  refine b_ifd (pc2 := 13) d_Mo_touch_2 rfl rfl rfl rfl rfl (fun h2 => ?_) (fun h2 => ?_)
  · exact absurd h2 (fun z => by rw [i_lt (by omega) (by decide)] at z; omega)
  refine b_iln (pc2 := 6) d_Mo_touch_5 rfl rfl ?_
  refine b_aln (pc2 := 7) d_Mo_touch_6 rfl rfl ?_
  refine b_gi (pc2 := 10) d_Mo_touch_7 q_11_212 (sh_130 n0) (by decide) (by decide) (rc_130) rfl ?_
  rw [hc]
  refine b_ifd (pc2 := 20) d_Mo_touch_10 rfl rfl rfl rfl rfl (fun h10 => ?_) (fun h10 => ?_)
  rotate_left
  · exact absurd ((i_le (by omega) (by omega)).mpr (by omega)) h10
  refine b_iln (pc2 := 21) d_Mo_touch_20 rfl rfl ?_
  refine b_bp (pc2 := 23) (x := Int32.ofNat 16) d_Mo_touch_21 rfl rfl ?_
  refine b_ifd (pc2 := 39) d_Mo_touch_23 rfl rfl rfl rfl rfl (fun h23 => ?_) (fun h23 => ?_)
  rotate_left
  · exact absurd (by decide) h23
  refine b_aln (pc2 := 40) d_Mo_touch_39 rfl rfl ?_
  refine b_gr (pc2 := 43) d_Mo_touch_40 q_11_81 (sh_130 n0) (by decide) (by decide) (p_130_33 n0) rfl ?_
  refine b_iln (pc2 := 44) d_Mo_touch_43 rfl rfl ?_
  refine b_ic (pc2 := 45) (x := Int32.ofNat 1) d_Mo_touch_44 rfl rfl ?_
  refine b_pure (pc2 := 46) d_Mo_touch_45 rfl rfl rfl ?_
  rw [i_sub (by omega), show a + 1 - 1 = a by omega]
  refine b_ia (pc2 := 47) (q := a) d_Mo_touch_46 (sh_153 n0) (i_in (show a < 10 by omega) (by decide)) (i_tn (by omega)) (rc_153) rfl ?_
  refine b_ic (pc2 := 48) (x := Int32.ofNat 2) d_Mo_touch_47 rfl rfl ?_
  refine b_pure (pc2 := 49) d_Mo_touch_48 rfl rfl rfl ?_
  refine b_isn (pc2 := 50) (al2 := [(3, _), (0, _), (1, _), (2, _)]) d_Mo_touch_49 (by decide) rfl rfl ?_
  refine b_iln (pc2 := 51) d_Mo_touch_50 rfl rfl ?_
  refine b_ifd (pc2 := 73) d_Mo_touch_51 rfl rfl rfl rfl rfl (fun h51 => ?_) (fun h51 => ?_)
  rotate_left
  · exact absurd (hr) h51
  refine b_iln (pc2 := 74) d_Mo_touch_73 rfl rfl ?_
  refine b_bp (pc2 := 76) (x := Int32.ofNat 16) d_Mo_touch_74 rfl rfl ?_
  refine b_ifd (pc2 := 106) d_Mo_touch_76 rfl rfl rfl rfl rfl (fun h76 => ?_) (fun h76 => ?_)
  rotate_left
  · exact absurd (by decide) h76
  refine b_iln (pc2 := 107) d_Mo_touch_106 rfl rfl ?_
  refine b_bp (pc2 := 109) (x := Int32.ofNat 18) d_Mo_touch_107 rfl rfl ?_
  refine b_ifd (pc2 := 120) d_Mo_touch_109 rfl rfl rfl rfl rfl (fun h109 => ?_) (fun h109 => ?_)
  rotate_left
  · exact absurd (by decide) h109
  refine b_aln (pc2 := 121) d_Mo_touch_120 rfl rfl ?_
  refine b_iln (pc2 := 122) d_Mo_touch_121 rfl rfl ?_
  refine b_cv0 (pc2 := 125) (c2 := 0) (u2 := 0) (hS e (by omega)) d_Mo_touch_122 q_11_222 (Nat.le_of_ble_eq_true rfl) rfl rfl (sh_130 n0) (Nat.le_of_ble_eq_true rfl) rfl rfl (by decide) (by decide) rfl ?_
  refine b_vr d_Mo_touch_125 rfl ?_
  exact ⟨rfl, rfl, rfl, rfl, rfl⟩
end MR
