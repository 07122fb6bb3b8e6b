/-! Part 86 (written by gen36.py): the reference: keep -/
theorem u1_comm {α : Type} (f : Nat → α) {a b : Nat} (x y : α) (h : ¬ a = b) : am_u1 (am_u1 f a x) b y = am_u1 (am_u1 f b y) a x := by
  funext c
  by_cases h1 : c = a
  · subst h1
    rw [u1_ne _ _ h, u1_at, u1_at]
  · by_cases h2 : c = b
    · subst h2
      rw [u1_at, u1_ne _ _ h1, u1_at]
    · rw [u1_ne _ _ h2, u1_ne _ _ h1, u1_ne _ _ h1, u1_ne _ _ h2]
theorem mkJ_c (J : bw_J) (l : List Int32) {c : Nat} (h1 : ¬ c = 151) (h2 : ¬ c = 130) : mkJ J l c = J c := by
  unfold mkJ
  rw [u2_a _ _ h2, u1_ne _ _ h1]
theorem mkJ_f (J : bw_J) (l : List Int32) {k : Nat} (h : ¬ k = 29) : mkJ J l 130 k = J 130 k := by
  unfold mkJ
  rw [u2_k _ _ h, u1_ne _ _ (by decide)]
theorem mkJ_u1 (J : bw_J) (l : List Int32) {c : Nat} (p : Nat → Int32) (h1 : ¬ c = 151) (h2 : ¬ c = 130) : am_u1 (mkJ J l) c p = mkJ (am_u1 J c p) l := by
  unfold mkJ
  rw [u12c _ _ _ h2, u1_comm _ _ _ (fun z => h1 z.symm), u1_ne _ _ (fun z => h1 z.symm)]
theorem mkJ_u2 (J : bw_J) (l : List Int32) {c i : Nat} (x : Int32) (h1 : ¬ c = 151) (h2 : ¬ c = 130) : am_u2 (mkJ J l) c i x = mkJ (am_u2 J c i x) l := by
  rw [u2_u1 (mkJ J l), u2_u1 J, mkJ_c J l h1 h2, mkJ_u1 J l _ h1 h2]
section MP
variable {n0 : Nat} {W : bw_W} {J : bw_J} {g : Nat} {L : bw_L}
variable {J1 : bw_J} {Qh : am_O → am_H → Prop}
theorem lp_keep {e : Nat} (he : 1 ≤ e) {p n : Nat} {h0 x0 x1 x2 : Int32} (hp : J 130 39 = Int32.ofNat p) (hp4 : p < 4) (hn : J 130 27 = Int32.ofNat n) (hn3 : 3 ≤ n) (hn20 : n ≤ 20) (hb : ∀ k, k < n → J 150 k &&& 255 = J 150 k) (K : bH e (S0 n0) R0 mt_Mo_keep Qh 125 [(0, .ref 130)] [] W (mkJ (am_u1 J 160 (ovw (20 * p) (lst (J 150) 3 (n - 3)) (J 160))) (x0 :: x1 :: x2 :: lst (J 150) 3 (n - 3))) g L 0 0) : ∀ (r j : Nat), j + r = n - 3 → bH e (S0 n0) R0 mt_Mo_keep Qh 79 [(2, .int (Int32.ofNat (3 + j))), (0, .ref 130), (1, .int h0)] [] W (mkJ (am_u1 J 160 (ovw (20 * p) (lst (J 150) 3 j) (J 160))) (x0 :: x1 :: x2 :: lst (J 150) 3 j)) g L 0 0 := by
  have hSR := SR0 n0
  intro r
  induction r with
  | zero =>
    intro j hj
    refine b_iln (pc2 := 80) d_Mo_keep_79 rfl rfl ?_
    refine b_aln (pc2 := 81) d_Mo_keep_80 rfl rfl ?_
    refine b_gi (pc2 := 84) d_Mo_keep_81 q_11_174 (sh_130 n0) (by decide) (by decide) (rc_130) rfl ?_
    rw [mkJ_f _ _ (by decide), u1_ne _ _ (by decide), hn]
    refine b_ifd (pc2 := 125) d_Mo_keep_84 rfl rfl rfl rfl rfl (fun h84 => ?_) (fun h84 => ?_)
    rotate_left
    · exact absurd ((i_le (by omega) (by omega)).mpr (by omega)) h84
    refine b_nf (al := [(0, _)]) (ks := [0]) (sub_c rfl (sub_n)) rfl (by decide) ?_
    dsimp only
    rw [show j = n - 3 by omega]
    exact K
  | succ r ih =>
    intro j hj
    refine b_iln (pc2 := 80) d_Mo_keep_79 rfl rfl ?_
    refine b_aln (pc2 := 81) d_Mo_keep_80 rfl rfl ?_
    refine b_gi (pc2 := 84) d_Mo_keep_81 q_11_174 (sh_130 n0) (by decide) (by decide) (rc_130) rfl ?_
    rw [mkJ_f _ _ (by decide), u1_ne _ _ (by decide), hn]
    refine b_ifd (pc2 := 125) d_Mo_keep_84 rfl rfl rfl rfl rfl (fun h84 => ?_) (fun h84 => ?_)
    · exact absurd h84 (fun z => by rw [i_le (by omega) (by omega)] at z; omega)
    refine b_aln (pc2 := 88) d_Mo_keep_87 rfl rfl ?_
    refine b_gr (pc2 := 91) d_Mo_keep_88 q_11_105 (sh_130 n0) (by decide) (by decide) (p_130_43 n0) rfl ?_
    refine b_bp (pc2 := 93) (x := Int32.ofNat 20) d_Mo_keep_91 rfl rfl ?_
    refine b_aln (pc2 := 94) d_Mo_keep_93 rfl rfl ?_
    refine b_gi (pc2 := 97) d_Mo_keep_94 q_11_225 (sh_130 n0) (by decide) (by decide) (rc_130) rfl ?_
    rw [mkJ_f _ _ (by decide), u1_ne _ _ (by decide), hp]
    refine b_pure (pc2 := 98) d_Mo_keep_97 rfl rfl rfl ?_
    rw [i_mul]
    refine b_iln (pc2 := 99) d_Mo_keep_98 rfl rfl ?_
    refine b_pure (pc2 := 100) d_Mo_keep_99 rfl rfl rfl ?_
    rw [i_add]
    refine b_ic (pc2 := 101) (x := Int32.ofNat 3) d_Mo_keep_100 rfl rfl ?_
    refine b_pure (pc2 := 102) d_Mo_keep_101 rfl rfl rfl ?_
    rw [i_sub (by omega)]
    refine b_aln (pc2 := 103) d_Mo_keep_102 rfl rfl ?_
    refine b_gr (pc2 := 106) d_Mo_keep_103 q_11_72 (sh_130 n0) (by decide) (by decide) (p_130_28 n0) rfl ?_
    refine b_iln (pc2 := 107) d_Mo_keep_106 rfl rfl ?_
    refine b_ia (pc2 := 108) (q := (3 + j)) d_Mo_keep_107 (sh_150 n0) (i_in (show 3 + j < 24 by omega) (by decide)) (i_tn (by omega)) (rc_150) rfl ?_
    rw [mkJ_c _ _ (by decide) (by decide), u1_ne _ _ (by decide)]
    refine b_ist (pc2 := 109) (q := (20 * p + (3 + j) - 3)) d_Mo_keep_108 (sh_160 n0) (i_in (show 20 * p + (3 + j) - 3 < 80 by omega) (by decide)) (i_tn (by omega)) (rc_160) rfl ?_
    have hlen : 20 * p + (3 + j) - 3 = 20 * p + (lst (J 150) 3 j).length := by rw [lst_len]; omega
    rw [mkJ_u2 _ _ _ (by decide) (by decide), u21, hlen, ovw_step, ← lst_app]
    refine b_aln (pc2 := 110) d_Mo_keep_109 rfl rfl ?_
    refine b_aln (pc2 := 111) d_Mo_keep_110 rfl rfl ?_
    refine b_gr (pc2 := 114) d_Mo_keep_111 q_11_72 (sh_130 n0) (by decide) (by decide) (p_130_28 n0) rfl ?_
    refine b_iln (pc2 := 115) d_Mo_keep_114 rfl rfl ?_
    refine b_ia (pc2 := 116) (q := (3 + j)) d_Mo_keep_115 (sh_150 n0) (i_in (show 3 + j < 24 by omega) (by decide)) (i_tn (by omega)) (rc_150) rfl ?_
    rw [mkJ_c _ _ (by decide) (by decide), u1_ne _ _ (by decide)]
    refine b_cv0 (pc2 := 119) (c2 := 0) (u2 := 0) (mo_lay (by omega) (by rw [List.length_cons, List.length_cons, List.length_cons, lst_len]; omega)) d_Mo_keep_116 q_11_186 (Nat.le_of_ble_eq_true rfl) rfl rfl (sh_130 n0) (Nat.le_of_ble_eq_true rfl) rfl rfl (by decide) (by decide) rfl ?_
    rw [hb _ (by omega), List.cons_append, List.cons_append, List.cons_append, ← lst_app]
    refine b_inc (pc2 := 122) (al2 := [(2, _), (0, _), (1, _)]) (y := Int32.ofNat 1) d_Mo_keep_119 (by decide) rfl rfl rfl rfl ?_
    refine b_go (pc2 := 79) d_Mo_keep_122 rfl ?_
    refine b_nf (al := [(2, _), (0, _), (1, _)]) (ks := [2, 0, 1]) (sub_c rfl (sub_c rfl (sub_c rfl (sub_n)))) rfl (by decide) ?_
    dsimp only
    rw [i_add]
    exact ih (j + 1) (by omega)
theorem mo_keep0 {d : Nat} (hd : 3 ≤ d) {h : Nat} (hp : J 130 39 = Int32.ofNat 4) (hR : ∀ e, 2 ≤ e → bm e (S0 n0) R0 161 [.ref 130, .int (Int32.ofNat h), .int (Int32.ofNat 9)] W J g L (bR none W J1 g L)) : bm d (S0 n0) R0 170 [.ref 130, .int (Int32.ofNat h)] W J g L (bR none W J1 g L) := by
  obtain ⟨e, rfl⟩ : ∃ e, d = e + 1 := ⟨d - 1, by omega⟩
  refine bm_of (Nat.le_of_ble_eq_true rfl) (Or.inr bR_ret) ?_
  show bT e (S0 n0) R0 mt_Mo_keep _ 0 [(0, .ref 130), (1, .int (Int32.ofNat h))] [] W J g L 0 0
  have hSR := SR0 n0
  refine b_aln (pc2 := 1) d_Mo_keep_0 rfl rfl ?_
  refine b_gi (pc2 := 4) d_Mo_keep_1 q_11_225 (sh_130 n0) (by decide) (by decide) (rc_130) rfl ?_
  rw [hp]
  refine b_ic (pc2 := 5) (x := Int32.ofNat 4) d_Mo_keep_4 rfl rfl ?_
  refine b_ifd (pc2 := 16) d_Mo_keep_5 rfl rfl rfl rfl rfl (fun h5 => ?_) (fun h5 => ?_)
  · exact absurd h5 (fun z => z rfl)
  refine b_aln (pc2 := 9) d_Mo_keep_8 rfl rfl ?_
  refine b_iln (pc2 := 10) d_Mo_keep_9 rfl rfl ?_
  refine b_bp (pc2 := 12) (x := Int32.ofNat 9) d_Mo_keep_10 rfl rfl ?_
  refine b_cv0 (pc2 := 15) (c2 := 0) (u2 := 0) (hR e (by omega)) d_Mo_keep_12 q_11_193 (Nat.le_of_ble_eq_true rfl) rfl rfl (sh_130 n0) (Nat.le_of_ble_eq_true rfl) rfl rfl (by decide) (by decide) rfl ?_
  refine b_vr d_Mo_keep_15 rfl ?_
  exact ⟨rfl, rfl, rfl, rfl, rfl⟩
theorem mo_keep1 {d : Nat} (hd : 3 ≤ d) {h p n : Nat} (hh : h < 256) (hp : J 130 39 = Int32.ofNat p) (hp4 : p < 4) (hn : J 130 27 = Int32.ofNat n) (hn3 : 3 ≤ n) (hn20 : n ≤ 20) (hb : ∀ k, k < n → J 150 k &&& 255 = J 150 k) (hG : ∀ e, 1 ≤ e → bm e (S0 n0) R0 135 [.ref 130, .int (Int32.ofNat 1)] W (am_u2 (mkJ (am_u1 (am_u2 (am_u2 (am_u2 J 157 p (Int32.ofNat h)) 158 p (J 150 2)) 159 p (Int32.ofNat (n - 3))) 160 (ovw (20 * p) (lst (J 150) 3 (n - 3)) (J 160))) (Int32.ofNat 23 :: Int32.ofNat h :: J 150 2 :: lst (J 150) 3 (n - 3))) 130 39 (Int32.ofNat (p + 1))) g L (bR none W J1 g L)) : bm d (S0 n0) R0 170 [.ref 130, .int (Int32.ofNat h)] W J g L (bR none W J1 g L) := by
  obtain ⟨e, rfl⟩ : ∃ e, d = e + 1 := ⟨d - 1, by omega⟩
  refine bm_of (Nat.le_of_ble_eq_true rfl) (Or.inr bR_ret) ?_
  show bT e (S0 n0) R0 mt_Mo_keep _ 0 [(0, .ref 130), (1, .int (Int32.ofNat h))] [] W J g L 0 0
  have hSR := SR0 n0
  refine b_aln (pc2 := 1) d_Mo_keep_0 rfl rfl ?_
  refine b_gi (pc2 := 4) d_Mo_keep_1 q_11_225 (sh_130 n0) (by decide) (by decide) (rc_130) rfl ?_
  rw [hp]
  refine b_ic (pc2 := 5) (x := Int32.ofNat 4) d_Mo_keep_4 rfl rfl ?_
  refine b_ifd (pc2 := 16) d_Mo_keep_5 rfl rfl rfl rfl rfl (fun h5 => ?_) (fun h5 => ?_)
  rotate_left
  · exact absurd (fun z => by rw [i_eq (by omega) (by decide)] at z; omega) h5
  refine b_aln (pc2 := 17) d_Mo_keep_16 rfl rfl ?_
  refine b_gr (pc2 := 20) d_Mo_keep_17 q_11_96 (sh_130 n0) (by decide) (by decide) (p_130_40 n0) rfl ?_
  refine b_aln (pc2 := 21) d_Mo_keep_20 rfl rfl ?_
  refine b_gi (pc2 := 24) d_Mo_keep_21 q_11_225 (sh_130 n0) (by decide) (by decide) (rc_130) rfl ?_
  rw [hp]
  refine b_iln (pc2 := 25) d_Mo_keep_24 rfl rfl ?_
  refine b_ist (pc2 := 26) (q := p) d_Mo_keep_25 (sh_157 n0) (i_in hp4 (by decide)) (i_tn (by omega)) (rc_157) rfl ?_
  refine b_aln (pc2 := 27) d_Mo_keep_26 rfl rfl ?_
  refine b_gr (pc2 := 30) d_Mo_keep_27 q_11_99 (sh_130 n0) (by decide) (by decide) (p_130_41 n0) rfl ?_
  refine b_aln (pc2 := 31) d_Mo_keep_30 rfl rfl ?_
  refine b_gi (pc2 := 34) d_Mo_keep_31 q_11_225 (sh_130 n0) (by decide) (by decide) (rc_130) rfl ?_
  rw [u2_a _ _ (by decide), hp]
  refine b_aln (pc2 := 35) d_Mo_keep_34 rfl rfl ?_
  refine b_gr (pc2 := 38) d_Mo_keep_35 q_11_72 (sh_130 n0) (by decide) (by decide) (p_130_28 n0) rfl ?_
  refine b_ic (pc2 := 39) (x := Int32.ofNat 2) d_Mo_keep_38 rfl rfl ?_
  refine b_ia (pc2 := 40) (q := 2) d_Mo_keep_39 (sh_150 n0) (i_in (i := 2) (by decide) (by decide)) (rfl) (rc_150) rfl ?_
  rw [u2_a _ _ (by decide)]
  refine b_ist (pc2 := 41) (q := p) d_Mo_keep_40 (sh_158 n0) (i_in hp4 (by decide)) (i_tn (by omega)) (rc_158) rfl ?_
  refine b_aln (pc2 := 42) d_Mo_keep_41 rfl rfl ?_
  refine b_gr (pc2 := 45) d_Mo_keep_42 q_11_102 (sh_130 n0) (by decide) (by decide) (p_130_42 n0) rfl ?_
  refine b_aln (pc2 := 46) d_Mo_keep_45 rfl rfl ?_
  refine b_gi (pc2 := 49) d_Mo_keep_46 q_11_225 (sh_130 n0) (by decide) (by decide) (rc_130) rfl ?_
  rw [u2_a _ _ (by decide), u2_a _ _ (by decide), hp]
  refine b_aln (pc2 := 50) d_Mo_keep_49 rfl rfl ?_
  refine b_gi (pc2 := 53) d_Mo_keep_50 q_11_174 (sh_130 n0) (by decide) (by decide) (rc_130) rfl ?_
  rw [u2_a _ _ (by decide), u2_a _ _ (by decide), hn]
  refine b_ic (pc2 := 54) (x := Int32.ofNat 3) d_Mo_keep_53 rfl rfl ?_
  refine b_pure (pc2 := 55) d_Mo_keep_54 rfl rfl rfl ?_
  rw [i_sub (by omega)]
  refine b_ist (pc2 := 56) (q := p) d_Mo_keep_55 (sh_159 n0) (i_in hp4 (by decide)) (i_tn (by omega)) (rc_159) rfl ?_
  refine b_aln (pc2 := 57) d_Mo_keep_56 rfl rfl ?_
  refine b_bp (pc2 := 59) (x := Int32.ofNat 23) d_Mo_keep_57 rfl rfl ?_
  refine b_cv0 (pc2 := 62) (c2 := 0) (u2 := 0) (mo_start (by omega)) d_Mo_keep_59 q_11_183 (Nat.le_of_ble_eq_true rfl) rfl rfl (sh_130 n0) (Nat.le_of_ble_eq_true rfl) rfl rfl (by decide) (by decide) rfl ?_
  rw [show Int32.ofNat 23 &&& 255 = Int32.ofNat 23 from rfl]
  refine b_aln (pc2 := 63) d_Mo_keep_62 rfl rfl ?_
  refine b_iln (pc2 := 64) d_Mo_keep_63 rfl rfl ?_
  refine b_cv0 (pc2 := 67) (c2 := 0) (u2 := 0) (mo_lay (by omega) (by show 1 < 40; decide)) d_Mo_keep_64 q_11_186 (Nat.le_of_ble_eq_true rfl) rfl rfl (sh_130 n0) (Nat.le_of_ble_eq_true rfl) rfl rfl (by decide) (by decide) rfl ?_
  rw [b255 hh]
  refine b_aln (pc2 := 68) d_Mo_keep_67 rfl rfl ?_
  refine b_aln (pc2 := 69) d_Mo_keep_68 rfl rfl ?_
  refine b_gr (pc2 := 72) d_Mo_keep_69 q_11_72 (sh_130 n0) (by decide) (by decide) (p_130_28 n0) rfl ?_
  refine b_ic (pc2 := 73) (x := Int32.ofNat 2) d_Mo_keep_72 rfl rfl ?_
  refine b_ia (pc2 := 74) (q := 2) d_Mo_keep_73 (sh_150 n0) (i_in (i := 2) (by decide) (by decide)) (rfl) (rc_150) rfl ?_
  rw [mkJ_c _ _ (by decide) (by decide), u2_a _ _ (by decide), u2_a _ _ (by decide), u2_a _ _ (by decide)]
  refine b_cv0 (pc2 := 77) (c2 := 0) (u2 := 0) (mo_lay (by omega) (by show 2 < 40; decide)) d_Mo_keep_74 q_11_186 (Nat.le_of_ble_eq_true rfl) rfl rfl (sh_130 n0) (Nat.le_of_ble_eq_true rfl) rfl rfl (by decide) (by decide) rfl ?_
  rw [hb 2 (by omega)]
  refine b_ic (pc2 := 78) (x := Int32.ofNat 3) d_Mo_keep_77 rfl rfl ?_
  refine b_isn (pc2 := 79) (al2 := [(2, _), (0, _), (1, _)]) d_Mo_keep_78 (by decide) rfl rfl ?_
  refine b_nf (al := [(2, _), (0, _), (1, _)]) (ks := [2, 0, 1]) (sub_c rfl (sub_c rfl (sub_c rfl (sub_n)))) rfl (by decide) ?_
  dsimp only
  have hK : ∀ c, ¬ c = 157 → ¬ c = 158 → ¬ c = 159 → (am_u2 (am_u2 (am_u2 J 157 p (Int32.ofNat h)) 158 p (J 150 2)) 159 p (Int32.ofNat (n - 3))) c = J c := fun c a1 a2 a3 => by rw [u2_a _ _ a3, u2_a _ _ a2, u2_a _ _ a1]
  refine (fun z => ?_ : _ → _) (lp_keep (n0 := n0) (W := W) (J := (am_u2 (am_u2 (am_u2 J 157 p (Int32.ofNat h)) 158 p (J 150 2)) 159 p (Int32.ofNat (n - 3)))) (g := g) (L := L) (e := e) (p := p) (n := n) (h0 := Int32.ofNat h) (x0 := Int32.ofNat 23) (x1 := Int32.ofNat h) (x2 := J 150 2) (Qh := bw_Q (S0 n0) R0 (bR none W J1 g L)) (by omega) (by rw [hK 130 (by decide) (by decide) (by decide)]; exact hp) hp4 (by rw [hK 130 (by decide) (by decide) (by decide)]; exact hn) hn3 hn20 (by rw [hK 150 (by decide) (by decide) (by decide)]; exact hb) ?_ (n - 3) 0 (by omega))
  · rw [show lst ((am_u2 (am_u2 (am_u2 J 157 p (Int32.ofNat h)) 158 p (J 150 2)) 159 p (Int32.ofNat (n - 3))) 150) 3 0 = [] from rfl, ovw_nil, u1_id] at z
    exact z
  · rw [hK 150 (by decide) (by decide) (by decide), hK 160 (by decide) (by decide) (by decide)]
    refine b_aln (pc2 := 126) d_Mo_keep_125 rfl rfl ?_
    refine b_pure (pc2 := 127) d_Mo_keep_126 rfl rfl rfl ?_
    refine b_gi (pc2 := 130) d_Mo_keep_127 q_11_225 (sh_130 n0) (by decide) (by decide) (rc_130) rfl ?_
    rw [mkJ_f _ _ (by decide), u1_ne _ _ (by decide), hK 130 (by decide) (by decide) (by decide), hp]
    refine b_ic (pc2 := 131) (x := Int32.ofNat 1) d_Mo_keep_130 rfl rfl ?_
    refine b_pure (pc2 := 132) d_Mo_keep_131 rfl rfl rfl ?_
    rw [i_add]
    refine b_pi (pc2 := 135) d_Mo_keep_132 q_11_225 (sh_130 n0) (by decide) (Or.inl (by decide)) (Or.inl rfl) (rc_130) rfl ?_
    refine b_aln (pc2 := 136) d_Mo_keep_135 rfl rfl ?_
    refine b_ic (pc2 := 137) (x := Int32.ofNat 1) d_Mo_keep_136 rfl rfl ?_
    refine b_cv0 (pc2 := 140) (c2 := 0) (u2 := 0) (hG e (by omega)) d_Mo_keep_137 q_11_149 (Nat.le_of_ble_eq_true rfl) rfl rfl (sh_130 n0) (Nat.le_of_ble_eq_true rfl) rfl rfl (by decide) (by decide) rfl ?_
    refine b_vr d_Mo_keep_140 rfl ?_
    exact ⟨rfl, rfl, rfl, rfl, rfl⟩
end MP
