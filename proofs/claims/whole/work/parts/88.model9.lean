/-! Part 88 (written by gen38.py): the reference: limits, found, writeOn -/
section ML
variable {n0 : Nat} {W : bw_W} {J : bw_J} {g : Nat} {L : bw_L}
variable {J1 : bw_J}
theorem mo_limits0 {d : Nat} (hd : 2 ≤ d) {n : Nat} (hn : J 130 27 = Int32.ofNat n) (hn20 : n ≤ 20) (hx : n < 2) : bm d (S0 n0) R0 156 [.ref 130] W J g L (bR none W (am_u2 (am_u2 J 130 47 (Int32.ofNat 2)) 130 48 (Int32.ofNat 14)) g L) := by
  obtain ⟨e, rfl⟩ : ∃ e, d = e + 1 := ⟨d - 1, by omega⟩
  refine bm_of (Nat.le_of_ble_eq_true rfl) (Or.inr bR_ret) ?_
  show bT e (S0 n0) R0 mt_Mo_limits _ 0 [(0, .ref 130)] [] W J g L 0 0
  have hSR := SR0 n0
  refine b_aln (pc2 := 1) d_Mo_limits_0 rfl rfl ?_
  refine b_gi (pc2 := 4) d_Mo_limits_1 q_11_174 (sh_130 n0) (by decide) (by decide) (rc_130) rfl ?_
  rw [hn]
  refine b_ic (pc2 := 5) (x := Int32.ofNat 2) d_Mo_limits_4 rfl rfl ?_
  refine b_ifd (pc2 := 16) d_Mo_limits_5 rfl rfl rfl rfl rfl (fun h5 => ?_) (fun h5 => ?_)
  · exact absurd h5 (fun z => by rw [i_le (by decide) (by omega)] at z; omega)
  refine b_aln (pc2 := 9) d_Mo_limits_8 rfl rfl ?_
  refine b_ic (pc2 := 10) (x := Int32.ofNat 2) d_Mo_limits_9 rfl rfl ?_
  refine b_bp (pc2 := 12) (x := Int32.ofNat 14) d_Mo_limits_10 rfl rfl ?_
  refine b_cv0 (pc2 := 15) (c2 := 0) (u2 := 0) (mo_end (by omega)) d_Mo_limits_12 q_11_247 (Nat.le_of_ble_eq_true rfl) rfl rfl (sh_130 n0) (Nat.le_of_ble_eq_true rfl) rfl rfl (by decide) (by decide) rfl ?_
  refine b_vr d_Mo_limits_15 rfl ?_
  exact ⟨rfl, rfl, rfl, rfl, rfl⟩
theorem mo_found0 {d : Nat} (hd : 2 ≤ d) {n : Nat} (hn : J 130 27 = Int32.ofNat n) (hn20 : n ≤ 20) (hx : n < 2) : bm d (S0 n0) R0 158 [.ref 130] W J g L (bR none W (am_u2 (am_u2 J 130 47 (Int32.ofNat 2)) 130 48 (Int32.ofNat 14)) g L) := by
  obtain ⟨e, rfl⟩ : ∃ e, d = e + 1 := ⟨d - 1, by omega⟩
  refine bm_of (Nat.le_of_ble_eq_true rfl) (Or.inr bR_ret) ?_
  show bT e (S0 n0) R0 mt_Mo_found _ 0 [(0, .ref 130)] [] W J g L 0 0
  have hSR := SR0 n0
  refine b_aln (pc2 := 1) d_Mo_found_0 rfl rfl ?_
  refine b_gi (pc2 := 4) d_Mo_found_1 q_11_174 (sh_130 n0) (by decide) (by decide) (rc_130) rfl ?_
  rw [hn]
  refine b_ic (pc2 := 5) (x := Int32.ofNat 2) d_Mo_found_4 rfl rfl ?_
  refine b_ifd (pc2 := 16) d_Mo_found_5 rfl rfl rfl rfl rfl (fun h5 => ?_) (fun h5 => ?_)
  · exact absurd h5 (fun z => by rw [i_le (by decide) (by omega)] at z; omega)
  refine b_aln (pc2 := 9) d_Mo_found_8 rfl rfl ?_
  refine b_ic (pc2 := 10) (x := Int32.ofNat 2) d_Mo_found_9 rfl rfl ?_
  refine b_bp (pc2 := 12) (x := Int32.ofNat 14) d_Mo_found_10 rfl rfl ?_
  refine b_cv0 (pc2 := 15) (c2 := 0) (u2 := 0) (mo_end (by omega)) d_Mo_found_12 q_11_247 (Nat.le_of_ble_eq_true rfl) rfl rfl (sh_130 n0) (Nat.le_of_ble_eq_true rfl) rfl rfl (by decide) (by decide) rfl ?_
  refine b_vr d_Mo_found_15 rfl ?_
  exact ⟨rfl, rfl, rfl, rfl, rfl⟩
theorem ml_ok {m : Nat} {x : Int32} (h : x = Int32.ofNat m) (hm : m < 256) : x = Int32.ofNat m := h
theorem mo_limits1 {d : Nat} (hd : 2 ≤ d) {n : Nat} (hn : J 130 27 = Int32.ofNat n) (hn20 : n ≤ 20) (hx : 2 ≤ n) {ab b1 : Nat} (ha : J 130 46 = Int32.ofNat ab) (ha2 : ab < 256) (hb : J 150 1 = Int32.ofNat b1) (hb2 : b1 < 256) {lm : Nat} (hl : lm = max 8 (min 20 (min ab b1))) : bm d (S0 n0) R0 156 [.ref 130] W J g L (bR none W (am_u2 (am_u2 (am_u2 J 130 44 (Int32.ofNat lm)) 130 47 (Int32.ofNat 1)) 130 48 (Int32.ofNat 0)) g L) := by
  obtain ⟨e, rfl⟩ : ∃ e, d = e + 1 := ⟨d - 1, by omega⟩
  refine bm_of (Nat.le_of_ble_eq_true rfl) (Or.inr bR_ret) ?_
  show bT e (S0 n0) R0 mt_Mo_limits _ 0 [(0, .ref 130)] [] W J g L 0 0
  have hSR := SR0 n0
  refine b_aln (pc2 := 1) d_Mo_limits_0 rfl rfl ?_
  refine b_gi (pc2 := 4) d_Mo_limits_1 q_11_174 (sh_130 n0) (by decide) (by decide) (rc_130) rfl ?_
  rw [hn]
  refine b_ic (pc2 := 5) (x := Int32.ofNat 2) d_Mo_limits_4 rfl rfl ?_
  refine b_ifd (pc2 := 16) d_Mo_limits_5 rfl rfl rfl rfl rfl (fun h5 => ?_) (fun h5 => ?_)
  rotate_left
  · exact absurd ((i_le (by decide) (by omega)).mpr hx) h5
  refine b_aln (pc2 := 17) d_Mo_limits_16 rfl rfl ?_
  refine b_gi (pc2 := 20) d_Mo_limits_17 q_11_265 (sh_130 n0) (by decide) (by decide) (rc_130) rfl ?_
  rw [ha]
  refine b_aln (pc2 := 21) d_Mo_limits_20 rfl rfl ?_
  refine b_gr (pc2 := 24) d_Mo_limits_21 q_11_72 (sh_130 n0) (by decide) (by decide) (p_130_28 n0) rfl ?_
  refine b_ic (pc2 := 25) (x := Int32.ofNat 1) d_Mo_limits_24 rfl rfl ?_
  refine b_ia (pc2 := 26) (q := 1) d_Mo_limits_25 (sh_150 n0) (i_in (i := 1) (by decide) (by decide)) (rfl) (rc_150) rfl ?_
  rw [hb]
  refine b_ifd (pc2 := 36) d_Mo_limits_26 rfl rfl rfl rfl rfl (fun h26 => ?_) (fun h26 => ?_)
  · refine b_aln (pc2 := 37) d_Mo_limits_36 rfl rfl ?_
    refine b_gr (pc2 := 40) d_Mo_limits_37 q_11_72 (sh_130 n0) (by decide) (by decide) (p_130_28 n0) rfl ?_
    refine b_ic (pc2 := 41) (x := Int32.ofNat 1) d_Mo_limits_40 rfl rfl ?_
    refine b_ia (pc2 := 42) (q := 1) d_Mo_limits_41 (sh_150 n0) (i_in (i := 1) (by decide) (by decide)) (rfl) (rc_150) rfl ?_
    rw [hb]
    refine b_isn (pc2 := 43) (al2 := [(1, _), (0, _)]) d_Mo_limits_42 (by decide) rfl rfl ?_
    refine b_aln (pc2 := 44) d_Mo_limits_43 rfl rfl ?_
    refine b_iln (pc2 := 45) d_Mo_limits_44 rfl rfl ?_
    refine b_bp (pc2 := 47) (x := Int32.ofNat 8) d_Mo_limits_45 rfl rfl ?_
    refine b_ifd (pc2 := 55) d_Mo_limits_47 rfl rfl rfl rfl rfl (fun h47 => ?_) (fun h47 => ?_)
    · refine b_iln (pc2 := 56) d_Mo_limits_55 rfl rfl ?_
      refine b_bp (pc2 := 58) (x := Int32.ofNat 20) d_Mo_limits_56 rfl rfl ?_
      refine b_ifd (pc2 := 66) d_Mo_limits_58 rfl rfl rfl rfl rfl (fun h58 => ?_) (fun h58 => ?_)
      · refine b_iln (pc2 := 67) d_Mo_limits_66 rfl rfl ?_
        rw [i_le (by omega) (by omega)] at h26
        rw [i_le (by decide) (by omega)] at h47
        first | rw [i_le (by omega) (by decide)] at h58 | skip
        first | (have e1 : lm = 8 := (by omega); subst e1) | (have e1 : lm = 20 := (by omega); subst e1) | (have e1 : lm = ab := (by omega); subst e1) | (have e1 : lm = b1 := (by omega); subst e1)
        refine b_pi (pc2 := 70) d_Mo_limits_67 q_11_108 (sh_130 n0) (by decide) (Or.inl (by decide)) (Or.inl rfl) (rc_130) rfl ?_
        refine b_aln (pc2 := 71) d_Mo_limits_70 rfl rfl ?_
        refine b_ic (pc2 := 72) (x := Int32.ofNat 1) d_Mo_limits_71 rfl rfl ?_
        refine b_ic (pc2 := 73) (x := Int32.ofNat 0) d_Mo_limits_72 rfl rfl ?_
        refine b_cv0 (pc2 := 76) (c2 := 0) (u2 := 0) (mo_end (by omega)) d_Mo_limits_73 q_11_247 (Nat.le_of_ble_eq_true rfl) rfl rfl (sh_130 n0) (Nat.le_of_ble_eq_true rfl) rfl rfl (by decide) (by decide) rfl ?_
        refine b_vr d_Mo_limits_76 rfl ?_
        exact ⟨rfl, rfl, rfl, rfl, rfl⟩
      · refine b_bp (pc2 := 63) (x := Int32.ofNat 20) d_Mo_limits_61 rfl rfl ?_
        refine b_go (pc2 := 67) d_Mo_limits_63 rfl ?_
        rw [i_le (by omega) (by omega)] at h26
        rw [i_le (by decide) (by omega)] at h47
        first | rw [i_le (by omega) (by decide)] at h58 | skip
        first | (have e1 : lm = 8 := (by omega); subst e1) | (have e1 : lm = 20 := (by omega); subst e1) | (have e1 : lm = ab := (by omega); subst e1) | (have e1 : lm = b1 := (by omega); subst e1)
        refine b_pi (pc2 := 70) d_Mo_limits_67 q_11_108 (sh_130 n0) (by decide) (Or.inl (by decide)) (Or.inl rfl) (rc_130) rfl ?_
        refine b_aln (pc2 := 71) d_Mo_limits_70 rfl rfl ?_
        refine b_ic (pc2 := 72) (x := Int32.ofNat 1) d_Mo_limits_71 rfl rfl ?_
        refine b_ic (pc2 := 73) (x := Int32.ofNat 0) d_Mo_limits_72 rfl rfl ?_
        refine b_cv0 (pc2 := 76) (c2 := 0) (u2 := 0) (mo_end (by omega)) d_Mo_limits_73 q_11_247 (Nat.le_of_ble_eq_true rfl) rfl rfl (sh_130 n0) (Nat.le_of_ble_eq_true rfl) rfl rfl (by decide) (by decide) rfl ?_
        refine b_vr d_Mo_limits_76 rfl ?_
        exact ⟨rfl, rfl, rfl, rfl, rfl⟩
    · refine b_bp (pc2 := 52) (x := Int32.ofNat 8) d_Mo_limits_50 rfl rfl ?_
      refine b_go (pc2 := 67) d_Mo_limits_52 rfl ?_
      rw [i_le (by omega) (by omega)] at h26
      rw [i_le (by decide) (by omega)] at h47
      first | rw [i_le (by omega) (by decide)] at h58 | skip
      first | (have e1 : lm = 8 := (by omega); subst e1) | (have e1 : lm = 20 := (by omega); subst e1) | (have e1 : lm = ab := (by omega); subst e1) | (have e1 : lm = b1 := (by omega); subst e1)
      refine b_pi (pc2 := 70) d_Mo_limits_67 q_11_108 (sh_130 n0) (by decide) (Or.inl (by decide)) (Or.inl rfl) (rc_130) rfl ?_
      refine b_aln (pc2 := 71) d_Mo_limits_70 rfl rfl ?_
      refine b_ic (pc2 := 72) (x := Int32.ofNat 1) d_Mo_limits_71 rfl rfl ?_
      refine b_ic (pc2 := 73) (x := Int32.ofNat 0) d_Mo_limits_72 rfl rfl ?_
      refine b_cv0 (pc2 := 76) (c2 := 0) (u2 := 0) (mo_end (by omega)) d_Mo_limits_73 q_11_247 (Nat.le_of_ble_eq_true rfl) rfl rfl (sh_130 n0) (Nat.le_of_ble_eq_true rfl) rfl rfl (by decide) (by decide) rfl ?_
      refine b_vr d_Mo_limits_76 rfl ?_
      exact ⟨rfl, rfl, rfl, rfl, rfl⟩
  · refine b_aln (pc2 := 30) d_Mo_limits_29 rfl rfl ?_
    refine b_gi (pc2 := 33) d_Mo_limits_30 q_11_265 (sh_130 n0) (by decide) (by decide) (rc_130) rfl ?_
    rw [ha]
    refine b_go (pc2 := 42) d_Mo_limits_33 rfl ?_
    refine b_isn (pc2 := 43) (al2 := [(1, _), (0, _)]) d_Mo_limits_42 (by decide) rfl rfl ?_
    refine b_aln (pc2 := 44) d_Mo_limits_43 rfl rfl ?_
    refine b_iln (pc2 := 45) d_Mo_limits_44 rfl rfl ?_
    refine b_bp (pc2 := 47) (x := Int32.ofNat 8) d_Mo_limits_45 rfl rfl ?_
    refine b_ifd (pc2 := 55) d_Mo_limits_47 rfl rfl rfl rfl rfl (fun h47 => ?_) (fun h47 => ?_)
    · refine b_iln (pc2 := 56) d_Mo_limits_55 rfl rfl ?_
      refine b_bp (pc2 := 58) (x := Int32.ofNat 20) d_Mo_limits_56 rfl rfl ?_
      refine b_ifd (pc2 := 66) d_Mo_limits_58 rfl rfl rfl rfl rfl (fun h58 => ?_) (fun h58 => ?_)
      · refine b_iln (pc2 := 67) d_Mo_limits_66 rfl rfl ?_
        rw [i_le (by omega) (by omega)] at h26
        rw [i_le (by decide) (by omega)] at h47
        first | rw [i_le (by omega) (by decide)] at h58 | skip
        first | (have e1 : lm = 8 := (by omega); subst e1) | (have e1 : lm = 20 := (by omega); subst e1) | (have e1 : lm = ab := (by omega); subst e1) | (have e1 : lm = b1 := (by omega); subst e1)
        refine b_pi (pc2 := 70) d_Mo_limits_67 q_11_108 (sh_130 n0) (by decide) (Or.inl (by decide)) (Or.inl rfl) (rc_130) rfl ?_
        refine b_aln (pc2 := 71) d_Mo_limits_70 rfl rfl ?_
        refine b_ic (pc2 := 72) (x := Int32.ofNat 1) d_Mo_limits_71 rfl rfl ?_
        refine b_ic (pc2 := 73) (x := Int32.ofNat 0) d_Mo_limits_72 rfl rfl ?_
        refine b_cv0 (pc2 := 76) (c2 := 0) (u2 := 0) (mo_end (by omega)) d_Mo_limits_73 q_11_247 (Nat.le_of_ble_eq_true rfl) rfl rfl (sh_130 n0) (Nat.le_of_ble_eq_true rfl) rfl rfl (by decide) (by decide) rfl ?_
        refine b_vr d_Mo_limits_76 rfl ?_
        exact ⟨rfl, rfl, rfl, rfl, rfl⟩
      · refine b_bp (pc2 := 63) (x := Int32.ofNat 20) d_Mo_limits_61 rfl rfl ?_
        refine b_go (pc2 := 67) d_Mo_limits_63 rfl ?_
        rw [i_le (by omega) (by omega)] at h26
        rw [i_le (by decide) (by omega)] at h47
        first | rw [i_le (by omega) (by decide)] at h58 | skip
        first | (have e1 : lm = 8 := (by omega); subst e1) | (have e1 : lm = 20 := (by omega); subst e1) | (have e1 : lm = ab := (by omega); subst e1) | (have e1 : lm = b1 := (by omega); subst e1)
        refine b_pi (pc2 := 70) d_Mo_limits_67 q_11_108 (sh_130 n0) (by decide) (Or.inl (by decide)) (Or.inl rfl) (rc_130) rfl ?_
        refine b_aln (pc2 := 71) d_Mo_limits_70 rfl rfl ?_
        refine b_ic (pc2 := 72) (x := Int32.ofNat 1) d_Mo_limits_71 rfl rfl ?_
        refine b_ic (pc2 := 73) (x := Int32.ofNat 0) d_Mo_limits_72 rfl rfl ?_
        refine b_cv0 (pc2 := 76) (c2 := 0) (u2 := 0) (mo_end (by omega)) d_Mo_limits_73 q_11_247 (Nat.le_of_ble_eq_true rfl) rfl rfl (sh_130 n0) (Nat.le_of_ble_eq_true rfl) rfl rfl (by decide) (by decide) rfl ?_
        refine b_vr d_Mo_limits_76 rfl ?_
        exact ⟨rfl, rfl, rfl, rfl, rfl⟩
    · refine b_bp (pc2 := 52) (x := Int32.ofNat 8) d_Mo_limits_50 rfl rfl ?_
      refine b_go (pc2 := 67) d_Mo_limits_52 rfl ?_
      rw [i_le (by omega) (by omega)] at h26
      rw [i_le (by decide) (by omega)] at h47
      first | rw [i_le (by omega) (by decide)] at h58 | skip
      first | (have e1 : lm = 8 := (by omega); subst e1) | (have e1 : lm = 20 := (by omega); subst e1) | (have e1 : lm = ab := (by omega); subst e1) | (have e1 : lm = b1 := (by omega); subst e1)
      refine b_pi (pc2 := 70) d_Mo_limits_67 q_11_108 (sh_130 n0) (by decide) (Or.inl (by decide)) (Or.inl rfl) (rc_130) rfl ?_
      refine b_aln (pc2 := 71) d_Mo_limits_70 rfl rfl ?_
      refine b_ic (pc2 := 72) (x := Int32.ofNat 1) d_Mo_limits_71 rfl rfl ?_
      refine b_ic (pc2 := 73) (x := Int32.ofNat 0) d_Mo_limits_72 rfl rfl ?_
      refine b_cv0 (pc2 := 76) (c2 := 0) (u2 := 0) (mo_end (by omega)) d_Mo_limits_73 q_11_247 (Nat.le_of_ble_eq_true rfl) rfl rfl (sh_130 n0) (Nat.le_of_ble_eq_true rfl) rfl rfl (by decide) (by decide) rfl ?_
      refine b_vr d_Mo_limits_76 rfl ?_
      exact ⟨rfl, rfl, rfl, rfl, rfl⟩
theorem mo_found1 {d : Nat} (hd : 3 ≤ d) {n : Nat} (hn : J 130 27 = Int32.ofNat n) (hn20 : n ≤ 20) (hx : 2 ≤ n) {gt b1 : Nat} (hg : J 130 52 = Int32.ofNat gt) (hg10 : gt < 10) (hb : J 150 1 = Int32.ofNat b1) (hb2 : b1 < 256) (h9 : gt + 1 = 10) : bm d (S0 n0) R0 158 [.ref 130] W J g L (bR none W (am_u2 (am_u2 (am_u2 (am_u2 J 162 gt (Int32.ofNat b1)) 130 52 (Int32.ofNat (gt + 1))) 130 47 (Int32.ofNat 1)) 130 48 (Int32.ofNat 0)) g L) := by
  obtain ⟨e, rfl⟩ : ∃ e, d = e + 1 := ⟨d - 1, by omega⟩
  refine bm_of (Nat.le_of_ble_eq_true rfl) (Or.inr bR_ret) ?_
  show bT e (S0 n0) R0 mt_Mo_found _ 0 [(0, .ref 130)] [] W J g L 0 0
  have hSR := SR0 n0
  refine b_aln (pc2 := 1) d_Mo_found_0 rfl rfl ?_
  refine b_gi (pc2 := 4) d_Mo_found_1 q_11_174 (sh_130 n0) (by decide) (by decide) (rc_130) rfl ?_
  rw [hn]
  refine b_ic (pc2 := 5) (x := Int32.ofNat 2) d_Mo_found_4 rfl rfl ?_
  refine b_ifd (pc2 := 16) d_Mo_found_5 rfl rfl rfl rfl rfl (fun h5 => ?_) (fun h5 => ?_)
  rotate_left
  · exact absurd ((i_le (by decide) (by omega)).mpr hx) h5
  refine b_aln (pc2 := 17) d_Mo_found_16 rfl rfl ?_
  refine b_gr (pc2 := 20) d_Mo_found_17 q_11_117 (sh_130 n0) (by decide) (by decide) (p_130_53 n0) rfl ?_
  refine b_aln (pc2 := 21) d_Mo_found_20 rfl rfl ?_
  refine b_gi (pc2 := 24) d_Mo_found_21 q_11_262 (sh_130 n0) (by decide) (by decide) (rc_130) rfl ?_
  rw [hg]
  refine b_aln (pc2 := 25) d_Mo_found_24 rfl rfl ?_
  refine b_gr (pc2 := 28) d_Mo_found_25 q_11_72 (sh_130 n0) (by decide) (by decide) (p_130_28 n0) rfl ?_
  refine b_ic (pc2 := 29) (x := Int32.ofNat 1) d_Mo_found_28 rfl rfl ?_
  refine b_ia (pc2 := 30) (q := 1) d_Mo_found_29 (sh_150 n0) (i_in (i := 1) (by decide) (by decide)) (rfl) (rc_150) rfl ?_
  rw [hb]
  refine b_ist (pc2 := 31) (q := gt) d_Mo_found_30 (sh_162 n0) (i_in (show gt < 64 by omega) (by decide)) (i_tn (by omega)) (rc_162) rfl ?_
  refine b_aln (pc2 := 32) d_Mo_found_31 rfl rfl ?_
  refine b_pure (pc2 := 33) d_Mo_found_32 rfl rfl rfl ?_
  refine b_gi (pc2 := 36) d_Mo_found_33 q_11_262 (sh_130 n0) (by decide) (by decide) (rc_130) rfl ?_
  rw [u2_a _ _ (by decide), hg]
  refine b_ic (pc2 := 37) (x := Int32.ofNat 1) d_Mo_found_36 rfl rfl ?_
  refine b_pure (pc2 := 38) d_Mo_found_37 rfl rfl rfl ?_
  rw [i_add]
  refine b_pi (pc2 := 41) d_Mo_found_38 q_11_262 (sh_130 n0) (by decide) (Or.inl (by decide)) (Or.inl rfl) (rc_130) rfl ?_
  refine b_aln (pc2 := 42) d_Mo_found_41 rfl rfl ?_
  refine b_gi (pc2 := 45) d_Mo_found_42 q_11_262 (sh_130 n0) (by decide) (by decide) (rc_130) rfl ?_
  rw [u2_at]
  refine b_bp (pc2 := 47) (x := Int32.ofNat 10) d_Mo_found_45 rfl rfl ?_
  refine b_ifd (pc2 := 57) d_Mo_found_47 rfl rfl rfl rfl rfl (fun h47 => ?_) (fun h47 => ?_)
  · exact absurd h47 (fun z => z (by rw [h9]))
  refine b_aln (pc2 := 51) d_Mo_found_50 rfl rfl ?_
  refine b_ic (pc2 := 52) (x := Int32.ofNat 1) d_Mo_found_51 rfl rfl ?_
  refine b_ic (pc2 := 53) (x := Int32.ofNat 0) d_Mo_found_52 rfl rfl ?_
  refine b_cv0 (pc2 := 56) (c2 := 0) (u2 := 0) (mo_end (by omega)) d_Mo_found_53 q_11_247 (Nat.le_of_ble_eq_true rfl) rfl rfl (sh_130 n0) (Nat.le_of_ble_eq_true rfl) rfl rfl (by decide) (by decide) rfl ?_
  refine b_vr d_Mo_found_56 rfl ?_
  exact ⟨rfl, rfl, rfl, rfl, rfl⟩
theorem mo_found2 {d : Nat} (hd : 3 ≤ d) {n : Nat} (hn : J 130 27 = Int32.ofNat n) (hn20 : n ≤ 20) (hx : 2 ≤ n) {gt b1 : Nat} (hg : J 130 52 = Int32.ofNat gt) (hg10 : gt < 10) (hb : J 150 1 = Int32.ofNat b1) (hb2 : b1 < 256) (h9 : ¬ gt + 1 = 10) {ab : Nat} (ha : J 130 46 = Int32.ofNat ab) (ha2 : ab < 256) (hA : ∀ e, 2 ≤ e → bm e (S0 n0) R0 139 [.ref 130] W (mkJ (am_u2 (am_u2 J 162 gt (Int32.ofNat b1)) 130 52 (Int32.ofNat (gt + 1))) [Int32.ofNat 16, Int32.ofNat ((b1 + 1) % 256), Int32.ofNat ab]) g L (bR none W J1 g L)) : bm d (S0 n0) R0 158 [.ref 130] W J g L (bR none W J1 g L) := by
  obtain ⟨e, rfl⟩ : ∃ e, d = e + 1 := ⟨d - 1, by omega⟩
  refine bm_of (Nat.le_of_ble_eq_true rfl) (Or.inr bR_ret) ?_
  show bT e (S0 n0) R0 mt_Mo_found _ 0 [(0, .ref 130)] [] W J g L 0 0
  have hSR := SR0 n0
  refine b_aln (pc2 := 1) d_Mo_found_0 rfl rfl ?_
  refine b_gi (pc2 := 4) d_Mo_found_1 q_11_174 (sh_130 n0) (by decide) (by decide) (rc_130) rfl ?_
  rw [hn]
  refine b_ic (pc2 := 5) (x := Int32.ofNat 2) d_Mo_found_4 rfl rfl ?_
  refine b_ifd (pc2 := 16) d_Mo_found_5 rfl rfl rfl rfl rfl (fun h5 => ?_) (fun h5 => ?_)
  rotate_left
  · exact absurd ((i_le (by decide) (by omega)).mpr hx) h5
  refine b_aln (pc2 := 17) d_Mo_found_16 rfl rfl ?_
  refine b_gr (pc2 := 20) d_Mo_found_17 q_11_117 (sh_130 n0) (by decide) (by decide) (p_130_53 n0) rfl ?_
  refine b_aln (pc2 := 21) d_Mo_found_20 rfl rfl ?_
  refine b_gi (pc2 := 24) d_Mo_found_21 q_11_262 (sh_130 n0) (by decide) (by decide) (rc_130) rfl ?_
  rw [hg]
  refine b_aln (pc2 := 25) d_Mo_found_24 rfl rfl ?_
  refine b_gr (pc2 := 28) d_Mo_found_25 q_11_72 (sh_130 n0) (by decide) (by decide) (p_130_28 n0) rfl ?_
  refine b_ic (pc2 := 29) (x := Int32.ofNat 1) d_Mo_found_28 rfl rfl ?_
  refine b_ia (pc2 := 30) (q := 1) d_Mo_found_29 (sh_150 n0) (i_in (i := 1) (by decide) (by decide)) (rfl) (rc_150) rfl ?_
  rw [hb]
  refine b_ist (pc2 := 31) (q := gt) d_Mo_found_30 (sh_162 n0) (i_in (show gt < 64 by omega) (by decide)) (i_tn (by omega)) (rc_162) rfl ?_
  refine b_aln (pc2 := 32) d_Mo_found_31 rfl rfl ?_
  refine b_pure (pc2 := 33) d_Mo_found_32 rfl rfl rfl ?_
  refine b_gi (pc2 := 36) d_Mo_found_33 q_11_262 (sh_130 n0) (by decide) (by decide) (rc_130) rfl ?_
  rw [u2_a _ _ (by decide), hg]
  refine b_ic (pc2 := 37) (x := Int32.ofNat 1) d_Mo_found_36 rfl rfl ?_
  refine b_pure (pc2 := 38) d_Mo_found_37 rfl rfl rfl ?_
  rw [i_add]
  refine b_pi (pc2 := 41) d_Mo_found_38 q_11_262 (sh_130 n0) (by decide) (Or.inl (by decide)) (Or.inl rfl) (rc_130) rfl ?_
  refine b_aln (pc2 := 42) d_Mo_found_41 rfl rfl ?_
  refine b_gi (pc2 := 45) d_Mo_found_42 q_11_262 (sh_130 n0) (by decide) (by decide) (rc_130) rfl ?_
  rw [u2_at]
  refine b_bp (pc2 := 47) (x := Int32.ofNat 10) d_Mo_found_45 rfl rfl ?_
  refine b_ifd (pc2 := 57) d_Mo_found_47 rfl rfl rfl rfl rfl (fun h47 => ?_) (fun h47 => ?_)
  rotate_left
  · exact absurd (fun z => h9 ((i_eq (by omega) (by decide)).mp z)) h47
  refine b_aln (pc2 := 58) d_Mo_found_57 rfl rfl ?_
  refine b_bp (pc2 := 60) (x := Int32.ofNat 16) d_Mo_found_58 rfl rfl ?_
  refine b_cv0 (pc2 := 63) (c2 := 0) (u2 := 0) (mo_start (by omega)) d_Mo_found_60 q_11_183 (Nat.le_of_ble_eq_true rfl) rfl rfl (sh_130 n0) (Nat.le_of_ble_eq_true rfl) rfl rfl (by decide) (by decide) rfl ?_
  rw [show Int32.ofNat 16 &&& 255 = Int32.ofNat 16 from rfl]
  refine b_aln (pc2 := 64) d_Mo_found_63 rfl rfl ?_
  refine b_aln (pc2 := 65) d_Mo_found_64 rfl rfl ?_
  refine b_gr (pc2 := 68) d_Mo_found_65 q_11_72 (sh_130 n0) (by decide) (by decide) (p_130_28 n0) rfl ?_
  refine b_ic (pc2 := 69) (x := Int32.ofNat 1) d_Mo_found_68 rfl rfl ?_
  refine b_ia (pc2 := 70) (q := 1) d_Mo_found_69 (sh_150 n0) (i_in (i := 1) (by decide) (by decide)) (rfl) (rc_150) rfl ?_
  rw [mkJ_c _ _ (by decide) (by decide), u2_a _ _ (by decide), u2_a _ _ (by decide), hb]
  refine b_ic (pc2 := 71) (x := Int32.ofNat 1) d_Mo_found_70 rfl rfl ?_
  refine b_pure (pc2 := 72) d_Mo_found_71 rfl rfl rfl ?_
  rw [i_add]
  refine b_cv0 (pc2 := 75) (c2 := 0) (u2 := 0) (mo_lay (by omega) (by show 1 < 40; decide)) d_Mo_found_72 q_11_186 (Nat.le_of_ble_eq_true rfl) rfl rfl (sh_130 n0) (Nat.le_of_ble_eq_true rfl) rfl rfl (by decide) (by decide) rfl ?_
  rw [show Int32.ofNat (b1 + 1) &&& 255 = Int32.ofNat ((b1 + 1) % 256) by rw [show (255 : Int32) = Int32.ofNat 255 from rfl, i_and]; congr 1; exact Nat.and_two_pow_sub_one_eq_mod (b1 + 1) 8]
  refine b_aln (pc2 := 76) d_Mo_found_75 rfl rfl ?_
  refine b_aln (pc2 := 77) d_Mo_found_76 rfl rfl ?_
  refine b_gi (pc2 := 80) d_Mo_found_77 q_11_265 (sh_130 n0) (by decide) (by decide) (rc_130) rfl ?_
  rw [mkJ_f _ _ (by decide), u2_k _ _ (by decide), u2_a _ _ (by decide), ha]
  refine b_cv0 (pc2 := 83) (c2 := 0) (u2 := 0) (mo_lay (by omega) (by show 2 < 40; decide)) d_Mo_found_80 q_11_186 (Nat.le_of_ble_eq_true rfl) rfl rfl (sh_130 n0) (Nat.le_of_ble_eq_true rfl) rfl rfl (by decide) (by decide) rfl ?_
  rw [b255 ha2]
  refine b_aln (pc2 := 84) d_Mo_found_83 rfl rfl ?_
  refine b_cv0 (pc2 := 87) (c2 := 0) (u2 := 0) (hA e (by omega)) d_Mo_found_84 q_11_268 (Nat.le_of_ble_eq_true rfl) rfl rfl (sh_130 n0) (Nat.le_of_ble_eq_true rfl) rfl rfl (by decide) (by decide) rfl ?_
  refine b_vr d_Mo_found_87 rfl ?_
  exact ⟨rfl, rfl, rfl, rfl, rfl⟩
end ML
