/-! Part 93 (written by gen50.py): the reference: data, note, value, air, look; run, exchange; cell -/
theorem m1_lt {n : Nat} (h : n < 2147483648) : (-1 : Int32) < Int32.ofNat n := by
  rw [Int32.lt_iff_toInt_lt, i_ti h, show (-1 : Int32).toInt = -1 from rfl]; omega
theorem nm1 {n : Nat} (h : n < 2147483648) : ¬ Int32.ofNat n < -1 := by
  rw [Int32.lt_iff_toInt_lt, i_ti h, show (-1 : Int32).toInt = -1 from rfl]; omega
theorem km1 {k : Int32} (h1 : ¬ k < -1) (h2 : ¬ k = -1) : ¬ k < 0 := by
  rw [Int32.lt_iff_toInt_lt, show (-1 : Int32).toInt = -1 from rfl] at h1
  rw [Int32.lt_iff_toInt_lt, Int32.toInt_zero]
  intro h
  exact h2 (Int32.toInt_inj.mp (by rw [show (-1 : Int32).toInt = -1 from rfl]; omega))
theorem sw_mlook {k : Int32} (h : k < 0 ∨ Int32.ofNat 8 < k) : am_sw (Instr.tableswitch 115 0 8 #[50, 55, 60, 67, 74, 79, 84, 89, 102]) [.int k] = some (115, []) := by
  unfold am_sw
  dsimp only
  rw [if_pos]
  rw [Int32.lt_iff_toInt_lt, Int32.lt_iff_toInt_lt, Int32.toInt_zero, i_ti (by decide)] at h
  exact h
section MZ
variable {n0 : Nat} {W : bw_W} {J : bw_J} {g : Nat} {L : bw_L}
variable {W1 : bw_W} {J1 : bw_J} {Qh : am_O → am_H → Prop} {v : Int64}
theorem mo_data_l {d : Nat} (hd : 1 ≤ d) {gt : Nat} (hg : J 130 52 = Int32.ofNat gt) (hg2 : gt ≤ 64)  : bm d (S0 n0) R0 174 [.ref 130, .int (-1)] W J g L (bR (some (.int (Int32.ofNat gt))) W (am_u2 J 130 0 (Int32.ofNat 0)) g L) := by
  obtain ⟨e, rfl⟩ : ∃ e, d = e + 1 := ⟨d - 1, by omega⟩
  refine bm_of (Nat.le_of_ble_eq_true rfl) (Or.inr bR_ret) ?_
  show bT e (S0 n0) R0 mt_Mo_data _ 0 [(0, .ref 130), (1, .int (-1))] [] W J g L 0 0
  have hSR := SR0 n0
  refine b_aln (pc2 := 1) d_Mo_data_0 rfl rfl ?_
  refine b_iln (pc2 := 2) d_Mo_data_1 rfl rfl ?_
  refine b_ic (pc2 := 3) (x := -1) d_Mo_data_2 rfl rfl ?_
  refine b_ifd (pc2 := 14) d_Mo_data_3 rfl rfl rfl rfl rfl (fun h3 => ?_) (fun h3 => ?_)
  · exact absurd h3 (by decide)
  refine b_iln (pc2 := 7) d_Mo_data_6 rfl rfl ?_
  refine b_aln (pc2 := 8) d_Mo_data_7 rfl rfl ?_
  refine b_gi (pc2 := 11) d_Mo_data_8 q_11_262 (sh_130 n0) (by decide) (by decide) (rc_130) rfl ?_
  rw [hg]
  refine b_ifd (pc2 := 18) d_Mo_data_11 rfl rfl rfl rfl rfl (fun h11 => ?_) (fun h11 => ?_)
  rotate_left
  · exact absurd (m1_lt (by omega)) h11
  refine b_ic (pc2 := 19) (x := Int32.ofNat 0) d_Mo_data_18 rfl rfl ?_
  refine b_pi (pc2 := 22) d_Mo_data_19 q_11_135 (sh_130 n0) (by decide) (Or.inl (by decide)) (Or.inl rfl) (rc_130) rfl ?_
  refine b_aln (pc2 := 23) d_Mo_data_22 rfl rfl ?_
  refine b_gi (pc2 := 26) d_Mo_data_23 q_11_135 (sh_130 n0) (by decide) (by decide) (rc_130) rfl ?_
  rw [u2_at]
  refine b_ifd (pc2 := 33) d_Mo_data_26 rfl rfl rfl rfl rfl (fun h26 => ?_) (fun h26 => ?_)
  rotate_left
  · exact absurd (by decide) h26
  refine b_iln (pc2 := 34) d_Mo_data_33 rfl rfl ?_
  refine b_ifd (pc2 := 44) d_Mo_data_34 rfl rfl rfl rfl rfl (fun h34 => ?_) (fun h34 => ?_)
  · exact absurd h34 (by decide)
  refine b_aln (pc2 := 38) d_Mo_data_37 rfl rfl ?_
  refine b_gi (pc2 := 41) d_Mo_data_38 q_11_262 (sh_130 n0) (by decide) (by decide) (rc_130) rfl ?_
  rw [u2_k _ _ (by decide), hg]
  refine b_go (pc2 := 50) d_Mo_data_41 rfl ?_
  refine b_ir d_Mo_data_50 rfl ?_
  exact ⟨rfl, rfl, rfl, rfl, rfl⟩
theorem mo_data_k {d : Nat} (hd : 1 ≤ d) {gt : Nat} (hg : J 130 52 = Int32.ofNat gt) (hg2 : gt ≤ 64) {k : Nat} (hk : k < gt) : bm d (S0 n0) R0 174 [.ref 130, .int (Int32.ofNat k)] W J g L (bR (some (.int (J 162 k))) W (am_u2 J 130 0 (Int32.ofNat 0)) g L) := by
  obtain ⟨e, rfl⟩ : ∃ e, d = e + 1 := ⟨d - 1, by omega⟩
  refine bm_of (Nat.le_of_ble_eq_true rfl) (Or.inr bR_ret) ?_
  show bT e (S0 n0) R0 mt_Mo_data _ 0 [(0, .ref 130), (1, .int (Int32.ofNat k))] [] W J g L 0 0
  have hSR := SR0 n0
  refine b_aln (pc2 := 1) d_Mo_data_0 rfl rfl ?_
  refine b_iln (pc2 := 2) d_Mo_data_1 rfl rfl ?_
  refine b_ic (pc2 := 3) (x := -1) d_Mo_data_2 rfl rfl ?_
  refine b_ifd (pc2 := 14) d_Mo_data_3 rfl rfl rfl rfl rfl (fun h3 => ?_) (fun h3 => ?_)
  · exact absurd h3 (nm1 (by omega))
  refine b_iln (pc2 := 7) d_Mo_data_6 rfl rfl ?_
  refine b_aln (pc2 := 8) d_Mo_data_7 rfl rfl ?_
  refine b_gi (pc2 := 11) d_Mo_data_8 q_11_262 (sh_130 n0) (by decide) (by decide) (rc_130) rfl ?_
  rw [hg]
  refine b_ifd (pc2 := 18) d_Mo_data_11 rfl rfl rfl rfl rfl (fun h11 => ?_) (fun h11 => ?_)
  rotate_left
  · exact absurd (by rw [i_lt (by omega) (by omega)]; omega) h11
  refine b_ic (pc2 := 19) (x := Int32.ofNat 0) d_Mo_data_18 rfl rfl ?_
  refine b_pi (pc2 := 22) d_Mo_data_19 q_11_135 (sh_130 n0) (by decide) (Or.inl (by decide)) (Or.inl rfl) (rc_130) rfl ?_
  refine b_aln (pc2 := 23) d_Mo_data_22 rfl rfl ?_
  refine b_gi (pc2 := 26) d_Mo_data_23 q_11_135 (sh_130 n0) (by decide) (by decide) (rc_130) rfl ?_
  rw [u2_at]
  refine b_ifd (pc2 := 33) d_Mo_data_26 rfl rfl rfl rfl rfl (fun h26 => ?_) (fun h26 => ?_)
  rotate_left
  · exact absurd (by decide) h26
  refine b_iln (pc2 := 34) d_Mo_data_33 rfl rfl ?_
  refine b_ifd (pc2 := 44) d_Mo_data_34 rfl rfl rfl rfl rfl (fun h34 => ?_) (fun h34 => ?_)
  rotate_left
  · exact absurd (by rw [z_ge (by omega)]; omega) h34
  refine b_aln (pc2 := 45) d_Mo_data_44 rfl rfl ?_
  refine b_gr (pc2 := 48) d_Mo_data_45 q_11_117 (sh_130 n0) (by decide) (by decide) (p_130_53 n0) rfl ?_
  refine b_iln (pc2 := 49) d_Mo_data_48 rfl rfl ?_
  refine b_ia (pc2 := 50) (q := k) d_Mo_data_49 (sh_162 n0) (i_in (show k < 64 by omega) (by decide)) (i_tn (by omega)) (rc_162) rfl ?_
  rw [u2_a _ _ (by decide)]
  refine b_ir d_Mo_data_50 rfl ?_
  exact ⟨rfl, rfl, rfl, rfl, rfl⟩
theorem mo_data_x {d : Nat} (hd : 1 ≤ d) {gt : Nat} (hg : J 130 52 = Int32.ofNat gt) (hg2 : gt ≤ 64) {k : Int32} (hk : ¬ k = -1) (hb : ¬ (¬ k < 0 ∧ k < Int32.ofNat gt)) : bm d (S0 n0) R0 174 [.ref 130, .int k] W J g L (bR (some (.int (Int32.ofNat 0))) W (am_u2 J 130 0 (Int32.ofNat 1)) g L) := by
  obtain ⟨e, rfl⟩ : ∃ e, d = e + 1 := ⟨d - 1, by omega⟩
  refine bm_of (Nat.le_of_ble_eq_true rfl) (Or.inr bR_ret) ?_
  show bT e (S0 n0) R0 mt_Mo_data _ 0 [(0, .ref 130), (1, .int k)] [] W J g L 0 0
  have hSR := SR0 n0
  refine b_aln (pc2 := 1) d_Mo_data_0 rfl rfl ?_
  refine b_iln (pc2 := 2) d_Mo_data_1 rfl rfl ?_
  refine b_ic (pc2 := 3) (x := -1) d_Mo_data_2 rfl rfl ?_
  refine b_ifd (pc2 := 14) d_Mo_data_3 rfl rfl rfl rfl rfl (fun h3 => ?_) (fun h3 => ?_)
  · refine b_ic (pc2 := 15) (x := Int32.ofNat 1) d_Mo_data_14 rfl rfl ?_
    refine b_go (pc2 := 19) d_Mo_data_15 rfl ?_
    refine b_pi (pc2 := 22) d_Mo_data_19 q_11_135 (sh_130 n0) (by decide) (Or.inl (by decide)) (Or.inl rfl) (rc_130) rfl ?_
    refine b_aln (pc2 := 23) d_Mo_data_22 rfl rfl ?_
    refine b_gi (pc2 := 26) d_Mo_data_23 q_11_135 (sh_130 n0) (by decide) (by decide) (rc_130) rfl ?_
    rw [u2_at]
    refine b_ifd (pc2 := 33) d_Mo_data_26 rfl rfl rfl rfl rfl (fun h26 => ?_) (fun h26 => ?_)
    · exact absurd h26 (by decide)
    refine b_ic (pc2 := 30) (x := Int32.ofNat 0) d_Mo_data_29 rfl rfl ?_
    refine b_go (pc2 := 50) d_Mo_data_30 rfl ?_
    refine b_ir d_Mo_data_50 rfl ?_
    exact ⟨rfl, rfl, rfl, rfl, rfl⟩
  · refine b_iln (pc2 := 7) d_Mo_data_6 rfl rfl ?_
    refine b_aln (pc2 := 8) d_Mo_data_7 rfl rfl ?_
    refine b_gi (pc2 := 11) d_Mo_data_8 q_11_262 (sh_130 n0) (by decide) (by decide) (rc_130) rfl ?_
    rw [hg]
    refine b_ifd (pc2 := 18) d_Mo_data_11 rfl rfl rfl rfl rfl (fun h11 => ?_) (fun h11 => ?_)
    · exact absurd ⟨km1 h3 hk, h11⟩ hb
    · refine b_ic (pc2 := 15) (x := Int32.ofNat 1) d_Mo_data_14 rfl rfl ?_
      refine b_go (pc2 := 19) d_Mo_data_15 rfl ?_
      refine b_pi (pc2 := 22) d_Mo_data_19 q_11_135 (sh_130 n0) (by decide) (Or.inl (by decide)) (Or.inl rfl) (rc_130) rfl ?_
      refine b_aln (pc2 := 23) d_Mo_data_22 rfl rfl ?_
      refine b_gi (pc2 := 26) d_Mo_data_23 q_11_135 (sh_130 n0) (by decide) (by decide) (rc_130) rfl ?_
      rw [u2_at]
      refine b_ifd (pc2 := 33) d_Mo_data_26 rfl rfl rfl rfl rfl (fun h26 => ?_) (fun h26 => ?_)
      · exact absurd h26 (by decide)
      refine b_ic (pc2 := 30) (x := Int32.ofNat 0) d_Mo_data_29 rfl rfl ?_
      refine b_go (pc2 := 50) d_Mo_data_30 rfl ?_
      refine b_ir d_Mo_data_50 rfl ?_
      exact ⟨rfl, rfl, rfl, rfl, rfl⟩
theorem mo_note0 {d : Nat} (hd : 2 ≤ d) {n k : Int32} {nt : Nat} (hnt : J 130 59 = Int32.ofNat nt) (hb : n < 0 ∨ Int32.ofNat 3 < n ∨ ¬ n < Int32.ofNat nt) : bm d (S0 n0) R0 175 [.ref 130, .int n, .int k] W J g L (bR (some (.int (Int32.ofNat 0))) W (am_u2 J 130 0 (Int32.ofNat 1)) g L) := by
  obtain ⟨e, rfl⟩ : ∃ e, d = e + 1 := ⟨d - 1, by omega⟩
  refine bm_of (Nat.le_of_ble_eq_true rfl) (Or.inr bR_ret) ?_
  show bT e (S0 n0) R0 mt_Mo_note _ 0 [(0, .ref 130), (1, .int n), (2, .int k)] [] W J g L 0 0
  have hSR := SR0 n0
  refine b_aln (pc2 := 1) d_Mo_note_0 rfl rfl ?_
  refine b_ic (pc2 := 2) (x := Int32.ofNat 0) d_Mo_note_1 rfl rfl ?_
  refine b_pi (pc2 := 5) d_Mo_note_2 q_11_135 (sh_130 n0) (by decide) (Or.inl (by decide)) (Or.inl rfl) (rc_130) rfl ?_
  refine b_iln (pc2 := 6) d_Mo_note_5 rfl rfl ?_
  refine b_ifd (pc2 := 22) d_Mo_note_6 rfl rfl rfl rfl rfl (fun h6 => ?_) (fun h6 => ?_)
  · refine b_aln (pc2 := 23) d_Mo_note_22 rfl rfl ?_
    refine b_ic (pc2 := 24) (x := Int32.ofNat 1) d_Mo_note_23 rfl rfl ?_
    refine b_cv1 (pc2 := 27) (c2 := 0) (u2 := 0) (mo_fail (by omega)) d_Mo_note_24 q_11_320 (Nat.le_of_ble_eq_true rfl) rfl rfl (sh_130 n0) (Nat.le_of_ble_eq_true rfl) rfl rfl (by decide) (by decide) rfl ?_
    rw [u2_u2]
    refine b_ir d_Mo_note_27 rfl ?_
    exact ⟨rfl, rfl, rfl, rfl, rfl⟩
  · refine b_iln (pc2 := 10) d_Mo_note_9 rfl rfl ?_
    refine b_ic (pc2 := 11) (x := Int32.ofNat 3) d_Mo_note_10 rfl rfl ?_
    refine b_ifd (pc2 := 22) d_Mo_note_11 rfl rfl rfl rfl rfl (fun h11 => ?_) (fun h11 => ?_)
    · refine b_aln (pc2 := 23) d_Mo_note_22 rfl rfl ?_
      refine b_ic (pc2 := 24) (x := Int32.ofNat 1) d_Mo_note_23 rfl rfl ?_
      refine b_cv1 (pc2 := 27) (c2 := 0) (u2 := 0) (mo_fail (by omega)) d_Mo_note_24 q_11_320 (Nat.le_of_ble_eq_true rfl) rfl rfl (sh_130 n0) (Nat.le_of_ble_eq_true rfl) rfl rfl (by decide) (by decide) rfl ?_
      rw [u2_u2]
      refine b_ir d_Mo_note_27 rfl ?_
      exact ⟨rfl, rfl, rfl, rfl, rfl⟩
    · refine b_iln (pc2 := 15) d_Mo_note_14 rfl rfl ?_
      refine b_aln (pc2 := 16) d_Mo_note_15 rfl rfl ?_
      refine b_gi (pc2 := 19) d_Mo_note_16 q_11_232 (sh_130 n0) (by decide) (by decide) (rc_130) rfl ?_
      rw [u2_k _ _ (by decide), hnt]
      refine b_ifd (pc2 := 28) d_Mo_note_19 rfl rfl rfl rfl rfl (fun h19 => ?_) (fun h19 => ?_)
      · exact absurd hb (fun z => z.elim h6 (fun z => z.elim h11 (fun z => z h19)))
      · refine b_aln (pc2 := 23) d_Mo_note_22 rfl rfl ?_
        refine b_ic (pc2 := 24) (x := Int32.ofNat 1) d_Mo_note_23 rfl rfl ?_
        refine b_cv1 (pc2 := 27) (c2 := 0) (u2 := 0) (mo_fail (by omega)) d_Mo_note_24 q_11_320 (Nat.le_of_ble_eq_true rfl) rfl rfl (sh_130 n0) (Nat.le_of_ble_eq_true rfl) rfl rfl (by decide) (by decide) rfl ?_
        rw [u2_u2]
        refine b_ir d_Mo_note_27 rfl ?_
        exact ⟨rfl, rfl, rfl, rfl, rfl⟩
theorem mo_note_l {d : Nat} (hd : 2 ≤ d) {nt b s : Nat} (hnt : J 130 59 = Int32.ofNat nt) (hnt2 : nt < 100000000) (hb : b < nt) (hb4 : b < 4) (hs : J 164 ((nt - 1 - b) % 4) = Int32.ofNat s) (hs2 : s ≤ 24)  : bm d (S0 n0) R0 175 [.ref 130, .int (Int32.ofNat b), .int (-1)] W J g L (bR (some (.int (Int32.ofNat s))) W (am_u2 J 130 0 (Int32.ofNat 0)) g L) := by
  obtain ⟨e, rfl⟩ : ∃ e, d = e + 1 := ⟨d - 1, by omega⟩
  refine bm_of (Nat.le_of_ble_eq_true rfl) (Or.inr bR_ret) ?_
  show bT e (S0 n0) R0 mt_Mo_note _ 0 [(0, .ref 130), (1, .int (Int32.ofNat b)), (2, .int (-1))] [] W J g L 0 0
  have hSR := SR0 n0
  refine b_aln (pc2 := 1) d_Mo_note_0 rfl rfl ?_
  refine b_ic (pc2 := 2) (x := Int32.ofNat 0) d_Mo_note_1 rfl rfl ?_
  refine b_pi (pc2 := 5) d_Mo_note_2 q_11_135 (sh_130 n0) (by decide) (Or.inl (by decide)) (Or.inl rfl) (rc_130) rfl ?_
  refine b_iln (pc2 := 6) d_Mo_note_5 rfl rfl ?_
  refine b_ifd (pc2 := 22) d_Mo_note_6 rfl rfl rfl rfl rfl (fun h6 => ?_) (fun h6 => ?_)
  · exact absurd h6 (fun z => by rw [z_lt (by omega)] at z; omega)
  refine b_iln (pc2 := 10) d_Mo_note_9 rfl rfl ?_
  refine b_ic (pc2 := 11) (x := Int32.ofNat 3) d_Mo_note_10 rfl rfl ?_
  refine b_ifd (pc2 := 22) d_Mo_note_11 rfl rfl rfl rfl rfl (fun h11 => ?_) (fun h11 => ?_)
  · exact absurd h11 (fun z => by rw [i_lt (by omega) (by omega)] at z; omega)
  refine b_iln (pc2 := 15) d_Mo_note_14 rfl rfl ?_
  refine b_aln (pc2 := 16) d_Mo_note_15 rfl rfl ?_
  refine b_gi (pc2 := 19) d_Mo_note_16 q_11_232 (sh_130 n0) (by decide) (by decide) (rc_130) rfl ?_
  rw [u2_k _ _ (by decide), hnt]
  refine b_ifd (pc2 := 28) d_Mo_note_19 rfl rfl rfl rfl rfl (fun h19 => ?_) (fun h19 => ?_)
  rotate_left
  · exact absurd (by rw [i_lt (by omega) (by omega)]; omega) h19
  refine b_aln (pc2 := 29) d_Mo_note_28 rfl rfl ?_
  refine b_gi (pc2 := 32) d_Mo_note_29 q_11_232 (sh_130 n0) (by decide) (by decide) (rc_130) rfl ?_
  rw [u2_k _ _ (by decide), hnt]
  refine b_ic (pc2 := 33) (x := Int32.ofNat 1) d_Mo_note_32 rfl rfl ?_
  refine b_pure (pc2 := 34) d_Mo_note_33 rfl rfl rfl ?_
  rw [i_sub (by omega)]
  refine b_iln (pc2 := 35) d_Mo_note_34 rfl rfl ?_
  refine b_pure (pc2 := 36) d_Mo_note_35 rfl rfl rfl ?_
  rw [i_sub (by omega)]
  refine b_ic (pc2 := 37) (x := Int32.ofNat 4) d_Mo_note_36 rfl rfl ?_
  refine b_rem (pc2 := 38) d_Mo_note_37 (by decide) rfl ?_
  rw [i_rem (by omega) (by omega) (by omega)]
  refine b_isn (pc2 := 39) (al2 := [(3, _), (0, _), (1, _), (2, _)]) d_Mo_note_38 (by decide) rfl rfl ?_
  refine b_iln (pc2 := 40) d_Mo_note_39 rfl rfl ?_
  refine b_ic (pc2 := 41) (x := -1) d_Mo_note_40 rfl rfl ?_
  refine b_ifd (pc2 := 54) d_Mo_note_41 rfl rfl rfl rfl rfl (fun h41 => ?_) (fun h41 => ?_)
  · exact absurd h41 (by decide)
  refine b_iln (pc2 := 45) d_Mo_note_44 rfl rfl ?_
  refine b_aln (pc2 := 46) d_Mo_note_45 rfl rfl ?_
  refine b_gr (pc2 := 49) d_Mo_note_46 q_11_123 (sh_130 n0) (by decide) (by decide) (p_130_60 n0) rfl ?_
  refine b_iln (pc2 := 50) d_Mo_note_49 rfl rfl ?_
  refine b_ia (pc2 := 51) (q := ((nt - 1 - b) % 4)) d_Mo_note_50 (sh_164 n0) (i_in (show (nt - 1 - b) % 4 < 4 by omega) (by decide)) (i_tn (by omega)) (rc_164) rfl ?_
  rw [u2_a _ _ (by decide), hs]
  refine b_ifd (pc2 := 60) d_Mo_note_51 rfl rfl rfl rfl rfl (fun h51 => ?_) (fun h51 => ?_)
  rotate_left
  · exact absurd (m1_lt (by omega)) h51
  refine b_iln (pc2 := 61) d_Mo_note_60 rfl rfl ?_
  refine b_ifd (pc2 := 73) d_Mo_note_61 rfl rfl rfl rfl rfl (fun h61 => ?_) (fun h61 => ?_)
  · exact absurd h61 (by decide)
  refine b_aln (pc2 := 65) d_Mo_note_64 rfl rfl ?_
  refine b_gr (pc2 := 68) d_Mo_note_65 q_11_123 (sh_130 n0) (by decide) (by decide) (p_130_60 n0) rfl ?_
  refine b_iln (pc2 := 69) d_Mo_note_68 rfl rfl ?_
  refine b_ia (pc2 := 70) (q := ((nt - 1 - b) % 4)) d_Mo_note_69 (sh_164 n0) (i_in (show (nt - 1 - b) % 4 < 4 by omega) (by decide)) (i_tn (by omega)) (rc_164) rfl ?_
  rw [u2_a _ _ (by decide), hs]
  refine b_go (pc2 := 84) d_Mo_note_70 rfl ?_
  refine b_ir d_Mo_note_84 rfl ?_
  exact ⟨rfl, rfl, rfl, rfl, rfl⟩
theorem mo_note_k {d : Nat} (hd : 2 ≤ d) {nt b s : Nat} (hnt : J 130 59 = Int32.ofNat nt) (hnt2 : nt < 100000000) (hb : b < nt) (hb4 : b < 4) (hs : J 164 ((nt - 1 - b) % 4) = Int32.ofNat s) (hs2 : s ≤ 24) {k : Nat} (hk : k < s) : bm d (S0 n0) R0 175 [.ref 130, .int (Int32.ofNat b), .int (Int32.ofNat k)] W J g L (bR (some (.int (J 165 (24 * ((nt - 1 - b) % 4) + k)))) W (am_u2 J 130 0 (Int32.ofNat 0)) g L) := by
  obtain ⟨e, rfl⟩ : ∃ e, d = e + 1 := ⟨d - 1, by omega⟩
  refine bm_of (Nat.le_of_ble_eq_true rfl) (Or.inr bR_ret) ?_
  show bT e (S0 n0) R0 mt_Mo_note _ 0 [(0, .ref 130), (1, .int (Int32.ofNat b)), (2, .int (Int32.ofNat k))] [] W J g L 0 0
  have hSR := SR0 n0
  refine b_aln (pc2 := 1) d_Mo_note_0 rfl rfl ?_
  refine b_ic (pc2 := 2) (x := Int32.ofNat 0) d_Mo_note_1 rfl rfl ?_
  refine b_pi (pc2 := 5) d_Mo_note_2 q_11_135 (sh_130 n0) (by decide) (Or.inl (by decide)) (Or.inl rfl) (rc_130) rfl ?_
  refine b_iln (pc2 := 6) d_Mo_note_5 rfl rfl ?_
  refine b_ifd (pc2 := 22) d_Mo_note_6 rfl rfl rfl rfl rfl (fun h6 => ?_) (fun h6 => ?_)
  · exact absurd h6 (fun z => by rw [z_lt (by omega)] at z; omega)
  refine b_iln (pc2 := 10) d_Mo_note_9 rfl rfl ?_
  refine b_ic (pc2 := 11) (x := Int32.ofNat 3) d_Mo_note_10 rfl rfl ?_
  refine b_ifd (pc2 := 22) d_Mo_note_11 rfl rfl rfl rfl rfl (fun h11 => ?_) (fun h11 => ?_)
  · exact absurd h11 (fun z => by rw [i_lt (by omega) (by omega)] at z; omega)
  refine b_iln (pc2 := 15) d_Mo_note_14 rfl rfl ?_
  refine b_aln (pc2 := 16) d_Mo_note_15 rfl rfl ?_
  refine b_gi (pc2 := 19) d_Mo_note_16 q_11_232 (sh_130 n0) (by decide) (by decide) (rc_130) rfl ?_
  rw [u2_k _ _ (by decide), hnt]
  refine b_ifd (pc2 := 28) d_Mo_note_19 rfl rfl rfl rfl rfl (fun h19 => ?_) (fun h19 => ?_)
  rotate_left
  · exact absurd (by rw [i_lt (by omega) (by omega)]; omega) h19
  refine b_aln (pc2 := 29) d_Mo_note_28 rfl rfl ?_
  refine b_gi (pc2 := 32) d_Mo_note_29 q_11_232 (sh_130 n0) (by decide) (by decide) (rc_130) rfl ?_
  rw [u2_k _ _ (by decide), hnt]
  refine b_ic (pc2 := 33) (x := Int32.ofNat 1) d_Mo_note_32 rfl rfl ?_
  refine b_pure (pc2 := 34) d_Mo_note_33 rfl rfl rfl ?_
  rw [i_sub (by omega)]
  refine b_iln (pc2 := 35) d_Mo_note_34 rfl rfl ?_
  refine b_pure (pc2 := 36) d_Mo_note_35 rfl rfl rfl ?_
  rw [i_sub (by omega)]
  refine b_ic (pc2 := 37) (x := Int32.ofNat 4) d_Mo_note_36 rfl rfl ?_
  refine b_rem (pc2 := 38) d_Mo_note_37 (by decide) rfl ?_
  rw [i_rem (by omega) (by omega) (by omega)]
  refine b_isn (pc2 := 39) (al2 := [(3, _), (0, _), (1, _), (2, _)]) d_Mo_note_38 (by decide) rfl rfl ?_
  refine b_iln (pc2 := 40) d_Mo_note_39 rfl rfl ?_
  refine b_ic (pc2 := 41) (x := -1) d_Mo_note_40 rfl rfl ?_
  refine b_ifd (pc2 := 54) d_Mo_note_41 rfl rfl rfl rfl rfl (fun h41 => ?_) (fun h41 => ?_)
  · exact absurd h41 (nm1 (by omega))
  refine b_iln (pc2 := 45) d_Mo_note_44 rfl rfl ?_
  refine b_aln (pc2 := 46) d_Mo_note_45 rfl rfl ?_
  refine b_gr (pc2 := 49) d_Mo_note_46 q_11_123 (sh_130 n0) (by decide) (by decide) (p_130_60 n0) rfl ?_
  refine b_iln (pc2 := 50) d_Mo_note_49 rfl rfl ?_
  refine b_ia (pc2 := 51) (q := ((nt - 1 - b) % 4)) d_Mo_note_50 (sh_164 n0) (i_in (show (nt - 1 - b) % 4 < 4 by omega) (by decide)) (i_tn (by omega)) (rc_164) rfl ?_
  rw [u2_a _ _ (by decide), hs]
  refine b_ifd (pc2 := 60) d_Mo_note_51 rfl rfl rfl rfl rfl (fun h51 => ?_) (fun h51 => ?_)
  rotate_left
  · exact absurd (by rw [i_lt (by omega) (by omega)]; omega) h51
  refine b_iln (pc2 := 61) d_Mo_note_60 rfl rfl ?_
  refine b_ifd (pc2 := 73) d_Mo_note_61 rfl rfl rfl rfl rfl (fun h61 => ?_) (fun h61 => ?_)
  rotate_left
  · exact absurd (by rw [z_ge (by omega)]; omega) h61
  refine b_aln (pc2 := 74) d_Mo_note_73 rfl rfl ?_
  refine b_gr (pc2 := 77) d_Mo_note_74 q_11_126 (sh_130 n0) (by decide) (by decide) (p_130_61 n0) rfl ?_
  refine b_bp (pc2 := 79) (x := Int32.ofNat 24) d_Mo_note_77 rfl rfl ?_
  refine b_iln (pc2 := 80) d_Mo_note_79 rfl rfl ?_
  refine b_pure (pc2 := 81) d_Mo_note_80 rfl rfl rfl ?_
  rw [i_mul]
  refine b_iln (pc2 := 82) d_Mo_note_81 rfl rfl ?_
  refine b_pure (pc2 := 83) d_Mo_note_82 rfl rfl rfl ?_
  rw [i_add]
  refine b_ia (pc2 := 84) (q := (24 * ((nt - 1 - b) % 4) + k)) d_Mo_note_83 (sh_165 n0) (i_in (show 24 * ((nt - 1 - b) % 4) + k < 96 by omega) (by decide)) (i_tn (by omega)) (rc_165) rfl ?_
  rw [u2_a _ _ (by decide)]
  refine b_ir d_Mo_note_84 rfl ?_
  exact ⟨rfl, rfl, rfl, rfl, rfl⟩
theorem mo_note_x {d : Nat} (hd : 2 ≤ d) {nt b s : Nat} (hnt : J 130 59 = Int32.ofNat nt) (hnt2 : nt < 100000000) (hb : b < nt) (hb4 : b < 4) (hs : J 164 ((nt - 1 - b) % 4) = Int32.ofNat s) (hs2 : s ≤ 24) {k : Int32} (hk : ¬ k = -1) (hx : ¬ (¬ k < 0 ∧ k < Int32.ofNat s)) : bm d (S0 n0) R0 175 [.ref 130, .int (Int32.ofNat b), .int k] W J g L (bR (some (.int (Int32.ofNat 0))) W (am_u2 J 130 0 (Int32.ofNat 2)) g L) := by
  obtain ⟨e, rfl⟩ : ∃ e, d = e + 1 := ⟨d - 1, by omega⟩
  refine bm_of (Nat.le_of_ble_eq_true rfl) (Or.inr bR_ret) ?_
  show bT e (S0 n0) R0 mt_Mo_note _ 0 [(0, .ref 130), (1, .int (Int32.ofNat b)), (2, .int k)] [] W J g L 0 0
  have hSR := SR0 n0
  refine b_aln (pc2 := 1) d_Mo_note_0 rfl rfl ?_
  refine b_ic (pc2 := 2) (x := Int32.ofNat 0) d_Mo_note_1 rfl rfl ?_
  refine b_pi (pc2 := 5) d_Mo_note_2 q_11_135 (sh_130 n0) (by decide) (Or.inl (by decide)) (Or.inl rfl) (rc_130) rfl ?_
  refine b_iln (pc2 := 6) d_Mo_note_5 rfl rfl ?_
  refine b_ifd (pc2 := 22) d_Mo_note_6 rfl rfl rfl rfl rfl (fun h6 => ?_) (fun h6 => ?_)
  · exact absurd h6 (fun z => by rw [z_lt (by omega)] at z; omega)
  refine b_iln (pc2 := 10) d_Mo_note_9 rfl rfl ?_
  refine b_ic (pc2 := 11) (x := Int32.ofNat 3) d_Mo_note_10 rfl rfl ?_
  refine b_ifd (pc2 := 22) d_Mo_note_11 rfl rfl rfl rfl rfl (fun h11 => ?_) (fun h11 => ?_)
  · exact absurd h11 (fun z => by rw [i_lt (by omega) (by omega)] at z; omega)
  refine b_iln (pc2 := 15) d_Mo_note_14 rfl rfl ?_
  refine b_aln (pc2 := 16) d_Mo_note_15 rfl rfl ?_
  refine b_gi (pc2 := 19) d_Mo_note_16 q_11_232 (sh_130 n0) (by decide) (by decide) (rc_130) rfl ?_
  rw [u2_k _ _ (by decide), hnt]
  refine b_ifd (pc2 := 28) d_Mo_note_19 rfl rfl rfl rfl rfl (fun h19 => ?_) (fun h19 => ?_)
  rotate_left
  · exact absurd (by rw [i_lt (by omega) (by omega)]; omega) h19
  refine b_aln (pc2 := 29) d_Mo_note_28 rfl rfl ?_
  refine b_gi (pc2 := 32) d_Mo_note_29 q_11_232 (sh_130 n0) (by decide) (by decide) (rc_130) rfl ?_
  rw [u2_k _ _ (by decide), hnt]
  refine b_ic (pc2 := 33) (x := Int32.ofNat 1) d_Mo_note_32 rfl rfl ?_
  refine b_pure (pc2 := 34) d_Mo_note_33 rfl rfl rfl ?_
  rw [i_sub (by omega)]
  refine b_iln (pc2 := 35) d_Mo_note_34 rfl rfl ?_
  refine b_pure (pc2 := 36) d_Mo_note_35 rfl rfl rfl ?_
  rw [i_sub (by omega)]
  refine b_ic (pc2 := 37) (x := Int32.ofNat 4) d_Mo_note_36 rfl rfl ?_
  refine b_rem (pc2 := 38) d_Mo_note_37 (by decide) rfl ?_
  rw [i_rem (by omega) (by omega) (by omega)]
  refine b_isn (pc2 := 39) (al2 := [(3, _), (0, _), (1, _), (2, _)]) d_Mo_note_38 (by decide) rfl rfl ?_
  refine b_iln (pc2 := 40) d_Mo_note_39 rfl rfl ?_
  refine b_ic (pc2 := 41) (x := -1) d_Mo_note_40 rfl rfl ?_
  refine b_ifd (pc2 := 54) d_Mo_note_41 rfl rfl rfl rfl rfl (fun h41 => ?_) (fun h41 => ?_)
  · refine b_aln (pc2 := 55) d_Mo_note_54 rfl rfl ?_
    refine b_ic (pc2 := 56) (x := Int32.ofNat 2) d_Mo_note_55 rfl rfl ?_
    refine b_cv1 (pc2 := 59) (c2 := 0) (u2 := 0) (mo_fail (by omega)) d_Mo_note_56 q_11_320 (Nat.le_of_ble_eq_true rfl) rfl rfl (sh_130 n0) (Nat.le_of_ble_eq_true rfl) rfl rfl (by decide) (by decide) rfl ?_
    rw [u2_u2]
    refine b_ir d_Mo_note_59 rfl ?_
    exact ⟨rfl, rfl, rfl, rfl, rfl⟩
  · refine b_iln (pc2 := 45) d_Mo_note_44 rfl rfl ?_
    refine b_aln (pc2 := 46) d_Mo_note_45 rfl rfl ?_
    refine b_gr (pc2 := 49) d_Mo_note_46 q_11_123 (sh_130 n0) (by decide) (by decide) (p_130_60 n0) rfl ?_
    refine b_iln (pc2 := 50) d_Mo_note_49 rfl rfl ?_
    refine b_ia (pc2 := 51) (q := ((nt - 1 - b) % 4)) d_Mo_note_50 (sh_164 n0) (i_in (show (nt - 1 - b) % 4 < 4 by omega) (by decide)) (i_tn (by omega)) (rc_164) rfl ?_
    rw [u2_a _ _ (by decide), hs]
    refine b_ifd (pc2 := 60) d_Mo_note_51 rfl rfl rfl rfl rfl (fun h51 => ?_) (fun h51 => ?_)
    · exact absurd ⟨km1 h41 hk, h51⟩ hx
    · refine b_aln (pc2 := 55) d_Mo_note_54 rfl rfl ?_
      refine b_ic (pc2 := 56) (x := Int32.ofNat 2) d_Mo_note_55 rfl rfl ?_
      refine b_cv1 (pc2 := 59) (c2 := 0) (u2 := 0) (mo_fail (by omega)) d_Mo_note_56 q_11_320 (Nat.le_of_ble_eq_true rfl) rfl rfl (sh_130 n0) (Nat.le_of_ble_eq_true rfl) rfl rfl (by decide) (by decide) rfl ?_
      rw [u2_u2]
      refine b_ir d_Mo_note_59 rfl ?_
      exact ⟨rfl, rfl, rfl, rfl, rfl⟩
theorem mo_value0 {d : Nat} (hd : 2 ≤ d) {h k : Int32} (hb : ¬ (¬ h < Int32.ofNat 1 ∧ ¬ J 130 31 < h)) : bm d (S0 n0) R0 177 [.ref 130, .int h, .int k] W J g L (bR (some (.int (Int32.ofNat 0))) W (am_u2 J 130 0 (Int32.ofNat 1)) g L) := by
  obtain ⟨e, rfl⟩ : ∃ e, d = e + 1 := ⟨d - 1, by omega⟩
  refine bm_of (Nat.le_of_ble_eq_true rfl) (Or.inr bR_ret) ?_
  show bT e (S0 n0) R0 mt_Mo_value _ 0 [(0, .ref 130), (1, .int h), (2, .int k)] [] W J g L 0 0
  have hSR := SR0 n0
  refine b_aln (pc2 := 1) d_Mo_value_0 rfl rfl ?_
  refine b_ic (pc2 := 2) (x := Int32.ofNat 0) d_Mo_value_1 rfl rfl ?_
  refine b_pi (pc2 := 5) d_Mo_value_2 q_11_135 (sh_130 n0) (by decide) (Or.inl (by decide)) (Or.inl rfl) (rc_130) rfl ?_
  refine b_iln (pc2 := 6) d_Mo_value_5 rfl rfl ?_
  refine b_ic (pc2 := 7) (x := Int32.ofNat 1) d_Mo_value_6 rfl rfl ?_
  refine b_ifd (pc2 := 18) d_Mo_value_7 rfl rfl rfl rfl rfl (fun h7 => ?_) (fun h7 => ?_)
  · refine b_aln (pc2 := 19) d_Mo_value_18 rfl rfl ?_
    refine b_ic (pc2 := 20) (x := Int32.ofNat 1) d_Mo_value_19 rfl rfl ?_
    refine b_cv1 (pc2 := 23) (c2 := 0) (u2 := 0) (mo_fail (by omega)) d_Mo_value_20 q_11_320 (Nat.le_of_ble_eq_true rfl) rfl rfl (sh_130 n0) (Nat.le_of_ble_eq_true rfl) rfl rfl (by decide) (by decide) rfl ?_
    rw [u2_u2]
    refine b_ir d_Mo_value_23 rfl ?_
    exact ⟨rfl, rfl, rfl, rfl, rfl⟩
  · refine b_iln (pc2 := 11) d_Mo_value_10 rfl rfl ?_
    refine b_aln (pc2 := 12) d_Mo_value_11 rfl rfl ?_
    refine b_gi (pc2 := 15) d_Mo_value_12 q_11_212 (sh_130 n0) (by decide) (by decide) (rc_130) rfl ?_
    rw [u2_k _ _ (by decide)]
    refine b_ifd (pc2 := 24) d_Mo_value_15 rfl rfl rfl rfl rfl (fun h15 => ?_) (fun h15 => ?_)
    · exact absurd ⟨h7, Int32.not_lt.mpr h15⟩ hb
    · refine b_aln (pc2 := 19) d_Mo_value_18 rfl rfl ?_
      refine b_ic (pc2 := 20) (x := Int32.ofNat 1) d_Mo_value_19 rfl rfl ?_
      refine b_cv1 (pc2 := 23) (c2 := 0) (u2 := 0) (mo_fail (by omega)) d_Mo_value_20 q_11_320 (Nat.le_of_ble_eq_true rfl) rfl rfl (sh_130 n0) (Nat.le_of_ble_eq_true rfl) rfl rfl (by decide) (by decide) rfl ?_
      rw [u2_u2]
      refine b_ir d_Mo_value_23 rfl ?_
      exact ⟨rfl, rfl, rfl, rfl, rfl⟩
theorem mo_value_l {d : Nat} (hd : 2 ≤ d) {i ct vs : Nat} (hi : i < 10) (hc : J 130 31 = Int32.ofNat ct) (hct : ct ≤ 10) (hic : i < ct) (hv : J 154 i = Int32.ofNat vs) (hvs : vs ≤ 16)  : bm d (S0 n0) R0 177 [.ref 130, .int (Int32.ofNat (i + 1)), .int (-1)] W J g L (bR (some (.int (Int32.ofNat vs))) W (am_u2 J 130 0 (Int32.ofNat 0)) g L) := by
  obtain ⟨e, rfl⟩ : ∃ e, d = e + 1 := ⟨d - 1, by omega⟩
  refine bm_of (Nat.le_of_ble_eq_true rfl) (Or.inr bR_ret) ?_
  show bT e (S0 n0) R0 mt_Mo_value _ 0 [(0, .ref 130), (1, .int (Int32.ofNat (i + 1))), (2, .int (-1))] [] W J g L 0 0
  have hSR := SR0 n0
  refine b_aln (pc2 := 1) d_Mo_value_0 rfl rfl ?_
  refine b_ic (pc2 := 2) (x := Int32.ofNat 0) d_Mo_value_1 rfl rfl ?_
  refine b_pi (pc2 := 5) d_Mo_value_2 q_11_135 (sh_130 n0) (by decide) (Or.inl (by decide)) (Or.inl rfl) (rc_130) rfl ?_
  refine b_iln (pc2 := 6) d_Mo_value_5 rfl rfl ?_
  refine b_ic (pc2 := 7) (x := Int32.ofNat 1) d_Mo_value_6 rfl rfl ?_
  refine b_ifd (pc2 := 18) d_Mo_value_7 rfl rfl rfl rfl rfl (fun h7 => ?_) (fun h7 => ?_)
  · exact absurd h7 (fun z => by rw [i_lt (by omega) (by omega)] at z; omega)
  refine b_iln (pc2 := 11) d_Mo_value_10 rfl rfl ?_
  refine b_aln (pc2 := 12) d_Mo_value_11 rfl rfl ?_
  refine b_gi (pc2 := 15) d_Mo_value_12 q_11_212 (sh_130 n0) (by decide) (by decide) (rc_130) rfl ?_
  rw [u2_k _ _ (by decide), hc]
  refine b_ifd (pc2 := 24) d_Mo_value_15 rfl rfl rfl rfl rfl (fun h15 => ?_) (fun h15 => ?_)
  rotate_left
  · exact absurd (by rw [i_le (by omega) (by omega)]; omega) h15
  refine b_iln (pc2 := 25) d_Mo_value_24 rfl rfl ?_
  refine b_ic (pc2 := 26) (x := -1) d_Mo_value_25 rfl rfl ?_
  refine b_ifd (pc2 := 41) d_Mo_value_26 rfl rfl rfl rfl rfl (fun h26 => ?_) (fun h26 => ?_)
  · exact absurd h26 (by decide)
  refine b_iln (pc2 := 30) d_Mo_value_29 rfl rfl ?_
  refine b_aln (pc2 := 31) d_Mo_value_30 rfl rfl ?_
  refine b_gr (pc2 := 34) d_Mo_value_31 q_11_84 (sh_130 n0) (by decide) (by decide) (p_130_34 n0) rfl ?_
  refine b_iln (pc2 := 35) d_Mo_value_34 rfl rfl ?_
  refine b_ic (pc2 := 36) (x := Int32.ofNat 1) d_Mo_value_35 rfl rfl ?_
  refine b_pure (pc2 := 37) d_Mo_value_36 rfl rfl rfl ?_
  rw [i_sub (by omega), show i + 1 - 1 = i by omega]
  refine b_ia (pc2 := 38) (q := i) d_Mo_value_37 (sh_154 n0) (i_in (show i < 10 by omega) (by decide)) (i_tn (by omega)) (rc_154) rfl ?_
  rw [u2_a _ _ (by decide), hv]
  refine b_ifd (pc2 := 47) d_Mo_value_38 rfl rfl rfl rfl rfl (fun h38 => ?_) (fun h38 => ?_)
  rotate_left
  · exact absurd (m1_lt (by omega)) h38
  refine b_iln (pc2 := 48) d_Mo_value_47 rfl rfl ?_
  refine b_ifd (pc2 := 62) d_Mo_value_48 rfl rfl rfl rfl rfl (fun h48 => ?_) (fun h48 => ?_)
  · exact absurd h48 (by decide)
  refine b_aln (pc2 := 52) d_Mo_value_51 rfl rfl ?_
  refine b_gr (pc2 := 55) d_Mo_value_52 q_11_84 (sh_130 n0) (by decide) (by decide) (p_130_34 n0) rfl ?_
  refine b_iln (pc2 := 56) d_Mo_value_55 rfl rfl ?_
  refine b_ic (pc2 := 57) (x := Int32.ofNat 1) d_Mo_value_56 rfl rfl ?_
  refine b_pure (pc2 := 58) d_Mo_value_57 rfl rfl rfl ?_
  rw [i_sub (by omega), show i + 1 - 1 = i by omega]
  refine b_ia (pc2 := 59) (q := i) d_Mo_value_58 (sh_154 n0) (i_in (show i < 10 by omega) (by decide)) (i_tn (by omega)) (rc_154) rfl ?_
  rw [u2_a _ _ (by decide), hv]
  refine b_go (pc2 := 75) d_Mo_value_59 rfl ?_
  refine b_ir d_Mo_value_75 rfl ?_
  exact ⟨rfl, rfl, rfl, rfl, rfl⟩
theorem mo_value_k {d : Nat} (hd : 2 ≤ d) {i ct vs : Nat} (hi : i < 10) (hc : J 130 31 = Int32.ofNat ct) (hct : ct ≤ 10) (hic : i < ct) (hv : J 154 i = Int32.ofNat vs) (hvs : vs ≤ 16) {k : Nat} (hk : k < vs) : bm d (S0 n0) R0 177 [.ref 130, .int (Int32.ofNat (i + 1)), .int (Int32.ofNat k)] W J g L (bR (some (.int (J 155 (16 * i + k)))) W (am_u2 J 130 0 (Int32.ofNat 0)) g L) := by
  obtain ⟨e, rfl⟩ : ∃ e, d = e + 1 := ⟨d - 1, by omega⟩
  refine bm_of (Nat.le_of_ble_eq_true rfl) (Or.inr bR_ret) ?_
  show bT e (S0 n0) R0 mt_Mo_value _ 0 [(0, .ref 130), (1, .int (Int32.ofNat (i + 1))), (2, .int (Int32.ofNat k))] [] W J g L 0 0
  have hSR := SR0 n0
  refine b_aln (pc2 := 1) d_Mo_value_0 rfl rfl ?_
  refine b_ic (pc2 := 2) (x := Int32.ofNat 0) d_Mo_value_1 rfl rfl ?_
  refine b_pi (pc2 := 5) d_Mo_value_2 q_11_135 (sh_130 n0) (by decide) (Or.inl (by decide)) (Or.inl rfl) (rc_130) rfl ?_
  refine b_iln (pc2 := 6) d_Mo_value_5 rfl rfl ?_
  refine b_ic (pc2 := 7) (x := Int32.ofNat 1) d_Mo_value_6 rfl rfl ?_
  refine b_ifd (pc2 := 18) d_Mo_value_7 rfl rfl rfl rfl rfl (fun h7 => ?_) (fun h7 => ?_)
  · exact absurd h7 (fun z => by rw [i_lt (by omega) (by omega)] at z; omega)
  refine b_iln (pc2 := 11) d_Mo_value_10 rfl rfl ?_
  refine b_aln (pc2 := 12) d_Mo_value_11 rfl rfl ?_
  refine b_gi (pc2 := 15) d_Mo_value_12 q_11_212 (sh_130 n0) (by decide) (by decide) (rc_130) rfl ?_
  rw [u2_k _ _ (by decide), hc]
  refine b_ifd (pc2 := 24) d_Mo_value_15 rfl rfl rfl rfl rfl (fun h15 => ?_) (fun h15 => ?_)
  rotate_left
  · exact absurd (by rw [i_le (by omega) (by omega)]; omega) h15
  refine b_iln (pc2 := 25) d_Mo_value_24 rfl rfl ?_
  refine b_ic (pc2 := 26) (x := -1) d_Mo_value_25 rfl rfl ?_
  refine b_ifd (pc2 := 41) d_Mo_value_26 rfl rfl rfl rfl rfl (fun h26 => ?_) (fun h26 => ?_)
  · exact absurd h26 (nm1 (by omega))
  refine b_iln (pc2 := 30) d_Mo_value_29 rfl rfl ?_
  refine b_aln (pc2 := 31) d_Mo_value_30 rfl rfl ?_
  refine b_gr (pc2 := 34) d_Mo_value_31 q_11_84 (sh_130 n0) (by decide) (by decide) (p_130_34 n0) rfl ?_
  refine b_iln (pc2 := 35) d_Mo_value_34 rfl rfl ?_
  refine b_ic (pc2 := 36) (x := Int32.ofNat 1) d_Mo_value_35 rfl rfl ?_
  refine b_pure (pc2 := 37) d_Mo_value_36 rfl rfl rfl ?_
  rw [i_sub (by omega), show i + 1 - 1 = i by omega]
  refine b_ia (pc2 := 38) (q := i) d_Mo_value_37 (sh_154 n0) (i_in (show i < 10 by omega) (by decide)) (i_tn (by omega)) (rc_154) rfl ?_
  rw [u2_a _ _ (by decide), hv]
  refine b_ifd (pc2 := 47) d_Mo_value_38 rfl rfl rfl rfl rfl (fun h38 => ?_) (fun h38 => ?_)
  rotate_left
  · exact absurd (by rw [i_lt (by omega) (by omega)]; omega) h38
  refine b_iln (pc2 := 48) d_Mo_value_47 rfl rfl ?_
  refine b_ifd (pc2 := 62) d_Mo_value_48 rfl rfl rfl rfl rfl (fun h48 => ?_) (fun h48 => ?_)
  rotate_left
  · exact absurd (by rw [z_ge (by omega)]; omega) h48
  refine b_aln (pc2 := 63) d_Mo_value_62 rfl rfl ?_
  refine b_gr (pc2 := 66) d_Mo_value_63 q_11_87 (sh_130 n0) (by decide) (by decide) (p_130_35 n0) rfl ?_
  refine b_bp (pc2 := 68) (x := Int32.ofNat 16) d_Mo_value_66 rfl rfl ?_
  refine b_iln (pc2 := 69) d_Mo_value_68 rfl rfl ?_
  refine b_ic (pc2 := 70) (x := Int32.ofNat 1) d_Mo_value_69 rfl rfl ?_
  refine b_pure (pc2 := 71) d_Mo_value_70 rfl rfl rfl ?_
  rw [i_sub (by omega), show i + 1 - 1 = i by omega]
  refine b_pure (pc2 := 72) d_Mo_value_71 rfl rfl rfl ?_
  rw [i_mul]
  refine b_iln (pc2 := 73) d_Mo_value_72 rfl rfl ?_
  refine b_pure (pc2 := 74) d_Mo_value_73 rfl rfl rfl ?_
  rw [i_add]
  refine b_ia (pc2 := 75) (q := (16 * i + k)) d_Mo_value_74 (sh_155 n0) (i_in (show 16 * i + k < 160 by omega) (by decide)) (i_tn (by omega)) (rc_155) rfl ?_
  rw [u2_a _ _ (by decide)]
  refine b_ir d_Mo_value_75 rfl ?_
  exact ⟨rfl, rfl, rfl, rfl, rfl⟩
theorem mo_value_x {d : Nat} (hd : 2 ≤ d) {i ct vs : Nat} (hi : i < 10) (hc : J 130 31 = Int32.ofNat ct) (hct : ct ≤ 10) (hic : i < ct) (hv : J 154 i = Int32.ofNat vs) (hvs : vs ≤ 16) {k : Int32} (hk : ¬ k = -1) (hx : ¬ (¬ k < 0 ∧ k < Int32.ofNat vs)) : bm d (S0 n0) R0 177 [.ref 130, .int (Int32.ofNat (i + 1)), .int k] W J g L (bR (some (.int (Int32.ofNat 0))) W (am_u2 J 130 0 (Int32.ofNat 2)) g L) := by
  obtain ⟨e, rfl⟩ : ∃ e, d = e + 1 := ⟨d - 1, by omega⟩
  refine bm_of (Nat.le_of_ble_eq_true rfl) (Or.inr bR_ret) ?_
  show bT e (S0 n0) R0 mt_Mo_value _ 0 [(0, .ref 130), (1, .int (Int32.ofNat (i + 1))), (2, .int k)] [] W J g L 0 0
  have hSR := SR0 n0
  refine b_aln (pc2 := 1) d_Mo_value_0 rfl rfl ?_
  refine b_ic (pc2 := 2) (x := Int32.ofNat 0) d_Mo_value_1 rfl rfl ?_
  refine b_pi (pc2 := 5) d_Mo_value_2 q_11_135 (sh_130 n0) (by decide) (Or.inl (by decide)) (Or.inl rfl) (rc_130) rfl ?_
  refine b_iln (pc2 := 6) d_Mo_value_5 rfl rfl ?_
  refine b_ic (pc2 := 7) (x := Int32.ofNat 1) d_Mo_value_6 rfl rfl ?_
  refine b_ifd (pc2 := 18) d_Mo_value_7 rfl rfl rfl rfl rfl (fun h7 => ?_) (fun h7 => ?_)
  · exact absurd h7 (fun z => by rw [i_lt (by omega) (by omega)] at z; omega)
  refine b_iln (pc2 := 11) d_Mo_value_10 rfl rfl ?_
  refine b_aln (pc2 := 12) d_Mo_value_11 rfl rfl ?_
  refine b_gi (pc2 := 15) d_Mo_value_12 q_11_212 (sh_130 n0) (by decide) (by decide) (rc_130) rfl ?_
  rw [u2_k _ _ (by decide), hc]
  refine b_ifd (pc2 := 24) d_Mo_value_15 rfl rfl rfl rfl rfl (fun h15 => ?_) (fun h15 => ?_)
  rotate_left
  · exact absurd (by rw [i_le (by omega) (by omega)]; omega) h15
  refine b_iln (pc2 := 25) d_Mo_value_24 rfl rfl ?_
  refine b_ic (pc2 := 26) (x := -1) d_Mo_value_25 rfl rfl ?_
  refine b_ifd (pc2 := 41) d_Mo_value_26 rfl rfl rfl rfl rfl (fun h26 => ?_) (fun h26 => ?_)
  · refine b_aln (pc2 := 42) d_Mo_value_41 rfl rfl ?_
    refine b_ic (pc2 := 43) (x := Int32.ofNat 2) d_Mo_value_42 rfl rfl ?_
    refine b_cv1 (pc2 := 46) (c2 := 0) (u2 := 0) (mo_fail (by omega)) d_Mo_value_43 q_11_320 (Nat.le_of_ble_eq_true rfl) rfl rfl (sh_130 n0) (Nat.le_of_ble_eq_true rfl) rfl rfl (by decide) (by decide) rfl ?_
    rw [u2_u2]
    refine b_ir d_Mo_value_46 rfl ?_
    exact ⟨rfl, rfl, rfl, rfl, rfl⟩
  · refine b_iln (pc2 := 30) d_Mo_value_29 rfl rfl ?_
    refine b_aln (pc2 := 31) d_Mo_value_30 rfl rfl ?_
    refine b_gr (pc2 := 34) d_Mo_value_31 q_11_84 (sh_130 n0) (by decide) (by decide) (p_130_34 n0) rfl ?_
    refine b_iln (pc2 := 35) d_Mo_value_34 rfl rfl ?_
    refine b_ic (pc2 := 36) (x := Int32.ofNat 1) d_Mo_value_35 rfl rfl ?_
    refine b_pure (pc2 := 37) d_Mo_value_36 rfl rfl rfl ?_
    rw [i_sub (by omega), show i + 1 - 1 = i by omega]
    refine b_ia (pc2 := 38) (q := i) d_Mo_value_37 (sh_154 n0) (i_in (show i < 10 by omega) (by decide)) (i_tn (by omega)) (rc_154) rfl ?_
    rw [u2_a _ _ (by decide), hv]
    refine b_ifd (pc2 := 47) d_Mo_value_38 rfl rfl rfl rfl rfl (fun h38 => ?_) (fun h38 => ?_)
    · exact absurd ⟨km1 h26 hk, h38⟩ hx
    · refine b_aln (pc2 := 42) d_Mo_value_41 rfl rfl ?_
      refine b_ic (pc2 := 43) (x := Int32.ofNat 2) d_Mo_value_42 rfl rfl ?_
      refine b_cv1 (pc2 := 46) (c2 := 0) (u2 := 0) (mo_fail (by omega)) d_Mo_value_43 q_11_320 (Nat.le_of_ble_eq_true rfl) rfl rfl (sh_130 n0) (Nat.le_of_ble_eq_true rfl) rfl rfl (by decide) (by decide) rfl ?_
      rw [u2_u2]
      refine b_ir d_Mo_value_46 rfl ?_
      exact ⟨rfl, rfl, rfl, rfl, rfl⟩
theorem mo_air0_0 {d : Nat} (hd : 2 ≤ d) {b k : Int32} (hb : b = 0) (hs : J 149 0 = Int32.ofNat 0) : bm d (S0 n0) R0 178 [.ref 130, .int b, .int k] W J g L (bR (some (.int (Int32.ofNat 0))) W (am_u2 J 130 0 (Int32.ofNat 1)) g L) := by
  obtain ⟨e, rfl⟩ : ∃ e, d = e + 1 := ⟨d - 1, by omega⟩
  refine bm_of (Nat.le_of_ble_eq_true rfl) (Or.inr bR_ret) ?_
  show bT e (S0 n0) R0 mt_Mo_air _ 0 [(0, .ref 130), (1, .int b), (2, .int k)] [] W J g L 0 0
  have hSR := SR0 n0
  refine b_aln (pc2 := 1) d_Mo_air_0 rfl rfl ?_
  refine b_ic (pc2 := 2) (x := Int32.ofNat 0) d_Mo_air_1 rfl rfl ?_
  refine b_pi (pc2 := 5) d_Mo_air_2 q_11_135 (sh_130 n0) (by decide) (Or.inl (by decide)) (Or.inl rfl) (rc_130) rfl ?_
  refine b_iln (pc2 := 6) d_Mo_air_5 rfl rfl ?_
  refine b_ifd (pc2 := 13) d_Mo_air_6 rfl rfl rfl rfl rfl (fun h6 => ?_) (fun h6 => ?_)
  rotate_left
  · exact absurd (hb) h6
  refine b_ic (pc2 := 14) (x := Int32.ofNat 0) d_Mo_air_13 rfl rfl ?_
  refine b_isn (pc2 := 15) (al2 := [(3, _), (0, _), (1, _), (2, _)]) d_Mo_air_14 (by decide) rfl rfl ?_
  refine b_aln (pc2 := 16) d_Mo_air_15 rfl rfl ?_
  refine b_gr (pc2 := 19) d_Mo_air_16 q_11_69 (sh_130 n0) (by decide) (by decide) (p_130_26 n0) rfl ?_
  refine b_iln (pc2 := 20) d_Mo_air_19 rfl rfl ?_
  refine b_ia (pc2 := 21) (q := 0) d_Mo_air_20 (sh_149 n0) (i_in (i := 0) (by decide) (by decide)) (rfl) (rc_149) rfl ?_
  rw [u2_a _ _ (by decide), hs]
  refine b_ifd (pc2 := 30) d_Mo_air_21 rfl rfl rfl rfl rfl (fun h21 => ?_) (fun h21 => ?_)
  · exact absurd h21 (by decide)
  refine b_aln (pc2 := 25) d_Mo_air_24 rfl rfl ?_
  refine b_ic (pc2 := 26) (x := Int32.ofNat 1) d_Mo_air_25 rfl rfl ?_
  refine b_cv1 (pc2 := 29) (c2 := 0) (u2 := 0) (mo_fail (by omega)) d_Mo_air_26 q_11_320 (Nat.le_of_ble_eq_true rfl) rfl rfl (sh_130 n0) (Nat.le_of_ble_eq_true rfl) rfl rfl (by decide) (by decide) rfl ?_
  rw [u2_u2]
  refine b_ir d_Mo_air_29 rfl ?_
  exact ⟨rfl, rfl, rfl, rfl, rfl⟩
theorem mo_air0_l {d : Nat} (hd : 2 ≤ d) {b : Int32} (hb : b = 0) {s : Nat} (hs : J 149 0 = Int32.ofNat s) (hs2 : s ≤ 16) (hs1 : 1 ≤ s)  : bm d (S0 n0) R0 178 [.ref 130, .int b, .int (-1)] W J g L (bR (some (.int (Int32.ofNat s))) W (am_u2 J 130 0 (Int32.ofNat 0)) g L) := by
  obtain ⟨e, rfl⟩ : ∃ e, d = e + 1 := ⟨d - 1, by omega⟩
  refine bm_of (Nat.le_of_ble_eq_true rfl) (Or.inr bR_ret) ?_
  show bT e (S0 n0) R0 mt_Mo_air _ 0 [(0, .ref 130), (1, .int b), (2, .int (-1))] [] W J g L 0 0
  have hSR := SR0 n0
  refine b_aln (pc2 := 1) d_Mo_air_0 rfl rfl ?_
  refine b_ic (pc2 := 2) (x := Int32.ofNat 0) d_Mo_air_1 rfl rfl ?_
  refine b_pi (pc2 := 5) d_Mo_air_2 q_11_135 (sh_130 n0) (by decide) (Or.inl (by decide)) (Or.inl rfl) (rc_130) rfl ?_
  refine b_iln (pc2 := 6) d_Mo_air_5 rfl rfl ?_
  refine b_ifd (pc2 := 13) d_Mo_air_6 rfl rfl rfl rfl rfl (fun h6 => ?_) (fun h6 => ?_)
  rotate_left
  · exact absurd (hb) h6
  refine b_ic (pc2 := 14) (x := Int32.ofNat 0) d_Mo_air_13 rfl rfl ?_
  refine b_isn (pc2 := 15) (al2 := [(3, _), (0, _), (1, _), (2, _)]) d_Mo_air_14 (by decide) rfl rfl ?_
  refine b_aln (pc2 := 16) d_Mo_air_15 rfl rfl ?_
  refine b_gr (pc2 := 19) d_Mo_air_16 q_11_69 (sh_130 n0) (by decide) (by decide) (p_130_26 n0) rfl ?_
  refine b_iln (pc2 := 20) d_Mo_air_19 rfl rfl ?_
  refine b_ia (pc2 := 21) (q := 0) d_Mo_air_20 (sh_149 n0) (i_in (i := 0) (by decide) (by decide)) (rfl) (rc_149) rfl ?_
  rw [u2_a _ _ (by decide), hs]
  refine b_ifd (pc2 := 30) d_Mo_air_21 rfl rfl rfl rfl rfl (fun h21 => ?_) (fun h21 => ?_)
  rotate_left
  · exact absurd (by rw [z_eq (by omega)]; omega) h21
  refine b_iln (pc2 := 31) d_Mo_air_30 rfl rfl ?_
  refine b_ic (pc2 := 32) (x := -1) d_Mo_air_31 rfl rfl ?_
  refine b_ifd (pc2 := 45) d_Mo_air_32 rfl rfl rfl rfl rfl (fun h32 => ?_) (fun h32 => ?_)
  · exact absurd h32 (by decide)
  refine b_iln (pc2 := 36) d_Mo_air_35 rfl rfl ?_
  refine b_aln (pc2 := 37) d_Mo_air_36 rfl rfl ?_
  refine b_gr (pc2 := 40) d_Mo_air_37 q_11_69 (sh_130 n0) (by decide) (by decide) (p_130_26 n0) rfl ?_
  refine b_iln (pc2 := 41) d_Mo_air_40 rfl rfl ?_
  refine b_ia (pc2 := 42) (q := 0) d_Mo_air_41 (sh_149 n0) (i_in (i := 0) (by decide) (by decide)) (rfl) (rc_149) rfl ?_
  rw [u2_a _ _ (by decide), hs]
  refine b_ifd (pc2 := 51) d_Mo_air_42 rfl rfl rfl rfl rfl (fun h42 => ?_) (fun h42 => ?_)
  rotate_left
  · exact absurd (m1_lt (by omega)) h42
  refine b_iln (pc2 := 52) d_Mo_air_51 rfl rfl ?_
  refine b_ifd (pc2 := 64) d_Mo_air_52 rfl rfl rfl rfl rfl (fun h52 => ?_) (fun h52 => ?_)
  · exact absurd h52 (by decide)
  refine b_aln (pc2 := 56) d_Mo_air_55 rfl rfl ?_
  refine b_gr (pc2 := 59) d_Mo_air_56 q_11_69 (sh_130 n0) (by decide) (by decide) (p_130_26 n0) rfl ?_
  refine b_iln (pc2 := 60) d_Mo_air_59 rfl rfl ?_
  refine b_ia (pc2 := 61) (q := 0) d_Mo_air_60 (sh_149 n0) (i_in (i := 0) (by decide) (by decide)) (rfl) (rc_149) rfl ?_
  rw [u2_a _ _ (by decide), hs]
  refine b_go (pc2 := 75) d_Mo_air_61 rfl ?_
  refine b_ir d_Mo_air_75 rfl ?_
  exact ⟨rfl, rfl, rfl, rfl, rfl⟩
theorem mo_air0_k {d : Nat} (hd : 2 ≤ d) {b : Int32} (hb : b = 0) {s : Nat} (hs : J 149 0 = Int32.ofNat s) (hs2 : s ≤ 16) (hs1 : 1 ≤ s) {k : Nat} (hk : k < s) : bm d (S0 n0) R0 178 [.ref 130, .int b, .int (Int32.ofNat k)] W J g L (bR (some (.int (J 148 (16 * 0 + k)))) W (am_u2 J 130 0 (Int32.ofNat 0)) g L) := by
  obtain ⟨e, rfl⟩ : ∃ e, d = e + 1 := ⟨d - 1, by omega⟩
  refine bm_of (Nat.le_of_ble_eq_true rfl) (Or.inr bR_ret) ?_
  show bT e (S0 n0) R0 mt_Mo_air _ 0 [(0, .ref 130), (1, .int b), (2, .int (Int32.ofNat k))] [] W J g L 0 0
  have hSR := SR0 n0
  refine b_aln (pc2 := 1) d_Mo_air_0 rfl rfl ?_
  refine b_ic (pc2 := 2) (x := Int32.ofNat 0) d_Mo_air_1 rfl rfl ?_
  refine b_pi (pc2 := 5) d_Mo_air_2 q_11_135 (sh_130 n0) (by decide) (Or.inl (by decide)) (Or.inl rfl) (rc_130) rfl ?_
  refine b_iln (pc2 := 6) d_Mo_air_5 rfl rfl ?_
  refine b_ifd (pc2 := 13) d_Mo_air_6 rfl rfl rfl rfl rfl (fun h6 => ?_) (fun h6 => ?_)
  rotate_left
  · exact absurd (hb) h6
  refine b_ic (pc2 := 14) (x := Int32.ofNat 0) d_Mo_air_13 rfl rfl ?_
  refine b_isn (pc2 := 15) (al2 := [(3, _), (0, _), (1, _), (2, _)]) d_Mo_air_14 (by decide) rfl rfl ?_
  refine b_aln (pc2 := 16) d_Mo_air_15 rfl rfl ?_
  refine b_gr (pc2 := 19) d_Mo_air_16 q_11_69 (sh_130 n0) (by decide) (by decide) (p_130_26 n0) rfl ?_
  refine b_iln (pc2 := 20) d_Mo_air_19 rfl rfl ?_
  refine b_ia (pc2 := 21) (q := 0) d_Mo_air_20 (sh_149 n0) (i_in (i := 0) (by decide) (by decide)) (rfl) (rc_149) rfl ?_
  rw [u2_a _ _ (by decide), hs]
  refine b_ifd (pc2 := 30) d_Mo_air_21 rfl rfl rfl rfl rfl (fun h21 => ?_) (fun h21 => ?_)
  rotate_left
  · exact absurd (by rw [z_eq (by omega)]; omega) h21
  refine b_iln (pc2 := 31) d_Mo_air_30 rfl rfl ?_
  refine b_ic (pc2 := 32) (x := -1) d_Mo_air_31 rfl rfl ?_
  refine b_ifd (pc2 := 45) d_Mo_air_32 rfl rfl rfl rfl rfl (fun h32 => ?_) (fun h32 => ?_)
  · exact absurd h32 (nm1 (by omega))
  refine b_iln (pc2 := 36) d_Mo_air_35 rfl rfl ?_
  refine b_aln (pc2 := 37) d_Mo_air_36 rfl rfl ?_
  refine b_gr (pc2 := 40) d_Mo_air_37 q_11_69 (sh_130 n0) (by decide) (by decide) (p_130_26 n0) rfl ?_
  refine b_iln (pc2 := 41) d_Mo_air_40 rfl rfl ?_
  refine b_ia (pc2 := 42) (q := 0) d_Mo_air_41 (sh_149 n0) (i_in (i := 0) (by decide) (by decide)) (rfl) (rc_149) rfl ?_
  rw [u2_a _ _ (by decide), hs]
  refine b_ifd (pc2 := 51) d_Mo_air_42 rfl rfl rfl rfl rfl (fun h42 => ?_) (fun h42 => ?_)
  rotate_left
  · exact absurd (by rw [i_lt (by omega) (by omega)]; omega) h42
  refine b_iln (pc2 := 52) d_Mo_air_51 rfl rfl ?_
  refine b_ifd (pc2 := 64) d_Mo_air_52 rfl rfl rfl rfl rfl (fun h52 => ?_) (fun h52 => ?_)
  rotate_left
  · exact absurd (by rw [z_ge (by omega)]; omega) h52
  refine b_aln (pc2 := 65) d_Mo_air_64 rfl rfl ?_
  refine b_gr (pc2 := 68) d_Mo_air_65 q_11_66 (sh_130 n0) (by decide) (by decide) (p_130_25 n0) rfl ?_
  refine b_bp (pc2 := 70) (x := Int32.ofNat 16) d_Mo_air_68 rfl rfl ?_
  refine b_iln (pc2 := 71) d_Mo_air_70 rfl rfl ?_
  refine b_pure (pc2 := 72) d_Mo_air_71 rfl rfl rfl ?_
  rw [i_mul]
  refine b_iln (pc2 := 73) d_Mo_air_72 rfl rfl ?_
  refine b_pure (pc2 := 74) d_Mo_air_73 rfl rfl rfl ?_
  rw [i_add]
  refine b_ia (pc2 := 75) (q := (16 * 0 + k)) d_Mo_air_74 (sh_148 n0) (i_in (show 16 * 0 + k < 32 by omega) (by decide)) (i_tn (by omega)) (rc_148) rfl ?_
  rw [u2_a _ _ (by decide)]
  refine b_ir d_Mo_air_75 rfl ?_
  exact ⟨rfl, rfl, rfl, rfl, rfl⟩
theorem mo_air0_x {d : Nat} (hd : 2 ≤ d) {b : Int32} (hb : b = 0) {s : Nat} (hs : J 149 0 = Int32.ofNat s) (hs2 : s ≤ 16) (hs1 : 1 ≤ s) {k : Int32} (hk : ¬ k = -1) (hx : ¬ (¬ k < 0 ∧ k < Int32.ofNat s)) : bm d (S0 n0) R0 178 [.ref 130, .int b, .int k] W J g L (bR (some (.int (Int32.ofNat 0))) W (am_u2 J 130 0 (Int32.ofNat 2)) g L) := by
  obtain ⟨e, rfl⟩ : ∃ e, d = e + 1 := ⟨d - 1, by omega⟩
  refine bm_of (Nat.le_of_ble_eq_true rfl) (Or.inr bR_ret) ?_
  show bT e (S0 n0) R0 mt_Mo_air _ 0 [(0, .ref 130), (1, .int b), (2, .int k)] [] W J g L 0 0
  have hSR := SR0 n0
  refine b_aln (pc2 := 1) d_Mo_air_0 rfl rfl ?_
  refine b_ic (pc2 := 2) (x := Int32.ofNat 0) d_Mo_air_1 rfl rfl ?_
  refine b_pi (pc2 := 5) d_Mo_air_2 q_11_135 (sh_130 n0) (by decide) (Or.inl (by decide)) (Or.inl rfl) (rc_130) rfl ?_
  refine b_iln (pc2 := 6) d_Mo_air_5 rfl rfl ?_
  refine b_ifd (pc2 := 13) d_Mo_air_6 rfl rfl rfl rfl rfl (fun h6 => ?_) (fun h6 => ?_)
  rotate_left
  · exact absurd (hb) h6
  refine b_ic (pc2 := 14) (x := Int32.ofNat 0) d_Mo_air_13 rfl rfl ?_
  refine b_isn (pc2 := 15) (al2 := [(3, _), (0, _), (1, _), (2, _)]) d_Mo_air_14 (by decide) rfl rfl ?_
  refine b_aln (pc2 := 16) d_Mo_air_15 rfl rfl ?_
  refine b_gr (pc2 := 19) d_Mo_air_16 q_11_69 (sh_130 n0) (by decide) (by decide) (p_130_26 n0) rfl ?_
  refine b_iln (pc2 := 20) d_Mo_air_19 rfl rfl ?_
  refine b_ia (pc2 := 21) (q := 0) d_Mo_air_20 (sh_149 n0) (i_in (i := 0) (by decide) (by decide)) (rfl) (rc_149) rfl ?_
  rw [u2_a _ _ (by decide), hs]
  refine b_ifd (pc2 := 30) d_Mo_air_21 rfl rfl rfl rfl rfl (fun h21 => ?_) (fun h21 => ?_)
  rotate_left
  · exact absurd (by rw [z_eq (by omega)]; omega) h21
  refine b_iln (pc2 := 31) d_Mo_air_30 rfl rfl ?_
  refine b_ic (pc2 := 32) (x := -1) d_Mo_air_31 rfl rfl ?_
  refine b_ifd (pc2 := 45) d_Mo_air_32 rfl rfl rfl rfl rfl (fun h32 => ?_) (fun h32 => ?_)
  · refine b_aln (pc2 := 46) d_Mo_air_45 rfl rfl ?_
    refine b_ic (pc2 := 47) (x := Int32.ofNat 2) d_Mo_air_46 rfl rfl ?_
    refine b_cv1 (pc2 := 50) (c2 := 0) (u2 := 0) (mo_fail (by omega)) d_Mo_air_47 q_11_320 (Nat.le_of_ble_eq_true rfl) rfl rfl (sh_130 n0) (Nat.le_of_ble_eq_true rfl) rfl rfl (by decide) (by decide) rfl ?_
    rw [u2_u2]
    refine b_ir d_Mo_air_50 rfl ?_
    exact ⟨rfl, rfl, rfl, rfl, rfl⟩
  · refine b_iln (pc2 := 36) d_Mo_air_35 rfl rfl ?_
    refine b_aln (pc2 := 37) d_Mo_air_36 rfl rfl ?_
    refine b_gr (pc2 := 40) d_Mo_air_37 q_11_69 (sh_130 n0) (by decide) (by decide) (p_130_26 n0) rfl ?_
    refine b_iln (pc2 := 41) d_Mo_air_40 rfl rfl ?_
    refine b_ia (pc2 := 42) (q := 0) d_Mo_air_41 (sh_149 n0) (i_in (i := 0) (by decide) (by decide)) (rfl) (rc_149) rfl ?_
    rw [u2_a _ _ (by decide), hs]
    refine b_ifd (pc2 := 51) d_Mo_air_42 rfl rfl rfl rfl rfl (fun h42 => ?_) (fun h42 => ?_)
    · exact absurd ⟨km1 h32 hk, h42⟩ hx
    · refine b_aln (pc2 := 46) d_Mo_air_45 rfl rfl ?_
      refine b_ic (pc2 := 47) (x := Int32.ofNat 2) d_Mo_air_46 rfl rfl ?_
      refine b_cv1 (pc2 := 50) (c2 := 0) (u2 := 0) (mo_fail (by omega)) d_Mo_air_47 q_11_320 (Nat.le_of_ble_eq_true rfl) rfl rfl (sh_130 n0) (Nat.le_of_ble_eq_true rfl) rfl rfl (by decide) (by decide) rfl ?_
      rw [u2_u2]
      refine b_ir d_Mo_air_50 rfl ?_
      exact ⟨rfl, rfl, rfl, rfl, rfl⟩
theorem mo_air1_0 {d : Nat} (hd : 2 ≤ d) {b k : Int32} (hb : ¬ b = 0) (hs : J 149 1 = Int32.ofNat 0) : bm d (S0 n0) R0 178 [.ref 130, .int b, .int k] W J g L (bR (some (.int (Int32.ofNat 0))) W (am_u2 J 130 0 (Int32.ofNat 1)) g L) := by
  obtain ⟨e, rfl⟩ : ∃ e, d = e + 1 := ⟨d - 1, by omega⟩
  refine bm_of (Nat.le_of_ble_eq_true rfl) (Or.inr bR_ret) ?_
  show bT e (S0 n0) R0 mt_Mo_air _ 0 [(0, .ref 130), (1, .int b), (2, .int k)] [] W J g L 0 0
  have hSR := SR0 n0
  refine b_aln (pc2 := 1) d_Mo_air_0 rfl rfl ?_
  refine b_ic (pc2 := 2) (x := Int32.ofNat 0) d_Mo_air_1 rfl rfl ?_
  refine b_pi (pc2 := 5) d_Mo_air_2 q_11_135 (sh_130 n0) (by decide) (Or.inl (by decide)) (Or.inl rfl) (rc_130) rfl ?_
  refine b_iln (pc2 := 6) d_Mo_air_5 rfl rfl ?_
  refine b_ifd (pc2 := 13) d_Mo_air_6 rfl rfl rfl rfl rfl (fun h6 => ?_) (fun h6 => ?_)
  · exact absurd h6 (hb)
  refine b_ic (pc2 := 10) (x := Int32.ofNat 1) d_Mo_air_9 rfl rfl ?_
  refine b_go (pc2 := 14) d_Mo_air_10 rfl ?_
  refine b_isn (pc2 := 15) (al2 := [(3, _), (0, _), (1, _), (2, _)]) d_Mo_air_14 (by decide) rfl rfl ?_
  refine b_aln (pc2 := 16) d_Mo_air_15 rfl rfl ?_
  refine b_gr (pc2 := 19) d_Mo_air_16 q_11_69 (sh_130 n0) (by decide) (by decide) (p_130_26 n0) rfl ?_
  refine b_iln (pc2 := 20) d_Mo_air_19 rfl rfl ?_
  refine b_ia (pc2 := 21) (q := 1) d_Mo_air_20 (sh_149 n0) (i_in (i := 1) (by decide) (by decide)) (rfl) (rc_149) rfl ?_
  rw [u2_a _ _ (by decide), hs]
  refine b_ifd (pc2 := 30) d_Mo_air_21 rfl rfl rfl rfl rfl (fun h21 => ?_) (fun h21 => ?_)
  · exact absurd h21 (by decide)
  refine b_aln (pc2 := 25) d_Mo_air_24 rfl rfl ?_
  refine b_ic (pc2 := 26) (x := Int32.ofNat 1) d_Mo_air_25 rfl rfl ?_
  refine b_cv1 (pc2 := 29) (c2 := 0) (u2 := 0) (mo_fail (by omega)) d_Mo_air_26 q_11_320 (Nat.le_of_ble_eq_true rfl) rfl rfl (sh_130 n0) (Nat.le_of_ble_eq_true rfl) rfl rfl (by decide) (by decide) rfl ?_
  rw [u2_u2]
  refine b_ir d_Mo_air_29 rfl ?_
  exact ⟨rfl, rfl, rfl, rfl, rfl⟩
theorem mo_air1_l {d : Nat} (hd : 2 ≤ d) {b : Int32} (hb : ¬ b = 0) {s : Nat} (hs : J 149 1 = Int32.ofNat s) (hs2 : s ≤ 16) (hs1 : 1 ≤ s)  : bm d (S0 n0) R0 178 [.ref 130, .int b, .int (-1)] W J g L (bR (some (.int (Int32.ofNat s))) W (am_u2 J 130 0 (Int32.ofNat 0)) g L) := by
  obtain ⟨e, rfl⟩ : ∃ e, d = e + 1 := ⟨d - 1, by omega⟩
  refine bm_of (Nat.le_of_ble_eq_true rfl) (Or.inr bR_ret) ?_
  show bT e (S0 n0) R0 mt_Mo_air _ 0 [(0, .ref 130), (1, .int b), (2, .int (-1))] [] W J g L 0 0
  have hSR := SR0 n0
  refine b_aln (pc2 := 1) d_Mo_air_0 rfl rfl ?_
  refine b_ic (pc2 := 2) (x := Int32.ofNat 0) d_Mo_air_1 rfl rfl ?_
  refine b_pi (pc2 := 5) d_Mo_air_2 q_11_135 (sh_130 n0) (by decide) (Or.inl (by decide)) (Or.inl rfl) (rc_130) rfl ?_
  refine b_iln (pc2 := 6) d_Mo_air_5 rfl rfl ?_
  refine b_ifd (pc2 := 13) d_Mo_air_6 rfl rfl rfl rfl rfl (fun h6 => ?_) (fun h6 => ?_)
  · exact absurd h6 (hb)
  refine b_ic (pc2 := 10) (x := Int32.ofNat 1) d_Mo_air_9 rfl rfl ?_
  refine b_go (pc2 := 14) d_Mo_air_10 rfl ?_
  refine b_isn (pc2 := 15) (al2 := [(3, _), (0, _), (1, _), (2, _)]) d_Mo_air_14 (by decide) rfl rfl ?_
  refine b_aln (pc2 := 16) d_Mo_air_15 rfl rfl ?_
  refine b_gr (pc2 := 19) d_Mo_air_16 q_11_69 (sh_130 n0) (by decide) (by decide) (p_130_26 n0) rfl ?_
  refine b_iln (pc2 := 20) d_Mo_air_19 rfl rfl ?_
  refine b_ia (pc2 := 21) (q := 1) d_Mo_air_20 (sh_149 n0) (i_in (i := 1) (by decide) (by decide)) (rfl) (rc_149) rfl ?_
  rw [u2_a _ _ (by decide), hs]
  refine b_ifd (pc2 := 30) d_Mo_air_21 rfl rfl rfl rfl rfl (fun h21 => ?_) (fun h21 => ?_)
  rotate_left
  · exact absurd (by rw [z_eq (by omega)]; omega) h21
  refine b_iln (pc2 := 31) d_Mo_air_30 rfl rfl ?_
  refine b_ic (pc2 := 32) (x := -1) d_Mo_air_31 rfl rfl ?_
  refine b_ifd (pc2 := 45) d_Mo_air_32 rfl rfl rfl rfl rfl (fun h32 => ?_) (fun h32 => ?_)
  · exact absurd h32 (by decide)
  refine b_iln (pc2 := 36) d_Mo_air_35 rfl rfl ?_
  refine b_aln (pc2 := 37) d_Mo_air_36 rfl rfl ?_
  refine b_gr (pc2 := 40) d_Mo_air_37 q_11_69 (sh_130 n0) (by decide) (by decide) (p_130_26 n0) rfl ?_
  refine b_iln (pc2 := 41) d_Mo_air_40 rfl rfl ?_
  refine b_ia (pc2 := 42) (q := 1) d_Mo_air_41 (sh_149 n0) (i_in (i := 1) (by decide) (by decide)) (rfl) (rc_149) rfl ?_
  rw [u2_a _ _ (by decide), hs]
  refine b_ifd (pc2 := 51) d_Mo_air_42 rfl rfl rfl rfl rfl (fun h42 => ?_) (fun h42 => ?_)
  rotate_left
  · exact absurd (m1_lt (by omega)) h42
  refine b_iln (pc2 := 52) d_Mo_air_51 rfl rfl ?_
  refine b_ifd (pc2 := 64) d_Mo_air_52 rfl rfl rfl rfl rfl (fun h52 => ?_) (fun h52 => ?_)
  · exact absurd h52 (by decide)
  refine b_aln (pc2 := 56) d_Mo_air_55 rfl rfl ?_
  refine b_gr (pc2 := 59) d_Mo_air_56 q_11_69 (sh_130 n0) (by decide) (by decide) (p_130_26 n0) rfl ?_
  refine b_iln (pc2 := 60) d_Mo_air_59 rfl rfl ?_
  refine b_ia (pc2 := 61) (q := 1) d_Mo_air_60 (sh_149 n0) (i_in (i := 1) (by decide) (by decide)) (rfl) (rc_149) rfl ?_
  rw [u2_a _ _ (by decide), hs]
  refine b_go (pc2 := 75) d_Mo_air_61 rfl ?_
  refine b_ir d_Mo_air_75 rfl ?_
  exact ⟨rfl, rfl, rfl, rfl, rfl⟩
theorem mo_air1_k {d : Nat} (hd : 2 ≤ d) {b : Int32} (hb : ¬ b = 0) {s : Nat} (hs : J 149 1 = Int32.ofNat s) (hs2 : s ≤ 16) (hs1 : 1 ≤ s) {k : Nat} (hk : k < s) : bm d (S0 n0) R0 178 [.ref 130, .int b, .int (Int32.ofNat k)] W J g L (bR (some (.int (J 148 (16 * 1 + k)))) W (am_u2 J 130 0 (Int32.ofNat 0)) g L) := by
  obtain ⟨e, rfl⟩ : ∃ e, d = e + 1 := ⟨d - 1, by omega⟩
  refine bm_of (Nat.le_of_ble_eq_true rfl) (Or.inr bR_ret) ?_
  show bT e (S0 n0) R0 mt_Mo_air _ 0 [(0, .ref 130), (1, .int b), (2, .int (Int32.ofNat k))] [] W J g L 0 0
  have hSR := SR0 n0
  refine b_aln (pc2 := 1) d_Mo_air_0 rfl rfl ?_
  refine b_ic (pc2 := 2) (x := Int32.ofNat 0) d_Mo_air_1 rfl rfl ?_
  refine b_pi (pc2 := 5) d_Mo_air_2 q_11_135 (sh_130 n0) (by decide) (Or.inl (by decide)) (Or.inl rfl) (rc_130) rfl ?_
  refine b_iln (pc2 := 6) d_Mo_air_5 rfl rfl ?_
  refine b_ifd (pc2 := 13) d_Mo_air_6 rfl rfl rfl rfl rfl (fun h6 => ?_) (fun h6 => ?_)
  · exact absurd h6 (hb)
  refine b_ic (pc2 := 10) (x := Int32.ofNat 1) d_Mo_air_9 rfl rfl ?_
  refine b_go (pc2 := 14) d_Mo_air_10 rfl ?_
  refine b_isn (pc2 := 15) (al2 := [(3, _), (0, _), (1, _), (2, _)]) d_Mo_air_14 (by decide) rfl rfl ?_
  refine b_aln (pc2 := 16) d_Mo_air_15 rfl rfl ?_
  refine b_gr (pc2 := 19) d_Mo_air_16 q_11_69 (sh_130 n0) (by decide) (by decide) (p_130_26 n0) rfl ?_
  refine b_iln (pc2 := 20) d_Mo_air_19 rfl rfl ?_
  refine b_ia (pc2 := 21) (q := 1) d_Mo_air_20 (sh_149 n0) (i_in (i := 1) (by decide) (by decide)) (rfl) (rc_149) rfl ?_
  rw [u2_a _ _ (by decide), hs]
  refine b_ifd (pc2 := 30) d_Mo_air_21 rfl rfl rfl rfl rfl (fun h21 => ?_) (fun h21 => ?_)
  rotate_left
  · exact absurd (by rw [z_eq (by omega)]; omega) h21
  refine b_iln (pc2 := 31) d_Mo_air_30 rfl rfl ?_
  refine b_ic (pc2 := 32) (x := -1) d_Mo_air_31 rfl rfl ?_
  refine b_ifd (pc2 := 45) d_Mo_air_32 rfl rfl rfl rfl rfl (fun h32 => ?_) (fun h32 => ?_)
  · exact absurd h32 (nm1 (by omega))
  refine b_iln (pc2 := 36) d_Mo_air_35 rfl rfl ?_
  refine b_aln (pc2 := 37) d_Mo_air_36 rfl rfl ?_
  refine b_gr (pc2 := 40) d_Mo_air_37 q_11_69 (sh_130 n0) (by decide) (by decide) (p_130_26 n0) rfl ?_
  refine b_iln (pc2 := 41) d_Mo_air_40 rfl rfl ?_
  refine b_ia (pc2 := 42) (q := 1) d_Mo_air_41 (sh_149 n0) (i_in (i := 1) (by decide) (by decide)) (rfl) (rc_149) rfl ?_
  rw [u2_a _ _ (by decide), hs]
  refine b_ifd (pc2 := 51) d_Mo_air_42 rfl rfl rfl rfl rfl (fun h42 => ?_) (fun h42 => ?_)
  rotate_left
  · exact absurd (by rw [i_lt (by omega) (by omega)]; omega) h42
  refine b_iln (pc2 := 52) d_Mo_air_51 rfl rfl ?_
  refine b_ifd (pc2 := 64) d_Mo_air_52 rfl rfl rfl rfl rfl (fun h52 => ?_) (fun h52 => ?_)
  rotate_left
  · exact absurd (by rw [z_ge (by omega)]; omega) h52
  refine b_aln (pc2 := 65) d_Mo_air_64 rfl rfl ?_
  refine b_gr (pc2 := 68) d_Mo_air_65 q_11_66 (sh_130 n0) (by decide) (by decide) (p_130_25 n0) rfl ?_
  refine b_bp (pc2 := 70) (x := Int32.ofNat 16) d_Mo_air_68 rfl rfl ?_
  refine b_iln (pc2 := 71) d_Mo_air_70 rfl rfl ?_
  refine b_pure (pc2 := 72) d_Mo_air_71 rfl rfl rfl ?_
  rw [i_mul]
  refine b_iln (pc2 := 73) d_Mo_air_72 rfl rfl ?_
  refine b_pure (pc2 := 74) d_Mo_air_73 rfl rfl rfl ?_
  rw [i_add]
  refine b_ia (pc2 := 75) (q := (16 * 1 + k)) d_Mo_air_74 (sh_148 n0) (i_in (show 16 * 1 + k < 32 by omega) (by decide)) (i_tn (by omega)) (rc_148) rfl ?_
  rw [u2_a _ _ (by decide)]
  refine b_ir d_Mo_air_75 rfl ?_
  exact ⟨rfl, rfl, rfl, rfl, rfl⟩
theorem mo_air1_x {d : Nat} (hd : 2 ≤ d) {b : Int32} (hb : ¬ b = 0) {s : Nat} (hs : J 149 1 = Int32.ofNat s) (hs2 : s ≤ 16) (hs1 : 1 ≤ s) {k : Int32} (hk : ¬ k = -1) (hx : ¬ (¬ k < 0 ∧ k < Int32.ofNat s)) : bm d (S0 n0) R0 178 [.ref 130, .int b, .int k] W J g L (bR (some (.int (Int32.ofNat 0))) W (am_u2 J 130 0 (Int32.ofNat 2)) g L) := by
  obtain ⟨e, rfl⟩ : ∃ e, d = e + 1 := ⟨d - 1, by omega⟩
  refine bm_of (Nat.le_of_ble_eq_true rfl) (Or.inr bR_ret) ?_
  show bT e (S0 n0) R0 mt_Mo_air _ 0 [(0, .ref 130), (1, .int b), (2, .int k)] [] W J g L 0 0
  have hSR := SR0 n0
  refine b_aln (pc2 := 1) d_Mo_air_0 rfl rfl ?_
  refine b_ic (pc2 := 2) (x := Int32.ofNat 0) d_Mo_air_1 rfl rfl ?_
  refine b_pi (pc2 := 5) d_Mo_air_2 q_11_135 (sh_130 n0) (by decide) (Or.inl (by decide)) (Or.inl rfl) (rc_130) rfl ?_
  refine b_iln (pc2 := 6) d_Mo_air_5 rfl rfl ?_
  refine b_ifd (pc2 := 13) d_Mo_air_6 rfl rfl rfl rfl rfl (fun h6 => ?_) (fun h6 => ?_)
  · exact absurd h6 (hb)
  refine b_ic (pc2 := 10) (x := Int32.ofNat 1) d_Mo_air_9 rfl rfl ?_
  refine b_go (pc2 := 14) d_Mo_air_10 rfl ?_
  refine b_isn (pc2 := 15) (al2 := [(3, _), (0, _), (1, _), (2, _)]) d_Mo_air_14 (by decide) rfl rfl ?_
  refine b_aln (pc2 := 16) d_Mo_air_15 rfl rfl ?_
  refine b_gr (pc2 := 19) d_Mo_air_16 q_11_69 (sh_130 n0) (by decide) (by decide) (p_130_26 n0) rfl ?_
  refine b_iln (pc2 := 20) d_Mo_air_19 rfl rfl ?_
  refine b_ia (pc2 := 21) (q := 1) d_Mo_air_20 (sh_149 n0) (i_in (i := 1) (by decide) (by decide)) (rfl) (rc_149) rfl ?_
  rw [u2_a _ _ (by decide), hs]
  refine b_ifd (pc2 := 30) d_Mo_air_21 rfl rfl rfl rfl rfl (fun h21 => ?_) (fun h21 => ?_)
  rotate_left
  · exact absurd (by rw [z_eq (by omega)]; omega) h21
  refine b_iln (pc2 := 31) d_Mo_air_30 rfl rfl ?_
  refine b_ic (pc2 := 32) (x := -1) d_Mo_air_31 rfl rfl ?_
  refine b_ifd (pc2 := 45) d_Mo_air_32 rfl rfl rfl rfl rfl (fun h32 => ?_) (fun h32 => ?_)
  · refine b_aln (pc2 := 46) d_Mo_air_45 rfl rfl ?_
    refine b_ic (pc2 := 47) (x := Int32.ofNat 2) d_Mo_air_46 rfl rfl ?_
    refine b_cv1 (pc2 := 50) (c2 := 0) (u2 := 0) (mo_fail (by omega)) d_Mo_air_47 q_11_320 (Nat.le_of_ble_eq_true rfl) rfl rfl (sh_130 n0) (Nat.le_of_ble_eq_true rfl) rfl rfl (by decide) (by decide) rfl ?_
    rw [u2_u2]
    refine b_ir d_Mo_air_50 rfl ?_
    exact ⟨rfl, rfl, rfl, rfl, rfl⟩
  · refine b_iln (pc2 := 36) d_Mo_air_35 rfl rfl ?_
    refine b_aln (pc2 := 37) d_Mo_air_36 rfl rfl ?_
    refine b_gr (pc2 := 40) d_Mo_air_37 q_11_69 (sh_130 n0) (by decide) (by decide) (p_130_26 n0) rfl ?_
    refine b_iln (pc2 := 41) d_Mo_air_40 rfl rfl ?_
    refine b_ia (pc2 := 42) (q := 1) d_Mo_air_41 (sh_149 n0) (i_in (i := 1) (by decide) (by decide)) (rfl) (rc_149) rfl ?_
    rw [u2_a _ _ (by decide), hs]
    refine b_ifd (pc2 := 51) d_Mo_air_42 rfl rfl rfl rfl rfl (fun h42 => ?_) (fun h42 => ?_)
    · exact absurd ⟨km1 h32 hk, h42⟩ hx
    · refine b_aln (pc2 := 46) d_Mo_air_45 rfl rfl ?_
      refine b_ic (pc2 := 47) (x := Int32.ofNat 2) d_Mo_air_46 rfl rfl ?_
      refine b_cv1 (pc2 := 50) (c2 := 0) (u2 := 0) (mo_fail (by omega)) d_Mo_air_47 q_11_320 (Nat.le_of_ble_eq_true rfl) rfl rfl (sh_130 n0) (Nat.le_of_ble_eq_true rfl) rfl rfl (by decide) (by decide) rfl ?_
      rw [u2_u2]
      refine b_ir d_Mo_air_50 rfl ?_
      exact ⟨rfl, rfl, rfl, rfl, rfl⟩
theorem mo_look0 {d : Nat} (hd : 1 ≤ d)  : bm d (S0 n0) R0 179 [.ref 130, .int (Int32.ofNat 0)] W J g L (bR (some (.int (J 130 5))) W (am_u2 J 130 0 (Int32.ofNat 0)) g L) := by
  obtain ⟨e, rfl⟩ : ∃ e, d = e + 1 := ⟨d - 1, by omega⟩
  refine bm_of (Nat.le_of_ble_eq_true rfl) (Or.inr bR_ret) ?_
  show bT e (S0 n0) R0 mt_Mo_look _ 0 [(0, .ref 130), (1, .int (Int32.ofNat 0))] [] W J g L 0 0
  have hSR := SR0 n0
  refine b_aln (pc2 := 1) d_Mo_look_0 rfl rfl ?_
  refine b_ic (pc2 := 2) (x := Int32.ofNat 0) d_Mo_look_1 rfl rfl ?_
  refine b_pi (pc2 := 5) d_Mo_look_2 q_11_135 (sh_130 n0) (by decide) (Or.inl (by decide)) (Or.inl rfl) (rc_130) rfl ?_
  refine b_iln (pc2 := 6) d_Mo_look_5 rfl rfl ?_
  refine b_sw (pc2 := 56) (off := 50) d_Mo_look_6 rfl rfl rfl (rfl) rfl ?_
  refine b_aln (pc2 := 57) d_Mo_look_56 rfl rfl ?_
  refine b_gi (pc2 := 60) d_Mo_look_57 q_11_13 (sh_130 n0) (by decide) (by decide) (rc_130) rfl ?_
  rw [u2_k _ _ (by decide)]
  refine b_ir d_Mo_look_60 rfl ?_
  exact ⟨rfl, rfl, rfl, rfl, rfl⟩
theorem mo_look1 {d : Nat} (hd : 1 ≤ d)  : bm d (S0 n0) R0 179 [.ref 130, .int (Int32.ofNat 1)] W J g L (bR (some (.int (J 130 6))) W (am_u2 J 130 0 (Int32.ofNat 0)) g L) := by
  obtain ⟨e, rfl⟩ : ∃ e, d = e + 1 := ⟨d - 1, by omega⟩
  refine bm_of (Nat.le_of_ble_eq_true rfl) (Or.inr bR_ret) ?_
  show bT e (S0 n0) R0 mt_Mo_look _ 0 [(0, .ref 130), (1, .int (Int32.ofNat 1))] [] W J g L 0 0
  have hSR := SR0 n0
  refine b_aln (pc2 := 1) d_Mo_look_0 rfl rfl ?_
  refine b_ic (pc2 := 2) (x := Int32.ofNat 0) d_Mo_look_1 rfl rfl ?_
  refine b_pi (pc2 := 5) d_Mo_look_2 q_11_135 (sh_130 n0) (by decide) (Or.inl (by decide)) (Or.inl rfl) (rc_130) rfl ?_
  refine b_iln (pc2 := 6) d_Mo_look_5 rfl rfl ?_
  refine b_sw (pc2 := 61) (off := 55) d_Mo_look_6 rfl rfl rfl (rfl) rfl ?_
  refine b_aln (pc2 := 62) d_Mo_look_61 rfl rfl ?_
  refine b_gi (pc2 := 65) d_Mo_look_62 q_11_306 (sh_130 n0) (by decide) (by decide) (rc_130) rfl ?_
  rw [u2_k _ _ (by decide)]
  refine b_ir d_Mo_look_65 rfl ?_
  exact ⟨rfl, rfl, rfl, rfl, rfl⟩
theorem mo_look2 {d : Nat} (hd : 1 ≤ d)  : bm d (S0 n0) R0 179 [.ref 130, .int (Int32.ofNat 2)] W J g L (bR (some (.int (J 135 0))) W (am_u2 J 130 0 (Int32.ofNat 0)) g L) := by
  obtain ⟨e, rfl⟩ : ∃ e, d = e + 1 := ⟨d - 1, by omega⟩
  refine bm_of (Nat.le_of_ble_eq_true rfl) (Or.inr bR_ret) ?_
  show bT e (S0 n0) R0 mt_Mo_look _ 0 [(0, .ref 130), (1, .int (Int32.ofNat 2))] [] W J g L 0 0
  have hSR := SR0 n0
  refine b_aln (pc2 := 1) d_Mo_look_0 rfl rfl ?_
  refine b_ic (pc2 := 2) (x := Int32.ofNat 0) d_Mo_look_1 rfl rfl ?_
  refine b_pi (pc2 := 5) d_Mo_look_2 q_11_135 (sh_130 n0) (by decide) (Or.inl (by decide)) (Or.inl rfl) (rc_130) rfl ?_
  refine b_iln (pc2 := 6) d_Mo_look_5 rfl rfl ?_
  refine b_sw (pc2 := 66) (off := 60) d_Mo_look_6 rfl rfl rfl (rfl) rfl ?_
  refine b_aln (pc2 := 67) d_Mo_look_66 rfl rfl ?_
  refine b_gr (pc2 := 70) d_Mo_look_67 q_11_27 (sh_130 n0) (by decide) (by decide) (p_130_12 n0) rfl ?_
  refine b_ic (pc2 := 71) (x := Int32.ofNat 0) d_Mo_look_70 rfl rfl ?_
  refine b_ia (pc2 := 72) (q := 0) d_Mo_look_71 (sh_135 n0) (i_in (i := 0) (by decide) (by decide)) (rfl) (rc_135) rfl ?_
  rw [u2_a _ _ (by decide)]
  refine b_ir d_Mo_look_72 rfl ?_
  exact ⟨rfl, rfl, rfl, rfl, rfl⟩
theorem mo_look3 {d : Nat} (hd : 1 ≤ d)  : bm d (S0 n0) R0 179 [.ref 130, .int (Int32.ofNat 3)] W J g L (bR (some (.int (J 135 1))) W (am_u2 J 130 0 (Int32.ofNat 0)) g L) := by
  obtain ⟨e, rfl⟩ : ∃ e, d = e + 1 := ⟨d - 1, by omega⟩
  refine bm_of (Nat.le_of_ble_eq_true rfl) (Or.inr bR_ret) ?_
  show bT e (S0 n0) R0 mt_Mo_look _ 0 [(0, .ref 130), (1, .int (Int32.ofNat 3))] [] W J g L 0 0
  have hSR := SR0 n0
  refine b_aln (pc2 := 1) d_Mo_look_0 rfl rfl ?_
  refine b_ic (pc2 := 2) (x := Int32.ofNat 0) d_Mo_look_1 rfl rfl ?_
  refine b_pi (pc2 := 5) d_Mo_look_2 q_11_135 (sh_130 n0) (by decide) (Or.inl (by decide)) (Or.inl rfl) (rc_130) rfl ?_
  refine b_iln (pc2 := 6) d_Mo_look_5 rfl rfl ?_
  refine b_sw (pc2 := 73) (off := 67) d_Mo_look_6 rfl rfl rfl (rfl) rfl ?_
  refine b_aln (pc2 := 74) d_Mo_look_73 rfl rfl ?_
  refine b_gr (pc2 := 77) d_Mo_look_74 q_11_27 (sh_130 n0) (by decide) (by decide) (p_130_12 n0) rfl ?_
  refine b_ic (pc2 := 78) (x := Int32.ofNat 1) d_Mo_look_77 rfl rfl ?_
  refine b_ia (pc2 := 79) (q := 1) d_Mo_look_78 (sh_135 n0) (i_in (i := 1) (by decide) (by decide)) (rfl) (rc_135) rfl ?_
  rw [u2_a _ _ (by decide)]
  refine b_ir d_Mo_look_79 rfl ?_
  exact ⟨rfl, rfl, rfl, rfl, rfl⟩
theorem mo_look4 {d : Nat} (hd : 1 ≤ d)  : bm d (S0 n0) R0 179 [.ref 130, .int (Int32.ofNat 4)] W J g L (bR (some (.int (J 130 44))) W (am_u2 J 130 0 (Int32.ofNat 0)) g L) := by
  obtain ⟨e, rfl⟩ : ∃ e, d = e + 1 := ⟨d - 1, by omega⟩
  refine bm_of (Nat.le_of_ble_eq_true rfl) (Or.inr bR_ret) ?_
  show bT e (S0 n0) R0 mt_Mo_look _ 0 [(0, .ref 130), (1, .int (Int32.ofNat 4))] [] W J g L 0 0
  have hSR := SR0 n0
  refine b_aln (pc2 := 1) d_Mo_look_0 rfl rfl ?_
  refine b_ic (pc2 := 2) (x := Int32.ofNat 0) d_Mo_look_1 rfl rfl ?_
  refine b_pi (pc2 := 5) d_Mo_look_2 q_11_135 (sh_130 n0) (by decide) (Or.inl (by decide)) (Or.inl rfl) (rc_130) rfl ?_
  refine b_iln (pc2 := 6) d_Mo_look_5 rfl rfl ?_
  refine b_sw (pc2 := 80) (off := 74) d_Mo_look_6 rfl rfl rfl (rfl) rfl ?_
  refine b_aln (pc2 := 81) d_Mo_look_80 rfl rfl ?_
  refine b_gi (pc2 := 84) d_Mo_look_81 q_11_108 (sh_130 n0) (by decide) (by decide) (rc_130) rfl ?_
  rw [u2_k _ _ (by decide)]
  refine b_ir d_Mo_look_84 rfl ?_
  exact ⟨rfl, rfl, rfl, rfl, rfl⟩
theorem mo_look5 {d : Nat} (hd : 1 ≤ d)  : bm d (S0 n0) R0 179 [.ref 130, .int (Int32.ofNat 5)] W J g L (bR (some (.int (J 130 37))) W (am_u2 J 130 0 (Int32.ofNat 0)) g L) := by
  obtain ⟨e, rfl⟩ : ∃ e, d = e + 1 := ⟨d - 1, by omega⟩
  refine bm_of (Nat.le_of_ble_eq_true rfl) (Or.inr bR_ret) ?_
  show bT e (S0 n0) R0 mt_Mo_look _ 0 [(0, .ref 130), (1, .int (Int32.ofNat 5))] [] W J g L 0 0
  have hSR := SR0 n0
  refine b_aln (pc2 := 1) d_Mo_look_0 rfl rfl ?_
  refine b_ic (pc2 := 2) (x := Int32.ofNat 0) d_Mo_look_1 rfl rfl ?_
  refine b_pi (pc2 := 5) d_Mo_look_2 q_11_135 (sh_130 n0) (by decide) (Or.inl (by decide)) (Or.inl rfl) (rc_130) rfl ?_
  refine b_iln (pc2 := 6) d_Mo_look_5 rfl rfl ?_
  refine b_sw (pc2 := 85) (off := 79) d_Mo_look_6 rfl rfl rfl (rfl) rfl ?_
  refine b_aln (pc2 := 86) d_Mo_look_85 rfl rfl ?_
  refine b_gi (pc2 := 89) d_Mo_look_86 q_11_93 (sh_130 n0) (by decide) (by decide) (rc_130) rfl ?_
  rw [u2_k _ _ (by decide)]
  refine b_ir d_Mo_look_89 rfl ?_
  exact ⟨rfl, rfl, rfl, rfl, rfl⟩
theorem mo_look6 {d : Nat} (hd : 1 ≤ d)  : bm d (S0 n0) R0 179 [.ref 130, .int (Int32.ofNat 6)] W J g L (bR (some (.int (J 130 39))) W (am_u2 J 130 0 (Int32.ofNat 0)) g L) := by
  obtain ⟨e, rfl⟩ : ∃ e, d = e + 1 := ⟨d - 1, by omega⟩
  refine bm_of (Nat.le_of_ble_eq_true rfl) (Or.inr bR_ret) ?_
  show bT e (S0 n0) R0 mt_Mo_look _ 0 [(0, .ref 130), (1, .int (Int32.ofNat 6))] [] W J g L 0 0
  have hSR := SR0 n0
  refine b_aln (pc2 := 1) d_Mo_look_0 rfl rfl ?_
  refine b_ic (pc2 := 2) (x := Int32.ofNat 0) d_Mo_look_1 rfl rfl ?_
  refine b_pi (pc2 := 5) d_Mo_look_2 q_11_135 (sh_130 n0) (by decide) (Or.inl (by decide)) (Or.inl rfl) (rc_130) rfl ?_
  refine b_iln (pc2 := 6) d_Mo_look_5 rfl rfl ?_
  refine b_sw (pc2 := 90) (off := 84) d_Mo_look_6 rfl rfl rfl (rfl) rfl ?_
  refine b_aln (pc2 := 91) d_Mo_look_90 rfl rfl ?_
  refine b_gi (pc2 := 94) d_Mo_look_91 q_11_225 (sh_130 n0) (by decide) (by decide) (rc_130) rfl ?_
  rw [u2_k _ _ (by decide)]
  refine b_ir d_Mo_look_94 rfl ?_
  exact ⟨rfl, rfl, rfl, rfl, rfl⟩
theorem mo_look7 {d : Nat} (hd : 1 ≤ d)  : bm d (S0 n0) R0 179 [.ref 130, .int (Int32.ofNat 7)] W J g L (bR (some (.int (if J 130 7 = 0 then 0 else 1))) W (am_u2 J 130 0 (Int32.ofNat 0)) g L) := by
  obtain ⟨e, rfl⟩ : ∃ e, d = e + 1 := ⟨d - 1, by omega⟩
  refine bm_of (Nat.le_of_ble_eq_true rfl) (Or.inr bR_ret) ?_
  show bT e (S0 n0) R0 mt_Mo_look _ 0 [(0, .ref 130), (1, .int (Int32.ofNat 7))] [] W J g L 0 0
  have hSR := SR0 n0
  refine b_aln (pc2 := 1) d_Mo_look_0 rfl rfl ?_
  refine b_ic (pc2 := 2) (x := Int32.ofNat 0) d_Mo_look_1 rfl rfl ?_
  refine b_pi (pc2 := 5) d_Mo_look_2 q_11_135 (sh_130 n0) (by decide) (Or.inl (by decide)) (Or.inl rfl) (rc_130) rfl ?_
  refine b_iln (pc2 := 6) d_Mo_look_5 rfl rfl ?_
  refine b_sw (pc2 := 95) (off := 89) d_Mo_look_6 rfl rfl rfl (rfl) rfl ?_
  refine b_aln (pc2 := 96) d_Mo_look_95 rfl rfl ?_
  refine b_gi (pc2 := 99) d_Mo_look_96 q_11_283 (sh_130 n0) (by decide) (by decide) (rc_130) rfl ?_
  rw [u2_k _ _ (by decide)]
  refine b_ifd (pc2 := 106) d_Mo_look_99 rfl rfl rfl rfl rfl (fun h99 => ?_) (fun h99 => ?_)
  · refine b_ic (pc2 := 107) (x := Int32.ofNat 0) d_Mo_look_106 rfl rfl ?_
    refine b_ir d_Mo_look_107 rfl ?_
    exact ⟨by rw [if_pos h99]; rfl, rfl, rfl, rfl, rfl⟩
  · refine b_ic (pc2 := 103) (x := Int32.ofNat 1) d_Mo_look_102 rfl rfl ?_
    refine b_go (pc2 := 107) d_Mo_look_103 rfl ?_
    refine b_ir d_Mo_look_107 rfl ?_
    exact ⟨by rw [if_neg h99]; rfl, rfl, rfl, rfl, rfl⟩
theorem mo_look8 {d : Nat} (hd : 1 ≤ d)  : bm d (S0 n0) R0 179 [.ref 130, .int (Int32.ofNat 8)] W J g L (bR (some (.int (if J 130 38 = 0 then 0 else 1))) W (am_u2 J 130 0 (Int32.ofNat 0)) g L) := by
  obtain ⟨e, rfl⟩ : ∃ e, d = e + 1 := ⟨d - 1, by omega⟩
  refine bm_of (Nat.le_of_ble_eq_true rfl) (Or.inr bR_ret) ?_
  show bT e (S0 n0) R0 mt_Mo_look _ 0 [(0, .ref 130), (1, .int (Int32.ofNat 8))] [] W J g L 0 0
  have hSR := SR0 n0
  refine b_aln (pc2 := 1) d_Mo_look_0 rfl rfl ?_
  refine b_ic (pc2 := 2) (x := Int32.ofNat 0) d_Mo_look_1 rfl rfl ?_
  refine b_pi (pc2 := 5) d_Mo_look_2 q_11_135 (sh_130 n0) (by decide) (Or.inl (by decide)) (Or.inl rfl) (rc_130) rfl ?_
  refine b_iln (pc2 := 6) d_Mo_look_5 rfl rfl ?_
  refine b_sw (pc2 := 108) (off := 102) d_Mo_look_6 rfl rfl rfl (rfl) rfl ?_
  refine b_aln (pc2 := 109) d_Mo_look_108 rfl rfl ?_
  refine b_gi (pc2 := 112) d_Mo_look_109 q_11_189 (sh_130 n0) (by decide) (by decide) (rc_130) rfl ?_
  rw [u2_k _ _ (by decide)]
  refine b_ifd (pc2 := 119) d_Mo_look_112 rfl rfl rfl rfl rfl (fun h112 => ?_) (fun h112 => ?_)
  · refine b_ic (pc2 := 120) (x := Int32.ofNat 0) d_Mo_look_119 rfl rfl ?_
    refine b_ir d_Mo_look_120 rfl ?_
    exact ⟨by rw [if_pos h112]; rfl, rfl, rfl, rfl, rfl⟩
  · refine b_ic (pc2 := 116) (x := Int32.ofNat 1) d_Mo_look_115 rfl rfl ?_
    refine b_go (pc2 := 120) d_Mo_look_116 rfl ?_
    refine b_ir d_Mo_look_120 rfl ?_
    exact ⟨by rw [if_neg h112]; rfl, rfl, rfl, rfl, rfl⟩
theorem mo_look9 {d : Nat} (hd : 1 ≤ d) {k : Int32} (hk : k < 0 ∨ Int32.ofNat 8 < k) : bm d (S0 n0) R0 179 [.ref 130, .int k] W J g L (bR (some (.int (-1))) W (am_u2 J 130 0 (Int32.ofNat 0)) g L) := by
  obtain ⟨e, rfl⟩ : ∃ e, d = e + 1 := ⟨d - 1, by omega⟩
  refine bm_of (Nat.le_of_ble_eq_true rfl) (Or.inr bR_ret) ?_
  show bT e (S0 n0) R0 mt_Mo_look _ 0 [(0, .ref 130), (1, .int k)] [] W J g L 0 0
  have hSR := SR0 n0
  refine b_aln (pc2 := 1) d_Mo_look_0 rfl rfl ?_
  refine b_ic (pc2 := 2) (x := Int32.ofNat 0) d_Mo_look_1 rfl rfl ?_
  refine b_pi (pc2 := 5) d_Mo_look_2 q_11_135 (sh_130 n0) (by decide) (Or.inl (by decide)) (Or.inl rfl) (rc_130) rfl ?_
  refine b_iln (pc2 := 6) d_Mo_look_5 rfl rfl ?_
  refine b_sw (pc2 := 121) (off := 115) d_Mo_look_6 rfl rfl rfl (sw_mlook hk) rfl ?_
  refine b_ic (pc2 := 122) (x := -1) d_Mo_look_121 rfl rfl ?_
  refine b_ir d_Mo_look_122 rfl ?_
  exact ⟨rfl, rfl, rfl, rfl, rfl⟩
theorem al_run1 {d : Nat} (hd : 6 ≤ d) {x : Int32} (hx : x < Int32.ofNat 1 ∨ Int32.ofNat 40 < x) : bm d (S0 n0) R0 111 [.ref 1, .int x] W J g L (bX 0 W J (g + 1) L) := by
  obtain ⟨e, rfl⟩ : ∃ e, d = e + 1 := ⟨d - 1, by omega⟩
  refine bm_of (Nat.le_of_ble_eq_true rfl) (Or.inl (show 5 < e + 1 by omega)) ?_
  show bT e (S0 n0) R0 mt_Al_run _ 0 [(0, .ref 1), (1, .int x)] [] W J g L 0 0
  have hSR := SR0 n0
  refine b_iln (pc2 := 1) d_Al_run_0 rfl rfl ?_
  refine b_ic (pc2 := 2) (x := Int32.ofNat 1) d_Al_run_1 rfl rfl ?_
  refine b_ifd (pc2 := 11) d_Al_run_2 rfl rfl rfl rfl rfl (fun h2 => ?_) (fun h2 => ?_)
  · refine b_thr d_Al_run_11 q_10_67 rfl (by decide) (by decide) (Nat.le_of_ble_eq_true rfl) d_Al_run_14 d_Al_run_15 d_Al_run_18 ?_
    exact ⟨rfl, rfl, rfl, rfl, rfl⟩
  · refine b_iln (pc2 := 6) d_Al_run_5 rfl rfl ?_
    refine b_bp (pc2 := 8) (x := Int32.ofNat 40) d_Al_run_6 rfl rfl ?_
    refine b_ifd (pc2 := 19) d_Al_run_8 rfl rfl rfl rfl rfl (fun h8 => ?_) (fun h8 => ?_)
    · exact absurd hx (fun z => z.elim h2 (fun q => Int32.not_lt.mpr h8 q))
    · refine b_thr d_Al_run_11 q_10_67 rfl (by decide) (by decide) (Nat.le_of_ble_eq_true rfl) d_Al_run_14 d_Al_run_15 d_Al_run_18 ?_
      exact ⟨rfl, rfl, rfl, rfl, rfl⟩
theorem lp_arun {e : Nat} (he : 6 ≤ e) {n m : Nat} (hn : n ≤ 40) (hm : m ≤ n) {Ws : Nat → bw_W} {Js : Nat → bw_J} {rv : Nat → Int32} (hs : ∀ k, k < m → ∀ e, 6 ≤ e → bm e (S0 n0) R0 61 [.ref 1, .int (Int32.ofNat 0), .long 0, .long 0] (Ws k) (Js k) g L (bR (some (.int (rv k))) (Ws (k + 1)) (Js (k + 1)) g L)) (hd0 : ∀ k, k < m → Js k 1 8 = 0) (hend : m = n ∨ ¬ Js m 1 8 = 0) : ∀ (r k : Nat), k + r = m → bT e (S0 n0) R0 mt_Al_run (bR (some (.int (Int32.ofNat m))) (Ws m) (Js m) g L) 21 [(2, .int (Int32.ofNat k)), (0, .ref 1), (1, .int (Int32.ofNat n))] [] (Ws k) (Js k) g L 0 0 := by
  have hSR := SR0 n0
  intro r
  induction r with
  | zero =>
    intro k hk
    have hkm : k = m := by omega
    subst hkm
    rcases hend with hend | hend
    · subst hend
      refine b_iln (pc2 := 22) d_Al_run_21 rfl rfl ?_
      refine b_iln (pc2 := 23) d_Al_run_22 rfl rfl ?_
      refine b_ifd (pc2 := 47) d_Al_run_23 rfl rfl rfl rfl rfl (fun h23 => ?_) (fun h23 => ?_)
      rotate_left
      · exact absurd (by rw [i_le (by omega) (by omega)]; omega) h23
      refine b_iln (pc2 := 48) d_Al_run_47 rfl rfl ?_
      refine b_ir d_Al_run_48 rfl ?_
      exact ⟨rfl, rfl, rfl, rfl, rfl⟩
    · skip
      refine b_iln (pc2 := 22) d_Al_run_21 rfl rfl ?_
      refine b_iln (pc2 := 23) d_Al_run_22 rfl rfl ?_
      refine b_ifd (pc2 := 47) d_Al_run_23 rfl rfl rfl rfl rfl (fun h23 => ?_) (fun h23 => ?_)
      · rw [i_le (by omega) (by omega)] at h23
        refine b_iln (pc2 := 48) d_Al_run_47 rfl rfl ?_
        refine b_ir d_Al_run_48 rfl ?_
        exact ⟨rfl, rfl, rfl, rfl, rfl⟩
      · rw [i_le (by omega) (by omega)] at h23
        refine b_aln (pc2 := 27) d_Al_run_26 rfl rfl ?_
        refine b_gi (pc2 := 30) d_Al_run_27 q_10_56 (sh_1 n0) (by decide) (by decide) (rc_1) rfl ?_
        refine b_ifd (pc2 := 47) d_Al_run_30 rfl rfl rfl rfl rfl (fun h30 => ?_) (fun h30 => ?_)
        rotate_left
        · exact absurd (hend) h30
        refine b_iln (pc2 := 48) d_Al_run_47 rfl rfl ?_
        refine b_ir d_Al_run_48 rfl ?_
        exact ⟨rfl, rfl, rfl, rfl, rfl⟩
  | succ r ih =>
    intro k hk
    refine b_iln (pc2 := 22) d_Al_run_21 rfl rfl ?_
    refine b_iln (pc2 := 23) d_Al_run_22 rfl rfl ?_
    refine b_ifd (pc2 := 47) d_Al_run_23 rfl rfl rfl rfl rfl (fun h23 => ?_) (fun h23 => ?_)
    · exact absurd h23 (fun z => by rw [i_le (by omega) (by omega)] at z; omega)
    refine b_aln (pc2 := 27) d_Al_run_26 rfl rfl ?_
    refine b_gi (pc2 := 30) d_Al_run_27 q_10_56 (sh_1 n0) (by decide) (by decide) (rc_1) rfl ?_
    refine b_ifd (pc2 := 47) d_Al_run_30 rfl rfl rfl rfl rfl (fun h30 => ?_) (fun h30 => ?_)
    · exact absurd h30 (fun z => z (hd0 k (by omega)))
    refine b_aln (pc2 := 34) d_Al_run_33 rfl rfl ?_
    refine b_ic (pc2 := 35) (x := Int32.ofNat 0) d_Al_run_34 rfl rfl ?_
    refine b_pure (pc2 := 36) d_Al_run_35 rfl rfl rfl ?_
    refine b_pure (pc2 := 37) d_Al_run_36 rfl rfl rfl ?_
    refine b_cv1 (pc2 := 40) (c2 := 0) (u2 := 0) (hs k (by omega) e he) d_Al_run_37 q_10_127 (Nat.le_of_ble_eq_true rfl) rfl rfl (sh_1 n0) (Nat.le_of_ble_eq_true rfl) rfl rfl (by decide) (by decide) rfl ?_
    refine b_pure (pc2 := 41) d_Al_run_40 rfl rfl rfl ?_
    refine b_inc (pc2 := 44) (al2 := [(2, _), (0, _), (1, _)]) (y := Int32.ofNat 1) d_Al_run_41 (by decide) rfl rfl rfl rfl ?_
    rw [i_add]
    refine b_go (pc2 := 21) d_Al_run_44 rfl ?_
    refine b_nf (al := [(2, _), (0, _), (1, _)]) (ks := [2, 0, 1]) (sub_c rfl (sub_c rfl (sub_c rfl (sub_n)))) rfl (by decide) ?_
    dsimp only
    exact ih (k + 1) (by omega)
theorem al_run0 {d : Nat} (hd : 7 ≤ d) {n m : Nat} (hn : n ≤ 40) (hm : m ≤ n) {Ws : Nat → bw_W} {Js : Nat → bw_J} {rv : Nat → Int32} (hs : ∀ k, k < m → ∀ e, 6 ≤ e → bm e (S0 n0) R0 61 [.ref 1, .int (Int32.ofNat 0), .long 0, .long 0] (Ws k) (Js k) g L (bR (some (.int (rv k))) (Ws (k + 1)) (Js (k + 1)) g L)) (hd0 : ∀ k, k < m → Js k 1 8 = 0) (hend : m = n ∨ ¬ Js m 1 8 = 0) (hn1 : 1 ≤ n) (h0 : Ws 0 = W) (h1 : Js 0 = J) : bm d (S0 n0) R0 111 [.ref 1, .int (Int32.ofNat n)] W J g L (bR (some (.int (Int32.ofNat m))) (Ws m) (Js m) g L) := by
  obtain ⟨e, rfl⟩ : ∃ e, d = e + 1 := ⟨d - 1, by omega⟩
  refine bm_of (Nat.le_of_ble_eq_true rfl) (Or.inr bR_ret) ?_
  show bT e (S0 n0) R0 mt_Al_run _ 0 [(0, .ref 1), (1, .int (Int32.ofNat n))] [] W J g L 0 0
  have hSR := SR0 n0
  refine b_iln (pc2 := 1) d_Al_run_0 rfl rfl ?_
  refine b_ic (pc2 := 2) (x := Int32.ofNat 1) d_Al_run_1 rfl rfl ?_
  refine b_ifd (pc2 := 11) d_Al_run_2 rfl rfl rfl rfl rfl (fun h2 => ?_) (fun h2 => ?_)
  · exact absurd h2 (fun z => by rw [i_lt (by omega) (by omega)] at z; omega)
  refine b_iln (pc2 := 6) d_Al_run_5 rfl rfl ?_
  refine b_bp (pc2 := 8) (x := Int32.ofNat 40) d_Al_run_6 rfl rfl ?_
  refine b_ifd (pc2 := 19) d_Al_run_8 rfl rfl rfl rfl rfl (fun h8 => ?_) (fun h8 => ?_)
  rotate_left
  · exact absurd (by rw [i_le (by omega) (by omega)]; omega) h8
  refine b_ic (pc2 := 20) (x := Int32.ofNat 0) d_Al_run_19 rfl rfl ?_
  refine b_isn (pc2 := 21) (al2 := [(2, _), (0, _), (1, _)]) d_Al_run_20 (by decide) rfl rfl ?_
  refine b_nf (al := [(2, _), (0, _), (1, _)]) (ks := [2, 0, 1]) (sub_c rfl (sub_c rfl (sub_c rfl (sub_n)))) rfl (by decide) ?_
  dsimp only
  rw [← h0, ← h1]
  exact lp_arun (by omega) hn hm hs hd0 hend m 0 (by omega)
theorem al_exch {d : Nat} (hd : 6 ≤ d) {f : Int32} {up bk : Int64} {Q : am_O → bw_W → bw_J → Nat → bw_L → Prop} (K : ∀ e, 5 ≤ e → bT e (S0 n0) R0 mt_Al_exchange Q 0 [(0, .ref 1), (1, .int f), (2, .long up), (4, .long bk)] [] W J g L 0 0) : bm d (S0 n0) R0 61 [.ref 1, .int f, .long up, .long bk] W J g L Q := by
  obtain ⟨e, rfl⟩ : ∃ e, d = e + 1 := ⟨d - 1, by omega⟩
  refine bm_of (Nat.le_of_ble_eq_true rfl) (Or.inl (show 5 < e + 1 by omega)) ?_
  exact K e (by omega)
end MZ
section CE
variable {S : am_S} {R : Nat → Option Nat} {W : bw_W} {J : bw_J} {g : Nat} {L : bw_L}
theorem la_cell {d : Nat} (hd : 1 ≤ d) {n k : Nat} (hS : S.1 0 = some (150, n)) (hR : bw_rc R 0 = false) (hn : n ≤ 100000) (hk : k < 100000) : bm d S R 24 [.ref 0, .int (Int32.ofNat k)] W J g L (bR (some (.int (if k < n then J 0 k else 0))) W J g L) := by
  obtain ⟨e, rfl⟩ : ∃ e, d = e + 1 := ⟨d - 1, by omega⟩
  refine bm_of (Nat.le_of_ble_eq_true rfl) (Or.inr bR_ret) ?_
  show bT e S R mt_La_cell _ 0 [(0, .ref 0), (1, .int (Int32.ofNat k))] [] W J g L 0 0
  refine b_iln (pc2 := 1) d_La_cell_0 rfl rfl ?_
  refine b_aln (pc2 := 2) d_La_cell_1 rfl rfl ?_
  refine b_len (pc2 := 3) d_La_cell_2 hS (Or.inr ⟨rfl, rfl⟩) rfl ?_
  refine b_ifd (pc2 := 12) d_La_cell_3 rfl rfl rfl rfl rfl (fun h3 => ?_) (fun h3 => ?_)
  · rw [i_le (by omega) (by omega)] at h3
    refine b_ic (pc2 := 13) (x := Int32.ofNat 0) d_La_cell_12 rfl rfl ?_
    refine b_ir d_La_cell_13 rfl ?_
    exact ⟨by rw [if_neg (by omega)]; rfl, rfl, rfl, rfl, rfl⟩
  · rw [i_le (by omega) (by omega)] at h3
    refine b_aln (pc2 := 7) d_La_cell_6 rfl rfl ?_
    refine b_iln (pc2 := 8) d_La_cell_7 rfl rfl ?_
    refine b_ia0 (pc2 := 9) (q := k) d_La_cell_8 hS (i_in (show k < n by omega) (by omega)) (i_tn (by omega)) hR rfl ?_
    refine b_go (pc2 := 13) d_La_cell_9 rfl ?_
    refine b_ir d_La_cell_13 rfl ?_
    exact ⟨by rw [if_pos (by omega)], rfl, rfl, rfl, rfl⟩
end CE
