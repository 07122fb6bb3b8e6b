/-! Part 68 (written by gen19.py): Server: access, serve, tell -/
section SV
variable {n0 : Nat} {W : bw_W} {J : bw_J} {g : Nat} {L : bw_L}
variable {i : Nat} {W1 W2 : bw_W} {J1 J2 : bw_J}
theorem se_acc_no {d : Nat} (hd : 3 ≤ d) {ct op : Nat} (hop : (W 57).getD 0 0 = Int32.ofNat op) (hc : J 86 1 = Int32.ofNat ct) (hct : ct ≤ 10) {h : Nat} (hh : (W 57).getD 1 0 = Int32.ofNat h) (hh2 : h < 256) (hno : h = 0 ∨ ct < h) : bm d (S0 n0) R0 86 [.ref 86, .ref 57] W J g L (bR (some (.int (Int32.ofNat 1))) W J g L) := by
  obtain ⟨e, rfl⟩ : ∃ e, d = e + 1 := ⟨d - 1, by omega⟩
  refine bm_of (Nat.le_of_ble_eq_true rfl) (Or.inr bR_ret) ?_
  show bT e (S0 n0) R0 mt_Se_answerAccess _ 0 [(0, .ref 86), (1, .ref 57)] [] W J g L 0 0
  have hSR := SR0 n0
  refine b_aln (pc2 := 1) d_Se_answerAccess_0 rfl rfl ?_
  refine b_ic (pc2 := 2) (x := Int32.ofNat 0) d_Se_answerAccess_1 rfl rfl ?_
  refine b_cv1 (pc2 := 5) (c2 := 0) (u2 := 0) (rw_at (k := 0) (by omega) hSR R_57 (by decide)) d_Se_answerAccess_2 q_8_84 (Nat.le_of_ble_eq_true rfl) rfl rfl (sh_57 n0) (Nat.le_of_ble_eq_true rfl) rfl rfl (by decide) (by decide) rfl ?_
  rw [hop]
  refine b_isn (pc2 := 6) (al2 := [(2, _), (0, _), (1, _)]) d_Se_answerAccess_5 (by decide) rfl rfl ?_
  refine b_aln (pc2 := 7) d_Se_answerAccess_6 rfl rfl ?_
  refine b_ic (pc2 := 8) (x := Int32.ofNat 1) d_Se_answerAccess_7 rfl rfl ?_
  refine b_cv1 (pc2 := 11) (c2 := 0) (u2 := 0) (rw_at (k := 1) (by omega) hSR R_57 (by decide)) d_Se_answerAccess_8 q_8_84 (Nat.le_of_ble_eq_true rfl) rfl rfl (sh_57 n0) (Nat.le_of_ble_eq_true rfl) rfl rfl (by decide) (by decide) rfl ?_
  rw [hh]
  refine b_isn (pc2 := 12) (al2 := [(3, _), (2, _), (0, _), (1, _)]) d_Se_answerAccess_11 (by decide) rfl rfl ?_
  refine b_aln (pc2 := 13) d_Se_answerAccess_12 rfl rfl ?_
  refine b_iln (pc2 := 14) d_Se_answerAccess_13 rfl rfl ?_
  refine b_cv1 (pc2 := 17) (c2 := 0) (u2 := 0) (se_hasHandle (by omega)) d_Se_answerAccess_14 q_8_122 (Nat.le_of_ble_eq_true rfl) rfl rfl (sh_86 n0) (Nat.le_of_ble_eq_true rfl) rfl rfl (by decide) (by decide) rfl ?_
  rw [if_neg (fun z => by rw [hc, i_lt (by omega) (by decide), i_lt (by omega) (by omega)] at z; omega)]
  refine b_ifd (pc2 := 22) d_Se_answerAccess_17 rfl rfl rfl rfl rfl (fun h17 => ?_) (fun h17 => ?_)
  · exact absurd h17 (fun z => z rfl)
  refine b_ic (pc2 := 21) (x := Int32.ofNat 1) d_Se_answerAccess_20 rfl rfl ?_
  refine b_ir d_Se_answerAccess_21 rfl ?_
  exact ⟨rfl, rfl, rfl, rfl, rfl⟩
theorem se_acc_rd0_10 {d : Nat} (hd : 3 ≤ d) {ct : Nat} (hop : (W 57).getD 0 0 = Int32.ofNat 10) (hc : J 86 1 = Int32.ofNat ct) (hct : ct ≤ 10) (hi : i < 10) (hh : (W 57).getD 1 0 = Int32.ofNat (i + 1)) (hic : i < ct) (hr : J (88 + 3 * i) 2 &&& Int32.ofNat 1 = 0) : bm d (S0 n0) R0 86 [.ref 86, .ref 57] W J g L (bR (some (.int (Int32.ofNat 2))) W J g L) := by
  obtain ⟨e, rfl⟩ : ∃ e, d = e + 1 := ⟨d - 1, by omega⟩
  refine bm_of (Nat.le_of_ble_eq_true rfl) (Or.inr bR_ret) ?_
  show bT e (S0 n0) R0 mt_Se_answerAccess _ 0 [(0, .ref 86), (1, .ref 57)] [] W J g L 0 0
  have hSR := SR0 n0
  refine b_aln (pc2 := 1) d_Se_answerAccess_0 rfl rfl ?_
  refine b_ic (pc2 := 2) (x := Int32.ofNat 0) d_Se_answerAccess_1 rfl rfl ?_
  refine b_cv1 (pc2 := 5) (c2 := 0) (u2 := 0) (rw_at (k := 0) (by omega) hSR R_57 (by decide)) d_Se_answerAccess_2 q_8_84 (Nat.le_of_ble_eq_true rfl) rfl rfl (sh_57 n0) (Nat.le_of_ble_eq_true rfl) rfl rfl (by decide) (by decide) rfl ?_
  rw [hop]
  refine b_isn (pc2 := 6) (al2 := [(2, _), (0, _), (1, _)]) d_Se_answerAccess_5 (by decide) rfl rfl ?_
  refine b_aln (pc2 := 7) d_Se_answerAccess_6 rfl rfl ?_
  refine b_ic (pc2 := 8) (x := Int32.ofNat 1) d_Se_answerAccess_7 rfl rfl ?_
  refine b_cv1 (pc2 := 11) (c2 := 0) (u2 := 0) (rw_at (k := 1) (by omega) hSR R_57 (by decide)) d_Se_answerAccess_8 q_8_84 (Nat.le_of_ble_eq_true rfl) rfl rfl (sh_57 n0) (Nat.le_of_ble_eq_true rfl) rfl rfl (by decide) (by decide) rfl ?_
  rw [hh]
  refine b_isn (pc2 := 12) (al2 := [(3, _), (2, _), (0, _), (1, _)]) d_Se_answerAccess_11 (by decide) rfl rfl ?_
  refine b_aln (pc2 := 13) d_Se_answerAccess_12 rfl rfl ?_
  refine b_iln (pc2 := 14) d_Se_answerAccess_13 rfl rfl ?_
  refine b_cv1 (pc2 := 17) (c2 := 0) (u2 := 0) (se_hasHandle (by omega)) d_Se_answerAccess_14 q_8_122 (Nat.le_of_ble_eq_true rfl) rfl rfl (sh_86 n0) (Nat.le_of_ble_eq_true rfl) rfl rfl (by decide) (by decide) rfl ?_
  rw [if_pos ⟨by rw [i_lt (by omega) (by decide)]; omega, by rw [hc, i_lt (by omega) (by omega)]; omega⟩]
  refine b_ifd (pc2 := 22) d_Se_answerAccess_17 rfl rfl rfl rfl rfl (fun h17 => ?_) (fun h17 => ?_)
  rotate_left
  · exact absurd (show ¬ (1 : Int32) = 0 by decide) h17
  refine b_aln (pc2 := 23) d_Se_answerAccess_22 rfl rfl ?_
  refine b_gr (pc2 := 26) d_Se_answerAccess_23 q_8_13 (sh_86 n0) (by decide) (by decide) (p_86_0 n0) rfl ?_
  refine b_iln (pc2 := 27) d_Se_answerAccess_26 rfl rfl ?_
  refine b_ic (pc2 := 28) (x := Int32.ofNat 1) d_Se_answerAccess_27 rfl rfl ?_
  refine b_pure (pc2 := 29) d_Se_answerAccess_28 rfl rfl rfl ?_
  rw [i_sub (by omega), show i + 1 - 1 = i by omega]
  refine b_aa (pc2 := 30) (q := i) d_Se_answerAccess_29 (sh_87 n0) (Or.inr rfl) (i_in hi (by decide)) (i_tn (by omega)) (at_P n0 hi) rfl ?_
  refine b_as (pc2 := 32) (al2 := [(4, _), (3, _), (2, _), (0, _), (1, _)]) d_Se_answerAccess_30 (by decide) rfl rfl ?_
  refine b_iln (pc2 := 33) d_Se_answerAccess_32 rfl rfl ?_
  refine b_bp (pc2 := 35) (x := Int32.ofNat 10) d_Se_answerAccess_33 rfl rfl ?_
  refine b_ifd (pc2 := 44) d_Se_answerAccess_35 rfl rfl rfl rfl rfl (fun h35 => ?_) (fun h35 => ?_)
  rotate_left
  · exact absurd (by decide) h35
  refine b_al (pc2 := 46) d_Se_answerAccess_44 rfl rfl ?_
  refine b_cv1 (pc2 := 49) (c2 := 0) (u2 := 0) (at_isReadable (by omega) hi) d_Se_answerAccess_46 q_8_125 (Nat.le_of_ble_eq_true rfl) rfl rfl (at_H n0 hi) (Nat.le_of_ble_eq_true rfl) rfl rfl (by decide) (by decide) rfl ?_
  rw [if_pos hr]
  refine b_ifd (pc2 := 70) d_Se_answerAccess_49 rfl rfl rfl rfl rfl (fun h49 => ?_) (fun h49 => ?_)
  rotate_left
  · exact absurd (rfl) h49
  refine b_ic (pc2 := 71) (x := Int32.ofNat 2) d_Se_answerAccess_70 rfl rfl ?_
  refine b_ir d_Se_answerAccess_71 rfl ?_
  exact ⟨rfl, rfl, rfl, rfl, rfl⟩
theorem se_acc_rd_10 {d : Nat} (hd : 3 ≤ d) {ct : Nat} (hop : (W 57).getD 0 0 = Int32.ofNat 10) (hc : J 86 1 = Int32.ofNat ct) (hct : ct ≤ 10) (hi : i < 10) (hh : (W 57).getD 1 0 = Int32.ofNat (i + 1)) (hic : i < ct) (hr : ¬ J (88 + 3 * i) 2 &&& Int32.ofNat 1 = 0) {c : Int32} (hR : ∀ e, 2 ≤ e → bm e (S0 n0) R0 88 [.ref 86, .int (Int32.ofNat 10), .ref (89 + 3 * i), .int ((W 57).getD 2 0)] W J g L (bR (some (.int c)) W1 J1 g L)) : bm d (S0 n0) R0 86 [.ref 86, .ref 57] W J g L (bR (some (.int c)) W1 J1 g L) := by
  obtain ⟨e, rfl⟩ : ∃ e, d = e + 1 := ⟨d - 1, by omega⟩
  refine bm_of (Nat.le_of_ble_eq_true rfl) (Or.inr bR_ret) ?_
  show bT e (S0 n0) R0 mt_Se_answerAccess _ 0 [(0, .ref 86), (1, .ref 57)] [] W J g L 0 0
  have hSR := SR0 n0
  refine b_aln (pc2 := 1) d_Se_answerAccess_0 rfl rfl ?_
  refine b_ic (pc2 := 2) (x := Int32.ofNat 0) d_Se_answerAccess_1 rfl rfl ?_
  refine b_cv1 (pc2 := 5) (c2 := 0) (u2 := 0) (rw_at (k := 0) (by omega) hSR R_57 (by decide)) d_Se_answerAccess_2 q_8_84 (Nat.le_of_ble_eq_true rfl) rfl rfl (sh_57 n0) (Nat.le_of_ble_eq_true rfl) rfl rfl (by decide) (by decide) rfl ?_
  rw [hop]
  refine b_isn (pc2 := 6) (al2 := [(2, _), (0, _), (1, _)]) d_Se_answerAccess_5 (by decide) rfl rfl ?_
  refine b_aln (pc2 := 7) d_Se_answerAccess_6 rfl rfl ?_
  refine b_ic (pc2 := 8) (x := Int32.ofNat 1) d_Se_answerAccess_7 rfl rfl ?_
  refine b_cv1 (pc2 := 11) (c2 := 0) (u2 := 0) (rw_at (k := 1) (by omega) hSR R_57 (by decide)) d_Se_answerAccess_8 q_8_84 (Nat.le_of_ble_eq_true rfl) rfl rfl (sh_57 n0) (Nat.le_of_ble_eq_true rfl) rfl rfl (by decide) (by decide) rfl ?_
  rw [hh]
  refine b_isn (pc2 := 12) (al2 := [(3, _), (2, _), (0, _), (1, _)]) d_Se_answerAccess_11 (by decide) rfl rfl ?_
  refine b_aln (pc2 := 13) d_Se_answerAccess_12 rfl rfl ?_
  refine b_iln (pc2 := 14) d_Se_answerAccess_13 rfl rfl ?_
  refine b_cv1 (pc2 := 17) (c2 := 0) (u2 := 0) (se_hasHandle (by omega)) d_Se_answerAccess_14 q_8_122 (Nat.le_of_ble_eq_true rfl) rfl rfl (sh_86 n0) (Nat.le_of_ble_eq_true rfl) rfl rfl (by decide) (by decide) rfl ?_
  rw [if_pos ⟨by rw [i_lt (by omega) (by decide)]; omega, by rw [hc, i_lt (by omega) (by omega)]; omega⟩]
  refine b_ifd (pc2 := 22) d_Se_answerAccess_17 rfl rfl rfl rfl rfl (fun h17 => ?_) (fun h17 => ?_)
  rotate_left
  · exact absurd (show ¬ (1 : Int32) = 0 by decide) h17
  refine b_aln (pc2 := 23) d_Se_answerAccess_22 rfl rfl ?_
  refine b_gr (pc2 := 26) d_Se_answerAccess_23 q_8_13 (sh_86 n0) (by decide) (by decide) (p_86_0 n0) rfl ?_
  refine b_iln (pc2 := 27) d_Se_answerAccess_26 rfl rfl ?_
  refine b_ic (pc2 := 28) (x := Int32.ofNat 1) d_Se_answerAccess_27 rfl rfl ?_
  refine b_pure (pc2 := 29) d_Se_answerAccess_28 rfl rfl rfl ?_
  rw [i_sub (by omega), show i + 1 - 1 = i by omega]
  refine b_aa (pc2 := 30) (q := i) d_Se_answerAccess_29 (sh_87 n0) (Or.inr rfl) (i_in hi (by decide)) (i_tn (by omega)) (at_P n0 hi) rfl ?_
  refine b_as (pc2 := 32) (al2 := [(4, _), (3, _), (2, _), (0, _), (1, _)]) d_Se_answerAccess_30 (by decide) rfl rfl ?_
  refine b_iln (pc2 := 33) d_Se_answerAccess_32 rfl rfl ?_
  refine b_bp (pc2 := 35) (x := Int32.ofNat 10) d_Se_answerAccess_33 rfl rfl ?_
  refine b_ifd (pc2 := 44) d_Se_answerAccess_35 rfl rfl rfl rfl rfl (fun h35 => ?_) (fun h35 => ?_)
  rotate_left
  · exact absurd (by decide) h35
  refine b_al (pc2 := 46) d_Se_answerAccess_44 rfl rfl ?_
  refine b_cv1 (pc2 := 49) (c2 := 0) (u2 := 0) (at_isReadable (by omega) hi) d_Se_answerAccess_46 q_8_125 (Nat.le_of_ble_eq_true rfl) rfl rfl (at_H n0 hi) (Nat.le_of_ble_eq_true rfl) rfl rfl (by decide) (by decide) rfl ?_
  rw [if_neg hr]
  refine b_ifd (pc2 := 70) d_Se_answerAccess_49 rfl rfl rfl rfl rfl (fun h49 => ?_) (fun h49 => ?_)
  · exact absurd h49 (show ¬ (1 : Int32) = 0 by decide)
  refine b_aln (pc2 := 53) d_Se_answerAccess_52 rfl rfl ?_
  refine b_iln (pc2 := 54) d_Se_answerAccess_53 rfl rfl ?_
  refine b_al (pc2 := 56) d_Se_answerAccess_54 rfl rfl ?_
  refine b_gr (pc2 := 59) d_Se_answerAccess_56 q_8_49 (at_H n0 hi) (by decide) (by decide) (at_p0 n0 hi) rfl ?_
  refine b_aln (pc2 := 60) d_Se_answerAccess_59 rfl rfl ?_
  refine b_ic (pc2 := 61) (x := Int32.ofNat 2) d_Se_answerAccess_60 rfl rfl ?_
  refine b_cv1 (pc2 := 64) (c2 := 0) (u2 := 0) (rw_at (k := 2) (by omega) hSR R_57 (by decide)) d_Se_answerAccess_61 q_8_84 (Nat.le_of_ble_eq_true rfl) rfl rfl (sh_57 n0) (Nat.le_of_ble_eq_true rfl) rfl rfl (by decide) (by decide) rfl ?_
  refine b_cv1 (pc2 := 67) (c2 := 0) (u2 := 0) (hR e (by omega)) d_Se_answerAccess_64 q_8_129 (Nat.le_of_ble_eq_true rfl) rfl rfl (sh_86 n0) (Nat.le_of_ble_eq_true rfl) rfl rfl (by decide) (by decide) rfl ?_
  refine b_go (pc2 := 71) d_Se_answerAccess_67 rfl ?_
  refine b_ir d_Se_answerAccess_71 rfl ?_
  exact ⟨rfl, rfl, rfl, rfl, rfl⟩
theorem se_acc_rd0_12 {d : Nat} (hd : 3 ≤ d) {ct : Nat} (hop : (W 57).getD 0 0 = Int32.ofNat 12) (hc : J 86 1 = Int32.ofNat ct) (hct : ct ≤ 10) (hi : i < 10) (hh : (W 57).getD 1 0 = Int32.ofNat (i + 1)) (hic : i < ct) (hr : J (88 + 3 * i) 2 &&& Int32.ofNat 1 = 0) : bm d (S0 n0) R0 86 [.ref 86, .ref 57] W J g L (bR (some (.int (Int32.ofNat 2))) W J g L) := by
  obtain ⟨e, rfl⟩ : ∃ e, d = e + 1 := ⟨d - 1, by omega⟩
  refine bm_of (Nat.le_of_ble_eq_true rfl) (Or.inr bR_ret) ?_
  show bT e (S0 n0) R0 mt_Se_answerAccess _ 0 [(0, .ref 86), (1, .ref 57)] [] W J g L 0 0
  have hSR := SR0 n0
  refine b_aln (pc2 := 1) d_Se_answerAccess_0 rfl rfl ?_
  refine b_ic (pc2 := 2) (x := Int32.ofNat 0) d_Se_answerAccess_1 rfl rfl ?_
  refine b_cv1 (pc2 := 5) (c2 := 0) (u2 := 0) (rw_at (k := 0) (by omega) hSR R_57 (by decide)) d_Se_answerAccess_2 q_8_84 (Nat.le_of_ble_eq_true rfl) rfl rfl (sh_57 n0) (Nat.le_of_ble_eq_true rfl) rfl rfl (by decide) (by decide) rfl ?_
  rw [hop]
  refine b_isn (pc2 := 6) (al2 := [(2, _), (0, _), (1, _)]) d_Se_answerAccess_5 (by decide) rfl rfl ?_
  refine b_aln (pc2 := 7) d_Se_answerAccess_6 rfl rfl ?_
  refine b_ic (pc2 := 8) (x := Int32.ofNat 1) d_Se_answerAccess_7 rfl rfl ?_
  refine b_cv1 (pc2 := 11) (c2 := 0) (u2 := 0) (rw_at (k := 1) (by omega) hSR R_57 (by decide)) d_Se_answerAccess_8 q_8_84 (Nat.le_of_ble_eq_true rfl) rfl rfl (sh_57 n0) (Nat.le_of_ble_eq_true rfl) rfl rfl (by decide) (by decide) rfl ?_
  rw [hh]
  refine b_isn (pc2 := 12) (al2 := [(3, _), (2, _), (0, _), (1, _)]) d_Se_answerAccess_11 (by decide) rfl rfl ?_
  refine b_aln (pc2 := 13) d_Se_answerAccess_12 rfl rfl ?_
  refine b_iln (pc2 := 14) d_Se_answerAccess_13 rfl rfl ?_
  refine b_cv1 (pc2 := 17) (c2 := 0) (u2 := 0) (se_hasHandle (by omega)) d_Se_answerAccess_14 q_8_122 (Nat.le_of_ble_eq_true rfl) rfl rfl (sh_86 n0) (Nat.le_of_ble_eq_true rfl) rfl rfl (by decide) (by decide) rfl ?_
  rw [if_pos ⟨by rw [i_lt (by omega) (by decide)]; omega, by rw [hc, i_lt (by omega) (by omega)]; omega⟩]
  refine b_ifd (pc2 := 22) d_Se_answerAccess_17 rfl rfl rfl rfl rfl (fun h17 => ?_) (fun h17 => ?_)
  rotate_left
  · exact absurd (show ¬ (1 : Int32) = 0 by decide) h17
  refine b_aln (pc2 := 23) d_Se_answerAccess_22 rfl rfl ?_
  refine b_gr (pc2 := 26) d_Se_answerAccess_23 q_8_13 (sh_86 n0) (by decide) (by decide) (p_86_0 n0) rfl ?_
  refine b_iln (pc2 := 27) d_Se_answerAccess_26 rfl rfl ?_
  refine b_ic (pc2 := 28) (x := Int32.ofNat 1) d_Se_answerAccess_27 rfl rfl ?_
  refine b_pure (pc2 := 29) d_Se_answerAccess_28 rfl rfl rfl ?_
  rw [i_sub (by omega), show i + 1 - 1 = i by omega]
  refine b_aa (pc2 := 30) (q := i) d_Se_answerAccess_29 (sh_87 n0) (Or.inr rfl) (i_in hi (by decide)) (i_tn (by omega)) (at_P n0 hi) rfl ?_
  refine b_as (pc2 := 32) (al2 := [(4, _), (3, _), (2, _), (0, _), (1, _)]) d_Se_answerAccess_30 (by decide) rfl rfl ?_
  refine b_iln (pc2 := 33) d_Se_answerAccess_32 rfl rfl ?_
  refine b_bp (pc2 := 35) (x := Int32.ofNat 10) d_Se_answerAccess_33 rfl rfl ?_
  refine b_ifd (pc2 := 44) d_Se_answerAccess_35 rfl rfl rfl rfl rfl (fun h35 => ?_) (fun h35 => ?_)
  · exact absurd h35 (by decide)
  refine b_iln (pc2 := 39) d_Se_answerAccess_38 rfl rfl ?_
  refine b_bp (pc2 := 41) (x := Int32.ofNat 12) d_Se_answerAccess_39 rfl rfl ?_
  refine b_ifd (pc2 := 72) d_Se_answerAccess_41 rfl rfl rfl rfl rfl (fun h41 => ?_) (fun h41 => ?_)
  · exact absurd h41 (by decide)
  refine b_al (pc2 := 46) d_Se_answerAccess_44 rfl rfl ?_
  refine b_cv1 (pc2 := 49) (c2 := 0) (u2 := 0) (at_isReadable (by omega) hi) d_Se_answerAccess_46 q_8_125 (Nat.le_of_ble_eq_true rfl) rfl rfl (at_H n0 hi) (Nat.le_of_ble_eq_true rfl) rfl rfl (by decide) (by decide) rfl ?_
  rw [if_pos hr]
  refine b_ifd (pc2 := 70) d_Se_answerAccess_49 rfl rfl rfl rfl rfl (fun h49 => ?_) (fun h49 => ?_)
  rotate_left
  · exact absurd (rfl) h49
  refine b_ic (pc2 := 71) (x := Int32.ofNat 2) d_Se_answerAccess_70 rfl rfl ?_
  refine b_ir d_Se_answerAccess_71 rfl ?_
  exact ⟨rfl, rfl, rfl, rfl, rfl⟩
theorem se_acc_rd_12 {d : Nat} (hd : 3 ≤ d) {ct : Nat} (hop : (W 57).getD 0 0 = Int32.ofNat 12) (hc : J 86 1 = Int32.ofNat ct) (hct : ct ≤ 10) (hi : i < 10) (hh : (W 57).getD 1 0 = Int32.ofNat (i + 1)) (hic : i < ct) (hr : ¬ J (88 + 3 * i) 2 &&& Int32.ofNat 1 = 0) {c : Int32} (hR : ∀ e, 2 ≤ e → bm e (S0 n0) R0 88 [.ref 86, .int (Int32.ofNat 12), .ref (89 + 3 * i), .int ((W 57).getD 2 0)] W J g L (bR (some (.int c)) W1 J1 g L)) : bm d (S0 n0) R0 86 [.ref 86, .ref 57] W J g L (bR (some (.int c)) W1 J1 g L) := by
  obtain ⟨e, rfl⟩ : ∃ e, d = e + 1 := ⟨d - 1, by omega⟩
  refine bm_of (Nat.le_of_ble_eq_true rfl) (Or.inr bR_ret) ?_
  show bT e (S0 n0) R0 mt_Se_answerAccess _ 0 [(0, .ref 86), (1, .ref 57)] [] W J g L 0 0
  have hSR := SR0 n0
  refine b_aln (pc2 := 1) d_Se_answerAccess_0 rfl rfl ?_
  refine b_ic (pc2 := 2) (x := Int32.ofNat 0) d_Se_answerAccess_1 rfl rfl ?_
  refine b_cv1 (pc2 := 5) (c2 := 0) (u2 := 0) (rw_at (k := 0) (by omega) hSR R_57 (by decide)) d_Se_answerAccess_2 q_8_84 (Nat.le_of_ble_eq_true rfl) rfl rfl (sh_57 n0) (Nat.le_of_ble_eq_true rfl) rfl rfl (by decide) (by decide) rfl ?_
  rw [hop]
  refine b_isn (pc2 := 6) (al2 := [(2, _), (0, _), (1, _)]) d_Se_answerAccess_5 (by decide) rfl rfl ?_
  refine b_aln (pc2 := 7) d_Se_answerAccess_6 rfl rfl ?_
  refine b_ic (pc2 := 8) (x := Int32.ofNat 1) d_Se_answerAccess_7 rfl rfl ?_
  refine b_cv1 (pc2 := 11) (c2 := 0) (u2 := 0) (rw_at (k := 1) (by omega) hSR R_57 (by decide)) d_Se_answerAccess_8 q_8_84 (Nat.le_of_ble_eq_true rfl) rfl rfl (sh_57 n0) (Nat.le_of_ble_eq_true rfl) rfl rfl (by decide) (by decide) rfl ?_
  rw [hh]
  refine b_isn (pc2 := 12) (al2 := [(3, _), (2, _), (0, _), (1, _)]) d_Se_answerAccess_11 (by decide) rfl rfl ?_
  refine b_aln (pc2 := 13) d_Se_answerAccess_12 rfl rfl ?_
  refine b_iln (pc2 := 14) d_Se_answerAccess_13 rfl rfl ?_
  refine b_cv1 (pc2 := 17) (c2 := 0) (u2 := 0) (se_hasHandle (by omega)) d_Se_answerAccess_14 q_8_122 (Nat.le_of_ble_eq_true rfl) rfl rfl (sh_86 n0) (Nat.le_of_ble_eq_true rfl) rfl rfl (by decide) (by decide) rfl ?_
  rw [if_pos ⟨by rw [i_lt (by omega) (by decide)]; omega, by rw [hc, i_lt (by omega) (by omega)]; omega⟩]
  refine b_ifd (pc2 := 22) d_Se_answerAccess_17 rfl rfl rfl rfl rfl (fun h17 => ?_) (fun h17 => ?_)
  rotate_left
  · exact absurd (show ¬ (1 : Int32) = 0 by decide) h17
  refine b_aln (pc2 := 23) d_Se_answerAccess_22 rfl rfl ?_
  refine b_gr (pc2 := 26) d_Se_answerAccess_23 q_8_13 (sh_86 n0) (by decide) (by decide) (p_86_0 n0) rfl ?_
  refine b_iln (pc2 := 27) d_Se_answerAccess_26 rfl rfl ?_
  refine b_ic (pc2 := 28) (x := Int32.ofNat 1) d_Se_answerAccess_27 rfl rfl ?_
  refine b_pure (pc2 := 29) d_Se_answerAccess_28 rfl rfl rfl ?_
  rw [i_sub (by omega), show i + 1 - 1 = i by omega]
  refine b_aa (pc2 := 30) (q := i) d_Se_answerAccess_29 (sh_87 n0) (Or.inr rfl) (i_in hi (by decide)) (i_tn (by omega)) (at_P n0 hi) rfl ?_
  refine b_as (pc2 := 32) (al2 := [(4, _), (3, _), (2, _), (0, _), (1, _)]) d_Se_answerAccess_30 (by decide) rfl rfl ?_
  refine b_iln (pc2 := 33) d_Se_answerAccess_32 rfl rfl ?_
  refine b_bp (pc2 := 35) (x := Int32.ofNat 10) d_Se_answerAccess_33 rfl rfl ?_
  refine b_ifd (pc2 := 44) d_Se_answerAccess_35 rfl rfl rfl rfl rfl (fun h35 => ?_) (fun h35 => ?_)
  · exact absurd h35 (by decide)
  refine b_iln (pc2 := 39) d_Se_answerAccess_38 rfl rfl ?_
  refine b_bp (pc2 := 41) (x := Int32.ofNat 12) d_Se_answerAccess_39 rfl rfl ?_
  refine b_ifd (pc2 := 72) d_Se_answerAccess_41 rfl rfl rfl rfl rfl (fun h41 => ?_) (fun h41 => ?_)
  · exact absurd h41 (by decide)
  refine b_al (pc2 := 46) d_Se_answerAccess_44 rfl rfl ?_
  refine b_cv1 (pc2 := 49) (c2 := 0) (u2 := 0) (at_isReadable (by omega) hi) d_Se_answerAccess_46 q_8_125 (Nat.le_of_ble_eq_true rfl) rfl rfl (at_H n0 hi) (Nat.le_of_ble_eq_true rfl) rfl rfl (by decide) (by decide) rfl ?_
  rw [if_neg hr]
  refine b_ifd (pc2 := 70) d_Se_answerAccess_49 rfl rfl rfl rfl rfl (fun h49 => ?_) (fun h49 => ?_)
  · exact absurd h49 (show ¬ (1 : Int32) = 0 by decide)
  refine b_aln (pc2 := 53) d_Se_answerAccess_52 rfl rfl ?_
  refine b_iln (pc2 := 54) d_Se_answerAccess_53 rfl rfl ?_
  refine b_al (pc2 := 56) d_Se_answerAccess_54 rfl rfl ?_
  refine b_gr (pc2 := 59) d_Se_answerAccess_56 q_8_49 (at_H n0 hi) (by decide) (by decide) (at_p0 n0 hi) rfl ?_
  refine b_aln (pc2 := 60) d_Se_answerAccess_59 rfl rfl ?_
  refine b_ic (pc2 := 61) (x := Int32.ofNat 2) d_Se_answerAccess_60 rfl rfl ?_
  refine b_cv1 (pc2 := 64) (c2 := 0) (u2 := 0) (rw_at (k := 2) (by omega) hSR R_57 (by decide)) d_Se_answerAccess_61 q_8_84 (Nat.le_of_ble_eq_true rfl) rfl rfl (sh_57 n0) (Nat.le_of_ble_eq_true rfl) rfl rfl (by decide) (by decide) rfl ?_
  refine b_cv1 (pc2 := 67) (c2 := 0) (u2 := 0) (hR e (by omega)) d_Se_answerAccess_64 q_8_129 (Nat.le_of_ble_eq_true rfl) rfl rfl (sh_86 n0) (Nat.le_of_ble_eq_true rfl) rfl rfl (by decide) (by decide) rfl ?_
  refine b_go (pc2 := 71) d_Se_answerAccess_67 rfl ?_
  refine b_ir d_Se_answerAccess_71 rfl ?_
  exact ⟨rfl, rfl, rfl, rfl, rfl⟩
theorem se_acc_wr0_18 {d : Nat} (hd : 3 ≤ d) {ct : Nat} (hop : (W 57).getD 0 0 = Int32.ofNat 18) (hc : J 86 1 = Int32.ofNat ct) (hct : ct ≤ 10) (hi : i < 10) (hh : (W 57).getD 1 0 = Int32.ofNat (i + 1)) (hic : i < ct) (hr : J (88 + 3 * i) 2 &&& Int32.ofNat 2 = 0) : bm d (S0 n0) R0 86 [.ref 86, .ref 57] W J g L (bR (some (.int (Int32.ofNat 3))) W J g L) := by
  obtain ⟨e, rfl⟩ : ∃ e, d = e + 1 := ⟨d - 1, by omega⟩
  refine bm_of (Nat.le_of_ble_eq_true rfl) (Or.inr bR_ret) ?_
  show bT e (S0 n0) R0 mt_Se_answerAccess _ 0 [(0, .ref 86), (1, .ref 57)] [] W J g L 0 0
  have hSR := SR0 n0
  refine b_aln (pc2 := 1) d_Se_answerAccess_0 rfl rfl ?_
  refine b_ic (pc2 := 2) (x := Int32.ofNat 0) d_Se_answerAccess_1 rfl rfl ?_
  refine b_cv1 (pc2 := 5) (c2 := 0) (u2 := 0) (rw_at (k := 0) (by omega) hSR R_57 (by decide)) d_Se_answerAccess_2 q_8_84 (Nat.le_of_ble_eq_true rfl) rfl rfl (sh_57 n0) (Nat.le_of_ble_eq_true rfl) rfl rfl (by decide) (by decide) rfl ?_
  rw [hop]
  refine b_isn (pc2 := 6) (al2 := [(2, _), (0, _), (1, _)]) d_Se_answerAccess_5 (by decide) rfl rfl ?_
  refine b_aln (pc2 := 7) d_Se_answerAccess_6 rfl rfl ?_
  refine b_ic (pc2 := 8) (x := Int32.ofNat 1) d_Se_answerAccess_7 rfl rfl ?_
  refine b_cv1 (pc2 := 11) (c2 := 0) (u2 := 0) (rw_at (k := 1) (by omega) hSR R_57 (by decide)) d_Se_answerAccess_8 q_8_84 (Nat.le_of_ble_eq_true rfl) rfl rfl (sh_57 n0) (Nat.le_of_ble_eq_true rfl) rfl rfl (by decide) (by decide) rfl ?_
  rw [hh]
  refine b_isn (pc2 := 12) (al2 := [(3, _), (2, _), (0, _), (1, _)]) d_Se_answerAccess_11 (by decide) rfl rfl ?_
  refine b_aln (pc2 := 13) d_Se_answerAccess_12 rfl rfl ?_
  refine b_iln (pc2 := 14) d_Se_answerAccess_13 rfl rfl ?_
  refine b_cv1 (pc2 := 17) (c2 := 0) (u2 := 0) (se_hasHandle (by omega)) d_Se_answerAccess_14 q_8_122 (Nat.le_of_ble_eq_true rfl) rfl rfl (sh_86 n0) (Nat.le_of_ble_eq_true rfl) rfl rfl (by decide) (by decide) rfl ?_
  rw [if_pos ⟨by rw [i_lt (by omega) (by decide)]; omega, by rw [hc, i_lt (by omega) (by omega)]; omega⟩]
  refine b_ifd (pc2 := 22) d_Se_answerAccess_17 rfl rfl rfl rfl rfl (fun h17 => ?_) (fun h17 => ?_)
  rotate_left
  · exact absurd (show ¬ (1 : Int32) = 0 by decide) h17
  refine b_aln (pc2 := 23) d_Se_answerAccess_22 rfl rfl ?_
  refine b_gr (pc2 := 26) d_Se_answerAccess_23 q_8_13 (sh_86 n0) (by decide) (by decide) (p_86_0 n0) rfl ?_
  refine b_iln (pc2 := 27) d_Se_answerAccess_26 rfl rfl ?_
  refine b_ic (pc2 := 28) (x := Int32.ofNat 1) d_Se_answerAccess_27 rfl rfl ?_
  refine b_pure (pc2 := 29) d_Se_answerAccess_28 rfl rfl rfl ?_
  rw [i_sub (by omega), show i + 1 - 1 = i by omega]
  refine b_aa (pc2 := 30) (q := i) d_Se_answerAccess_29 (sh_87 n0) (Or.inr rfl) (i_in hi (by decide)) (i_tn (by omega)) (at_P n0 hi) rfl ?_
  refine b_as (pc2 := 32) (al2 := [(4, _), (3, _), (2, _), (0, _), (1, _)]) d_Se_answerAccess_30 (by decide) rfl rfl ?_
  refine b_iln (pc2 := 33) d_Se_answerAccess_32 rfl rfl ?_
  refine b_bp (pc2 := 35) (x := Int32.ofNat 10) d_Se_answerAccess_33 rfl rfl ?_
  refine b_ifd (pc2 := 44) d_Se_answerAccess_35 rfl rfl rfl rfl rfl (fun h35 => ?_) (fun h35 => ?_)
  · exact absurd h35 (by decide)
  refine b_iln (pc2 := 39) d_Se_answerAccess_38 rfl rfl ?_
  refine b_bp (pc2 := 41) (x := Int32.ofNat 12) d_Se_answerAccess_39 rfl rfl ?_
  refine b_ifd (pc2 := 72) d_Se_answerAccess_41 rfl rfl rfl rfl rfl (fun h41 => ?_) (fun h41 => ?_)
  rotate_left
  · exact absurd (by decide) h41
  refine b_al (pc2 := 74) d_Se_answerAccess_72 rfl rfl ?_
  refine b_cv1 (pc2 := 77) (c2 := 0) (u2 := 0) (at_isWritable (by omega) hi) d_Se_answerAccess_74 q_8_133 (Nat.le_of_ble_eq_true rfl) rfl rfl (at_H n0 hi) (Nat.le_of_ble_eq_true rfl) rfl rfl (by decide) (by decide) rfl ?_
  rw [if_pos hr]
  refine b_ifd (pc2 := 82) d_Se_answerAccess_77 rfl rfl rfl rfl rfl (fun h77 => ?_) (fun h77 => ?_)
  · exact absurd h77 (fun z => z rfl)
  refine b_ic (pc2 := 81) (x := Int32.ofNat 3) d_Se_answerAccess_80 rfl rfl ?_
  refine b_ir d_Se_answerAccess_81 rfl ?_
  exact ⟨rfl, rfl, rfl, rfl, rfl⟩
theorem se_acc_wr0_22 {d : Nat} (hd : 3 ≤ d) {ct : Nat} (hop : (W 57).getD 0 0 = Int32.ofNat 22) (hc : J 86 1 = Int32.ofNat ct) (hct : ct ≤ 10) (hi : i < 10) (hh : (W 57).getD 1 0 = Int32.ofNat (i + 1)) (hic : i < ct) (hr : J (88 + 3 * i) 2 &&& Int32.ofNat 2 = 0) : bm d (S0 n0) R0 86 [.ref 86, .ref 57] W J g L (bR (some (.int (Int32.ofNat 3))) W J g L) := by
  obtain ⟨e, rfl⟩ : ∃ e, d = e + 1 := ⟨d - 1, by omega⟩
  refine bm_of (Nat.le_of_ble_eq_true rfl) (Or.inr bR_ret) ?_
  show bT e (S0 n0) R0 mt_Se_answerAccess _ 0 [(0, .ref 86), (1, .ref 57)] [] W J g L 0 0
  have hSR := SR0 n0
  refine b_aln (pc2 := 1) d_Se_answerAccess_0 rfl rfl ?_
  refine b_ic (pc2 := 2) (x := Int32.ofNat 0) d_Se_answerAccess_1 rfl rfl ?_
  refine b_cv1 (pc2 := 5) (c2 := 0) (u2 := 0) (rw_at (k := 0) (by omega) hSR R_57 (by decide)) d_Se_answerAccess_2 q_8_84 (Nat.le_of_ble_eq_true rfl) rfl rfl (sh_57 n0) (Nat.le_of_ble_eq_true rfl) rfl rfl (by decide) (by decide) rfl ?_
  rw [hop]
  refine b_isn (pc2 := 6) (al2 := [(2, _), (0, _), (1, _)]) d_Se_answerAccess_5 (by decide) rfl rfl ?_
  refine b_aln (pc2 := 7) d_Se_answerAccess_6 rfl rfl ?_
  refine b_ic (pc2 := 8) (x := Int32.ofNat 1) d_Se_answerAccess_7 rfl rfl ?_
  refine b_cv1 (pc2 := 11) (c2 := 0) (u2 := 0) (rw_at (k := 1) (by omega) hSR R_57 (by decide)) d_Se_answerAccess_8 q_8_84 (Nat.le_of_ble_eq_true rfl) rfl rfl (sh_57 n0) (Nat.le_of_ble_eq_true rfl) rfl rfl (by decide) (by decide) rfl ?_
  rw [hh]
  refine b_isn (pc2 := 12) (al2 := [(3, _), (2, _), (0, _), (1, _)]) d_Se_answerAccess_11 (by decide) rfl rfl ?_
  refine b_aln (pc2 := 13) d_Se_answerAccess_12 rfl rfl ?_
  refine b_iln (pc2 := 14) d_Se_answerAccess_13 rfl rfl ?_
  refine b_cv1 (pc2 := 17) (c2 := 0) (u2 := 0) (se_hasHandle (by omega)) d_Se_answerAccess_14 q_8_122 (Nat.le_of_ble_eq_true rfl) rfl rfl (sh_86 n0) (Nat.le_of_ble_eq_true rfl) rfl rfl (by decide) (by decide) rfl ?_
  rw [if_pos ⟨by rw [i_lt (by omega) (by decide)]; omega, by rw [hc, i_lt (by omega) (by omega)]; omega⟩]
  refine b_ifd (pc2 := 22) d_Se_answerAccess_17 rfl rfl rfl rfl rfl (fun h17 => ?_) (fun h17 => ?_)
  rotate_left
  · exact absurd (show ¬ (1 : Int32) = 0 by decide) h17
  refine b_aln (pc2 := 23) d_Se_answerAccess_22 rfl rfl ?_
  refine b_gr (pc2 := 26) d_Se_answerAccess_23 q_8_13 (sh_86 n0) (by decide) (by decide) (p_86_0 n0) rfl ?_
  refine b_iln (pc2 := 27) d_Se_answerAccess_26 rfl rfl ?_
  refine b_ic (pc2 := 28) (x := Int32.ofNat 1) d_Se_answerAccess_27 rfl rfl ?_
  refine b_pure (pc2 := 29) d_Se_answerAccess_28 rfl rfl rfl ?_
  rw [i_sub (by omega), show i + 1 - 1 = i by omega]
  refine b_aa (pc2 := 30) (q := i) d_Se_answerAccess_29 (sh_87 n0) (Or.inr rfl) (i_in hi (by decide)) (i_tn (by omega)) (at_P n0 hi) rfl ?_
  refine b_as (pc2 := 32) (al2 := [(4, _), (3, _), (2, _), (0, _), (1, _)]) d_Se_answerAccess_30 (by decide) rfl rfl ?_
  refine b_iln (pc2 := 33) d_Se_answerAccess_32 rfl rfl ?_
  refine b_bp (pc2 := 35) (x := Int32.ofNat 10) d_Se_answerAccess_33 rfl rfl ?_
  refine b_ifd (pc2 := 44) d_Se_answerAccess_35 rfl rfl rfl rfl rfl (fun h35 => ?_) (fun h35 => ?_)
  · exact absurd h35 (by decide)
  refine b_iln (pc2 := 39) d_Se_answerAccess_38 rfl rfl ?_
  refine b_bp (pc2 := 41) (x := Int32.ofNat 12) d_Se_answerAccess_39 rfl rfl ?_
  refine b_ifd (pc2 := 72) d_Se_answerAccess_41 rfl rfl rfl rfl rfl (fun h41 => ?_) (fun h41 => ?_)
  rotate_left
  · exact absurd (by decide) h41
  refine b_al (pc2 := 74) d_Se_answerAccess_72 rfl rfl ?_
  refine b_cv1 (pc2 := 77) (c2 := 0) (u2 := 0) (at_isWritable (by omega) hi) d_Se_answerAccess_74 q_8_133 (Nat.le_of_ble_eq_true rfl) rfl rfl (at_H n0 hi) (Nat.le_of_ble_eq_true rfl) rfl rfl (by decide) (by decide) rfl ?_
  rw [if_pos hr]
  refine b_ifd (pc2 := 82) d_Se_answerAccess_77 rfl rfl rfl rfl rfl (fun h77 => ?_) (fun h77 => ?_)
  · exact absurd h77 (fun z => z rfl)
  refine b_ic (pc2 := 81) (x := Int32.ofNat 3) d_Se_answerAccess_80 rfl rfl ?_
  refine b_ir d_Se_answerAccess_81 rfl ?_
  exact ⟨rfl, rfl, rfl, rfl, rfl⟩
theorem se_acc_wr {d : Nat} (hd : 3 ≤ d) {ct : Nat} (hop : (W 57).getD 0 0 = Int32.ofNat 18) (hc : J 86 1 = Int32.ofNat ct) (hct : ct ≤ 10) (hi : i < 10) (hh : (W 57).getD 1 0 = Int32.ofNat (i + 1)) (hic : i < ct) (hr : ¬ J (88 + 3 * i) 2 &&& Int32.ofNat 2 = 0) {c : Int32} (hR : ∀ e, 2 ≤ e → bm e (S0 n0) R0 90 [.ref 86, .ref (89 + 3 * i), .ref 57] W J g L (bR (some (.int c)) W1 J1 g L)) : bm d (S0 n0) R0 86 [.ref 86, .ref 57] W J g L (bR (some (.int c)) W1 J1 g L) := by
  obtain ⟨e, rfl⟩ : ∃ e, d = e + 1 := ⟨d - 1, by omega⟩
  refine bm_of (Nat.le_of_ble_eq_true rfl) (Or.inr bR_ret) ?_
  show bT e (S0 n0) R0 mt_Se_answerAccess _ 0 [(0, .ref 86), (1, .ref 57)] [] W J g L 0 0
  have hSR := SR0 n0
  refine b_aln (pc2 := 1) d_Se_answerAccess_0 rfl rfl ?_
  refine b_ic (pc2 := 2) (x := Int32.ofNat 0) d_Se_answerAccess_1 rfl rfl ?_
  refine b_cv1 (pc2 := 5) (c2 := 0) (u2 := 0) (rw_at (k := 0) (by omega) hSR R_57 (by decide)) d_Se_answerAccess_2 q_8_84 (Nat.le_of_ble_eq_true rfl) rfl rfl (sh_57 n0) (Nat.le_of_ble_eq_true rfl) rfl rfl (by decide) (by decide) rfl ?_
  rw [hop]
  refine b_isn (pc2 := 6) (al2 := [(2, _), (0, _), (1, _)]) d_Se_answerAccess_5 (by decide) rfl rfl ?_
  refine b_aln (pc2 := 7) d_Se_answerAccess_6 rfl rfl ?_
  refine b_ic (pc2 := 8) (x := Int32.ofNat 1) d_Se_answerAccess_7 rfl rfl ?_
  refine b_cv1 (pc2 := 11) (c2 := 0) (u2 := 0) (rw_at (k := 1) (by omega) hSR R_57 (by decide)) d_Se_answerAccess_8 q_8_84 (Nat.le_of_ble_eq_true rfl) rfl rfl (sh_57 n0) (Nat.le_of_ble_eq_true rfl) rfl rfl (by decide) (by decide) rfl ?_
  rw [hh]
  refine b_isn (pc2 := 12) (al2 := [(3, _), (2, _), (0, _), (1, _)]) d_Se_answerAccess_11 (by decide) rfl rfl ?_
  refine b_aln (pc2 := 13) d_Se_answerAccess_12 rfl rfl ?_
  refine b_iln (pc2 := 14) d_Se_answerAccess_13 rfl rfl ?_
  refine b_cv1 (pc2 := 17) (c2 := 0) (u2 := 0) (se_hasHandle (by omega)) d_Se_answerAccess_14 q_8_122 (Nat.le_of_ble_eq_true rfl) rfl rfl (sh_86 n0) (Nat.le_of_ble_eq_true rfl) rfl rfl (by decide) (by decide) rfl ?_
  rw [if_pos ⟨by rw [i_lt (by omega) (by decide)]; omega, by rw [hc, i_lt (by omega) (by omega)]; omega⟩]
  refine b_ifd (pc2 := 22) d_Se_answerAccess_17 rfl rfl rfl rfl rfl (fun h17 => ?_) (fun h17 => ?_)
  rotate_left
  · exact absurd (show ¬ (1 : Int32) = 0 by decide) h17
  refine b_aln (pc2 := 23) d_Se_answerAccess_22 rfl rfl ?_
  refine b_gr (pc2 := 26) d_Se_answerAccess_23 q_8_13 (sh_86 n0) (by decide) (by decide) (p_86_0 n0) rfl ?_
  refine b_iln (pc2 := 27) d_Se_answerAccess_26 rfl rfl ?_
  refine b_ic (pc2 := 28) (x := Int32.ofNat 1) d_Se_answerAccess_27 rfl rfl ?_
  refine b_pure (pc2 := 29) d_Se_answerAccess_28 rfl rfl rfl ?_
  rw [i_sub (by omega), show i + 1 - 1 = i by omega]
  refine b_aa (pc2 := 30) (q := i) d_Se_answerAccess_29 (sh_87 n0) (Or.inr rfl) (i_in hi (by decide)) (i_tn (by omega)) (at_P n0 hi) rfl ?_
  refine b_as (pc2 := 32) (al2 := [(4, _), (3, _), (2, _), (0, _), (1, _)]) d_Se_answerAccess_30 (by decide) rfl rfl ?_
  refine b_iln (pc2 := 33) d_Se_answerAccess_32 rfl rfl ?_
  refine b_bp (pc2 := 35) (x := Int32.ofNat 10) d_Se_answerAccess_33 rfl rfl ?_
  refine b_ifd (pc2 := 44) d_Se_answerAccess_35 rfl rfl rfl rfl rfl (fun h35 => ?_) (fun h35 => ?_)
  · exact absurd h35 (by decide)
  refine b_iln (pc2 := 39) d_Se_answerAccess_38 rfl rfl ?_
  refine b_bp (pc2 := 41) (x := Int32.ofNat 12) d_Se_answerAccess_39 rfl rfl ?_
  refine b_ifd (pc2 := 72) d_Se_answerAccess_41 rfl rfl rfl rfl rfl (fun h41 => ?_) (fun h41 => ?_)
  rotate_left
  · exact absurd (by decide) h41
  refine b_al (pc2 := 74) d_Se_answerAccess_72 rfl rfl ?_
  refine b_cv1 (pc2 := 77) (c2 := 0) (u2 := 0) (at_isWritable (by omega) hi) d_Se_answerAccess_74 q_8_133 (Nat.le_of_ble_eq_true rfl) rfl rfl (at_H n0 hi) (Nat.le_of_ble_eq_true rfl) rfl rfl (by decide) (by decide) rfl ?_
  rw [if_neg hr]
  refine b_ifd (pc2 := 82) d_Se_answerAccess_77 rfl rfl rfl rfl rfl (fun h77 => ?_) (fun h77 => ?_)
  rotate_left
  · exact absurd (show ¬ (1 : Int32) = 0 by decide) h77
  refine b_iln (pc2 := 83) d_Se_answerAccess_82 rfl rfl ?_
  refine b_bp (pc2 := 85) (x := Int32.ofNat 18) d_Se_answerAccess_83 rfl rfl ?_
  refine b_ifd (pc2 := 101) d_Se_answerAccess_85 rfl rfl rfl rfl rfl (fun h85 => ?_) (fun h85 => ?_)
  · exact absurd h85 (by decide)
  refine b_aln (pc2 := 89) d_Se_answerAccess_88 rfl rfl ?_
  refine b_al (pc2 := 91) d_Se_answerAccess_89 rfl rfl ?_
  refine b_gr (pc2 := 94) d_Se_answerAccess_91 q_8_49 (at_H n0 hi) (by decide) (by decide) (at_p0 n0 hi) rfl ?_
  refine b_aln (pc2 := 95) d_Se_answerAccess_94 rfl rfl ?_
  refine b_cv1 (pc2 := 98) (c2 := 0) (u2 := 0) (hR e (by omega)) d_Se_answerAccess_95 q_8_136 (Nat.le_of_ble_eq_true rfl) rfl rfl (sh_86 n0) (Nat.le_of_ble_eq_true rfl) rfl rfl (by decide) (by decide) rfl ?_
  refine b_go (pc2 := 106) d_Se_answerAccess_98 rfl ?_
  refine b_ir d_Se_answerAccess_106 rfl ?_
  exact ⟨rfl, rfl, rfl, rfl, rfl⟩
theorem se_acc_pt {d : Nat} (hd : 3 ≤ d) {ct : Nat} (hop : (W 57).getD 0 0 = Int32.ofNat 22) (hc : J 86 1 = Int32.ofNat ct) (hct : ct ≤ 10) (hi : i < 10) (hh : (W 57).getD 1 0 = Int32.ofNat (i + 1)) (hic : i < ct) (hr : ¬ J (88 + 3 * i) 2 &&& Int32.ofNat 2 = 0) {c : Int32} (hR : ∀ e, 2 ≤ e → bm e (S0 n0) R0 91 [.ref 86, .ref 57] W J g L (bR (some (.int c)) W1 J1 g L)) : bm d (S0 n0) R0 86 [.ref 86, .ref 57] W J g L (bR (some (.int c)) W1 J1 g L) := by
  obtain ⟨e, rfl⟩ : ∃ e, d = e + 1 := ⟨d - 1, by omega⟩
  refine bm_of (Nat.le_of_ble_eq_true rfl) (Or.inr bR_ret) ?_
  show bT e (S0 n0) R0 mt_Se_answerAccess _ 0 [(0, .ref 86), (1, .ref 57)] [] W J g L 0 0
  have hSR := SR0 n0
  refine b_aln (pc2 := 1) d_Se_answerAccess_0 rfl rfl ?_
  refine b_ic (pc2 := 2) (x := Int32.ofNat 0) d_Se_answerAccess_1 rfl rfl ?_
  refine b_cv1 (pc2 := 5) (c2 := 0) (u2 := 0) (rw_at (k := 0) (by omega) hSR R_57 (by decide)) d_Se_answerAccess_2 q_8_84 (Nat.le_of_ble_eq_true rfl) rfl rfl (sh_57 n0) (Nat.le_of_ble_eq_true rfl) rfl rfl (by decide) (by decide) rfl ?_
  rw [hop]
  refine b_isn (pc2 := 6) (al2 := [(2, _), (0, _), (1, _)]) d_Se_answerAccess_5 (by decide) rfl rfl ?_
  refine b_aln (pc2 := 7) d_Se_answerAccess_6 rfl rfl ?_
  refine b_ic (pc2 := 8) (x := Int32.ofNat 1) d_Se_answerAccess_7 rfl rfl ?_
  refine b_cv1 (pc2 := 11) (c2 := 0) (u2 := 0) (rw_at (k := 1) (by omega) hSR R_57 (by decide)) d_Se_answerAccess_8 q_8_84 (Nat.le_of_ble_eq_true rfl) rfl rfl (sh_57 n0) (Nat.le_of_ble_eq_true rfl) rfl rfl (by decide) (by decide) rfl ?_
  rw [hh]
  refine b_isn (pc2 := 12) (al2 := [(3, _), (2, _), (0, _), (1, _)]) d_Se_answerAccess_11 (by decide) rfl rfl ?_
  refine b_aln (pc2 := 13) d_Se_answerAccess_12 rfl rfl ?_
  refine b_iln (pc2 := 14) d_Se_answerAccess_13 rfl rfl ?_
  refine b_cv1 (pc2 := 17) (c2 := 0) (u2 := 0) (se_hasHandle (by omega)) d_Se_answerAccess_14 q_8_122 (Nat.le_of_ble_eq_true rfl) rfl rfl (sh_86 n0) (Nat.le_of_ble_eq_true rfl) rfl rfl (by decide) (by decide) rfl ?_
  rw [if_pos ⟨by rw [i_lt (by omega) (by decide)]; omega, by rw [hc, i_lt (by omega) (by omega)]; omega⟩]
  refine b_ifd (pc2 := 22) d_Se_answerAccess_17 rfl rfl rfl rfl rfl (fun h17 => ?_) (fun h17 => ?_)
  rotate_left
  · exact absurd (show ¬ (1 : Int32) = 0 by decide) h17
  refine b_aln (pc2 := 23) d_Se_answerAccess_22 rfl rfl ?_
  refine b_gr (pc2 := 26) d_Se_answerAccess_23 q_8_13 (sh_86 n0) (by decide) (by decide) (p_86_0 n0) rfl ?_
  refine b_iln (pc2 := 27) d_Se_answerAccess_26 rfl rfl ?_
  refine b_ic (pc2 := 28) (x := Int32.ofNat 1) d_Se_answerAccess_27 rfl rfl ?_
  refine b_pure (pc2 := 29) d_Se_answerAccess_28 rfl rfl rfl ?_
  rw [i_sub (by omega), show i + 1 - 1 = i by omega]
  refine b_aa (pc2 := 30) (q := i) d_Se_answerAccess_29 (sh_87 n0) (Or.inr rfl) (i_in hi (by decide)) (i_tn (by omega)) (at_P n0 hi) rfl ?_
  refine b_as (pc2 := 32) (al2 := [(4, _), (3, _), (2, _), (0, _), (1, _)]) d_Se_answerAccess_30 (by decide) rfl rfl ?_
  refine b_iln (pc2 := 33) d_Se_answerAccess_32 rfl rfl ?_
  refine b_bp (pc2 := 35) (x := Int32.ofNat 10) d_Se_answerAccess_33 rfl rfl ?_
  refine b_ifd (pc2 := 44) d_Se_answerAccess_35 rfl rfl rfl rfl rfl (fun h35 => ?_) (fun h35 => ?_)
  · exact absurd h35 (by decide)
  refine b_iln (pc2 := 39) d_Se_answerAccess_38 rfl rfl ?_
  refine b_bp (pc2 := 41) (x := Int32.ofNat 12) d_Se_answerAccess_39 rfl rfl ?_
  refine b_ifd (pc2 := 72) d_Se_answerAccess_41 rfl rfl rfl rfl rfl (fun h41 => ?_) (fun h41 => ?_)
  rotate_left
  · exact absurd (by decide) h41
  refine b_al (pc2 := 74) d_Se_answerAccess_72 rfl rfl ?_
  refine b_cv1 (pc2 := 77) (c2 := 0) (u2 := 0) (at_isWritable (by omega) hi) d_Se_answerAccess_74 q_8_133 (Nat.le_of_ble_eq_true rfl) rfl rfl (at_H n0 hi) (Nat.le_of_ble_eq_true rfl) rfl rfl (by decide) (by decide) rfl ?_
  rw [if_neg hr]
  refine b_ifd (pc2 := 82) d_Se_answerAccess_77 rfl rfl rfl rfl rfl (fun h77 => ?_) (fun h77 => ?_)
  rotate_left
  · exact absurd (show ¬ (1 : Int32) = 0 by decide) h77
  refine b_iln (pc2 := 83) d_Se_answerAccess_82 rfl rfl ?_
  refine b_bp (pc2 := 85) (x := Int32.ofNat 18) d_Se_answerAccess_83 rfl rfl ?_
  refine b_ifd (pc2 := 101) d_Se_answerAccess_85 rfl rfl rfl rfl rfl (fun h85 => ?_) (fun h85 => ?_)
  rotate_left
  · exact absurd (by decide) h85
  refine b_aln (pc2 := 102) d_Se_answerAccess_101 rfl rfl ?_
  refine b_aln (pc2 := 103) d_Se_answerAccess_102 rfl rfl ?_
  refine b_cv1 (pc2 := 106) (c2 := 0) (u2 := 0) (hR e (by omega)) d_Se_answerAccess_103 q_8_140 (Nat.le_of_ble_eq_true rfl) rfl rfl (sh_86 n0) (Nat.le_of_ble_eq_true rfl) rfl rfl (by decide) (by decide) rfl ?_
  refine b_ir d_Se_answerAccess_106 rfl ?_
  exact ⟨rfl, rfl, rfl, rfl, rfl⟩
theorem se_to_2 {d : Nat} (hd : 4 ≤ d) (hop : (W 57).getD 0 0 = Int32.ofNat 2) {b1 : Nat} (hb : (W 57).getD 1 0 = Int32.ofNat b1) (hb2 : b1 < 256) (ha : W 128 = []) : bm d (S0 n0) R0 79 [.ref 86, .ref 57] W J g L (bR (some (.int (Int32.ofNat 0))) (am_u1 W 128 [Int32.ofNat 3, Int32.ofNat 20]) (am_u2 J 86 6 (Int32.ofNat (max 8 (min 20 b1)))) g L) := by
  obtain ⟨e, rfl⟩ : ∃ e, d = e + 1 := ⟨d - 1, by omega⟩
  refine bm_of (Nat.le_of_ble_eq_true rfl) (Or.inr bR_ret) ?_
  show bT e (S0 n0) R0 mt_Se_answerTo _ 0 [(0, .ref 86), (1, .ref 57)] [] W J g L 0 0
  have hSR := SR0 n0
  refine b_aln (pc2 := 1) d_Se_answerTo_0 rfl rfl ?_
  refine b_ic (pc2 := 2) (x := Int32.ofNat 0) d_Se_answerTo_1 rfl rfl ?_
  refine b_cv1 (pc2 := 5) (c2 := 0) (u2 := 0) (rw_at (k := 0) (by omega) hSR R_57 (by decide)) d_Se_answerTo_2 q_8_84 (Nat.le_of_ble_eq_true rfl) rfl rfl (sh_57 n0) (Nat.le_of_ble_eq_true rfl) rfl rfl (by decide) (by decide) rfl ?_
  rw [hop]
  refine b_sw (pc2 := 40) (off := 35) d_Se_answerTo_5 rfl rfl rfl (rfl) rfl ?_
  refine b_aln (pc2 := 41) d_Se_answerTo_40 rfl rfl ?_
  refine b_gr (pc2 := 44) d_Se_answerTo_41 q_8_38 (sh_86 n0) (by decide) (by decide) (p_86_5 n0) rfl ?_
  refine b_ic (pc2 := 45) (x := Int32.ofNat 3) d_Se_answerTo_44 rfl rfl ?_
  refine b_cv0 (pc2 := 48) (c2 := 0) (u2 := 0) (rw_add (by omega) hSR R_128 (by rw [ha]; decide)) d_Se_answerTo_45 q_8_63 (Nat.le_of_ble_eq_true rfl) rfl rfl (sh_128 n0) (Nat.le_of_ble_eq_true rfl) rfl rfl (by decide) (by decide) rfl ?_
  rw [ha, List.nil_append, b255 (n := 3) (by decide)]
  refine b_aln (pc2 := 49) d_Se_answerTo_48 rfl rfl ?_
  refine b_gr (pc2 := 52) d_Se_answerTo_49 q_8_38 (sh_86 n0) (by decide) (by decide) (p_86_5 n0) rfl ?_
  refine b_bp (pc2 := 54) (x := Int32.ofNat 20) d_Se_answerTo_52 rfl rfl ?_
  refine b_cv0 (pc2 := 57) (c2 := 0) (u2 := 0) (rw_add (by omega) hSR R_128 (by simp only [u1_at, List.length_append, List.length_cons, List.length_nil]; omega)) d_Se_answerTo_54 q_8_63 (Nat.le_of_ble_eq_true rfl) rfl rfl (sh_128 n0) (Nat.le_of_ble_eq_true rfl) rfl rfl (by decide) (by decide) rfl ?_
  rw [u1_u1, u1_at, b255 (n := 20) (by decide)]
  refine b_aln (pc2 := 58) d_Se_answerTo_57 rfl rfl ?_
  refine b_aln (pc2 := 59) d_Se_answerTo_58 rfl rfl ?_
  refine b_ic (pc2 := 60) (x := Int32.ofNat 1) d_Se_answerTo_59 rfl rfl ?_
  refine b_cv1 (pc2 := 63) (c2 := 0) (u2 := 0) (rw_at (k := 1) (by omega) hSR R_57 (by decide)) d_Se_answerTo_60 q_8_84 (Nat.le_of_ble_eq_true rfl) rfl rfl (sh_57 n0) (Nat.le_of_ble_eq_true rfl) rfl rfl (by decide) (by decide) rfl ?_
  rw [u1_ne _ _ (by decide), hb]
  refine b_cs1 (pc2 := 66) (c2 := 0) (u2 := 0) (al_bounded (by omega) (by omega)) d_Se_answerTo_63 q_8_99 (Or.inr rfl) (Nat.le_of_ble_eq_true rfl) rfl rfl (Nat.le_of_ble_eq_true rfl) rfl rfl (by decide) (by decide) rfl ?_
  refine b_pi (pc2 := 69) d_Se_answerTo_66 q_8_42 (sh_86 n0) (by decide) (Or.inl (by decide)) (Or.inl rfl) (rc_86) rfl ?_
  refine b_ic (pc2 := 70) (x := Int32.ofNat 0) d_Se_answerTo_69 rfl rfl ?_
  refine b_ir d_Se_answerTo_70 rfl ?_
  exact ⟨rfl, rfl, rfl, rfl, rfl⟩
theorem se_to_16 {d : Nat} (hd : 4 ≤ d) (hop : (W 57).getD 0 0 = Int32.ofNat 16) {c : Int32} (hR : ∀ e, 3 ≤ e → bm e (S0 n0) R0 81 [.ref 86, .int ((W 57).getD 1 0), .int ((W 57).getD 2 0)] W J g L (bR (some (.int c)) W1 J1 g L)) : bm d (S0 n0) R0 79 [.ref 86, .ref 57] W J g L (bR (some (.int c)) W1 J1 g L) := by
  obtain ⟨e, rfl⟩ : ∃ e, d = e + 1 := ⟨d - 1, by omega⟩
  refine bm_of (Nat.le_of_ble_eq_true rfl) (Or.inr bR_ret) ?_
  show bT e (S0 n0) R0 mt_Se_answerTo _ 0 [(0, .ref 86), (1, .ref 57)] [] W J g L 0 0
  have hSR := SR0 n0
  refine b_aln (pc2 := 1) d_Se_answerTo_0 rfl rfl ?_
  refine b_ic (pc2 := 2) (x := Int32.ofNat 0) d_Se_answerTo_1 rfl rfl ?_
  refine b_cv1 (pc2 := 5) (c2 := 0) (u2 := 0) (rw_at (k := 0) (by omega) hSR R_57 (by decide)) d_Se_answerTo_2 q_8_84 (Nat.le_of_ble_eq_true rfl) rfl rfl (sh_57 n0) (Nat.le_of_ble_eq_true rfl) rfl rfl (by decide) (by decide) rfl ?_
  rw [hop]
  refine b_sw (pc2 := 71) (off := 66) d_Se_answerTo_5 rfl rfl rfl (rfl) rfl ?_
  refine b_aln (pc2 := 72) d_Se_answerTo_71 rfl rfl ?_
  refine b_aln (pc2 := 73) d_Se_answerTo_72 rfl rfl ?_
  refine b_ic (pc2 := 74) (x := Int32.ofNat 1) d_Se_answerTo_73 rfl rfl ?_
  refine b_cv1 (pc2 := 77) (c2 := 0) (u2 := 0) (rw_at (k := 1) (by omega) hSR R_57 (by decide)) d_Se_answerTo_74 q_8_84 (Nat.le_of_ble_eq_true rfl) rfl rfl (sh_57 n0) (Nat.le_of_ble_eq_true rfl) rfl rfl (by decide) (by decide) rfl ?_
  refine b_aln (pc2 := 78) d_Se_answerTo_77 rfl rfl ?_
  refine b_ic (pc2 := 79) (x := Int32.ofNat 2) d_Se_answerTo_78 rfl rfl ?_
  refine b_cv1 (pc2 := 82) (c2 := 0) (u2 := 0) (rw_at (k := 2) (by omega) hSR R_57 (by decide)) d_Se_answerTo_79 q_8_84 (Nat.le_of_ble_eq_true rfl) rfl rfl (sh_57 n0) (Nat.le_of_ble_eq_true rfl) rfl rfl (by decide) (by decide) rfl ?_
  refine b_cv1 (pc2 := 85) (c2 := 0) (u2 := 0) (hR e (by omega)) d_Se_answerTo_82 q_8_102 (Nat.le_of_ble_eq_true rfl) rfl rfl (sh_86 n0) (Nat.le_of_ble_eq_true rfl) rfl rfl (by decide) (by decide) rfl ?_
  refine b_ir d_Se_answerTo_85 rfl ?_
  exact ⟨rfl, rfl, rfl, rfl, rfl⟩
theorem se_to_24_0 {d : Nat} (hd : 4 ≤ d) (hop : (W 57).getD 0 0 = Int32.ofNat 24) (hb : (W 57).getD 1 0 = Int32.ofNat 0) {c : Int32} (hR : ∀ e, 3 ≤ e → bm e (S0 n0) R0 83 [.ref 86, .int (Int32.ofNat 0)] W J g L (bR (some (.int c)) W1 J1 g L)) : bm d (S0 n0) R0 79 [.ref 86, .ref 57] W J g L (bR (some (.int c)) W1 J1 g L) := by
  obtain ⟨e, rfl⟩ : ∃ e, d = e + 1 := ⟨d - 1, by omega⟩
  refine bm_of (Nat.le_of_ble_eq_true rfl) (Or.inr bR_ret) ?_
  show bT e (S0 n0) R0 mt_Se_answerTo _ 0 [(0, .ref 86), (1, .ref 57)] [] W J g L 0 0
  have hSR := SR0 n0
  refine b_aln (pc2 := 1) d_Se_answerTo_0 rfl rfl ?_
  refine b_ic (pc2 := 2) (x := Int32.ofNat 0) d_Se_answerTo_1 rfl rfl ?_
  refine b_cv1 (pc2 := 5) (c2 := 0) (u2 := 0) (rw_at (k := 0) (by omega) hSR R_57 (by decide)) d_Se_answerTo_2 q_8_84 (Nat.le_of_ble_eq_true rfl) rfl rfl (sh_57 n0) (Nat.le_of_ble_eq_true rfl) rfl rfl (by decide) (by decide) rfl ?_
  rw [hop]
  refine b_sw (pc2 := 86) (off := 81) d_Se_answerTo_5 rfl rfl rfl (rfl) rfl ?_
  refine b_aln (pc2 := 87) d_Se_answerTo_86 rfl rfl ?_
  refine b_aln (pc2 := 88) d_Se_answerTo_87 rfl rfl ?_
  refine b_ic (pc2 := 89) (x := Int32.ofNat 1) d_Se_answerTo_88 rfl rfl ?_
  refine b_cv1 (pc2 := 92) (c2 := 0) (u2 := 0) (rw_at (k := 1) (by omega) hSR R_57 (by decide)) d_Se_answerTo_89 q_8_84 (Nat.le_of_ble_eq_true rfl) rfl rfl (sh_57 n0) (Nat.le_of_ble_eq_true rfl) rfl rfl (by decide) (by decide) rfl ?_
  rw [hb]
  refine b_ic (pc2 := 93) (x := Int32.ofNat 1) d_Se_answerTo_92 rfl rfl ?_
  refine b_ifd (pc2 := 100) d_Se_answerTo_93 rfl rfl rfl rfl rfl (fun h93 => ?_) (fun h93 => ?_)
  rotate_left
  · exact absurd (by decide) h93
  refine b_ic (pc2 := 101) (x := Int32.ofNat 0) d_Se_answerTo_100 rfl rfl ?_
  refine b_cv1 (pc2 := 104) (c2 := 0) (u2 := 0) (hR e (by omega)) d_Se_answerTo_101 q_8_106 (Nat.le_of_ble_eq_true rfl) rfl rfl (sh_86 n0) (Nat.le_of_ble_eq_true rfl) rfl rfl (by decide) (by decide) rfl ?_
  refine b_ir d_Se_answerTo_104 rfl ?_
  exact ⟨rfl, rfl, rfl, rfl, rfl⟩
theorem se_to_24_1 {d : Nat} (hd : 4 ≤ d) (hop : (W 57).getD 0 0 = Int32.ofNat 24) (hb : (W 57).getD 1 0 = Int32.ofNat 1) {c : Int32} (hR : ∀ e, 3 ≤ e → bm e (S0 n0) R0 83 [.ref 86, .int (Int32.ofNat 1)] W J g L (bR (some (.int c)) W1 J1 g L)) : bm d (S0 n0) R0 79 [.ref 86, .ref 57] W J g L (bR (some (.int c)) W1 J1 g L) := by
  obtain ⟨e, rfl⟩ : ∃ e, d = e + 1 := ⟨d - 1, by omega⟩
  refine bm_of (Nat.le_of_ble_eq_true rfl) (Or.inr bR_ret) ?_
  show bT e (S0 n0) R0 mt_Se_answerTo _ 0 [(0, .ref 86), (1, .ref 57)] [] W J g L 0 0
  have hSR := SR0 n0
  refine b_aln (pc2 := 1) d_Se_answerTo_0 rfl rfl ?_
  refine b_ic (pc2 := 2) (x := Int32.ofNat 0) d_Se_answerTo_1 rfl rfl ?_
  refine b_cv1 (pc2 := 5) (c2 := 0) (u2 := 0) (rw_at (k := 0) (by omega) hSR R_57 (by decide)) d_Se_answerTo_2 q_8_84 (Nat.le_of_ble_eq_true rfl) rfl rfl (sh_57 n0) (Nat.le_of_ble_eq_true rfl) rfl rfl (by decide) (by decide) rfl ?_
  rw [hop]
  refine b_sw (pc2 := 86) (off := 81) d_Se_answerTo_5 rfl rfl rfl (rfl) rfl ?_
  refine b_aln (pc2 := 87) d_Se_answerTo_86 rfl rfl ?_
  refine b_aln (pc2 := 88) d_Se_answerTo_87 rfl rfl ?_
  refine b_ic (pc2 := 89) (x := Int32.ofNat 1) d_Se_answerTo_88 rfl rfl ?_
  refine b_cv1 (pc2 := 92) (c2 := 0) (u2 := 0) (rw_at (k := 1) (by omega) hSR R_57 (by decide)) d_Se_answerTo_89 q_8_84 (Nat.le_of_ble_eq_true rfl) rfl rfl (sh_57 n0) (Nat.le_of_ble_eq_true rfl) rfl rfl (by decide) (by decide) rfl ?_
  rw [hb]
  refine b_ic (pc2 := 93) (x := Int32.ofNat 1) d_Se_answerTo_92 rfl rfl ?_
  refine b_ifd (pc2 := 100) d_Se_answerTo_93 rfl rfl rfl rfl rfl (fun h93 => ?_) (fun h93 => ?_)
  · exact absurd h93 (by decide)
  refine b_ic (pc2 := 97) (x := Int32.ofNat 1) d_Se_answerTo_96 rfl rfl ?_
  refine b_go (pc2 := 101) d_Se_answerTo_97 rfl ?_
  refine b_cv1 (pc2 := 104) (c2 := 0) (u2 := 0) (hR e (by omega)) d_Se_answerTo_101 q_8_106 (Nat.le_of_ble_eq_true rfl) rfl rfl (sh_86 n0) (Nat.le_of_ble_eq_true rfl) rfl rfl (by decide) (by decide) rfl ?_
  refine b_ir d_Se_answerTo_104 rfl ?_
  exact ⟨rfl, rfl, rfl, rfl, rfl⟩
theorem se_to_10 {d : Nat} (hd : 4 ≤ d) (hop : (W 57).getD 0 0 = Int32.ofNat 10) {c : Int32} (hR : ∀ e, 3 ≤ e → bm e (S0 n0) R0 86 [.ref 86, .ref 57] W J g L (bR (some (.int c)) W1 J1 g L)) : bm d (S0 n0) R0 79 [.ref 86, .ref 57] W J g L (bR (some (.int c)) W1 J1 g L) := by
  obtain ⟨e, rfl⟩ : ∃ e, d = e + 1 := ⟨d - 1, by omega⟩
  refine bm_of (Nat.le_of_ble_eq_true rfl) (Or.inr bR_ret) ?_
  show bT e (S0 n0) R0 mt_Se_answerTo _ 0 [(0, .ref 86), (1, .ref 57)] [] W J g L 0 0
  have hSR := SR0 n0
  refine b_aln (pc2 := 1) d_Se_answerTo_0 rfl rfl ?_
  refine b_ic (pc2 := 2) (x := Int32.ofNat 0) d_Se_answerTo_1 rfl rfl ?_
  refine b_cv1 (pc2 := 5) (c2 := 0) (u2 := 0) (rw_at (k := 0) (by omega) hSR R_57 (by decide)) d_Se_answerTo_2 q_8_84 (Nat.le_of_ble_eq_true rfl) rfl rfl (sh_57 n0) (Nat.le_of_ble_eq_true rfl) rfl rfl (by decide) (by decide) rfl ?_
  rw [hop]
  refine b_sw (pc2 := 105) (off := 100) d_Se_answerTo_5 rfl rfl rfl (rfl) rfl ?_
  refine b_aln (pc2 := 106) d_Se_answerTo_105 rfl rfl ?_
  refine b_aln (pc2 := 107) d_Se_answerTo_106 rfl rfl ?_
  refine b_cv1 (pc2 := 110) (c2 := 0) (u2 := 0) (hR e (by omega)) d_Se_answerTo_107 q_8_110 (Nat.le_of_ble_eq_true rfl) rfl rfl (sh_86 n0) (Nat.le_of_ble_eq_true rfl) rfl rfl (by decide) (by decide) rfl ?_
  refine b_ir d_Se_answerTo_110 rfl ?_
  exact ⟨rfl, rfl, rfl, rfl, rfl⟩
theorem se_to_12 {d : Nat} (hd : 4 ≤ d) (hop : (W 57).getD 0 0 = Int32.ofNat 12) {c : Int32} (hR : ∀ e, 3 ≤ e → bm e (S0 n0) R0 86 [.ref 86, .ref 57] W J g L (bR (some (.int c)) W1 J1 g L)) : bm d (S0 n0) R0 79 [.ref 86, .ref 57] W J g L (bR (some (.int c)) W1 J1 g L) := by
  obtain ⟨e, rfl⟩ : ∃ e, d = e + 1 := ⟨d - 1, by omega⟩
  refine bm_of (Nat.le_of_ble_eq_true rfl) (Or.inr bR_ret) ?_
  show bT e (S0 n0) R0 mt_Se_answerTo _ 0 [(0, .ref 86), (1, .ref 57)] [] W J g L 0 0
  have hSR := SR0 n0
  refine b_aln (pc2 := 1) d_Se_answerTo_0 rfl rfl ?_
  refine b_ic (pc2 := 2) (x := Int32.ofNat 0) d_Se_answerTo_1 rfl rfl ?_
  refine b_cv1 (pc2 := 5) (c2 := 0) (u2 := 0) (rw_at (k := 0) (by omega) hSR R_57 (by decide)) d_Se_answerTo_2 q_8_84 (Nat.le_of_ble_eq_true rfl) rfl rfl (sh_57 n0) (Nat.le_of_ble_eq_true rfl) rfl rfl (by decide) (by decide) rfl ?_
  rw [hop]
  refine b_sw (pc2 := 105) (off := 100) d_Se_answerTo_5 rfl rfl rfl (rfl) rfl ?_
  refine b_aln (pc2 := 106) d_Se_answerTo_105 rfl rfl ?_
  refine b_aln (pc2 := 107) d_Se_answerTo_106 rfl rfl ?_
  refine b_cv1 (pc2 := 110) (c2 := 0) (u2 := 0) (hR e (by omega)) d_Se_answerTo_107 q_8_110 (Nat.le_of_ble_eq_true rfl) rfl rfl (sh_86 n0) (Nat.le_of_ble_eq_true rfl) rfl rfl (by decide) (by decide) rfl ?_
  refine b_ir d_Se_answerTo_110 rfl ?_
  exact ⟨rfl, rfl, rfl, rfl, rfl⟩
theorem se_to_18 {d : Nat} (hd : 4 ≤ d) (hop : (W 57).getD 0 0 = Int32.ofNat 18) {c : Int32} (hR : ∀ e, 3 ≤ e → bm e (S0 n0) R0 86 [.ref 86, .ref 57] W J g L (bR (some (.int c)) W1 J1 g L)) : bm d (S0 n0) R0 79 [.ref 86, .ref 57] W J g L (bR (some (.int c)) W1 J1 g L) := by
  obtain ⟨e, rfl⟩ : ∃ e, d = e + 1 := ⟨d - 1, by omega⟩
  refine bm_of (Nat.le_of_ble_eq_true rfl) (Or.inr bR_ret) ?_
  show bT e (S0 n0) R0 mt_Se_answerTo _ 0 [(0, .ref 86), (1, .ref 57)] [] W J g L 0 0
  have hSR := SR0 n0
  refine b_aln (pc2 := 1) d_Se_answerTo_0 rfl rfl ?_
  refine b_ic (pc2 := 2) (x := Int32.ofNat 0) d_Se_answerTo_1 rfl rfl ?_
  refine b_cv1 (pc2 := 5) (c2 := 0) (u2 := 0) (rw_at (k := 0) (by omega) hSR R_57 (by decide)) d_Se_answerTo_2 q_8_84 (Nat.le_of_ble_eq_true rfl) rfl rfl (sh_57 n0) (Nat.le_of_ble_eq_true rfl) rfl rfl (by decide) (by decide) rfl ?_
  rw [hop]
  refine b_sw (pc2 := 105) (off := 100) d_Se_answerTo_5 rfl rfl rfl (rfl) rfl ?_
  refine b_aln (pc2 := 106) d_Se_answerTo_105 rfl rfl ?_
  refine b_aln (pc2 := 107) d_Se_answerTo_106 rfl rfl ?_
  refine b_cv1 (pc2 := 110) (c2 := 0) (u2 := 0) (hR e (by omega)) d_Se_answerTo_107 q_8_110 (Nat.le_of_ble_eq_true rfl) rfl rfl (sh_86 n0) (Nat.le_of_ble_eq_true rfl) rfl rfl (by decide) (by decide) rfl ?_
  refine b_ir d_Se_answerTo_110 rfl ?_
  exact ⟨rfl, rfl, rfl, rfl, rfl⟩
theorem se_to_22 {d : Nat} (hd : 4 ≤ d) (hop : (W 57).getD 0 0 = Int32.ofNat 22) {c : Int32} (hR : ∀ e, 3 ≤ e → bm e (S0 n0) R0 86 [.ref 86, .ref 57] W J g L (bR (some (.int c)) W1 J1 g L)) : bm d (S0 n0) R0 79 [.ref 86, .ref 57] W J g L (bR (some (.int c)) W1 J1 g L) := by
  obtain ⟨e, rfl⟩ : ∃ e, d = e + 1 := ⟨d - 1, by omega⟩
  refine bm_of (Nat.le_of_ble_eq_true rfl) (Or.inr bR_ret) ?_
  show bT e (S0 n0) R0 mt_Se_answerTo _ 0 [(0, .ref 86), (1, .ref 57)] [] W J g L 0 0
  have hSR := SR0 n0
  refine b_aln (pc2 := 1) d_Se_answerTo_0 rfl rfl ?_
  refine b_ic (pc2 := 2) (x := Int32.ofNat 0) d_Se_answerTo_1 rfl rfl ?_
  refine b_cv1 (pc2 := 5) (c2 := 0) (u2 := 0) (rw_at (k := 0) (by omega) hSR R_57 (by decide)) d_Se_answerTo_2 q_8_84 (Nat.le_of_ble_eq_true rfl) rfl rfl (sh_57 n0) (Nat.le_of_ble_eq_true rfl) rfl rfl (by decide) (by decide) rfl ?_
  rw [hop]
  refine b_sw (pc2 := 105) (off := 100) d_Se_answerTo_5 rfl rfl rfl (rfl) rfl ?_
  refine b_aln (pc2 := 106) d_Se_answerTo_105 rfl rfl ?_
  refine b_aln (pc2 := 107) d_Se_answerTo_106 rfl rfl ?_
  refine b_cv1 (pc2 := 110) (c2 := 0) (u2 := 0) (hR e (by omega)) d_Se_answerTo_107 q_8_110 (Nat.le_of_ble_eq_true rfl) rfl rfl (sh_86 n0) (Nat.le_of_ble_eq_true rfl) rfl rfl (by decide) (by decide) rfl ?_
  refine b_ir d_Se_answerTo_110 rfl ?_
  exact ⟨rfl, rfl, rfl, rfl, rfl⟩
theorem se_serve_e {d : Nat} (hd : 5 ≤ d) (he0 : W 57 = []) : bm d (S0 n0) R0 77 [.ref 86, .ref 57, .ref 38] W J g L (bR none W J g L) := by
  obtain ⟨e, rfl⟩ : ∃ e, d = e + 1 := ⟨d - 1, by omega⟩
  refine bm_of (Nat.le_of_ble_eq_true rfl) (Or.inr bR_ret) ?_
  show bT e (S0 n0) R0 mt_Se_serve _ 0 [(0, .ref 86), (1, .ref 57), (2, .ref 38)] [] W J g L 0 0
  have hSR := SR0 n0
  refine b_free fun hlen => ?_
  have hl := hlen 57 20 R_57
  refine b_aln (pc2 := 1) d_Se_serve_0 rfl rfl ?_
  refine b_cv1 (pc2 := 4) (c2 := 0) (u2 := 0) (rw_length (by omega) hSR R_57) d_Se_serve_1 q_8_80 (Nat.le_of_ble_eq_true rfl) rfl rfl (sh_57 n0) (Nat.le_of_ble_eq_true rfl) rfl rfl (by decide) (by decide) rfl ?_
  refine b_ifd (pc2 := 8) d_Se_serve_4 rfl rfl rfl rfl rfl (fun h4 => ?_) (fun h4 => ?_)
  · exact absurd h4 (fun z => z (by rw [he0]; rfl))
  refine b_vr d_Se_serve_7 rfl ?_
  exact ⟨rfl, rfl, rfl, rfl, rfl⟩
theorem se_serve_c {d : Nat} (hd : 5 ≤ d) (hne : 0 < (W 57).length) (hop : (W 57).getD 0 0 = Int32.ofNat 30) : bm d (S0 n0) R0 77 [.ref 86, .ref 57, .ref 38] W J g L (bR none W (am_u2 J 86 7 (if ¬ J 86 7 = 0 ∧ 1 < (W 57).length then 1 else 0)) g L) := by
  obtain ⟨e, rfl⟩ : ∃ e, d = e + 1 := ⟨d - 1, by omega⟩
  refine bm_of (Nat.le_of_ble_eq_true rfl) (Or.inr bR_ret) ?_
  show bT e (S0 n0) R0 mt_Se_serve _ 0 [(0, .ref 86), (1, .ref 57), (2, .ref 38)] [] W J g L 0 0
  have hSR := SR0 n0
  refine b_free fun hlen => ?_
  have hl := hlen 57 20 R_57
  refine b_aln (pc2 := 1) d_Se_serve_0 rfl rfl ?_
  refine b_cv1 (pc2 := 4) (c2 := 0) (u2 := 0) (rw_length (by omega) hSR R_57) d_Se_serve_1 q_8_80 (Nat.le_of_ble_eq_true rfl) rfl rfl (sh_57 n0) (Nat.le_of_ble_eq_true rfl) rfl rfl (by decide) (by decide) rfl ?_
  refine b_ifd (pc2 := 8) d_Se_serve_4 rfl rfl rfl rfl rfl (fun h4 => ?_) (fun h4 => ?_)
  rotate_left
  · exact absurd (fun z => by rw [show (0 : Int32) = Int32.ofNat 0 from rfl, i_eq (by omega) (by decide)] at z; omega) h4
  refine b_aln (pc2 := 9) d_Se_serve_8 rfl rfl ?_
  refine b_ic (pc2 := 10) (x := Int32.ofNat 0) d_Se_serve_9 rfl rfl ?_
  refine b_cv1 (pc2 := 13) (c2 := 0) (u2 := 0) (rw_at (k := 0) (by omega) hSR R_57 (by decide)) d_Se_serve_10 q_8_84 (Nat.le_of_ble_eq_true rfl) rfl rfl (sh_57 n0) (Nat.le_of_ble_eq_true rfl) rfl rfl (by decide) (by decide) rfl ?_
  rw [hop]
  refine b_isn (pc2 := 14) (al2 := [(3, _), (0, _), (1, _), (2, _)]) d_Se_serve_13 (by decide) rfl rfl ?_
  refine b_iln (pc2 := 15) d_Se_serve_14 rfl rfl ?_
  refine b_bp (pc2 := 17) (x := Int32.ofNat 30) d_Se_serve_15 rfl rfl ?_
  refine b_ifd (pc2 := 45) d_Se_serve_17 rfl rfl rfl rfl rfl (fun h17 => ?_) (fun h17 => ?_)
  · exact absurd h17 (by decide)
  refine b_aln (pc2 := 21) d_Se_serve_20 rfl rfl ?_
  refine b_aln (pc2 := 22) d_Se_serve_21 rfl rfl ?_
  refine b_gi (pc2 := 25) d_Se_serve_22 q_8_45 (sh_86 n0) (by decide) (by decide) (rc_86) rfl ?_
  refine b_ifd (pc2 := 40) d_Se_serve_25 rfl rfl rfl rfl rfl (fun h25 => ?_) (fun h25 => ?_)
  · refine b_ic (pc2 := 41) (x := Int32.ofNat 0) d_Se_serve_40 rfl rfl ?_
    refine b_pi (pc2 := 44) d_Se_serve_41 q_8_45 (sh_86 n0) (by decide) (Or.inl (by decide)) (Or.inr ⟨rfl, by decide⟩) (rc_86) rfl ?_
    refine b_vr d_Se_serve_44 rfl ?_
    exact ⟨rfl, rfl, by rw [if_neg (fun z => z.1 h25)]; rfl, rfl, rfl⟩
  · refine b_aln (pc2 := 29) d_Se_serve_28 rfl rfl ?_
    refine b_cv1 (pc2 := 32) (c2 := 0) (u2 := 0) (rw_length (by omega) hSR R_57) d_Se_serve_29 q_8_80 (Nat.le_of_ble_eq_true rfl) rfl rfl (sh_57 n0) (Nat.le_of_ble_eq_true rfl) rfl rfl (by decide) (by decide) rfl ?_
    refine b_ic (pc2 := 33) (x := Int32.ofNat 1) d_Se_serve_32 rfl rfl ?_
    refine b_ifd (pc2 := 40) d_Se_serve_33 rfl rfl rfl rfl rfl (fun h33 => ?_) (fun h33 => ?_)
    · refine b_ic (pc2 := 41) (x := Int32.ofNat 0) d_Se_serve_40 rfl rfl ?_
      refine b_pi (pc2 := 44) d_Se_serve_41 q_8_45 (sh_86 n0) (by decide) (Or.inl (by decide)) (Or.inr ⟨rfl, by decide⟩) (rc_86) rfl ?_
      refine b_vr d_Se_serve_44 rfl ?_
      rw [i_le (by omega) (by decide)] at h33
      exact ⟨rfl, rfl, by rw [if_neg (fun z => by omega)]; rfl, rfl, rfl⟩
    · refine b_ic (pc2 := 37) (x := Int32.ofNat 1) d_Se_serve_36 rfl rfl ?_
      refine b_go (pc2 := 41) d_Se_serve_37 rfl ?_
      refine b_pi (pc2 := 44) d_Se_serve_41 q_8_45 (sh_86 n0) (by decide) (Or.inl (by decide)) (Or.inr ⟨rfl, by decide⟩) (rc_86) rfl ?_
      refine b_vr d_Se_serve_44 rfl ?_
      rw [i_le (by omega) (by decide)] at h33
      exact ⟨rfl, rfl, by rw [if_pos ⟨h25, by omega⟩]; rfl, rfl, rfl⟩
theorem se_serve_x {d : Nat} (hd : 5 ≤ d) {op : Nat} (hne : 0 < (W 57).length) (hop : (W 57).getD 0 0 = Int32.ofNat op) (ho2 : op < 256) (ho30 : ¬ op = 30) {c : Nat} (hc : 0 < c) (hc2 : c < 256) (hS : ∀ e, 2 ≤ e → bm e (S0 n0) R0 78 [.ref 57] (am_u1 W 128 []) J g L (bR (some (.int (Int32.ofNat c))) (am_u1 W 128 []) J g L)) (hG : ∀ e, 2 ≤ e → bm e (S0 n0) R0 44 [.ref 38, .ref 128] (am_u1 W 128 [Int32.ofNat 1, Int32.ofNat op, Int32.ofNat 0, Int32.ofNat c]) J g L (bR none W2 J2 g L)) : bm d (S0 n0) R0 77 [.ref 86, .ref 57, .ref 38] W J g L (bR none W2 J2 g L) := by
  obtain ⟨e, rfl⟩ : ∃ e, d = e + 1 := ⟨d - 1, by omega⟩
  refine bm_of (Nat.le_of_ble_eq_true rfl) (Or.inr bR_ret) ?_
  show bT e (S0 n0) R0 mt_Se_serve _ 0 [(0, .ref 86), (1, .ref 57), (2, .ref 38)] [] W J g L 0 0
  have hSR := SR0 n0
  refine b_free fun hlen => ?_
  have hl := hlen 57 20 R_57
  refine b_aln (pc2 := 1) d_Se_serve_0 rfl rfl ?_
  refine b_cv1 (pc2 := 4) (c2 := 0) (u2 := 0) (rw_length (by omega) hSR R_57) d_Se_serve_1 q_8_80 (Nat.le_of_ble_eq_true rfl) rfl rfl (sh_57 n0) (Nat.le_of_ble_eq_true rfl) rfl rfl (by decide) (by decide) rfl ?_
  refine b_ifd (pc2 := 8) d_Se_serve_4 rfl rfl rfl rfl rfl (fun h4 => ?_) (fun h4 => ?_)
  rotate_left
  · exact absurd (fun z => by rw [show (0 : Int32) = Int32.ofNat 0 from rfl, i_eq (by omega) (by decide)] at z; omega) h4
  refine b_aln (pc2 := 9) d_Se_serve_8 rfl rfl ?_
  refine b_ic (pc2 := 10) (x := Int32.ofNat 0) d_Se_serve_9 rfl rfl ?_
  refine b_cv1 (pc2 := 13) (c2 := 0) (u2 := 0) (rw_at (k := 0) (by omega) hSR R_57 (by decide)) d_Se_serve_10 q_8_84 (Nat.le_of_ble_eq_true rfl) rfl rfl (sh_57 n0) (Nat.le_of_ble_eq_true rfl) rfl rfl (by decide) (by decide) rfl ?_
  rw [hop]
  refine b_isn (pc2 := 14) (al2 := [(3, _), (0, _), (1, _), (2, _)]) d_Se_serve_13 (by decide) rfl rfl ?_
  refine b_iln (pc2 := 15) d_Se_serve_14 rfl rfl ?_
  refine b_bp (pc2 := 17) (x := Int32.ofNat 30) d_Se_serve_15 rfl rfl ?_
  refine b_ifd (pc2 := 45) d_Se_serve_17 rfl rfl rfl rfl rfl (fun h17 => ?_) (fun h17 => ?_)
  rotate_left
  · exact absurd (fun z => ho30 ((i_eq (by omega) (by decide)).mp z)) h17
  refine b_aln (pc2 := 46) d_Se_serve_45 rfl rfl ?_
  refine b_gr (pc2 := 49) d_Se_serve_46 q_8_38 (sh_86 n0) (by decide) (by decide) (p_86_5 n0) rfl ?_
  refine b_cv0 (pc2 := 52) (c2 := 0) (u2 := 0) (rw_clear (by omega) hSR R_128) d_Se_serve_49 q_8_60 (Nat.le_of_ble_eq_true rfl) rfl rfl (sh_128 n0) (Nat.le_of_ble_eq_true rfl) rfl rfl (by decide) (by decide) rfl ?_
  refine b_aln (pc2 := 53) d_Se_serve_52 rfl rfl ?_
  refine b_cs1 (pc2 := 56) (c2 := 0) (u2 := 0) (hS e (by omega)) d_Se_serve_53 q_8_88 (Or.inl rfl) (Nat.le_of_ble_eq_true rfl) rfl rfl (Nat.le_of_ble_eq_true rfl) rfl rfl (by decide) (by decide) rfl ?_
  refine b_is (pc2 := 58) (al2 := [(4, _), (3, _), (0, _), (1, _), (2, _)]) d_Se_serve_56 (by decide) rfl rfl ?_
  refine b_il (pc2 := 60) d_Se_serve_58 rfl rfl ?_
  refine b_ifd (pc2 := 78) d_Se_serve_60 rfl rfl rfl rfl rfl (fun h60 => ?_) (fun h60 => ?_)
  rotate_left
  · exact absurd (fun z => by rw [show (0 : Int32) = Int32.ofNat 0 from rfl, i_eq (by omega) (by decide)] at z; omega) h60
  refine b_ic (pc2 := 79) (x := Int32.ofNat 0) d_Se_serve_78 rfl rfl ?_
  refine b_is (pc2 := 81) (al2 := [(5, _), (4, _), (3, _), (0, _), (1, _), (2, _)]) d_Se_serve_79 (by decide) rfl rfl ?_
  refine b_il (pc2 := 83) d_Se_serve_81 rfl rfl ?_
  refine b_ifd (pc2 := 93) d_Se_serve_83 rfl rfl rfl rfl rfl (fun h83 => ?_) (fun h83 => ?_)
  rotate_left
  · exact absurd (fun z => by rw [show (0 : Int32) = Int32.ofNat 0 from rfl, i_eq (by omega) (by decide)] at z; omega) h83
  refine b_il (pc2 := 95) d_Se_serve_93 rfl rfl ?_
  refine b_ifd (pc2 := 119) d_Se_serve_95 rfl rfl rfl rfl rfl (fun h95 => ?_) (fun h95 => ?_)
  · exact absurd h95 (fun z => by rw [show (0 : Int32) = Int32.ofNat 0 from rfl, i_eq (by omega) (by decide)] at z; omega)
  refine b_aln (pc2 := 99) d_Se_serve_98 rfl rfl ?_
  refine b_iln (pc2 := 100) d_Se_serve_99 rfl rfl ?_
  refine b_il (pc2 := 102) d_Se_serve_100 rfl rfl ?_
  refine b_ifd (pc2 := 113) d_Se_serve_102 rfl rfl rfl rfl rfl (fun h102 => ?_) (fun h102 => ?_)
  rotate_left
  · exact absurd (by decide) h102
  refine b_ic (pc2 := 114) (x := Int32.ofNat 0) d_Se_serve_113 rfl rfl ?_
  refine b_il (pc2 := 116) d_Se_serve_114 rfl rfl ?_
  refine b_cv0 (pc2 := 119) (c2 := 0) (u2 := 0) (se_answerError (by omega) ho2 (by decide) hc2) d_Se_serve_116 q_8_95 (Nat.le_of_ble_eq_true rfl) rfl rfl (sh_86 n0) (Nat.le_of_ble_eq_true rfl) rfl rfl (by decide) (by decide) rfl ?_
  rw [u1_u1]
  refine b_aln (pc2 := 120) d_Se_serve_119 rfl rfl ?_
  refine b_aln (pc2 := 121) d_Se_serve_120 rfl rfl ?_
  refine b_gr (pc2 := 124) d_Se_serve_121 q_8_38 (sh_86 n0) (by decide) (by decide) (p_86_5 n0) rfl ?_
  refine b_cv0 (pc2 := 127) (c2 := 0) (u2 := 0) (hG e (by omega)) d_Se_serve_124 q_8_74 (Nat.le_of_ble_eq_true rfl) rfl rfl (sh_38 n0) (Nat.le_of_ble_eq_true rfl) rfl rfl (by decide) (by decide) rfl ?_
  refine b_vr d_Se_serve_127 rfl ?_
  exact ⟨rfl, rfl, rfl, rfl, rfl⟩
theorem se_serve_a {d : Nat} (hd : 5 ≤ d) {op : Nat} (hne : 0 < (W 57).length) (hop : (W 57).getD 0 0 = Int32.ofNat op) (ho2 : op < 256) (ho30 : ¬ op = 30) (hS : ∀ e, 2 ≤ e → bm e (S0 n0) R0 78 [.ref 57] (am_u1 W 128 []) J g L (bR (some (.int (Int32.ofNat 0))) (am_u1 W 128 []) J g L)) (hT : ∀ e, 4 ≤ e → bm e (S0 n0) R0 79 [.ref 86, .ref 57] (am_u1 W 128 []) J g L (bR (some (.int (Int32.ofNat 0))) W1 J1 g L)) (hG : ∀ e, 2 ≤ e → bm e (S0 n0) R0 44 [.ref 38, .ref 128] W1 J1 g L (bR none W2 J2 g L)) : bm d (S0 n0) R0 77 [.ref 86, .ref 57, .ref 38] W J g L (bR none W2 J2 g L) := by
  obtain ⟨e, rfl⟩ : ∃ e, d = e + 1 := ⟨d - 1, by omega⟩
  refine bm_of (Nat.le_of_ble_eq_true rfl) (Or.inr bR_ret) ?_
  show bT e (S0 n0) R0 mt_Se_serve _ 0 [(0, .ref 86), (1, .ref 57), (2, .ref 38)] [] W J g L 0 0
  have hSR := SR0 n0
  refine b_free fun hlen => ?_
  have hl := hlen 57 20 R_57
  refine b_aln (pc2 := 1) d_Se_serve_0 rfl rfl ?_
  refine b_cv1 (pc2 := 4) (c2 := 0) (u2 := 0) (rw_length (by omega) hSR R_57) d_Se_serve_1 q_8_80 (Nat.le_of_ble_eq_true rfl) rfl rfl (sh_57 n0) (Nat.le_of_ble_eq_true rfl) rfl rfl (by decide) (by decide) rfl ?_
  refine b_ifd (pc2 := 8) d_Se_serve_4 rfl rfl rfl rfl rfl (fun h4 => ?_) (fun h4 => ?_)
  rotate_left
  · exact absurd (fun z => by rw [show (0 : Int32) = Int32.ofNat 0 from rfl, i_eq (by omega) (by decide)] at z; omega) h4
  refine b_aln (pc2 := 9) d_Se_serve_8 rfl rfl ?_
  refine b_ic (pc2 := 10) (x := Int32.ofNat 0) d_Se_serve_9 rfl rfl ?_
  refine b_cv1 (pc2 := 13) (c2 := 0) (u2 := 0) (rw_at (k := 0) (by omega) hSR R_57 (by decide)) d_Se_serve_10 q_8_84 (Nat.le_of_ble_eq_true rfl) rfl rfl (sh_57 n0) (Nat.le_of_ble_eq_true rfl) rfl rfl (by decide) (by decide) rfl ?_
  rw [hop]
  refine b_isn (pc2 := 14) (al2 := [(3, _), (0, _), (1, _), (2, _)]) d_Se_serve_13 (by decide) rfl rfl ?_
  refine b_iln (pc2 := 15) d_Se_serve_14 rfl rfl ?_
  refine b_bp (pc2 := 17) (x := Int32.ofNat 30) d_Se_serve_15 rfl rfl ?_
  refine b_ifd (pc2 := 45) d_Se_serve_17 rfl rfl rfl rfl rfl (fun h17 => ?_) (fun h17 => ?_)
  rotate_left
  · exact absurd (fun z => ho30 ((i_eq (by omega) (by decide)).mp z)) h17
  refine b_aln (pc2 := 46) d_Se_serve_45 rfl rfl ?_
  refine b_gr (pc2 := 49) d_Se_serve_46 q_8_38 (sh_86 n0) (by decide) (by decide) (p_86_5 n0) rfl ?_
  refine b_cv0 (pc2 := 52) (c2 := 0) (u2 := 0) (rw_clear (by omega) hSR R_128) d_Se_serve_49 q_8_60 (Nat.le_of_ble_eq_true rfl) rfl rfl (sh_128 n0) (Nat.le_of_ble_eq_true rfl) rfl rfl (by decide) (by decide) rfl ?_
  refine b_aln (pc2 := 53) d_Se_serve_52 rfl rfl ?_
  refine b_cs1 (pc2 := 56) (c2 := 0) (u2 := 0) (hS e (by omega)) d_Se_serve_53 q_8_88 (Or.inl rfl) (Nat.le_of_ble_eq_true rfl) rfl rfl (Nat.le_of_ble_eq_true rfl) rfl rfl (by decide) (by decide) rfl ?_
  refine b_is (pc2 := 58) (al2 := [(4, _), (3, _), (0, _), (1, _), (2, _)]) d_Se_serve_56 (by decide) rfl rfl ?_
  refine b_il (pc2 := 60) d_Se_serve_58 rfl rfl ?_
  refine b_ifd (pc2 := 78) d_Se_serve_60 rfl rfl rfl rfl rfl (fun h60 => ?_) (fun h60 => ?_)
  · exact absurd h60 (by decide)
  refine b_iln (pc2 := 64) d_Se_serve_63 rfl rfl ?_
  refine b_ic (pc2 := 65) (x := Int32.ofNat 2) d_Se_serve_64 rfl rfl ?_
  refine b_ifd (pc2 := 78) d_Se_serve_65 rfl rfl rfl rfl rfl (fun h65 => ?_) (fun h65 => ?_)
  · refine b_ic (pc2 := 79) (x := Int32.ofNat 0) d_Se_serve_78 rfl rfl ?_
    refine b_is (pc2 := 81) (al2 := [(5, _), (4, _), (3, _), (0, _), (1, _), (2, _)]) d_Se_serve_79 (by decide) rfl rfl ?_
    refine b_il (pc2 := 83) d_Se_serve_81 rfl rfl ?_
    refine b_ifd (pc2 := 93) d_Se_serve_83 rfl rfl rfl rfl rfl (fun h83 => ?_) (fun h83 => ?_)
    · exact absurd h83 (by decide)
    refine b_aln (pc2 := 87) d_Se_serve_86 rfl rfl ?_
    refine b_aln (pc2 := 88) d_Se_serve_87 rfl rfl ?_
    refine b_cv1 (pc2 := 91) (c2 := 0) (u2 := 0) (hT e (by omega)) d_Se_serve_88 q_8_92 (Nat.le_of_ble_eq_true rfl) rfl rfl (sh_86 n0) (Nat.le_of_ble_eq_true rfl) rfl rfl (by decide) (by decide) rfl ?_
    refine b_is (pc2 := 93) (al2 := [(4, _), (5, _), (3, _), (0, _), (1, _), (2, _)]) d_Se_serve_91 (by decide) rfl rfl ?_
    refine b_il (pc2 := 95) d_Se_serve_93 rfl rfl ?_
    refine b_ifd (pc2 := 119) d_Se_serve_95 rfl rfl rfl rfl rfl (fun h95 => ?_) (fun h95 => ?_)
    rotate_left
    · exact absurd (by decide) h95
    refine b_aln (pc2 := 120) d_Se_serve_119 rfl rfl ?_
    refine b_aln (pc2 := 121) d_Se_serve_120 rfl rfl ?_
    refine b_gr (pc2 := 124) d_Se_serve_121 q_8_38 (sh_86 n0) (by decide) (by decide) (p_86_5 n0) rfl ?_
    refine b_cv0 (pc2 := 127) (c2 := 0) (u2 := 0) (hG e (by omega)) d_Se_serve_124 q_8_74 (Nat.le_of_ble_eq_true rfl) rfl rfl (sh_38 n0) (Nat.le_of_ble_eq_true rfl) rfl rfl (by decide) (by decide) rfl ?_
    refine b_vr d_Se_serve_127 rfl ?_
    exact ⟨rfl, rfl, rfl, rfl, rfl⟩
  · refine b_iln (pc2 := 69) d_Se_serve_68 rfl rfl ?_
    refine b_bp (pc2 := 71) (x := Int32.ofNat 24) d_Se_serve_69 rfl rfl ?_
    refine b_ifd (pc2 := 78) d_Se_serve_71 rfl rfl rfl rfl rfl (fun h71 => ?_) (fun h71 => ?_)
    · refine b_ic (pc2 := 79) (x := Int32.ofNat 0) d_Se_serve_78 rfl rfl ?_
      refine b_is (pc2 := 81) (al2 := [(5, _), (4, _), (3, _), (0, _), (1, _), (2, _)]) d_Se_serve_79 (by decide) rfl rfl ?_
      refine b_il (pc2 := 83) d_Se_serve_81 rfl rfl ?_
      refine b_ifd (pc2 := 93) d_Se_serve_83 rfl rfl rfl rfl rfl (fun h83 => ?_) (fun h83 => ?_)
      · exact absurd h83 (by decide)
      refine b_aln (pc2 := 87) d_Se_serve_86 rfl rfl ?_
      refine b_aln (pc2 := 88) d_Se_serve_87 rfl rfl ?_
      refine b_cv1 (pc2 := 91) (c2 := 0) (u2 := 0) (hT e (by omega)) d_Se_serve_88 q_8_92 (Nat.le_of_ble_eq_true rfl) rfl rfl (sh_86 n0) (Nat.le_of_ble_eq_true rfl) rfl rfl (by decide) (by decide) rfl ?_
      refine b_is (pc2 := 93) (al2 := [(4, _), (5, _), (3, _), (0, _), (1, _), (2, _)]) d_Se_serve_91 (by decide) rfl rfl ?_
      refine b_il (pc2 := 95) d_Se_serve_93 rfl rfl ?_
      refine b_ifd (pc2 := 119) d_Se_serve_95 rfl rfl rfl rfl rfl (fun h95 => ?_) (fun h95 => ?_)
      rotate_left
      · exact absurd (by decide) h95
      refine b_aln (pc2 := 120) d_Se_serve_119 rfl rfl ?_
      refine b_aln (pc2 := 121) d_Se_serve_120 rfl rfl ?_
      refine b_gr (pc2 := 124) d_Se_serve_121 q_8_38 (sh_86 n0) (by decide) (by decide) (p_86_5 n0) rfl ?_
      refine b_cv0 (pc2 := 127) (c2 := 0) (u2 := 0) (hG e (by omega)) d_Se_serve_124 q_8_74 (Nat.le_of_ble_eq_true rfl) rfl rfl (sh_38 n0) (Nat.le_of_ble_eq_true rfl) rfl rfl (by decide) (by decide) rfl ?_
      refine b_vr d_Se_serve_127 rfl ?_
      exact ⟨rfl, rfl, rfl, rfl, rfl⟩
    · refine b_ic (pc2 := 75) (x := Int32.ofNat 1) d_Se_serve_74 rfl rfl ?_
      refine b_go (pc2 := 79) d_Se_serve_75 rfl ?_
      refine b_is (pc2 := 81) (al2 := [(5, _), (4, _), (3, _), (0, _), (1, _), (2, _)]) d_Se_serve_79 (by decide) rfl rfl ?_
      refine b_il (pc2 := 83) d_Se_serve_81 rfl rfl ?_
      refine b_ifd (pc2 := 93) d_Se_serve_83 rfl rfl rfl rfl rfl (fun h83 => ?_) (fun h83 => ?_)
      · exact absurd h83 (by decide)
      refine b_aln (pc2 := 87) d_Se_serve_86 rfl rfl ?_
      refine b_aln (pc2 := 88) d_Se_serve_87 rfl rfl ?_
      refine b_cv1 (pc2 := 91) (c2 := 0) (u2 := 0) (hT e (by omega)) d_Se_serve_88 q_8_92 (Nat.le_of_ble_eq_true rfl) rfl rfl (sh_86 n0) (Nat.le_of_ble_eq_true rfl) rfl rfl (by decide) (by decide) rfl ?_
      refine b_is (pc2 := 93) (al2 := [(4, _), (5, _), (3, _), (0, _), (1, _), (2, _)]) d_Se_serve_91 (by decide) rfl rfl ?_
      refine b_il (pc2 := 95) d_Se_serve_93 rfl rfl ?_
      refine b_ifd (pc2 := 119) d_Se_serve_95 rfl rfl rfl rfl rfl (fun h95 => ?_) (fun h95 => ?_)
      rotate_left
      · exact absurd (by decide) h95
      refine b_aln (pc2 := 120) d_Se_serve_119 rfl rfl ?_
      refine b_aln (pc2 := 121) d_Se_serve_120 rfl rfl ?_
      refine b_gr (pc2 := 124) d_Se_serve_121 q_8_38 (sh_86 n0) (by decide) (by decide) (p_86_5 n0) rfl ?_
      refine b_cv0 (pc2 := 127) (c2 := 0) (u2 := 0) (hG e (by omega)) d_Se_serve_124 q_8_74 (Nat.le_of_ble_eq_true rfl) rfl rfl (sh_38 n0) (Nat.le_of_ble_eq_true rfl) rfl rfl (by decide) (by decide) rfl ?_
      refine b_vr d_Se_serve_127 rfl ?_
      exact ⟨rfl, rfl, rfl, rfl, rfl⟩
theorem se_serve_r {d : Nat} (hd : 5 ≤ d) {op : Nat} (hne : 0 < (W 57).length) (hop : (W 57).getD 0 0 = Int32.ofNat op) (ho2 : op < 256) (ho30 : ¬ op = 30) (hS : ∀ e, 2 ≤ e → bm e (S0 n0) R0 78 [.ref 57] (am_u1 W 128 []) J g L (bR (some (.int (Int32.ofNat 0))) (am_u1 W 128 []) J g L)) {c hn : Nat} (hc : 0 < c) (hc2 : c < 256) (hh : (W1 57).getD 1 0 = Int32.ofNat hn) (hh2 : hn < 256) (hT : ∀ e, 4 ≤ e → bm e (S0 n0) R0 79 [.ref 86, .ref 57] (am_u1 W 128 []) J g L (bR (some (.int (Int32.ofNat c))) W1 J1 g L)) (hG : ∀ e, 2 ≤ e → bm e (S0 n0) R0 44 [.ref 38, .ref 128] (am_u1 W1 128 [Int32.ofNat 1, Int32.ofNat op, Int32.ofNat (if op = 2 ∨ op = 24 then 0 else hn), Int32.ofNat c]) J1 g L (bR none W2 J2 g L)) : bm d (S0 n0) R0 77 [.ref 86, .ref 57, .ref 38] W J g L (bR none W2 J2 g L) := by
  obtain ⟨e, rfl⟩ : ∃ e, d = e + 1 := ⟨d - 1, by omega⟩
  refine bm_of (Nat.le_of_ble_eq_true rfl) (Or.inr bR_ret) ?_
  show bT e (S0 n0) R0 mt_Se_serve _ 0 [(0, .ref 86), (1, .ref 57), (2, .ref 38)] [] W J g L 0 0
  have hSR := SR0 n0
  refine b_free fun hlen => ?_
  have hl := hlen 57 20 R_57
  refine b_aln (pc2 := 1) d_Se_serve_0 rfl rfl ?_
  refine b_cv1 (pc2 := 4) (c2 := 0) (u2 := 0) (rw_length (by omega) hSR R_57) d_Se_serve_1 q_8_80 (Nat.le_of_ble_eq_true rfl) rfl rfl (sh_57 n0) (Nat.le_of_ble_eq_true rfl) rfl rfl (by decide) (by decide) rfl ?_
  refine b_ifd (pc2 := 8) d_Se_serve_4 rfl rfl rfl rfl rfl (fun h4 => ?_) (fun h4 => ?_)
  rotate_left
  · exact absurd (fun z => by rw [show (0 : Int32) = Int32.ofNat 0 from rfl, i_eq (by omega) (by decide)] at z; omega) h4
  refine b_aln (pc2 := 9) d_Se_serve_8 rfl rfl ?_
  refine b_ic (pc2 := 10) (x := Int32.ofNat 0) d_Se_serve_9 rfl rfl ?_
  refine b_cv1 (pc2 := 13) (c2 := 0) (u2 := 0) (rw_at (k := 0) (by omega) hSR R_57 (by decide)) d_Se_serve_10 q_8_84 (Nat.le_of_ble_eq_true rfl) rfl rfl (sh_57 n0) (Nat.le_of_ble_eq_true rfl) rfl rfl (by decide) (by decide) rfl ?_
  rw [hop]
  refine b_isn (pc2 := 14) (al2 := [(3, _), (0, _), (1, _), (2, _)]) d_Se_serve_13 (by decide) rfl rfl ?_
  refine b_iln (pc2 := 15) d_Se_serve_14 rfl rfl ?_
  refine b_bp (pc2 := 17) (x := Int32.ofNat 30) d_Se_serve_15 rfl rfl ?_
  refine b_ifd (pc2 := 45) d_Se_serve_17 rfl rfl rfl rfl rfl (fun h17 => ?_) (fun h17 => ?_)
  rotate_left
  · exact absurd (fun z => ho30 ((i_eq (by omega) (by decide)).mp z)) h17
  refine b_aln (pc2 := 46) d_Se_serve_45 rfl rfl ?_
  refine b_gr (pc2 := 49) d_Se_serve_46 q_8_38 (sh_86 n0) (by decide) (by decide) (p_86_5 n0) rfl ?_
  refine b_cv0 (pc2 := 52) (c2 := 0) (u2 := 0) (rw_clear (by omega) hSR R_128) d_Se_serve_49 q_8_60 (Nat.le_of_ble_eq_true rfl) rfl rfl (sh_128 n0) (Nat.le_of_ble_eq_true rfl) rfl rfl (by decide) (by decide) rfl ?_
  refine b_aln (pc2 := 53) d_Se_serve_52 rfl rfl ?_
  refine b_cs1 (pc2 := 56) (c2 := 0) (u2 := 0) (hS e (by omega)) d_Se_serve_53 q_8_88 (Or.inl rfl) (Nat.le_of_ble_eq_true rfl) rfl rfl (Nat.le_of_ble_eq_true rfl) rfl rfl (by decide) (by decide) rfl ?_
  refine b_is (pc2 := 58) (al2 := [(4, _), (3, _), (0, _), (1, _), (2, _)]) d_Se_serve_56 (by decide) rfl rfl ?_
  refine b_il (pc2 := 60) d_Se_serve_58 rfl rfl ?_
  refine b_ifd (pc2 := 78) d_Se_serve_60 rfl rfl rfl rfl rfl (fun h60 => ?_) (fun h60 => ?_)
  · exact absurd h60 (by decide)
  refine b_iln (pc2 := 64) d_Se_serve_63 rfl rfl ?_
  refine b_ic (pc2 := 65) (x := Int32.ofNat 2) d_Se_serve_64 rfl rfl ?_
  refine b_ifd (pc2 := 78) d_Se_serve_65 rfl rfl rfl rfl rfl (fun h65 => ?_) (fun h65 => ?_)
  · refine b_ic (pc2 := 79) (x := Int32.ofNat 0) d_Se_serve_78 rfl rfl ?_
    refine b_is (pc2 := 81) (al2 := [(5, _), (4, _), (3, _), (0, _), (1, _), (2, _)]) d_Se_serve_79 (by decide) rfl rfl ?_
    refine b_il (pc2 := 83) d_Se_serve_81 rfl rfl ?_
    refine b_ifd (pc2 := 93) d_Se_serve_83 rfl rfl rfl rfl rfl (fun h83 => ?_) (fun h83 => ?_)
    · exact absurd h83 (by decide)
    refine b_aln (pc2 := 87) d_Se_serve_86 rfl rfl ?_
    refine b_aln (pc2 := 88) d_Se_serve_87 rfl rfl ?_
    refine b_cv1 (pc2 := 91) (c2 := 0) (u2 := 0) (hT e (by omega)) d_Se_serve_88 q_8_92 (Nat.le_of_ble_eq_true rfl) rfl rfl (sh_86 n0) (Nat.le_of_ble_eq_true rfl) rfl rfl (by decide) (by decide) rfl ?_
    refine b_is (pc2 := 93) (al2 := [(4, _), (5, _), (3, _), (0, _), (1, _), (2, _)]) d_Se_serve_91 (by decide) rfl rfl ?_
    refine b_il (pc2 := 95) d_Se_serve_93 rfl rfl ?_
    refine b_ifd (pc2 := 119) d_Se_serve_95 rfl rfl rfl rfl rfl (fun h95 => ?_) (fun h95 => ?_)
    · exact absurd h95 (fun z => by rw [show (0 : Int32) = Int32.ofNat 0 from rfl, i_eq (by omega) (by decide)] at z; omega)
    refine b_aln (pc2 := 99) d_Se_serve_98 rfl rfl ?_
    refine b_iln (pc2 := 100) d_Se_serve_99 rfl rfl ?_
    refine b_il (pc2 := 102) d_Se_serve_100 rfl rfl ?_
    refine b_ifd (pc2 := 113) d_Se_serve_102 rfl rfl rfl rfl rfl (fun h102 => ?_) (fun h102 => ?_)
    rotate_left
    · exact absurd (by decide) h102
    refine b_ic (pc2 := 114) (x := Int32.ofNat 0) d_Se_serve_113 rfl rfl ?_
    refine b_il (pc2 := 116) d_Se_serve_114 rfl rfl ?_
    first | rw [i_eq (by omega) (by decide)] at h65 | skip
    first | rw [i_eq (by omega) (by decide)] at h71 | skip
    first | rw [if_pos (show op = 2 ∨ op = 24 from Or.inl h65)] at hG | rw [if_pos (show op = 2 ∨ op = 24 from Or.inr h71)] at hG | rw [if_neg (show ¬ (op = 2 ∨ op = 24) by omega)] at hG
    refine b_cv0 (pc2 := 119) (c2 := 0) (u2 := 0) (se_answerError (by omega) ho2 (by first | exact hh2 | decide) hc2) d_Se_serve_116 q_8_95 (Nat.le_of_ble_eq_true rfl) rfl rfl (sh_86 n0) (Nat.le_of_ble_eq_true rfl) rfl rfl (by decide) (by decide) rfl ?_
    refine b_aln (pc2 := 120) d_Se_serve_119 rfl rfl ?_
    refine b_aln (pc2 := 121) d_Se_serve_120 rfl rfl ?_
    refine b_gr (pc2 := 124) d_Se_serve_121 q_8_38 (sh_86 n0) (by decide) (by decide) (p_86_5 n0) rfl ?_
    refine b_cv0 (pc2 := 127) (c2 := 0) (u2 := 0) (hG e (by omega)) d_Se_serve_124 q_8_74 (Nat.le_of_ble_eq_true rfl) rfl rfl (sh_38 n0) (Nat.le_of_ble_eq_true rfl) rfl rfl (by decide) (by decide) rfl ?_
    refine b_vr d_Se_serve_127 rfl ?_
    exact ⟨rfl, rfl, rfl, rfl, rfl⟩
  · refine b_iln (pc2 := 69) d_Se_serve_68 rfl rfl ?_
    refine b_bp (pc2 := 71) (x := Int32.ofNat 24) d_Se_serve_69 rfl rfl ?_
    refine b_ifd (pc2 := 78) d_Se_serve_71 rfl rfl rfl rfl rfl (fun h71 => ?_) (fun h71 => ?_)
    · refine b_ic (pc2 := 79) (x := Int32.ofNat 0) d_Se_serve_78 rfl rfl ?_
      refine b_is (pc2 := 81) (al2 := [(5, _), (4, _), (3, _), (0, _), (1, _), (2, _)]) d_Se_serve_79 (by decide) rfl rfl ?_
      refine b_il (pc2 := 83) d_Se_serve_81 rfl rfl ?_
      refine b_ifd (pc2 := 93) d_Se_serve_83 rfl rfl rfl rfl rfl (fun h83 => ?_) (fun h83 => ?_)
      · exact absurd h83 (by decide)
      refine b_aln (pc2 := 87) d_Se_serve_86 rfl rfl ?_
      refine b_aln (pc2 := 88) d_Se_serve_87 rfl rfl ?_
      refine b_cv1 (pc2 := 91) (c2 := 0) (u2 := 0) (hT e (by omega)) d_Se_serve_88 q_8_92 (Nat.le_of_ble_eq_true rfl) rfl rfl (sh_86 n0) (Nat.le_of_ble_eq_true rfl) rfl rfl (by decide) (by decide) rfl ?_
      refine b_is (pc2 := 93) (al2 := [(4, _), (5, _), (3, _), (0, _), (1, _), (2, _)]) d_Se_serve_91 (by decide) rfl rfl ?_
      refine b_il (pc2 := 95) d_Se_serve_93 rfl rfl ?_
      refine b_ifd (pc2 := 119) d_Se_serve_95 rfl rfl rfl rfl rfl (fun h95 => ?_) (fun h95 => ?_)
      · exact absurd h95 (fun z => by rw [show (0 : Int32) = Int32.ofNat 0 from rfl, i_eq (by omega) (by decide)] at z; omega)
      refine b_aln (pc2 := 99) d_Se_serve_98 rfl rfl ?_
      refine b_iln (pc2 := 100) d_Se_serve_99 rfl rfl ?_
      refine b_il (pc2 := 102) d_Se_serve_100 rfl rfl ?_
      refine b_ifd (pc2 := 113) d_Se_serve_102 rfl rfl rfl rfl rfl (fun h102 => ?_) (fun h102 => ?_)
      rotate_left
      · exact absurd (by decide) h102
      refine b_ic (pc2 := 114) (x := Int32.ofNat 0) d_Se_serve_113 rfl rfl ?_
      refine b_il (pc2 := 116) d_Se_serve_114 rfl rfl ?_
      first | rw [i_eq (by omega) (by decide)] at h65 | skip
      first | rw [i_eq (by omega) (by decide)] at h71 | skip
      first | rw [if_pos (show op = 2 ∨ op = 24 from Or.inl h65)] at hG | rw [if_pos (show op = 2 ∨ op = 24 from Or.inr h71)] at hG | rw [if_neg (show ¬ (op = 2 ∨ op = 24) by omega)] at hG
      refine b_cv0 (pc2 := 119) (c2 := 0) (u2 := 0) (se_answerError (by omega) ho2 (by first | exact hh2 | decide) hc2) d_Se_serve_116 q_8_95 (Nat.le_of_ble_eq_true rfl) rfl rfl (sh_86 n0) (Nat.le_of_ble_eq_true rfl) rfl rfl (by decide) (by decide) rfl ?_
      refine b_aln (pc2 := 120) d_Se_serve_119 rfl rfl ?_
      refine b_aln (pc2 := 121) d_Se_serve_120 rfl rfl ?_
      refine b_gr (pc2 := 124) d_Se_serve_121 q_8_38 (sh_86 n0) (by decide) (by decide) (p_86_5 n0) rfl ?_
      refine b_cv0 (pc2 := 127) (c2 := 0) (u2 := 0) (hG e (by omega)) d_Se_serve_124 q_8_74 (Nat.le_of_ble_eq_true rfl) rfl rfl (sh_38 n0) (Nat.le_of_ble_eq_true rfl) rfl rfl (by decide) (by decide) rfl ?_
      refine b_vr d_Se_serve_127 rfl ?_
      exact ⟨rfl, rfl, rfl, rfl, rfl⟩
    · refine b_ic (pc2 := 75) (x := Int32.ofNat 1) d_Se_serve_74 rfl rfl ?_
      refine b_go (pc2 := 79) d_Se_serve_75 rfl ?_
      refine b_is (pc2 := 81) (al2 := [(5, _), (4, _), (3, _), (0, _), (1, _), (2, _)]) d_Se_serve_79 (by decide) rfl rfl ?_
      refine b_il (pc2 := 83) d_Se_serve_81 rfl rfl ?_
      refine b_ifd (pc2 := 93) d_Se_serve_83 rfl rfl rfl rfl rfl (fun h83 => ?_) (fun h83 => ?_)
      · exact absurd h83 (by decide)
      refine b_aln (pc2 := 87) d_Se_serve_86 rfl rfl ?_
      refine b_aln (pc2 := 88) d_Se_serve_87 rfl rfl ?_
      refine b_cv1 (pc2 := 91) (c2 := 0) (u2 := 0) (hT e (by omega)) d_Se_serve_88 q_8_92 (Nat.le_of_ble_eq_true rfl) rfl rfl (sh_86 n0) (Nat.le_of_ble_eq_true rfl) rfl rfl (by decide) (by decide) rfl ?_
      refine b_is (pc2 := 93) (al2 := [(4, _), (5, _), (3, _), (0, _), (1, _), (2, _)]) d_Se_serve_91 (by decide) rfl rfl ?_
      refine b_il (pc2 := 95) d_Se_serve_93 rfl rfl ?_
      refine b_ifd (pc2 := 119) d_Se_serve_95 rfl rfl rfl rfl rfl (fun h95 => ?_) (fun h95 => ?_)
      · exact absurd h95 (fun z => by rw [show (0 : Int32) = Int32.ofNat 0 from rfl, i_eq (by omega) (by decide)] at z; omega)
      refine b_aln (pc2 := 99) d_Se_serve_98 rfl rfl ?_
      refine b_iln (pc2 := 100) d_Se_serve_99 rfl rfl ?_
      refine b_il (pc2 := 102) d_Se_serve_100 rfl rfl ?_
      refine b_ifd (pc2 := 113) d_Se_serve_102 rfl rfl rfl rfl rfl (fun h102 => ?_) (fun h102 => ?_)
      · exact absurd h102 (by decide)
      refine b_aln (pc2 := 106) d_Se_serve_105 rfl rfl ?_
      refine b_ic (pc2 := 107) (x := Int32.ofNat 1) d_Se_serve_106 rfl rfl ?_
      refine b_cv1 (pc2 := 110) (c2 := 0) (u2 := 0) (rw_at (k := 1) (by omega) hSR R_57 (by decide)) d_Se_serve_107 q_8_84 (Nat.le_of_ble_eq_true rfl) rfl rfl (sh_57 n0) (Nat.le_of_ble_eq_true rfl) rfl rfl (by decide) (by decide) rfl ?_
      rw [hh]
      refine b_go (pc2 := 114) d_Se_serve_110 rfl ?_
      refine b_il (pc2 := 116) d_Se_serve_114 rfl rfl ?_
      first | rw [i_eq (by omega) (by decide)] at h65 | skip
      first | rw [i_eq (by omega) (by decide)] at h71 | skip
      first | rw [if_pos (show op = 2 ∨ op = 24 from Or.inl h65)] at hG | rw [if_pos (show op = 2 ∨ op = 24 from Or.inr h71)] at hG | rw [if_neg (show ¬ (op = 2 ∨ op = 24) by omega)] at hG
      refine b_cv0 (pc2 := 119) (c2 := 0) (u2 := 0) (se_answerError (by omega) ho2 (by first | exact hh2 | decide) hc2) d_Se_serve_116 q_8_95 (Nat.le_of_ble_eq_true rfl) rfl rfl (sh_86 n0) (Nat.le_of_ble_eq_true rfl) rfl rfl (by decide) (by decide) rfl ?_
      refine b_aln (pc2 := 120) d_Se_serve_119 rfl rfl ?_
      refine b_aln (pc2 := 121) d_Se_serve_120 rfl rfl ?_
      refine b_gr (pc2 := 124) d_Se_serve_121 q_8_38 (sh_86 n0) (by decide) (by decide) (p_86_5 n0) rfl ?_
      refine b_cv0 (pc2 := 127) (c2 := 0) (u2 := 0) (hG e (by omega)) d_Se_serve_124 q_8_74 (Nat.le_of_ble_eq_true rfl) rfl rfl (sh_38 n0) (Nat.le_of_ble_eq_true rfl) rfl rfl (by decide) (by decide) rfl ?_
      refine b_vr d_Se_serve_127 rfl ?_
      exact ⟨rfl, rfl, rfl, rfl, rfl⟩
theorem se_say0 {d : Nat} (hd : 3 ≤ d) (hi : i < 10) {lm : Nat} (hlm : J 86 6 = Int32.ofNat lm) (hl1 : 8 ≤ lm) (hl2 : lm ≤ 20) (hG : ∀ e, 2 ≤ e → bm e (S0 n0) R0 44 [.ref 38, .ref 128] (am_u1 W 128 (Int32.ofNat 27 :: Int32.ofNat (i + 1) :: (W (89 + 3 * i)).take (lm - 2))) J g L (bR none W2 J2 g L)) : bm d (S0 n0) R0 42 [.ref 86, .int (Int32.ofNat (i + 1)), .int (Int32.ofNat 0), .ref 38] W J g L (bR none W2 J2 g L) := by
  obtain ⟨e, rfl⟩ : ∃ e, d = e + 1 := ⟨d - 1, by omega⟩
  refine bm_of (Nat.le_of_ble_eq_true rfl) (Or.inr bR_ret) ?_
  show bT e (S0 n0) R0 mt_Se_sayByItself _ 0 [(0, .ref 86), (1, .int (Int32.ofNat (i + 1))), (2, .int (Int32.ofNat 0)), (3, .ref 38)] [] W J g L 0 0
  have hSR := SR0 n0
  refine b_aln (pc2 := 1) d_Se_sayByItself_0 rfl rfl ?_
  refine b_gr (pc2 := 4) d_Se_sayByItself_1 q_8_38 (sh_86 n0) (by decide) (by decide) (p_86_5 n0) rfl ?_
  refine b_cv0 (pc2 := 7) (c2 := 0) (u2 := 0) (rw_clear (by omega) hSR R_128) d_Se_sayByItself_4 q_8_60 (Nat.le_of_ble_eq_true rfl) rfl rfl (sh_128 n0) (Nat.le_of_ble_eq_true rfl) rfl rfl (by decide) (by decide) rfl ?_
  refine b_aln (pc2 := 8) d_Se_sayByItself_7 rfl rfl ?_
  refine b_gr (pc2 := 11) d_Se_sayByItself_8 q_8_38 (sh_86 n0) (by decide) (by decide) (p_86_5 n0) rfl ?_
  refine b_iln (pc2 := 12) d_Se_sayByItself_11 rfl rfl ?_
  refine b_ifd (pc2 := 20) d_Se_sayByItself_12 rfl rfl rfl rfl rfl (fun h12 => ?_) (fun h12 => ?_)
  rotate_left
  · exact absurd (by decide) h12
  refine b_bp (pc2 := 22) (x := Int32.ofNat 27) d_Se_sayByItself_20 rfl rfl ?_
  refine b_cv0 (pc2 := 25) (c2 := 0) (u2 := 0) (rw_add (by omega) hSR R_128 (by simp only [u1_at, List.length_append, List.length_cons, List.length_nil]; omega)) d_Se_sayByItself_22 q_8_63 (Nat.le_of_ble_eq_true rfl) rfl rfl (sh_128 n0) (Nat.le_of_ble_eq_true rfl) rfl rfl (by decide) (by decide) rfl ?_
  rw [u1_u1, u1_at, b255 (n := 27) (by decide), List.nil_append]
  refine b_aln (pc2 := 26) d_Se_sayByItself_25 rfl rfl ?_
  refine b_gr (pc2 := 29) d_Se_sayByItself_26 q_8_38 (sh_86 n0) (by decide) (by decide) (p_86_5 n0) rfl ?_
  refine b_iln (pc2 := 30) d_Se_sayByItself_29 rfl rfl ?_
  refine b_cv0 (pc2 := 33) (c2 := 0) (u2 := 0) (rw_add (by omega) hSR R_128 (by simp only [u1_at, List.length_append, List.length_cons, List.length_nil]; omega)) d_Se_sayByItself_30 q_8_63 (Nat.le_of_ble_eq_true rfl) rfl rfl (sh_128 n0) (Nat.le_of_ble_eq_true rfl) rfl rfl (by decide) (by decide) rfl ?_
  rw [u1_u1, u1_at, b255 (n := i + 1) (by omega), List.singleton_append]
  refine b_aln (pc2 := 34) d_Se_sayByItself_33 rfl rfl ?_
  refine b_gr (pc2 := 37) d_Se_sayByItself_34 q_8_38 (sh_86 n0) (by decide) (by decide) (p_86_5 n0) rfl ?_
  refine b_aln (pc2 := 38) d_Se_sayByItself_37 rfl rfl ?_
  refine b_iln (pc2 := 39) d_Se_sayByItself_38 rfl rfl ?_
  refine b_cv1 (pc2 := 42) (c2 := 0) (u2 := 0) (se_valueOf (by omega) hi) d_Se_sayByItself_39 q_8_66 (Nat.le_of_ble_eq_true rfl) rfl rfl (sh_86 n0) (Nat.le_of_ble_eq_true rfl) rfl rfl (by decide) (by decide) rfl ?_
  refine b_ic (pc2 := 43) (x := Int32.ofNat 0) d_Se_sayByItself_42 rfl rfl ?_
  refine b_aln (pc2 := 44) d_Se_sayByItself_43 rfl rfl ?_
  refine b_gi (pc2 := 47) d_Se_sayByItself_44 q_8_42 (sh_86 n0) (by decide) (by decide) (rc_86) rfl ?_
  refine b_ic (pc2 := 48) (x := Int32.ofNat 2) d_Se_sayByItself_47 rfl rfl ?_
  rw [hlm]
  refine b_pure (pc2 := 49) d_Se_sayByItself_48 rfl rfl rfl ?_
  rw [i_sub (by omega)]
  refine b_cv0 (pc2 := 52) (c2 := 0) (u2 := 0) (rw_addFrom (f := 0) (by omega) hSR R_128 (at_R hi) (by omega) (by decide) (by omega)) d_Se_sayByItself_49 q_8_70 (Nat.le_of_ble_eq_true rfl) rfl rfl (sh_128 n0) (Nat.le_of_ble_eq_true rfl) rfl rfl (by decide) (by decide) rfl ?_
  rw [u1_u1, u1_at, u1_ne _ _ (by omega), List.drop_zero, List.take_of_length_le (show ((W (89 + 3 * i)).take (lm - 2)).length ≤ 20 - [Int32.ofNat 27, Int32.ofNat (i + 1)].length by rw [List.length_take]; show _ ≤ 18; omega)]
  refine b_aln (pc2 := 53) d_Se_sayByItself_52 rfl rfl ?_
  refine b_aln (pc2 := 54) d_Se_sayByItself_53 rfl rfl ?_
  refine b_gr (pc2 := 57) d_Se_sayByItself_54 q_8_38 (sh_86 n0) (by decide) (by decide) (p_86_5 n0) rfl ?_
  refine b_cv0 (pc2 := 60) (c2 := 0) (u2 := 0) (hG e (by omega)) d_Se_sayByItself_57 q_8_74 (Nat.le_of_ble_eq_true rfl) rfl rfl (sh_38 n0) (Nat.le_of_ble_eq_true rfl) rfl rfl (by decide) (by decide) rfl ?_
  refine b_iln (pc2 := 61) d_Se_sayByItself_60 rfl rfl ?_
  refine b_ifd (pc2 := 69) d_Se_sayByItself_61 rfl rfl rfl rfl rfl (fun h61 => ?_) (fun h61 => ?_)
  rotate_left
  · exact absurd (by decide) h61
  refine b_vr d_Se_sayByItself_69 rfl ?_
  exact ⟨rfl, rfl, rfl, rfl, rfl⟩
theorem se_say1 {d : Nat} (hd : 3 ≤ d) (hi : i < 10) {lm : Nat} (hlm : J 86 6 = Int32.ofNat lm) (hl1 : 8 ≤ lm) (hl2 : lm ≤ 20) (hG : ∀ e, 2 ≤ e → bm e (S0 n0) R0 44 [.ref 38, .ref 128] (am_u1 W 128 (Int32.ofNat 29 :: Int32.ofNat (i + 1) :: (W (89 + 3 * i)).take (lm - 2))) J g L (bR none W2 J2 g L)) : bm d (S0 n0) R0 42 [.ref 86, .int (Int32.ofNat (i + 1)), .int (Int32.ofNat 1), .ref 38] W J g L (bR none W2 (am_u2 J2 86 7 1) g L) := by
  obtain ⟨e, rfl⟩ : ∃ e, d = e + 1 := ⟨d - 1, by omega⟩
  refine bm_of (Nat.le_of_ble_eq_true rfl) (Or.inr bR_ret) ?_
  show bT e (S0 n0) R0 mt_Se_sayByItself _ 0 [(0, .ref 86), (1, .int (Int32.ofNat (i + 1))), (2, .int (Int32.ofNat 1)), (3, .ref 38)] [] W J g L 0 0
  have hSR := SR0 n0
  refine b_aln (pc2 := 1) d_Se_sayByItself_0 rfl rfl ?_
  refine b_gr (pc2 := 4) d_Se_sayByItself_1 q_8_38 (sh_86 n0) (by decide) (by decide) (p_86_5 n0) rfl ?_
  refine b_cv0 (pc2 := 7) (c2 := 0) (u2 := 0) (rw_clear (by omega) hSR R_128) d_Se_sayByItself_4 q_8_60 (Nat.le_of_ble_eq_true rfl) rfl rfl (sh_128 n0) (Nat.le_of_ble_eq_true rfl) rfl rfl (by decide) (by decide) rfl ?_
  refine b_aln (pc2 := 8) d_Se_sayByItself_7 rfl rfl ?_
  refine b_gr (pc2 := 11) d_Se_sayByItself_8 q_8_38 (sh_86 n0) (by decide) (by decide) (p_86_5 n0) rfl ?_
  refine b_iln (pc2 := 12) d_Se_sayByItself_11 rfl rfl ?_
  refine b_ifd (pc2 := 20) d_Se_sayByItself_12 rfl rfl rfl rfl rfl (fun h12 => ?_) (fun h12 => ?_)
  · exact absurd h12 (by decide)
  refine b_bp (pc2 := 17) (x := Int32.ofNat 29) d_Se_sayByItself_15 rfl rfl ?_
  refine b_go (pc2 := 22) d_Se_sayByItself_17 rfl ?_
  refine b_cv0 (pc2 := 25) (c2 := 0) (u2 := 0) (rw_add (by omega) hSR R_128 (by simp only [u1_at, List.length_append, List.length_cons, List.length_nil]; omega)) d_Se_sayByItself_22 q_8_63 (Nat.le_of_ble_eq_true rfl) rfl rfl (sh_128 n0) (Nat.le_of_ble_eq_true rfl) rfl rfl (by decide) (by decide) rfl ?_
  rw [u1_u1, u1_at, b255 (n := 29) (by decide), List.nil_append]
  refine b_aln (pc2 := 26) d_Se_sayByItself_25 rfl rfl ?_
  refine b_gr (pc2 := 29) d_Se_sayByItself_26 q_8_38 (sh_86 n0) (by decide) (by decide) (p_86_5 n0) rfl ?_
  refine b_iln (pc2 := 30) d_Se_sayByItself_29 rfl rfl ?_
  refine b_cv0 (pc2 := 33) (c2 := 0) (u2 := 0) (rw_add (by omega) hSR R_128 (by simp only [u1_at, List.length_append, List.length_cons, List.length_nil]; omega)) d_Se_sayByItself_30 q_8_63 (Nat.le_of_ble_eq_true rfl) rfl rfl (sh_128 n0) (Nat.le_of_ble_eq_true rfl) rfl rfl (by decide) (by decide) rfl ?_
  rw [u1_u1, u1_at, b255 (n := i + 1) (by omega), List.singleton_append]
  refine b_aln (pc2 := 34) d_Se_sayByItself_33 rfl rfl ?_
  refine b_gr (pc2 := 37) d_Se_sayByItself_34 q_8_38 (sh_86 n0) (by decide) (by decide) (p_86_5 n0) rfl ?_
  refine b_aln (pc2 := 38) d_Se_sayByItself_37 rfl rfl ?_
  refine b_iln (pc2 := 39) d_Se_sayByItself_38 rfl rfl ?_
  refine b_cv1 (pc2 := 42) (c2 := 0) (u2 := 0) (se_valueOf (by omega) hi) d_Se_sayByItself_39 q_8_66 (Nat.le_of_ble_eq_true rfl) rfl rfl (sh_86 n0) (Nat.le_of_ble_eq_true rfl) rfl rfl (by decide) (by decide) rfl ?_
  refine b_ic (pc2 := 43) (x := Int32.ofNat 0) d_Se_sayByItself_42 rfl rfl ?_
  refine b_aln (pc2 := 44) d_Se_sayByItself_43 rfl rfl ?_
  refine b_gi (pc2 := 47) d_Se_sayByItself_44 q_8_42 (sh_86 n0) (by decide) (by decide) (rc_86) rfl ?_
  refine b_ic (pc2 := 48) (x := Int32.ofNat 2) d_Se_sayByItself_47 rfl rfl ?_
  rw [hlm]
  refine b_pure (pc2 := 49) d_Se_sayByItself_48 rfl rfl rfl ?_
  rw [i_sub (by omega)]
  refine b_cv0 (pc2 := 52) (c2 := 0) (u2 := 0) (rw_addFrom (f := 0) (by omega) hSR R_128 (at_R hi) (by omega) (by decide) (by omega)) d_Se_sayByItself_49 q_8_70 (Nat.le_of_ble_eq_true rfl) rfl rfl (sh_128 n0) (Nat.le_of_ble_eq_true rfl) rfl rfl (by decide) (by decide) rfl ?_
  rw [u1_u1, u1_at, u1_ne _ _ (by omega), List.drop_zero, List.take_of_length_le (show ((W (89 + 3 * i)).take (lm - 2)).length ≤ 20 - [Int32.ofNat 29, Int32.ofNat (i + 1)].length by rw [List.length_take]; show _ ≤ 18; omega)]
  refine b_aln (pc2 := 53) d_Se_sayByItself_52 rfl rfl ?_
  refine b_aln (pc2 := 54) d_Se_sayByItself_53 rfl rfl ?_
  refine b_gr (pc2 := 57) d_Se_sayByItself_54 q_8_38 (sh_86 n0) (by decide) (by decide) (p_86_5 n0) rfl ?_
  refine b_cv0 (pc2 := 60) (c2 := 0) (u2 := 0) (hG e (by omega)) d_Se_sayByItself_57 q_8_74 (Nat.le_of_ble_eq_true rfl) rfl rfl (sh_38 n0) (Nat.le_of_ble_eq_true rfl) rfl rfl (by decide) (by decide) rfl ?_
  refine b_iln (pc2 := 61) d_Se_sayByItself_60 rfl rfl ?_
  refine b_ifd (pc2 := 69) d_Se_sayByItself_61 rfl rfl rfl rfl rfl (fun h61 => ?_) (fun h61 => ?_)
  · exact absurd h61 (by decide)
  refine b_aln (pc2 := 65) d_Se_sayByItself_64 rfl rfl ?_
  refine b_ic (pc2 := 66) (x := Int32.ofNat 1) d_Se_sayByItself_65 rfl rfl ?_
  refine b_pi (pc2 := 69) d_Se_sayByItself_66 q_8_45 (sh_86 n0) (by decide) (Or.inl (by decide)) (Or.inr ⟨rfl, by decide⟩) (rc_86) rfl ?_
  refine b_vr d_Se_sayByItself_69 rfl ?_
  exact ⟨rfl, rfl, rfl, rfl, rfl⟩
end SV
