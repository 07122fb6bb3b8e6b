/-! Part 73 (written by gen23.py): AttributeLink: tell, begin, write, raw; questions -/
section LK2
variable {n0 : Nat} {W : bw_W} {J : bw_J} {g : Nat} {L : bw_L}
variable {i : Nat} {W1 W2 : bw_W} {J1 J2 : bw_J}
theorem al_tell0 {d : Nat} (hd : 6 ≤ d) {h b : Int32} (hb : ¬ (¬ h < Int32.ofNat 1 ∧ ¬ J 86 1 < h)) : bm d (S0 n0) R0 40 [.ref 1, .int h, .int b] W J g L (bX 0 W J (g + 1) L) := by
  obtain ⟨e, rfl⟩ : ∃ e, d = e + 1 := ⟨d - 1, by omega⟩
  refine bm_of (Nat.le_of_ble_eq_true rfl) (Or.inl (show 5 < e + 1 by omega)) ?_
  show bT e (S0 n0) R0 mt_Al_tell _ 0 [(0, .ref 1), (1, .int h), (2, .int b)] [] W J g L 0 0
  have hSR := SR0 n0
  refine b_aln (pc2 := 1) d_Al_tell_0 rfl rfl ?_
  refine b_gr (pc2 := 4) d_Al_tell_1 q_10_45 (sh_1 n0) (by decide) (by decide) (p_1_5 n0) rfl ?_
  refine b_iln (pc2 := 5) d_Al_tell_4 rfl rfl ?_
  refine b_cv1 (pc2 := 8) (c2 := 0) (u2 := 0) (se_hasHandle (by omega)) d_Al_tell_5 q_10_81 (Nat.le_of_ble_eq_true rfl) rfl rfl (sh_86 n0) (Nat.le_of_ble_eq_true rfl) rfl rfl (by decide) (by decide) rfl ?_
  rw [if_neg hb]
  refine b_ifd (pc2 := 19) d_Al_tell_8 rfl rfl rfl rfl rfl (fun h8 => ?_) (fun h8 => ?_)
  · exact absurd h8 (fun z => z rfl)
  refine b_thr d_Al_tell_11 q_10_67 rfl (by decide) (by decide) (Nat.le_of_ble_eq_true rfl) d_Al_tell_14 d_Al_tell_15 d_Al_tell_18 ?_
  exact ⟨rfl, rfl, rfl, rfl, rfl⟩
theorem al_tell1 {d : Nat} (hd : 6 ≤ d) {h b : Int32} (hok : (¬ h < Int32.ofNat 1 ∧ ¬ J 86 1 < h)) (hu : J 86 7 = 0 ∨ J 86 7 = 1) (hx : ¬ (J 1 8 = 0 ∧ J 38 2 < Int32.ofNat 4 ∧ (b = 0 ∨ J 86 7 = 0))) : bm d (S0 n0) R0 40 [.ref 1, .int h, .int b] W J g L (bX 1 W J (g + 1) L) := by
  obtain ⟨e, rfl⟩ : ∃ e, d = e + 1 := ⟨d - 1, by omega⟩
  refine bm_of (Nat.le_of_ble_eq_true rfl) (Or.inl (show 5 < e + 1 by omega)) ?_
  show bT e (S0 n0) R0 mt_Al_tell _ 0 [(0, .ref 1), (1, .int h), (2, .int b)] [] W J g L 0 0
  have hSR := SR0 n0
  refine b_aln (pc2 := 1) d_Al_tell_0 rfl rfl ?_
  refine b_gr (pc2 := 4) d_Al_tell_1 q_10_45 (sh_1 n0) (by decide) (by decide) (p_1_5 n0) rfl ?_
  refine b_iln (pc2 := 5) d_Al_tell_4 rfl rfl ?_
  refine b_cv1 (pc2 := 8) (c2 := 0) (u2 := 0) (se_hasHandle (by omega)) d_Al_tell_5 q_10_81 (Nat.le_of_ble_eq_true rfl) rfl rfl (sh_86 n0) (Nat.le_of_ble_eq_true rfl) rfl rfl (by decide) (by decide) rfl ?_
  refine b_ifd (pc2 := 19) d_Al_tell_8 rfl rfl rfl rfl rfl (fun h8 => ?_) (fun h8 => ?_)
  rotate_left
  · exact absurd (fun z => (if01.mp z) hok) h8
  refine b_aln (pc2 := 20) d_Al_tell_19 rfl rfl ?_
  refine b_gi (pc2 := 23) d_Al_tell_20 q_10_56 (sh_1 n0) (by decide) (by decide) (rc_1) rfl ?_
  refine b_ifd (pc2 := 40) d_Al_tell_23 rfl rfl rfl rfl rfl (fun h23 => ?_) (fun h23 => ?_)
  · refine b_thr d_Al_tell_40 q_10_74 rfl (by decide) (by decide) (Nat.le_of_ble_eq_true rfl) d_Al_tell_43 d_Al_tell_44 d_Al_tell_47 ?_
    exact ⟨rfl, rfl, rfl, rfl, rfl⟩
  · refine b_aln (pc2 := 27) d_Al_tell_26 rfl rfl ?_
    refine b_gr (pc2 := 30) d_Al_tell_27 q_10_32 (sh_1 n0) (by decide) (by decide) (p_1_3 n0) rfl ?_
    refine b_gr (pc2 := 33) d_Al_tell_30 q_10_101 (sh_37 n0) (by decide) (by decide) (p_37_0 n0) rfl ?_
    refine b_cv1 (pc2 := 36) (c2 := 0) (u2 := 0) (ou_waiting_s (by omega)) d_Al_tell_33 q_10_105 (Nat.le_of_ble_eq_true rfl) rfl rfl (sh_38 n0) (Nat.le_of_ble_eq_true rfl) rfl rfl (by decide) (by decide) rfl ?_
    refine b_ic (pc2 := 37) (x := Int32.ofNat 4) d_Al_tell_36 rfl rfl ?_
    refine b_ifd (pc2 := 48) d_Al_tell_37 rfl rfl rfl rfl rfl (fun h37 => ?_) (fun h37 => ?_)
    · refine b_iln (pc2 := 49) d_Al_tell_48 rfl rfl ?_
      refine b_ifd (pc2 := 70) d_Al_tell_49 rfl rfl rfl rfl rfl (fun h49 => ?_) (fun h49 => ?_)
      · exact (hx ⟨Decidable.not_not.mp h23, h37, by first | exact Or.inl h49 | exact Or.inr h59⟩).elim
      · refine b_aln (pc2 := 53) d_Al_tell_52 rfl rfl ?_
        refine b_gr (pc2 := 56) d_Al_tell_53 q_10_45 (sh_1 n0) (by decide) (by decide) (p_1_5 n0) rfl ?_
        refine b_cv1 (pc2 := 59) (c2 := 0) (u2 := 0) (se_isUnconfirmed (by omega) hu) d_Al_tell_56 q_10_110 (Nat.le_of_ble_eq_true rfl) rfl rfl (sh_86 n0) (Nat.le_of_ble_eq_true rfl) rfl rfl (by decide) (by decide) rfl ?_
        refine b_ifd (pc2 := 70) d_Al_tell_59 rfl rfl rfl rfl rfl (fun h59 => ?_) (fun h59 => ?_)
        · exact (hx ⟨Decidable.not_not.mp h23, h37, by first | exact Or.inl h49 | exact Or.inr h59⟩).elim
        · refine b_thr d_Al_tell_62 q_10_74 rfl (by decide) (by decide) (Nat.le_of_ble_eq_true rfl) d_Al_tell_65 d_Al_tell_66 d_Al_tell_69 ?_
          exact ⟨rfl, rfl, rfl, rfl, rfl⟩
    · refine b_thr d_Al_tell_40 q_10_74 rfl (by decide) (by decide) (Nat.le_of_ble_eq_true rfl) d_Al_tell_43 d_Al_tell_44 d_Al_tell_47 ?_
      exact ⟨rfl, rfl, rfl, rfl, rfl⟩
theorem al_tell2_0 {d : Nat} (hd : 4 ≤ d) (hi : i < 10) {ct : Nat} (hc : J 86 1 = Int32.ofNat ct) (hct : ct ≤ 10) (hic : i < ct) (hd0 : J 1 8 = 0) (hw : J 38 2 < Int32.ofNat 4) (hS : ∀ e, 3 ≤ e → bm e (S0 n0) R0 42 [.ref 86, .int (Int32.ofNat (i + 1)), .int (Int32.ofNat 0), .ref 38] W J g L (bR none W1 J1 g L)) : bm d (S0 n0) R0 40 [.ref 1, .int (Int32.ofNat (i + 1)), .int (Int32.ofNat 0)] W J g L (bR none W1 J1 g L) := by
  obtain ⟨e, rfl⟩ : ∃ e, d = e + 1 := ⟨d - 1, by omega⟩
  refine bm_of (Nat.le_of_ble_eq_true rfl) (Or.inr bR_ret) ?_
  show bT e (S0 n0) R0 mt_Al_tell _ 0 [(0, .ref 1), (1, .int (Int32.ofNat (i + 1))), (2, .int (Int32.ofNat 0))] [] W J g L 0 0
  have hSR := SR0 n0
  refine b_aln (pc2 := 1) d_Al_tell_0 rfl rfl ?_
  refine b_gr (pc2 := 4) d_Al_tell_1 q_10_45 (sh_1 n0) (by decide) (by decide) (p_1_5 n0) rfl ?_
  refine b_iln (pc2 := 5) d_Al_tell_4 rfl rfl ?_
  refine b_cv1 (pc2 := 8) (c2 := 0) (u2 := 0) (se_hasHandle (by omega)) d_Al_tell_5 q_10_81 (Nat.le_of_ble_eq_true rfl) rfl rfl (sh_86 n0) (Nat.le_of_ble_eq_true rfl) rfl rfl (by decide) (by decide) rfl ?_
  rw [if_pos ⟨by rw [i_lt (by omega) (by decide)]; omega, by rw [hc, i_lt (by omega) (by omega)]; omega⟩]
  refine b_ifd (pc2 := 19) d_Al_tell_8 rfl rfl rfl rfl rfl (fun h8 => ?_) (fun h8 => ?_)
  rotate_left
  · exact absurd (show ¬ (1 : Int32) = 0 by decide) h8
  refine b_aln (pc2 := 20) d_Al_tell_19 rfl rfl ?_
  refine b_gi (pc2 := 23) d_Al_tell_20 q_10_56 (sh_1 n0) (by decide) (by decide) (rc_1) rfl ?_
  refine b_ifd (pc2 := 40) d_Al_tell_23 rfl rfl rfl rfl rfl (fun h23 => ?_) (fun h23 => ?_)
  · exact absurd h23 (fun z => z hd0)
  refine b_aln (pc2 := 27) d_Al_tell_26 rfl rfl ?_
  refine b_gr (pc2 := 30) d_Al_tell_27 q_10_32 (sh_1 n0) (by decide) (by decide) (p_1_3 n0) rfl ?_
  refine b_gr (pc2 := 33) d_Al_tell_30 q_10_101 (sh_37 n0) (by decide) (by decide) (p_37_0 n0) rfl ?_
  refine b_cv1 (pc2 := 36) (c2 := 0) (u2 := 0) (ou_waiting_s (by omega)) d_Al_tell_33 q_10_105 (Nat.le_of_ble_eq_true rfl) rfl rfl (sh_38 n0) (Nat.le_of_ble_eq_true rfl) rfl rfl (by decide) (by decide) rfl ?_
  refine b_ic (pc2 := 37) (x := Int32.ofNat 4) d_Al_tell_36 rfl rfl ?_
  refine b_ifd (pc2 := 48) d_Al_tell_37 rfl rfl rfl rfl rfl (fun h37 => ?_) (fun h37 => ?_)
  rotate_left
  · exact absurd (hw) h37
  refine b_iln (pc2 := 49) d_Al_tell_48 rfl rfl ?_
  refine b_ifd (pc2 := 70) d_Al_tell_49 rfl rfl rfl rfl rfl (fun h49 => ?_) (fun h49 => ?_)
  rotate_left
  · exact absurd (by decide) h49
  refine b_aln (pc2 := 71) d_Al_tell_70 rfl rfl ?_
  refine b_gr (pc2 := 74) d_Al_tell_71 q_10_45 (sh_1 n0) (by decide) (by decide) (p_1_5 n0) rfl ?_
  refine b_iln (pc2 := 75) d_Al_tell_74 rfl rfl ?_
  refine b_iln (pc2 := 76) d_Al_tell_75 rfl rfl ?_
  refine b_aln (pc2 := 77) d_Al_tell_76 rfl rfl ?_
  refine b_gr (pc2 := 80) d_Al_tell_77 q_10_32 (sh_1 n0) (by decide) (by decide) (p_1_3 n0) rfl ?_
  refine b_gr (pc2 := 83) d_Al_tell_80 q_10_101 (sh_37 n0) (by decide) (by decide) (p_37_0 n0) rfl ?_
  refine b_cv0 (pc2 := 86) (c2 := 0) (u2 := 0) (hS e (by omega)) d_Al_tell_83 q_10_113 (Nat.le_of_ble_eq_true rfl) rfl rfl (sh_86 n0) (Nat.le_of_ble_eq_true rfl) rfl rfl (by decide) (by decide) rfl ?_
  refine b_vr d_Al_tell_86 rfl ?_
  exact ⟨rfl, rfl, rfl, rfl, rfl⟩
theorem al_tell2_1 {d : Nat} (hd : 4 ≤ d) (hi : i < 10) {ct : Nat} (hc : J 86 1 = Int32.ofNat ct) (hct : ct ≤ 10) (hic : i < ct) (hd0 : J 1 8 = 0) (hw : J 38 2 < Int32.ofNat 4) (hu : J 86 7 = 0) (hS : ∀ e, 3 ≤ e → bm e (S0 n0) R0 42 [.ref 86, .int (Int32.ofNat (i + 1)), .int (Int32.ofNat 1), .ref 38] W J g L (bR none W1 J1 g L)) : bm d (S0 n0) R0 40 [.ref 1, .int (Int32.ofNat (i + 1)), .int (Int32.ofNat 1)] W J g L (bR none W1 J1 g L) := by
  obtain ⟨e, rfl⟩ : ∃ e, d = e + 1 := ⟨d - 1, by omega⟩
  refine bm_of (Nat.le_of_ble_eq_true rfl) (Or.inr bR_ret) ?_
  show bT e (S0 n0) R0 mt_Al_tell _ 0 [(0, .ref 1), (1, .int (Int32.ofNat (i + 1))), (2, .int (Int32.ofNat 1))] [] W J g L 0 0
  have hSR := SR0 n0
  refine b_aln (pc2 := 1) d_Al_tell_0 rfl rfl ?_
  refine b_gr (pc2 := 4) d_Al_tell_1 q_10_45 (sh_1 n0) (by decide) (by decide) (p_1_5 n0) rfl ?_
  refine b_iln (pc2 := 5) d_Al_tell_4 rfl rfl ?_
  refine b_cv1 (pc2 := 8) (c2 := 0) (u2 := 0) (se_hasHandle (by omega)) d_Al_tell_5 q_10_81 (Nat.le_of_ble_eq_true rfl) rfl rfl (sh_86 n0) (Nat.le_of_ble_eq_true rfl) rfl rfl (by decide) (by decide) rfl ?_
  rw [if_pos ⟨by rw [i_lt (by omega) (by decide)]; omega, by rw [hc, i_lt (by omega) (by omega)]; omega⟩]
  refine b_ifd (pc2 := 19) d_Al_tell_8 rfl rfl rfl rfl rfl (fun h8 => ?_) (fun h8 => ?_)
  rotate_left
  · exact absurd (show ¬ (1 : Int32) = 0 by decide) h8
  refine b_aln (pc2 := 20) d_Al_tell_19 rfl rfl ?_
  refine b_gi (pc2 := 23) d_Al_tell_20 q_10_56 (sh_1 n0) (by decide) (by decide) (rc_1) rfl ?_
  refine b_ifd (pc2 := 40) d_Al_tell_23 rfl rfl rfl rfl rfl (fun h23 => ?_) (fun h23 => ?_)
  · exact absurd h23 (fun z => z hd0)
  refine b_aln (pc2 := 27) d_Al_tell_26 rfl rfl ?_
  refine b_gr (pc2 := 30) d_Al_tell_27 q_10_32 (sh_1 n0) (by decide) (by decide) (p_1_3 n0) rfl ?_
  refine b_gr (pc2 := 33) d_Al_tell_30 q_10_101 (sh_37 n0) (by decide) (by decide) (p_37_0 n0) rfl ?_
  refine b_cv1 (pc2 := 36) (c2 := 0) (u2 := 0) (ou_waiting_s (by omega)) d_Al_tell_33 q_10_105 (Nat.le_of_ble_eq_true rfl) rfl rfl (sh_38 n0) (Nat.le_of_ble_eq_true rfl) rfl rfl (by decide) (by decide) rfl ?_
  refine b_ic (pc2 := 37) (x := Int32.ofNat 4) d_Al_tell_36 rfl rfl ?_
  refine b_ifd (pc2 := 48) d_Al_tell_37 rfl rfl rfl rfl rfl (fun h37 => ?_) (fun h37 => ?_)
  rotate_left
  · exact absurd (hw) h37
  refine b_iln (pc2 := 49) d_Al_tell_48 rfl rfl ?_
  refine b_ifd (pc2 := 70) d_Al_tell_49 rfl rfl rfl rfl rfl (fun h49 => ?_) (fun h49 => ?_)
  · exact absurd h49 (by decide)
  refine b_aln (pc2 := 53) d_Al_tell_52 rfl rfl ?_
  refine b_gr (pc2 := 56) d_Al_tell_53 q_10_45 (sh_1 n0) (by decide) (by decide) (p_1_5 n0) rfl ?_
  refine b_cv1 (pc2 := 59) (c2 := 0) (u2 := 0) (se_isUnconfirmed (by omega) (Or.inl hu)) d_Al_tell_56 q_10_110 (Nat.le_of_ble_eq_true rfl) rfl rfl (sh_86 n0) (Nat.le_of_ble_eq_true rfl) rfl rfl (by decide) (by decide) rfl ?_
  refine b_ifd (pc2 := 70) d_Al_tell_59 rfl rfl rfl rfl rfl (fun h59 => ?_) (fun h59 => ?_)
  rotate_left
  · exact absurd (hu) h59
  refine b_aln (pc2 := 71) d_Al_tell_70 rfl rfl ?_
  refine b_gr (pc2 := 74) d_Al_tell_71 q_10_45 (sh_1 n0) (by decide) (by decide) (p_1_5 n0) rfl ?_
  refine b_iln (pc2 := 75) d_Al_tell_74 rfl rfl ?_
  refine b_iln (pc2 := 76) d_Al_tell_75 rfl rfl ?_
  refine b_aln (pc2 := 77) d_Al_tell_76 rfl rfl ?_
  refine b_gr (pc2 := 80) d_Al_tell_77 q_10_32 (sh_1 n0) (by decide) (by decide) (p_1_3 n0) rfl ?_
  refine b_gr (pc2 := 83) d_Al_tell_80 q_10_101 (sh_37 n0) (by decide) (by decide) (p_37_0 n0) rfl ?_
  refine b_cv0 (pc2 := 86) (c2 := 0) (u2 := 0) (hS e (by omega)) d_Al_tell_83 q_10_113 (Nat.le_of_ble_eq_true rfl) rfl rfl (sh_86 n0) (Nat.le_of_ble_eq_true rfl) rfl rfl (by decide) (by decide) rfl ?_
  refine b_vr d_Al_tell_86 rfl ?_
  exact ⟨rfl, rfl, rfl, rfl, rfl⟩
theorem al_begin0 {d : Nat} (hd : 7 ≤ d) {op a : Int32} (hb : ¬ (¬ op < 0 ∧ ¬ Int32.ofNat 3 < op ∧ (¬ a < 0 ∧ ¬ Int32.ofNat 255 < a))) : bm d (S0 n0) R0 46 [.ref 1, .int op, .int a] W J g L (bX 0 W J (g + 1) L) := by
  obtain ⟨e, rfl⟩ : ∃ e, d = e + 1 := ⟨d - 1, by omega⟩
  refine bm_of (Nat.le_of_ble_eq_true rfl) (Or.inl (show 5 < e + 1 by omega)) ?_
  show bT e (S0 n0) R0 mt_Al_begin _ 0 [(0, .ref 1), (1, .int op), (2, .int a)] [] W J g L 0 0
  have hSR := SR0 n0
  refine b_iln (pc2 := 1) d_Al_begin_0 rfl rfl ?_
  refine b_ifd (pc2 := 16) d_Al_begin_1 rfl rfl rfl rfl rfl (fun h1 => ?_) (fun h1 => ?_)
  · refine b_thr d_Al_begin_16 q_10_67 rfl (by decide) (by decide) (Nat.le_of_ble_eq_true rfl) d_Al_begin_19 d_Al_begin_20 d_Al_begin_23 ?_
    exact ⟨rfl, rfl, rfl, rfl, rfl⟩
  · refine b_iln (pc2 := 5) d_Al_begin_4 rfl rfl ?_
    refine b_ic (pc2 := 6) (x := Int32.ofNat 3) d_Al_begin_5 rfl rfl ?_
    refine b_ifd (pc2 := 16) d_Al_begin_6 rfl rfl rfl rfl rfl (fun h6 => ?_) (fun h6 => ?_)
    · refine b_thr d_Al_begin_16 q_10_67 rfl (by decide) (by decide) (Nat.le_of_ble_eq_true rfl) d_Al_begin_19 d_Al_begin_20 d_Al_begin_23 ?_
      exact ⟨rfl, rfl, rfl, rfl, rfl⟩
    · refine b_iln (pc2 := 10) d_Al_begin_9 rfl rfl ?_
      refine b_cs1 (pc2 := 13) (c2 := 0) (u2 := 0) (al_isByte (by omega)) d_Al_begin_10 q_10_60 (Or.inl rfl) (Nat.le_of_ble_eq_true rfl) rfl rfl (Nat.le_of_ble_eq_true rfl) rfl rfl (by decide) (by decide) rfl ?_
      refine b_ifd (pc2 := 24) d_Al_begin_13 rfl rfl rfl rfl rfl (fun h13 => ?_) (fun h13 => ?_)
      · exact absurd ⟨h1, h6, Decidable.not_not.mp (fun z => h13 (if01.mpr z))⟩ hb
      · refine b_thr d_Al_begin_16 q_10_67 rfl (by decide) (by decide) (Nat.le_of_ble_eq_true rfl) d_Al_begin_19 d_Al_begin_20 d_Al_begin_23 ?_
        exact ⟨rfl, rfl, rfl, rfl, rfl⟩
theorem al_begin1 {d : Nat} (hd : 7 ≤ d) {op a : Int32} (hok : (¬ op < 0 ∧ ¬ Int32.ofNat 3 < op ∧ (¬ a < 0 ∧ ¬ Int32.ofNat 255 < a))) (hm : ¬ (J 1 8 = 0 ∧ (J 67 8 = -1 ∨ J 67 8 = Int32.ofNat 1 ∨ J 67 8 = Int32.ofNat 2))) : bm d (S0 n0) R0 46 [.ref 1, .int op, .int a] W J g L (bX 1 W J (g + 1) L) := by
  obtain ⟨e, rfl⟩ : ∃ e, d = e + 1 := ⟨d - 1, by omega⟩
  refine bm_of (Nat.le_of_ble_eq_true rfl) (Or.inl (show 5 < e + 1 by omega)) ?_
  show bT e (S0 n0) R0 mt_Al_begin _ 0 [(0, .ref 1), (1, .int op), (2, .int a)] [] W J g L 0 0
  have hSR := SR0 n0
  refine b_iln (pc2 := 1) d_Al_begin_0 rfl rfl ?_
  refine b_ifd (pc2 := 16) d_Al_begin_1 rfl rfl rfl rfl rfl (fun h1 => ?_) (fun h1 => ?_)
  · exact absurd h1 (hok.1)
  refine b_iln (pc2 := 5) d_Al_begin_4 rfl rfl ?_
  refine b_ic (pc2 := 6) (x := Int32.ofNat 3) d_Al_begin_5 rfl rfl ?_
  refine b_ifd (pc2 := 16) d_Al_begin_6 rfl rfl rfl rfl rfl (fun h6 => ?_) (fun h6 => ?_)
  · exact absurd h6 (hok.2.1)
  refine b_iln (pc2 := 10) d_Al_begin_9 rfl rfl ?_
  refine b_cs1 (pc2 := 13) (c2 := 0) (u2 := 0) (al_isByte (by omega)) d_Al_begin_10 q_10_60 (Or.inl rfl) (Nat.le_of_ble_eq_true rfl) rfl rfl (Nat.le_of_ble_eq_true rfl) rfl rfl (by decide) (by decide) rfl ?_
  refine b_ifd (pc2 := 24) d_Al_begin_13 rfl rfl rfl rfl rfl (fun h13 => ?_) (fun h13 => ?_)
  rotate_left
  · exact absurd (fun z => (if01.mp z) hok.2.2) h13
  refine b_aln (pc2 := 25) d_Al_begin_24 rfl rfl ?_
  refine b_cvX (c2 := 1) (u2 := 6) (al_idle1 (by omega) hm) d_Al_begin_25 q_10_117 (Nat.le_of_ble_eq_true rfl) rfl rfl (sh_1 n0) (Nat.le_of_ble_eq_true rfl) rfl rfl (by decide) (by decide) rfl ?_
  exact ⟨rfl, rfl, rfl, rfl, rfl⟩
theorem al_begin2 {d : Nat} (hd : 5 ≤ d) {op a : Int32} (hok : (¬ op < 0 ∧ ¬ Int32.ofNat 3 < op ∧ (¬ a < 0 ∧ ¬ Int32.ofNat 255 < a))) (hm : (J 1 8 = 0 ∧ (J 67 8 = -1 ∨ J 67 8 = Int32.ofNat 1 ∨ J 67 8 = Int32.ofNat 2))) (hS : ∀ e, 4 ≤ e → bm e (S0 n0) R0 49 [.ref 67, .int op, .int a, .long (Int64.ofNat 0), .int (Int32.ofNat 0), .ref 8] W J g L (bR none W1 J1 g L)) : bm d (S0 n0) R0 46 [.ref 1, .int op, .int a] W J g L (bR none W1 J1 g L) := by
  obtain ⟨e, rfl⟩ : ∃ e, d = e + 1 := ⟨d - 1, by omega⟩
  refine bm_of (Nat.le_of_ble_eq_true rfl) (Or.inr bR_ret) ?_
  show bT e (S0 n0) R0 mt_Al_begin _ 0 [(0, .ref 1), (1, .int op), (2, .int a)] [] W J g L 0 0
  have hSR := SR0 n0
  refine b_iln (pc2 := 1) d_Al_begin_0 rfl rfl ?_
  refine b_ifd (pc2 := 16) d_Al_begin_1 rfl rfl rfl rfl rfl (fun h1 => ?_) (fun h1 => ?_)
  · exact absurd h1 (hok.1)
  refine b_iln (pc2 := 5) d_Al_begin_4 rfl rfl ?_
  refine b_ic (pc2 := 6) (x := Int32.ofNat 3) d_Al_begin_5 rfl rfl ?_
  refine b_ifd (pc2 := 16) d_Al_begin_6 rfl rfl rfl rfl rfl (fun h6 => ?_) (fun h6 => ?_)
  · exact absurd h6 (hok.2.1)
  refine b_iln (pc2 := 10) d_Al_begin_9 rfl rfl ?_
  refine b_cs1 (pc2 := 13) (c2 := 0) (u2 := 0) (al_isByte (by omega)) d_Al_begin_10 q_10_60 (Or.inl rfl) (Nat.le_of_ble_eq_true rfl) rfl rfl (Nat.le_of_ble_eq_true rfl) rfl rfl (by decide) (by decide) rfl ?_
  refine b_ifd (pc2 := 24) d_Al_begin_13 rfl rfl rfl rfl rfl (fun h13 => ?_) (fun h13 => ?_)
  rotate_left
  · exact absurd (fun z => (if01.mp z) hok.2.2) h13
  refine b_aln (pc2 := 25) d_Al_begin_24 rfl rfl ?_
  refine b_cv0 (pc2 := 28) (c2 := 1) (u2 := 6) (al_idle0 (by omega) hm.1 hm.2) d_Al_begin_25 q_10_117 (Nat.le_of_ble_eq_true rfl) rfl rfl (sh_1 n0) (Nat.le_of_ble_eq_true rfl) rfl rfl (by decide) (by decide) rfl ?_
  refine b_aln (pc2 := 29) d_Al_begin_28 rfl rfl ?_
  refine b_gr (pc2 := 32) d_Al_begin_29 q_10_38 (sh_1 n0) (by decide) (by decide) (p_1_4 n0) rfl ?_
  refine b_iln (pc2 := 33) d_Al_begin_32 rfl rfl ?_
  refine b_iln (pc2 := 34) d_Al_begin_33 rfl rfl ?_
  refine b_pure (pc2 := 35) d_Al_begin_34 rfl rfl rfl ?_
  refine b_ic (pc2 := 36) (x := Int32.ofNat 0) d_Al_begin_35 rfl rfl ?_
  refine b_aln (pc2 := 37) d_Al_begin_36 rfl rfl ?_
  refine b_gr (pc2 := 40) d_Al_begin_37 q_10_28 (sh_1 n0) (by decide) (by decide) (p_1_2 n0) rfl ?_
  refine b_gr (pc2 := 43) d_Al_begin_40 q_10_101 (sh_7 n0) (by decide) (by decide) (p_7_0 n0) rfl ?_
  refine b_cv0 (pc2 := 46) (c2 := 1) (u2 := 6) (hS e (by omega)) d_Al_begin_43 q_10_120 (Nat.le_of_ble_eq_true rfl) rfl rfl (sh_67 n0) (Nat.le_of_ble_eq_true rfl) rfl rfl (by decide) (by decide) rfl ?_
  refine b_vr d_Al_begin_46 rfl ?_
  exact ⟨rfl, rfl, rfl, rfl, rfl⟩
theorem al_write0 {d : Nat} (hd : 7 ≤ d) {h n b : Int32} {v : Int64} (hb : ¬ ((¬ h < 0 ∧ ¬ Int32.ofNat 255 < h) ∧ (¬ n < 0 ∧ ¬ Int32.ofNat 8 < n) ∧ (¬ b = 0 ∨ n ≤ J 67 5 - Int32.ofNat 2))) : bm d (S0 n0) R0 56 [.ref 1, .int h, .long v, .int n, .int b] W J g L (bX 0 W J (g + 1) L) := by
  obtain ⟨e, rfl⟩ : ∃ e, d = e + 1 := ⟨d - 1, by omega⟩
  refine bm_of (Nat.le_of_ble_eq_true rfl) (Or.inl (show 5 < e + 1 by omega)) ?_
  show bT e (S0 n0) R0 mt_Al_write _ 0 [(0, .ref 1), (1, .int h), (2, .long v), (4, .int n), (5, .int b)] [] W J g L 0 0
  have hSR := SR0 n0
  refine b_iln (pc2 := 1) d_Al_write_0 rfl rfl ?_
  refine b_cs1 (pc2 := 4) (c2 := 0) (u2 := 0) (al_isByte (by omega)) d_Al_write_1 q_10_60 (Or.inl rfl) (Nat.le_of_ble_eq_true rfl) rfl rfl (Nat.le_of_ble_eq_true rfl) rfl rfl (by decide) (by decide) rfl ?_
  refine b_ifd (pc2 := 34) d_Al_write_4 rfl rfl rfl rfl rfl (fun h4 => ?_) (fun h4 => ?_)
  · refine b_thr d_Al_write_34 q_10_67 rfl (by decide) (by decide) (Nat.le_of_ble_eq_true rfl) d_Al_write_37 d_Al_write_38 d_Al_write_41 ?_
    exact ⟨rfl, rfl, rfl, rfl, rfl⟩
  · refine b_il (pc2 := 9) d_Al_write_7 rfl rfl ?_
    refine b_cs1 (pc2 := 12) (c2 := 0) (u2 := 0) (al_isSize (by omega)) d_Al_write_9 q_10_64 (Or.inl rfl) (Nat.le_of_ble_eq_true rfl) rfl rfl (Nat.le_of_ble_eq_true rfl) rfl rfl (by decide) (by decide) rfl ?_
    refine b_ifd (pc2 := 34) d_Al_write_12 rfl rfl rfl rfl rfl (fun h12 => ?_) (fun h12 => ?_)
    · refine b_thr d_Al_write_34 q_10_67 rfl (by decide) (by decide) (Nat.le_of_ble_eq_true rfl) d_Al_write_37 d_Al_write_38 d_Al_write_41 ?_
      exact ⟨rfl, rfl, rfl, rfl, rfl⟩
    · refine b_il (pc2 := 17) d_Al_write_15 rfl rfl ?_
      refine b_ifd (pc2 := 42) d_Al_write_17 rfl rfl rfl rfl rfl (fun h17 => ?_) (fun h17 => ?_)
      · exact (hb ⟨Decidable.not_not.mp (fun z => h4 (if01.mpr z)), Decidable.not_not.mp (fun z => h12 (if01.mpr z)), by first | exact Or.inl h17 | exact Or.inr h31⟩).elim
      · refine b_il (pc2 := 22) d_Al_write_20 rfl rfl ?_
        refine b_aln (pc2 := 23) d_Al_write_22 rfl rfl ?_
        refine b_gr (pc2 := 26) d_Al_write_23 q_10_38 (sh_1 n0) (by decide) (by decide) (p_1_4 n0) rfl ?_
        refine b_cv1 (pc2 := 29) (c2 := 0) (u2 := 0) (cl_limit (by omega)) d_Al_write_26 q_10_124 (Nat.le_of_ble_eq_true rfl) rfl rfl (sh_67 n0) (Nat.le_of_ble_eq_true rfl) rfl rfl (by decide) (by decide) rfl ?_
        refine b_ic (pc2 := 30) (x := Int32.ofNat 2) d_Al_write_29 rfl rfl ?_
        refine b_pure (pc2 := 31) d_Al_write_30 rfl rfl rfl ?_
        refine b_ifd (pc2 := 42) d_Al_write_31 rfl rfl rfl rfl rfl (fun h31 => ?_) (fun h31 => ?_)
        · exact (hb ⟨Decidable.not_not.mp (fun z => h4 (if01.mpr z)), Decidable.not_not.mp (fun z => h12 (if01.mpr z)), by first | exact Or.inl h17 | exact Or.inr h31⟩).elim
        · refine b_thr d_Al_write_34 q_10_67 rfl (by decide) (by decide) (Nat.le_of_ble_eq_true rfl) d_Al_write_37 d_Al_write_38 d_Al_write_41 ?_
          exact ⟨rfl, rfl, rfl, rfl, rfl⟩
theorem al_write1 {d : Nat} (hd : 7 ≤ d) {h n b : Int32} {v : Int64} (hok : ((¬ h < 0 ∧ ¬ Int32.ofNat 255 < h) ∧ (¬ n < 0 ∧ ¬ Int32.ofNat 8 < n) ∧ (¬ b = 0 ∨ n ≤ J 67 5 - Int32.ofNat 2))) (hm : ¬ (J 1 8 = 0 ∧ (J 67 8 = -1 ∨ J 67 8 = Int32.ofNat 1 ∨ J 67 8 = Int32.ofNat 2))) : bm d (S0 n0) R0 56 [.ref 1, .int h, .long v, .int n, .int b] W J g L (bX 1 W J (g + 1) L) := by
  obtain ⟨e, rfl⟩ : ∃ e, d = e + 1 := ⟨d - 1, by omega⟩
  refine bm_of (Nat.le_of_ble_eq_true rfl) (Or.inl (show 5 < e + 1 by omega)) ?_
  show bT e (S0 n0) R0 mt_Al_write _ 0 [(0, .ref 1), (1, .int h), (2, .long v), (4, .int n), (5, .int b)] [] W J g L 0 0
  have hSR := SR0 n0
  refine b_iln (pc2 := 1) d_Al_write_0 rfl rfl ?_
  refine b_cs1 (pc2 := 4) (c2 := 0) (u2 := 0) (al_isByte (by omega)) d_Al_write_1 q_10_60 (Or.inl rfl) (Nat.le_of_ble_eq_true rfl) rfl rfl (Nat.le_of_ble_eq_true rfl) rfl rfl (by decide) (by decide) rfl ?_
  refine b_ifd (pc2 := 34) d_Al_write_4 rfl rfl rfl rfl rfl (fun h4 => ?_) (fun h4 => ?_)
  · exact absurd h4 (fun z => (if01.mp z) hok.1)
  refine b_il (pc2 := 9) d_Al_write_7 rfl rfl ?_
  refine b_cs1 (pc2 := 12) (c2 := 0) (u2 := 0) (al_isSize (by omega)) d_Al_write_9 q_10_64 (Or.inl rfl) (Nat.le_of_ble_eq_true rfl) rfl rfl (Nat.le_of_ble_eq_true rfl) rfl rfl (by decide) (by decide) rfl ?_
  refine b_ifd (pc2 := 34) d_Al_write_12 rfl rfl rfl rfl rfl (fun h12 => ?_) (fun h12 => ?_)
  · exact absurd h12 (fun z => (if01.mp z) hok.2.1)
  refine b_il (pc2 := 17) d_Al_write_15 rfl rfl ?_
  refine b_ifd (pc2 := 42) d_Al_write_17 rfl rfl rfl rfl rfl (fun h17 => ?_) (fun h17 => ?_)
  · refine b_aln (pc2 := 43) d_Al_write_42 rfl rfl ?_
    refine b_cvX (c2 := 1) (u2 := 6) (al_idle1 (by omega) hm) d_Al_write_43 q_10_117 (Nat.le_of_ble_eq_true rfl) rfl rfl (sh_1 n0) (Nat.le_of_ble_eq_true rfl) rfl rfl (by decide) (by decide) rfl ?_
    exact ⟨rfl, rfl, rfl, rfl, rfl⟩
  · refine b_il (pc2 := 22) d_Al_write_20 rfl rfl ?_
    refine b_aln (pc2 := 23) d_Al_write_22 rfl rfl ?_
    refine b_gr (pc2 := 26) d_Al_write_23 q_10_38 (sh_1 n0) (by decide) (by decide) (p_1_4 n0) rfl ?_
    refine b_cv1 (pc2 := 29) (c2 := 0) (u2 := 0) (cl_limit (by omega)) d_Al_write_26 q_10_124 (Nat.le_of_ble_eq_true rfl) rfl rfl (sh_67 n0) (Nat.le_of_ble_eq_true rfl) rfl rfl (by decide) (by decide) rfl ?_
    refine b_ic (pc2 := 30) (x := Int32.ofNat 2) d_Al_write_29 rfl rfl ?_
    refine b_pure (pc2 := 31) d_Al_write_30 rfl rfl rfl ?_
    refine b_ifd (pc2 := 42) d_Al_write_31 rfl rfl rfl rfl rfl (fun h31 => ?_) (fun h31 => ?_)
    rotate_left
    · exact absurd (by rcases hok.2.2 with q | q; exact absurd h17 (fun z => z q); exact q) h31
    refine b_aln (pc2 := 43) d_Al_write_42 rfl rfl ?_
    refine b_cvX (c2 := 1) (u2 := 6) (al_idle1 (by omega) hm) d_Al_write_43 q_10_117 (Nat.le_of_ble_eq_true rfl) rfl rfl (sh_1 n0) (Nat.le_of_ble_eq_true rfl) rfl rfl (by decide) (by decide) rfl ?_
    exact ⟨rfl, rfl, rfl, rfl, rfl⟩
theorem al_write2 {d : Nat} (hd : 5 ≤ d) {h n b : Int32} {v : Int64} (hok : ((¬ h < 0 ∧ ¬ Int32.ofNat 255 < h) ∧ (¬ n < 0 ∧ ¬ Int32.ofNat 8 < n) ∧ (¬ b = 0 ∨ n ≤ J 67 5 - Int32.ofNat 2))) (hm : (J 1 8 = 0 ∧ (J 67 8 = -1 ∨ J 67 8 = Int32.ofNat 1 ∨ J 67 8 = Int32.ofNat 2))) (hb : b = 0) (hS : ∀ e, 4 ≤ e → bm e (S0 n0) R0 49 [.ref 67, .int (Int32.ofNat 4), .int h, .long v, .int n, .ref 8] W J g L (bR none W1 J1 g L)) : bm d (S0 n0) R0 56 [.ref 1, .int h, .long v, .int n, .int b] W J g L (bR none W1 J1 g L) := by
  obtain ⟨e, rfl⟩ : ∃ e, d = e + 1 := ⟨d - 1, by omega⟩
  refine bm_of (Nat.le_of_ble_eq_true rfl) (Or.inr bR_ret) ?_
  show bT e (S0 n0) R0 mt_Al_write _ 0 [(0, .ref 1), (1, .int h), (2, .long v), (4, .int n), (5, .int b)] [] W J g L 0 0
  have hSR := SR0 n0
  refine b_iln (pc2 := 1) d_Al_write_0 rfl rfl ?_
  refine b_cs1 (pc2 := 4) (c2 := 0) (u2 := 0) (al_isByte (by omega)) d_Al_write_1 q_10_60 (Or.inl rfl) (Nat.le_of_ble_eq_true rfl) rfl rfl (Nat.le_of_ble_eq_true rfl) rfl rfl (by decide) (by decide) rfl ?_
  refine b_ifd (pc2 := 34) d_Al_write_4 rfl rfl rfl rfl rfl (fun h4 => ?_) (fun h4 => ?_)
  · exact absurd h4 (fun z => (if01.mp z) hok.1)
  refine b_il (pc2 := 9) d_Al_write_7 rfl rfl ?_
  refine b_cs1 (pc2 := 12) (c2 := 0) (u2 := 0) (al_isSize (by omega)) d_Al_write_9 q_10_64 (Or.inl rfl) (Nat.le_of_ble_eq_true rfl) rfl rfl (Nat.le_of_ble_eq_true rfl) rfl rfl (by decide) (by decide) rfl ?_
  refine b_ifd (pc2 := 34) d_Al_write_12 rfl rfl rfl rfl rfl (fun h12 => ?_) (fun h12 => ?_)
  · exact absurd h12 (fun z => (if01.mp z) hok.2.1)
  refine b_il (pc2 := 17) d_Al_write_15 rfl rfl ?_
  refine b_ifd (pc2 := 42) d_Al_write_17 rfl rfl rfl rfl rfl (fun h17 => ?_) (fun h17 => ?_)
  · refine b_aln (pc2 := 43) d_Al_write_42 rfl rfl ?_
    refine b_cv0 (pc2 := 46) (c2 := 1) (u2 := 6) (al_idle0 (by omega) hm.1 hm.2) d_Al_write_43 q_10_117 (Nat.le_of_ble_eq_true rfl) rfl rfl (sh_1 n0) (Nat.le_of_ble_eq_true rfl) rfl rfl (by decide) (by decide) rfl ?_
    refine b_aln (pc2 := 47) d_Al_write_46 rfl rfl ?_
    refine b_gr (pc2 := 50) d_Al_write_47 q_10_38 (sh_1 n0) (by decide) (by decide) (p_1_4 n0) rfl ?_
    refine b_il (pc2 := 52) d_Al_write_50 rfl rfl ?_
    refine b_ifd (pc2 := 59) d_Al_write_52 rfl rfl rfl rfl rfl (fun h52 => ?_) (fun h52 => ?_)
    rotate_left
    · exact absurd (hb) h52
    refine b_ic (pc2 := 60) (x := Int32.ofNat 4) d_Al_write_59 rfl rfl ?_
    refine b_iln (pc2 := 61) d_Al_write_60 rfl rfl ?_
    refine b_lln (pc2 := 62) d_Al_write_61 rfl rfl ?_
    refine b_il (pc2 := 64) d_Al_write_62 rfl rfl ?_
    refine b_aln (pc2 := 65) d_Al_write_64 rfl rfl ?_
    refine b_gr (pc2 := 68) d_Al_write_65 q_10_28 (sh_1 n0) (by decide) (by decide) (p_1_2 n0) rfl ?_
    refine b_gr (pc2 := 71) d_Al_write_68 q_10_101 (sh_7 n0) (by decide) (by decide) (p_7_0 n0) rfl ?_
    refine b_cv0 (pc2 := 74) (c2 := 1) (u2 := 6) (hS e (by omega)) d_Al_write_71 q_10_120 (Nat.le_of_ble_eq_true rfl) rfl rfl (sh_67 n0) (Nat.le_of_ble_eq_true rfl) rfl rfl (by decide) (by decide) rfl ?_
    refine b_vr d_Al_write_74 rfl ?_
    exact ⟨rfl, rfl, rfl, rfl, rfl⟩
  · refine b_il (pc2 := 22) d_Al_write_20 rfl rfl ?_
    refine b_aln (pc2 := 23) d_Al_write_22 rfl rfl ?_
    refine b_gr (pc2 := 26) d_Al_write_23 q_10_38 (sh_1 n0) (by decide) (by decide) (p_1_4 n0) rfl ?_
    refine b_cv1 (pc2 := 29) (c2 := 0) (u2 := 0) (cl_limit (by omega)) d_Al_write_26 q_10_124 (Nat.le_of_ble_eq_true rfl) rfl rfl (sh_67 n0) (Nat.le_of_ble_eq_true rfl) rfl rfl (by decide) (by decide) rfl ?_
    refine b_ic (pc2 := 30) (x := Int32.ofNat 2) d_Al_write_29 rfl rfl ?_
    refine b_pure (pc2 := 31) d_Al_write_30 rfl rfl rfl ?_
    refine b_ifd (pc2 := 42) d_Al_write_31 rfl rfl rfl rfl rfl (fun h31 => ?_) (fun h31 => ?_)
    rotate_left
    · exact absurd (by rcases hok.2.2 with q | q; exact absurd h17 (fun z => z q); exact q) h31
    refine b_aln (pc2 := 43) d_Al_write_42 rfl rfl ?_
    refine b_cv0 (pc2 := 46) (c2 := 1) (u2 := 6) (al_idle0 (by omega) hm.1 hm.2) d_Al_write_43 q_10_117 (Nat.le_of_ble_eq_true rfl) rfl rfl (sh_1 n0) (Nat.le_of_ble_eq_true rfl) rfl rfl (by decide) (by decide) rfl ?_
    refine b_aln (pc2 := 47) d_Al_write_46 rfl rfl ?_
    refine b_gr (pc2 := 50) d_Al_write_47 q_10_38 (sh_1 n0) (by decide) (by decide) (p_1_4 n0) rfl ?_
    refine b_il (pc2 := 52) d_Al_write_50 rfl rfl ?_
    refine b_ifd (pc2 := 59) d_Al_write_52 rfl rfl rfl rfl rfl (fun h52 => ?_) (fun h52 => ?_)
    rotate_left
    · exact absurd (hb) h52
    refine b_ic (pc2 := 60) (x := Int32.ofNat 4) d_Al_write_59 rfl rfl ?_
    refine b_iln (pc2 := 61) d_Al_write_60 rfl rfl ?_
    refine b_lln (pc2 := 62) d_Al_write_61 rfl rfl ?_
    refine b_il (pc2 := 64) d_Al_write_62 rfl rfl ?_
    refine b_aln (pc2 := 65) d_Al_write_64 rfl rfl ?_
    refine b_gr (pc2 := 68) d_Al_write_65 q_10_28 (sh_1 n0) (by decide) (by decide) (p_1_2 n0) rfl ?_
    refine b_gr (pc2 := 71) d_Al_write_68 q_10_101 (sh_7 n0) (by decide) (by decide) (p_7_0 n0) rfl ?_
    refine b_cv0 (pc2 := 74) (c2 := 1) (u2 := 6) (hS e (by omega)) d_Al_write_71 q_10_120 (Nat.le_of_ble_eq_true rfl) rfl rfl (sh_67 n0) (Nat.le_of_ble_eq_true rfl) rfl rfl (by decide) (by decide) rfl ?_
    refine b_vr d_Al_write_74 rfl ?_
    exact ⟨rfl, rfl, rfl, rfl, rfl⟩
theorem al_write3 {d : Nat} (hd : 5 ≤ d) {h n b : Int32} {v : Int64} (hok : ((¬ h < 0 ∧ ¬ Int32.ofNat 255 < h) ∧ (¬ n < 0 ∧ ¬ Int32.ofNat 8 < n) ∧ (¬ b = 0 ∨ n ≤ J 67 5 - Int32.ofNat 2))) (hm : (J 1 8 = 0 ∧ (J 67 8 = -1 ∨ J 67 8 = Int32.ofNat 1 ∨ J 67 8 = Int32.ofNat 2))) (hb : ¬ b = 0) (hS : ∀ e, 4 ≤ e → bm e (S0 n0) R0 49 [.ref 67, .int (Int32.ofNat 5), .int h, .long v, .int n, .ref 8] W J g L (bR none W1 J1 g L)) : bm d (S0 n0) R0 56 [.ref 1, .int h, .long v, .int n, .int b] W J g L (bR none W1 J1 g L) := by
  obtain ⟨e, rfl⟩ : ∃ e, d = e + 1 := ⟨d - 1, by omega⟩
  refine bm_of (Nat.le_of_ble_eq_true rfl) (Or.inr bR_ret) ?_
  show bT e (S0 n0) R0 mt_Al_write _ 0 [(0, .ref 1), (1, .int h), (2, .long v), (4, .int n), (5, .int b)] [] W J g L 0 0
  have hSR := SR0 n0
  refine b_iln (pc2 := 1) d_Al_write_0 rfl rfl ?_
  refine b_cs1 (pc2 := 4) (c2 := 0) (u2 := 0) (al_isByte (by omega)) d_Al_write_1 q_10_60 (Or.inl rfl) (Nat.le_of_ble_eq_true rfl) rfl rfl (Nat.le_of_ble_eq_true rfl) rfl rfl (by decide) (by decide) rfl ?_
  refine b_ifd (pc2 := 34) d_Al_write_4 rfl rfl rfl rfl rfl (fun h4 => ?_) (fun h4 => ?_)
  · exact absurd h4 (fun z => (if01.mp z) hok.1)
  refine b_il (pc2 := 9) d_Al_write_7 rfl rfl ?_
  refine b_cs1 (pc2 := 12) (c2 := 0) (u2 := 0) (al_isSize (by omega)) d_Al_write_9 q_10_64 (Or.inl rfl) (Nat.le_of_ble_eq_true rfl) rfl rfl (Nat.le_of_ble_eq_true rfl) rfl rfl (by decide) (by decide) rfl ?_
  refine b_ifd (pc2 := 34) d_Al_write_12 rfl rfl rfl rfl rfl (fun h12 => ?_) (fun h12 => ?_)
  · exact absurd h12 (fun z => (if01.mp z) hok.2.1)
  refine b_il (pc2 := 17) d_Al_write_15 rfl rfl ?_
  refine b_ifd (pc2 := 42) d_Al_write_17 rfl rfl rfl rfl rfl (fun h17 => ?_) (fun h17 => ?_)
  · refine b_aln (pc2 := 43) d_Al_write_42 rfl rfl ?_
    refine b_cv0 (pc2 := 46) (c2 := 1) (u2 := 6) (al_idle0 (by omega) hm.1 hm.2) d_Al_write_43 q_10_117 (Nat.le_of_ble_eq_true rfl) rfl rfl (sh_1 n0) (Nat.le_of_ble_eq_true rfl) rfl rfl (by decide) (by decide) rfl ?_
    refine b_aln (pc2 := 47) d_Al_write_46 rfl rfl ?_
    refine b_gr (pc2 := 50) d_Al_write_47 q_10_38 (sh_1 n0) (by decide) (by decide) (p_1_4 n0) rfl ?_
    refine b_il (pc2 := 52) d_Al_write_50 rfl rfl ?_
    refine b_ifd (pc2 := 59) d_Al_write_52 rfl rfl rfl rfl rfl (fun h52 => ?_) (fun h52 => ?_)
    · exact absurd h52 (hb)
    refine b_ic (pc2 := 56) (x := Int32.ofNat 5) d_Al_write_55 rfl rfl ?_
    refine b_go (pc2 := 60) d_Al_write_56 rfl ?_
    refine b_iln (pc2 := 61) d_Al_write_60 rfl rfl ?_
    refine b_lln (pc2 := 62) d_Al_write_61 rfl rfl ?_
    refine b_il (pc2 := 64) d_Al_write_62 rfl rfl ?_
    refine b_aln (pc2 := 65) d_Al_write_64 rfl rfl ?_
    refine b_gr (pc2 := 68) d_Al_write_65 q_10_28 (sh_1 n0) (by decide) (by decide) (p_1_2 n0) rfl ?_
    refine b_gr (pc2 := 71) d_Al_write_68 q_10_101 (sh_7 n0) (by decide) (by decide) (p_7_0 n0) rfl ?_
    refine b_cv0 (pc2 := 74) (c2 := 1) (u2 := 6) (hS e (by omega)) d_Al_write_71 q_10_120 (Nat.le_of_ble_eq_true rfl) rfl rfl (sh_67 n0) (Nat.le_of_ble_eq_true rfl) rfl rfl (by decide) (by decide) rfl ?_
    refine b_vr d_Al_write_74 rfl ?_
    exact ⟨rfl, rfl, rfl, rfl, rfl⟩
  · refine b_il (pc2 := 22) d_Al_write_20 rfl rfl ?_
    refine b_aln (pc2 := 23) d_Al_write_22 rfl rfl ?_
    refine b_gr (pc2 := 26) d_Al_write_23 q_10_38 (sh_1 n0) (by decide) (by decide) (p_1_4 n0) rfl ?_
    refine b_cv1 (pc2 := 29) (c2 := 0) (u2 := 0) (cl_limit (by omega)) d_Al_write_26 q_10_124 (Nat.le_of_ble_eq_true rfl) rfl rfl (sh_67 n0) (Nat.le_of_ble_eq_true rfl) rfl rfl (by decide) (by decide) rfl ?_
    refine b_ic (pc2 := 30) (x := Int32.ofNat 2) d_Al_write_29 rfl rfl ?_
    refine b_pure (pc2 := 31) d_Al_write_30 rfl rfl rfl ?_
    refine b_ifd (pc2 := 42) d_Al_write_31 rfl rfl rfl rfl rfl (fun h31 => ?_) (fun h31 => ?_)
    rotate_left
    · exact absurd (by rcases hok.2.2 with q | q; exact absurd h17 (fun z => z q); exact q) h31
    refine b_aln (pc2 := 43) d_Al_write_42 rfl rfl ?_
    refine b_cv0 (pc2 := 46) (c2 := 1) (u2 := 6) (al_idle0 (by omega) hm.1 hm.2) d_Al_write_43 q_10_117 (Nat.le_of_ble_eq_true rfl) rfl rfl (sh_1 n0) (Nat.le_of_ble_eq_true rfl) rfl rfl (by decide) (by decide) rfl ?_
    refine b_aln (pc2 := 47) d_Al_write_46 rfl rfl ?_
    refine b_gr (pc2 := 50) d_Al_write_47 q_10_38 (sh_1 n0) (by decide) (by decide) (p_1_4 n0) rfl ?_
    refine b_il (pc2 := 52) d_Al_write_50 rfl rfl ?_
    refine b_ifd (pc2 := 59) d_Al_write_52 rfl rfl rfl rfl rfl (fun h52 => ?_) (fun h52 => ?_)
    · exact absurd h52 (hb)
    refine b_ic (pc2 := 56) (x := Int32.ofNat 5) d_Al_write_55 rfl rfl ?_
    refine b_go (pc2 := 60) d_Al_write_56 rfl ?_
    refine b_iln (pc2 := 61) d_Al_write_60 rfl rfl ?_
    refine b_lln (pc2 := 62) d_Al_write_61 rfl rfl ?_
    refine b_il (pc2 := 64) d_Al_write_62 rfl rfl ?_
    refine b_aln (pc2 := 65) d_Al_write_64 rfl rfl ?_
    refine b_gr (pc2 := 68) d_Al_write_65 q_10_28 (sh_1 n0) (by decide) (by decide) (p_1_2 n0) rfl ?_
    refine b_gr (pc2 := 71) d_Al_write_68 q_10_101 (sh_7 n0) (by decide) (by decide) (p_7_0 n0) rfl ?_
    refine b_cv0 (pc2 := 74) (c2 := 1) (u2 := 6) (hS e (by omega)) d_Al_write_71 q_10_120 (Nat.le_of_ble_eq_true rfl) rfl rfl (sh_67 n0) (Nat.le_of_ble_eq_true rfl) rfl rfl (by decide) (by decide) rfl ?_
    refine b_vr d_Al_write_74 rfl ?_
    exact ⟨rfl, rfl, rfl, rfl, rfl⟩
theorem al_raw0 {d : Nat} (hd : 7 ≤ d) {n : Int32} {v : Int64} (hb : ¬ (¬ n = 0 ∧ (¬ n < 0 ∧ ¬ Int32.ofNat 8 < n))) : bm d (S0 n0) R0 58 [.ref 1, .long v, .int n] W J g L (bX 0 W J (g + 1) L) := by
  obtain ⟨e, rfl⟩ : ∃ e, d = e + 1 := ⟨d - 1, by omega⟩
  refine bm_of (Nat.le_of_ble_eq_true rfl) (Or.inl (show 5 < e + 1 by omega)) ?_
  show bT e (S0 n0) R0 mt_Al_raw _ 0 [(0, .ref 1), (1, .long v), (3, .int n)] [] W J g L 0 0
  have hSR := SR0 n0
  refine b_iln (pc2 := 1) d_Al_raw_0 rfl rfl ?_
  refine b_ifd (pc2 := 11) d_Al_raw_1 rfl rfl rfl rfl rfl (fun h1 => ?_) (fun h1 => ?_)
  · refine b_thr d_Al_raw_11 q_10_67 rfl (by decide) (by decide) (Nat.le_of_ble_eq_true rfl) d_Al_raw_14 d_Al_raw_15 d_Al_raw_18 ?_
    exact ⟨rfl, rfl, rfl, rfl, rfl⟩
  · refine b_iln (pc2 := 5) d_Al_raw_4 rfl rfl ?_
    refine b_cs1 (pc2 := 8) (c2 := 0) (u2 := 0) (al_isSize (by omega)) d_Al_raw_5 q_10_64 (Or.inl rfl) (Nat.le_of_ble_eq_true rfl) rfl rfl (Nat.le_of_ble_eq_true rfl) rfl rfl (by decide) (by decide) rfl ?_
    refine b_ifd (pc2 := 19) d_Al_raw_8 rfl rfl rfl rfl rfl (fun h8 => ?_) (fun h8 => ?_)
    · exact absurd ⟨h1, Decidable.not_not.mp (fun z => h8 (if01.mpr z))⟩ hb
    · refine b_thr d_Al_raw_11 q_10_67 rfl (by decide) (by decide) (Nat.le_of_ble_eq_true rfl) d_Al_raw_14 d_Al_raw_15 d_Al_raw_18 ?_
      exact ⟨rfl, rfl, rfl, rfl, rfl⟩
theorem al_raw1 {d : Nat} (hd : 7 ≤ d) {n : Int32} {v : Int64} (hok : (¬ n = 0 ∧ (¬ n < 0 ∧ ¬ Int32.ofNat 8 < n))) (hm : ¬ (J 1 8 = 0 ∧ (J 67 8 = -1 ∨ J 67 8 = Int32.ofNat 1 ∨ J 67 8 = Int32.ofNat 2))) : bm d (S0 n0) R0 58 [.ref 1, .long v, .int n] W J g L (bX 1 W J (g + 1) L) := by
  obtain ⟨e, rfl⟩ : ∃ e, d = e + 1 := ⟨d - 1, by omega⟩
  refine bm_of (Nat.le_of_ble_eq_true rfl) (Or.inl (show 5 < e + 1 by omega)) ?_
  show bT e (S0 n0) R0 mt_Al_raw _ 0 [(0, .ref 1), (1, .long v), (3, .int n)] [] W J g L 0 0
  have hSR := SR0 n0
  refine b_iln (pc2 := 1) d_Al_raw_0 rfl rfl ?_
  refine b_ifd (pc2 := 11) d_Al_raw_1 rfl rfl rfl rfl rfl (fun h1 => ?_) (fun h1 => ?_)
  · exact absurd h1 (hok.1)
  refine b_iln (pc2 := 5) d_Al_raw_4 rfl rfl ?_
  refine b_cs1 (pc2 := 8) (c2 := 0) (u2 := 0) (al_isSize (by omega)) d_Al_raw_5 q_10_64 (Or.inl rfl) (Nat.le_of_ble_eq_true rfl) rfl rfl (Nat.le_of_ble_eq_true rfl) rfl rfl (by decide) (by decide) rfl ?_
  refine b_ifd (pc2 := 19) d_Al_raw_8 rfl rfl rfl rfl rfl (fun h8 => ?_) (fun h8 => ?_)
  rotate_left
  · exact absurd (fun z => (if01.mp z) hok.2) h8
  refine b_aln (pc2 := 20) d_Al_raw_19 rfl rfl ?_
  refine b_cvX (c2 := 1) (u2 := 6) (al_idle1 (by omega) hm) d_Al_raw_20 q_10_117 (Nat.le_of_ble_eq_true rfl) rfl rfl (sh_1 n0) (Nat.le_of_ble_eq_true rfl) rfl rfl (by decide) (by decide) rfl ?_
  exact ⟨rfl, rfl, rfl, rfl, rfl⟩
theorem al_raw2 {d : Nat} (hd : 5 ≤ d) {n : Int32} {v : Int64} (hok : (¬ n = 0 ∧ (¬ n < 0 ∧ ¬ Int32.ofNat 8 < n))) (hm : (J 1 8 = 0 ∧ (J 67 8 = -1 ∨ J 67 8 = Int32.ofNat 1 ∨ J 67 8 = Int32.ofNat 2))) (hS : ∀ e, 4 ≤ e → bm e (S0 n0) R0 49 [.ref 67, .int (Int32.ofNat 6), .int (Int32.ofNat 0), .long v, .int n, .ref 8] W J g L (bR none W1 J1 g L)) : bm d (S0 n0) R0 58 [.ref 1, .long v, .int n] W J g L (bR none W1 J1 g L) := by
  obtain ⟨e, rfl⟩ : ∃ e, d = e + 1 := ⟨d - 1, by omega⟩
  refine bm_of (Nat.le_of_ble_eq_true rfl) (Or.inr bR_ret) ?_
  show bT e (S0 n0) R0 mt_Al_raw _ 0 [(0, .ref 1), (1, .long v), (3, .int n)] [] W J g L 0 0
  have hSR := SR0 n0
  refine b_iln (pc2 := 1) d_Al_raw_0 rfl rfl ?_
  refine b_ifd (pc2 := 11) d_Al_raw_1 rfl rfl rfl rfl rfl (fun h1 => ?_) (fun h1 => ?_)
  · exact absurd h1 (hok.1)
  refine b_iln (pc2 := 5) d_Al_raw_4 rfl rfl ?_
  refine b_cs1 (pc2 := 8) (c2 := 0) (u2 := 0) (al_isSize (by omega)) d_Al_raw_5 q_10_64 (Or.inl rfl) (Nat.le_of_ble_eq_true rfl) rfl rfl (Nat.le_of_ble_eq_true rfl) rfl rfl (by decide) (by decide) rfl ?_
  refine b_ifd (pc2 := 19) d_Al_raw_8 rfl rfl rfl rfl rfl (fun h8 => ?_) (fun h8 => ?_)
  rotate_left
  · exact absurd (fun z => (if01.mp z) hok.2) h8
  refine b_aln (pc2 := 20) d_Al_raw_19 rfl rfl ?_
  refine b_cv0 (pc2 := 23) (c2 := 1) (u2 := 6) (al_idle0 (by omega) hm.1 hm.2) d_Al_raw_20 q_10_117 (Nat.le_of_ble_eq_true rfl) rfl rfl (sh_1 n0) (Nat.le_of_ble_eq_true rfl) rfl rfl (by decide) (by decide) rfl ?_
  refine b_aln (pc2 := 24) d_Al_raw_23 rfl rfl ?_
  refine b_gr (pc2 := 27) d_Al_raw_24 q_10_38 (sh_1 n0) (by decide) (by decide) (p_1_4 n0) rfl ?_
  refine b_bp (pc2 := 29) (x := Int32.ofNat 6) d_Al_raw_27 rfl rfl ?_
  refine b_ic (pc2 := 30) (x := Int32.ofNat 0) d_Al_raw_29 rfl rfl ?_
  refine b_lln (pc2 := 31) d_Al_raw_30 rfl rfl ?_
  refine b_iln (pc2 := 32) d_Al_raw_31 rfl rfl ?_
  refine b_aln (pc2 := 33) d_Al_raw_32 rfl rfl ?_
  refine b_gr (pc2 := 36) d_Al_raw_33 q_10_28 (sh_1 n0) (by decide) (by decide) (p_1_2 n0) rfl ?_
  refine b_gr (pc2 := 39) d_Al_raw_36 q_10_101 (sh_7 n0) (by decide) (by decide) (p_7_0 n0) rfl ?_
  refine b_cv0 (pc2 := 42) (c2 := 1) (u2 := 6) (hS e (by omega)) d_Al_raw_39 q_10_120 (Nat.le_of_ble_eq_true rfl) rfl rfl (sh_67 n0) (Nat.le_of_ble_eq_true rfl) rfl rfl (by decide) (by decide) rfl ?_
  refine b_vr d_Al_raw_42 rfl ?_
  exact ⟨rfl, rfl, rfl, rfl, rfl⟩
theorem al_outcome0 {d : Nat} (hd : 6 ≤ d) (hs : J 67 8 = -1) : bm d (S0 n0) R0 113 [.ref 1] W J g L (bX 2 W J (g + 1) L) := by
  obtain ⟨e, rfl⟩ : ∃ e, d = e + 1 := ⟨d - 1, by omega⟩
  refine bm_of (Nat.le_of_ble_eq_true rfl) (Or.inl (show 5 < e + 1 by omega)) ?_
  show bT e (S0 n0) R0 mt_Al_outcome _ 0 [(0, .ref 1)] [] W J g L 0 0
  have hSR := SR0 n0
  refine b_aln (pc2 := 1) d_Al_outcome_0 rfl rfl ?_
  refine b_gr (pc2 := 4) d_Al_outcome_1 q_10_38 (sh_1 n0) (by decide) (by decide) (p_1_4 n0) rfl ?_
  refine b_cv1 (pc2 := 7) (c2 := 0) (u2 := 0) (cl_state (by omega)) d_Al_outcome_4 q_10_131 (Nat.le_of_ble_eq_true rfl) rfl rfl (sh_67 n0) (Nat.le_of_ble_eq_true rfl) rfl rfl (by decide) (by decide) rfl ?_
  refine b_ic (pc2 := 8) (x := -1) d_Al_outcome_7 rfl rfl ?_
  refine b_ifd (pc2 := 19) d_Al_outcome_8 rfl rfl rfl rfl rfl (fun h8 => ?_) (fun h8 => ?_)
  · exact absurd h8 (fun z => z hs)
  refine b_thr d_Al_outcome_11 q_10_134 rfl (by decide) (by decide) (Nat.le_of_ble_eq_true rfl) d_Al_outcome_14 d_Al_outcome_15 d_Al_outcome_18 ?_
  exact ⟨rfl, rfl, rfl, rfl, rfl⟩
theorem al_outcome1 {d : Nat} (hd : 2 ≤ d) (hs : ¬ J 67 8 = -1) : bm d (S0 n0) R0 113 [.ref 1] W J g L (bR (some (.int (J 67 8))) W J g L) := by
  obtain ⟨e, rfl⟩ : ∃ e, d = e + 1 := ⟨d - 1, by omega⟩
  refine bm_of (Nat.le_of_ble_eq_true rfl) (Or.inr bR_ret) ?_
  show bT e (S0 n0) R0 mt_Al_outcome _ 0 [(0, .ref 1)] [] W J g L 0 0
  have hSR := SR0 n0
  refine b_aln (pc2 := 1) d_Al_outcome_0 rfl rfl ?_
  refine b_gr (pc2 := 4) d_Al_outcome_1 q_10_38 (sh_1 n0) (by decide) (by decide) (p_1_4 n0) rfl ?_
  refine b_cv1 (pc2 := 7) (c2 := 0) (u2 := 0) (cl_state (by omega)) d_Al_outcome_4 q_10_131 (Nat.le_of_ble_eq_true rfl) rfl rfl (sh_67 n0) (Nat.le_of_ble_eq_true rfl) rfl rfl (by decide) (by decide) rfl ?_
  refine b_ic (pc2 := 8) (x := -1) d_Al_outcome_7 rfl rfl ?_
  refine b_ifd (pc2 := 19) d_Al_outcome_8 rfl rfl rfl rfl rfl (fun h8 => ?_) (fun h8 => ?_)
  rotate_left
  · exact absurd (hs) h8
  refine b_aln (pc2 := 20) d_Al_outcome_19 rfl rfl ?_
  refine b_gr (pc2 := 23) d_Al_outcome_20 q_10_38 (sh_1 n0) (by decide) (by decide) (p_1_4 n0) rfl ?_
  refine b_cv1 (pc2 := 26) (c2 := 0) (u2 := 0) (cl_state (by omega)) d_Al_outcome_23 q_10_131 (Nat.le_of_ble_eq_true rfl) rfl rfl (sh_67 n0) (Nat.le_of_ble_eq_true rfl) rfl rfl (by decide) (by decide) rfl ?_
  refine b_ir d_Al_outcome_26 rfl ?_
  exact ⟨rfl, rfl, rfl, rfl, rfl⟩
theorem al_error {d : Nat} (hd : 2 ≤ d)  : bm d (S0 n0) R0 16 [.ref 1] W J g L (bR (some (.int (J 67 9))) W J g L) := by
  obtain ⟨e, rfl⟩ : ∃ e, d = e + 1 := ⟨d - 1, by omega⟩
  refine bm_of (Nat.le_of_ble_eq_true rfl) (Or.inr bR_ret) ?_
  show bT e (S0 n0) R0 mt_Al_error _ 0 [(0, .ref 1)] [] W J g L 0 0
  have hSR := SR0 n0
  refine b_aln (pc2 := 1) d_Al_error_0 rfl rfl ?_
  refine b_gr (pc2 := 4) d_Al_error_1 q_10_38 (sh_1 n0) (by decide) (by decide) (p_1_4 n0) rfl ?_
  refine b_cv1 (pc2 := 7) (c2 := 0) (u2 := 0) (cl_failure (by omega)) d_Al_error_4 q_10_137 (Nat.le_of_ble_eq_true rfl) rfl rfl (sh_67 n0) (Nat.le_of_ble_eq_true rfl) rfl rfl (by decide) (by decide) rfl ?_
  refine b_ir d_Al_error_7 rfl ?_
  exact ⟨rfl, rfl, rfl, rfl, rfl⟩
theorem al_data_l {d : Nat} (hd : 3 ≤ d)  : bm d (S0 n0) R0 116 [.ref 1, .int (-1)] W J g L (bR (some (.int (Int32.ofNat (W 78).length))) W J g L) := by
  obtain ⟨e, rfl⟩ : ∃ e, d = e + 1 := ⟨d - 1, by omega⟩
  refine bm_of (Nat.le_of_ble_eq_true rfl) (Or.inr bR_ret) ?_
  show bT e (S0 n0) R0 mt_Al_data _ 0 [(0, .ref 1), (1, .int (-1))] [] W J g L 0 0
  have hSR := SR0 n0
  refine b_aln (pc2 := 1) d_Al_data_0 rfl rfl ?_
  refine b_gr (pc2 := 4) d_Al_data_1 q_10_38 (sh_1 n0) (by decide) (by decide) (p_1_4 n0) rfl ?_
  refine b_gr (pc2 := 7) d_Al_data_4 q_10_140 (sh_67 n0) (by decide) (by decide) (p_67_1 n0) rfl ?_
  refine b_iln (pc2 := 8) d_Al_data_7 rfl rfl ?_
  refine b_cs1 (pc2 := 11) (c2 := 1) (u2 := 6) (al_bol0 (by omega) (R_78)) d_Al_data_8 q_10_144 (Or.inl rfl) (Nat.le_of_ble_eq_true rfl) rfl rfl (Nat.le_of_ble_eq_true rfl) rfl rfl (by decide) (by decide) rfl ?_
  refine b_ir d_Al_data_11 rfl ?_
  exact ⟨rfl, rfl, rfl, rfl, rfl⟩
theorem al_data_k {d : Nat} (hd : 3 ≤ d)  {k : Nat} (hk : k < (W 78).length) : bm d (S0 n0) R0 116 [.ref 1, .int (Int32.ofNat k)] W J g L (bR (some (.int ((W 78).getD k 0))) W J g L) := by
  obtain ⟨e, rfl⟩ : ∃ e, d = e + 1 := ⟨d - 1, by omega⟩
  refine bm_of (Nat.le_of_ble_eq_true rfl) (Or.inr bR_ret) ?_
  show bT e (S0 n0) R0 mt_Al_data _ 0 [(0, .ref 1), (1, .int (Int32.ofNat k))] [] W J g L 0 0
  have hSR := SR0 n0
  refine b_aln (pc2 := 1) d_Al_data_0 rfl rfl ?_
  refine b_gr (pc2 := 4) d_Al_data_1 q_10_38 (sh_1 n0) (by decide) (by decide) (p_1_4 n0) rfl ?_
  refine b_gr (pc2 := 7) d_Al_data_4 q_10_140 (sh_67 n0) (by decide) (by decide) (p_67_1 n0) rfl ?_
  refine b_iln (pc2 := 8) d_Al_data_7 rfl rfl ?_
  refine b_cs1 (pc2 := 11) (c2 := 1) (u2 := 6) (al_bol1 (by omega) (R_78) hk) d_Al_data_8 q_10_144 (Or.inl rfl) (Nat.le_of_ble_eq_true rfl) rfl rfl (Nat.le_of_ble_eq_true rfl) rfl rfl (by decide) (by decide) rfl ?_
  refine b_ir d_Al_data_11 rfl ?_
  exact ⟨rfl, rfl, rfl, rfl, rfl⟩
theorem al_data_x {d : Nat} (hd : 7 ≤ d)  {k : Int32} (hk : ¬ k = -1) (hb : ¬ (¬ k < 0 ∧ k < Int32.ofNat (W 78).length)) : bm d (S0 n0) R0 116 [.ref 1, .int k] W J g L (bX 3 W J (g + 1) L) := by
  obtain ⟨e, rfl⟩ : ∃ e, d = e + 1 := ⟨d - 1, by omega⟩
  refine bm_of (Nat.le_of_ble_eq_true rfl) (Or.inl (show 5 < e + 1 by omega)) ?_
  show bT e (S0 n0) R0 mt_Al_data _ 0 [(0, .ref 1), (1, .int k)] [] W J g L 0 0
  have hSR := SR0 n0
  refine b_aln (pc2 := 1) d_Al_data_0 rfl rfl ?_
  refine b_gr (pc2 := 4) d_Al_data_1 q_10_38 (sh_1 n0) (by decide) (by decide) (p_1_4 n0) rfl ?_
  refine b_gr (pc2 := 7) d_Al_data_4 q_10_140 (sh_67 n0) (by decide) (by decide) (p_67_1 n0) rfl ?_
  refine b_iln (pc2 := 8) d_Al_data_7 rfl rfl ?_
  refine b_csX (c2 := 1) (u2 := 6) (al_bol2 (by omega) (R_78) hk hb) d_Al_data_8 q_10_144 (Or.inl rfl) (Nat.le_of_ble_eq_true rfl) rfl rfl (Nat.le_of_ble_eq_true rfl) rfl rfl (by decide) (by decide) rfl ?_
  exact ⟨rfl, rfl, rfl, rfl, rfl⟩
theorem al_note0 {d : Nat} (hd : 6 ≤ d) {n k : Int32} (hb : ¬ (¬ n < 0 ∧ n < J 68 1)) : bm d (S0 n0) R0 120 [.ref 1, .int n, .int k] W J g L (bX 2 W J (g + 1) L) := by
  obtain ⟨e, rfl⟩ : ∃ e, d = e + 1 := ⟨d - 1, by omega⟩
  refine bm_of (Nat.le_of_ble_eq_true rfl) (Or.inl (show 5 < e + 1 by omega)) ?_
  show bT e (S0 n0) R0 mt_Al_note _ 0 [(0, .ref 1), (1, .int n), (2, .int k)] [] W J g L 0 0
  have hSR := SR0 n0
  refine b_aln (pc2 := 1) d_Al_note_0 rfl rfl ?_
  refine b_gr (pc2 := 4) d_Al_note_1 q_10_38 (sh_1 n0) (by decide) (by decide) (p_1_4 n0) rfl ?_
  refine b_gr (pc2 := 7) d_Al_note_4 q_10_148 (sh_67 n0) (by decide) (by decide) (p_67_0 n0) rfl ?_
  refine b_iln (pc2 := 8) d_Al_note_7 rfl rfl ?_
  refine b_cv1 (pc2 := 11) (c2 := 0) (u2 := 0) (no_has (by omega)) d_Al_note_8 q_10_152 (Nat.le_of_ble_eq_true rfl) rfl rfl (sh_68 n0) (Nat.le_of_ble_eq_true rfl) rfl rfl (by decide) (by decide) rfl ?_
  rw [if_neg hb]
  refine b_ifd (pc2 := 22) d_Al_note_11 rfl rfl rfl rfl rfl (fun h11 => ?_) (fun h11 => ?_)
  · exact absurd h11 (fun z => z rfl)
  refine b_thr d_Al_note_14 q_10_134 rfl (by decide) (by decide) (Nat.le_of_ble_eq_true rfl) d_Al_note_17 d_Al_note_18 d_Al_note_21 ?_
  exact ⟨rfl, rfl, rfl, rfl, rfl⟩
theorem al_note_l {d : Nat} (hd : 3 ≤ d) {a b cn : Nat} (hnw : J 68 2 = Int32.ofNat a) (ha : a < 4) (hcn : J 68 1 = Int32.ofNat cn) (hcn4 : cn ≤ 4) (hbc : b < cn) : bm d (S0 n0) R0 120 [.ref 1, .int (Int32.ofNat b), .int (-1)] W J g L (bR (some (.int (Int32.ofNat (W (70 + 2 * ((a + 4 - b) % 4))).length))) W J g L) := by
  obtain ⟨e, rfl⟩ : ∃ e, d = e + 1 := ⟨d - 1, by omega⟩
  refine bm_of (Nat.le_of_ble_eq_true rfl) (Or.inr bR_ret) ?_
  show bT e (S0 n0) R0 mt_Al_note _ 0 [(0, .ref 1), (1, .int (Int32.ofNat b)), (2, .int (-1))] [] W J g L 0 0
  have hSR := SR0 n0
  refine b_aln (pc2 := 1) d_Al_note_0 rfl rfl ?_
  refine b_gr (pc2 := 4) d_Al_note_1 q_10_38 (sh_1 n0) (by decide) (by decide) (p_1_4 n0) rfl ?_
  refine b_gr (pc2 := 7) d_Al_note_4 q_10_148 (sh_67 n0) (by decide) (by decide) (p_67_0 n0) rfl ?_
  refine b_iln (pc2 := 8) d_Al_note_7 rfl rfl ?_
  refine b_cv1 (pc2 := 11) (c2 := 0) (u2 := 0) (no_has (by omega)) d_Al_note_8 q_10_152 (Nat.le_of_ble_eq_true rfl) rfl rfl (sh_68 n0) (Nat.le_of_ble_eq_true rfl) rfl rfl (by decide) (by decide) rfl ?_
  rw [if_pos ⟨i_nn (by omega), by rw [hcn]; exact (i_lt (by omega) (by omega)).mpr hbc⟩]
  refine b_ifd (pc2 := 22) d_Al_note_11 rfl rfl rfl rfl rfl (fun h11 => ?_) (fun h11 => ?_)
  rotate_left
  · exact absurd (show ¬ (1 : Int32) = 0 by decide) h11
  refine b_aln (pc2 := 23) d_Al_note_22 rfl rfl ?_
  refine b_gr (pc2 := 26) d_Al_note_23 q_10_38 (sh_1 n0) (by decide) (by decide) (p_1_4 n0) rfl ?_
  refine b_gr (pc2 := 29) d_Al_note_26 q_10_148 (sh_67 n0) (by decide) (by decide) (p_67_0 n0) rfl ?_
  refine b_iln (pc2 := 30) d_Al_note_29 rfl rfl ?_
  refine b_cv1 (pc2 := 33) (c2 := 0) (u2 := 0) (no_latest (by omega) hnw ha (by omega)) d_Al_note_30 q_10_157 (Nat.le_of_ble_eq_true rfl) rfl rfl (sh_68 n0) (Nat.le_of_ble_eq_true rfl) rfl rfl (by decide) (by decide) rfl ?_
  refine b_iln (pc2 := 34) d_Al_note_33 rfl rfl ?_
  refine b_cs1 (pc2 := 37) (c2 := 1) (u2 := 6) (al_bol0 (by omega) (nt_R (Nat.mod_lt _ (by decide)))) d_Al_note_34 q_10_144 (Or.inl rfl) (Nat.le_of_ble_eq_true rfl) rfl rfl (Nat.le_of_ble_eq_true rfl) rfl rfl (by decide) (by decide) rfl ?_
  refine b_ir d_Al_note_37 rfl ?_
  exact ⟨rfl, rfl, rfl, rfl, rfl⟩
theorem al_note_k {d : Nat} (hd : 3 ≤ d) {a b cn : Nat} (hnw : J 68 2 = Int32.ofNat a) (ha : a < 4) (hcn : J 68 1 = Int32.ofNat cn) (hcn4 : cn ≤ 4) (hbc : b < cn) {k : Nat} (hk : k < (W (70 + 2 * ((a + 4 - b) % 4))).length) : bm d (S0 n0) R0 120 [.ref 1, .int (Int32.ofNat b), .int (Int32.ofNat k)] W J g L (bR (some (.int ((W (70 + 2 * ((a + 4 - b) % 4))).getD k 0))) W J g L) := by
  obtain ⟨e, rfl⟩ : ∃ e, d = e + 1 := ⟨d - 1, by omega⟩
  refine bm_of (Nat.le_of_ble_eq_true rfl) (Or.inr bR_ret) ?_
  show bT e (S0 n0) R0 mt_Al_note _ 0 [(0, .ref 1), (1, .int (Int32.ofNat b)), (2, .int (Int32.ofNat k))] [] W J g L 0 0
  have hSR := SR0 n0
  refine b_aln (pc2 := 1) d_Al_note_0 rfl rfl ?_
  refine b_gr (pc2 := 4) d_Al_note_1 q_10_38 (sh_1 n0) (by decide) (by decide) (p_1_4 n0) rfl ?_
  refine b_gr (pc2 := 7) d_Al_note_4 q_10_148 (sh_67 n0) (by decide) (by decide) (p_67_0 n0) rfl ?_
  refine b_iln (pc2 := 8) d_Al_note_7 rfl rfl ?_
  refine b_cv1 (pc2 := 11) (c2 := 0) (u2 := 0) (no_has (by omega)) d_Al_note_8 q_10_152 (Nat.le_of_ble_eq_true rfl) rfl rfl (sh_68 n0) (Nat.le_of_ble_eq_true rfl) rfl rfl (by decide) (by decide) rfl ?_
  rw [if_pos ⟨i_nn (by omega), by rw [hcn]; exact (i_lt (by omega) (by omega)).mpr hbc⟩]
  refine b_ifd (pc2 := 22) d_Al_note_11 rfl rfl rfl rfl rfl (fun h11 => ?_) (fun h11 => ?_)
  rotate_left
  · exact absurd (show ¬ (1 : Int32) = 0 by decide) h11
  refine b_aln (pc2 := 23) d_Al_note_22 rfl rfl ?_
  refine b_gr (pc2 := 26) d_Al_note_23 q_10_38 (sh_1 n0) (by decide) (by decide) (p_1_4 n0) rfl ?_
  refine b_gr (pc2 := 29) d_Al_note_26 q_10_148 (sh_67 n0) (by decide) (by decide) (p_67_0 n0) rfl ?_
  refine b_iln (pc2 := 30) d_Al_note_29 rfl rfl ?_
  refine b_cv1 (pc2 := 33) (c2 := 0) (u2 := 0) (no_latest (by omega) hnw ha (by omega)) d_Al_note_30 q_10_157 (Nat.le_of_ble_eq_true rfl) rfl rfl (sh_68 n0) (Nat.le_of_ble_eq_true rfl) rfl rfl (by decide) (by decide) rfl ?_
  refine b_iln (pc2 := 34) d_Al_note_33 rfl rfl ?_
  refine b_cs1 (pc2 := 37) (c2 := 1) (u2 := 6) (al_bol1 (by omega) (nt_R (Nat.mod_lt _ (by decide))) hk) d_Al_note_34 q_10_144 (Or.inl rfl) (Nat.le_of_ble_eq_true rfl) rfl rfl (Nat.le_of_ble_eq_true rfl) rfl rfl (by decide) (by decide) rfl ?_
  refine b_ir d_Al_note_37 rfl ?_
  exact ⟨rfl, rfl, rfl, rfl, rfl⟩
theorem al_note_x {d : Nat} (hd : 7 ≤ d) {a b cn : Nat} (hnw : J 68 2 = Int32.ofNat a) (ha : a < 4) (hcn : J 68 1 = Int32.ofNat cn) (hcn4 : cn ≤ 4) (hbc : b < cn) {k : Int32} (hk : ¬ k = -1) (hb : ¬ (¬ k < 0 ∧ k < Int32.ofNat (W (70 + 2 * ((a + 4 - b) % 4))).length)) : bm d (S0 n0) R0 120 [.ref 1, .int (Int32.ofNat b), .int k] W J g L (bX 3 W J (g + 1) L) := by
  obtain ⟨e, rfl⟩ : ∃ e, d = e + 1 := ⟨d - 1, by omega⟩
  refine bm_of (Nat.le_of_ble_eq_true rfl) (Or.inl (show 5 < e + 1 by omega)) ?_
  show bT e (S0 n0) R0 mt_Al_note _ 0 [(0, .ref 1), (1, .int (Int32.ofNat b)), (2, .int k)] [] W J g L 0 0
  have hSR := SR0 n0
  refine b_aln (pc2 := 1) d_Al_note_0 rfl rfl ?_
  refine b_gr (pc2 := 4) d_Al_note_1 q_10_38 (sh_1 n0) (by decide) (by decide) (p_1_4 n0) rfl ?_
  refine b_gr (pc2 := 7) d_Al_note_4 q_10_148 (sh_67 n0) (by decide) (by decide) (p_67_0 n0) rfl ?_
  refine b_iln (pc2 := 8) d_Al_note_7 rfl rfl ?_
  refine b_cv1 (pc2 := 11) (c2 := 0) (u2 := 0) (no_has (by omega)) d_Al_note_8 q_10_152 (Nat.le_of_ble_eq_true rfl) rfl rfl (sh_68 n0) (Nat.le_of_ble_eq_true rfl) rfl rfl (by decide) (by decide) rfl ?_
  rw [if_pos ⟨i_nn (by omega), by rw [hcn]; exact (i_lt (by omega) (by omega)).mpr hbc⟩]
  refine b_ifd (pc2 := 22) d_Al_note_11 rfl rfl rfl rfl rfl (fun h11 => ?_) (fun h11 => ?_)
  rotate_left
  · exact absurd (show ¬ (1 : Int32) = 0 by decide) h11
  refine b_aln (pc2 := 23) d_Al_note_22 rfl rfl ?_
  refine b_gr (pc2 := 26) d_Al_note_23 q_10_38 (sh_1 n0) (by decide) (by decide) (p_1_4 n0) rfl ?_
  refine b_gr (pc2 := 29) d_Al_note_26 q_10_148 (sh_67 n0) (by decide) (by decide) (p_67_0 n0) rfl ?_
  refine b_iln (pc2 := 30) d_Al_note_29 rfl rfl ?_
  refine b_cv1 (pc2 := 33) (c2 := 0) (u2 := 0) (no_latest (by omega) hnw ha (by omega)) d_Al_note_30 q_10_157 (Nat.le_of_ble_eq_true rfl) rfl rfl (sh_68 n0) (Nat.le_of_ble_eq_true rfl) rfl rfl (by decide) (by decide) rfl ?_
  refine b_iln (pc2 := 34) d_Al_note_33 rfl rfl ?_
  refine b_csX (c2 := 1) (u2 := 6) (al_bol2 (by omega) (nt_R (Nat.mod_lt _ (by decide))) hk hb) d_Al_note_34 q_10_144 (Or.inl rfl) (Nat.le_of_ble_eq_true rfl) rfl rfl (Nat.le_of_ble_eq_true rfl) rfl rfl (by decide) (by decide) rfl ?_
  exact ⟨rfl, rfl, rfl, rfl, rfl⟩
theorem al_value0 {d : Nat} (hd : 6 ≤ d) {h k : Int32} (hb : ¬ (¬ h < Int32.ofNat 1 ∧ ¬ J 86 1 < h)) : bm d (S0 n0) R0 124 [.ref 1, .int h, .int k] W J g L (bX 0 W J (g + 1) L) := by
  obtain ⟨e, rfl⟩ : ∃ e, d = e + 1 := ⟨d - 1, by omega⟩
  refine bm_of (Nat.le_of_ble_eq_true rfl) (Or.inl (show 5 < e + 1 by omega)) ?_
  show bT e (S0 n0) R0 mt_Al_value _ 0 [(0, .ref 1), (1, .int h), (2, .int k)] [] W J g L 0 0
  have hSR := SR0 n0
  refine b_aln (pc2 := 1) d_Al_value_0 rfl rfl ?_
  refine b_gr (pc2 := 4) d_Al_value_1 q_10_45 (sh_1 n0) (by decide) (by decide) (p_1_5 n0) rfl ?_
  refine b_iln (pc2 := 5) d_Al_value_4 rfl rfl ?_
  refine b_cv1 (pc2 := 8) (c2 := 0) (u2 := 0) (se_hasHandle (by omega)) d_Al_value_5 q_10_81 (Nat.le_of_ble_eq_true rfl) rfl rfl (sh_86 n0) (Nat.le_of_ble_eq_true rfl) rfl rfl (by decide) (by decide) rfl ?_
  rw [if_neg hb]
  refine b_ifd (pc2 := 19) d_Al_value_8 rfl rfl rfl rfl rfl (fun h8 => ?_) (fun h8 => ?_)
  · exact absurd h8 (fun z => z rfl)
  refine b_thr d_Al_value_11 q_10_67 rfl (by decide) (by decide) (Nat.le_of_ble_eq_true rfl) d_Al_value_14 d_Al_value_15 d_Al_value_18 ?_
  exact ⟨rfl, rfl, rfl, rfl, rfl⟩
theorem al_value_l {d : Nat} (hd : 3 ≤ d) {ct : Nat} (hi : i < 10) (hc : J 86 1 = Int32.ofNat ct) (hct : ct ≤ 10) (hic : i < ct) : bm d (S0 n0) R0 124 [.ref 1, .int (Int32.ofNat (i + 1)), .int (-1)] W J g L (bR (some (.int (Int32.ofNat (W (89 + 3 * i)).length))) W J g L) := by
  obtain ⟨e, rfl⟩ : ∃ e, d = e + 1 := ⟨d - 1, by omega⟩
  refine bm_of (Nat.le_of_ble_eq_true rfl) (Or.inr bR_ret) ?_
  show bT e (S0 n0) R0 mt_Al_value _ 0 [(0, .ref 1), (1, .int (Int32.ofNat (i + 1))), (2, .int (-1))] [] W J g L 0 0
  have hSR := SR0 n0
  refine b_aln (pc2 := 1) d_Al_value_0 rfl rfl ?_
  refine b_gr (pc2 := 4) d_Al_value_1 q_10_45 (sh_1 n0) (by decide) (by decide) (p_1_5 n0) rfl ?_
  refine b_iln (pc2 := 5) d_Al_value_4 rfl rfl ?_
  refine b_cv1 (pc2 := 8) (c2 := 0) (u2 := 0) (se_hasHandle (by omega)) d_Al_value_5 q_10_81 (Nat.le_of_ble_eq_true rfl) rfl rfl (sh_86 n0) (Nat.le_of_ble_eq_true rfl) rfl rfl (by decide) (by decide) rfl ?_
  rw [if_pos ⟨by rw [i_lt (by omega) (by decide)]; omega, by rw [hc, i_lt (by omega) (by omega)]; omega⟩]
  refine b_ifd (pc2 := 19) d_Al_value_8 rfl rfl rfl rfl rfl (fun h8 => ?_) (fun h8 => ?_)
  rotate_left
  · exact absurd (show ¬ (1 : Int32) = 0 by decide) h8
  refine b_aln (pc2 := 20) d_Al_value_19 rfl rfl ?_
  refine b_gr (pc2 := 23) d_Al_value_20 q_10_45 (sh_1 n0) (by decide) (by decide) (p_1_5 n0) rfl ?_
  refine b_iln (pc2 := 24) d_Al_value_23 rfl rfl ?_
  refine b_cv1 (pc2 := 27) (c2 := 0) (u2 := 0) (se_valueOf (by omega) hi) d_Al_value_24 q_10_84 (Nat.le_of_ble_eq_true rfl) rfl rfl (sh_86 n0) (Nat.le_of_ble_eq_true rfl) rfl rfl (by decide) (by decide) rfl ?_
  refine b_iln (pc2 := 28) d_Al_value_27 rfl rfl ?_
  refine b_cs1 (pc2 := 31) (c2 := 1) (u2 := 6) (al_bol0 (by omega) (at_R hi)) d_Al_value_28 q_10_144 (Or.inl rfl) (Nat.le_of_ble_eq_true rfl) rfl rfl (Nat.le_of_ble_eq_true rfl) rfl rfl (by decide) (by decide) rfl ?_
  refine b_ir d_Al_value_31 rfl ?_
  exact ⟨rfl, rfl, rfl, rfl, rfl⟩
theorem al_value_k {d : Nat} (hd : 3 ≤ d) {ct : Nat} (hi : i < 10) (hc : J 86 1 = Int32.ofNat ct) (hct : ct ≤ 10) (hic : i < ct) {k : Nat} (hk : k < (W (89 + 3 * i)).length) : bm d (S0 n0) R0 124 [.ref 1, .int (Int32.ofNat (i + 1)), .int (Int32.ofNat k)] W J g L (bR (some (.int ((W (89 + 3 * i)).getD k 0))) W J g L) := by
  obtain ⟨e, rfl⟩ : ∃ e, d = e + 1 := ⟨d - 1, by omega⟩
  refine bm_of (Nat.le_of_ble_eq_true rfl) (Or.inr bR_ret) ?_
  show bT e (S0 n0) R0 mt_Al_value _ 0 [(0, .ref 1), (1, .int (Int32.ofNat (i + 1))), (2, .int (Int32.ofNat k))] [] W J g L 0 0
  have hSR := SR0 n0
  refine b_aln (pc2 := 1) d_Al_value_0 rfl rfl ?_
  refine b_gr (pc2 := 4) d_Al_value_1 q_10_45 (sh_1 n0) (by decide) (by decide) (p_1_5 n0) rfl ?_
  refine b_iln (pc2 := 5) d_Al_value_4 rfl rfl ?_
  refine b_cv1 (pc2 := 8) (c2 := 0) (u2 := 0) (se_hasHandle (by omega)) d_Al_value_5 q_10_81 (Nat.le_of_ble_eq_true rfl) rfl rfl (sh_86 n0) (Nat.le_of_ble_eq_true rfl) rfl rfl (by decide) (by decide) rfl ?_
  rw [if_pos ⟨by rw [i_lt (by omega) (by decide)]; omega, by rw [hc, i_lt (by omega) (by omega)]; omega⟩]
  refine b_ifd (pc2 := 19) d_Al_value_8 rfl rfl rfl rfl rfl (fun h8 => ?_) (fun h8 => ?_)
  rotate_left
  · exact absurd (show ¬ (1 : Int32) = 0 by decide) h8
  refine b_aln (pc2 := 20) d_Al_value_19 rfl rfl ?_
  refine b_gr (pc2 := 23) d_Al_value_20 q_10_45 (sh_1 n0) (by decide) (by decide) (p_1_5 n0) rfl ?_
  refine b_iln (pc2 := 24) d_Al_value_23 rfl rfl ?_
  refine b_cv1 (pc2 := 27) (c2 := 0) (u2 := 0) (se_valueOf (by omega) hi) d_Al_value_24 q_10_84 (Nat.le_of_ble_eq_true rfl) rfl rfl (sh_86 n0) (Nat.le_of_ble_eq_true rfl) rfl rfl (by decide) (by decide) rfl ?_
  refine b_iln (pc2 := 28) d_Al_value_27 rfl rfl ?_
  refine b_cs1 (pc2 := 31) (c2 := 1) (u2 := 6) (al_bol1 (by omega) (at_R hi) hk) d_Al_value_28 q_10_144 (Or.inl rfl) (Nat.le_of_ble_eq_true rfl) rfl rfl (Nat.le_of_ble_eq_true rfl) rfl rfl (by decide) (by decide) rfl ?_
  refine b_ir d_Al_value_31 rfl ?_
  exact ⟨rfl, rfl, rfl, rfl, rfl⟩
theorem al_value_x {d : Nat} (hd : 7 ≤ d) {ct : Nat} (hi : i < 10) (hc : J 86 1 = Int32.ofNat ct) (hct : ct ≤ 10) (hic : i < ct) {k : Int32} (hk : ¬ k = -1) (hb : ¬ (¬ k < 0 ∧ k < Int32.ofNat (W (89 + 3 * i)).length)) : bm d (S0 n0) R0 124 [.ref 1, .int (Int32.ofNat (i + 1)), .int k] W J g L (bX 3 W J (g + 1) L) := by
  obtain ⟨e, rfl⟩ : ∃ e, d = e + 1 := ⟨d - 1, by omega⟩
  refine bm_of (Nat.le_of_ble_eq_true rfl) (Or.inl (show 5 < e + 1 by omega)) ?_
  show bT e (S0 n0) R0 mt_Al_value _ 0 [(0, .ref 1), (1, .int (Int32.ofNat (i + 1))), (2, .int k)] [] W J g L 0 0
  have hSR := SR0 n0
  refine b_aln (pc2 := 1) d_Al_value_0 rfl rfl ?_
  refine b_gr (pc2 := 4) d_Al_value_1 q_10_45 (sh_1 n0) (by decide) (by decide) (p_1_5 n0) rfl ?_
  refine b_iln (pc2 := 5) d_Al_value_4 rfl rfl ?_
  refine b_cv1 (pc2 := 8) (c2 := 0) (u2 := 0) (se_hasHandle (by omega)) d_Al_value_5 q_10_81 (Nat.le_of_ble_eq_true rfl) rfl rfl (sh_86 n0) (Nat.le_of_ble_eq_true rfl) rfl rfl (by decide) (by decide) rfl ?_
  rw [if_pos ⟨by rw [i_lt (by omega) (by decide)]; omega, by rw [hc, i_lt (by omega) (by omega)]; omega⟩]
  refine b_ifd (pc2 := 19) d_Al_value_8 rfl rfl rfl rfl rfl (fun h8 => ?_) (fun h8 => ?_)
  rotate_left
  · exact absurd (show ¬ (1 : Int32) = 0 by decide) h8
  refine b_aln (pc2 := 20) d_Al_value_19 rfl rfl ?_
  refine b_gr (pc2 := 23) d_Al_value_20 q_10_45 (sh_1 n0) (by decide) (by decide) (p_1_5 n0) rfl ?_
  refine b_iln (pc2 := 24) d_Al_value_23 rfl rfl ?_
  refine b_cv1 (pc2 := 27) (c2 := 0) (u2 := 0) (se_valueOf (by omega) hi) d_Al_value_24 q_10_84 (Nat.le_of_ble_eq_true rfl) rfl rfl (sh_86 n0) (Nat.le_of_ble_eq_true rfl) rfl rfl (by decide) (by decide) rfl ?_
  refine b_iln (pc2 := 28) d_Al_value_27 rfl rfl ?_
  refine b_csX (c2 := 1) (u2 := 6) (al_bol2 (by omega) (at_R hi) hk hb) d_Al_value_28 q_10_144 (Or.inl rfl) (Nat.le_of_ble_eq_true rfl) rfl rfl (Nat.le_of_ble_eq_true rfl) rfl rfl (by decide) (by decide) rfl ?_
  exact ⟨rfl, rfl, rfl, rfl, rfl⟩
theorem al_air0_0 {d : Nat} (hd : 6 ≤ d) {b k : Int32} (hbb : b = 0) (he0 : W 31 = []) : bm d (S0 n0) R0 126 [.ref 1, .int b, .int k] W J g L (bX 2 W J (g + 1) L) := by
  obtain ⟨e, rfl⟩ : ∃ e, d = e + 1 := ⟨d - 1, by omega⟩
  refine bm_of (Nat.le_of_ble_eq_true rfl) (Or.inl (show 5 < e + 1 by omega)) ?_
  show bT e (S0 n0) R0 mt_Al_air _ 0 [(0, .ref 1), (1, .int b), (2, .int k)] [] W J g L 0 0
  have hSR := SR0 n0
  refine b_iln (pc2 := 1) d_Al_air_0 rfl rfl ?_
  refine b_ifd (pc2 := 14) d_Al_air_1 rfl rfl rfl rfl rfl (fun h1 => ?_) (fun h1 => ?_)
  rotate_left
  · exact absurd (hbb) h1
  refine b_aln (pc2 := 15) d_Al_air_14 rfl rfl ?_
  refine b_gr (pc2 := 18) d_Al_air_15 q_10_28 (sh_1 n0) (by decide) (by decide) (p_1_2 n0) rfl ?_
  refine b_gr (pc2 := 21) d_Al_air_18 q_10_160 (sh_7 n0) (by decide) (by decide) (p_7_2 n0) rfl ?_
  refine b_asn (pc2 := 22) (al2 := [(3, _), (0, _), (1, _), (2, _)]) d_Al_air_21 (by decide) rfl rfl ?_
  refine b_aln (pc2 := 23) d_Al_air_22 rfl rfl ?_
  refine b_cv1 (pc2 := 26) (c2 := 0) (u2 := 0) (rw_length (by omega) hSR R_31) d_Al_air_23 q_10_88 (Nat.le_of_ble_eq_true rfl) rfl rfl (sh_31 n0) (Nat.le_of_ble_eq_true rfl) rfl rfl (by decide) (by decide) rfl ?_
  refine b_ifd (pc2 := 37) d_Al_air_26 rfl rfl rfl rfl rfl (fun h26 => ?_) (fun h26 => ?_)
  · exact absurd h26 (fun z => z (by rw [he0]; rfl))
  refine b_thr d_Al_air_29 q_10_134 rfl (by decide) (by decide) (Nat.le_of_ble_eq_true rfl) d_Al_air_32 d_Al_air_33 d_Al_air_36 ?_
  exact ⟨rfl, rfl, rfl, rfl, rfl⟩
theorem al_air0_l {d : Nat} (hd : 3 ≤ d) {b : Int32} (hbb : b = 0) (hne : 0 < (W 31).length) : bm d (S0 n0) R0 126 [.ref 1, .int b, .int (-1)] W J g L (bR (some (.int (Int32.ofNat (W 31).length))) W J g L) := by
  obtain ⟨e, rfl⟩ : ∃ e, d = e + 1 := ⟨d - 1, by omega⟩
  refine bm_of (Nat.le_of_ble_eq_true rfl) (Or.inr bR_ret) ?_
  show bT e (S0 n0) R0 mt_Al_air _ 0 [(0, .ref 1), (1, .int b), (2, .int (-1))] [] W J g L 0 0
  have hSR := SR0 n0
  refine b_free fun hlen => ?_
  have hl := hlen 31 12 R_31
  refine b_iln (pc2 := 1) d_Al_air_0 rfl rfl ?_
  refine b_ifd (pc2 := 14) d_Al_air_1 rfl rfl rfl rfl rfl (fun h1 => ?_) (fun h1 => ?_)
  rotate_left
  · exact absurd (hbb) h1
  refine b_aln (pc2 := 15) d_Al_air_14 rfl rfl ?_
  refine b_gr (pc2 := 18) d_Al_air_15 q_10_28 (sh_1 n0) (by decide) (by decide) (p_1_2 n0) rfl ?_
  refine b_gr (pc2 := 21) d_Al_air_18 q_10_160 (sh_7 n0) (by decide) (by decide) (p_7_2 n0) rfl ?_
  refine b_asn (pc2 := 22) (al2 := [(3, _), (0, _), (1, _), (2, _)]) d_Al_air_21 (by decide) rfl rfl ?_
  refine b_aln (pc2 := 23) d_Al_air_22 rfl rfl ?_
  refine b_cv1 (pc2 := 26) (c2 := 0) (u2 := 0) (rw_length (by omega) hSR R_31) d_Al_air_23 q_10_88 (Nat.le_of_ble_eq_true rfl) rfl rfl (sh_31 n0) (Nat.le_of_ble_eq_true rfl) rfl rfl (by decide) (by decide) rfl ?_
  refine b_ifd (pc2 := 37) d_Al_air_26 rfl rfl rfl rfl rfl (fun h26 => ?_) (fun h26 => ?_)
  rotate_left
  · exact absurd (fun z => by rw [show (0 : Int32) = Int32.ofNat 0 from rfl, i_eq (by omega) (by decide)] at z; omega) h26
  refine b_aln (pc2 := 38) d_Al_air_37 rfl rfl ?_
  refine b_iln (pc2 := 39) d_Al_air_38 rfl rfl ?_
  refine b_cs1 (pc2 := 42) (c2 := 1) (u2 := 6) (al_bol0 (by omega) (R_31)) d_Al_air_39 q_10_144 (Or.inl rfl) (Nat.le_of_ble_eq_true rfl) rfl rfl (Nat.le_of_ble_eq_true rfl) rfl rfl (by decide) (by decide) rfl ?_
  refine b_ir d_Al_air_42 rfl ?_
  exact ⟨rfl, rfl, rfl, rfl, rfl⟩
theorem al_air0_k {d : Nat} (hd : 3 ≤ d) {b : Int32} (hbb : b = 0) (hne : 0 < (W 31).length) {k : Nat} (hk : k < (W 31).length) : bm d (S0 n0) R0 126 [.ref 1, .int b, .int (Int32.ofNat k)] W J g L (bR (some (.int ((W 31).getD k 0))) W J g L) := by
  obtain ⟨e, rfl⟩ : ∃ e, d = e + 1 := ⟨d - 1, by omega⟩
  refine bm_of (Nat.le_of_ble_eq_true rfl) (Or.inr bR_ret) ?_
  show bT e (S0 n0) R0 mt_Al_air _ 0 [(0, .ref 1), (1, .int b), (2, .int (Int32.ofNat k))] [] W J g L 0 0
  have hSR := SR0 n0
  refine b_free fun hlen => ?_
  have hl := hlen 31 12 R_31
  refine b_iln (pc2 := 1) d_Al_air_0 rfl rfl ?_
  refine b_ifd (pc2 := 14) d_Al_air_1 rfl rfl rfl rfl rfl (fun h1 => ?_) (fun h1 => ?_)
  rotate_left
  · exact absurd (hbb) h1
  refine b_aln (pc2 := 15) d_Al_air_14 rfl rfl ?_
  refine b_gr (pc2 := 18) d_Al_air_15 q_10_28 (sh_1 n0) (by decide) (by decide) (p_1_2 n0) rfl ?_
  refine b_gr (pc2 := 21) d_Al_air_18 q_10_160 (sh_7 n0) (by decide) (by decide) (p_7_2 n0) rfl ?_
  refine b_asn (pc2 := 22) (al2 := [(3, _), (0, _), (1, _), (2, _)]) d_Al_air_21 (by decide) rfl rfl ?_
  refine b_aln (pc2 := 23) d_Al_air_22 rfl rfl ?_
  refine b_cv1 (pc2 := 26) (c2 := 0) (u2 := 0) (rw_length (by omega) hSR R_31) d_Al_air_23 q_10_88 (Nat.le_of_ble_eq_true rfl) rfl rfl (sh_31 n0) (Nat.le_of_ble_eq_true rfl) rfl rfl (by decide) (by decide) rfl ?_
  refine b_ifd (pc2 := 37) d_Al_air_26 rfl rfl rfl rfl rfl (fun h26 => ?_) (fun h26 => ?_)
  rotate_left
  · exact absurd (fun z => by rw [show (0 : Int32) = Int32.ofNat 0 from rfl, i_eq (by omega) (by decide)] at z; omega) h26
  refine b_aln (pc2 := 38) d_Al_air_37 rfl rfl ?_
  refine b_iln (pc2 := 39) d_Al_air_38 rfl rfl ?_
  refine b_cs1 (pc2 := 42) (c2 := 1) (u2 := 6) (al_bol1 (by omega) (R_31) hk) d_Al_air_39 q_10_144 (Or.inl rfl) (Nat.le_of_ble_eq_true rfl) rfl rfl (Nat.le_of_ble_eq_true rfl) rfl rfl (by decide) (by decide) rfl ?_
  refine b_ir d_Al_air_42 rfl ?_
  exact ⟨rfl, rfl, rfl, rfl, rfl⟩
theorem al_air0_x {d : Nat} (hd : 7 ≤ d) {b : Int32} (hbb : b = 0) (hne : 0 < (W 31).length) {k : Int32} (hk : ¬ k = -1) (hb : ¬ (¬ k < 0 ∧ k < Int32.ofNat (W 31).length)) : bm d (S0 n0) R0 126 [.ref 1, .int b, .int k] W J g L (bX 3 W J (g + 1) L) := by
  obtain ⟨e, rfl⟩ : ∃ e, d = e + 1 := ⟨d - 1, by omega⟩
  refine bm_of (Nat.le_of_ble_eq_true rfl) (Or.inl (show 5 < e + 1 by omega)) ?_
  show bT e (S0 n0) R0 mt_Al_air _ 0 [(0, .ref 1), (1, .int b), (2, .int k)] [] W J g L 0 0
  have hSR := SR0 n0
  refine b_free fun hlen => ?_
  have hl := hlen 31 12 R_31
  refine b_iln (pc2 := 1) d_Al_air_0 rfl rfl ?_
  refine b_ifd (pc2 := 14) d_Al_air_1 rfl rfl rfl rfl rfl (fun h1 => ?_) (fun h1 => ?_)
  rotate_left
  · exact absurd (hbb) h1
  refine b_aln (pc2 := 15) d_Al_air_14 rfl rfl ?_
  refine b_gr (pc2 := 18) d_Al_air_15 q_10_28 (sh_1 n0) (by decide) (by decide) (p_1_2 n0) rfl ?_
  refine b_gr (pc2 := 21) d_Al_air_18 q_10_160 (sh_7 n0) (by decide) (by decide) (p_7_2 n0) rfl ?_
  refine b_asn (pc2 := 22) (al2 := [(3, _), (0, _), (1, _), (2, _)]) d_Al_air_21 (by decide) rfl rfl ?_
  refine b_aln (pc2 := 23) d_Al_air_22 rfl rfl ?_
  refine b_cv1 (pc2 := 26) (c2 := 0) (u2 := 0) (rw_length (by omega) hSR R_31) d_Al_air_23 q_10_88 (Nat.le_of_ble_eq_true rfl) rfl rfl (sh_31 n0) (Nat.le_of_ble_eq_true rfl) rfl rfl (by decide) (by decide) rfl ?_
  refine b_ifd (pc2 := 37) d_Al_air_26 rfl rfl rfl rfl rfl (fun h26 => ?_) (fun h26 => ?_)
  rotate_left
  · exact absurd (fun z => by rw [show (0 : Int32) = Int32.ofNat 0 from rfl, i_eq (by omega) (by decide)] at z; omega) h26
  refine b_aln (pc2 := 38) d_Al_air_37 rfl rfl ?_
  refine b_iln (pc2 := 39) d_Al_air_38 rfl rfl ?_
  refine b_csX (c2 := 1) (u2 := 6) (al_bol2 (by omega) (R_31) hk hb) d_Al_air_39 q_10_144 (Or.inl rfl) (Nat.le_of_ble_eq_true rfl) rfl rfl (Nat.le_of_ble_eq_true rfl) rfl rfl (by decide) (by decide) rfl ?_
  exact ⟨rfl, rfl, rfl, rfl, rfl⟩
theorem al_air1_0 {d : Nat} (hd : 6 ≤ d) {b k : Int32} (hbb : ¬ b = 0) (he0 : W 61 = []) : bm d (S0 n0) R0 126 [.ref 1, .int b, .int k] W J g L (bX 2 W J (g + 1) L) := by
  obtain ⟨e, rfl⟩ : ∃ e, d = e + 1 := ⟨d - 1, by omega⟩
  refine bm_of (Nat.le_of_ble_eq_true rfl) (Or.inl (show 5 < e + 1 by omega)) ?_
  show bT e (S0 n0) R0 mt_Al_air _ 0 [(0, .ref 1), (1, .int b), (2, .int k)] [] W J g L 0 0
  have hSR := SR0 n0
  refine b_iln (pc2 := 1) d_Al_air_0 rfl rfl ?_
  refine b_ifd (pc2 := 14) d_Al_air_1 rfl rfl rfl rfl rfl (fun h1 => ?_) (fun h1 => ?_)
  · exact absurd h1 (hbb)
  refine b_aln (pc2 := 5) d_Al_air_4 rfl rfl ?_
  refine b_gr (pc2 := 8) d_Al_air_5 q_10_32 (sh_1 n0) (by decide) (by decide) (p_1_3 n0) rfl ?_
  refine b_gr (pc2 := 11) d_Al_air_8 q_10_160 (sh_37 n0) (by decide) (by decide) (p_37_2 n0) rfl ?_
  refine b_go (pc2 := 21) d_Al_air_11 rfl ?_
  refine b_asn (pc2 := 22) (al2 := [(3, _), (0, _), (1, _), (2, _)]) d_Al_air_21 (by decide) rfl rfl ?_
  refine b_aln (pc2 := 23) d_Al_air_22 rfl rfl ?_
  refine b_cv1 (pc2 := 26) (c2 := 0) (u2 := 0) (rw_length (by omega) hSR R_61) d_Al_air_23 q_10_88 (Nat.le_of_ble_eq_true rfl) rfl rfl (sh_61 n0) (Nat.le_of_ble_eq_true rfl) rfl rfl (by decide) (by decide) rfl ?_
  refine b_ifd (pc2 := 37) d_Al_air_26 rfl rfl rfl rfl rfl (fun h26 => ?_) (fun h26 => ?_)
  · exact absurd h26 (fun z => z (by rw [he0]; rfl))
  refine b_thr d_Al_air_29 q_10_134 rfl (by decide) (by decide) (Nat.le_of_ble_eq_true rfl) d_Al_air_32 d_Al_air_33 d_Al_air_36 ?_
  exact ⟨rfl, rfl, rfl, rfl, rfl⟩
theorem al_air1_l {d : Nat} (hd : 3 ≤ d) {b : Int32} (hbb : ¬ b = 0) (hne : 0 < (W 61).length) : bm d (S0 n0) R0 126 [.ref 1, .int b, .int (-1)] W J g L (bR (some (.int (Int32.ofNat (W 61).length))) W J g L) := by
  obtain ⟨e, rfl⟩ : ∃ e, d = e + 1 := ⟨d - 1, by omega⟩
  refine bm_of (Nat.le_of_ble_eq_true rfl) (Or.inr bR_ret) ?_
  show bT e (S0 n0) R0 mt_Al_air _ 0 [(0, .ref 1), (1, .int b), (2, .int (-1))] [] W J g L 0 0
  have hSR := SR0 n0
  refine b_free fun hlen => ?_
  have hl := hlen 61 12 R_61
  refine b_iln (pc2 := 1) d_Al_air_0 rfl rfl ?_
  refine b_ifd (pc2 := 14) d_Al_air_1 rfl rfl rfl rfl rfl (fun h1 => ?_) (fun h1 => ?_)
  · exact absurd h1 (hbb)
  refine b_aln (pc2 := 5) d_Al_air_4 rfl rfl ?_
  refine b_gr (pc2 := 8) d_Al_air_5 q_10_32 (sh_1 n0) (by decide) (by decide) (p_1_3 n0) rfl ?_
  refine b_gr (pc2 := 11) d_Al_air_8 q_10_160 (sh_37 n0) (by decide) (by decide) (p_37_2 n0) rfl ?_
  refine b_go (pc2 := 21) d_Al_air_11 rfl ?_
  refine b_asn (pc2 := 22) (al2 := [(3, _), (0, _), (1, _), (2, _)]) d_Al_air_21 (by decide) rfl rfl ?_
  refine b_aln (pc2 := 23) d_Al_air_22 rfl rfl ?_
  refine b_cv1 (pc2 := 26) (c2 := 0) (u2 := 0) (rw_length (by omega) hSR R_61) d_Al_air_23 q_10_88 (Nat.le_of_ble_eq_true rfl) rfl rfl (sh_61 n0) (Nat.le_of_ble_eq_true rfl) rfl rfl (by decide) (by decide) rfl ?_
  refine b_ifd (pc2 := 37) d_Al_air_26 rfl rfl rfl rfl rfl (fun h26 => ?_) (fun h26 => ?_)
  rotate_left
  · exact absurd (fun z => by rw [show (0 : Int32) = Int32.ofNat 0 from rfl, i_eq (by omega) (by decide)] at z; omega) h26
  refine b_aln (pc2 := 38) d_Al_air_37 rfl rfl ?_
  refine b_iln (pc2 := 39) d_Al_air_38 rfl rfl ?_
  refine b_cs1 (pc2 := 42) (c2 := 1) (u2 := 6) (al_bol0 (by omega) (R_61)) d_Al_air_39 q_10_144 (Or.inl rfl) (Nat.le_of_ble_eq_true rfl) rfl rfl (Nat.le_of_ble_eq_true rfl) rfl rfl (by decide) (by decide) rfl ?_
  refine b_ir d_Al_air_42 rfl ?_
  exact ⟨rfl, rfl, rfl, rfl, rfl⟩
theorem al_air1_k {d : Nat} (hd : 3 ≤ d) {b : Int32} (hbb : ¬ b = 0) (hne : 0 < (W 61).length) {k : Nat} (hk : k < (W 61).length) : bm d (S0 n0) R0 126 [.ref 1, .int b, .int (Int32.ofNat k)] W J g L (bR (some (.int ((W 61).getD k 0))) W J g L) := by
  obtain ⟨e, rfl⟩ : ∃ e, d = e + 1 := ⟨d - 1, by omega⟩
  refine bm_of (Nat.le_of_ble_eq_true rfl) (Or.inr bR_ret) ?_
  show bT e (S0 n0) R0 mt_Al_air _ 0 [(0, .ref 1), (1, .int b), (2, .int (Int32.ofNat k))] [] W J g L 0 0
  have hSR := SR0 n0
  refine b_free fun hlen => ?_
  have hl := hlen 61 12 R_61
  refine b_iln (pc2 := 1) d_Al_air_0 rfl rfl ?_
  refine b_ifd (pc2 := 14) d_Al_air_1 rfl rfl rfl rfl rfl (fun h1 => ?_) (fun h1 => ?_)
  · exact absurd h1 (hbb)
  refine b_aln (pc2 := 5) d_Al_air_4 rfl rfl ?_
  refine b_gr (pc2 := 8) d_Al_air_5 q_10_32 (sh_1 n0) (by decide) (by decide) (p_1_3 n0) rfl ?_
  refine b_gr (pc2 := 11) d_Al_air_8 q_10_160 (sh_37 n0) (by decide) (by decide) (p_37_2 n0) rfl ?_
  refine b_go (pc2 := 21) d_Al_air_11 rfl ?_
  refine b_asn (pc2 := 22) (al2 := [(3, _), (0, _), (1, _), (2, _)]) d_Al_air_21 (by decide) rfl rfl ?_
  refine b_aln (pc2 := 23) d_Al_air_22 rfl rfl ?_
  refine b_cv1 (pc2 := 26) (c2 := 0) (u2 := 0) (rw_length (by omega) hSR R_61) d_Al_air_23 q_10_88 (Nat.le_of_ble_eq_true rfl) rfl rfl (sh_61 n0) (Nat.le_of_ble_eq_true rfl) rfl rfl (by decide) (by decide) rfl ?_
  refine b_ifd (pc2 := 37) d_Al_air_26 rfl rfl rfl rfl rfl (fun h26 => ?_) (fun h26 => ?_)
  rotate_left
  · exact absurd (fun z => by rw [show (0 : Int32) = Int32.ofNat 0 from rfl, i_eq (by omega) (by decide)] at z; omega) h26
  refine b_aln (pc2 := 38) d_Al_air_37 rfl rfl ?_
  refine b_iln (pc2 := 39) d_Al_air_38 rfl rfl ?_
  refine b_cs1 (pc2 := 42) (c2 := 1) (u2 := 6) (al_bol1 (by omega) (R_61) hk) d_Al_air_39 q_10_144 (Or.inl rfl) (Nat.le_of_ble_eq_true rfl) rfl rfl (Nat.le_of_ble_eq_true rfl) rfl rfl (by decide) (by decide) rfl ?_
  refine b_ir d_Al_air_42 rfl ?_
  exact ⟨rfl, rfl, rfl, rfl, rfl⟩
theorem al_air1_x {d : Nat} (hd : 7 ≤ d) {b : Int32} (hbb : ¬ b = 0) (hne : 0 < (W 61).length) {k : Int32} (hk : ¬ k = -1) (hb : ¬ (¬ k < 0 ∧ k < Int32.ofNat (W 61).length)) : bm d (S0 n0) R0 126 [.ref 1, .int b, .int k] W J g L (bX 3 W J (g + 1) L) := by
  obtain ⟨e, rfl⟩ : ∃ e, d = e + 1 := ⟨d - 1, by omega⟩
  refine bm_of (Nat.le_of_ble_eq_true rfl) (Or.inl (show 5 < e + 1 by omega)) ?_
  show bT e (S0 n0) R0 mt_Al_air _ 0 [(0, .ref 1), (1, .int b), (2, .int k)] [] W J g L 0 0
  have hSR := SR0 n0
  refine b_free fun hlen => ?_
  have hl := hlen 61 12 R_61
  refine b_iln (pc2 := 1) d_Al_air_0 rfl rfl ?_
  refine b_ifd (pc2 := 14) d_Al_air_1 rfl rfl rfl rfl rfl (fun h1 => ?_) (fun h1 => ?_)
  · exact absurd h1 (hbb)
  refine b_aln (pc2 := 5) d_Al_air_4 rfl rfl ?_
  refine b_gr (pc2 := 8) d_Al_air_5 q_10_32 (sh_1 n0) (by decide) (by decide) (p_1_3 n0) rfl ?_
  refine b_gr (pc2 := 11) d_Al_air_8 q_10_160 (sh_37 n0) (by decide) (by decide) (p_37_2 n0) rfl ?_
  refine b_go (pc2 := 21) d_Al_air_11 rfl ?_
  refine b_asn (pc2 := 22) (al2 := [(3, _), (0, _), (1, _), (2, _)]) d_Al_air_21 (by decide) rfl rfl ?_
  refine b_aln (pc2 := 23) d_Al_air_22 rfl rfl ?_
  refine b_cv1 (pc2 := 26) (c2 := 0) (u2 := 0) (rw_length (by omega) hSR R_61) d_Al_air_23 q_10_88 (Nat.le_of_ble_eq_true rfl) rfl rfl (sh_61 n0) (Nat.le_of_ble_eq_true rfl) rfl rfl (by decide) (by decide) rfl ?_
  refine b_ifd (pc2 := 37) d_Al_air_26 rfl rfl rfl rfl rfl (fun h26 => ?_) (fun h26 => ?_)
  rotate_left
  · exact absurd (fun z => by rw [show (0 : Int32) = Int32.ofNat 0 from rfl, i_eq (by omega) (by decide)] at z; omega) h26
  refine b_aln (pc2 := 38) d_Al_air_37 rfl rfl ?_
  refine b_iln (pc2 := 39) d_Al_air_38 rfl rfl ?_
  refine b_csX (c2 := 1) (u2 := 6) (al_bol2 (by omega) (R_61) hk hb) d_Al_air_39 q_10_144 (Or.inl rfl) (Nat.le_of_ble_eq_true rfl) rfl rfl (Nat.le_of_ble_eq_true rfl) rfl rfl (by decide) (by decide) rfl ?_
  exact ⟨rfl, rfl, rfl, rfl, rfl⟩
theorem al_look0 {d : Nat} (hd : 2 ≤ d)  : bm d (S0 n0) R0 18 [.ref 1, .int (Int32.ofNat 0)] W J g L (bR (some (.int (J 1 7))) W J g L) := by
  obtain ⟨e, rfl⟩ : ∃ e, d = e + 1 := ⟨d - 1, by omega⟩
  refine bm_of (Nat.le_of_ble_eq_true rfl) (Or.inr bR_ret) ?_
  show bT e (S0 n0) R0 mt_Al_look _ 0 [(0, .ref 1), (1, .int (Int32.ofNat 0))] [] W J g L 0 0
  have hSR := SR0 n0
  refine b_iln (pc2 := 1) d_Al_look_0 rfl rfl ?_
  refine b_sw (pc2 := 52) (off := 51) d_Al_look_1 rfl rfl rfl (rfl) rfl ?_
  refine b_aln (pc2 := 53) d_Al_look_52 rfl rfl ?_
  refine b_gi (pc2 := 56) d_Al_look_53 q_10_53 (sh_1 n0) (by decide) (by decide) (rc_1) rfl ?_
  refine b_ir d_Al_look_56 rfl ?_
  exact ⟨rfl, rfl, rfl, rfl, rfl⟩
theorem al_look1 {d : Nat} (hd : 2 ≤ d)  : bm d (S0 n0) R0 18 [.ref 1, .int (Int32.ofNat 1)] W J g L (bR (some (.int (J 1 6))) W J g L) := by
  obtain ⟨e, rfl⟩ : ∃ e, d = e + 1 := ⟨d - 1, by omega⟩
  refine bm_of (Nat.le_of_ble_eq_true rfl) (Or.inr bR_ret) ?_
  show bT e (S0 n0) R0 mt_Al_look _ 0 [(0, .ref 1), (1, .int (Int32.ofNat 1))] [] W J g L 0 0
  have hSR := SR0 n0
  refine b_iln (pc2 := 1) d_Al_look_0 rfl rfl ?_
  refine b_sw (pc2 := 57) (off := 56) d_Al_look_1 rfl rfl rfl (rfl) rfl ?_
  refine b_aln (pc2 := 58) d_Al_look_57 rfl rfl ?_
  refine b_gi (pc2 := 61) d_Al_look_58 q_10_49 (sh_1 n0) (by decide) (by decide) (rc_1) rfl ?_
  refine b_ir d_Al_look_61 rfl ?_
  exact ⟨rfl, rfl, rfl, rfl, rfl⟩
theorem al_look2 {d : Nat} (hd : 2 ≤ d)  : bm d (S0 n0) R0 18 [.ref 1, .int (Int32.ofNat 2)] W J g L (bR (some (.int (J 7 9))) W J g L) := by
  obtain ⟨e, rfl⟩ : ∃ e, d = e + 1 := ⟨d - 1, by omega⟩
  refine bm_of (Nat.le_of_ble_eq_true rfl) (Or.inr bR_ret) ?_
  show bT e (S0 n0) R0 mt_Al_look _ 0 [(0, .ref 1), (1, .int (Int32.ofNat 2))] [] W J g L 0 0
  have hSR := SR0 n0
  refine b_iln (pc2 := 1) d_Al_look_0 rfl rfl ?_
  refine b_sw (pc2 := 62) (off := 61) d_Al_look_1 rfl rfl rfl (rfl) rfl ?_
  refine b_aln (pc2 := 63) d_Al_look_62 rfl rfl ?_
  refine b_gr (pc2 := 66) d_Al_look_63 q_10_28 (sh_1 n0) (by decide) (by decide) (p_1_2 n0) rfl ?_
  refine b_cv1 (pc2 := 69) (c2 := 0) (u2 := 0) (de_misses_c (by omega)) d_Al_look_66 q_10_163 (Nat.le_of_ble_eq_true rfl) rfl rfl (sh_7 n0) (Nat.le_of_ble_eq_true rfl) rfl rfl (by decide) (by decide) rfl ?_
  refine b_ir d_Al_look_69 rfl ?_
  exact ⟨rfl, rfl, rfl, rfl, rfl⟩
theorem al_look3 {d : Nat} (hd : 2 ≤ d)  : bm d (S0 n0) R0 18 [.ref 1, .int (Int32.ofNat 3)] W J g L (bR (some (.int (J 37 9))) W J g L) := by
  obtain ⟨e, rfl⟩ : ∃ e, d = e + 1 := ⟨d - 1, by omega⟩
  refine bm_of (Nat.le_of_ble_eq_true rfl) (Or.inr bR_ret) ?_
  show bT e (S0 n0) R0 mt_Al_look _ 0 [(0, .ref 1), (1, .int (Int32.ofNat 3))] [] W J g L 0 0
  have hSR := SR0 n0
  refine b_iln (pc2 := 1) d_Al_look_0 rfl rfl ?_
  refine b_sw (pc2 := 70) (off := 69) d_Al_look_1 rfl rfl rfl (rfl) rfl ?_
  refine b_aln (pc2 := 71) d_Al_look_70 rfl rfl ?_
  refine b_gr (pc2 := 74) d_Al_look_71 q_10_32 (sh_1 n0) (by decide) (by decide) (p_1_3 n0) rfl ?_
  refine b_cv1 (pc2 := 77) (c2 := 0) (u2 := 0) (de_misses_s (by omega)) d_Al_look_74 q_10_163 (Nat.le_of_ble_eq_true rfl) rfl rfl (sh_37 n0) (Nat.le_of_ble_eq_true rfl) rfl rfl (by decide) (by decide) rfl ?_
  refine b_ir d_Al_look_77 rfl ?_
  exact ⟨rfl, rfl, rfl, rfl, rfl⟩
theorem al_look4 {d : Nat} (hd : 2 ≤ d)  : bm d (S0 n0) R0 18 [.ref 1, .int (Int32.ofNat 4)] W J g L (bR (some (.int (J 67 5))) W J g L) := by
  obtain ⟨e, rfl⟩ : ∃ e, d = e + 1 := ⟨d - 1, by omega⟩
  refine bm_of (Nat.le_of_ble_eq_true rfl) (Or.inr bR_ret) ?_
  show bT e (S0 n0) R0 mt_Al_look _ 0 [(0, .ref 1), (1, .int (Int32.ofNat 4))] [] W J g L 0 0
  have hSR := SR0 n0
  refine b_iln (pc2 := 1) d_Al_look_0 rfl rfl ?_
  refine b_sw (pc2 := 78) (off := 77) d_Al_look_1 rfl rfl rfl (rfl) rfl ?_
  refine b_aln (pc2 := 79) d_Al_look_78 rfl rfl ?_
  refine b_gr (pc2 := 82) d_Al_look_79 q_10_38 (sh_1 n0) (by decide) (by decide) (p_1_4 n0) rfl ?_
  refine b_cv1 (pc2 := 85) (c2 := 0) (u2 := 0) (cl_limit (by omega)) d_Al_look_82 q_10_124 (Nat.le_of_ble_eq_true rfl) rfl rfl (sh_67 n0) (Nat.le_of_ble_eq_true rfl) rfl rfl (by decide) (by decide) rfl ?_
  refine b_ir d_Al_look_85 rfl ?_
  exact ⟨rfl, rfl, rfl, rfl, rfl⟩
theorem al_look5 {d : Nat} (hd : 2 ≤ d)  : bm d (S0 n0) R0 18 [.ref 1, .int (Int32.ofNat 5)] W J g L (bR (some (.int (J 86 6))) W J g L) := by
  obtain ⟨e, rfl⟩ : ∃ e, d = e + 1 := ⟨d - 1, by omega⟩
  refine bm_of (Nat.le_of_ble_eq_true rfl) (Or.inr bR_ret) ?_
  show bT e (S0 n0) R0 mt_Al_look _ 0 [(0, .ref 1), (1, .int (Int32.ofNat 5))] [] W J g L 0 0
  have hSR := SR0 n0
  refine b_iln (pc2 := 1) d_Al_look_0 rfl rfl ?_
  refine b_sw (pc2 := 86) (off := 85) d_Al_look_1 rfl rfl rfl (rfl) rfl ?_
  refine b_aln (pc2 := 87) d_Al_look_86 rfl rfl ?_
  refine b_gr (pc2 := 90) d_Al_look_87 q_10_45 (sh_1 n0) (by decide) (by decide) (p_1_5 n0) rfl ?_
  refine b_cv1 (pc2 := 93) (c2 := 0) (u2 := 0) (se_limit (by omega)) d_Al_look_90 q_10_166 (Nat.le_of_ble_eq_true rfl) rfl rfl (sh_86 n0) (Nat.le_of_ble_eq_true rfl) rfl rfl (by decide) (by decide) rfl ?_
  refine b_ir d_Al_look_93 rfl ?_
  exact ⟨rfl, rfl, rfl, rfl, rfl⟩
theorem al_look6 {d : Nat} (hd : 2 ≤ d)  : bm d (S0 n0) R0 18 [.ref 1, .int (Int32.ofNat 6)] W J g L (bR (some (.int (J 86 3))) W J g L) := by
  obtain ⟨e, rfl⟩ : ∃ e, d = e + 1 := ⟨d - 1, by omega⟩
  refine bm_of (Nat.le_of_ble_eq_true rfl) (Or.inr bR_ret) ?_
  show bT e (S0 n0) R0 mt_Al_look _ 0 [(0, .ref 1), (1, .int (Int32.ofNat 6))] [] W J g L 0 0
  have hSR := SR0 n0
  refine b_iln (pc2 := 1) d_Al_look_0 rfl rfl ?_
  refine b_sw (pc2 := 94) (off := 93) d_Al_look_1 rfl rfl rfl (rfl) rfl ?_
  refine b_aln (pc2 := 95) d_Al_look_94 rfl rfl ?_
  refine b_gr (pc2 := 98) d_Al_look_95 q_10_45 (sh_1 n0) (by decide) (by decide) (p_1_5 n0) rfl ?_
  refine b_cv1 (pc2 := 101) (c2 := 0) (u2 := 0) (se_keptParts (by omega)) d_Al_look_98 q_10_167 (Nat.le_of_ble_eq_true rfl) rfl rfl (sh_86 n0) (Nat.le_of_ble_eq_true rfl) rfl rfl (by decide) (by decide) rfl ?_
  refine b_ir d_Al_look_101 rfl ?_
  exact ⟨rfl, rfl, rfl, rfl, rfl⟩
theorem al_look7 {d : Nat} (hd : 2 ≤ d)  : bm d (S0 n0) R0 18 [.ref 1, .int (Int32.ofNat 7)] W J g L (bR (some (.int (if J 1 8 = 0 then 0 else 1))) W J g L) := by
  obtain ⟨e, rfl⟩ : ∃ e, d = e + 1 := ⟨d - 1, by omega⟩
  refine bm_of (Nat.le_of_ble_eq_true rfl) (Or.inr bR_ret) ?_
  show bT e (S0 n0) R0 mt_Al_look _ 0 [(0, .ref 1), (1, .int (Int32.ofNat 7))] [] W J g L 0 0
  have hSR := SR0 n0
  refine b_iln (pc2 := 1) d_Al_look_0 rfl rfl ?_
  refine b_sw (pc2 := 102) (off := 101) d_Al_look_1 rfl rfl rfl (rfl) rfl ?_
  refine b_aln (pc2 := 103) d_Al_look_102 rfl rfl ?_
  refine b_gi (pc2 := 106) d_Al_look_103 q_10_56 (sh_1 n0) (by decide) (by decide) (rc_1) rfl ?_
  refine b_ifd (pc2 := 113) d_Al_look_106 rfl rfl rfl rfl rfl (fun h106 => ?_) (fun h106 => ?_)
  · refine b_ic (pc2 := 114) (x := Int32.ofNat 0) d_Al_look_113 rfl rfl ?_
    refine b_ir d_Al_look_114 rfl ?_
    exact ⟨by rw [if_pos h106]; rfl, rfl, rfl, rfl, rfl⟩
  · refine b_ic (pc2 := 110) (x := Int32.ofNat 1) d_Al_look_109 rfl rfl ?_
    refine b_go (pc2 := 114) d_Al_look_110 rfl ?_
    refine b_ir d_Al_look_114 rfl ?_
    exact ⟨by rw [if_neg h106]; rfl, rfl, rfl, rfl, rfl⟩
theorem al_look8 {d : Nat} (hd : 2 ≤ d) (hu : J 86 7 = 0 ∨ J 86 7 = 1) : bm d (S0 n0) R0 18 [.ref 1, .int (Int32.ofNat 8)] W J g L (bR (some (.int (if J 86 7 = 0 then 0 else 1))) W J g L) := by
  obtain ⟨e, rfl⟩ : ∃ e, d = e + 1 := ⟨d - 1, by omega⟩
  refine bm_of (Nat.le_of_ble_eq_true rfl) (Or.inr bR_ret) ?_
  show bT e (S0 n0) R0 mt_Al_look _ 0 [(0, .ref 1), (1, .int (Int32.ofNat 8))] [] W J g L 0 0
  have hSR := SR0 n0
  refine b_iln (pc2 := 1) d_Al_look_0 rfl rfl ?_
  refine b_sw (pc2 := 115) (off := 114) d_Al_look_1 rfl rfl rfl (rfl) rfl ?_
  refine b_aln (pc2 := 116) d_Al_look_115 rfl rfl ?_
  refine b_gr (pc2 := 119) d_Al_look_116 q_10_45 (sh_1 n0) (by decide) (by decide) (p_1_5 n0) rfl ?_
  refine b_cv1 (pc2 := 122) (c2 := 0) (u2 := 0) (se_isUnconfirmed (by omega) hu) d_Al_look_119 q_10_110 (Nat.le_of_ble_eq_true rfl) rfl rfl (sh_86 n0) (Nat.le_of_ble_eq_true rfl) rfl rfl (by decide) (by decide) rfl ?_
  refine b_ifd (pc2 := 129) d_Al_look_122 rfl rfl rfl rfl rfl (fun h122 => ?_) (fun h122 => ?_)
  · refine b_ic (pc2 := 130) (x := Int32.ofNat 0) d_Al_look_129 rfl rfl ?_
    refine b_ir d_Al_look_130 rfl ?_
    exact ⟨by rw [if_pos h122]; rfl, rfl, rfl, rfl, rfl⟩
  · refine b_ic (pc2 := 126) (x := Int32.ofNat 1) d_Al_look_125 rfl rfl ?_
    refine b_go (pc2 := 130) d_Al_look_126 rfl ?_
    refine b_ir d_Al_look_130 rfl ?_
    exact ⟨by rw [if_neg h122]; rfl, rfl, rfl, rfl, rfl⟩
theorem sw_look {k : Int32} (h : k < 0 ∨ Int32.ofNat 8 < k) : am_sw (Instr.tableswitch 130 0 8 #[51, 56, 61, 69, 77, 85, 93, 101, 114]) [.int k] = some (130, []) := by
  unfold am_sw
  dsimp only
  rw [if_pos]
  rw [Int32.lt_iff_toInt_lt, Int32.lt_iff_toInt_lt, Int32.toInt_zero, i_ti (by decide)] at h
  exact h
theorem al_look9 {d : Nat} (hd : 2 ≤ d) {k : Int32} (hk : k < 0 ∨ Int32.ofNat 8 < k) : bm d (S0 n0) R0 18 [.ref 1, .int k] W J g L (bR (some (.int (-1))) W J g L) := by
  obtain ⟨e, rfl⟩ : ∃ e, d = e + 1 := ⟨d - 1, by omega⟩
  refine bm_of (Nat.le_of_ble_eq_true rfl) (Or.inr bR_ret) ?_
  show bT e (S0 n0) R0 mt_Al_look _ 0 [(0, .ref 1), (1, .int k)] [] W J g L 0 0
  have hSR := SR0 n0
  refine b_iln (pc2 := 1) d_Al_look_0 rfl rfl ?_
  refine b_sw (pc2 := 131) (off := 130) d_Al_look_1 rfl rfl rfl (sw_look hk) rfl ?_
  refine b_ic (pc2 := 132) (x := -1) d_Al_look_131 rfl rfl ?_
  refine b_ir d_Al_look_132 rfl ?_
  exact ⟨rfl, rfl, rfl, rfl, rfl⟩
end LK2
