/-! Part 70 (written by gen20.py): Notes; Client: requests -/
theorem nt_P (n0 : Nat) {i : Nat} (h : i < 4) : (S0 n0).2.1 69 i = some (70 + 2 * i) := match i, h with
  | 0, _ => rfl
  | 1, _ => rfl
  | 2, _ => rfl
  | 3, _ => rfl
  | n + 4, h => absurd h (by omega)
theorem nt_H (n0 : Nat) {i : Nat} (h : i < 4) : (S0 n0).1 (70 + 2 * i) = some (7, 2) := match i, h with
  | 0, _ => rfl
  | 1, _ => rfl
  | 2, _ => rfl
  | 3, _ => rfl
  | n + 4, h => absurd h (by omega)
theorem nt_R {i : Nat} (h : i < 4) : R0 (70 + 2 * i) = some 20 := match i, h with
  | 0, _ => R_70
  | 1, _ => R_72
  | 2, _ => R_74
  | 3, _ => R_76
  | n + 4, h => absurd h (by omega)
/-- Math.floorMod as it is written -/
def fmod (x y : Int32) : Int32 := if 0 ≤ x ^^^ y then x - x / y * y else if x - x / y * y = 0 then x - x / y * y else x - x / y * y + y
theorem fmod_4 {a b : Nat} (ha : a < 4) (hb : b < 4) : fmod (Int32.ofNat a - Int32.ofNat b) (Int32.ofNat 4) = Int32.ofNat ((a + 4 - b) % 4) := by
  have : ∀ x y : Fin 4, fmod (Int32.ofNat x.val - Int32.ofNat y.val) (Int32.ofNat 4) = Int32.ofNat ((x.val + 4 - y.val) % 4) := by decide +kernel
  exact this ⟨a, ha⟩ ⟨b, hb⟩
def stJ (J : bw_J) (op sb : Int32) : bw_J := am_u2 (am_u2 (am_u2 (am_u2 (am_u2 (am_u2 J 67 6 op) 67 7 sb) 67 8 0) 67 9 0) 67 11 0) 67 12 0
section CL
variable {n0 : Nat} {W : bw_W} {J : bw_J} {g : Nat} {L : bw_L}
variable {W1 W2 : bw_W} {J1 J2 : bw_J}
theorem ma_floorMod {d : Nat} (hd : 1 ≤ d) {x y : Int32} (hy : ¬ y = 0) : bm d (S0 n0) R0 2 [.int x, .int y] W J g L (bR (some (.int (fmod x y))) W J g L) := by
  obtain ⟨e, rfl⟩ : ∃ e, d = e + 1 := ⟨d - 1, by omega⟩
  refine bm_of (Nat.le_of_ble_eq_true rfl) (Or.inr bR_ret) ?_
  show bT e (S0 n0) R0 mt_Ma_floorMod _ 0 [(0, .int x), (1, .int y)] [] W J g L 0 0
  have hSR := SR0 n0
  refine b_iln (pc2 := 1) d_Ma_floorMod_0 rfl rfl ?_
  refine b_iln (pc2 := 2) d_Ma_floorMod_1 rfl rfl ?_
  refine b_rem (pc2 := 3) d_Ma_floorMod_2 (hy) rfl ?_
  refine b_isn (pc2 := 4) (al2 := [(2, _), (0, _), (1, _)]) d_Ma_floorMod_3 (by decide) rfl rfl ?_
  refine b_iln (pc2 := 5) d_Ma_floorMod_4 rfl rfl ?_
  refine b_iln (pc2 := 6) d_Ma_floorMod_5 rfl rfl ?_
  refine b_pure (pc2 := 7) d_Ma_floorMod_6 rfl rfl rfl ?_
  refine b_ifd (pc2 := 18) d_Ma_floorMod_7 rfl rfl rfl rfl rfl (fun h7 => ?_) (fun h7 => ?_)
  · refine b_iln (pc2 := 19) d_Ma_floorMod_18 rfl rfl ?_
    refine b_ir d_Ma_floorMod_19 rfl ?_
    exact ⟨by unfold fmod; rw [if_pos h7], rfl, rfl, rfl, rfl⟩
  · refine b_iln (pc2 := 11) d_Ma_floorMod_10 rfl rfl ?_
    refine b_ifd (pc2 := 18) d_Ma_floorMod_11 rfl rfl rfl rfl rfl (fun h11 => ?_) (fun h11 => ?_)
    · refine b_iln (pc2 := 19) d_Ma_floorMod_18 rfl rfl ?_
      refine b_ir d_Ma_floorMod_19 rfl ?_
      exact ⟨by unfold fmod; rw [if_neg h7, if_pos h11], rfl, rfl, rfl, rfl⟩
    · refine b_iln (pc2 := 15) d_Ma_floorMod_14 rfl rfl ?_
      refine b_iln (pc2 := 16) d_Ma_floorMod_15 rfl rfl ?_
      refine b_pure (pc2 := 17) d_Ma_floorMod_16 rfl rfl rfl ?_
      refine b_ir d_Ma_floorMod_17 rfl ?_
      exact ⟨by unfold fmod; rw [if_neg h7, if_neg h11], rfl, rfl, rfl, rfl⟩
theorem no_has {d : Nat} (hd : 1 ≤ d) {k : Int32} : bm d (S0 n0) R0 121 [.ref 68, .int k] W J g L (bR (some (.int (if ¬ k < 0 ∧ k < J 68 1 then 1 else 0))) W J g L) := by
  obtain ⟨e, rfl⟩ : ∃ e, d = e + 1 := ⟨d - 1, by omega⟩
  refine bm_of (Nat.le_of_ble_eq_true rfl) (Or.inr bR_ret) ?_
  show bT e (S0 n0) R0 mt_No_has _ 0 [(0, .ref 68), (1, .int k)] [] W J g L 0 0
  have hSR := SR0 n0
  refine b_iln (pc2 := 1) d_No_has_0 rfl rfl ?_
  refine b_ifd (pc2 := 16) d_No_has_1 rfl rfl rfl rfl rfl (fun h1 => ?_) (fun h1 => ?_)
  · refine b_ic (pc2 := 17) (x := Int32.ofNat 0) d_No_has_16 rfl rfl ?_
    refine b_br d_No_has_17 rfl (by decide) ?_
    exact ⟨by rw [if_neg (fun q => q.1 h1)]; rfl, rfl, rfl, rfl, rfl⟩
  · refine b_iln (pc2 := 5) d_No_has_4 rfl rfl ?_
    refine b_aln (pc2 := 6) d_No_has_5 rfl rfl ?_
    refine b_gi (pc2 := 9) d_No_has_6 q_5_20 (sh_68 n0) (by decide) (by decide) (rc_68) rfl ?_
    refine b_ifd (pc2 := 16) d_No_has_9 rfl rfl rfl rfl rfl (fun h9 => ?_) (fun h9 => ?_)
    · refine b_ic (pc2 := 17) (x := Int32.ofNat 0) d_No_has_16 rfl rfl ?_
      refine b_br d_No_has_17 rfl (by decide) ?_
      exact ⟨by rw [if_neg (fun q => Int32.not_lt.mpr h9 q.2)]; rfl, rfl, rfl, rfl, rfl⟩
    · refine b_ic (pc2 := 13) (x := Int32.ofNat 1) d_No_has_12 rfl rfl ?_
      refine b_go (pc2 := 17) d_No_has_13 rfl ?_
      refine b_br d_No_has_17 rfl (by decide) ?_
      exact ⟨by rw [if_pos ⟨h1, Int32.not_le.mp h9⟩]; rfl, rfl, rfl, rfl, rfl⟩
theorem no_latest {d : Nat} (hd : 2 ≤ d) {a b : Nat} (hn : J 68 2 = Int32.ofNat a) (ha : a < 4) (hb : b < 4) : bm d (S0 n0) R0 122 [.ref 68, .int (Int32.ofNat b)] W J g L (bR (some (.ref (70 + 2 * ((a + 4 - b) % 4)))) W J g L) := by
  obtain ⟨e, rfl⟩ : ∃ e, d = e + 1 := ⟨d - 1, by omega⟩
  refine bm_of (Nat.le_of_ble_eq_true rfl) (Or.inr bR_ret) ?_
  show bT e (S0 n0) R0 mt_No_latest _ 0 [(0, .ref 68), (1, .int (Int32.ofNat b))] [] W J g L 0 0
  have hSR := SR0 n0
  have hi : (a + 4 - b) % 4 < 4 := Nat.mod_lt _ (by decide)
  refine b_aln (pc2 := 1) d_No_latest_0 rfl rfl ?_
  refine b_gr (pc2 := 4) d_No_latest_1 q_5_13 (sh_68 n0) (by decide) (by decide) (p_68_0 n0) rfl ?_
  refine b_aln (pc2 := 5) d_No_latest_4 rfl rfl ?_
  refine b_gi (pc2 := 8) d_No_latest_5 q_5_24 (sh_68 n0) (by decide) (by decide) (rc_68) rfl ?_
  refine b_iln (pc2 := 9) d_No_latest_8 rfl rfl ?_
  rw [hn]
  refine b_pure (pc2 := 10) d_No_latest_9 rfl rfl rfl ?_
  refine b_ic (pc2 := 11) (x := Int32.ofNat 4) d_No_latest_10 rfl rfl ?_
  refine b_cs1 (pc2 := 14) (c2 := 0) (u2 := 0) (ma_floorMod (by omega) (by decide)) d_No_latest_11 q_5_27 (Or.inl rfl) (Nat.le_of_ble_eq_true rfl) rfl rfl (Nat.le_of_ble_eq_true rfl) rfl rfl (by decide) (by decide) rfl ?_
  rw [fmod_4 ha hb]
  refine b_aa (pc2 := 15) (q := ((a + 4 - b) % 4)) d_No_latest_14 (sh_69 n0) (Or.inl rfl) (i_in hi (by decide)) (i_tn (by omega)) (nt_P n0 hi) rfl ?_
  refine b_ar d_No_latest_15 rfl ?_
  exact ⟨rfl, rfl, rfl, rfl, rfl⟩
theorem no_keep {d : Nat} (hd : 2 ≤ d) {a c : Nat} (hn : J 68 2 = Int32.ofNat a) (ha : a < 4) (hc : J 68 1 = Int32.ofNat c) (hc4 : c ≤ 4) (hm : (W 27).length ≤ 20) (hm1 : 1 ≤ (W 27).length) : bm d (S0 n0) R0 95 [.ref 68, .ref 27] W J g L (bR none (am_u1 W (70 + 2 * ((a + 1) % 4)) ((W 27).drop 1)) (am_u2 (am_u2 J 68 2 (Int32.ofNat ((a + 1) % 4))) 68 1 (Int32.ofNat (min 4 (c + 1)))) g L) := by
  obtain ⟨e, rfl⟩ : ∃ e, d = e + 1 := ⟨d - 1, by omega⟩
  refine bm_of (Nat.le_of_ble_eq_true rfl) (Or.inr bR_ret) ?_
  show bT e (S0 n0) R0 mt_No_keep _ 0 [(0, .ref 68), (1, .ref 27)] [] W J g L 0 0
  have hSR := SR0 n0
  have hi : (a + 1) % 4 < 4 := Nat.mod_lt _ (by decide)
  have hd19 : ((W 27).drop 1).length ≤ 19 := by rw [List.length_drop]; omega
  refine b_aln (pc2 := 1) d_No_keep_0 rfl rfl ?_
  refine b_aln (pc2 := 2) d_No_keep_1 rfl rfl ?_
  refine b_gi (pc2 := 5) d_No_keep_2 q_5_24 (sh_68 n0) (by decide) (by decide) (rc_68) rfl ?_
  refine b_ic (pc2 := 6) (x := Int32.ofNat 1) d_No_keep_5 rfl rfl ?_
  rw [hn]
  refine b_pure (pc2 := 7) d_No_keep_6 rfl rfl rfl ?_
  rw [i_add]
  refine b_ic (pc2 := 8) (x := Int32.ofNat 4) d_No_keep_7 rfl rfl ?_
  refine b_rem (pc2 := 9) d_No_keep_8 (by decide) rfl ?_
  rw [i_rem (by omega) (by decide) (by decide)]
  refine b_pi (pc2 := 12) d_No_keep_9 q_5_24 (sh_68 n0) (by decide) (Or.inl (by decide)) (Or.inl rfl) (rc_68) rfl ?_
  refine b_aln (pc2 := 13) d_No_keep_12 rfl rfl ?_
  refine b_gr (pc2 := 16) d_No_keep_13 q_5_13 (sh_68 n0) (by decide) (by decide) (p_68_0 n0) rfl ?_
  refine b_aln (pc2 := 17) d_No_keep_16 rfl rfl ?_
  refine b_gi (pc2 := 20) d_No_keep_17 q_5_24 (sh_68 n0) (by decide) (by decide) (rc_68) rfl ?_
  rw [u2_at]
  refine b_aa (pc2 := 21) (q := ((a + 1) % 4)) d_No_keep_20 (sh_69 n0) (Or.inl rfl) (i_in hi (by decide)) (i_tn (by omega)) (nt_P n0 hi) rfl ?_
  refine b_cv0 (pc2 := 24) (c2 := 0) (u2 := 0) (rw_clear (by omega) hSR (nt_R hi)) d_No_keep_21 q_5_33 (Nat.le_of_ble_eq_true rfl) rfl rfl (nt_H n0 hi) (Nat.le_of_ble_eq_true rfl) rfl rfl (by decide) (by decide) rfl ?_
  refine b_aln (pc2 := 25) d_No_keep_24 rfl rfl ?_
  refine b_gr (pc2 := 28) d_No_keep_25 q_5_13 (sh_68 n0) (by decide) (by decide) (p_68_0 n0) rfl ?_
  refine b_aln (pc2 := 29) d_No_keep_28 rfl rfl ?_
  refine b_gi (pc2 := 32) d_No_keep_29 q_5_24 (sh_68 n0) (by decide) (by decide) (rc_68) rfl ?_
  rw [u2_at]
  refine b_aa (pc2 := 33) (q := ((a + 1) % 4)) d_No_keep_32 (sh_69 n0) (Or.inl rfl) (i_in hi (by decide)) (i_tn (by omega)) (nt_P n0 hi) rfl ?_
  refine b_aln (pc2 := 34) d_No_keep_33 rfl rfl ?_
  refine b_ic (pc2 := 35) (x := Int32.ofNat 1) d_No_keep_34 rfl rfl ?_
  refine b_bp (pc2 := 37) (x := Int32.ofNat 20) d_No_keep_35 rfl rfl ?_
  refine b_cv0 (pc2 := 40) (c2 := 0) (u2 := 0) (rw_addFrom (f := 1) (mo := 20) (by omega) hSR (nt_R hi) R_27 (by omega) (by decide) (by decide)) d_No_keep_37 q_5_36 (Nat.le_of_ble_eq_true rfl) rfl rfl (nt_H n0 hi) (Nat.le_of_ble_eq_true rfl) rfl rfl (by decide) (by decide) rfl ?_
  rw [u1_u1, u1_at, u1_ne _ _ (by omega), List.nil_append, List.take_of_length_le (show ((W 27).drop 1).length ≤ 20 by omega), List.take_of_length_le (show ((W 27).drop 1).length ≤ 20 - ([] : List Int32).length from Nat.le_trans hd19 (by decide))]
  refine b_aln (pc2 := 41) d_No_keep_40 rfl rfl ?_
  refine b_ic (pc2 := 42) (x := Int32.ofNat 4) d_No_keep_41 rfl rfl ?_
  refine b_aln (pc2 := 43) d_No_keep_42 rfl rfl ?_
  refine b_gi (pc2 := 46) d_No_keep_43 q_5_20 (sh_68 n0) (by decide) (by decide) (rc_68) rfl ?_
  rw [u2_k _ _ (by decide), hc]
  refine b_ic (pc2 := 47) (x := Int32.ofNat 1) d_No_keep_46 rfl rfl ?_
  refine b_pure (pc2 := 48) d_No_keep_47 rfl rfl rfl ?_
  rw [i_add]
  refine b_mn (pc2 := 51) (i := 0) d_No_keep_48 q_5_40 (Nat.le_of_ble_eq_true rfl) rfl ?_
  refine b_pi (pc2 := 54) d_No_keep_51 q_5_20 (sh_68 n0) (by decide) (Or.inl (by decide)) (Or.inl rfl) (rc_68) rfl ?_
  refine b_vr d_No_keep_54 rfl ?_
  refine ⟨rfl, rfl, ?_, rfl, rfl⟩
  congr 1
  by_cases h : c + 1 < 4
  · rw [if_pos ((i_lt (by omega) (by decide)).mpr h), Nat.min_eq_right (by omega)]
  · rw [if_neg (fun z => h ((i_lt (by omega) (by decide)).mp z)), Nat.min_eq_left (by omega)]
theorem cl_limit {d : Nat} (hd : 1 ≤ d)  : bm d (S0 n0) R0 20 [.ref 67] W J g L (bR (some (.int (J 67 5))) W J g L) := by
  obtain ⟨e, rfl⟩ : ∃ e, d = e + 1 := ⟨d - 1, by omega⟩
  refine bm_of (Nat.le_of_ble_eq_true rfl) (Or.inr bR_ret) ?_
  show bT e (S0 n0) R0 mt_Cl_limit _ 0 [(0, .ref 67)] [] W J g L 0 0
  have hSR := SR0 n0
  refine b_aln (pc2 := 1) d_Cl_limit_0 rfl rfl ?_
  refine b_gi (pc2 := 4) d_Cl_limit_1 q_2_39 (sh_67 n0) (by decide) (by decide) (rc_67) rfl ?_
  refine b_ir d_Cl_limit_4 rfl ?_
  exact ⟨rfl, rfl, rfl, rfl, rfl⟩
theorem cl_state {d : Nat} (hd : 1 ≤ d)  : bm d (S0 n0) R0 114 [.ref 67] W J g L (bR (some (.int (J 67 8))) W J g L) := by
  obtain ⟨e, rfl⟩ : ∃ e, d = e + 1 := ⟨d - 1, by omega⟩
  refine bm_of (Nat.le_of_ble_eq_true rfl) (Or.inr bR_ret) ?_
  show bT e (S0 n0) R0 mt_Cl_state _ 0 [(0, .ref 67)] [] W J g L 0 0
  have hSR := SR0 n0
  refine b_aln (pc2 := 1) d_Cl_state_0 rfl rfl ?_
  refine b_gi (pc2 := 4) d_Cl_state_1 q_2_49 (sh_67 n0) (by decide) (by decide) (rc_67) rfl ?_
  refine b_ir d_Cl_state_4 rfl ?_
  exact ⟨rfl, rfl, rfl, rfl, rfl⟩
theorem cl_failure {d : Nat} (hd : 1 ≤ d)  : bm d (S0 n0) R0 17 [.ref 67] W J g L (bR (some (.int (J 67 9))) W J g L) := by
  obtain ⟨e, rfl⟩ : ∃ e, d = e + 1 := ⟨d - 1, by omega⟩
  refine bm_of (Nat.le_of_ble_eq_true rfl) (Or.inr bR_ret) ?_
  show bT e (S0 n0) R0 mt_Cl_failure _ 0 [(0, .ref 67)] [] W J g L 0 0
  have hSR := SR0 n0
  refine b_aln (pc2 := 1) d_Cl_failure_0 rfl rfl ?_
  refine b_gi (pc2 := 4) d_Cl_failure_1 q_2_52 (sh_67 n0) (by decide) (by decide) (rc_67) rfl ?_
  refine b_ir d_Cl_failure_4 rfl ?_
  exact ⟨rfl, rfl, rfl, rfl, rfl⟩
theorem cl_succeed {d : Nat} (hd : 1 ≤ d)  : bm d (S0 n0) R0 97 [.ref 67] W J g L (bR none W (am_u2 J 67 8 1) g L) := by
  obtain ⟨e, rfl⟩ : ∃ e, d = e + 1 := ⟨d - 1, by omega⟩
  refine bm_of (Nat.le_of_ble_eq_true rfl) (Or.inr bR_ret) ?_
  show bT e (S0 n0) R0 mt_Cl_succeed _ 0 [(0, .ref 67)] [] W J g L 0 0
  have hSR := SR0 n0
  refine b_aln (pc2 := 1) d_Cl_succeed_0 rfl rfl ?_
  refine b_ic (pc2 := 2) (x := Int32.ofNat 1) d_Cl_succeed_1 rfl rfl ?_
  refine b_pi (pc2 := 5) d_Cl_succeed_2 q_2_49 (sh_67 n0) (by decide) (Or.inl (by decide)) (Or.inl rfl) (rc_67) rfl ?_
  refine b_vr d_Cl_succeed_5 rfl ?_
  exact ⟨rfl, rfl, rfl, rfl, rfl⟩
theorem cl_fail {d : Nat} (hd : 1 ≤ d) {c : Int32} : bm d (S0 n0) R0 98 [.ref 67, .int c] W J g L (bR none W (am_u2 (am_u2 J 67 8 2) 67 9 c) g L) := by
  obtain ⟨e, rfl⟩ : ∃ e, d = e + 1 := ⟨d - 1, by omega⟩
  refine bm_of (Nat.le_of_ble_eq_true rfl) (Or.inr bR_ret) ?_
  show bT e (S0 n0) R0 mt_Cl_fail _ 0 [(0, .ref 67), (1, .int c)] [] W J g L 0 0
  have hSR := SR0 n0
  refine b_aln (pc2 := 1) d_Cl_fail_0 rfl rfl ?_
  refine b_ic (pc2 := 2) (x := Int32.ofNat 2) d_Cl_fail_1 rfl rfl ?_
  refine b_pi (pc2 := 5) d_Cl_fail_2 q_2_49 (sh_67 n0) (by decide) (Or.inl (by decide)) (Or.inl rfl) (rc_67) rfl ?_
  refine b_aln (pc2 := 6) d_Cl_fail_5 rfl rfl ?_
  refine b_iln (pc2 := 7) d_Cl_fail_6 rfl rfl ?_
  refine b_pi (pc2 := 10) d_Cl_fail_7 q_2_52 (sh_67 n0) (by decide) (Or.inl (by decide)) (Or.inl rfl) (rc_67) rfl ?_
  refine b_vr d_Cl_fail_10 rfl ?_
  exact ⟨rfl, rfl, rfl, rfl, rfl⟩
theorem cl_takeError {d : Nat} (hd : 2 ≤ d) {op c : Nat} (ho : J 67 6 = Int32.ofNat op) (ho2 : op < 8) (hc : c < 256) : bm d (S0 n0) R0 99 [.ref 67, .int (Int32.ofNat c)] W J g L (bR none W (if op = 3 ∧ c = 10 then am_u2 J 67 8 1 else am_u2 (am_u2 J 67 8 2) 67 9 (Int32.ofNat c)) g L) := by
  obtain ⟨e, rfl⟩ : ∃ e, d = e + 1 := ⟨d - 1, by omega⟩
  refine bm_of (Nat.le_of_ble_eq_true rfl) (Or.inr bR_ret) ?_
  show bT e (S0 n0) R0 mt_Cl_takeError _ 0 [(0, .ref 67), (1, .int (Int32.ofNat c))] [] W J g L 0 0
  have hSR := SR0 n0
  refine b_aln (pc2 := 1) d_Cl_takeError_0 rfl rfl ?_
  refine b_gi (pc2 := 4) d_Cl_takeError_1 q_2_43 (sh_67 n0) (by decide) (by decide) (rc_67) rfl ?_
  rw [ho]
  refine b_ic (pc2 := 5) (x := Int32.ofNat 3) d_Cl_takeError_4 rfl rfl ?_
  refine b_ifd (pc2 := 21) d_Cl_takeError_5 rfl rfl rfl rfl rfl (fun h5 => ?_) (fun h5 => ?_)
  · refine b_aln (pc2 := 22) d_Cl_takeError_21 rfl rfl ?_
    refine b_iln (pc2 := 23) d_Cl_takeError_22 rfl rfl ?_
    refine b_cv0 (pc2 := 26) (c2 := 0) (u2 := 0) (cl_fail (by omega)) d_Cl_takeError_23 q_2_124 (Nat.le_of_ble_eq_true rfl) rfl rfl (sh_67 n0) (Nat.le_of_ble_eq_true rfl) rfl rfl (by decide) (by decide) rfl ?_
    refine b_vr d_Cl_takeError_26 rfl ?_
    rw [i_eq (by omega) (by decide)] at h5
    exact ⟨rfl, rfl, by rw [if_neg (fun z => h5 z.1)], rfl, rfl⟩
  · refine b_iln (pc2 := 9) d_Cl_takeError_8 rfl rfl ?_
    refine b_bp (pc2 := 11) (x := Int32.ofNat 10) d_Cl_takeError_9 rfl rfl ?_
    refine b_ifd (pc2 := 21) d_Cl_takeError_11 rfl rfl rfl rfl rfl (fun h11 => ?_) (fun h11 => ?_)
    · refine b_aln (pc2 := 22) d_Cl_takeError_21 rfl rfl ?_
      refine b_iln (pc2 := 23) d_Cl_takeError_22 rfl rfl ?_
      refine b_cv0 (pc2 := 26) (c2 := 0) (u2 := 0) (cl_fail (by omega)) d_Cl_takeError_23 q_2_124 (Nat.le_of_ble_eq_true rfl) rfl rfl (sh_67 n0) (Nat.le_of_ble_eq_true rfl) rfl rfl (by decide) (by decide) rfl ?_
      refine b_vr d_Cl_takeError_26 rfl ?_
      rw [i_eq (by omega) (by decide)] at h11
      exact ⟨rfl, rfl, by rw [if_neg (fun z => h11 z.2)], rfl, rfl⟩
    · refine b_aln (pc2 := 15) d_Cl_takeError_14 rfl rfl ?_
      refine b_cv0 (pc2 := 18) (c2 := 0) (u2 := 0) (cl_succeed (by omega)) d_Cl_takeError_15 q_2_121 (Nat.le_of_ble_eq_true rfl) rfl rfl (sh_67 n0) (Nat.le_of_ble_eq_true rfl) rfl rfl (by decide) (by decide) rfl ?_
      refine b_go (pc2 := 26) d_Cl_takeError_18 rfl ?_
      refine b_vr d_Cl_takeError_26 rfl ?_
      rw [i_eq (by omega) (by decide)] at h5 h11
      exact ⟨rfl, rfl, by rw [if_pos ⟨Decidable.not_not.mp h5, Decidable.not_not.mp h11⟩], rfl, rfl⟩
theorem cl_needed {d : Nat} (hd : 1 ≤ d) {op : Nat} (ho : J 67 6 = Int32.ofNat op) (ho2 : op < 8) : bm d (S0 n0) R0 100 [.ref 67] W J g L (bR (some (.int (Int32.ofNat (if op = 0 ∨ op = 3 then 2 else 1)))) W J g L) := by
  obtain ⟨e, rfl⟩ : ∃ e, d = e + 1 := ⟨d - 1, by omega⟩
  refine bm_of (Nat.le_of_ble_eq_true rfl) (Or.inr bR_ret) ?_
  show bT e (S0 n0) R0 mt_Cl_neededBytes _ 0 [(0, .ref 67)] [] W J g L 0 0
  have hSR := SR0 n0
  refine b_aln (pc2 := 1) d_Cl_neededBytes_0 rfl rfl ?_
  refine b_gi (pc2 := 4) d_Cl_neededBytes_1 q_2_43 (sh_67 n0) (by decide) (by decide) (rc_67) rfl ?_
  rw [ho]
  refine b_ifd (pc2 := 15) d_Cl_neededBytes_4 rfl rfl rfl rfl rfl (fun h4 => ?_) (fun h4 => ?_)
  · refine b_ic (pc2 := 16) (x := Int32.ofNat 2) d_Cl_neededBytes_15 rfl rfl ?_
    refine b_go (pc2 := 20) d_Cl_neededBytes_16 rfl ?_
    refine b_ir d_Cl_neededBytes_20 rfl ?_
    rw [show (0 : Int32) = Int32.ofNat 0 from rfl, i_eq (by omega) (by decide)] at h4
    exact ⟨by rw [if_pos (Or.inl h4)], rfl, rfl, rfl, rfl⟩
  · refine b_aln (pc2 := 8) d_Cl_neededBytes_7 rfl rfl ?_
    refine b_gi (pc2 := 11) d_Cl_neededBytes_8 q_2_43 (sh_67 n0) (by decide) (by decide) (rc_67) rfl ?_
    rw [ho]
    refine b_ic (pc2 := 12) (x := Int32.ofNat 3) d_Cl_neededBytes_11 rfl rfl ?_
    refine b_ifd (pc2 := 19) d_Cl_neededBytes_12 rfl rfl rfl rfl rfl (fun h12 => ?_) (fun h12 => ?_)
    · refine b_ic (pc2 := 20) (x := Int32.ofNat 1) d_Cl_neededBytes_19 rfl rfl ?_
      refine b_ir d_Cl_neededBytes_20 rfl ?_
      rw [show (0 : Int32) = Int32.ofNat 0 from rfl, i_eq (by omega) (by decide)] at h4
      rw [i_eq (by omega) (by decide)] at h12
      exact ⟨by rw [if_neg (by omega)], rfl, rfl, rfl, rfl⟩
    · refine b_ic (pc2 := 16) (x := Int32.ofNat 2) d_Cl_neededBytes_15 rfl rfl ?_
      refine b_go (pc2 := 20) d_Cl_neededBytes_16 rfl ?_
      refine b_ir d_Cl_neededBytes_20 rfl ?_
      rw [i_eq (by omega) (by decide)] at h12
      exact ⟨by rw [if_pos (Or.inr (Decidable.not_not.mp h12))], rfl, rfl, rfl, rfl⟩
theorem cl_mayStart {d : Nat} (hd : 1 ≤ d)  : bm d (S0 n0) R0 48 [.ref 67] W J g L (bR (some (.int (if J 67 8 = -1 ∨ J 67 8 = Int32.ofNat 1 ∨ J 67 8 = Int32.ofNat 2 then 1 else 0))) W J g L) := by
  obtain ⟨e, rfl⟩ : ∃ e, d = e + 1 := ⟨d - 1, by omega⟩
  refine bm_of (Nat.le_of_ble_eq_true rfl) (Or.inr bR_ret) ?_
  show bT e (S0 n0) R0 mt_Cl_mayStart _ 0 [(0, .ref 67)] [] W J g L 0 0
  have hSR := SR0 n0
  refine b_aln (pc2 := 1) d_Cl_mayStart_0 rfl rfl ?_
  refine b_gi (pc2 := 4) d_Cl_mayStart_1 q_2_49 (sh_67 n0) (by decide) (by decide) (rc_67) rfl ?_
  refine b_ic (pc2 := 5) (x := -1) d_Cl_mayStart_4 rfl rfl ?_
  refine b_ifd (pc2 := 24) d_Cl_mayStart_5 rfl rfl rfl rfl rfl (fun h5 => ?_) (fun h5 => ?_)
  · refine b_ic (pc2 := 25) (x := Int32.ofNat 1) d_Cl_mayStart_24 rfl rfl ?_
    refine b_go (pc2 := 29) d_Cl_mayStart_25 rfl ?_
    refine b_br d_Cl_mayStart_29 rfl (by decide) ?_
    exact ⟨by rw [if_pos (Or.inl h5)]; rfl, rfl, rfl, rfl, rfl⟩
  · refine b_aln (pc2 := 9) d_Cl_mayStart_8 rfl rfl ?_
    refine b_gi (pc2 := 12) d_Cl_mayStart_9 q_2_49 (sh_67 n0) (by decide) (by decide) (rc_67) rfl ?_
    refine b_ic (pc2 := 13) (x := Int32.ofNat 1) d_Cl_mayStart_12 rfl rfl ?_
    refine b_ifd (pc2 := 24) d_Cl_mayStart_13 rfl rfl rfl rfl rfl (fun h13 => ?_) (fun h13 => ?_)
    · refine b_ic (pc2 := 25) (x := Int32.ofNat 1) d_Cl_mayStart_24 rfl rfl ?_
      refine b_go (pc2 := 29) d_Cl_mayStart_25 rfl ?_
      refine b_br d_Cl_mayStart_29 rfl (by decide) ?_
      exact ⟨by rw [if_pos (Or.inr (Or.inl h13))]; rfl, rfl, rfl, rfl, rfl⟩
    · refine b_aln (pc2 := 17) d_Cl_mayStart_16 rfl rfl ?_
      refine b_gi (pc2 := 20) d_Cl_mayStart_17 q_2_49 (sh_67 n0) (by decide) (by decide) (rc_67) rfl ?_
      refine b_ic (pc2 := 21) (x := Int32.ofNat 2) d_Cl_mayStart_20 rfl rfl ?_
      refine b_ifd (pc2 := 28) d_Cl_mayStart_21 rfl rfl rfl rfl rfl (fun h21 => ?_) (fun h21 => ?_)
      · refine b_ic (pc2 := 29) (x := Int32.ofNat 0) d_Cl_mayStart_28 rfl rfl ?_
        refine b_br d_Cl_mayStart_29 rfl (by decide) ?_
        exact ⟨by rw [if_neg (fun z => by rcases z with z | z | z; exact h5 z; exact h13 z; exact h21 z)]; rfl, rfl, rfl, rfl, rfl⟩
      · refine b_ic (pc2 := 25) (x := Int32.ofNat 1) d_Cl_mayStart_24 rfl rfl ?_
        refine b_go (pc2 := 29) d_Cl_mayStart_25 rfl ?_
        refine b_br d_Cl_mayStart_29 rfl (by decide) ?_
        exact ⟨by rw [if_pos (Or.inr (Or.inr (Decidable.not_not.mp h21)))]; rfl, rfl, rfl, rfl, rfl⟩
theorem cl_compose {d : Nat} (hd : 2 ≤ d) {a b : Nat} (ha : a < 256) (hb : b < 256) : bm d (S0 n0) R0 51 [.ref 67, .int (Int32.ofNat a), .int (Int32.ofNat b)] W J g L (bR none (am_u1 W 80 [Int32.ofNat a, Int32.ofNat b]) J g L) := by
  obtain ⟨e, rfl⟩ : ∃ e, d = e + 1 := ⟨d - 1, by omega⟩
  refine bm_of (Nat.le_of_ble_eq_true rfl) (Or.inr bR_ret) ?_
  show bT e (S0 n0) R0 mt_Cl_compose _ 0 [(0, .ref 67), (1, .int (Int32.ofNat a)), (2, .int (Int32.ofNat b))] [] W J g L 0 0
  have hSR := SR0 n0
  refine b_aln (pc2 := 1) d_Cl_compose_0 rfl rfl ?_
  refine b_gr (pc2 := 4) d_Cl_compose_1 q_2_27 (sh_67 n0) (by decide) (by decide) (p_67_2 n0) rfl ?_
  refine b_cv0 (pc2 := 7) (c2 := 0) (u2 := 0) (rw_clear (by omega) hSR R_80) d_Cl_compose_4 q_2_65 (Nat.le_of_ble_eq_true rfl) rfl rfl (sh_80 n0) (Nat.le_of_ble_eq_true rfl) rfl rfl (by decide) (by decide) rfl ?_
  refine b_aln (pc2 := 8) d_Cl_compose_7 rfl rfl ?_
  refine b_gr (pc2 := 11) d_Cl_compose_8 q_2_27 (sh_67 n0) (by decide) (by decide) (p_67_2 n0) rfl ?_
  refine b_iln (pc2 := 12) d_Cl_compose_11 rfl rfl ?_
  refine b_cv0 (pc2 := 15) (c2 := 0) (u2 := 0) (rw_add (by omega) hSR R_80 (by simp only [u1_at, List.length_append, List.length_cons, List.length_nil]; omega)) d_Cl_compose_12 q_2_33 (Nat.le_of_ble_eq_true rfl) rfl rfl (sh_80 n0) (Nat.le_of_ble_eq_true rfl) rfl rfl (by decide) (by decide) rfl ?_
  rw [u1_u1, u1_at, b255 (n := a) (ha)]
  refine b_aln (pc2 := 16) d_Cl_compose_15 rfl rfl ?_
  refine b_gr (pc2 := 19) d_Cl_compose_16 q_2_27 (sh_67 n0) (by decide) (by decide) (p_67_2 n0) rfl ?_
  refine b_iln (pc2 := 20) d_Cl_compose_19 rfl rfl ?_
  refine b_cv0 (pc2 := 23) (c2 := 0) (u2 := 0) (rw_add (by omega) hSR R_80 (by simp only [u1_at, List.length_append, List.length_cons, List.length_nil]; omega)) d_Cl_compose_20 q_2_33 (Nat.le_of_ble_eq_true rfl) rfl rfl (sh_80 n0) (Nat.le_of_ble_eq_true rfl) rfl rfl (by decide) (by decide) rfl ?_
  rw [u1_u1, u1_at, b255 (n := b) (hb)]
  refine b_vr d_Cl_compose_23 rfl ?_
  exact ⟨rfl, rfl, rfl, rfl, rfl⟩
theorem cl_composeFind {d : Nat} (hd : 2 ≤ d) {f sb : Nat} (hf : f < 256) (hs : J 67 7 = Int32.ofNat sb) (hs2 : sb < 256) : bm d (S0 n0) R0 52 [.ref 67, .int (Int32.ofNat f)] W J g L (bR none (am_u1 W 80 [Int32.ofNat 16, Int32.ofNat f, Int32.ofNat sb]) J g L) := by
  obtain ⟨e, rfl⟩ : ∃ e, d = e + 1 := ⟨d - 1, by omega⟩
  refine bm_of (Nat.le_of_ble_eq_true rfl) (Or.inr bR_ret) ?_
  show bT e (S0 n0) R0 mt_Cl_composeFind _ 0 [(0, .ref 67), (1, .int (Int32.ofNat f))] [] W J g L 0 0
  have hSR := SR0 n0
  refine b_aln (pc2 := 1) d_Cl_composeFind_0 rfl rfl ?_
  refine b_gr (pc2 := 4) d_Cl_composeFind_1 q_2_27 (sh_67 n0) (by decide) (by decide) (p_67_2 n0) rfl ?_
  refine b_cv0 (pc2 := 7) (c2 := 0) (u2 := 0) (rw_clear (by omega) hSR R_80) d_Cl_composeFind_4 q_2_65 (Nat.le_of_ble_eq_true rfl) rfl rfl (sh_80 n0) (Nat.le_of_ble_eq_true rfl) rfl rfl (by decide) (by decide) rfl ?_
  refine b_aln (pc2 := 8) d_Cl_composeFind_7 rfl rfl ?_
  refine b_gr (pc2 := 11) d_Cl_composeFind_8 q_2_27 (sh_67 n0) (by decide) (by decide) (p_67_2 n0) rfl ?_
  refine b_bp (pc2 := 13) (x := Int32.ofNat 16) d_Cl_composeFind_11 rfl rfl ?_
  refine b_cv0 (pc2 := 16) (c2 := 0) (u2 := 0) (rw_add (by omega) hSR R_80 (by simp only [u1_at, List.length_append, List.length_cons, List.length_nil]; omega)) d_Cl_composeFind_13 q_2_33 (Nat.le_of_ble_eq_true rfl) rfl rfl (sh_80 n0) (Nat.le_of_ble_eq_true rfl) rfl rfl (by decide) (by decide) rfl ?_
  rw [u1_u1, u1_at, b255 (n := 16) (by decide)]
  refine b_aln (pc2 := 17) d_Cl_composeFind_16 rfl rfl ?_
  refine b_gr (pc2 := 20) d_Cl_composeFind_17 q_2_27 (sh_67 n0) (by decide) (by decide) (p_67_2 n0) rfl ?_
  refine b_iln (pc2 := 21) d_Cl_composeFind_20 rfl rfl ?_
  refine b_cv0 (pc2 := 24) (c2 := 0) (u2 := 0) (rw_add (by omega) hSR R_80 (by simp only [u1_at, List.length_append, List.length_cons, List.length_nil]; omega)) d_Cl_composeFind_21 q_2_33 (Nat.le_of_ble_eq_true rfl) rfl rfl (sh_80 n0) (Nat.le_of_ble_eq_true rfl) rfl rfl (by decide) (by decide) rfl ?_
  rw [u1_u1, u1_at, b255 (n := f) (hf)]
  refine b_aln (pc2 := 25) d_Cl_composeFind_24 rfl rfl ?_
  refine b_gr (pc2 := 28) d_Cl_composeFind_25 q_2_27 (sh_67 n0) (by decide) (by decide) (p_67_2 n0) rfl ?_
  refine b_aln (pc2 := 29) d_Cl_composeFind_28 rfl rfl ?_
  refine b_gi (pc2 := 32) d_Cl_composeFind_29 q_2_46 (sh_67 n0) (by decide) (by decide) (rc_67) rfl ?_
  rw [hs]
  refine b_cv0 (pc2 := 35) (c2 := 0) (u2 := 0) (rw_add (by omega) hSR R_80 (by simp only [u1_at, List.length_append, List.length_cons, List.length_nil]; omega)) d_Cl_composeFind_32 q_2_33 (Nat.le_of_ble_eq_true rfl) rfl rfl (sh_80 n0) (Nat.le_of_ble_eq_true rfl) rfl rfl (by decide) (by decide) rfl ?_
  rw [u1_u1, u1_at, b255 (n := sb) (hs2)]
  refine b_vr d_Cl_composeFind_35 rfl ?_
  exact ⟨rfl, rfl, rfl, rfl, rfl⟩
theorem cl_composePart {d : Nat} (hd : 2 ≤ d) {pl sb lm : Nat} (hp : J 67 11 = Int32.ofNat pl) (hp2 : pl < 256) (hs : J 67 7 = Int32.ofNat sb) (hs2 : sb < 256) (hl : J 67 5 = Int32.ofNat lm) (hl1 : 8 ≤ lm) (hl2 : lm ≤ 20) : bm d (S0 n0) R0 53 [.ref 67] W J g L (bR none (am_u1 W 80 (Int32.ofNat 22 :: Int32.ofNat sb :: Int32.ofNat pl :: ((W 84).drop pl).take (lm - 3))) J g L) := by
  obtain ⟨e, rfl⟩ : ∃ e, d = e + 1 := ⟨d - 1, by omega⟩
  refine bm_of (Nat.le_of_ble_eq_true rfl) (Or.inr bR_ret) ?_
  show bT e (S0 n0) R0 mt_Cl_composePart _ 0 [(0, .ref 67)] [] W J g L 0 0
  have hSR := SR0 n0
  refine b_aln (pc2 := 1) d_Cl_composePart_0 rfl rfl ?_
  refine b_gr (pc2 := 4) d_Cl_composePart_1 q_2_27 (sh_67 n0) (by decide) (by decide) (p_67_2 n0) rfl ?_
  refine b_cv0 (pc2 := 7) (c2 := 0) (u2 := 0) (rw_clear (by omega) hSR R_80) d_Cl_composePart_4 q_2_65 (Nat.le_of_ble_eq_true rfl) rfl rfl (sh_80 n0) (Nat.le_of_ble_eq_true rfl) rfl rfl (by decide) (by decide) rfl ?_
  refine b_aln (pc2 := 8) d_Cl_composePart_7 rfl rfl ?_
  refine b_gr (pc2 := 11) d_Cl_composePart_8 q_2_27 (sh_67 n0) (by decide) (by decide) (p_67_2 n0) rfl ?_
  refine b_bp (pc2 := 13) (x := Int32.ofNat 22) d_Cl_composePart_11 rfl rfl ?_
  refine b_cv0 (pc2 := 16) (c2 := 0) (u2 := 0) (rw_add (by omega) hSR R_80 (by simp only [u1_at, List.length_append, List.length_cons, List.length_nil]; omega)) d_Cl_composePart_13 q_2_33 (Nat.le_of_ble_eq_true rfl) rfl rfl (sh_80 n0) (Nat.le_of_ble_eq_true rfl) rfl rfl (by decide) (by decide) rfl ?_
  rw [u1_u1, u1_at, b255 (n := 22) (by decide)]
  refine b_aln (pc2 := 17) d_Cl_composePart_16 rfl rfl ?_
  refine b_gr (pc2 := 20) d_Cl_composePart_17 q_2_27 (sh_67 n0) (by decide) (by decide) (p_67_2 n0) rfl ?_
  refine b_aln (pc2 := 21) d_Cl_composePart_20 rfl rfl ?_
  refine b_gi (pc2 := 24) d_Cl_composePart_21 q_2_46 (sh_67 n0) (by decide) (by decide) (rc_67) rfl ?_
  rw [hs]
  refine b_cv0 (pc2 := 27) (c2 := 0) (u2 := 0) (rw_add (by omega) hSR R_80 (by simp only [u1_at, List.length_append, List.length_cons, List.length_nil]; omega)) d_Cl_composePart_24 q_2_33 (Nat.le_of_ble_eq_true rfl) rfl rfl (sh_80 n0) (Nat.le_of_ble_eq_true rfl) rfl rfl (by decide) (by decide) rfl ?_
  rw [u1_u1, u1_at, b255 (n := sb) (hs2)]
  refine b_aln (pc2 := 28) d_Cl_composePart_27 rfl rfl ?_
  refine b_gr (pc2 := 31) d_Cl_composePart_28 q_2_27 (sh_67 n0) (by decide) (by decide) (p_67_2 n0) rfl ?_
  refine b_aln (pc2 := 32) d_Cl_composePart_31 rfl rfl ?_
  refine b_gi (pc2 := 35) d_Cl_composePart_32 q_2_58 (sh_67 n0) (by decide) (by decide) (rc_67) rfl ?_
  rw [hp]
  refine b_cv0 (pc2 := 38) (c2 := 0) (u2 := 0) (rw_add (by omega) hSR R_80 (by simp only [u1_at, List.length_append, List.length_cons, List.length_nil]; omega)) d_Cl_composePart_35 q_2_33 (Nat.le_of_ble_eq_true rfl) rfl rfl (sh_80 n0) (Nat.le_of_ble_eq_true rfl) rfl rfl (by decide) (by decide) rfl ?_
  rw [u1_u1, u1_at, b255 (n := pl) (hp2)]
  refine b_aln (pc2 := 39) d_Cl_composePart_38 rfl rfl ?_
  refine b_gr (pc2 := 42) d_Cl_composePart_39 q_2_27 (sh_67 n0) (by decide) (by decide) (p_67_2 n0) rfl ?_
  refine b_aln (pc2 := 43) d_Cl_composePart_42 rfl rfl ?_
  refine b_gr (pc2 := 46) d_Cl_composePart_43 q_2_36 (sh_67 n0) (by decide) (by decide) (p_67_4 n0) rfl ?_
  refine b_aln (pc2 := 47) d_Cl_composePart_46 rfl rfl ?_
  refine b_gi (pc2 := 50) d_Cl_composePart_47 q_2_58 (sh_67 n0) (by decide) (by decide) (rc_67) rfl ?_
  rw [hp]
  refine b_aln (pc2 := 51) d_Cl_composePart_50 rfl rfl ?_
  refine b_gi (pc2 := 54) d_Cl_composePart_51 q_2_39 (sh_67 n0) (by decide) (by decide) (rc_67) rfl ?_
  refine b_ic (pc2 := 55) (x := Int32.ofNat 3) d_Cl_composePart_54 rfl rfl ?_
  rw [hl]
  refine b_pure (pc2 := 56) d_Cl_composePart_55 rfl rfl rfl ?_
  rw [i_sub (by omega)]
  refine b_cv0 (pc2 := 59) (c2 := 0) (u2 := 0) (rw_addFrom (by omega) hSR R_80 R_84 (by decide) (by omega) (by omega)) d_Cl_composePart_56 q_2_114 (Nat.le_of_ble_eq_true rfl) rfl rfl (sh_80 n0) (Nat.le_of_ble_eq_true rfl) rfl rfl (by decide) (by decide) rfl ?_
  rw [u1_u1, u1_at, u1_ne _ _ (by decide), List.take_of_length_le (show (((W 84).drop pl).take (lm - 3)).length ≤ 20 - (([] : List Int32) ++ [Int32.ofNat 22] ++ [Int32.ofNat sb] ++ [Int32.ofNat pl]).length by rw [List.length_take]; show _ ≤ 17; omega)]
  refine b_vr d_Cl_composePart_59 rfl ?_
  exact ⟨rfl, rfl, rfl, rfl, rfl⟩
theorem cl_ask {d : Nat} (hd : 3 ≤ d) (hG : ∀ e, 2 ≤ e → bm e (S0 n0) R0 44 [.ref 8, .ref 80] W J g L (bR none W1 J1 g L)) : bm d (S0 n0) R0 54 [.ref 67, .ref 8] W J g L (bR none W1 (am_u2 J1 67 10 0) g L) := by
  obtain ⟨e, rfl⟩ : ∃ e, d = e + 1 := ⟨d - 1, by omega⟩
  refine bm_of (Nat.le_of_ble_eq_true rfl) (Or.inr bR_ret) ?_
  show bT e (S0 n0) R0 mt_Cl_ask _ 0 [(0, .ref 67), (1, .ref 8)] [] W J g L 0 0
  have hSR := SR0 n0
  refine b_aln (pc2 := 1) d_Cl_ask_0 rfl rfl ?_
  refine b_aln (pc2 := 2) d_Cl_ask_1 rfl rfl ?_
  refine b_gr (pc2 := 5) d_Cl_ask_2 q_2_27 (sh_67 n0) (by decide) (by decide) (p_67_2 n0) rfl ?_
  refine b_cv0 (pc2 := 8) (c2 := 0) (u2 := 0) (hG e (by omega)) d_Cl_ask_5 q_2_102 (Nat.le_of_ble_eq_true rfl) rfl rfl (sh_8 n0) (Nat.le_of_ble_eq_true rfl) rfl rfl (by decide) (by decide) rfl ?_
  refine b_aln (pc2 := 9) d_Cl_ask_8 rfl rfl ?_
  refine b_ic (pc2 := 10) (x := Int32.ofNat 0) d_Cl_ask_9 rfl rfl ?_
  refine b_pi (pc2 := 13) d_Cl_ask_10 q_2_55 (sh_67 n0) (by decide) (Or.inl (by decide)) (Or.inl rfl) (rc_67) rfl ?_
  refine b_vr d_Cl_ask_13 rfl ?_
  exact ⟨rfl, rfl, rfl, rfl, rfl⟩
theorem cl_endEvent0 {d : Nat} (hd : 1 ≤ d) {b : Int32} (hs : ¬ J 67 8 = 0) : bm d (S0 n0) R0 109 [.ref 67, .int b] W J g L (bR none W J g L) := by
  obtain ⟨e, rfl⟩ : ∃ e, d = e + 1 := ⟨d - 1, by omega⟩
  refine bm_of (Nat.le_of_ble_eq_true rfl) (Or.inr bR_ret) ?_
  show bT e (S0 n0) R0 mt_Cl_endEvent _ 0 [(0, .ref 67), (1, .int b)] [] W J g L 0 0
  have hSR := SR0 n0
  refine b_aln (pc2 := 1) d_Cl_endEvent_0 rfl rfl ?_
  refine b_gi (pc2 := 4) d_Cl_endEvent_1 q_2_49 (sh_67 n0) (by decide) (by decide) (rc_67) rfl ?_
  refine b_ifd (pc2 := 8) d_Cl_endEvent_4 rfl rfl rfl rfl rfl (fun h4 => ?_) (fun h4 => ?_)
  · exact absurd h4 (hs)
  refine b_vr d_Cl_endEvent_7 rfl ?_
  exact ⟨rfl, rfl, rfl, rfl, rfl⟩
theorem cl_endEvent1 {d : Nat} (hd : 1 ≤ d) {b : Int32} {w : Nat} (hs : J 67 8 = 0) (hw : J 67 10 = Int32.ofNat w) (hw2 : w < 1000) : bm d (S0 n0) R0 109 [.ref 67, .int b] W J g L (bR none W (if b = 0 then (if w + 1 < 30 then am_u2 J 67 10 (Int32.ofNat (w + 1)) else am_u2 (am_u2 J 67 10 (Int32.ofNat (w + 1))) 67 8 (Int32.ofNat 3)) else am_u2 (am_u2 J 67 10 (Int32.ofNat (w + 1))) 67 8 (Int32.ofNat 4)) g L) := by
  obtain ⟨e, rfl⟩ : ∃ e, d = e + 1 := ⟨d - 1, by omega⟩
  refine bm_of (Nat.le_of_ble_eq_true rfl) (Or.inr bR_ret) ?_
  show bT e (S0 n0) R0 mt_Cl_endEvent _ 0 [(0, .ref 67), (1, .int b)] [] W J g L 0 0
  have hSR := SR0 n0
  refine b_aln (pc2 := 1) d_Cl_endEvent_0 rfl rfl ?_
  refine b_gi (pc2 := 4) d_Cl_endEvent_1 q_2_49 (sh_67 n0) (by decide) (by decide) (rc_67) rfl ?_
  refine b_ifd (pc2 := 8) d_Cl_endEvent_4 rfl rfl rfl rfl rfl (fun h4 => ?_) (fun h4 => ?_)
  rotate_left
  · exact absurd (hs) h4
  refine b_aln (pc2 := 9) d_Cl_endEvent_8 rfl rfl ?_
  refine b_pure (pc2 := 10) d_Cl_endEvent_9 rfl rfl rfl ?_
  refine b_gi (pc2 := 13) d_Cl_endEvent_10 q_2_55 (sh_67 n0) (by decide) (by decide) (rc_67) rfl ?_
  refine b_ic (pc2 := 14) (x := Int32.ofNat 1) d_Cl_endEvent_13 rfl rfl ?_
  rw [hw]
  refine b_pure (pc2 := 15) d_Cl_endEvent_14 rfl rfl rfl ?_
  rw [i_add]
  refine b_pi (pc2 := 18) d_Cl_endEvent_15 q_2_55 (sh_67 n0) (by decide) (Or.inl (by decide)) (Or.inl rfl) (rc_67) rfl ?_
  refine b_iln (pc2 := 19) d_Cl_endEvent_18 rfl rfl ?_
  refine b_ifd (pc2 := 30) d_Cl_endEvent_19 rfl rfl rfl rfl rfl (fun h19 => ?_) (fun h19 => ?_)
  · refine b_aln (pc2 := 31) d_Cl_endEvent_30 rfl rfl ?_
    refine b_gi (pc2 := 34) d_Cl_endEvent_31 q_2_55 (sh_67 n0) (by decide) (by decide) (rc_67) rfl ?_
    rw [u2_at]
    refine b_bp (pc2 := 36) (x := Int32.ofNat 30) d_Cl_endEvent_34 rfl rfl ?_
    refine b_ifd (pc2 := 44) d_Cl_endEvent_36 rfl rfl rfl rfl rfl (fun h36 => ?_) (fun h36 => ?_)
    · refine b_vr d_Cl_endEvent_44 rfl ?_
      rw [i_lt (by omega) (by decide)] at h36
      exact ⟨rfl, rfl, by rw [if_pos h19, if_pos h36], rfl, rfl⟩
    · refine b_aln (pc2 := 40) d_Cl_endEvent_39 rfl rfl ?_
      refine b_ic (pc2 := 41) (x := Int32.ofNat 3) d_Cl_endEvent_40 rfl rfl ?_
      refine b_pi (pc2 := 44) d_Cl_endEvent_41 q_2_49 (sh_67 n0) (by decide) (Or.inl (by decide)) (Or.inl rfl) (rc_67) rfl ?_
      refine b_vr d_Cl_endEvent_44 rfl ?_
      rw [i_lt (by omega) (by decide)] at h36
      exact ⟨rfl, rfl, by rw [if_pos h19, if_neg h36], rfl, rfl⟩
  · refine b_aln (pc2 := 23) d_Cl_endEvent_22 rfl rfl ?_
    refine b_ic (pc2 := 24) (x := Int32.ofNat 4) d_Cl_endEvent_23 rfl rfl ?_
    refine b_pi (pc2 := 27) d_Cl_endEvent_24 q_2_49 (sh_67 n0) (by decide) (Or.inl (by decide)) (Or.inl rfl) (rc_67) rfl ?_
    refine b_go (pc2 := 44) d_Cl_endEvent_27 rfl ?_
    refine b_vr d_Cl_endEvent_44 rfl ?_
    exact ⟨rfl, rfl, by rw [if_neg h19], rfl, rfl⟩
theorem cl_first0 {d : Nat} (hd : 3 ≤ d) (ho : J 67 6 = Int32.ofNat 0) {sb : Nat} (hs : J 67 7 = Int32.ofNat sb) (hs2 : sb < 256) : bm d (S0 n0) R0 50 [.ref 67] W J g L (bR none (am_u1 W 80 [Int32.ofNat 2, Int32.ofNat sb]) J g L) := by
  obtain ⟨e, rfl⟩ : ∃ e, d = e + 1 := ⟨d - 1, by omega⟩
  refine bm_of (Nat.le_of_ble_eq_true rfl) (Or.inr bR_ret) ?_
  show bT e (S0 n0) R0 mt_Cl_composeFirst _ 0 [(0, .ref 67)] [] W J g L 0 0
  have hSR := SR0 n0
  refine b_aln (pc2 := 1) d_Cl_composeFirst_0 rfl rfl ?_
  refine b_gi (pc2 := 4) d_Cl_composeFirst_1 q_2_43 (sh_67 n0) (by decide) (by decide) (rc_67) rfl ?_
  rw [ho]
  refine b_sw (pc2 := 48) (off := 44) d_Cl_composeFirst_4 rfl rfl rfl (rfl) rfl ?_
  refine b_aln (pc2 := 49) d_Cl_composeFirst_48 rfl rfl ?_
  refine b_ic (pc2 := 50) (x := Int32.ofNat 2) d_Cl_composeFirst_49 rfl rfl ?_
  refine b_aln (pc2 := 51) d_Cl_composeFirst_50 rfl rfl ?_
  refine b_gi (pc2 := 54) d_Cl_composeFirst_51 q_2_46 (sh_67 n0) (by decide) (by decide) (rc_67) rfl ?_
  rw [hs]
  refine b_cv0 (pc2 := 57) (c2 := 0) (u2 := 0) (cl_compose (by omega) (by decide) hs2) d_Cl_composeFirst_54 q_2_107 (Nat.le_of_ble_eq_true rfl) rfl rfl (sh_67 n0) (Nat.le_of_ble_eq_true rfl) rfl rfl (by decide) (by decide) rfl ?_
  refine b_go (pc2 := 136) d_Cl_composeFirst_57 rfl ?_
  refine b_vr d_Cl_composeFirst_136 rfl ?_
  exact ⟨rfl, rfl, rfl, rfl, rfl⟩
theorem cl_first1 {d : Nat} (hd : 3 ≤ d) (ho : J 67 6 = Int32.ofNat 1) {sb : Nat} (hs : J 67 7 = Int32.ofNat sb) (hs2 : sb < 256) : bm d (S0 n0) R0 50 [.ref 67] W J g L (bR none (am_u1 W 80 [Int32.ofNat 10, Int32.ofNat sb]) J g L) := by
  obtain ⟨e, rfl⟩ : ∃ e, d = e + 1 := ⟨d - 1, by omega⟩
  refine bm_of (Nat.le_of_ble_eq_true rfl) (Or.inr bR_ret) ?_
  show bT e (S0 n0) R0 mt_Cl_composeFirst _ 0 [(0, .ref 67)] [] W J g L 0 0
  have hSR := SR0 n0
  refine b_aln (pc2 := 1) d_Cl_composeFirst_0 rfl rfl ?_
  refine b_gi (pc2 := 4) d_Cl_composeFirst_1 q_2_43 (sh_67 n0) (by decide) (by decide) (rc_67) rfl ?_
  rw [ho]
  refine b_sw (pc2 := 126) (off := 122) d_Cl_composeFirst_4 rfl rfl rfl (rfl) rfl ?_
  refine b_aln (pc2 := 127) d_Cl_composeFirst_126 rfl rfl ?_
  refine b_bp (pc2 := 129) (x := Int32.ofNat 10) d_Cl_composeFirst_127 rfl rfl ?_
  refine b_aln (pc2 := 130) d_Cl_composeFirst_129 rfl rfl ?_
  refine b_gi (pc2 := 133) d_Cl_composeFirst_130 q_2_46 (sh_67 n0) (by decide) (by decide) (rc_67) rfl ?_
  rw [hs]
  refine b_cv0 (pc2 := 136) (c2 := 0) (u2 := 0) (cl_compose (by omega) (by decide) hs2) d_Cl_composeFirst_133 q_2_107 (Nat.le_of_ble_eq_true rfl) rfl rfl (sh_67 n0) (Nat.le_of_ble_eq_true rfl) rfl rfl (by decide) (by decide) rfl ?_
  refine b_vr d_Cl_composeFirst_136 rfl ?_
  exact ⟨rfl, rfl, rfl, rfl, rfl⟩
theorem cl_first2 {d : Nat} (hd : 3 ≤ d) (ho : J 67 6 = Int32.ofNat 2) {sb : Nat} (hs : J 67 7 = Int32.ofNat sb) (hs2 : sb < 256) : bm d (S0 n0) R0 50 [.ref 67] W J g L (bR none (am_u1 W 80 [Int32.ofNat 10, Int32.ofNat sb]) J g L) := by
  obtain ⟨e, rfl⟩ : ∃ e, d = e + 1 := ⟨d - 1, by omega⟩
  refine bm_of (Nat.le_of_ble_eq_true rfl) (Or.inr bR_ret) ?_
  show bT e (S0 n0) R0 mt_Cl_composeFirst _ 0 [(0, .ref 67)] [] W J g L 0 0
  have hSR := SR0 n0
  refine b_aln (pc2 := 1) d_Cl_composeFirst_0 rfl rfl ?_
  refine b_gi (pc2 := 4) d_Cl_composeFirst_1 q_2_43 (sh_67 n0) (by decide) (by decide) (rc_67) rfl ?_
  rw [ho]
  refine b_sw (pc2 := 126) (off := 122) d_Cl_composeFirst_4 rfl rfl rfl (rfl) rfl ?_
  refine b_aln (pc2 := 127) d_Cl_composeFirst_126 rfl rfl ?_
  refine b_bp (pc2 := 129) (x := Int32.ofNat 10) d_Cl_composeFirst_127 rfl rfl ?_
  refine b_aln (pc2 := 130) d_Cl_composeFirst_129 rfl rfl ?_
  refine b_gi (pc2 := 133) d_Cl_composeFirst_130 q_2_46 (sh_67 n0) (by decide) (by decide) (rc_67) rfl ?_
  rw [hs]
  refine b_cv0 (pc2 := 136) (c2 := 0) (u2 := 0) (cl_compose (by omega) (by decide) hs2) d_Cl_composeFirst_133 q_2_107 (Nat.le_of_ble_eq_true rfl) rfl rfl (sh_67 n0) (Nat.le_of_ble_eq_true rfl) rfl rfl (by decide) (by decide) rfl ?_
  refine b_vr d_Cl_composeFirst_136 rfl ?_
  exact ⟨rfl, rfl, rfl, rfl, rfl⟩
theorem cl_first3 {d : Nat} (hd : 3 ≤ d) (ho : J 67 6 = Int32.ofNat 3) {sb : Nat} (hs : J 67 7 = Int32.ofNat sb) (hs2 : sb < 256) : bm d (S0 n0) R0 50 [.ref 67] W J g L (bR none (am_u1 W 80 [Int32.ofNat 16, Int32.ofNat 1, Int32.ofNat sb]) J g L) := by
  obtain ⟨e, rfl⟩ : ∃ e, d = e + 1 := ⟨d - 1, by omega⟩
  refine bm_of (Nat.le_of_ble_eq_true rfl) (Or.inr bR_ret) ?_
  show bT e (S0 n0) R0 mt_Cl_composeFirst _ 0 [(0, .ref 67)] [] W J g L 0 0
  have hSR := SR0 n0
  refine b_aln (pc2 := 1) d_Cl_composeFirst_0 rfl rfl ?_
  refine b_gi (pc2 := 4) d_Cl_composeFirst_1 q_2_43 (sh_67 n0) (by decide) (by decide) (rc_67) rfl ?_
  rw [ho]
  refine b_sw (pc2 := 60) (off := 56) d_Cl_composeFirst_4 rfl rfl rfl (rfl) rfl ?_
  refine b_aln (pc2 := 61) d_Cl_composeFirst_60 rfl rfl ?_
  refine b_ic (pc2 := 62) (x := Int32.ofNat 1) d_Cl_composeFirst_61 rfl rfl ?_
  refine b_cv0 (pc2 := 65) (c2 := 0) (u2 := 0) (cl_composeFind (by omega) (by decide) hs hs2) d_Cl_composeFirst_62 q_2_111 (Nat.le_of_ble_eq_true rfl) rfl rfl (sh_67 n0) (Nat.le_of_ble_eq_true rfl) rfl rfl (by decide) (by decide) rfl ?_
  refine b_go (pc2 := 136) d_Cl_composeFirst_65 rfl ?_
  refine b_vr d_Cl_composeFirst_136 rfl ?_
  exact ⟨rfl, rfl, rfl, rfl, rfl⟩
theorem cl_first4 {d : Nat} (hd : 3 ≤ d) (ho : J 67 6 = Int32.ofNat 4) {sb : Nat} (hs : J 67 7 = Int32.ofNat sb) (hs2 : sb < 256) (ht : (W 84).length ≤ 8) : bm d (S0 n0) R0 50 [.ref 67] W J g L (bR none (am_u1 W 80 (Int32.ofNat 18 :: Int32.ofNat sb :: W 84)) J g L) := by
  obtain ⟨e, rfl⟩ : ∃ e, d = e + 1 := ⟨d - 1, by omega⟩
  refine bm_of (Nat.le_of_ble_eq_true rfl) (Or.inr bR_ret) ?_
  show bT e (S0 n0) R0 mt_Cl_composeFirst _ 0 [(0, .ref 67)] [] W J g L 0 0
  have hSR := SR0 n0
  refine b_aln (pc2 := 1) d_Cl_composeFirst_0 rfl rfl ?_
  refine b_gi (pc2 := 4) d_Cl_composeFirst_1 q_2_43 (sh_67 n0) (by decide) (by decide) (rc_67) rfl ?_
  rw [ho]
  refine b_sw (pc2 := 68) (off := 64) d_Cl_composeFirst_4 rfl rfl rfl (rfl) rfl ?_
  refine b_aln (pc2 := 69) d_Cl_composeFirst_68 rfl rfl ?_
  refine b_bp (pc2 := 71) (x := Int32.ofNat 18) d_Cl_composeFirst_69 rfl rfl ?_
  refine b_aln (pc2 := 72) d_Cl_composeFirst_71 rfl rfl ?_
  refine b_gi (pc2 := 75) d_Cl_composeFirst_72 q_2_46 (sh_67 n0) (by decide) (by decide) (rc_67) rfl ?_
  rw [hs]
  refine b_cv0 (pc2 := 78) (c2 := 0) (u2 := 0) (cl_compose (by omega) (by decide) hs2) d_Cl_composeFirst_75 q_2_107 (Nat.le_of_ble_eq_true rfl) rfl rfl (sh_67 n0) (Nat.le_of_ble_eq_true rfl) rfl rfl (by decide) (by decide) rfl ?_
  refine b_aln (pc2 := 79) d_Cl_composeFirst_78 rfl rfl ?_
  refine b_gr (pc2 := 82) d_Cl_composeFirst_79 q_2_27 (sh_67 n0) (by decide) (by decide) (p_67_2 n0) rfl ?_
  refine b_aln (pc2 := 83) d_Cl_composeFirst_82 rfl rfl ?_
  refine b_gr (pc2 := 86) d_Cl_composeFirst_83 q_2_36 (sh_67 n0) (by decide) (by decide) (p_67_4 n0) rfl ?_
  refine b_ic (pc2 := 87) (x := Int32.ofNat 0) d_Cl_composeFirst_86 rfl rfl ?_
  refine b_bp (pc2 := 89) (x := Int32.ofNat 8) d_Cl_composeFirst_87 rfl rfl ?_
  refine b_cv0 (pc2 := 92) (c2 := 0) (u2 := 0) (rw_addFrom (f := 0) (mo := 8) (by omega) hSR R_80 R_84 (by decide) (by decide) (by decide)) d_Cl_composeFirst_89 q_2_114 (Nat.le_of_ble_eq_true rfl) rfl rfl (sh_80 n0) (Nat.le_of_ble_eq_true rfl) rfl rfl (by decide) (by decide) rfl ?_
  rw [u1_u1, u1_at, u1_ne _ _ (by decide), List.drop_zero, List.take_of_length_le ht, List.take_of_length_le (show (W 84).length ≤ 20 - [Int32.ofNat 18, Int32.ofNat sb].length by show _ ≤ 18; omega)]
  refine b_go (pc2 := 136) d_Cl_composeFirst_92 rfl ?_
  refine b_vr d_Cl_composeFirst_136 rfl ?_
  exact ⟨rfl, rfl, rfl, rfl, rfl⟩
theorem cl_first5 {d : Nat} (hd : 3 ≤ d) (ho : J 67 6 = Int32.ofNat 5) {pl sb lm : Nat} (hp : J 67 11 = Int32.ofNat pl) (hp2 : pl < 256) (hs : J 67 7 = Int32.ofNat sb) (hs2 : sb < 256) (hl : J 67 5 = Int32.ofNat lm) (hl1 : 8 ≤ lm) (hl2 : lm ≤ 20) : bm d (S0 n0) R0 50 [.ref 67] W J g L (bR none (am_u1 W 80 (Int32.ofNat 22 :: Int32.ofNat sb :: Int32.ofNat pl :: ((W 84).drop pl).take (lm - 3))) J g L) := by
  obtain ⟨e, rfl⟩ : ∃ e, d = e + 1 := ⟨d - 1, by omega⟩
  refine bm_of (Nat.le_of_ble_eq_true rfl) (Or.inr bR_ret) ?_
  show bT e (S0 n0) R0 mt_Cl_composeFirst _ 0 [(0, .ref 67)] [] W J g L 0 0
  have hSR := SR0 n0
  refine b_aln (pc2 := 1) d_Cl_composeFirst_0 rfl rfl ?_
  refine b_gi (pc2 := 4) d_Cl_composeFirst_1 q_2_43 (sh_67 n0) (by decide) (by decide) (rc_67) rfl ?_
  rw [ho]
  refine b_sw (pc2 := 95) (off := 91) d_Cl_composeFirst_4 rfl rfl rfl (rfl) rfl ?_
  refine b_aln (pc2 := 96) d_Cl_composeFirst_95 rfl rfl ?_
  refine b_cv0 (pc2 := 99) (c2 := 0) (u2 := 0) (cl_composePart (by omega) hp hp2 hs hs2 hl hl1 hl2) d_Cl_composeFirst_96 q_2_118 (Nat.le_of_ble_eq_true rfl) rfl rfl (sh_67 n0) (Nat.le_of_ble_eq_true rfl) rfl rfl (by decide) (by decide) rfl ?_
  refine b_go (pc2 := 136) d_Cl_composeFirst_99 rfl ?_
  refine b_vr d_Cl_composeFirst_136 rfl ?_
  exact ⟨rfl, rfl, rfl, rfl, rfl⟩
theorem cl_first6 {d : Nat} (hd : 3 ≤ d) (ho : J 67 6 = Int32.ofNat 6) (ht : (W 84).length ≤ 8) : bm d (S0 n0) R0 50 [.ref 67] W J g L (bR none (am_u1 W 80 (W 84)) J g L) := by
  obtain ⟨e, rfl⟩ : ∃ e, d = e + 1 := ⟨d - 1, by omega⟩
  refine bm_of (Nat.le_of_ble_eq_true rfl) (Or.inr bR_ret) ?_
  show bT e (S0 n0) R0 mt_Cl_composeFirst _ 0 [(0, .ref 67)] [] W J g L 0 0
  have hSR := SR0 n0
  refine b_aln (pc2 := 1) d_Cl_composeFirst_0 rfl rfl ?_
  refine b_gi (pc2 := 4) d_Cl_composeFirst_1 q_2_43 (sh_67 n0) (by decide) (by decide) (rc_67) rfl ?_
  rw [ho]
  refine b_sw (pc2 := 102) (off := 98) d_Cl_composeFirst_4 rfl rfl rfl (rfl) rfl ?_
  refine b_aln (pc2 := 103) d_Cl_composeFirst_102 rfl rfl ?_
  refine b_gr (pc2 := 106) d_Cl_composeFirst_103 q_2_27 (sh_67 n0) (by decide) (by decide) (p_67_2 n0) rfl ?_
  refine b_cv0 (pc2 := 109) (c2 := 0) (u2 := 0) (rw_clear (by omega) hSR R_80) d_Cl_composeFirst_106 q_2_65 (Nat.le_of_ble_eq_true rfl) rfl rfl (sh_80 n0) (Nat.le_of_ble_eq_true rfl) rfl rfl (by decide) (by decide) rfl ?_
  refine b_aln (pc2 := 110) d_Cl_composeFirst_109 rfl rfl ?_
  refine b_gr (pc2 := 113) d_Cl_composeFirst_110 q_2_27 (sh_67 n0) (by decide) (by decide) (p_67_2 n0) rfl ?_
  refine b_aln (pc2 := 114) d_Cl_composeFirst_113 rfl rfl ?_
  refine b_gr (pc2 := 117) d_Cl_composeFirst_114 q_2_36 (sh_67 n0) (by decide) (by decide) (p_67_4 n0) rfl ?_
  refine b_ic (pc2 := 118) (x := Int32.ofNat 0) d_Cl_composeFirst_117 rfl rfl ?_
  refine b_bp (pc2 := 120) (x := Int32.ofNat 8) d_Cl_composeFirst_118 rfl rfl ?_
  refine b_cv0 (pc2 := 123) (c2 := 0) (u2 := 0) (rw_addFrom (f := 0) (mo := 8) (by omega) hSR R_80 R_84 (by decide) (by decide) (by decide)) d_Cl_composeFirst_120 q_2_114 (Nat.le_of_ble_eq_true rfl) rfl rfl (sh_80 n0) (Nat.le_of_ble_eq_true rfl) rfl rfl (by decide) (by decide) rfl ?_
  rw [u1_u1, u1_at, u1_ne _ _ (by decide), List.drop_zero, List.take_of_length_le ht, List.nil_append, List.take_of_length_le (show (W 84).length ≤ 20 - ([] : List Int32).length by show _ ≤ 20; omega)]
  refine b_go (pc2 := 136) d_Cl_composeFirst_123 rfl ?_
  refine b_vr d_Cl_composeFirst_136 rfl ?_
  exact ⟨rfl, rfl, rfl, rfl, rfl⟩
theorem cl_start {d : Nat} (hd : 4 ≤ d) {op sb : Int32} {v : Int64} {n : Nat} (hn : n ≤ 8) (hC : ∀ e, 3 ≤ e → bm e (S0 n0) R0 50 [.ref 67] (am_u1 (am_u1 W 78 []) 84 (by8 v n)) (stJ J op sb) g L (bR none W1 J1 g L)) (hA : ∀ e, 3 ≤ e → bm e (S0 n0) R0 54 [.ref 67, .ref 8] W1 J1 g L (bR none W2 J2 g L)) : bm d (S0 n0) R0 49 [.ref 67, .int op, .int sb, .long v, .int (Int32.ofNat n), .ref 8] W J g L (bR none W2 J2 g L) := by
  obtain ⟨e, rfl⟩ : ∃ e, d = e + 1 := ⟨d - 1, by omega⟩
  refine bm_of (Nat.le_of_ble_eq_true rfl) (Or.inr bR_ret) ?_
  show bT e (S0 n0) R0 mt_Cl_start _ 0 [(0, .ref 67), (1, .int op), (2, .int sb), (3, .long v), (5, .int (Int32.ofNat n)), (6, .ref 8)] [] W J g L 0 0
  have hSR := SR0 n0
  refine b_aln (pc2 := 1) d_Cl_start_0 rfl rfl ?_
  refine b_iln (pc2 := 2) d_Cl_start_1 rfl rfl ?_
  refine b_pi (pc2 := 5) d_Cl_start_2 q_2_43 (sh_67 n0) (by decide) (Or.inl (by decide)) (Or.inl rfl) (rc_67) rfl ?_
  refine b_aln (pc2 := 6) d_Cl_start_5 rfl rfl ?_
  refine b_iln (pc2 := 7) d_Cl_start_6 rfl rfl ?_
  refine b_pi (pc2 := 10) d_Cl_start_7 q_2_46 (sh_67 n0) (by decide) (Or.inl (by decide)) (Or.inl rfl) (rc_67) rfl ?_
  refine b_aln (pc2 := 11) d_Cl_start_10 rfl rfl ?_
  refine b_ic (pc2 := 12) (x := Int32.ofNat 0) d_Cl_start_11 rfl rfl ?_
  refine b_pi (pc2 := 15) d_Cl_start_12 q_2_49 (sh_67 n0) (by decide) (Or.inl (by decide)) (Or.inl rfl) (rc_67) rfl ?_
  refine b_aln (pc2 := 16) d_Cl_start_15 rfl rfl ?_
  refine b_ic (pc2 := 17) (x := Int32.ofNat 0) d_Cl_start_16 rfl rfl ?_
  refine b_pi (pc2 := 20) d_Cl_start_17 q_2_52 (sh_67 n0) (by decide) (Or.inl (by decide)) (Or.inl rfl) (rc_67) rfl ?_
  refine b_aln (pc2 := 21) d_Cl_start_20 rfl rfl ?_
  refine b_ic (pc2 := 22) (x := Int32.ofNat 0) d_Cl_start_21 rfl rfl ?_
  refine b_pi (pc2 := 25) d_Cl_start_22 q_2_58 (sh_67 n0) (by decide) (Or.inl (by decide)) (Or.inl rfl) (rc_67) rfl ?_
  refine b_aln (pc2 := 26) d_Cl_start_25 rfl rfl ?_
  refine b_ic (pc2 := 27) (x := Int32.ofNat 0) d_Cl_start_26 rfl rfl ?_
  refine b_pi (pc2 := 30) d_Cl_start_27 q_2_61 (sh_67 n0) (by decide) (Or.inl (by decide)) (Or.inr ⟨rfl, by decide⟩) (rc_67) rfl ?_
  refine b_aln (pc2 := 31) d_Cl_start_30 rfl rfl ?_
  refine b_gr (pc2 := 34) d_Cl_start_31 q_2_23 (sh_67 n0) (by decide) (by decide) (p_67_1 n0) rfl ?_
  refine b_cv0 (pc2 := 37) (c2 := 0) (u2 := 0) (rw_clear (by omega) hSR R_78) d_Cl_start_34 q_2_65 (Nat.le_of_ble_eq_true rfl) rfl rfl (sh_78 n0) (Nat.le_of_ble_eq_true rfl) rfl rfl (by decide) (by decide) rfl ?_
  refine b_aln (pc2 := 38) d_Cl_start_37 rfl rfl ?_
  refine b_gr (pc2 := 41) d_Cl_start_38 q_2_36 (sh_67 n0) (by decide) (by decide) (p_67_4 n0) rfl ?_
  refine b_cv0 (pc2 := 44) (c2 := 0) (u2 := 0) (rw_clear (by omega) hSR R_84) d_Cl_start_41 q_2_65 (Nat.le_of_ble_eq_true rfl) rfl rfl (sh_84 n0) (Nat.le_of_ble_eq_true rfl) rfl rfl (by decide) (by decide) rfl ?_
  refine b_aln (pc2 := 45) d_Cl_start_44 rfl rfl ?_
  refine b_gr (pc2 := 48) d_Cl_start_45 q_2_36 (sh_67 n0) (by decide) (by decide) (p_67_4 n0) rfl ?_
  refine b_lln (pc2 := 49) d_Cl_start_48 rfl rfl ?_
  refine b_il (pc2 := 51) d_Cl_start_49 rfl rfl ?_
  refine b_cv0 (pc2 := 54) (c2 := 0) (u2 := 0) (rw_addNumber (by omega) hSR R_84 (by omega) (by rw [u1_at]; show 0 + n ≤ 8; omega)) d_Cl_start_51 q_2_68 (Nat.le_of_ble_eq_true rfl) rfl rfl (sh_84 n0) (Nat.le_of_ble_eq_true rfl) rfl rfl (by decide) (by decide) rfl ?_
  rw [u1_u1, u1_at, List.nil_append]
  refine b_aln (pc2 := 55) d_Cl_start_54 rfl rfl ?_
  refine b_cv0 (pc2 := 58) (c2 := 0) (u2 := 0) (hC e (by omega)) d_Cl_start_55 q_2_72 (Nat.le_of_ble_eq_true rfl) rfl rfl (sh_67 n0) (Nat.le_of_ble_eq_true rfl) rfl rfl (by decide) (by decide) rfl ?_
  refine b_aln (pc2 := 59) d_Cl_start_58 rfl rfl ?_
  refine b_al (pc2 := 61) d_Cl_start_59 rfl rfl ?_
  refine b_cv0 (pc2 := 64) (c2 := 0) (u2 := 0) (hA e (by omega)) d_Cl_start_61 q_2_75 (Nat.le_of_ble_eq_true rfl) rfl rfl (sh_67 n0) (Nat.le_of_ble_eq_true rfl) rfl rfl (by decide) (by decide) rfl ?_
  refine b_vr d_Cl_start_64 rfl ?_
  exact ⟨rfl, rfl, rfl, rfl, rfl⟩
end CL
