/-! Part 71 (written by gen21.py): Client: answers -/
theorem l_cut {l m : List Int32} (h : l.length ≤ 16) : (l ++ (m.take 20).take (20 - l.length)).take 16 = (l ++ m).take 16 := by
  rw [List.take_append, List.take_append, List.take_take, List.take_take]
  congr 2
  omega
theorem mn_ok {a b : Nat} (ha : a < 256) (hb : b < 256) : (if Int32.ofNat b < Int32.ofNat a then Int32.ofNat b else Int32.ofNat a) = Int32.ofNat (min a b) := by
  by_cases h : b < a
  · rw [if_pos ((i_lt (by omega) (by omega)).mpr h), Nat.min_eq_right (by omega)]
  · rw [if_neg (fun z => h ((i_lt (by omega) (by omega)).mp z)), Nat.min_eq_left (by omega)]
section CA
variable {n0 : Nat} {W : bw_W} {J : bw_J} {g : Nat} {L : bw_L}
variable {W1 W2 : bw_W} {J1 J2 : bw_J}
theorem cl_gw0 {d : Nat} (hd : 3 ≤ d) (hr : (W 80).getD 0 0 = Int32.ofNat 24) : bm d (S0 n0) R0 105 [.ref 67, .ref 27] W J g L (bR none W (am_u2 J 67 8 1) g L) := by
  obtain ⟨e, rfl⟩ : ∃ e, d = e + 1 := ⟨d - 1, by omega⟩
  refine bm_of (Nat.le_of_ble_eq_true rfl) (Or.inr bR_ret) ?_
  show bT e (S0 n0) R0 mt_Cl_goOnWriting _ 0 [(0, .ref 67), (1, .ref 27)] [] W J g L 0 0
  have hSR := SR0 n0
  refine b_aln (pc2 := 1) d_Cl_goOnWriting_0 rfl rfl ?_
  refine b_gr (pc2 := 4) d_Cl_goOnWriting_1 q_2_27 (sh_67 n0) (by decide) (by decide) (p_67_2 n0) rfl ?_
  refine b_ic (pc2 := 5) (x := Int32.ofNat 0) d_Cl_goOnWriting_4 rfl rfl ?_
  refine b_cv1 (pc2 := 8) (c2 := 0) (u2 := 0) (rw_at (k := 0) (by omega) hSR R_80 (by decide)) d_Cl_goOnWriting_5 q_2_79 (Nat.le_of_ble_eq_true rfl) rfl rfl (sh_80 n0) (Nat.le_of_ble_eq_true rfl) rfl rfl (by decide) (by decide) rfl ?_
  rw [hr]
  refine b_bp (pc2 := 10) (x := Int32.ofNat 24) d_Cl_goOnWriting_8 rfl rfl ?_
  refine b_ifd (pc2 := 18) d_Cl_goOnWriting_10 rfl rfl rfl rfl rfl (fun h10 => ?_) (fun h10 => ?_)
  · exact absurd h10 (by decide)
  refine b_aln (pc2 := 14) d_Cl_goOnWriting_13 rfl rfl ?_
  refine b_cv0 (pc2 := 17) (c2 := 0) (u2 := 0) (cl_succeed (by omega)) d_Cl_goOnWriting_14 q_2_121 (Nat.le_of_ble_eq_true rfl) rfl rfl (sh_67 n0) (Nat.le_of_ble_eq_true rfl) rfl rfl (by decide) (by decide) rfl ?_
  refine b_vr d_Cl_goOnWriting_17 rfl ?_
  exact ⟨rfl, rfl, rfl, rfl, rfl⟩
theorem cl_gw1 {d : Nat} (hd : 3 ≤ d) {r0 pl lm : Nat} (hr : (W 80).getD 0 0 = Int32.ofNat r0) (hr2 : r0 < 256) (hr3 : ¬ r0 = 24) (hp : J 67 11 = Int32.ofNat pl) (hp2 : pl < 200) (hl : J 67 5 = Int32.ofNat lm) (hl1 : 8 ≤ lm) (hl2 : lm ≤ 20) (hm1 : 1 ≤ (W 27).length) (hsm : ¬ ((W 27).length = (W 80).length ∧ (W 27).drop 1 = (W 80).drop 1)) : bm d (S0 n0) R0 105 [.ref 67, .ref 27] W J g L (bR none (am_u1 W 80 [Int32.ofNat 24, Int32.ofNat 0]) (am_u2 (am_u2 J 67 12 1) 67 11 (Int32.ofNat (pl + lm - 3))) g L) := by
  obtain ⟨e, rfl⟩ : ∃ e, d = e + 1 := ⟨d - 1, by omega⟩
  refine bm_of (Nat.le_of_ble_eq_true rfl) (Or.inr bR_ret) ?_
  show bT e (S0 n0) R0 mt_Cl_goOnWriting _ 0 [(0, .ref 67), (1, .ref 27)] [] W J g L 0 0
  have hSR := SR0 n0
  refine b_free fun hlen => ?_
  have hla := hlen 27 20 R_27
  have hlb := hlen 80 20 R_80
  have hlt := hlen 84 8 R_84
  refine b_aln (pc2 := 1) d_Cl_goOnWriting_0 rfl rfl ?_
  refine b_gr (pc2 := 4) d_Cl_goOnWriting_1 q_2_27 (sh_67 n0) (by decide) (by decide) (p_67_2 n0) rfl ?_
  refine b_ic (pc2 := 5) (x := Int32.ofNat 0) d_Cl_goOnWriting_4 rfl rfl ?_
  refine b_cv1 (pc2 := 8) (c2 := 0) (u2 := 0) (rw_at (k := 0) (by omega) hSR R_80 (by decide)) d_Cl_goOnWriting_5 q_2_79 (Nat.le_of_ble_eq_true rfl) rfl rfl (sh_80 n0) (Nat.le_of_ble_eq_true rfl) rfl rfl (by decide) (by decide) rfl ?_
  rw [hr]
  refine b_bp (pc2 := 10) (x := Int32.ofNat 24) d_Cl_goOnWriting_8 rfl rfl ?_
  refine b_ifd (pc2 := 18) d_Cl_goOnWriting_10 rfl rfl rfl rfl rfl (fun h10 => ?_) (fun h10 => ?_)
  rotate_left
  · exact absurd (fun z => hr3 ((i_eq (by omega) (by decide)).mp z)) h10
  refine b_aln (pc2 := 19) d_Cl_goOnWriting_18 rfl rfl ?_
  refine b_aln (pc2 := 20) d_Cl_goOnWriting_19 rfl rfl ?_
  refine b_ic (pc2 := 21) (x := Int32.ofNat 1) d_Cl_goOnWriting_20 rfl rfl ?_
  refine b_aln (pc2 := 22) d_Cl_goOnWriting_21 rfl rfl ?_
  refine b_gr (pc2 := 25) d_Cl_goOnWriting_22 q_2_27 (sh_67 n0) (by decide) (by decide) (p_67_2 n0) rfl ?_
  refine b_cv1 (pc2 := 28) (c2 := 0) (u2 := 0) (rw_isSame (f := 1) (by omega) hSR R_27 R_80 (by omega) (by omega) hm1) d_Cl_goOnWriting_25 q_2_154 (Nat.le_of_ble_eq_true rfl) rfl rfl (sh_27 n0) (Nat.le_of_ble_eq_true rfl) rfl rfl (by decide) (by decide) rfl ?_
  rw [if_neg hsm]
  refine b_ifd (pc2 := 35) d_Cl_goOnWriting_28 rfl rfl rfl rfl rfl (fun h28 => ?_) (fun h28 => ?_)
  · exact absurd h28 (fun z => z rfl)
  refine b_ic (pc2 := 32) (x := Int32.ofNat 1) d_Cl_goOnWriting_31 rfl rfl ?_
  refine b_go (pc2 := 36) d_Cl_goOnWriting_32 rfl ?_
  refine b_pi (pc2 := 39) d_Cl_goOnWriting_36 q_2_61 (sh_67 n0) (by decide) (Or.inl (by decide)) (Or.inr ⟨rfl, by decide⟩) (rc_67) rfl ?_
  refine b_aln (pc2 := 40) d_Cl_goOnWriting_39 rfl rfl ?_
  refine b_pure (pc2 := 41) d_Cl_goOnWriting_40 rfl rfl rfl ?_
  refine b_gi (pc2 := 44) d_Cl_goOnWriting_41 q_2_58 (sh_67 n0) (by decide) (by decide) (rc_67) rfl ?_
  refine b_aln (pc2 := 45) d_Cl_goOnWriting_44 rfl rfl ?_
  refine b_gi (pc2 := 48) d_Cl_goOnWriting_45 q_2_39 (sh_67 n0) (by decide) (by decide) (rc_67) rfl ?_
  refine b_ic (pc2 := 49) (x := Int32.ofNat 3) d_Cl_goOnWriting_48 rfl rfl ?_
  refine b_pure (pc2 := 50) d_Cl_goOnWriting_49 rfl rfl rfl ?_
  rw [u2_k _ _ (by decide), u2_k _ _ (by decide), hp, hl, i_sub (by omega)]
  refine b_pure (pc2 := 51) d_Cl_goOnWriting_50 rfl rfl rfl ?_
  rw [i_add, show pl + (lm - 3) = pl + lm - 3 by omega]
  refine b_pi (pc2 := 54) d_Cl_goOnWriting_51 q_2_58 (sh_67 n0) (by decide) (Or.inl (by decide)) (Or.inl rfl) (rc_67) rfl ?_
  refine b_aln (pc2 := 55) d_Cl_goOnWriting_54 rfl rfl ?_
  refine b_gi (pc2 := 58) d_Cl_goOnWriting_55 q_2_61 (sh_67 n0) (by decide) (by decide) (rc_67) rfl ?_
  rw [u2_k _ _ (by decide), u2_at]
  refine b_ifd (pc2 := 71) d_Cl_goOnWriting_58 rfl rfl rfl rfl rfl (fun h58 => ?_) (fun h58 => ?_)
  · exact absurd h58 (by decide)
  refine b_aln (pc2 := 62) d_Cl_goOnWriting_61 rfl rfl ?_
  refine b_bp (pc2 := 64) (x := Int32.ofNat 24) d_Cl_goOnWriting_62 rfl rfl ?_
  refine b_ic (pc2 := 65) (x := Int32.ofNat 0) d_Cl_goOnWriting_64 rfl rfl ?_
  refine b_cv0 (pc2 := 68) (c2 := 0) (u2 := 0) (cl_compose (by omega) (by decide) (by decide)) d_Cl_goOnWriting_65 q_2_107 (Nat.le_of_ble_eq_true rfl) rfl rfl (sh_67 n0) (Nat.le_of_ble_eq_true rfl) rfl rfl (by decide) (by decide) rfl ?_
  refine b_go (pc2 := 99) d_Cl_goOnWriting_68 rfl ?_
  refine b_vr d_Cl_goOnWriting_99 rfl ?_
  exact ⟨rfl, rfl, rfl, rfl, rfl⟩
theorem cl_gw2 {d : Nat} (hd : 3 ≤ d) {r0 pl lm : Nat} (hr : (W 80).getD 0 0 = Int32.ofNat r0) (hr2 : r0 < 256) (hr3 : ¬ r0 = 24) (hp : J 67 11 = Int32.ofNat pl) (hp2 : pl < 200) (hl : J 67 5 = Int32.ofNat lm) (hl1 : 8 ≤ lm) (hl2 : lm ≤ 20) (hm1 : 1 ≤ (W 27).length) (hsm : ((W 27).length = (W 80).length ∧ (W 27).drop 1 = (W 80).drop 1)) (hpl : pl + lm - 3 < (W 84).length) {sb : Nat} (hs : J 67 7 = Int32.ofNat sb) (hs2 : sb < 256) : bm d (S0 n0) R0 105 [.ref 67, .ref 27] W J g L (bR none (am_u1 W 80 (Int32.ofNat 22 :: Int32.ofNat sb :: Int32.ofNat (pl + lm - 3) :: ((W 84).drop (pl + lm - 3)).take (lm - 3))) (am_u2 (am_u2 J 67 12 0) 67 11 (Int32.ofNat (pl + lm - 3))) g L) := by
  obtain ⟨e, rfl⟩ : ∃ e, d = e + 1 := ⟨d - 1, by omega⟩
  refine bm_of (Nat.le_of_ble_eq_true rfl) (Or.inr bR_ret) ?_
  show bT e (S0 n0) R0 mt_Cl_goOnWriting _ 0 [(0, .ref 67), (1, .ref 27)] [] W J g L 0 0
  have hSR := SR0 n0
  refine b_free fun hlen => ?_
  have hla := hlen 27 20 R_27
  have hlb := hlen 80 20 R_80
  have hlt := hlen 84 8 R_84
  refine b_aln (pc2 := 1) d_Cl_goOnWriting_0 rfl rfl ?_
  refine b_gr (pc2 := 4) d_Cl_goOnWriting_1 q_2_27 (sh_67 n0) (by decide) (by decide) (p_67_2 n0) rfl ?_
  refine b_ic (pc2 := 5) (x := Int32.ofNat 0) d_Cl_goOnWriting_4 rfl rfl ?_
  refine b_cv1 (pc2 := 8) (c2 := 0) (u2 := 0) (rw_at (k := 0) (by omega) hSR R_80 (by decide)) d_Cl_goOnWriting_5 q_2_79 (Nat.le_of_ble_eq_true rfl) rfl rfl (sh_80 n0) (Nat.le_of_ble_eq_true rfl) rfl rfl (by decide) (by decide) rfl ?_
  rw [hr]
  refine b_bp (pc2 := 10) (x := Int32.ofNat 24) d_Cl_goOnWriting_8 rfl rfl ?_
  refine b_ifd (pc2 := 18) d_Cl_goOnWriting_10 rfl rfl rfl rfl rfl (fun h10 => ?_) (fun h10 => ?_)
  rotate_left
  · exact absurd (fun z => hr3 ((i_eq (by omega) (by decide)).mp z)) h10
  refine b_aln (pc2 := 19) d_Cl_goOnWriting_18 rfl rfl ?_
  refine b_aln (pc2 := 20) d_Cl_goOnWriting_19 rfl rfl ?_
  refine b_ic (pc2 := 21) (x := Int32.ofNat 1) d_Cl_goOnWriting_20 rfl rfl ?_
  refine b_aln (pc2 := 22) d_Cl_goOnWriting_21 rfl rfl ?_
  refine b_gr (pc2 := 25) d_Cl_goOnWriting_22 q_2_27 (sh_67 n0) (by decide) (by decide) (p_67_2 n0) rfl ?_
  refine b_cv1 (pc2 := 28) (c2 := 0) (u2 := 0) (rw_isSame (f := 1) (by omega) hSR R_27 R_80 (by omega) (by omega) hm1) d_Cl_goOnWriting_25 q_2_154 (Nat.le_of_ble_eq_true rfl) rfl rfl (sh_27 n0) (Nat.le_of_ble_eq_true rfl) rfl rfl (by decide) (by decide) rfl ?_
  rw [if_pos hsm]
  refine b_ifd (pc2 := 35) d_Cl_goOnWriting_28 rfl rfl rfl rfl rfl (fun h28 => ?_) (fun h28 => ?_)
  rotate_left
  · exact absurd (show ¬ (1 : Int32) = 0 by decide) h28
  refine b_ic (pc2 := 36) (x := Int32.ofNat 0) d_Cl_goOnWriting_35 rfl rfl ?_
  refine b_pi (pc2 := 39) d_Cl_goOnWriting_36 q_2_61 (sh_67 n0) (by decide) (Or.inl (by decide)) (Or.inr ⟨rfl, by decide⟩) (rc_67) rfl ?_
  refine b_aln (pc2 := 40) d_Cl_goOnWriting_39 rfl rfl ?_
  refine b_pure (pc2 := 41) d_Cl_goOnWriting_40 rfl rfl rfl ?_
  refine b_gi (pc2 := 44) d_Cl_goOnWriting_41 q_2_58 (sh_67 n0) (by decide) (by decide) (rc_67) rfl ?_
  refine b_aln (pc2 := 45) d_Cl_goOnWriting_44 rfl rfl ?_
  refine b_gi (pc2 := 48) d_Cl_goOnWriting_45 q_2_39 (sh_67 n0) (by decide) (by decide) (rc_67) rfl ?_
  refine b_ic (pc2 := 49) (x := Int32.ofNat 3) d_Cl_goOnWriting_48 rfl rfl ?_
  refine b_pure (pc2 := 50) d_Cl_goOnWriting_49 rfl rfl rfl ?_
  rw [u2_k _ _ (by decide), u2_k _ _ (by decide), hp, hl, i_sub (by omega)]
  refine b_pure (pc2 := 51) d_Cl_goOnWriting_50 rfl rfl rfl ?_
  rw [i_add, show pl + (lm - 3) = pl + lm - 3 by omega]
  refine b_pi (pc2 := 54) d_Cl_goOnWriting_51 q_2_58 (sh_67 n0) (by decide) (Or.inl (by decide)) (Or.inl rfl) (rc_67) rfl ?_
  refine b_aln (pc2 := 55) d_Cl_goOnWriting_54 rfl rfl ?_
  refine b_gi (pc2 := 58) d_Cl_goOnWriting_55 q_2_61 (sh_67 n0) (by decide) (by decide) (rc_67) rfl ?_
  rw [u2_k _ _ (by decide), u2_at]
  refine b_ifd (pc2 := 71) d_Cl_goOnWriting_58 rfl rfl rfl rfl rfl (fun h58 => ?_) (fun h58 => ?_)
  rotate_left
  · exact absurd (rfl) h58
  refine b_aln (pc2 := 72) d_Cl_goOnWriting_71 rfl rfl ?_
  refine b_gi (pc2 := 75) d_Cl_goOnWriting_72 q_2_58 (sh_67 n0) (by decide) (by decide) (rc_67) rfl ?_
  rw [u2_at]
  refine b_aln (pc2 := 76) d_Cl_goOnWriting_75 rfl rfl ?_
  refine b_gr (pc2 := 79) d_Cl_goOnWriting_76 q_2_36 (sh_67 n0) (by decide) (by decide) (p_67_4 n0) rfl ?_
  refine b_cv1 (pc2 := 82) (c2 := 0) (u2 := 0) (rw_length (by omega) hSR R_84) d_Cl_goOnWriting_79 q_2_95 (Nat.le_of_ble_eq_true rfl) rfl rfl (sh_84 n0) (Nat.le_of_ble_eq_true rfl) rfl rfl (by decide) (by decide) rfl ?_
  refine b_ifd (pc2 := 92) d_Cl_goOnWriting_82 rfl rfl rfl rfl rfl (fun h82 => ?_) (fun h82 => ?_)
  · exact absurd h82 (fun z => by rw [i_le (by omega) (by omega)] at z; omega)
  refine b_aln (pc2 := 86) d_Cl_goOnWriting_85 rfl rfl ?_
  refine b_cv0 (pc2 := 89) (c2 := 0) (u2 := 0) (cl_composePart (pl := pl + lm - 3) (by omega) (u2_at _ _ _ _) (by omega) (by rw [u2_k _ _ (by decide), u2_k _ _ (by decide)]; exact hs) hs2 (by rw [u2_k _ _ (by decide), u2_k _ _ (by decide)]; exact hl) hl1 hl2) d_Cl_goOnWriting_86 q_2_118 (Nat.le_of_ble_eq_true rfl) rfl rfl (sh_67 n0) (Nat.le_of_ble_eq_true rfl) rfl rfl (by decide) (by decide) rfl ?_
  refine b_go (pc2 := 99) d_Cl_goOnWriting_89 rfl ?_
  refine b_vr d_Cl_goOnWriting_99 rfl ?_
  exact ⟨rfl, rfl, rfl, rfl, rfl⟩
theorem cl_gw3 {d : Nat} (hd : 3 ≤ d) {r0 pl lm : Nat} (hr : (W 80).getD 0 0 = Int32.ofNat r0) (hr2 : r0 < 256) (hr3 : ¬ r0 = 24) (hp : J 67 11 = Int32.ofNat pl) (hp2 : pl < 200) (hl : J 67 5 = Int32.ofNat lm) (hl1 : 8 ≤ lm) (hl2 : lm ≤ 20) (hm1 : 1 ≤ (W 27).length) (hsm : ((W 27).length = (W 80).length ∧ (W 27).drop 1 = (W 80).drop 1)) (hpl : ¬ pl + lm - 3 < (W 84).length) : bm d (S0 n0) R0 105 [.ref 67, .ref 27] W J g L (bR none (am_u1 W 80 [Int32.ofNat 24, Int32.ofNat 1]) (am_u2 (am_u2 J 67 12 0) 67 11 (Int32.ofNat (pl + lm - 3))) g L) := by
  obtain ⟨e, rfl⟩ : ∃ e, d = e + 1 := ⟨d - 1, by omega⟩
  refine bm_of (Nat.le_of_ble_eq_true rfl) (Or.inr bR_ret) ?_
  show bT e (S0 n0) R0 mt_Cl_goOnWriting _ 0 [(0, .ref 67), (1, .ref 27)] [] W J g L 0 0
  have hSR := SR0 n0
  refine b_free fun hlen => ?_
  have hla := hlen 27 20 R_27
  have hlb := hlen 80 20 R_80
  have hlt := hlen 84 8 R_84
  refine b_aln (pc2 := 1) d_Cl_goOnWriting_0 rfl rfl ?_
  refine b_gr (pc2 := 4) d_Cl_goOnWriting_1 q_2_27 (sh_67 n0) (by decide) (by decide) (p_67_2 n0) rfl ?_
  refine b_ic (pc2 := 5) (x := Int32.ofNat 0) d_Cl_goOnWriting_4 rfl rfl ?_
  refine b_cv1 (pc2 := 8) (c2 := 0) (u2 := 0) (rw_at (k := 0) (by omega) hSR R_80 (by decide)) d_Cl_goOnWriting_5 q_2_79 (Nat.le_of_ble_eq_true rfl) rfl rfl (sh_80 n0) (Nat.le_of_ble_eq_true rfl) rfl rfl (by decide) (by decide) rfl ?_
  rw [hr]
  refine b_bp (pc2 := 10) (x := Int32.ofNat 24) d_Cl_goOnWriting_8 rfl rfl ?_
  refine b_ifd (pc2 := 18) d_Cl_goOnWriting_10 rfl rfl rfl rfl rfl (fun h10 => ?_) (fun h10 => ?_)
  rotate_left
  · exact absurd (fun z => hr3 ((i_eq (by omega) (by decide)).mp z)) h10
  refine b_aln (pc2 := 19) d_Cl_goOnWriting_18 rfl rfl ?_
  refine b_aln (pc2 := 20) d_Cl_goOnWriting_19 rfl rfl ?_
  refine b_ic (pc2 := 21) (x := Int32.ofNat 1) d_Cl_goOnWriting_20 rfl rfl ?_
  refine b_aln (pc2 := 22) d_Cl_goOnWriting_21 rfl rfl ?_
  refine b_gr (pc2 := 25) d_Cl_goOnWriting_22 q_2_27 (sh_67 n0) (by decide) (by decide) (p_67_2 n0) rfl ?_
  refine b_cv1 (pc2 := 28) (c2 := 0) (u2 := 0) (rw_isSame (f := 1) (by omega) hSR R_27 R_80 (by omega) (by omega) hm1) d_Cl_goOnWriting_25 q_2_154 (Nat.le_of_ble_eq_true rfl) rfl rfl (sh_27 n0) (Nat.le_of_ble_eq_true rfl) rfl rfl (by decide) (by decide) rfl ?_
  rw [if_pos hsm]
  refine b_ifd (pc2 := 35) d_Cl_goOnWriting_28 rfl rfl rfl rfl rfl (fun h28 => ?_) (fun h28 => ?_)
  rotate_left
  · exact absurd (show ¬ (1 : Int32) = 0 by decide) h28
  refine b_ic (pc2 := 36) (x := Int32.ofNat 0) d_Cl_goOnWriting_35 rfl rfl ?_
  refine b_pi (pc2 := 39) d_Cl_goOnWriting_36 q_2_61 (sh_67 n0) (by decide) (Or.inl (by decide)) (Or.inr ⟨rfl, by decide⟩) (rc_67) rfl ?_
  refine b_aln (pc2 := 40) d_Cl_goOnWriting_39 rfl rfl ?_
  refine b_pure (pc2 := 41) d_Cl_goOnWriting_40 rfl rfl rfl ?_
  refine b_gi (pc2 := 44) d_Cl_goOnWriting_41 q_2_58 (sh_67 n0) (by decide) (by decide) (rc_67) rfl ?_
  refine b_aln (pc2 := 45) d_Cl_goOnWriting_44 rfl rfl ?_
  refine b_gi (pc2 := 48) d_Cl_goOnWriting_45 q_2_39 (sh_67 n0) (by decide) (by decide) (rc_67) rfl ?_
  refine b_ic (pc2 := 49) (x := Int32.ofNat 3) d_Cl_goOnWriting_48 rfl rfl ?_
  refine b_pure (pc2 := 50) d_Cl_goOnWriting_49 rfl rfl rfl ?_
  rw [u2_k _ _ (by decide), u2_k _ _ (by decide), hp, hl, i_sub (by omega)]
  refine b_pure (pc2 := 51) d_Cl_goOnWriting_50 rfl rfl rfl ?_
  rw [i_add, show pl + (lm - 3) = pl + lm - 3 by omega]
  refine b_pi (pc2 := 54) d_Cl_goOnWriting_51 q_2_58 (sh_67 n0) (by decide) (Or.inl (by decide)) (Or.inl rfl) (rc_67) rfl ?_
  refine b_aln (pc2 := 55) d_Cl_goOnWriting_54 rfl rfl ?_
  refine b_gi (pc2 := 58) d_Cl_goOnWriting_55 q_2_61 (sh_67 n0) (by decide) (by decide) (rc_67) rfl ?_
  rw [u2_k _ _ (by decide), u2_at]
  refine b_ifd (pc2 := 71) d_Cl_goOnWriting_58 rfl rfl rfl rfl rfl (fun h58 => ?_) (fun h58 => ?_)
  rotate_left
  · exact absurd (rfl) h58
  refine b_aln (pc2 := 72) d_Cl_goOnWriting_71 rfl rfl ?_
  refine b_gi (pc2 := 75) d_Cl_goOnWriting_72 q_2_58 (sh_67 n0) (by decide) (by decide) (rc_67) rfl ?_
  rw [u2_at]
  refine b_aln (pc2 := 76) d_Cl_goOnWriting_75 rfl rfl ?_
  refine b_gr (pc2 := 79) d_Cl_goOnWriting_76 q_2_36 (sh_67 n0) (by decide) (by decide) (p_67_4 n0) rfl ?_
  refine b_cv1 (pc2 := 82) (c2 := 0) (u2 := 0) (rw_length (by omega) hSR R_84) d_Cl_goOnWriting_79 q_2_95 (Nat.le_of_ble_eq_true rfl) rfl rfl (sh_84 n0) (Nat.le_of_ble_eq_true rfl) rfl rfl (by decide) (by decide) rfl ?_
  refine b_ifd (pc2 := 92) d_Cl_goOnWriting_82 rfl rfl rfl rfl rfl (fun h82 => ?_) (fun h82 => ?_)
  rotate_left
  · exact absurd ((i_le (by omega) (by omega)).mpr (by omega)) h82
  refine b_aln (pc2 := 93) d_Cl_goOnWriting_92 rfl rfl ?_
  refine b_bp (pc2 := 95) (x := Int32.ofNat 24) d_Cl_goOnWriting_93 rfl rfl ?_
  refine b_ic (pc2 := 96) (x := Int32.ofNat 1) d_Cl_goOnWriting_95 rfl rfl ?_
  refine b_cv0 (pc2 := 99) (c2 := 0) (u2 := 0) (cl_compose (by omega) (by decide) (by decide)) d_Cl_goOnWriting_96 q_2_107 (Nat.le_of_ble_eq_true rfl) rfl rfl (sh_67 n0) (Nat.le_of_ble_eq_true rfl) rfl rfl (by decide) (by decide) rfl ?_
  refine b_vr d_Cl_goOnWriting_99 rfl ?_
  exact ⟨rfl, rfl, rfl, rfl, rfl⟩
theorem cl_gf1 {d : Nat} (hd : 3 ≤ d) {h sb : Nat} (hh : h < 256) (hs : J 67 7 = Int32.ofNat sb) (hs2 : sb < 256) (hF : (W 78).length < 10) (h9 : (W 78).length + 1 < 10) : bm d (S0 n0) R0 104 [.ref 67, .int (Int32.ofNat h)] W J g L (bR none (am_u1 (am_u1 W 78 (W 78 ++ [Int32.ofNat h])) 80 [Int32.ofNat 16, Int32.ofNat ((h + 1) % 256), Int32.ofNat sb]) J g L) := by
  obtain ⟨e, rfl⟩ : ∃ e, d = e + 1 := ⟨d - 1, by omega⟩
  refine bm_of (Nat.le_of_ble_eq_true rfl) (Or.inr bR_ret) ?_
  show bT e (S0 n0) R0 mt_Cl_goOnFinding _ 0 [(0, .ref 67), (1, .int (Int32.ofNat h))] [] W J g L 0 0
  have hSR := SR0 n0
  refine b_aln (pc2 := 1) d_Cl_goOnFinding_0 rfl rfl ?_
  refine b_gr (pc2 := 4) d_Cl_goOnFinding_1 q_2_23 (sh_67 n0) (by decide) (by decide) (p_67_1 n0) rfl ?_
  refine b_iln (pc2 := 5) d_Cl_goOnFinding_4 rfl rfl ?_
  refine b_cv0 (pc2 := 8) (c2 := 0) (u2 := 0) (rw_add (by omega) hSR R_78 (by omega)) d_Cl_goOnFinding_5 q_2_33 (Nat.le_of_ble_eq_true rfl) rfl rfl (sh_78 n0) (Nat.le_of_ble_eq_true rfl) rfl rfl (by decide) (by decide) rfl ?_
  rw [b255 hh]
  refine b_aln (pc2 := 9) d_Cl_goOnFinding_8 rfl rfl ?_
  refine b_gr (pc2 := 12) d_Cl_goOnFinding_9 q_2_23 (sh_67 n0) (by decide) (by decide) (p_67_1 n0) rfl ?_
  refine b_cv1 (pc2 := 15) (c2 := 0) (u2 := 0) (rw_length (by omega) hSR R_78) d_Cl_goOnFinding_12 q_2_95 (Nat.le_of_ble_eq_true rfl) rfl rfl (sh_78 n0) (Nat.le_of_ble_eq_true rfl) rfl rfl (by decide) (by decide) rfl ?_
  rw [u1_at, List.length_append, List.length_singleton]
  refine b_bp (pc2 := 17) (x := Int32.ofNat 10) d_Cl_goOnFinding_15 rfl rfl ?_
  refine b_ifd (pc2 := 34) d_Cl_goOnFinding_17 rfl rfl rfl rfl rfl (fun h17 => ?_) (fun h17 => ?_)
  · exact absurd h17 (fun z => by rw [i_le (by decide) (by omega)] at z; omega)
  refine b_aln (pc2 := 21) d_Cl_goOnFinding_20 rfl rfl ?_
  refine b_iln (pc2 := 22) d_Cl_goOnFinding_21 rfl rfl ?_
  refine b_ic (pc2 := 23) (x := Int32.ofNat 1) d_Cl_goOnFinding_22 rfl rfl ?_
  refine b_pure (pc2 := 24) d_Cl_goOnFinding_23 rfl rfl rfl ?_
  refine b_sp (pc2 := 27) (x := Int32.ofNat 255) d_Cl_goOnFinding_24 rfl rfl ?_
  refine b_pure (pc2 := 28) d_Cl_goOnFinding_27 rfl rfl rfl ?_
  rw [i_add, i_and, show h + 1 &&& 255 = (h + 1) % 256 from Nat.and_two_pow_sub_one_eq_mod (h + 1) 8]
  refine b_cv0 (pc2 := 31) (c2 := 0) (u2 := 0) (cl_composeFind (by omega) (Nat.mod_lt _ (by decide)) hs hs2) d_Cl_goOnFinding_28 q_2_111 (Nat.le_of_ble_eq_true rfl) rfl rfl (sh_67 n0) (Nat.le_of_ble_eq_true rfl) rfl rfl (by decide) (by decide) rfl ?_
  refine b_go (pc2 := 38) d_Cl_goOnFinding_31 rfl ?_
  refine b_vr d_Cl_goOnFinding_38 rfl ?_
  exact ⟨rfl, rfl, rfl, rfl, rfl⟩
theorem cl_gf2 {d : Nat} (hd : 3 ≤ d) {h sb : Nat} (hh : h < 256) (hs : J 67 7 = Int32.ofNat sb) (hs2 : sb < 256) (hF : (W 78).length < 10) (h9 : ¬ (W 78).length + 1 < 10) : bm d (S0 n0) R0 104 [.ref 67, .int (Int32.ofNat h)] W J g L (bR none (am_u1 W 78 (W 78 ++ [Int32.ofNat h])) (am_u2 J 67 8 1) g L) := by
  obtain ⟨e, rfl⟩ : ∃ e, d = e + 1 := ⟨d - 1, by omega⟩
  refine bm_of (Nat.le_of_ble_eq_true rfl) (Or.inr bR_ret) ?_
  show bT e (S0 n0) R0 mt_Cl_goOnFinding _ 0 [(0, .ref 67), (1, .int (Int32.ofNat h))] [] W J g L 0 0
  have hSR := SR0 n0
  refine b_aln (pc2 := 1) d_Cl_goOnFinding_0 rfl rfl ?_
  refine b_gr (pc2 := 4) d_Cl_goOnFinding_1 q_2_23 (sh_67 n0) (by decide) (by decide) (p_67_1 n0) rfl ?_
  refine b_iln (pc2 := 5) d_Cl_goOnFinding_4 rfl rfl ?_
  refine b_cv0 (pc2 := 8) (c2 := 0) (u2 := 0) (rw_add (by omega) hSR R_78 (by omega)) d_Cl_goOnFinding_5 q_2_33 (Nat.le_of_ble_eq_true rfl) rfl rfl (sh_78 n0) (Nat.le_of_ble_eq_true rfl) rfl rfl (by decide) (by decide) rfl ?_
  rw [b255 hh]
  refine b_aln (pc2 := 9) d_Cl_goOnFinding_8 rfl rfl ?_
  refine b_gr (pc2 := 12) d_Cl_goOnFinding_9 q_2_23 (sh_67 n0) (by decide) (by decide) (p_67_1 n0) rfl ?_
  refine b_cv1 (pc2 := 15) (c2 := 0) (u2 := 0) (rw_length (by omega) hSR R_78) d_Cl_goOnFinding_12 q_2_95 (Nat.le_of_ble_eq_true rfl) rfl rfl (sh_78 n0) (Nat.le_of_ble_eq_true rfl) rfl rfl (by decide) (by decide) rfl ?_
  rw [u1_at, List.length_append, List.length_singleton]
  refine b_bp (pc2 := 17) (x := Int32.ofNat 10) d_Cl_goOnFinding_15 rfl rfl ?_
  refine b_ifd (pc2 := 34) d_Cl_goOnFinding_17 rfl rfl rfl rfl rfl (fun h17 => ?_) (fun h17 => ?_)
  rotate_left
  · exact absurd ((i_le (by decide) (by omega)).mpr (by omega)) h17
  refine b_aln (pc2 := 35) d_Cl_goOnFinding_34 rfl rfl ?_
  refine b_cv0 (pc2 := 38) (c2 := 0) (u2 := 0) (cl_succeed (by omega)) d_Cl_goOnFinding_35 q_2_121 (Nat.le_of_ble_eq_true rfl) rfl rfl (sh_67 n0) (Nat.le_of_ble_eq_true rfl) rfl rfl (by decide) (by decide) rfl ?_
  refine b_vr d_Cl_goOnFinding_38 rfl ?_
  exact ⟨rfl, rfl, rfl, rfl, rfl⟩
theorem cl_gr1 {d : Nat} (hd : 3 ≤ d) {lm sb : Nat} (hl : J 67 5 = Int32.ofNat lm) (hl2 : lm ≤ 20) (hs : J 67 7 = Int32.ofNat sb) (hs2 : sb < 256) (hF : (W 78).length ≤ 16) {f : List Int32} (hf : f = (W 78 ++ (W 27).drop 1).take 16) (hq : (W 27).length = lm ∧ f.length < 16) : bm d (S0 n0) R0 102 [.ref 67, .ref 27] W J g L (bR none (am_u1 (am_u1 W 78 f) 80 [Int32.ofNat 12, Int32.ofNat sb, Int32.ofNat f.length]) J g L) := by
  obtain ⟨e, rfl⟩ : ∃ e, d = e + 1 := ⟨d - 1, by omega⟩
  refine bm_of (Nat.le_of_ble_eq_true rfl) (Or.inr bR_ret) ?_
  show bT e (S0 n0) R0 mt_Cl_goOnReading _ 0 [(0, .ref 67), (1, .ref 27)] [] W J g L 0 0
  have hSR := SR0 n0
  refine b_free fun hlen => ?_
  have hla := hlen 27 20 R_27
  have hf16 : f.length ≤ 16 := by rw [hf, List.length_take]; omega
  refine b_aln (pc2 := 1) d_Cl_goOnReading_0 rfl rfl ?_
  refine b_gr (pc2 := 4) d_Cl_goOnReading_1 q_2_23 (sh_67 n0) (by decide) (by decide) (p_67_1 n0) rfl ?_
  refine b_aln (pc2 := 5) d_Cl_goOnReading_4 rfl rfl ?_
  refine b_ic (pc2 := 6) (x := Int32.ofNat 1) d_Cl_goOnReading_5 rfl rfl ?_
  refine b_bp (pc2 := 8) (x := Int32.ofNat 20) d_Cl_goOnReading_6 rfl rfl ?_
  refine b_cv0 (pc2 := 11) (c2 := 0) (u2 := 0) (rw_addFrom (f := 1) (mo := 20) (by omega) hSR R_78 R_27 (by decide) (by decide) (by decide)) d_Cl_goOnReading_8 q_2_114 (Nat.le_of_ble_eq_true rfl) rfl rfl (sh_78 n0) (Nat.le_of_ble_eq_true rfl) rfl rfl (by decide) (by decide) rfl ?_
  refine b_aln (pc2 := 12) d_Cl_goOnReading_11 rfl rfl ?_
  refine b_gr (pc2 := 15) d_Cl_goOnReading_12 q_2_23 (sh_67 n0) (by decide) (by decide) (p_67_1 n0) rfl ?_
  refine b_bp (pc2 := 17) (x := Int32.ofNat 16) d_Cl_goOnReading_15 rfl rfl ?_
  refine b_cv0 (pc2 := 20) (c2 := 0) (u2 := 0) (rw_cut (k := 16) (by omega) hSR R_78 (by decide)) d_Cl_goOnReading_17 q_2_151 (Nat.le_of_ble_eq_true rfl) rfl rfl (sh_78 n0) (Nat.le_of_ble_eq_true rfl) rfl rfl (by decide) (by decide) rfl ?_
  rw [u1_u1, u1_at, l_cut hF, ← hf]
  refine b_aln (pc2 := 21) d_Cl_goOnReading_20 rfl rfl ?_
  refine b_cv1 (pc2 := 24) (c2 := 0) (u2 := 0) (rw_length (by omega) hSR R_27) d_Cl_goOnReading_21 q_2_95 (Nat.le_of_ble_eq_true rfl) rfl rfl (sh_27 n0) (Nat.le_of_ble_eq_true rfl) rfl rfl (by decide) (by decide) rfl ?_
  rw [u1_ne _ _ (by decide)]
  refine b_aln (pc2 := 25) d_Cl_goOnReading_24 rfl rfl ?_
  refine b_gi (pc2 := 28) d_Cl_goOnReading_25 q_2_39 (sh_67 n0) (by decide) (by decide) (rc_67) rfl ?_
  rw [hl]
  refine b_ifd (pc2 := 70) d_Cl_goOnReading_28 rfl rfl rfl rfl rfl (fun h28 => ?_) (fun h28 => ?_)
  · exact absurd h28 (fun z => z (by rw [hq.1]))
  refine b_aln (pc2 := 32) d_Cl_goOnReading_31 rfl rfl ?_
  refine b_gr (pc2 := 35) d_Cl_goOnReading_32 q_2_23 (sh_67 n0) (by decide) (by decide) (p_67_1 n0) rfl ?_
  refine b_cv1 (pc2 := 38) (c2 := 0) (u2 := 0) (rw_length (by omega) hSR R_78) d_Cl_goOnReading_35 q_2_95 (Nat.le_of_ble_eq_true rfl) rfl rfl (sh_78 n0) (Nat.le_of_ble_eq_true rfl) rfl rfl (by decide) (by decide) rfl ?_
  rw [u1_at]
  refine b_bp (pc2 := 40) (x := Int32.ofNat 16) d_Cl_goOnReading_38 rfl rfl ?_
  refine b_ifd (pc2 := 70) d_Cl_goOnReading_40 rfl rfl rfl rfl rfl (fun h40 => ?_) (fun h40 => ?_)
  · exact absurd h40 (fun z => by rw [i_le (by decide) (by omega)] at z; omega)
  refine b_aln (pc2 := 44) d_Cl_goOnReading_43 rfl rfl ?_
  refine b_bp (pc2 := 46) (x := Int32.ofNat 12) d_Cl_goOnReading_44 rfl rfl ?_
  refine b_aln (pc2 := 47) d_Cl_goOnReading_46 rfl rfl ?_
  refine b_gi (pc2 := 50) d_Cl_goOnReading_47 q_2_46 (sh_67 n0) (by decide) (by decide) (rc_67) rfl ?_
  rw [hs]
  refine b_cv0 (pc2 := 53) (c2 := 0) (u2 := 0) (cl_compose (by omega) (by decide) hs2) d_Cl_goOnReading_50 q_2_107 (Nat.le_of_ble_eq_true rfl) rfl rfl (sh_67 n0) (Nat.le_of_ble_eq_true rfl) rfl rfl (by decide) (by decide) rfl ?_
  refine b_aln (pc2 := 54) d_Cl_goOnReading_53 rfl rfl ?_
  refine b_gr (pc2 := 57) d_Cl_goOnReading_54 q_2_27 (sh_67 n0) (by decide) (by decide) (p_67_2 n0) rfl ?_
  refine b_aln (pc2 := 58) d_Cl_goOnReading_57 rfl rfl ?_
  refine b_gr (pc2 := 61) d_Cl_goOnReading_58 q_2_23 (sh_67 n0) (by decide) (by decide) (p_67_1 n0) rfl ?_
  refine b_cv1 (pc2 := 64) (c2 := 0) (u2 := 0) (rw_length (by omega) hSR R_78) d_Cl_goOnReading_61 q_2_95 (Nat.le_of_ble_eq_true rfl) rfl rfl (sh_78 n0) (Nat.le_of_ble_eq_true rfl) rfl rfl (by decide) (by decide) rfl ?_
  rw [u1_ne _ _ (by decide), u1_at]
  refine b_cv0 (pc2 := 67) (c2 := 0) (u2 := 0) (rw_add (by omega) hSR R_80 (by rw [u1_at]; show 2 < 20; decide)) d_Cl_goOnReading_64 q_2_33 (Nat.le_of_ble_eq_true rfl) rfl rfl (sh_80 n0) (Nat.le_of_ble_eq_true rfl) rfl rfl (by decide) (by decide) rfl ?_
  rw [u1_u1, u1_at, b255 (n := f.length) (by omega)]
  refine b_go (pc2 := 74) d_Cl_goOnReading_67 rfl ?_
  refine b_vr d_Cl_goOnReading_74 rfl ?_
  exact ⟨rfl, rfl, rfl, rfl, rfl⟩
theorem cl_gr2 {d : Nat} (hd : 3 ≤ d) {lm sb : Nat} (hl : J 67 5 = Int32.ofNat lm) (hl2 : lm ≤ 20) (hs : J 67 7 = Int32.ofNat sb) (hs2 : sb < 256) (hF : (W 78).length ≤ 16) {f : List Int32} (hf : f = (W 78 ++ (W 27).drop 1).take 16) (hq : ¬ ((W 27).length = lm ∧ f.length < 16)) : bm d (S0 n0) R0 102 [.ref 67, .ref 27] W J g L (bR none (am_u1 W 78 f) (am_u2 J 67 8 1) g L) := by
  obtain ⟨e, rfl⟩ : ∃ e, d = e + 1 := ⟨d - 1, by omega⟩
  refine bm_of (Nat.le_of_ble_eq_true rfl) (Or.inr bR_ret) ?_
  show bT e (S0 n0) R0 mt_Cl_goOnReading _ 0 [(0, .ref 67), (1, .ref 27)] [] W J g L 0 0
  have hSR := SR0 n0
  refine b_free fun hlen => ?_
  have hla := hlen 27 20 R_27
  have hf16 : f.length ≤ 16 := by rw [hf, List.length_take]; omega
  refine b_aln (pc2 := 1) d_Cl_goOnReading_0 rfl rfl ?_
  refine b_gr (pc2 := 4) d_Cl_goOnReading_1 q_2_23 (sh_67 n0) (by decide) (by decide) (p_67_1 n0) rfl ?_
  refine b_aln (pc2 := 5) d_Cl_goOnReading_4 rfl rfl ?_
  refine b_ic (pc2 := 6) (x := Int32.ofNat 1) d_Cl_goOnReading_5 rfl rfl ?_
  refine b_bp (pc2 := 8) (x := Int32.ofNat 20) d_Cl_goOnReading_6 rfl rfl ?_
  refine b_cv0 (pc2 := 11) (c2 := 0) (u2 := 0) (rw_addFrom (f := 1) (mo := 20) (by omega) hSR R_78 R_27 (by decide) (by decide) (by decide)) d_Cl_goOnReading_8 q_2_114 (Nat.le_of_ble_eq_true rfl) rfl rfl (sh_78 n0) (Nat.le_of_ble_eq_true rfl) rfl rfl (by decide) (by decide) rfl ?_
  refine b_aln (pc2 := 12) d_Cl_goOnReading_11 rfl rfl ?_
  refine b_gr (pc2 := 15) d_Cl_goOnReading_12 q_2_23 (sh_67 n0) (by decide) (by decide) (p_67_1 n0) rfl ?_
  refine b_bp (pc2 := 17) (x := Int32.ofNat 16) d_Cl_goOnReading_15 rfl rfl ?_
  refine b_cv0 (pc2 := 20) (c2 := 0) (u2 := 0) (rw_cut (k := 16) (by omega) hSR R_78 (by decide)) d_Cl_goOnReading_17 q_2_151 (Nat.le_of_ble_eq_true rfl) rfl rfl (sh_78 n0) (Nat.le_of_ble_eq_true rfl) rfl rfl (by decide) (by decide) rfl ?_
  rw [u1_u1, u1_at, l_cut hF, ← hf]
  refine b_aln (pc2 := 21) d_Cl_goOnReading_20 rfl rfl ?_
  refine b_cv1 (pc2 := 24) (c2 := 0) (u2 := 0) (rw_length (by omega) hSR R_27) d_Cl_goOnReading_21 q_2_95 (Nat.le_of_ble_eq_true rfl) rfl rfl (sh_27 n0) (Nat.le_of_ble_eq_true rfl) rfl rfl (by decide) (by decide) rfl ?_
  rw [u1_ne _ _ (by decide)]
  refine b_aln (pc2 := 25) d_Cl_goOnReading_24 rfl rfl ?_
  refine b_gi (pc2 := 28) d_Cl_goOnReading_25 q_2_39 (sh_67 n0) (by decide) (by decide) (rc_67) rfl ?_
  rw [hl]
  refine b_ifd (pc2 := 70) d_Cl_goOnReading_28 rfl rfl rfl rfl rfl (fun h28 => ?_) (fun h28 => ?_)
  · refine b_aln (pc2 := 71) d_Cl_goOnReading_70 rfl rfl ?_
    refine b_cv0 (pc2 := 74) (c2 := 0) (u2 := 0) (cl_succeed (by omega)) d_Cl_goOnReading_71 q_2_121 (Nat.le_of_ble_eq_true rfl) rfl rfl (sh_67 n0) (Nat.le_of_ble_eq_true rfl) rfl rfl (by decide) (by decide) rfl ?_
    refine b_vr d_Cl_goOnReading_74 rfl ?_
    exact ⟨rfl, rfl, rfl, rfl, rfl⟩
  · refine b_aln (pc2 := 32) d_Cl_goOnReading_31 rfl rfl ?_
    refine b_gr (pc2 := 35) d_Cl_goOnReading_32 q_2_23 (sh_67 n0) (by decide) (by decide) (p_67_1 n0) rfl ?_
    refine b_cv1 (pc2 := 38) (c2 := 0) (u2 := 0) (rw_length (by omega) hSR R_78) d_Cl_goOnReading_35 q_2_95 (Nat.le_of_ble_eq_true rfl) rfl rfl (sh_78 n0) (Nat.le_of_ble_eq_true rfl) rfl rfl (by decide) (by decide) rfl ?_
    rw [u1_at]
    refine b_bp (pc2 := 40) (x := Int32.ofNat 16) d_Cl_goOnReading_38 rfl rfl ?_
    refine b_ifd (pc2 := 70) d_Cl_goOnReading_40 rfl rfl rfl rfl rfl (fun h40 => ?_) (fun h40 => ?_)
    · refine b_aln (pc2 := 71) d_Cl_goOnReading_70 rfl rfl ?_
      refine b_cv0 (pc2 := 74) (c2 := 0) (u2 := 0) (cl_succeed (by omega)) d_Cl_goOnReading_71 q_2_121 (Nat.le_of_ble_eq_true rfl) rfl rfl (sh_67 n0) (Nat.le_of_ble_eq_true rfl) rfl rfl (by decide) (by decide) rfl ?_
      refine b_vr d_Cl_goOnReading_74 rfl ?_
      exact ⟨rfl, rfl, rfl, rfl, rfl⟩
    · rw [i_eq (by omega) (by omega)] at h28
      rw [i_le (by decide) (by omega)] at h40
      exact absurd ⟨Decidable.not_not.mp h28, by omega⟩ hq
theorem cl_go0 {d : Nat} (hd : 4 ≤ d) (ho : J 67 6 = Int32.ofNat 0) {sb b1 : Nat} (hs : J 67 7 = Int32.ofNat sb) (hs2 : sb < 256) (hb : (W 27).getD 1 0 = Int32.ofNat b1) (hb2 : b1 < 256) : bm d (S0 n0) R0 101 [.ref 67, .ref 27] W J g L (bR none W (am_u2 (am_u2 J 67 5 (Int32.ofNat (max 8 (min 20 (min sb b1))))) 67 8 1) g L) := by
  obtain ⟨e, rfl⟩ : ∃ e, d = e + 1 := ⟨d - 1, by omega⟩
  refine bm_of (Nat.le_of_ble_eq_true rfl) (Or.inr bR_ret) ?_
  show bT e (S0 n0) R0 mt_Cl_goOn _ 0 [(0, .ref 67), (1, .ref 27)] [] W J g L 0 0
  have hSR := SR0 n0
  refine b_aln (pc2 := 1) d_Cl_goOn_0 rfl rfl ?_
  refine b_gi (pc2 := 4) d_Cl_goOn_1 q_2_43 (sh_67 n0) (by decide) (by decide) (rc_67) rfl ?_
  rw [ho]
  refine b_sw (pc2 := 44) (off := 40) d_Cl_goOn_4 rfl rfl rfl (rfl) rfl ?_
  refine b_aln (pc2 := 45) d_Cl_goOn_44 rfl rfl ?_
  refine b_aln (pc2 := 46) d_Cl_goOn_45 rfl rfl ?_
  refine b_gi (pc2 := 49) d_Cl_goOn_46 q_2_46 (sh_67 n0) (by decide) (by decide) (rc_67) rfl ?_
  rw [hs]
  refine b_aln (pc2 := 50) d_Cl_goOn_49 rfl rfl ?_
  refine b_ic (pc2 := 51) (x := Int32.ofNat 1) d_Cl_goOn_50 rfl rfl ?_
  refine b_cv1 (pc2 := 54) (c2 := 0) (u2 := 0) (rw_at (k := 1) (by omega) hSR R_27 (by decide)) d_Cl_goOn_51 q_2_79 (Nat.le_of_ble_eq_true rfl) rfl rfl (sh_27 n0) (Nat.le_of_ble_eq_true rfl) rfl rfl (by decide) (by decide) rfl ?_
  rw [hb]
  refine b_mn (pc2 := 57) (i := 0) d_Cl_goOn_54 q_2_133 (Nat.le_of_ble_eq_true rfl) rfl ?_
  rw [mn_ok hs2 hb2]
  refine b_cs1 (pc2 := 60) (c2 := 0) (u2 := 0) (al_bounded (by omega) (by omega)) d_Cl_goOn_57 q_2_139 (Or.inr rfl) (Nat.le_of_ble_eq_true rfl) rfl rfl (Nat.le_of_ble_eq_true rfl) rfl rfl (by decide) (by decide) rfl ?_
  refine b_pi (pc2 := 63) d_Cl_goOn_60 q_2_39 (sh_67 n0) (by decide) (Or.inl (by decide)) (Or.inl rfl) (rc_67) rfl ?_
  refine b_aln (pc2 := 64) d_Cl_goOn_63 rfl rfl ?_
  refine b_cv0 (pc2 := 67) (c2 := 0) (u2 := 0) (cl_succeed (by omega)) d_Cl_goOn_64 q_2_121 (Nat.le_of_ble_eq_true rfl) rfl rfl (sh_67 n0) (Nat.le_of_ble_eq_true rfl) rfl rfl (by decide) (by decide) rfl ?_
  refine b_go (pc2 := 120) d_Cl_goOn_67 rfl ?_
  refine b_vr d_Cl_goOn_120 rfl ?_
  exact ⟨rfl, rfl, rfl, rfl, rfl⟩
theorem cl_go1 {d : Nat} (hd : 4 ≤ d) (ho : J 67 6 = Int32.ofNat 1) (hF : W 78 = []) : bm d (S0 n0) R0 101 [.ref 67, .ref 27] W J g L (bR none (am_u1 W 78 ((W 27).drop 1)) (am_u2 J 67 8 1) g L) := by
  obtain ⟨e, rfl⟩ : ∃ e, d = e + 1 := ⟨d - 1, by omega⟩
  refine bm_of (Nat.le_of_ble_eq_true rfl) (Or.inr bR_ret) ?_
  show bT e (S0 n0) R0 mt_Cl_goOn _ 0 [(0, .ref 67), (1, .ref 27)] [] W J g L 0 0
  have hSR := SR0 n0
  refine b_free fun hlen => ?_
  have hla := hlen 27 20 R_27
  have hd19 : ((W 27).drop 1).length ≤ 20 := by rw [List.length_drop]; omega
  refine b_aln (pc2 := 1) d_Cl_goOn_0 rfl rfl ?_
  refine b_gi (pc2 := 4) d_Cl_goOn_1 q_2_43 (sh_67 n0) (by decide) (by decide) (rc_67) rfl ?_
  rw [ho]
  refine b_sw (pc2 := 70) (off := 66) d_Cl_goOn_4 rfl rfl rfl (rfl) rfl ?_
  refine b_aln (pc2 := 71) d_Cl_goOn_70 rfl rfl ?_
  refine b_gr (pc2 := 74) d_Cl_goOn_71 q_2_23 (sh_67 n0) (by decide) (by decide) (p_67_1 n0) rfl ?_
  refine b_aln (pc2 := 75) d_Cl_goOn_74 rfl rfl ?_
  refine b_ic (pc2 := 76) (x := Int32.ofNat 1) d_Cl_goOn_75 rfl rfl ?_
  refine b_bp (pc2 := 78) (x := Int32.ofNat 20) d_Cl_goOn_76 rfl rfl ?_
  refine b_cv0 (pc2 := 81) (c2 := 0) (u2 := 0) (rw_addFrom (f := 1) (mo := 20) (by omega) hSR R_78 R_27 (by decide) (by decide) (by decide)) d_Cl_goOn_78 q_2_114 (Nat.le_of_ble_eq_true rfl) rfl rfl (sh_78 n0) (Nat.le_of_ble_eq_true rfl) rfl rfl (by decide) (by decide) rfl ?_
  rw [hF, List.nil_append, List.take_of_length_le hd19, List.take_of_length_le (show ((W 27).drop 1).length ≤ 20 - ([] : List Int32).length from hd19)]
  refine b_aln (pc2 := 82) d_Cl_goOn_81 rfl rfl ?_
  refine b_cv0 (pc2 := 85) (c2 := 0) (u2 := 0) (cl_succeed (by omega)) d_Cl_goOn_82 q_2_121 (Nat.le_of_ble_eq_true rfl) rfl rfl (sh_67 n0) (Nat.le_of_ble_eq_true rfl) rfl rfl (by decide) (by decide) rfl ?_
  refine b_go (pc2 := 120) d_Cl_goOn_85 rfl ?_
  refine b_vr d_Cl_goOn_120 rfl ?_
  exact ⟨rfl, rfl, rfl, rfl, rfl⟩
theorem cl_go2 {d : Nat} (hd : 4 ≤ d) (ho : J 67 6 = Int32.ofNat 2) (hR : ∀ e, 3 ≤ e → bm e (S0 n0) R0 102 [.ref 67, .ref 27] W J g L (bR none W1 J1 g L)) : bm d (S0 n0) R0 101 [.ref 67, .ref 27] W J g L (bR none W1 J1 g L) := by
  obtain ⟨e, rfl⟩ : ∃ e, d = e + 1 := ⟨d - 1, by omega⟩
  refine bm_of (Nat.le_of_ble_eq_true rfl) (Or.inr bR_ret) ?_
  show bT e (S0 n0) R0 mt_Cl_goOn _ 0 [(0, .ref 67), (1, .ref 27)] [] W J g L 0 0
  have hSR := SR0 n0
  refine b_aln (pc2 := 1) d_Cl_goOn_0 rfl rfl ?_
  refine b_gi (pc2 := 4) d_Cl_goOn_1 q_2_43 (sh_67 n0) (by decide) (by decide) (rc_67) rfl ?_
  rw [ho]
  refine b_sw (pc2 := 88) (off := 84) d_Cl_goOn_4 rfl rfl rfl (rfl) rfl ?_
  refine b_aln (pc2 := 89) d_Cl_goOn_88 rfl rfl ?_
  refine b_aln (pc2 := 90) d_Cl_goOn_89 rfl rfl ?_
  refine b_cv0 (pc2 := 93) (c2 := 0) (u2 := 0) (hR e (by omega)) d_Cl_goOn_90 q_2_142 (Nat.le_of_ble_eq_true rfl) rfl rfl (sh_67 n0) (Nat.le_of_ble_eq_true rfl) rfl rfl (by decide) (by decide) rfl ?_
  refine b_go (pc2 := 120) d_Cl_goOn_93 rfl ?_
  refine b_vr d_Cl_goOn_120 rfl ?_
  exact ⟨rfl, rfl, rfl, rfl, rfl⟩
theorem cl_go5 {d : Nat} (hd : 4 ≤ d) (ho : J 67 6 = Int32.ofNat 5) (hR : ∀ e, 3 ≤ e → bm e (S0 n0) R0 105 [.ref 67, .ref 27] W J g L (bR none W1 J1 g L)) : bm d (S0 n0) R0 101 [.ref 67, .ref 27] W J g L (bR none W1 J1 g L) := by
  obtain ⟨e, rfl⟩ : ∃ e, d = e + 1 := ⟨d - 1, by omega⟩
  refine bm_of (Nat.le_of_ble_eq_true rfl) (Or.inr bR_ret) ?_
  show bT e (S0 n0) R0 mt_Cl_goOn _ 0 [(0, .ref 67), (1, .ref 27)] [] W J g L 0 0
  have hSR := SR0 n0
  refine b_aln (pc2 := 1) d_Cl_goOn_0 rfl rfl ?_
  refine b_gi (pc2 := 4) d_Cl_goOn_1 q_2_43 (sh_67 n0) (by decide) (by decide) (rc_67) rfl ?_
  rw [ho]
  refine b_sw (pc2 := 108) (off := 104) d_Cl_goOn_4 rfl rfl rfl (rfl) rfl ?_
  refine b_aln (pc2 := 109) d_Cl_goOn_108 rfl rfl ?_
  refine b_aln (pc2 := 110) d_Cl_goOn_109 rfl rfl ?_
  refine b_cv0 (pc2 := 113) (c2 := 0) (u2 := 0) (hR e (by omega)) d_Cl_goOn_110 q_2_148 (Nat.le_of_ble_eq_true rfl) rfl rfl (sh_67 n0) (Nat.le_of_ble_eq_true rfl) rfl rfl (by decide) (by decide) rfl ?_
  refine b_go (pc2 := 120) d_Cl_goOn_113 rfl ?_
  refine b_vr d_Cl_goOn_120 rfl ?_
  exact ⟨rfl, rfl, rfl, rfl, rfl⟩
theorem cl_go3 {d : Nat} (hd : 4 ≤ d) (ho : J 67 6 = Int32.ofNat 3) (hR : ∀ e, 3 ≤ e → bm e (S0 n0) R0 104 [.ref 67, .int ((W 27).getD 1 0)] W J g L (bR none W1 J1 g L)) : bm d (S0 n0) R0 101 [.ref 67, .ref 27] W J g L (bR none W1 J1 g L) := by
  obtain ⟨e, rfl⟩ : ∃ e, d = e + 1 := ⟨d - 1, by omega⟩
  refine bm_of (Nat.le_of_ble_eq_true rfl) (Or.inr bR_ret) ?_
  show bT e (S0 n0) R0 mt_Cl_goOn _ 0 [(0, .ref 67), (1, .ref 27)] [] W J g L 0 0
  have hSR := SR0 n0
  refine b_aln (pc2 := 1) d_Cl_goOn_0 rfl rfl ?_
  refine b_gi (pc2 := 4) d_Cl_goOn_1 q_2_43 (sh_67 n0) (by decide) (by decide) (rc_67) rfl ?_
  rw [ho]
  refine b_sw (pc2 := 96) (off := 92) d_Cl_goOn_4 rfl rfl rfl (rfl) rfl ?_
  refine b_aln (pc2 := 97) d_Cl_goOn_96 rfl rfl ?_
  refine b_aln (pc2 := 98) d_Cl_goOn_97 rfl rfl ?_
  refine b_ic (pc2 := 99) (x := Int32.ofNat 1) d_Cl_goOn_98 rfl rfl ?_
  refine b_cv1 (pc2 := 102) (c2 := 0) (u2 := 0) (rw_at (k := 1) (by omega) hSR R_27 (by decide)) d_Cl_goOn_99 q_2_79 (Nat.le_of_ble_eq_true rfl) rfl rfl (sh_27 n0) (Nat.le_of_ble_eq_true rfl) rfl rfl (by decide) (by decide) rfl ?_
  refine b_cv0 (pc2 := 105) (c2 := 0) (u2 := 0) (hR e (by omega)) d_Cl_goOn_102 q_2_145 (Nat.le_of_ble_eq_true rfl) rfl rfl (sh_67 n0) (Nat.le_of_ble_eq_true rfl) rfl rfl (by decide) (by decide) rfl ?_
  refine b_go (pc2 := 120) d_Cl_goOn_105 rfl ?_
  refine b_vr d_Cl_goOn_120 rfl ?_
  exact ⟨rfl, rfl, rfl, rfl, rfl⟩
theorem cl_go4 {d : Nat} (hd : 4 ≤ d) (ho : J 67 6 = Int32.ofNat 4) : bm d (S0 n0) R0 101 [.ref 67, .ref 27] W J g L (bR none W (am_u2 J 67 8 1) g L) := by
  obtain ⟨e, rfl⟩ : ∃ e, d = e + 1 := ⟨d - 1, by omega⟩
  refine bm_of (Nat.le_of_ble_eq_true rfl) (Or.inr bR_ret) ?_
  show bT e (S0 n0) R0 mt_Cl_goOn _ 0 [(0, .ref 67), (1, .ref 27)] [] W J g L 0 0
  have hSR := SR0 n0
  refine b_aln (pc2 := 1) d_Cl_goOn_0 rfl rfl ?_
  refine b_gi (pc2 := 4) d_Cl_goOn_1 q_2_43 (sh_67 n0) (by decide) (by decide) (rc_67) rfl ?_
  rw [ho]
  refine b_sw (pc2 := 116) (off := 112) d_Cl_goOn_4 rfl rfl rfl (rfl) rfl ?_
  refine b_aln (pc2 := 117) d_Cl_goOn_116 rfl rfl ?_
  refine b_cv0 (pc2 := 120) (c2 := 0) (u2 := 0) (cl_succeed (by omega)) d_Cl_goOn_117 q_2_121 (Nat.le_of_ble_eq_true rfl) rfl rfl (sh_67 n0) (Nat.le_of_ble_eq_true rfl) rfl rfl (by decide) (by decide) rfl ?_
  refine b_vr d_Cl_goOn_120 rfl ?_
  exact ⟨rfl, rfl, rfl, rfl, rfl⟩
theorem cl_ends_raw {d : Nat} (hd : 3 ≤ d) (ho : J 67 6 = Int32.ofNat 6) (hF : W 78 = []) : bm d (S0 n0) R0 96 [.ref 67, .ref 27] W J g L (bR (some (.int 1)) (am_u1 W 78 (W 27)) (am_u2 J 67 8 1) g L) := by
  obtain ⟨e, rfl⟩ : ∃ e, d = e + 1 := ⟨d - 1, by omega⟩
  refine bm_of (Nat.le_of_ble_eq_true rfl) (Or.inr bR_ret) ?_
  show bT e (S0 n0) R0 mt_Cl_endsWith _ 0 [(0, .ref 67), (1, .ref 27)] [] W J g L 0 0
  have hSR := SR0 n0
  refine b_free fun hlen => ?_
  have hla := hlen 27 20 R_27
  refine b_aln (pc2 := 1) d_Cl_endsWith_0 rfl rfl ?_
  refine b_gi (pc2 := 4) d_Cl_endsWith_1 q_2_43 (sh_67 n0) (by decide) (by decide) (rc_67) rfl ?_
  rw [ho]
  refine b_bp (pc2 := 6) (x := Int32.ofNat 6) d_Cl_endsWith_4 rfl rfl ?_
  refine b_ifd (pc2 := 27) d_Cl_endsWith_6 rfl rfl rfl rfl rfl (fun h6 => ?_) (fun h6 => ?_)
  · exact absurd h6 (fun z => z rfl)
  refine b_aln (pc2 := 10) d_Cl_endsWith_9 rfl rfl ?_
  refine b_gr (pc2 := 13) d_Cl_endsWith_10 q_2_23 (sh_67 n0) (by decide) (by decide) (p_67_1 n0) rfl ?_
  refine b_aln (pc2 := 14) d_Cl_endsWith_13 rfl rfl ?_
  refine b_ic (pc2 := 15) (x := Int32.ofNat 0) d_Cl_endsWith_14 rfl rfl ?_
  refine b_bp (pc2 := 17) (x := Int32.ofNat 20) d_Cl_endsWith_15 rfl rfl ?_
  refine b_cv0 (pc2 := 20) (c2 := 0) (u2 := 0) (rw_addFrom (f := 0) (mo := 20) (by omega) hSR R_78 R_27 (by decide) (by decide) (by decide)) d_Cl_endsWith_17 q_2_114 (Nat.le_of_ble_eq_true rfl) rfl rfl (sh_78 n0) (Nat.le_of_ble_eq_true rfl) rfl rfl (by decide) (by decide) rfl ?_
  rw [hF, List.nil_append, List.drop_zero, List.take_of_length_le hla, List.take_of_length_le (show (W 27).length ≤ 20 - ([] : List Int32).length from hla)]
  refine b_aln (pc2 := 21) d_Cl_endsWith_20 rfl rfl ?_
  refine b_cv0 (pc2 := 24) (c2 := 0) (u2 := 0) (cl_succeed (by omega)) d_Cl_endsWith_21 q_2_121 (Nat.le_of_ble_eq_true rfl) rfl rfl (sh_67 n0) (Nat.le_of_ble_eq_true rfl) rfl rfl (by decide) (by decide) rfl ?_
  refine b_go (pc2 := 107) d_Cl_endsWith_24 rfl ?_
  refine b_aln (pc2 := 108) d_Cl_endsWith_107 rfl rfl ?_
  refine b_gi (pc2 := 111) d_Cl_endsWith_108 q_2_49 (sh_67 n0) (by decide) (by decide) (rc_67) rfl ?_
  rw [u2_at]
  refine b_ifd (pc2 := 118) d_Cl_endsWith_111 rfl rfl rfl rfl rfl (fun h111 => ?_) (fun h111 => ?_)
  · exact absurd h111 (by decide)
  refine b_ic (pc2 := 115) (x := Int32.ofNat 1) d_Cl_endsWith_114 rfl rfl ?_
  refine b_go (pc2 := 119) d_Cl_endsWith_115 rfl ?_
  refine b_br d_Cl_endsWith_119 rfl (by decide) ?_
  exact ⟨rfl, rfl, rfl, rfl, rfl⟩
theorem cl_ends_back {d : Nat} (hd : 3 ≤ d) {op : Nat} (ho : J 67 6 = Int32.ofNat op) (ho2 : op < 6) (hb : ¬ J 67 12 = 0) : bm d (S0 n0) R0 96 [.ref 67, .ref 27] W J g L (bR (some (.int 1)) W (am_u2 (am_u2 J 67 8 2) 67 9 (Int32.ofNat 14)) g L) := by
  obtain ⟨e, rfl⟩ : ∃ e, d = e + 1 := ⟨d - 1, by omega⟩
  refine bm_of (Nat.le_of_ble_eq_true rfl) (Or.inr bR_ret) ?_
  show bT e (S0 n0) R0 mt_Cl_endsWith _ 0 [(0, .ref 67), (1, .ref 27)] [] W J g L 0 0
  have hSR := SR0 n0
  refine b_aln (pc2 := 1) d_Cl_endsWith_0 rfl rfl ?_
  refine b_gi (pc2 := 4) d_Cl_endsWith_1 q_2_43 (sh_67 n0) (by decide) (by decide) (rc_67) rfl ?_
  rw [ho]
  refine b_bp (pc2 := 6) (x := Int32.ofNat 6) d_Cl_endsWith_4 rfl rfl ?_
  refine b_ifd (pc2 := 27) d_Cl_endsWith_6 rfl rfl rfl rfl rfl (fun h6 => ?_) (fun h6 => ?_)
  rotate_left
  · exact absurd (fun z => by rw [i_eq (by omega) (by decide)] at z; omega) h6
  refine b_aln (pc2 := 28) d_Cl_endsWith_27 rfl rfl ?_
  refine b_gi (pc2 := 31) d_Cl_endsWith_28 q_2_61 (sh_67 n0) (by decide) (by decide) (rc_67) rfl ?_
  refine b_ifd (pc2 := 43) d_Cl_endsWith_31 rfl rfl rfl rfl rfl (fun h31 => ?_) (fun h31 => ?_)
  · exact absurd h31 (hb)
  refine b_aln (pc2 := 35) d_Cl_endsWith_34 rfl rfl ?_
  refine b_bp (pc2 := 37) (x := Int32.ofNat 14) d_Cl_endsWith_35 rfl rfl ?_
  refine b_cv0 (pc2 := 40) (c2 := 0) (u2 := 0) (cl_fail (by omega)) d_Cl_endsWith_37 q_2_124 (Nat.le_of_ble_eq_true rfl) rfl rfl (sh_67 n0) (Nat.le_of_ble_eq_true rfl) rfl rfl (by decide) (by decide) rfl ?_
  refine b_go (pc2 := 107) d_Cl_endsWith_40 rfl ?_
  refine b_aln (pc2 := 108) d_Cl_endsWith_107 rfl rfl ?_
  refine b_gi (pc2 := 111) d_Cl_endsWith_108 q_2_49 (sh_67 n0) (by decide) (by decide) (rc_67) rfl ?_
  first | rw [u2_k _ _ (by decide), u2_at] | rw [u2_at]
  refine b_ifd (pc2 := 118) d_Cl_endsWith_111 rfl rfl rfl rfl rfl (fun h111 => ?_) (fun h111 => ?_)
  · exact absurd h111 (by decide)
  refine b_ic (pc2 := 115) (x := Int32.ofNat 1) d_Cl_endsWith_114 rfl rfl ?_
  refine b_go (pc2 := 119) d_Cl_endsWith_115 rfl ?_
  refine b_br d_Cl_endsWith_119 rfl (by decide) ?_
  exact ⟨rfl, rfl, rfl, rfl, rfl⟩
theorem cl_ends_err {d : Nat} (hd : 3 ≤ d) {op : Nat} (ho : J 67 6 = Int32.ofNat op) (ho2 : op < 6) (hb : J 67 12 = 0) (hm0 : (W 27).getD 0 0 = Int32.ofNat 1) (hm4 : (W 27).length = 4) {c : Nat} (hc : (W 27).getD 3 0 = Int32.ofNat c) (hc2 : c < 256) : bm d (S0 n0) R0 96 [.ref 67, .ref 27] W J g L (bR (some (.int 1)) W (if op = 3 ∧ c = 10 then am_u2 J 67 8 1 else am_u2 (am_u2 J 67 8 2) 67 9 (Int32.ofNat c)) g L) := by
  obtain ⟨e, rfl⟩ : ∃ e, d = e + 1 := ⟨d - 1, by omega⟩
  refine bm_of (Nat.le_of_ble_eq_true rfl) (Or.inr bR_ret) ?_
  show bT e (S0 n0) R0 mt_Cl_endsWith _ 0 [(0, .ref 67), (1, .ref 27)] [] W J g L 0 0
  have hSR := SR0 n0
  refine b_aln (pc2 := 1) d_Cl_endsWith_0 rfl rfl ?_
  refine b_gi (pc2 := 4) d_Cl_endsWith_1 q_2_43 (sh_67 n0) (by decide) (by decide) (rc_67) rfl ?_
  rw [ho]
  refine b_bp (pc2 := 6) (x := Int32.ofNat 6) d_Cl_endsWith_4 rfl rfl ?_
  refine b_ifd (pc2 := 27) d_Cl_endsWith_6 rfl rfl rfl rfl rfl (fun h6 => ?_) (fun h6 => ?_)
  rotate_left
  · exact absurd (fun z => by rw [i_eq (by omega) (by decide)] at z; omega) h6
  refine b_aln (pc2 := 28) d_Cl_endsWith_27 rfl rfl ?_
  refine b_gi (pc2 := 31) d_Cl_endsWith_28 q_2_61 (sh_67 n0) (by decide) (by decide) (rc_67) rfl ?_
  refine b_ifd (pc2 := 43) d_Cl_endsWith_31 rfl rfl rfl rfl rfl (fun h31 => ?_) (fun h31 => ?_)
  rotate_left
  · exact absurd (hb) h31
  refine b_aln (pc2 := 44) d_Cl_endsWith_43 rfl rfl ?_
  refine b_ic (pc2 := 45) (x := Int32.ofNat 0) d_Cl_endsWith_44 rfl rfl ?_
  refine b_cv1 (pc2 := 48) (c2 := 0) (u2 := 0) (rw_at (k := 0) (by omega) hSR R_27 (by decide)) d_Cl_endsWith_45 q_2_79 (Nat.le_of_ble_eq_true rfl) rfl rfl (sh_27 n0) (Nat.le_of_ble_eq_true rfl) rfl rfl (by decide) (by decide) rfl ?_
  rw [hm0]
  refine b_ic (pc2 := 49) (x := Int32.ofNat 1) d_Cl_endsWith_48 rfl rfl ?_
  refine b_ifd (pc2 := 72) d_Cl_endsWith_49 rfl rfl rfl rfl rfl (fun h49 => ?_) (fun h49 => ?_)
  · exact absurd h49 (by decide)
  refine b_aln (pc2 := 53) d_Cl_endsWith_52 rfl rfl ?_
  refine b_cv1 (pc2 := 56) (c2 := 0) (u2 := 0) (rw_length (by omega) hSR R_27) d_Cl_endsWith_53 q_2_95 (Nat.le_of_ble_eq_true rfl) rfl rfl (sh_27 n0) (Nat.le_of_ble_eq_true rfl) rfl rfl (by decide) (by decide) rfl ?_
  rw [hm4]
  refine b_ic (pc2 := 57) (x := Int32.ofNat 4) d_Cl_endsWith_56 rfl rfl ?_
  refine b_ifd (pc2 := 72) d_Cl_endsWith_57 rfl rfl rfl rfl rfl (fun h57 => ?_) (fun h57 => ?_)
  · exact absurd h57 (by decide)
  refine b_aln (pc2 := 61) d_Cl_endsWith_60 rfl rfl ?_
  refine b_aln (pc2 := 62) d_Cl_endsWith_61 rfl rfl ?_
  refine b_ic (pc2 := 63) (x := Int32.ofNat 3) d_Cl_endsWith_62 rfl rfl ?_
  refine b_cv1 (pc2 := 66) (c2 := 0) (u2 := 0) (rw_at (k := 3) (by omega) hSR R_27 (by decide)) d_Cl_endsWith_63 q_2_79 (Nat.le_of_ble_eq_true rfl) rfl rfl (sh_27 n0) (Nat.le_of_ble_eq_true rfl) rfl rfl (by decide) (by decide) rfl ?_
  rw [hc]
  refine b_cv0 (pc2 := 69) (c2 := 0) (u2 := 0) (cl_takeError (by omega) ho (by omega) hc2) d_Cl_endsWith_66 q_2_127 (Nat.le_of_ble_eq_true rfl) rfl rfl (sh_67 n0) (Nat.le_of_ble_eq_true rfl) rfl rfl (by decide) (by decide) rfl ?_
  refine b_go (pc2 := 107) d_Cl_endsWith_69 rfl ?_
  refine b_aln (pc2 := 108) d_Cl_endsWith_107 rfl rfl ?_
  refine b_gi (pc2 := 111) d_Cl_endsWith_108 q_2_49 (sh_67 n0) (by decide) (by decide) (rc_67) rfl ?_
  refine b_ifd (pc2 := 118) d_Cl_endsWith_111 rfl rfl rfl rfl rfl (fun h111 => ?_) (fun h111 => ?_)
  · exact absurd h111 (by split <;> first | (rw [u2_k _ _ (by decide), u2_at]; decide) | (rw [u2_at]; decide))
  refine b_ic (pc2 := 115) (x := Int32.ofNat 1) d_Cl_endsWith_114 rfl rfl ?_
  refine b_go (pc2 := 119) d_Cl_endsWith_115 rfl ?_
  refine b_br d_Cl_endsWith_119 rfl (by decide) ?_
  exact ⟨rfl, rfl, rfl, rfl, rfl⟩
theorem cl_ends_bad {d : Nat} (hd : 3 ≤ d) {op : Nat} (ho : J 67 6 = Int32.ofNat op) (ho2 : op < 6) (hb : J 67 12 = 0) {m0 r0 : Nat} (hm0 : (W 27).getD 0 0 = Int32.ofNat m0) (hm2 : m0 < 256) (hr0 : (W 80).getD 0 0 = Int32.ofNat r0) (hr2 : r0 < 256) (hne : ¬ (m0 = 1 ∧ (W 27).length = 4)) (hbad : ¬ m0 = r0 + 1 ∨ (W 27).length < (if op = 0 ∨ op = 3 then 2 else 1)) : bm d (S0 n0) R0 96 [.ref 67, .ref 27] W J g L (bR (some (.int 1)) W (am_u2 (am_u2 J 67 8 2) 67 9 (Int32.ofNat 14)) g L) := by
  obtain ⟨e, rfl⟩ : ∃ e, d = e + 1 := ⟨d - 1, by omega⟩
  refine bm_of (Nat.le_of_ble_eq_true rfl) (Or.inr bR_ret) ?_
  show bT e (S0 n0) R0 mt_Cl_endsWith _ 0 [(0, .ref 67), (1, .ref 27)] [] W J g L 0 0
  have hSR := SR0 n0
  refine b_free fun hlen => ?_
  have hla := hlen 27 20 R_27
  refine b_aln (pc2 := 1) d_Cl_endsWith_0 rfl rfl ?_
  refine b_gi (pc2 := 4) d_Cl_endsWith_1 q_2_43 (sh_67 n0) (by decide) (by decide) (rc_67) rfl ?_
  rw [ho]
  refine b_bp (pc2 := 6) (x := Int32.ofNat 6) d_Cl_endsWith_4 rfl rfl ?_
  refine b_ifd (pc2 := 27) d_Cl_endsWith_6 rfl rfl rfl rfl rfl (fun h6 => ?_) (fun h6 => ?_)
  rotate_left
  · exact absurd (fun z => by rw [i_eq (by omega) (by decide)] at z; omega) h6
  refine b_aln (pc2 := 28) d_Cl_endsWith_27 rfl rfl ?_
  refine b_gi (pc2 := 31) d_Cl_endsWith_28 q_2_61 (sh_67 n0) (by decide) (by decide) (rc_67) rfl ?_
  refine b_ifd (pc2 := 43) d_Cl_endsWith_31 rfl rfl rfl rfl rfl (fun h31 => ?_) (fun h31 => ?_)
  rotate_left
  · exact absurd (hb) h31
  refine b_aln (pc2 := 44) d_Cl_endsWith_43 rfl rfl ?_
  refine b_ic (pc2 := 45) (x := Int32.ofNat 0) d_Cl_endsWith_44 rfl rfl ?_
  refine b_cv1 (pc2 := 48) (c2 := 0) (u2 := 0) (rw_at (k := 0) (by omega) hSR R_27 (by decide)) d_Cl_endsWith_45 q_2_79 (Nat.le_of_ble_eq_true rfl) rfl rfl (sh_27 n0) (Nat.le_of_ble_eq_true rfl) rfl rfl (by decide) (by decide) rfl ?_
  rw [hm0]
  refine b_ic (pc2 := 49) (x := Int32.ofNat 1) d_Cl_endsWith_48 rfl rfl ?_
  refine b_ifd (pc2 := 72) d_Cl_endsWith_49 rfl rfl rfl rfl rfl (fun h49 => ?_) (fun h49 => ?_)
  · refine b_aln (pc2 := 73) d_Cl_endsWith_72 rfl rfl ?_
    refine b_ic (pc2 := 74) (x := Int32.ofNat 0) d_Cl_endsWith_73 rfl rfl ?_
    refine b_cv1 (pc2 := 77) (c2 := 0) (u2 := 0) (rw_at (k := 0) (by omega) hSR R_27 (by decide)) d_Cl_endsWith_74 q_2_79 (Nat.le_of_ble_eq_true rfl) rfl rfl (sh_27 n0) (Nat.le_of_ble_eq_true rfl) rfl rfl (by decide) (by decide) rfl ?_
    rw [hm0]
    refine b_aln (pc2 := 78) d_Cl_endsWith_77 rfl rfl ?_
    refine b_gr (pc2 := 81) d_Cl_endsWith_78 q_2_27 (sh_67 n0) (by decide) (by decide) (p_67_2 n0) rfl ?_
    refine b_ic (pc2 := 82) (x := Int32.ofNat 0) d_Cl_endsWith_81 rfl rfl ?_
    refine b_cv1 (pc2 := 85) (c2 := 0) (u2 := 0) (rw_at (k := 0) (by omega) hSR R_80 (by decide)) d_Cl_endsWith_82 q_2_79 (Nat.le_of_ble_eq_true rfl) rfl rfl (sh_80 n0) (Nat.le_of_ble_eq_true rfl) rfl rfl (by decide) (by decide) rfl ?_
    rw [hr0]
    refine b_ic (pc2 := 86) (x := Int32.ofNat 1) d_Cl_endsWith_85 rfl rfl ?_
    refine b_pure (pc2 := 87) d_Cl_endsWith_86 rfl rfl rfl ?_
    rw [i_add]
    refine b_ifd (pc2 := 101) d_Cl_endsWith_87 rfl rfl rfl rfl rfl (fun h87 => ?_) (fun h87 => ?_)
    · refine b_aln (pc2 := 102) d_Cl_endsWith_101 rfl rfl ?_
      refine b_bp (pc2 := 104) (x := Int32.ofNat 14) d_Cl_endsWith_102 rfl rfl ?_
      refine b_cv0 (pc2 := 107) (c2 := 0) (u2 := 0) (cl_fail (by omega)) d_Cl_endsWith_104 q_2_124 (Nat.le_of_ble_eq_true rfl) rfl rfl (sh_67 n0) (Nat.le_of_ble_eq_true rfl) rfl rfl (by decide) (by decide) rfl ?_
      refine b_aln (pc2 := 108) d_Cl_endsWith_107 rfl rfl ?_
      refine b_gi (pc2 := 111) d_Cl_endsWith_108 q_2_49 (sh_67 n0) (by decide) (by decide) (rc_67) rfl ?_
      first | rw [u2_k _ _ (by decide), u2_at] | rw [u2_at]
      refine b_ifd (pc2 := 118) d_Cl_endsWith_111 rfl rfl rfl rfl rfl (fun h111 => ?_) (fun h111 => ?_)
      · exact absurd h111 (by decide)
      refine b_ic (pc2 := 115) (x := Int32.ofNat 1) d_Cl_endsWith_114 rfl rfl ?_
      refine b_go (pc2 := 119) d_Cl_endsWith_115 rfl ?_
      refine b_br d_Cl_endsWith_119 rfl (by decide) ?_
      exact ⟨rfl, rfl, rfl, rfl, rfl⟩
    · refine b_aln (pc2 := 91) d_Cl_endsWith_90 rfl rfl ?_
      refine b_cv1 (pc2 := 94) (c2 := 0) (u2 := 0) (rw_length (by omega) hSR R_27) d_Cl_endsWith_91 q_2_95 (Nat.le_of_ble_eq_true rfl) rfl rfl (sh_27 n0) (Nat.le_of_ble_eq_true rfl) rfl rfl (by decide) (by decide) rfl ?_
      refine b_aln (pc2 := 95) d_Cl_endsWith_94 rfl rfl ?_
      refine b_cv1 (pc2 := 98) (c2 := 0) (u2 := 0) (cl_needed (by omega) ho (by omega)) d_Cl_endsWith_95 q_2_130 (Nat.le_of_ble_eq_true rfl) rfl rfl (sh_67 n0) (Nat.le_of_ble_eq_true rfl) rfl rfl (by decide) (by decide) rfl ?_
      refine b_ifd (pc2 := 107) d_Cl_endsWith_98 rfl rfl rfl rfl rfl (fun h98 => ?_) (fun h98 => ?_)
      · exact absurd h98 (fun z => by rw [i_le (by split <;> omega) (by omega)] at z; rw [i_eq (by omega) (by omega)] at h87; omega)
      refine b_aln (pc2 := 102) d_Cl_endsWith_101 rfl rfl ?_
      refine b_bp (pc2 := 104) (x := Int32.ofNat 14) d_Cl_endsWith_102 rfl rfl ?_
      refine b_cv0 (pc2 := 107) (c2 := 0) (u2 := 0) (cl_fail (by omega)) d_Cl_endsWith_104 q_2_124 (Nat.le_of_ble_eq_true rfl) rfl rfl (sh_67 n0) (Nat.le_of_ble_eq_true rfl) rfl rfl (by decide) (by decide) rfl ?_
      refine b_aln (pc2 := 108) d_Cl_endsWith_107 rfl rfl ?_
      refine b_gi (pc2 := 111) d_Cl_endsWith_108 q_2_49 (sh_67 n0) (by decide) (by decide) (rc_67) rfl ?_
      first | rw [u2_k _ _ (by decide), u2_at] | rw [u2_at]
      refine b_ifd (pc2 := 118) d_Cl_endsWith_111 rfl rfl rfl rfl rfl (fun h111 => ?_) (fun h111 => ?_)
      · exact absurd h111 (by decide)
      refine b_ic (pc2 := 115) (x := Int32.ofNat 1) d_Cl_endsWith_114 rfl rfl ?_
      refine b_go (pc2 := 119) d_Cl_endsWith_115 rfl ?_
      refine b_br d_Cl_endsWith_119 rfl (by decide) ?_
      exact ⟨rfl, rfl, rfl, rfl, rfl⟩
  · refine b_aln (pc2 := 53) d_Cl_endsWith_52 rfl rfl ?_
    refine b_cv1 (pc2 := 56) (c2 := 0) (u2 := 0) (rw_length (by omega) hSR R_27) d_Cl_endsWith_53 q_2_95 (Nat.le_of_ble_eq_true rfl) rfl rfl (sh_27 n0) (Nat.le_of_ble_eq_true rfl) rfl rfl (by decide) (by decide) rfl ?_
    refine b_ic (pc2 := 57) (x := Int32.ofNat 4) d_Cl_endsWith_56 rfl rfl ?_
    refine b_ifd (pc2 := 72) d_Cl_endsWith_57 rfl rfl rfl rfl rfl (fun h57 => ?_) (fun h57 => ?_)
    · refine b_aln (pc2 := 73) d_Cl_endsWith_72 rfl rfl ?_
      refine b_ic (pc2 := 74) (x := Int32.ofNat 0) d_Cl_endsWith_73 rfl rfl ?_
      refine b_cv1 (pc2 := 77) (c2 := 0) (u2 := 0) (rw_at (k := 0) (by omega) hSR R_27 (by decide)) d_Cl_endsWith_74 q_2_79 (Nat.le_of_ble_eq_true rfl) rfl rfl (sh_27 n0) (Nat.le_of_ble_eq_true rfl) rfl rfl (by decide) (by decide) rfl ?_
      rw [hm0]
      refine b_aln (pc2 := 78) d_Cl_endsWith_77 rfl rfl ?_
      refine b_gr (pc2 := 81) d_Cl_endsWith_78 q_2_27 (sh_67 n0) (by decide) (by decide) (p_67_2 n0) rfl ?_
      refine b_ic (pc2 := 82) (x := Int32.ofNat 0) d_Cl_endsWith_81 rfl rfl ?_
      refine b_cv1 (pc2 := 85) (c2 := 0) (u2 := 0) (rw_at (k := 0) (by omega) hSR R_80 (by decide)) d_Cl_endsWith_82 q_2_79 (Nat.le_of_ble_eq_true rfl) rfl rfl (sh_80 n0) (Nat.le_of_ble_eq_true rfl) rfl rfl (by decide) (by decide) rfl ?_
      rw [hr0]
      refine b_ic (pc2 := 86) (x := Int32.ofNat 1) d_Cl_endsWith_85 rfl rfl ?_
      refine b_pure (pc2 := 87) d_Cl_endsWith_86 rfl rfl rfl ?_
      rw [i_add]
      refine b_ifd (pc2 := 101) d_Cl_endsWith_87 rfl rfl rfl rfl rfl (fun h87 => ?_) (fun h87 => ?_)
      · refine b_aln (pc2 := 102) d_Cl_endsWith_101 rfl rfl ?_
        refine b_bp (pc2 := 104) (x := Int32.ofNat 14) d_Cl_endsWith_102 rfl rfl ?_
        refine b_cv0 (pc2 := 107) (c2 := 0) (u2 := 0) (cl_fail (by omega)) d_Cl_endsWith_104 q_2_124 (Nat.le_of_ble_eq_true rfl) rfl rfl (sh_67 n0) (Nat.le_of_ble_eq_true rfl) rfl rfl (by decide) (by decide) rfl ?_
        refine b_aln (pc2 := 108) d_Cl_endsWith_107 rfl rfl ?_
        refine b_gi (pc2 := 111) d_Cl_endsWith_108 q_2_49 (sh_67 n0) (by decide) (by decide) (rc_67) rfl ?_
        first | rw [u2_k _ _ (by decide), u2_at] | rw [u2_at]
        refine b_ifd (pc2 := 118) d_Cl_endsWith_111 rfl rfl rfl rfl rfl (fun h111 => ?_) (fun h111 => ?_)
        · exact absurd h111 (by decide)
        refine b_ic (pc2 := 115) (x := Int32.ofNat 1) d_Cl_endsWith_114 rfl rfl ?_
        refine b_go (pc2 := 119) d_Cl_endsWith_115 rfl ?_
        refine b_br d_Cl_endsWith_119 rfl (by decide) ?_
        exact ⟨rfl, rfl, rfl, rfl, rfl⟩
      · refine b_aln (pc2 := 91) d_Cl_endsWith_90 rfl rfl ?_
        refine b_cv1 (pc2 := 94) (c2 := 0) (u2 := 0) (rw_length (by omega) hSR R_27) d_Cl_endsWith_91 q_2_95 (Nat.le_of_ble_eq_true rfl) rfl rfl (sh_27 n0) (Nat.le_of_ble_eq_true rfl) rfl rfl (by decide) (by decide) rfl ?_
        refine b_aln (pc2 := 95) d_Cl_endsWith_94 rfl rfl ?_
        refine b_cv1 (pc2 := 98) (c2 := 0) (u2 := 0) (cl_needed (by omega) ho (by omega)) d_Cl_endsWith_95 q_2_130 (Nat.le_of_ble_eq_true rfl) rfl rfl (sh_67 n0) (Nat.le_of_ble_eq_true rfl) rfl rfl (by decide) (by decide) rfl ?_
        refine b_ifd (pc2 := 107) d_Cl_endsWith_98 rfl rfl rfl rfl rfl (fun h98 => ?_) (fun h98 => ?_)
        · exact absurd h98 (fun z => by rw [i_le (by split <;> omega) (by omega)] at z; rw [i_eq (by omega) (by omega)] at h87; omega)
        refine b_aln (pc2 := 102) d_Cl_endsWith_101 rfl rfl ?_
        refine b_bp (pc2 := 104) (x := Int32.ofNat 14) d_Cl_endsWith_102 rfl rfl ?_
        refine b_cv0 (pc2 := 107) (c2 := 0) (u2 := 0) (cl_fail (by omega)) d_Cl_endsWith_104 q_2_124 (Nat.le_of_ble_eq_true rfl) rfl rfl (sh_67 n0) (Nat.le_of_ble_eq_true rfl) rfl rfl (by decide) (by decide) rfl ?_
        refine b_aln (pc2 := 108) d_Cl_endsWith_107 rfl rfl ?_
        refine b_gi (pc2 := 111) d_Cl_endsWith_108 q_2_49 (sh_67 n0) (by decide) (by decide) (rc_67) rfl ?_
        first | rw [u2_k _ _ (by decide), u2_at] | rw [u2_at]
        refine b_ifd (pc2 := 118) d_Cl_endsWith_111 rfl rfl rfl rfl rfl (fun h111 => ?_) (fun h111 => ?_)
        · exact absurd h111 (by decide)
        refine b_ic (pc2 := 115) (x := Int32.ofNat 1) d_Cl_endsWith_114 rfl rfl ?_
        refine b_go (pc2 := 119) d_Cl_endsWith_115 rfl ?_
        refine b_br d_Cl_endsWith_119 rfl (by decide) ?_
        exact ⟨rfl, rfl, rfl, rfl, rfl⟩
    · rw [i_eq (by omega) (by decide)] at h49 h57
      exact absurd ⟨Decidable.not_not.mp h49, Decidable.not_not.mp h57⟩ hne
theorem cl_ends_no {d : Nat} (hd : 3 ≤ d) {op : Nat} (ho : J 67 6 = Int32.ofNat op) (ho2 : op < 6) (hb : J 67 12 = 0) {m0 r0 : Nat} (hm0 : (W 27).getD 0 0 = Int32.ofNat m0) (hm2 : m0 < 256) (hr0 : (W 80).getD 0 0 = Int32.ofNat r0) (hr2 : r0 < 256) (hne : ¬ (m0 = 1 ∧ (W 27).length = 4)) (hs : J 67 8 = 0) (hok : m0 = r0 + 1) (hlen2 : (if op = 0 ∨ op = 3 then 2 else 1) ≤ (W 27).length) : bm d (S0 n0) R0 96 [.ref 67, .ref 27] W J g L (bR (some (.int 0)) W J g L) := by
  obtain ⟨e, rfl⟩ : ∃ e, d = e + 1 := ⟨d - 1, by omega⟩
  refine bm_of (Nat.le_of_ble_eq_true rfl) (Or.inr bR_ret) ?_
  show bT e (S0 n0) R0 mt_Cl_endsWith _ 0 [(0, .ref 67), (1, .ref 27)] [] W J g L 0 0
  have hSR := SR0 n0
  refine b_free fun hlen => ?_
  have hla := hlen 27 20 R_27
  refine b_aln (pc2 := 1) d_Cl_endsWith_0 rfl rfl ?_
  refine b_gi (pc2 := 4) d_Cl_endsWith_1 q_2_43 (sh_67 n0) (by decide) (by decide) (rc_67) rfl ?_
  rw [ho]
  refine b_bp (pc2 := 6) (x := Int32.ofNat 6) d_Cl_endsWith_4 rfl rfl ?_
  refine b_ifd (pc2 := 27) d_Cl_endsWith_6 rfl rfl rfl rfl rfl (fun h6 => ?_) (fun h6 => ?_)
  rotate_left
  · exact absurd (fun z => by rw [i_eq (by omega) (by decide)] at z; omega) h6
  refine b_aln (pc2 := 28) d_Cl_endsWith_27 rfl rfl ?_
  refine b_gi (pc2 := 31) d_Cl_endsWith_28 q_2_61 (sh_67 n0) (by decide) (by decide) (rc_67) rfl ?_
  refine b_ifd (pc2 := 43) d_Cl_endsWith_31 rfl rfl rfl rfl rfl (fun h31 => ?_) (fun h31 => ?_)
  rotate_left
  · exact absurd (hb) h31
  refine b_aln (pc2 := 44) d_Cl_endsWith_43 rfl rfl ?_
  refine b_ic (pc2 := 45) (x := Int32.ofNat 0) d_Cl_endsWith_44 rfl rfl ?_
  refine b_cv1 (pc2 := 48) (c2 := 0) (u2 := 0) (rw_at (k := 0) (by omega) hSR R_27 (by decide)) d_Cl_endsWith_45 q_2_79 (Nat.le_of_ble_eq_true rfl) rfl rfl (sh_27 n0) (Nat.le_of_ble_eq_true rfl) rfl rfl (by decide) (by decide) rfl ?_
  rw [hm0]
  refine b_ic (pc2 := 49) (x := Int32.ofNat 1) d_Cl_endsWith_48 rfl rfl ?_
  refine b_ifd (pc2 := 72) d_Cl_endsWith_49 rfl rfl rfl rfl rfl (fun h49 => ?_) (fun h49 => ?_)
  · refine b_aln (pc2 := 73) d_Cl_endsWith_72 rfl rfl ?_
    refine b_ic (pc2 := 74) (x := Int32.ofNat 0) d_Cl_endsWith_73 rfl rfl ?_
    refine b_cv1 (pc2 := 77) (c2 := 0) (u2 := 0) (rw_at (k := 0) (by omega) hSR R_27 (by decide)) d_Cl_endsWith_74 q_2_79 (Nat.le_of_ble_eq_true rfl) rfl rfl (sh_27 n0) (Nat.le_of_ble_eq_true rfl) rfl rfl (by decide) (by decide) rfl ?_
    rw [hm0]
    refine b_aln (pc2 := 78) d_Cl_endsWith_77 rfl rfl ?_
    refine b_gr (pc2 := 81) d_Cl_endsWith_78 q_2_27 (sh_67 n0) (by decide) (by decide) (p_67_2 n0) rfl ?_
    refine b_ic (pc2 := 82) (x := Int32.ofNat 0) d_Cl_endsWith_81 rfl rfl ?_
    refine b_cv1 (pc2 := 85) (c2 := 0) (u2 := 0) (rw_at (k := 0) (by omega) hSR R_80 (by decide)) d_Cl_endsWith_82 q_2_79 (Nat.le_of_ble_eq_true rfl) rfl rfl (sh_80 n0) (Nat.le_of_ble_eq_true rfl) rfl rfl (by decide) (by decide) rfl ?_
    rw [hr0]
    refine b_ic (pc2 := 86) (x := Int32.ofNat 1) d_Cl_endsWith_85 rfl rfl ?_
    refine b_pure (pc2 := 87) d_Cl_endsWith_86 rfl rfl rfl ?_
    rw [i_add]
    refine b_ifd (pc2 := 101) d_Cl_endsWith_87 rfl rfl rfl rfl rfl (fun h87 => ?_) (fun h87 => ?_)
    · exact absurd h87 (fun z => z (by rw [hok]))
    refine b_aln (pc2 := 91) d_Cl_endsWith_90 rfl rfl ?_
    refine b_cv1 (pc2 := 94) (c2 := 0) (u2 := 0) (rw_length (by omega) hSR R_27) d_Cl_endsWith_91 q_2_95 (Nat.le_of_ble_eq_true rfl) rfl rfl (sh_27 n0) (Nat.le_of_ble_eq_true rfl) rfl rfl (by decide) (by decide) rfl ?_
    refine b_aln (pc2 := 95) d_Cl_endsWith_94 rfl rfl ?_
    refine b_cv1 (pc2 := 98) (c2 := 0) (u2 := 0) (cl_needed (by omega) ho (by omega)) d_Cl_endsWith_95 q_2_130 (Nat.le_of_ble_eq_true rfl) rfl rfl (sh_67 n0) (Nat.le_of_ble_eq_true rfl) rfl rfl (by decide) (by decide) rfl ?_
    refine b_ifd (pc2 := 107) d_Cl_endsWith_98 rfl rfl rfl rfl rfl (fun h98 => ?_) (fun h98 => ?_)
    rotate_left
    · exact absurd ((i_le (by split <;> omega) (by omega)).mpr hlen2) h98
    refine b_aln (pc2 := 108) d_Cl_endsWith_107 rfl rfl ?_
    refine b_gi (pc2 := 111) d_Cl_endsWith_108 q_2_49 (sh_67 n0) (by decide) (by decide) (rc_67) rfl ?_
    refine b_ifd (pc2 := 118) d_Cl_endsWith_111 rfl rfl rfl rfl rfl (fun h111 => ?_) (fun h111 => ?_)
    rotate_left
    · exact absurd (hs) h111
    refine b_ic (pc2 := 119) (x := Int32.ofNat 0) d_Cl_endsWith_118 rfl rfl ?_
    refine b_br d_Cl_endsWith_119 rfl (by decide) ?_
    exact ⟨rfl, rfl, rfl, rfl, rfl⟩
  · refine b_aln (pc2 := 53) d_Cl_endsWith_52 rfl rfl ?_
    refine b_cv1 (pc2 := 56) (c2 := 0) (u2 := 0) (rw_length (by omega) hSR R_27) d_Cl_endsWith_53 q_2_95 (Nat.le_of_ble_eq_true rfl) rfl rfl (sh_27 n0) (Nat.le_of_ble_eq_true rfl) rfl rfl (by decide) (by decide) rfl ?_
    refine b_ic (pc2 := 57) (x := Int32.ofNat 4) d_Cl_endsWith_56 rfl rfl ?_
    refine b_ifd (pc2 := 72) d_Cl_endsWith_57 rfl rfl rfl rfl rfl (fun h57 => ?_) (fun h57 => ?_)
    · refine b_aln (pc2 := 73) d_Cl_endsWith_72 rfl rfl ?_
      refine b_ic (pc2 := 74) (x := Int32.ofNat 0) d_Cl_endsWith_73 rfl rfl ?_
      refine b_cv1 (pc2 := 77) (c2 := 0) (u2 := 0) (rw_at (k := 0) (by omega) hSR R_27 (by decide)) d_Cl_endsWith_74 q_2_79 (Nat.le_of_ble_eq_true rfl) rfl rfl (sh_27 n0) (Nat.le_of_ble_eq_true rfl) rfl rfl (by decide) (by decide) rfl ?_
      rw [hm0]
      refine b_aln (pc2 := 78) d_Cl_endsWith_77 rfl rfl ?_
      refine b_gr (pc2 := 81) d_Cl_endsWith_78 q_2_27 (sh_67 n0) (by decide) (by decide) (p_67_2 n0) rfl ?_
      refine b_ic (pc2 := 82) (x := Int32.ofNat 0) d_Cl_endsWith_81 rfl rfl ?_
      refine b_cv1 (pc2 := 85) (c2 := 0) (u2 := 0) (rw_at (k := 0) (by omega) hSR R_80 (by decide)) d_Cl_endsWith_82 q_2_79 (Nat.le_of_ble_eq_true rfl) rfl rfl (sh_80 n0) (Nat.le_of_ble_eq_true rfl) rfl rfl (by decide) (by decide) rfl ?_
      rw [hr0]
      refine b_ic (pc2 := 86) (x := Int32.ofNat 1) d_Cl_endsWith_85 rfl rfl ?_
      refine b_pure (pc2 := 87) d_Cl_endsWith_86 rfl rfl rfl ?_
      rw [i_add]
      refine b_ifd (pc2 := 101) d_Cl_endsWith_87 rfl rfl rfl rfl rfl (fun h87 => ?_) (fun h87 => ?_)
      · exact absurd h87 (fun z => z (by rw [hok]))
      refine b_aln (pc2 := 91) d_Cl_endsWith_90 rfl rfl ?_
      refine b_cv1 (pc2 := 94) (c2 := 0) (u2 := 0) (rw_length (by omega) hSR R_27) d_Cl_endsWith_91 q_2_95 (Nat.le_of_ble_eq_true rfl) rfl rfl (sh_27 n0) (Nat.le_of_ble_eq_true rfl) rfl rfl (by decide) (by decide) rfl ?_
      refine b_aln (pc2 := 95) d_Cl_endsWith_94 rfl rfl ?_
      refine b_cv1 (pc2 := 98) (c2 := 0) (u2 := 0) (cl_needed (by omega) ho (by omega)) d_Cl_endsWith_95 q_2_130 (Nat.le_of_ble_eq_true rfl) rfl rfl (sh_67 n0) (Nat.le_of_ble_eq_true rfl) rfl rfl (by decide) (by decide) rfl ?_
      refine b_ifd (pc2 := 107) d_Cl_endsWith_98 rfl rfl rfl rfl rfl (fun h98 => ?_) (fun h98 => ?_)
      rotate_left
      · exact absurd ((i_le (by split <;> omega) (by omega)).mpr hlen2) h98
      refine b_aln (pc2 := 108) d_Cl_endsWith_107 rfl rfl ?_
      refine b_gi (pc2 := 111) d_Cl_endsWith_108 q_2_49 (sh_67 n0) (by decide) (by decide) (rc_67) rfl ?_
      refine b_ifd (pc2 := 118) d_Cl_endsWith_111 rfl rfl rfl rfl rfl (fun h111 => ?_) (fun h111 => ?_)
      rotate_left
      · exact absurd (hs) h111
      refine b_ic (pc2 := 119) (x := Int32.ofNat 0) d_Cl_endsWith_118 rfl rfl ?_
      refine b_br d_Cl_endsWith_119 rfl (by decide) ?_
      exact ⟨rfl, rfl, rfl, rfl, rfl⟩
    · rw [i_eq (by omega) (by decide)] at h49 h57
      exact absurd ⟨Decidable.not_not.mp h49, Decidable.not_not.mp h57⟩ hne
theorem cl_note0 {d : Nat} (hd : 3 ≤ d) (hm : (W 27).length < 2) : bm d (S0 n0) R0 94 [.ref 67, .ref 27, .ref 8] W J g L (bR none W J g L) := by
  obtain ⟨e, rfl⟩ : ∃ e, d = e + 1 := ⟨d - 1, by omega⟩
  refine bm_of (Nat.le_of_ble_eq_true rfl) (Or.inr bR_ret) ?_
  show bT e (S0 n0) R0 mt_Cl_keepNote _ 0 [(0, .ref 67), (1, .ref 27), (2, .ref 8)] [] W J g L 0 0
  have hSR := SR0 n0
  refine b_aln (pc2 := 1) d_Cl_keepNote_0 rfl rfl ?_
  refine b_cv1 (pc2 := 4) (c2 := 0) (u2 := 0) (rw_length (by omega) hSR R_27) d_Cl_keepNote_1 q_2_95 (Nat.le_of_ble_eq_true rfl) rfl rfl (sh_27 n0) (Nat.le_of_ble_eq_true rfl) rfl rfl (by decide) (by decide) rfl ?_
  refine b_ic (pc2 := 5) (x := Int32.ofNat 2) d_Cl_keepNote_4 rfl rfl ?_
  refine b_ifd (pc2 := 9) d_Cl_keepNote_5 rfl rfl rfl rfl rfl (fun h5 => ?_) (fun h5 => ?_)
  · exact absurd h5 (fun z => by rw [i_le (by decide) (by omega)] at z; omega)
  refine b_vr d_Cl_keepNote_8 rfl ?_
  exact ⟨rfl, rfl, rfl, rfl, rfl⟩
theorem cl_note1 {d : Nat} (hd : 3 ≤ d) (hm : 2 ≤ (W 27).length) {m0 : Nat} (hm0 : (W1 27).getD 0 0 = Int32.ofNat m0) (hm2 : m0 < 256) (hK : ∀ e, 2 ≤ e → bm e (S0 n0) R0 95 [.ref 68, .ref 27] W J g L (bR none W1 J1 g L)) (h29 : ¬ m0 = 29) : bm d (S0 n0) R0 94 [.ref 67, .ref 27, .ref 8] W J g L (bR none W1 J1 g L) := by
  obtain ⟨e, rfl⟩ : ∃ e, d = e + 1 := ⟨d - 1, by omega⟩
  refine bm_of (Nat.le_of_ble_eq_true rfl) (Or.inr bR_ret) ?_
  show bT e (S0 n0) R0 mt_Cl_keepNote _ 0 [(0, .ref 67), (1, .ref 27), (2, .ref 8)] [] W J g L 0 0
  have hSR := SR0 n0
  refine b_free fun hlen => ?_
  have hla := hlen 27 20 R_27
  refine b_aln (pc2 := 1) d_Cl_keepNote_0 rfl rfl ?_
  refine b_cv1 (pc2 := 4) (c2 := 0) (u2 := 0) (rw_length (by omega) hSR R_27) d_Cl_keepNote_1 q_2_95 (Nat.le_of_ble_eq_true rfl) rfl rfl (sh_27 n0) (Nat.le_of_ble_eq_true rfl) rfl rfl (by decide) (by decide) rfl ?_
  refine b_ic (pc2 := 5) (x := Int32.ofNat 2) d_Cl_keepNote_4 rfl rfl ?_
  refine b_ifd (pc2 := 9) d_Cl_keepNote_5 rfl rfl rfl rfl rfl (fun h5 => ?_) (fun h5 => ?_)
  rotate_left
  · exact absurd ((i_le (by decide) (by omega)).mpr hm) h5
  refine b_aln (pc2 := 10) d_Cl_keepNote_9 rfl rfl ?_
  refine b_gr (pc2 := 13) d_Cl_keepNote_10 q_2_12 (sh_67 n0) (by decide) (by decide) (p_67_0 n0) rfl ?_
  refine b_aln (pc2 := 14) d_Cl_keepNote_13 rfl rfl ?_
  refine b_cv0 (pc2 := 17) (c2 := 0) (u2 := 0) (hK e (by omega)) d_Cl_keepNote_14 q_2_99 (Nat.le_of_ble_eq_true rfl) rfl rfl (sh_68 n0) (Nat.le_of_ble_eq_true rfl) rfl rfl (by decide) (by decide) rfl ?_
  refine b_aln (pc2 := 18) d_Cl_keepNote_17 rfl rfl ?_
  refine b_ic (pc2 := 19) (x := Int32.ofNat 0) d_Cl_keepNote_18 rfl rfl ?_
  refine b_cv1 (pc2 := 22) (c2 := 0) (u2 := 0) (rw_at (k := 0) (by omega) hSR R_27 (by decide)) d_Cl_keepNote_19 q_2_79 (Nat.le_of_ble_eq_true rfl) rfl rfl (sh_27 n0) (Nat.le_of_ble_eq_true rfl) rfl rfl (by decide) (by decide) rfl ?_
  rw [hm0]
  refine b_bp (pc2 := 24) (x := Int32.ofNat 29) d_Cl_keepNote_22 rfl rfl ?_
  refine b_ifd (pc2 := 35) d_Cl_keepNote_24 rfl rfl rfl rfl rfl (fun h24 => ?_) (fun h24 => ?_)
  rotate_left
  · exact absurd (fun z => h29 ((i_eq (by omega) (by decide)).mp z)) h24
  refine b_vr d_Cl_keepNote_35 rfl ?_
  exact ⟨rfl, rfl, rfl, rfl, rfl⟩
theorem cl_note2 {d : Nat} (hd : 3 ≤ d) (hm : 2 ≤ (W 27).length) {m0 : Nat} (hm0 : (W1 27).getD 0 0 = Int32.ofNat m0) (hm2 : m0 < 256) (hK : ∀ e, 2 ≤ e → bm e (S0 n0) R0 95 [.ref 68, .ref 27] W J g L (bR none W1 J1 g L)) (h29 : m0 = 29) (hG : ∀ e, 2 ≤ e → bm e (S0 n0) R0 44 [.ref 8, .ref 82] W1 J1 g L (bR none W2 J2 g L)) : bm d (S0 n0) R0 94 [.ref 67, .ref 27, .ref 8] W J g L (bR none W2 J2 g L) := by
  obtain ⟨e, rfl⟩ : ∃ e, d = e + 1 := ⟨d - 1, by omega⟩
  refine bm_of (Nat.le_of_ble_eq_true rfl) (Or.inr bR_ret) ?_
  show bT e (S0 n0) R0 mt_Cl_keepNote _ 0 [(0, .ref 67), (1, .ref 27), (2, .ref 8)] [] W J g L 0 0
  have hSR := SR0 n0
  refine b_free fun hlen => ?_
  have hla := hlen 27 20 R_27
  refine b_aln (pc2 := 1) d_Cl_keepNote_0 rfl rfl ?_
  refine b_cv1 (pc2 := 4) (c2 := 0) (u2 := 0) (rw_length (by omega) hSR R_27) d_Cl_keepNote_1 q_2_95 (Nat.le_of_ble_eq_true rfl) rfl rfl (sh_27 n0) (Nat.le_of_ble_eq_true rfl) rfl rfl (by decide) (by decide) rfl ?_
  refine b_ic (pc2 := 5) (x := Int32.ofNat 2) d_Cl_keepNote_4 rfl rfl ?_
  refine b_ifd (pc2 := 9) d_Cl_keepNote_5 rfl rfl rfl rfl rfl (fun h5 => ?_) (fun h5 => ?_)
  rotate_left
  · exact absurd ((i_le (by decide) (by omega)).mpr hm) h5
  refine b_aln (pc2 := 10) d_Cl_keepNote_9 rfl rfl ?_
  refine b_gr (pc2 := 13) d_Cl_keepNote_10 q_2_12 (sh_67 n0) (by decide) (by decide) (p_67_0 n0) rfl ?_
  refine b_aln (pc2 := 14) d_Cl_keepNote_13 rfl rfl ?_
  refine b_cv0 (pc2 := 17) (c2 := 0) (u2 := 0) (hK e (by omega)) d_Cl_keepNote_14 q_2_99 (Nat.le_of_ble_eq_true rfl) rfl rfl (sh_68 n0) (Nat.le_of_ble_eq_true rfl) rfl rfl (by decide) (by decide) rfl ?_
  refine b_aln (pc2 := 18) d_Cl_keepNote_17 rfl rfl ?_
  refine b_ic (pc2 := 19) (x := Int32.ofNat 0) d_Cl_keepNote_18 rfl rfl ?_
  refine b_cv1 (pc2 := 22) (c2 := 0) (u2 := 0) (rw_at (k := 0) (by omega) hSR R_27 (by decide)) d_Cl_keepNote_19 q_2_79 (Nat.le_of_ble_eq_true rfl) rfl rfl (sh_27 n0) (Nat.le_of_ble_eq_true rfl) rfl rfl (by decide) (by decide) rfl ?_
  rw [hm0]
  refine b_bp (pc2 := 24) (x := Int32.ofNat 29) d_Cl_keepNote_22 rfl rfl ?_
  refine b_ifd (pc2 := 35) d_Cl_keepNote_24 rfl rfl rfl rfl rfl (fun h24 => ?_) (fun h24 => ?_)
  · exact absurd h24 (fun z => z (by rw [h29]))
  refine b_aln (pc2 := 28) d_Cl_keepNote_27 rfl rfl ?_
  refine b_aln (pc2 := 29) d_Cl_keepNote_28 rfl rfl ?_
  refine b_gr (pc2 := 32) d_Cl_keepNote_29 q_2_30 (sh_67 n0) (by decide) (by decide) (p_67_3 n0) rfl ?_
  refine b_cv0 (pc2 := 35) (c2 := 0) (u2 := 0) (hG e (by omega)) d_Cl_keepNote_32 q_2_102 (Nat.le_of_ble_eq_true rfl) rfl rfl (sh_8 n0) (Nat.le_of_ble_eq_true rfl) rfl rfl (by decide) (by decide) rfl ?_
  refine b_vr d_Cl_keepNote_35 rfl ?_
  exact ⟨rfl, rfl, rfl, rfl, rfl⟩
theorem cl_lis_note {d : Nat} (hd : 5 ≤ d) {m0 : Nat} (hm0 : (W 27).getD 0 0 = Int32.ofNat m0) (hm2 : m0 < 256) (hn : m0 = 27 ∨ m0 = 29) (hK : ∀ e, 3 ≤ e → bm e (S0 n0) R0 94 [.ref 67, .ref 27, .ref 8] W J g L (bR none W1 J1 g L)) : bm d (S0 n0) R0 93 [.ref 67, .ref 27, .ref 8] W J g L (bR none W1 J1 g L) := by
  obtain ⟨e, rfl⟩ : ∃ e, d = e + 1 := ⟨d - 1, by omega⟩
  refine bm_of (Nat.le_of_ble_eq_true rfl) (Or.inr bR_ret) ?_
  show bT e (S0 n0) R0 mt_Cl_listen _ 0 [(0, .ref 67), (1, .ref 27), (2, .ref 8)] [] W J g L 0 0
  have hSR := SR0 n0
  refine b_aln (pc2 := 1) d_Cl_listen_0 rfl rfl ?_
  refine b_ic (pc2 := 2) (x := Int32.ofNat 0) d_Cl_listen_1 rfl rfl ?_
  refine b_cv1 (pc2 := 5) (c2 := 0) (u2 := 0) (rw_at (k := 0) (by omega) hSR R_27 (by decide)) d_Cl_listen_2 q_2_79 (Nat.le_of_ble_eq_true rfl) rfl rfl (sh_27 n0) (Nat.le_of_ble_eq_true rfl) rfl rfl (by decide) (by decide) rfl ?_
  rw [hm0]
  refine b_isn (pc2 := 6) (al2 := [(3, _), (0, _), (1, _), (2, _)]) d_Cl_listen_5 (by decide) rfl rfl ?_
  refine b_iln (pc2 := 7) d_Cl_listen_6 rfl rfl ?_
  refine b_bp (pc2 := 9) (x := Int32.ofNat 27) d_Cl_listen_7 rfl rfl ?_
  refine b_ifd (pc2 := 18) d_Cl_listen_9 rfl rfl rfl rfl rfl (fun h9 => ?_) (fun h9 => ?_)
  · refine b_aln (pc2 := 19) d_Cl_listen_18 rfl rfl ?_
    refine b_aln (pc2 := 20) d_Cl_listen_19 rfl rfl ?_
    refine b_aln (pc2 := 21) d_Cl_listen_20 rfl rfl ?_
    refine b_cv0 (pc2 := 24) (c2 := 0) (u2 := 0) (hK e (by omega)) d_Cl_listen_21 q_2_83 (Nat.le_of_ble_eq_true rfl) rfl rfl (sh_67 n0) (Nat.le_of_ble_eq_true rfl) rfl rfl (by decide) (by decide) rfl ?_
    refine b_go (pc2 := 66) d_Cl_listen_24 rfl ?_
    refine b_vr d_Cl_listen_66 rfl ?_
    exact ⟨rfl, rfl, rfl, rfl, rfl⟩
  · refine b_iln (pc2 := 13) d_Cl_listen_12 rfl rfl ?_
    refine b_bp (pc2 := 15) (x := Int32.ofNat 29) d_Cl_listen_13 rfl rfl ?_
    refine b_ifd (pc2 := 27) d_Cl_listen_15 rfl rfl rfl rfl rfl (fun h15 => ?_) (fun h15 => ?_)
    · rw [i_eq (by omega) (by decide)] at h9 h15
      omega
    · refine b_aln (pc2 := 19) d_Cl_listen_18 rfl rfl ?_
      refine b_aln (pc2 := 20) d_Cl_listen_19 rfl rfl ?_
      refine b_aln (pc2 := 21) d_Cl_listen_20 rfl rfl ?_
      refine b_cv0 (pc2 := 24) (c2 := 0) (u2 := 0) (hK e (by omega)) d_Cl_listen_21 q_2_83 (Nat.le_of_ble_eq_true rfl) rfl rfl (sh_67 n0) (Nat.le_of_ble_eq_true rfl) rfl rfl (by decide) (by decide) rfl ?_
      refine b_go (pc2 := 66) d_Cl_listen_24 rfl ?_
      refine b_vr d_Cl_listen_66 rfl ?_
      exact ⟨rfl, rfl, rfl, rfl, rfl⟩
theorem cl_lis_skip {d : Nat} (hd : 5 ≤ d) {m0 : Nat} (hm0 : (W 27).getD 0 0 = Int32.ofNat m0) (hm2 : m0 < 256) (hn : ¬ (m0 = 27 ∨ m0 = 29)) (hsk : ¬ m0 % 2 = 1 ∨ ¬ J 67 8 = 0) : bm d (S0 n0) R0 93 [.ref 67, .ref 27, .ref 8] W J g L (bR none W J g L) := by
  obtain ⟨e, rfl⟩ : ∃ e, d = e + 1 := ⟨d - 1, by omega⟩
  refine bm_of (Nat.le_of_ble_eq_true rfl) (Or.inr bR_ret) ?_
  show bT e (S0 n0) R0 mt_Cl_listen _ 0 [(0, .ref 67), (1, .ref 27), (2, .ref 8)] [] W J g L 0 0
  have hSR := SR0 n0
  refine b_aln (pc2 := 1) d_Cl_listen_0 rfl rfl ?_
  refine b_ic (pc2 := 2) (x := Int32.ofNat 0) d_Cl_listen_1 rfl rfl ?_
  refine b_cv1 (pc2 := 5) (c2 := 0) (u2 := 0) (rw_at (k := 0) (by omega) hSR R_27 (by decide)) d_Cl_listen_2 q_2_79 (Nat.le_of_ble_eq_true rfl) rfl rfl (sh_27 n0) (Nat.le_of_ble_eq_true rfl) rfl rfl (by decide) (by decide) rfl ?_
  rw [hm0]
  refine b_isn (pc2 := 6) (al2 := [(3, _), (0, _), (1, _), (2, _)]) d_Cl_listen_5 (by decide) rfl rfl ?_
  refine b_iln (pc2 := 7) d_Cl_listen_6 rfl rfl ?_
  refine b_bp (pc2 := 9) (x := Int32.ofNat 27) d_Cl_listen_7 rfl rfl ?_
  refine b_ifd (pc2 := 18) d_Cl_listen_9 rfl rfl rfl rfl rfl (fun h9 => ?_) (fun h9 => ?_)
  · exact absurd h9 (fun z => by rw [i_eq (by omega) (by decide)] at z; omega)
  refine b_iln (pc2 := 13) d_Cl_listen_12 rfl rfl ?_
  refine b_bp (pc2 := 15) (x := Int32.ofNat 29) d_Cl_listen_13 rfl rfl ?_
  refine b_ifd (pc2 := 27) d_Cl_listen_15 rfl rfl rfl rfl rfl (fun h15 => ?_) (fun h15 => ?_)
  rotate_left
  · exact absurd (fun z => by rw [i_eq (by omega) (by decide)] at z; omega) h15
  refine b_iln (pc2 := 28) d_Cl_listen_27 rfl rfl ?_
  refine b_ic (pc2 := 29) (x := Int32.ofNat 1) d_Cl_listen_28 rfl rfl ?_
  refine b_pure (pc2 := 30) d_Cl_listen_29 rfl rfl rfl ?_
  rw [i_and, Nat.and_one_is_mod]
  refine b_ic (pc2 := 31) (x := Int32.ofNat 1) d_Cl_listen_30 rfl rfl ?_
  refine b_ifd (pc2 := 66) d_Cl_listen_31 rfl rfl rfl rfl rfl (fun h31 => ?_) (fun h31 => ?_)
  · refine b_vr d_Cl_listen_66 rfl ?_
    exact ⟨rfl, rfl, rfl, rfl, rfl⟩
  · refine b_aln (pc2 := 35) d_Cl_listen_34 rfl rfl ?_
    refine b_gi (pc2 := 38) d_Cl_listen_35 q_2_49 (sh_67 n0) (by decide) (by decide) (rc_67) rfl ?_
    refine b_ifd (pc2 := 66) d_Cl_listen_38 rfl rfl rfl rfl rfl (fun h38 => ?_) (fun h38 => ?_)
    · refine b_vr d_Cl_listen_66 rfl ?_
      exact ⟨rfl, rfl, rfl, rfl, rfl⟩
    · rw [i_eq (by omega) (by decide)] at h31
      exact absurd hsk (by rintro (q | q); exact h31 q; exact h38 q)
theorem cl_lis_end {d : Nat} (hd : 5 ≤ d) {m0 : Nat} (hm0 : (W 27).getD 0 0 = Int32.ofNat m0) (hm2 : m0 < 256) (hn : ¬ (m0 = 27 ∨ m0 = 29)) (hod : m0 % 2 = 1) (hs : J 67 8 = 0) (hE : ∀ e, 3 ≤ e → bm e (S0 n0) R0 96 [.ref 67, .ref 27] W J g L (bR (some (.int 1)) W1 J1 g L)) : bm d (S0 n0) R0 93 [.ref 67, .ref 27, .ref 8] W J g L (bR none W1 J1 g L) := by
  obtain ⟨e, rfl⟩ : ∃ e, d = e + 1 := ⟨d - 1, by omega⟩
  refine bm_of (Nat.le_of_ble_eq_true rfl) (Or.inr bR_ret) ?_
  show bT e (S0 n0) R0 mt_Cl_listen _ 0 [(0, .ref 67), (1, .ref 27), (2, .ref 8)] [] W J g L 0 0
  have hSR := SR0 n0
  refine b_aln (pc2 := 1) d_Cl_listen_0 rfl rfl ?_
  refine b_ic (pc2 := 2) (x := Int32.ofNat 0) d_Cl_listen_1 rfl rfl ?_
  refine b_cv1 (pc2 := 5) (c2 := 0) (u2 := 0) (rw_at (k := 0) (by omega) hSR R_27 (by decide)) d_Cl_listen_2 q_2_79 (Nat.le_of_ble_eq_true rfl) rfl rfl (sh_27 n0) (Nat.le_of_ble_eq_true rfl) rfl rfl (by decide) (by decide) rfl ?_
  rw [hm0]
  refine b_isn (pc2 := 6) (al2 := [(3, _), (0, _), (1, _), (2, _)]) d_Cl_listen_5 (by decide) rfl rfl ?_
  refine b_iln (pc2 := 7) d_Cl_listen_6 rfl rfl ?_
  refine b_bp (pc2 := 9) (x := Int32.ofNat 27) d_Cl_listen_7 rfl rfl ?_
  refine b_ifd (pc2 := 18) d_Cl_listen_9 rfl rfl rfl rfl rfl (fun h9 => ?_) (fun h9 => ?_)
  · exact absurd h9 (fun z => by rw [i_eq (by omega) (by decide)] at z; omega)
  refine b_iln (pc2 := 13) d_Cl_listen_12 rfl rfl ?_
  refine b_bp (pc2 := 15) (x := Int32.ofNat 29) d_Cl_listen_13 rfl rfl ?_
  refine b_ifd (pc2 := 27) d_Cl_listen_15 rfl rfl rfl rfl rfl (fun h15 => ?_) (fun h15 => ?_)
  rotate_left
  · exact absurd (fun z => by rw [i_eq (by omega) (by decide)] at z; omega) h15
  refine b_iln (pc2 := 28) d_Cl_listen_27 rfl rfl ?_
  refine b_ic (pc2 := 29) (x := Int32.ofNat 1) d_Cl_listen_28 rfl rfl ?_
  refine b_pure (pc2 := 30) d_Cl_listen_29 rfl rfl rfl ?_
  rw [i_and, Nat.and_one_is_mod]
  refine b_ic (pc2 := 31) (x := Int32.ofNat 1) d_Cl_listen_30 rfl rfl ?_
  refine b_ifd (pc2 := 66) d_Cl_listen_31 rfl rfl rfl rfl rfl (fun h31 => ?_) (fun h31 => ?_)
  · exact absurd h31 (fun z => z (by rw [hod]))
  refine b_aln (pc2 := 35) d_Cl_listen_34 rfl rfl ?_
  refine b_gi (pc2 := 38) d_Cl_listen_35 q_2_49 (sh_67 n0) (by decide) (by decide) (rc_67) rfl ?_
  refine b_ifd (pc2 := 66) d_Cl_listen_38 rfl rfl rfl rfl rfl (fun h38 => ?_) (fun h38 => ?_)
  · exact absurd h38 (fun z => z hs)
  refine b_aln (pc2 := 42) d_Cl_listen_41 rfl rfl ?_
  refine b_aln (pc2 := 43) d_Cl_listen_42 rfl rfl ?_
  refine b_cv1 (pc2 := 46) (c2 := 0) (u2 := 0) (hE e (by omega)) d_Cl_listen_43 q_2_87 (Nat.le_of_ble_eq_true rfl) rfl rfl (sh_67 n0) (Nat.le_of_ble_eq_true rfl) rfl rfl (by decide) (by decide) rfl ?_
  refine b_ifd (pc2 := 66) d_Cl_listen_46 rfl rfl rfl rfl rfl (fun h46 => ?_) (fun h46 => ?_)
  rotate_left
  · exact absurd (show ¬ (1 : Int32) = 0 by decide) h46
  refine b_vr d_Cl_listen_66 rfl ?_
  exact ⟨rfl, rfl, rfl, rfl, rfl⟩
theorem cl_lis_done {d : Nat} (hd : 5 ≤ d) {m0 : Nat} (hm0 : (W 27).getD 0 0 = Int32.ofNat m0) (hm2 : m0 < 256) (hn : ¬ (m0 = 27 ∨ m0 = 29)) (hod : m0 % 2 = 1) (hs : J 67 8 = 0) (hE : ∀ e, 3 ≤ e → bm e (S0 n0) R0 96 [.ref 67, .ref 27] W J g L (bR (some (.int 0)) W J g L)) (hR : ∀ e, 4 ≤ e → bm e (S0 n0) R0 101 [.ref 67, .ref 27] W J g L (bR none W1 J1 g L)) (h1 : ¬ J1 67 8 = 0) : bm d (S0 n0) R0 93 [.ref 67, .ref 27, .ref 8] W J g L (bR none W1 J1 g L) := by
  obtain ⟨e, rfl⟩ : ∃ e, d = e + 1 := ⟨d - 1, by omega⟩
  refine bm_of (Nat.le_of_ble_eq_true rfl) (Or.inr bR_ret) ?_
  show bT e (S0 n0) R0 mt_Cl_listen _ 0 [(0, .ref 67), (1, .ref 27), (2, .ref 8)] [] W J g L 0 0
  have hSR := SR0 n0
  refine b_aln (pc2 := 1) d_Cl_listen_0 rfl rfl ?_
  refine b_ic (pc2 := 2) (x := Int32.ofNat 0) d_Cl_listen_1 rfl rfl ?_
  refine b_cv1 (pc2 := 5) (c2 := 0) (u2 := 0) (rw_at (k := 0) (by omega) hSR R_27 (by decide)) d_Cl_listen_2 q_2_79 (Nat.le_of_ble_eq_true rfl) rfl rfl (sh_27 n0) (Nat.le_of_ble_eq_true rfl) rfl rfl (by decide) (by decide) rfl ?_
  rw [hm0]
  refine b_isn (pc2 := 6) (al2 := [(3, _), (0, _), (1, _), (2, _)]) d_Cl_listen_5 (by decide) rfl rfl ?_
  refine b_iln (pc2 := 7) d_Cl_listen_6 rfl rfl ?_
  refine b_bp (pc2 := 9) (x := Int32.ofNat 27) d_Cl_listen_7 rfl rfl ?_
  refine b_ifd (pc2 := 18) d_Cl_listen_9 rfl rfl rfl rfl rfl (fun h9 => ?_) (fun h9 => ?_)
  · exact absurd h9 (fun z => by rw [i_eq (by omega) (by decide)] at z; omega)
  refine b_iln (pc2 := 13) d_Cl_listen_12 rfl rfl ?_
  refine b_bp (pc2 := 15) (x := Int32.ofNat 29) d_Cl_listen_13 rfl rfl ?_
  refine b_ifd (pc2 := 27) d_Cl_listen_15 rfl rfl rfl rfl rfl (fun h15 => ?_) (fun h15 => ?_)
  rotate_left
  · exact absurd (fun z => by rw [i_eq (by omega) (by decide)] at z; omega) h15
  refine b_iln (pc2 := 28) d_Cl_listen_27 rfl rfl ?_
  refine b_ic (pc2 := 29) (x := Int32.ofNat 1) d_Cl_listen_28 rfl rfl ?_
  refine b_pure (pc2 := 30) d_Cl_listen_29 rfl rfl rfl ?_
  rw [i_and, Nat.and_one_is_mod]
  refine b_ic (pc2 := 31) (x := Int32.ofNat 1) d_Cl_listen_30 rfl rfl ?_
  refine b_ifd (pc2 := 66) d_Cl_listen_31 rfl rfl rfl rfl rfl (fun h31 => ?_) (fun h31 => ?_)
  · exact absurd h31 (fun z => z (by rw [hod]))
  refine b_aln (pc2 := 35) d_Cl_listen_34 rfl rfl ?_
  refine b_gi (pc2 := 38) d_Cl_listen_35 q_2_49 (sh_67 n0) (by decide) (by decide) (rc_67) rfl ?_
  refine b_ifd (pc2 := 66) d_Cl_listen_38 rfl rfl rfl rfl rfl (fun h38 => ?_) (fun h38 => ?_)
  · exact absurd h38 (fun z => z hs)
  refine b_aln (pc2 := 42) d_Cl_listen_41 rfl rfl ?_
  refine b_aln (pc2 := 43) d_Cl_listen_42 rfl rfl ?_
  refine b_cv1 (pc2 := 46) (c2 := 0) (u2 := 0) (hE e (by omega)) d_Cl_listen_43 q_2_87 (Nat.le_of_ble_eq_true rfl) rfl rfl (sh_67 n0) (Nat.le_of_ble_eq_true rfl) rfl rfl (by decide) (by decide) rfl ?_
  refine b_ifd (pc2 := 66) d_Cl_listen_46 rfl rfl rfl rfl rfl (fun h46 => ?_) (fun h46 => ?_)
  · exact absurd h46 (fun z => z rfl)
  refine b_aln (pc2 := 50) d_Cl_listen_49 rfl rfl ?_
  refine b_aln (pc2 := 51) d_Cl_listen_50 rfl rfl ?_
  refine b_cv0 (pc2 := 54) (c2 := 0) (u2 := 0) (hR e (by omega)) d_Cl_listen_51 q_2_91 (Nat.le_of_ble_eq_true rfl) rfl rfl (sh_67 n0) (Nat.le_of_ble_eq_true rfl) rfl rfl (by decide) (by decide) rfl ?_
  refine b_aln (pc2 := 55) d_Cl_listen_54 rfl rfl ?_
  refine b_gi (pc2 := 58) d_Cl_listen_55 q_2_49 (sh_67 n0) (by decide) (by decide) (rc_67) rfl ?_
  refine b_ifd (pc2 := 66) d_Cl_listen_58 rfl rfl rfl rfl rfl (fun h58 => ?_) (fun h58 => ?_)
  rotate_left
  · exact absurd (h1) h58
  refine b_vr d_Cl_listen_66 rfl ?_
  exact ⟨rfl, rfl, rfl, rfl, rfl⟩
theorem cl_lis_ask {d : Nat} (hd : 5 ≤ d) {m0 : Nat} (hm0 : (W 27).getD 0 0 = Int32.ofNat m0) (hm2 : m0 < 256) (hn : ¬ (m0 = 27 ∨ m0 = 29)) (hod : m0 % 2 = 1) (hs : J 67 8 = 0) (hE : ∀ e, 3 ≤ e → bm e (S0 n0) R0 96 [.ref 67, .ref 27] W J g L (bR (some (.int 0)) W J g L)) (hR : ∀ e, 4 ≤ e → bm e (S0 n0) R0 101 [.ref 67, .ref 27] W J g L (bR none W1 J1 g L)) (h1 : J1 67 8 = 0) (hA : ∀ e, 3 ≤ e → bm e (S0 n0) R0 54 [.ref 67, .ref 8] W1 J1 g L (bR none W2 J2 g L)) : bm d (S0 n0) R0 93 [.ref 67, .ref 27, .ref 8] W J g L (bR none W2 J2 g L) := by
  obtain ⟨e, rfl⟩ : ∃ e, d = e + 1 := ⟨d - 1, by omega⟩
  refine bm_of (Nat.le_of_ble_eq_true rfl) (Or.inr bR_ret) ?_
  show bT e (S0 n0) R0 mt_Cl_listen _ 0 [(0, .ref 67), (1, .ref 27), (2, .ref 8)] [] W J g L 0 0
  have hSR := SR0 n0
  refine b_aln (pc2 := 1) d_Cl_listen_0 rfl rfl ?_
  refine b_ic (pc2 := 2) (x := Int32.ofNat 0) d_Cl_listen_1 rfl rfl ?_
  refine b_cv1 (pc2 := 5) (c2 := 0) (u2 := 0) (rw_at (k := 0) (by omega) hSR R_27 (by decide)) d_Cl_listen_2 q_2_79 (Nat.le_of_ble_eq_true rfl) rfl rfl (sh_27 n0) (Nat.le_of_ble_eq_true rfl) rfl rfl (by decide) (by decide) rfl ?_
  rw [hm0]
  refine b_isn (pc2 := 6) (al2 := [(3, _), (0, _), (1, _), (2, _)]) d_Cl_listen_5 (by decide) rfl rfl ?_
  refine b_iln (pc2 := 7) d_Cl_listen_6 rfl rfl ?_
  refine b_bp (pc2 := 9) (x := Int32.ofNat 27) d_Cl_listen_7 rfl rfl ?_
  refine b_ifd (pc2 := 18) d_Cl_listen_9 rfl rfl rfl rfl rfl (fun h9 => ?_) (fun h9 => ?_)
  · exact absurd h9 (fun z => by rw [i_eq (by omega) (by decide)] at z; omega)
  refine b_iln (pc2 := 13) d_Cl_listen_12 rfl rfl ?_
  refine b_bp (pc2 := 15) (x := Int32.ofNat 29) d_Cl_listen_13 rfl rfl ?_
  refine b_ifd (pc2 := 27) d_Cl_listen_15 rfl rfl rfl rfl rfl (fun h15 => ?_) (fun h15 => ?_)
  rotate_left
  · exact absurd (fun z => by rw [i_eq (by omega) (by decide)] at z; omega) h15
  refine b_iln (pc2 := 28) d_Cl_listen_27 rfl rfl ?_
  refine b_ic (pc2 := 29) (x := Int32.ofNat 1) d_Cl_listen_28 rfl rfl ?_
  refine b_pure (pc2 := 30) d_Cl_listen_29 rfl rfl rfl ?_
  rw [i_and, Nat.and_one_is_mod]
  refine b_ic (pc2 := 31) (x := Int32.ofNat 1) d_Cl_listen_30 rfl rfl ?_
  refine b_ifd (pc2 := 66) d_Cl_listen_31 rfl rfl rfl rfl rfl (fun h31 => ?_) (fun h31 => ?_)
  · exact absurd h31 (fun z => z (by rw [hod]))
  refine b_aln (pc2 := 35) d_Cl_listen_34 rfl rfl ?_
  refine b_gi (pc2 := 38) d_Cl_listen_35 q_2_49 (sh_67 n0) (by decide) (by decide) (rc_67) rfl ?_
  refine b_ifd (pc2 := 66) d_Cl_listen_38 rfl rfl rfl rfl rfl (fun h38 => ?_) (fun h38 => ?_)
  · exact absurd h38 (fun z => z hs)
  refine b_aln (pc2 := 42) d_Cl_listen_41 rfl rfl ?_
  refine b_aln (pc2 := 43) d_Cl_listen_42 rfl rfl ?_
  refine b_cv1 (pc2 := 46) (c2 := 0) (u2 := 0) (hE e (by omega)) d_Cl_listen_43 q_2_87 (Nat.le_of_ble_eq_true rfl) rfl rfl (sh_67 n0) (Nat.le_of_ble_eq_true rfl) rfl rfl (by decide) (by decide) rfl ?_
  refine b_ifd (pc2 := 66) d_Cl_listen_46 rfl rfl rfl rfl rfl (fun h46 => ?_) (fun h46 => ?_)
  · exact absurd h46 (fun z => z rfl)
  refine b_aln (pc2 := 50) d_Cl_listen_49 rfl rfl ?_
  refine b_aln (pc2 := 51) d_Cl_listen_50 rfl rfl ?_
  refine b_cv0 (pc2 := 54) (c2 := 0) (u2 := 0) (hR e (by omega)) d_Cl_listen_51 q_2_91 (Nat.le_of_ble_eq_true rfl) rfl rfl (sh_67 n0) (Nat.le_of_ble_eq_true rfl) rfl rfl (by decide) (by decide) rfl ?_
  refine b_aln (pc2 := 55) d_Cl_listen_54 rfl rfl ?_
  refine b_gi (pc2 := 58) d_Cl_listen_55 q_2_49 (sh_67 n0) (by decide) (by decide) (rc_67) rfl ?_
  refine b_ifd (pc2 := 66) d_Cl_listen_58 rfl rfl rfl rfl rfl (fun h58 => ?_) (fun h58 => ?_)
  · exact absurd h58 (fun z => z h1)
  refine b_aln (pc2 := 62) d_Cl_listen_61 rfl rfl ?_
  refine b_aln (pc2 := 63) d_Cl_listen_62 rfl rfl ?_
  refine b_cv0 (pc2 := 66) (c2 := 0) (u2 := 0) (hA e (by omega)) d_Cl_listen_63 q_2_75 (Nat.le_of_ble_eq_true rfl) rfl rfl (sh_67 n0) (Nat.le_of_ble_eq_true rfl) rfl rfl (by decide) (by decide) rfl ?_
  refine b_vr d_Cl_listen_66 rfl ?_
  exact ⟨rfl, rfl, rfl, rfl, rfl⟩
end CA
