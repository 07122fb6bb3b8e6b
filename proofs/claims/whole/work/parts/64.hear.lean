/-! Part 64 (written by gen15.py): Device: accept, hear -/
section HE
variable {n0 : Nat} {W : bw_W} {J : bw_J} {g : Nat} {L : bw_L}
theorem de_acc36_c {e : Nat} (he : 3 ≤ e) {p : List Int32} (hp : W 33 = p) {s f nx : Nat} (hs : p.getD 1 0 = Int32.ofNat s) (hs2 : s < 256) (hf2 : f < 256) (hx : J 7 8 = Int32.ofNat nx) (hx2 : nx ≤ 1) {W1 : bw_W} {J1 : bw_J} (h1 : f / 8 % 2 = nx → 0 < s → bm e (S0 n0) R0 74 [.ref 26, .int (Int32.ofNat (f % 4)), .ref 33] W (am_u2 J 7 8 (Int32.ofNat (1 - nx))) g L (bR none W1 J1 g L)) (h2 : f / 8 % 2 = nx → s = 0 → W1 = W ∧ J1 = am_u2 J 7 8 (Int32.ofNat (1 - nx))) (h3 : ¬ f / 8 % 2 = nx → W1 = W ∧ J1 = J) : bT e (S0 n0) R0 mt_De_accept (bR none W1 J1 g L) 36 [(1, .int (Int32.ofNat f)), (0, .ref 7)] [] W J g L 0 0 := by
  have hSR := SR0 n0
  have hb : (Int32.ofNat f >>> (Int32.ofNat 3 &&& 31)) &&& Int32.ofNat 1 = Int32.ofNat (f / 8 % 2) := by rw [i_shr (by omega) (by decide), i_and, Nat.and_one_is_mod]
  have hm2 := Nat.mod_lt (f / 8) (show 2 > 0 by decide)
  refine b_iln (pc2 := 37) d_De_accept_36 rfl rfl ?_
  refine b_ic (pc2 := 38) (x := Int32.ofNat 3) d_De_accept_37 rfl rfl ?_
  refine b_pure (pc2 := 39) d_De_accept_38 rfl rfl rfl ?_
  refine b_ic (pc2 := 40) (x := Int32.ofNat 1) d_De_accept_39 rfl rfl ?_
  refine b_pure (pc2 := 41) d_De_accept_40 rfl rfl rfl ?_
  refine b_aln (pc2 := 42) d_De_accept_41 rfl rfl ?_
  refine b_gi (pc2 := 45) d_De_accept_42 q_3_51 (sh_7 n0) (by decide) (by decide) (rc_7) rfl ?_
  rw [hb, hx]
  refine b_ifd (pc2 := 83) d_De_accept_45 rfl rfl rfl rfl rfl (fun h45 => ?_) (fun h45 => ?_)
  · refine b_vr d_De_accept_83 rfl ?_
    rw [i_eq (by omega) (by omega)] at h45
    obtain ⟨e1, e2⟩ := h3 h45
    exact ⟨rfl, e1.symm, e2.symm, rfl, rfl⟩
  · rw [i_eq (by omega) (by omega)] at h45
    have h45 := Decidable.not_not.mp h45
    refine b_aln (pc2 := 49) d_De_accept_48 rfl rfl ?_
    refine b_ic (pc2 := 50) (x := Int32.ofNat 1) d_De_accept_49 rfl rfl ?_
    refine b_aln (pc2 := 51) d_De_accept_50 rfl rfl ?_
    refine b_gi (pc2 := 54) d_De_accept_51 q_3_51 (sh_7 n0) (by decide) (by decide) (rc_7) rfl ?_
    rw [hx]
    refine b_pure (pc2 := 55) d_De_accept_54 rfl rfl rfl ?_
    rw [i_sub hx2]
    refine b_pi (pc2 := 58) d_De_accept_55 q_3_51 (sh_7 n0) (by decide) (Or.inl (by decide)) (Or.inl rfl) (rc_7) rfl ?_
    refine b_aln (pc2 := 59) d_De_accept_58 rfl rfl ?_
    refine b_gr (pc2 := 62) d_De_accept_59 q_3_34 (sh_7 n0) (by decide) (by decide) (p_7_3 n0) rfl ?_
    refine b_ic (pc2 := 63) (x := Int32.ofNat 1) d_De_accept_62 rfl rfl ?_
    refine b_cv1 (pc2 := 66) (c2 := 0) (u2 := 0) (rw_at (k := 1) (by omega) hSR R_33 (by decide)) d_De_accept_63 q_3_83 (Nat.le_of_ble_eq_true rfl) rfl rfl (sh_33 n0) (Nat.le_of_ble_eq_true rfl) rfl rfl (by decide) (by decide) rfl ?_
    rw [hp, hs]
    refine b_ifd (pc2 := 83) d_De_accept_66 rfl rfl rfl rfl rfl (fun h66 => ?_) (fun h66 => ?_)
    · refine b_vr d_De_accept_83 rfl ?_
      rw [show (0 : Int32) = Int32.ofNat 0 from rfl, i_le (by omega) (by decide)] at h66
      obtain ⟨e1, e2⟩ := h2 h45 (by omega)
      exact ⟨rfl, e1.symm, e2.symm, rfl, rfl⟩
    · rw [show (0 : Int32) = Int32.ofNat 0 from rfl, i_le (by omega) (by decide)] at h66
      refine b_aln (pc2 := 70) d_De_accept_69 rfl rfl ?_
      refine b_gr (pc2 := 73) d_De_accept_70 q_3_21 (sh_7 n0) (by decide) (by decide) (p_7_1 n0) rfl ?_
      refine b_iln (pc2 := 74) d_De_accept_73 rfl rfl ?_
      refine b_ic (pc2 := 75) (x := Int32.ofNat 3) d_De_accept_74 rfl rfl ?_
      refine b_pure (pc2 := 76) d_De_accept_75 rfl rfl rfl ?_
      rw [i_and, show f &&& 3 = f % 4 from Nat.and_two_pow_sub_one_eq_mod f 2]
      refine b_aln (pc2 := 77) d_De_accept_76 rfl rfl ?_
      refine b_gr (pc2 := 80) d_De_accept_77 q_3_34 (sh_7 n0) (by decide) (by decide) (p_7_3 n0) rfl ?_
      refine b_cv0 (pc2 := 83) (c2 := 0) (u2 := 0) (h1 h45 (by omega)) d_De_accept_80 q_3_107 (Nat.le_of_ble_eq_true rfl) rfl rfl (sh_26 n0) (Nat.le_of_ble_eq_true rfl) rfl rfl (by decide) (by decide) rfl ?_
      refine b_vr d_De_accept_83 rfl ?_
      exact ⟨rfl, rfl, rfl, rfl, rfl⟩
theorem de_accept_c {d : Nat} (hd : 4 ≤ d) {p : List Int32} (hp : W 33 = p) {s f nx tu : Nat} (hf : p.getD 0 0 = Int32.ofNat f) (hs : p.getD 1 0 = Int32.ofNat s) (hs2 : s < 256) (hf2 : f < 256) (hx : J 7 8 = Int32.ofNat nx) (hx2 : nx ≤ 1) (hu : J 7 7 = Int32.ofNat tu) (hu2 : tu ≤ 1) {J0 : bw_J} (hJ : J0 = (if f / 4 % 2 = tu then J else am_u2 (am_u2 J 7 7 (Int32.ofNat (1 - tu))) 7 6 0)) {W1 : bw_W} {J1 : bw_J} (h1 : f / 8 % 2 = nx → 0 < s → ∀ e, 3 ≤ e → bm e (S0 n0) R0 74 [.ref 26, .int (Int32.ofNat (f % 4)), .ref 33] W (am_u2 J0 7 8 (Int32.ofNat (1 - nx))) g L (bR none W1 J1 g L)) (h2 : f / 8 % 2 = nx → s = 0 → W1 = W ∧ J1 = am_u2 J0 7 8 (Int32.ofNat (1 - nx))) (h3 : ¬ f / 8 % 2 = nx → W1 = W ∧ J1 = J0) : bm d (S0 n0) R0 73 [.ref 7] W J g L (bR none W1 J1 g L) := by
  obtain ⟨e, rfl⟩ : ∃ e, d = e + 1 := ⟨d - 1, by omega⟩
  refine bm_of (Nat.le_of_ble_eq_true rfl) (Or.inr bR_ret) ?_
  show bT e (S0 n0) R0 mt_De_accept _ 0 [(0, .ref 7)] [] W J g L 0 0
  have hSR := SR0 n0
  have hb : (Int32.ofNat f >>> (Int32.ofNat 2 &&& 31)) &&& Int32.ofNat 1 = Int32.ofNat (f / 4 % 2) := by rw [i_shr (by omega) (by decide), i_and, Nat.and_one_is_mod]
  have hm2 := Nat.mod_lt (f / 4) (show 2 > 0 by decide)
  refine b_aln (pc2 := 1) d_De_accept_0 rfl rfl ?_
  refine b_gr (pc2 := 4) d_De_accept_1 q_3_34 (sh_7 n0) (by decide) (by decide) (p_7_3 n0) rfl ?_
  refine b_ic (pc2 := 5) (x := Int32.ofNat 0) d_De_accept_4 rfl rfl ?_
  refine b_cv1 (pc2 := 8) (c2 := 0) (u2 := 0) (rw_at (k := 0) (by omega) hSR R_33 (by decide)) d_De_accept_5 q_3_83 (Nat.le_of_ble_eq_true rfl) rfl rfl (sh_33 n0) (Nat.le_of_ble_eq_true rfl) rfl rfl (by decide) (by decide) rfl ?_
  rw [hp, hf]
  refine b_isn (pc2 := 9) (al2 := [(1, _), (0, _)]) d_De_accept_8 (by decide) rfl rfl ?_
  refine b_iln (pc2 := 10) d_De_accept_9 rfl rfl ?_
  refine b_ic (pc2 := 11) (x := Int32.ofNat 2) d_De_accept_10 rfl rfl ?_
  refine b_pure (pc2 := 12) d_De_accept_11 rfl rfl rfl ?_
  refine b_ic (pc2 := 13) (x := Int32.ofNat 1) d_De_accept_12 rfl rfl ?_
  refine b_pure (pc2 := 14) d_De_accept_13 rfl rfl rfl ?_
  refine b_aln (pc2 := 15) d_De_accept_14 rfl rfl ?_
  refine b_gi (pc2 := 18) d_De_accept_15 q_3_48 (sh_7 n0) (by decide) (by decide) (rc_7) rfl ?_
  rw [hb, hu]
  refine b_ifd (pc2 := 36) d_De_accept_18 rfl rfl rfl rfl rfl (fun h18 => ?_) (fun h18 => ?_)
  · refine b_nf (al := [(1, _), (0, _)]) (ks := [1, 0]) (sub_c rfl (sub_c rfl (sub_n))) rfl (by decide) ?_
    dsimp only
    rw [i_eq (by omega) (by omega)] at h18
    first | rw [if_pos h18] at hJ | rw [if_neg h18] at hJ
    subst hJ
    exact de_acc36_c (by omega) hp hs hs2 hf2 (by first | exact hx | (rw [u2_k _ _ (by decide), u2_k _ _ (by decide)]; exact hx)) hx2 (fun a b => h1 a b e (by omega)) h2 h3
  · refine b_aln (pc2 := 22) d_De_accept_21 rfl rfl ?_
    refine b_ic (pc2 := 23) (x := Int32.ofNat 1) d_De_accept_22 rfl rfl ?_
    refine b_aln (pc2 := 24) d_De_accept_23 rfl rfl ?_
    refine b_gi (pc2 := 27) d_De_accept_24 q_3_48 (sh_7 n0) (by decide) (by decide) (rc_7) rfl ?_
    rw [hu]
    refine b_pure (pc2 := 28) d_De_accept_27 rfl rfl rfl ?_
    rw [i_sub hu2]
    refine b_pi (pc2 := 31) d_De_accept_28 q_3_48 (sh_7 n0) (by decide) (Or.inl (by decide)) (Or.inl rfl) (rc_7) rfl ?_
    refine b_aln (pc2 := 32) d_De_accept_31 rfl rfl ?_
    refine b_ic (pc2 := 33) (x := Int32.ofNat 0) d_De_accept_32 rfl rfl ?_
    refine b_pi (pc2 := 36) d_De_accept_33 q_3_44 (sh_7 n0) (by decide) (Or.inl (by decide)) (Or.inr ⟨rfl, by decide⟩) (rc_7) rfl ?_
    refine b_nf (al := [(1, _), (0, _)]) (ks := [1, 0]) (sub_c rfl (sub_c rfl (sub_n))) rfl (by decide) ?_
    dsimp only
    rw [i_eq (by omega) (by omega)] at h18
    first | rw [if_pos h18] at hJ | rw [if_neg h18] at hJ
    subst hJ
    exact de_acc36_c (by omega) hp hs hs2 hf2 (by first | exact hx | (rw [u2_k _ _ (by decide), u2_k _ _ (by decide)]; exact hx)) hx2 (fun a b => h1 a b e (by omega)) h2 h3
theorem lp_hear_c {e : Nat} (he : 1 ≤ e) {v : Int64} {Qh : am_O → am_H → Prop} : ∀ (l : List Int32) (i : Nat) (W : bw_W), (W 61).drop i = l → (W 61).length = i + l.length → (W 33).length = i → (W 61).length ≤ 12 → bH e (S0 n0) R0 mt_De_hear Qh 59 [(0, .ref 7)] [] (am_u1 W 33 (W 33 ++ hz v (J 6) i l)) J g L 0 0 → bH e (S0 n0) R0 mt_De_hear Qh 17 [(5, .int (Int32.ofNat i)), (0, .ref 7), (1, .ref 61), (2, .long v), (4, .ref 5)] [] W J g L 0 0 := by
  have hSR := SR0 n0
  intro l
  induction l with
  | nil =>
    intro i W h1 h2 h3 h4 K
    rw [List.length_nil] at h2
    rw [show W 33 ++ hz v (J 6) i [] = W 33 from List.append_nil _, u1_id] at K
    refine b_il (pc2 := 19) d_De_hear_17 rfl rfl ?_
    refine b_aln (pc2 := 20) d_De_hear_19 rfl rfl ?_
    refine b_cv1 (pc2 := 23) (c2 := 0) (u2 := 0) (rw_length he hSR R_61) d_De_hear_20 q_3_67 (Nat.le_of_ble_eq_true rfl) rfl rfl (sh_61 n0) (Nat.le_of_ble_eq_true rfl) rfl rfl (by decide) (by decide) rfl ?_
    refine b_ifd (pc2 := 59) d_De_hear_23 rfl rfl rfl rfl rfl (fun h23 => ?_) (fun h23 => ?_)
    rotate_left
    · exact absurd ((i_le (by omega) (by omega)).mpr (by omega)) h23
    refine b_nf (al := [(0, _)]) (ks := [0]) (sub_c rfl (sub_n)) rfl (by decide) ?_
    dsimp only
    exact K
  | cons x l ih =>
    intro i W h1 h2 h3 h4 K
    rw [List.length_cons] at h2
    obtain ⟨c1, c2, c3⟩ := l_dc h1
    refine b_il (pc2 := 19) d_De_hear_17 rfl rfl ?_
    refine b_aln (pc2 := 20) d_De_hear_19 rfl rfl ?_
    refine b_cv1 (pc2 := 23) (c2 := 0) (u2 := 0) (rw_length he hSR R_61) d_De_hear_20 q_3_67 (Nat.le_of_ble_eq_true rfl) rfl rfl (sh_61 n0) (Nat.le_of_ble_eq_true rfl) rfl rfl (by decide) (by decide) rfl ?_
    refine b_ifd (pc2 := 59) d_De_hear_23 rfl rfl rfl rfl rfl (fun h23 => ?_) (fun h23 => ?_)
    · exact absurd h23 (fun z => by rw [i_le (by omega) (by omega)] at z; omega)
    refine b_aln (pc2 := 27) d_De_hear_26 rfl rfl ?_
    refine b_gr (pc2 := 30) d_De_hear_27 q_3_34 (sh_7 n0) (by decide) (by decide) (p_7_3 n0) rfl ?_
    refine b_al (pc2 := 32) d_De_hear_30 rfl rfl ?_
    refine b_il (pc2 := 34) d_De_hear_32 rfl rfl ?_
    refine b_aln (pc2 := 35) d_De_hear_34 rfl rfl ?_
    refine b_il (pc2 := 37) d_De_hear_35 rfl rfl ?_
    refine b_cv1 (pc2 := 40) (c2 := 0) (u2 := 0) (rw_at he hSR R_61 (by omega)) d_De_hear_37 q_3_83 (Nat.le_of_ble_eq_true rfl) rfl rfl (sh_61 n0) (Nat.le_of_ble_eq_true rfl) rfl rfl (by decide) (by decide) rfl ?_
    rw [c1]
    refine b_lln (pc2 := 41) d_De_hear_40 rfl rfl ?_
    refine b_il (pc2 := 43) d_De_hear_41 rfl rfl ?_
    refine b_cs1 (pc2 := 46) (c2 := 0) (u2 := 0) (de_spoilAt (by omega) (show i < 12 by omega)) d_De_hear_43 q_3_96 (Or.inl rfl) (Nat.le_of_ble_eq_true rfl) rfl rfl (Nat.le_of_ble_eq_true rfl) rfl rfl (by decide) (by decide) rfl ?_
    refine b_pure (pc2 := 47) d_De_hear_46 rfl rfl rfl ?_
    refine b_cv1 (pc2 := 50) (c2 := 0) (u2 := 0) (wh_turn (by omega) (show i < 12 by omega)) d_De_hear_47 q_3_87 (Nat.le_of_ble_eq_true rfl) rfl rfl (sh_5 n0) (Nat.le_of_ble_eq_true rfl) rfl rfl (by decide) (by decide) rfl ?_
    refine b_cv0 (pc2 := 53) (c2 := 0) (u2 := 0) (rw_add he hSR R_33 (by omega)) d_De_hear_50 q_3_64 (Nat.le_of_ble_eq_true rfl) rfl rfl (sh_33 n0) (Nat.le_of_ble_eq_true rfl) rfl rfl (by decide) (by decide) rfl ?_
    refine b_inc (pc2 := 56) (al2 := [(5, _), (0, _), (1, _), (2, _), (4, _)]) (y := Int32.ofNat 1) d_De_hear_53 (by decide) rfl rfl rfl rfl ?_
    refine b_go (pc2 := 17) d_De_hear_56 rfl ?_
    refine b_nf (al := [(5, _), (0, _), (1, _), (2, _), (4, _)]) (ks := [5, 0, 1, 2, 4]) (sub_c rfl (sub_c rfl (sub_c rfl (sub_c rfl (sub_c rfl (sub_n)))))) rfl (by decide) ?_
    dsimp only
    rw [i_add]
    refine ih (i + 1) (am_u1 W 33 (W 33 ++ [((x ^^^ sp8 v i) ^^^ J 6 i) &&& 255])) (by rw [u1_ne _ _ (by decide)]; exact c2) (by rw [u1_ne _ _ (by decide)]; omega) (by rw [u1_at, List.length_append, List.length_singleton]; omega) (by rw [u1_ne _ _ (by decide)]; exact h4) ?_
    rw [u1_at, u1_u1, List.append_assoc]
    exact K
theorem de_hear0_c {d : Nat} (hd : 5 ≤ d) {v : Int64} {p : List Int32} (hp : p = hz v (J 6) 0 (W 61)) (h5 : 5 ≤ (W 61).length) {s : Nat} (hs : p.getD 1 0 = Int32.ofNat s) (hs2 : s < 256) (hg : de_ok p s = false) : bm d (S0 n0) R0 69 [.ref 7, .ref 61, .long v, .ref 5] W J g L (bR (some (.int 0)) (am_u1 W 33 p) (am_u2 J 26 3 0) g L) := by
  obtain ⟨e, rfl⟩ : ∃ e, d = e + 1 := ⟨d - 1, by omega⟩
  refine bm_of (Nat.le_of_ble_eq_true rfl) (Or.inr bR_ret) ?_
  show bT e (S0 n0) R0 mt_De_hear _ 0 [(0, .ref 7), (1, .ref 61), (2, .long v), (4, .ref 5)] [] W J g L 0 0
  have hSR := SR0 n0
  refine b_free fun hlen => ?_
  have hl := hlen 61 12 R_61
  refine b_aln (pc2 := 1) d_De_hear_0 rfl rfl ?_
  refine b_gr (pc2 := 4) d_De_hear_1 q_3_21 (sh_7 n0) (by decide) (by decide) (p_7_1 n0) rfl ?_
  refine b_cv0 (pc2 := 7) (c2 := 0) (u2 := 0) (in_forget_c (by omega)) d_De_hear_4 q_3_93 (Nat.le_of_ble_eq_true rfl) rfl rfl (sh_26 n0) (Nat.le_of_ble_eq_true rfl) rfl rfl (by decide) (by decide) rfl ?_
  refine b_aln (pc2 := 8) d_De_hear_7 rfl rfl ?_
  refine b_gr (pc2 := 11) d_De_hear_8 q_3_34 (sh_7 n0) (by decide) (by decide) (p_7_3 n0) rfl ?_
  refine b_cv0 (pc2 := 14) (c2 := 0) (u2 := 0) (rw_clear (by omega) hSR R_33) d_De_hear_11 q_3_61 (Nat.le_of_ble_eq_true rfl) rfl rfl (sh_33 n0) (Nat.le_of_ble_eq_true rfl) rfl rfl (by decide) (by decide) rfl ?_
  refine b_ic (pc2 := 15) (x := Int32.ofNat 0) d_De_hear_14 rfl rfl ?_
  refine b_is (pc2 := 17) (al2 := [(5, _), (0, _), (1, _), (2, _), (4, _)]) d_De_hear_15 (by decide) rfl rfl ?_
  refine b_nf (al := [(5, _), (0, _), (1, _), (2, _), (4, _)]) (ks := [5, 0, 1, 2, 4]) (sub_c rfl (sub_c rfl (sub_c rfl (sub_c rfl (sub_c rfl (sub_n)))))) rfl (by decide) ?_
  dsimp only
  refine lp_hear_c (by omega) (W 61) 0 (am_u1 W 33 []) (by rw [u1_ne _ _ (by decide)]; rfl) (by rw [u1_ne _ _ (by decide)]; omega) (by rw [u1_at]; rfl) (by rw [u1_ne _ _ (by decide)]; exact hl) ?_
  rw [u1_at, u1_u1, List.nil_append, u2_a _ _ (by decide), ← hp]
  refine b_aln (pc2 := 60) d_De_hear_59 rfl rfl ?_
  refine b_cv1 (pc2 := 63) (c2 := 0) (u2 := 0) (de_isGood_c (by omega) (u1_at _ _ _) (by rw [hp, hz_len]; exact h5) hs hs2) d_De_hear_60 q_3_100 (Nat.le_of_ble_eq_true rfl) rfl rfl (sh_7 n0) (Nat.le_of_ble_eq_true rfl) rfl rfl (by decide) (by decide) rfl ?_
  rw [if_neg (by rw [hg]; decide)]
  refine b_ifd (pc2 := 68) d_De_hear_63 rfl rfl rfl rfl rfl (fun h63 => ?_) (fun h63 => ?_)
  · exact absurd h63 (fun z => z rfl)
  refine b_ic (pc2 := 67) (x := Int32.ofNat 0) d_De_hear_66 rfl rfl ?_
  refine b_br d_De_hear_67 rfl (by decide) ?_
  exact ⟨rfl, rfl, rfl, rfl, rfl⟩
theorem de_hear1_c {d : Nat} (hd : 5 ≤ d) {v : Int64} {p : List Int32} (hp : p = hz v (J 6) 0 (W 61)) (h5 : 5 ≤ (W 61).length) {s : Nat} (hs : p.getD 1 0 = Int32.ofNat s) (hs2 : s < 256) (hg : de_ok p s = true) {W1 : bw_W} {J1 : bw_J} (hA : ∀ e, 4 ≤ e → bm e (S0 n0) R0 73 [.ref 7] (am_u1 W 33 p) (am_u2 J 26 3 0) g L (bR none W1 J1 g L)) : bm d (S0 n0) R0 69 [.ref 7, .ref 61, .long v, .ref 5] W J g L (bR (some (.int 1)) W1 J1 g L) := by
  obtain ⟨e, rfl⟩ : ∃ e, d = e + 1 := ⟨d - 1, by omega⟩
  refine bm_of (Nat.le_of_ble_eq_true rfl) (Or.inr bR_ret) ?_
  show bT e (S0 n0) R0 mt_De_hear _ 0 [(0, .ref 7), (1, .ref 61), (2, .long v), (4, .ref 5)] [] W J g L 0 0
  have hSR := SR0 n0
  refine b_free fun hlen => ?_
  have hl := hlen 61 12 R_61
  refine b_aln (pc2 := 1) d_De_hear_0 rfl rfl ?_
  refine b_gr (pc2 := 4) d_De_hear_1 q_3_21 (sh_7 n0) (by decide) (by decide) (p_7_1 n0) rfl ?_
  refine b_cv0 (pc2 := 7) (c2 := 0) (u2 := 0) (in_forget_c (by omega)) d_De_hear_4 q_3_93 (Nat.le_of_ble_eq_true rfl) rfl rfl (sh_26 n0) (Nat.le_of_ble_eq_true rfl) rfl rfl (by decide) (by decide) rfl ?_
  refine b_aln (pc2 := 8) d_De_hear_7 rfl rfl ?_
  refine b_gr (pc2 := 11) d_De_hear_8 q_3_34 (sh_7 n0) (by decide) (by decide) (p_7_3 n0) rfl ?_
  refine b_cv0 (pc2 := 14) (c2 := 0) (u2 := 0) (rw_clear (by omega) hSR R_33) d_De_hear_11 q_3_61 (Nat.le_of_ble_eq_true rfl) rfl rfl (sh_33 n0) (Nat.le_of_ble_eq_true rfl) rfl rfl (by decide) (by decide) rfl ?_
  refine b_ic (pc2 := 15) (x := Int32.ofNat 0) d_De_hear_14 rfl rfl ?_
  refine b_is (pc2 := 17) (al2 := [(5, _), (0, _), (1, _), (2, _), (4, _)]) d_De_hear_15 (by decide) rfl rfl ?_
  refine b_nf (al := [(5, _), (0, _), (1, _), (2, _), (4, _)]) (ks := [5, 0, 1, 2, 4]) (sub_c rfl (sub_c rfl (sub_c rfl (sub_c rfl (sub_c rfl (sub_n)))))) rfl (by decide) ?_
  dsimp only
  refine lp_hear_c (by omega) (W 61) 0 (am_u1 W 33 []) (by rw [u1_ne _ _ (by decide)]; rfl) (by rw [u1_ne _ _ (by decide)]; omega) (by rw [u1_at]; rfl) (by rw [u1_ne _ _ (by decide)]; exact hl) ?_
  rw [u1_at, u1_u1, List.nil_append, u2_a _ _ (by decide), ← hp]
  refine b_aln (pc2 := 60) d_De_hear_59 rfl rfl ?_
  refine b_cv1 (pc2 := 63) (c2 := 0) (u2 := 0) (de_isGood_c (by omega) (u1_at _ _ _) (by rw [hp, hz_len]; exact h5) hs hs2) d_De_hear_60 q_3_100 (Nat.le_of_ble_eq_true rfl) rfl rfl (sh_7 n0) (Nat.le_of_ble_eq_true rfl) rfl rfl (by decide) (by decide) rfl ?_
  rw [if_pos hg]
  refine b_ifd (pc2 := 68) d_De_hear_63 rfl rfl rfl rfl rfl (fun h63 => ?_) (fun h63 => ?_)
  rotate_left
  · exact absurd (show ¬ (1 : Int32) = 0 by decide) h63
  refine b_aln (pc2 := 69) d_De_hear_68 rfl rfl ?_
  refine b_cv0 (pc2 := 72) (c2 := 0) (u2 := 0) (hA e (by omega)) d_De_hear_69 q_3_104 (Nat.le_of_ble_eq_true rfl) rfl rfl (sh_7 n0) (Nat.le_of_ble_eq_true rfl) rfl rfl (by decide) (by decide) rfl ?_
  refine b_ic (pc2 := 73) (x := Int32.ofNat 1) d_De_hear_72 rfl rfl ?_
  refine b_br d_De_hear_73 rfl (by decide) ?_
  exact ⟨rfl, rfl, rfl, rfl, rfl⟩
theorem de_acc36_s {e : Nat} (he : 3 ≤ e) {p : List Int32} (hp : W 63 = p) {s f nx : Nat} (hs : p.getD 1 0 = Int32.ofNat s) (hs2 : s < 256) (hf2 : f < 256) (hx : J 37 8 = Int32.ofNat nx) (hx2 : nx ≤ 1) {W1 : bw_W} {J1 : bw_J} (h1 : f / 8 % 2 = nx → 0 < s → bm e (S0 n0) R0 74 [.ref 56, .int (Int32.ofNat (f % 4)), .ref 63] W (am_u2 J 37 8 (Int32.ofNat (1 - nx))) g L (bR none W1 J1 g L)) (h2 : f / 8 % 2 = nx → s = 0 → W1 = W ∧ J1 = am_u2 J 37 8 (Int32.ofNat (1 - nx))) (h3 : ¬ f / 8 % 2 = nx → W1 = W ∧ J1 = J) : bT e (S0 n0) R0 mt_De_accept (bR none W1 J1 g L) 36 [(1, .int (Int32.ofNat f)), (0, .ref 37)] [] W J g L 0 0 := by
  have hSR := SR0 n0
  have hb : (Int32.ofNat f >>> (Int32.ofNat 3 &&& 31)) &&& Int32.ofNat 1 = Int32.ofNat (f / 8 % 2) := by rw [i_shr (by omega) (by decide), i_and, Nat.and_one_is_mod]
  have hm2 := Nat.mod_lt (f / 8) (show 2 > 0 by decide)
  refine b_iln (pc2 := 37) d_De_accept_36 rfl rfl ?_
  refine b_ic (pc2 := 38) (x := Int32.ofNat 3) d_De_accept_37 rfl rfl ?_
  refine b_pure (pc2 := 39) d_De_accept_38 rfl rfl rfl ?_
  refine b_ic (pc2 := 40) (x := Int32.ofNat 1) d_De_accept_39 rfl rfl ?_
  refine b_pure (pc2 := 41) d_De_accept_40 rfl rfl rfl ?_
  refine b_aln (pc2 := 42) d_De_accept_41 rfl rfl ?_
  refine b_gi (pc2 := 45) d_De_accept_42 q_3_51 (sh_37 n0) (by decide) (by decide) (rc_37) rfl ?_
  rw [hb, hx]
  refine b_ifd (pc2 := 83) d_De_accept_45 rfl rfl rfl rfl rfl (fun h45 => ?_) (fun h45 => ?_)
  · refine b_vr d_De_accept_83 rfl ?_
    rw [i_eq (by omega) (by omega)] at h45
    obtain ⟨e1, e2⟩ := h3 h45
    exact ⟨rfl, e1.symm, e2.symm, rfl, rfl⟩
  · rw [i_eq (by omega) (by omega)] at h45
    have h45 := Decidable.not_not.mp h45
    refine b_aln (pc2 := 49) d_De_accept_48 rfl rfl ?_
    refine b_ic (pc2 := 50) (x := Int32.ofNat 1) d_De_accept_49 rfl rfl ?_
    refine b_aln (pc2 := 51) d_De_accept_50 rfl rfl ?_
    refine b_gi (pc2 := 54) d_De_accept_51 q_3_51 (sh_37 n0) (by decide) (by decide) (rc_37) rfl ?_
    rw [hx]
    refine b_pure (pc2 := 55) d_De_accept_54 rfl rfl rfl ?_
    rw [i_sub hx2]
    refine b_pi (pc2 := 58) d_De_accept_55 q_3_51 (sh_37 n0) (by decide) (Or.inl (by decide)) (Or.inl rfl) (rc_37) rfl ?_
    refine b_aln (pc2 := 59) d_De_accept_58 rfl rfl ?_
    refine b_gr (pc2 := 62) d_De_accept_59 q_3_34 (sh_37 n0) (by decide) (by decide) (p_37_3 n0) rfl ?_
    refine b_ic (pc2 := 63) (x := Int32.ofNat 1) d_De_accept_62 rfl rfl ?_
    refine b_cv1 (pc2 := 66) (c2 := 0) (u2 := 0) (rw_at (k := 1) (by omega) hSR R_63 (by decide)) d_De_accept_63 q_3_83 (Nat.le_of_ble_eq_true rfl) rfl rfl (sh_63 n0) (Nat.le_of_ble_eq_true rfl) rfl rfl (by decide) (by decide) rfl ?_
    rw [hp, hs]
    refine b_ifd (pc2 := 83) d_De_accept_66 rfl rfl rfl rfl rfl (fun h66 => ?_) (fun h66 => ?_)
    · refine b_vr d_De_accept_83 rfl ?_
      rw [show (0 : Int32) = Int32.ofNat 0 from rfl, i_le (by omega) (by decide)] at h66
      obtain ⟨e1, e2⟩ := h2 h45 (by omega)
      exact ⟨rfl, e1.symm, e2.symm, rfl, rfl⟩
    · rw [show (0 : Int32) = Int32.ofNat 0 from rfl, i_le (by omega) (by decide)] at h66
      refine b_aln (pc2 := 70) d_De_accept_69 rfl rfl ?_
      refine b_gr (pc2 := 73) d_De_accept_70 q_3_21 (sh_37 n0) (by decide) (by decide) (p_37_1 n0) rfl ?_
      refine b_iln (pc2 := 74) d_De_accept_73 rfl rfl ?_
      refine b_ic (pc2 := 75) (x := Int32.ofNat 3) d_De_accept_74 rfl rfl ?_
      refine b_pure (pc2 := 76) d_De_accept_75 rfl rfl rfl ?_
      rw [i_and, show f &&& 3 = f % 4 from Nat.and_two_pow_sub_one_eq_mod f 2]
      refine b_aln (pc2 := 77) d_De_accept_76 rfl rfl ?_
      refine b_gr (pc2 := 80) d_De_accept_77 q_3_34 (sh_37 n0) (by decide) (by decide) (p_37_3 n0) rfl ?_
      refine b_cv0 (pc2 := 83) (c2 := 0) (u2 := 0) (h1 h45 (by omega)) d_De_accept_80 q_3_107 (Nat.le_of_ble_eq_true rfl) rfl rfl (sh_56 n0) (Nat.le_of_ble_eq_true rfl) rfl rfl (by decide) (by decide) rfl ?_
      refine b_vr d_De_accept_83 rfl ?_
      exact ⟨rfl, rfl, rfl, rfl, rfl⟩
theorem de_accept_s {d : Nat} (hd : 4 ≤ d) {p : List Int32} (hp : W 63 = p) {s f nx tu : Nat} (hf : p.getD 0 0 = Int32.ofNat f) (hs : p.getD 1 0 = Int32.ofNat s) (hs2 : s < 256) (hf2 : f < 256) (hx : J 37 8 = Int32.ofNat nx) (hx2 : nx ≤ 1) (hu : J 37 7 = Int32.ofNat tu) (hu2 : tu ≤ 1) {J0 : bw_J} (hJ : J0 = (if f / 4 % 2 = tu then J else am_u2 (am_u2 J 37 7 (Int32.ofNat (1 - tu))) 37 6 0)) {W1 : bw_W} {J1 : bw_J} (h1 : f / 8 % 2 = nx → 0 < s → ∀ e, 3 ≤ e → bm e (S0 n0) R0 74 [.ref 56, .int (Int32.ofNat (f % 4)), .ref 63] W (am_u2 J0 37 8 (Int32.ofNat (1 - nx))) g L (bR none W1 J1 g L)) (h2 : f / 8 % 2 = nx → s = 0 → W1 = W ∧ J1 = am_u2 J0 37 8 (Int32.ofNat (1 - nx))) (h3 : ¬ f / 8 % 2 = nx → W1 = W ∧ J1 = J0) : bm d (S0 n0) R0 73 [.ref 37] W J g L (bR none W1 J1 g L) := by
  obtain ⟨e, rfl⟩ : ∃ e, d = e + 1 := ⟨d - 1, by omega⟩
  refine bm_of (Nat.le_of_ble_eq_true rfl) (Or.inr bR_ret) ?_
  show bT e (S0 n0) R0 mt_De_accept _ 0 [(0, .ref 37)] [] W J g L 0 0
  have hSR := SR0 n0
  have hb : (Int32.ofNat f >>> (Int32.ofNat 2 &&& 31)) &&& Int32.ofNat 1 = Int32.ofNat (f / 4 % 2) := by rw [i_shr (by omega) (by decide), i_and, Nat.and_one_is_mod]
  have hm2 := Nat.mod_lt (f / 4) (show 2 > 0 by decide)
  refine b_aln (pc2 := 1) d_De_accept_0 rfl rfl ?_
  refine b_gr (pc2 := 4) d_De_accept_1 q_3_34 (sh_37 n0) (by decide) (by decide) (p_37_3 n0) rfl ?_
  refine b_ic (pc2 := 5) (x := Int32.ofNat 0) d_De_accept_4 rfl rfl ?_
  refine b_cv1 (pc2 := 8) (c2 := 0) (u2 := 0) (rw_at (k := 0) (by omega) hSR R_63 (by decide)) d_De_accept_5 q_3_83 (Nat.le_of_ble_eq_true rfl) rfl rfl (sh_63 n0) (Nat.le_of_ble_eq_true rfl) rfl rfl (by decide) (by decide) rfl ?_
  rw [hp, hf]
  refine b_isn (pc2 := 9) (al2 := [(1, _), (0, _)]) d_De_accept_8 (by decide) rfl rfl ?_
  refine b_iln (pc2 := 10) d_De_accept_9 rfl rfl ?_
  refine b_ic (pc2 := 11) (x := Int32.ofNat 2) d_De_accept_10 rfl rfl ?_
  refine b_pure (pc2 := 12) d_De_accept_11 rfl rfl rfl ?_
  refine b_ic (pc2 := 13) (x := Int32.ofNat 1) d_De_accept_12 rfl rfl ?_
  refine b_pure (pc2 := 14) d_De_accept_13 rfl rfl rfl ?_
  refine b_aln (pc2 := 15) d_De_accept_14 rfl rfl ?_
  refine b_gi (pc2 := 18) d_De_accept_15 q_3_48 (sh_37 n0) (by decide) (by decide) (rc_37) rfl ?_
  rw [hb, hu]
  refine b_ifd (pc2 := 36) d_De_accept_18 rfl rfl rfl rfl rfl (fun h18 => ?_) (fun h18 => ?_)
  · refine b_nf (al := [(1, _), (0, _)]) (ks := [1, 0]) (sub_c rfl (sub_c rfl (sub_n))) rfl (by decide) ?_
    dsimp only
    rw [i_eq (by omega) (by omega)] at h18
    first | rw [if_pos h18] at hJ | rw [if_neg h18] at hJ
    subst hJ
    exact de_acc36_s (by omega) hp hs hs2 hf2 (by first | exact hx | (rw [u2_k _ _ (by decide), u2_k _ _ (by decide)]; exact hx)) hx2 (fun a b => h1 a b e (by omega)) h2 h3
  · refine b_aln (pc2 := 22) d_De_accept_21 rfl rfl ?_
    refine b_ic (pc2 := 23) (x := Int32.ofNat 1) d_De_accept_22 rfl rfl ?_
    refine b_aln (pc2 := 24) d_De_accept_23 rfl rfl ?_
    refine b_gi (pc2 := 27) d_De_accept_24 q_3_48 (sh_37 n0) (by decide) (by decide) (rc_37) rfl ?_
    rw [hu]
    refine b_pure (pc2 := 28) d_De_accept_27 rfl rfl rfl ?_
    rw [i_sub hu2]
    refine b_pi (pc2 := 31) d_De_accept_28 q_3_48 (sh_37 n0) (by decide) (Or.inl (by decide)) (Or.inl rfl) (rc_37) rfl ?_
    refine b_aln (pc2 := 32) d_De_accept_31 rfl rfl ?_
    refine b_ic (pc2 := 33) (x := Int32.ofNat 0) d_De_accept_32 rfl rfl ?_
    refine b_pi (pc2 := 36) d_De_accept_33 q_3_44 (sh_37 n0) (by decide) (Or.inl (by decide)) (Or.inr ⟨rfl, by decide⟩) (rc_37) rfl ?_
    refine b_nf (al := [(1, _), (0, _)]) (ks := [1, 0]) (sub_c rfl (sub_c rfl (sub_n))) rfl (by decide) ?_
    dsimp only
    rw [i_eq (by omega) (by omega)] at h18
    first | rw [if_pos h18] at hJ | rw [if_neg h18] at hJ
    subst hJ
    exact de_acc36_s (by omega) hp hs hs2 hf2 (by first | exact hx | (rw [u2_k _ _ (by decide), u2_k _ _ (by decide)]; exact hx)) hx2 (fun a b => h1 a b e (by omega)) h2 h3
theorem lp_hear_s {e : Nat} (he : 1 ≤ e) {v : Int64} {Qh : am_O → am_H → Prop} : ∀ (l : List Int32) (i : Nat) (W : bw_W), (W 31).drop i = l → (W 31).length = i + l.length → (W 63).length = i → (W 31).length ≤ 12 → bH e (S0 n0) R0 mt_De_hear Qh 59 [(0, .ref 37)] [] (am_u1 W 63 (W 63 ++ hz v (J 6) i l)) J g L 0 0 → bH e (S0 n0) R0 mt_De_hear Qh 17 [(5, .int (Int32.ofNat i)), (0, .ref 37), (1, .ref 31), (2, .long v), (4, .ref 5)] [] W J g L 0 0 := by
  have hSR := SR0 n0
  intro l
  induction l with
  | nil =>
    intro i W h1 h2 h3 h4 K
    rw [List.length_nil] at h2
    rw [show W 63 ++ hz v (J 6) i [] = W 63 from List.append_nil _, u1_id] at K
    refine b_il (pc2 := 19) d_De_hear_17 rfl rfl ?_
    refine b_aln (pc2 := 20) d_De_hear_19 rfl rfl ?_
    refine b_cv1 (pc2 := 23) (c2 := 0) (u2 := 0) (rw_length he hSR R_31) d_De_hear_20 q_3_67 (Nat.le_of_ble_eq_true rfl) rfl rfl (sh_31 n0) (Nat.le_of_ble_eq_true rfl) rfl rfl (by decide) (by decide) rfl ?_
    refine b_ifd (pc2 := 59) d_De_hear_23 rfl rfl rfl rfl rfl (fun h23 => ?_) (fun h23 => ?_)
    rotate_left
    · exact absurd ((i_le (by omega) (by omega)).mpr (by omega)) h23
    refine b_nf (al := [(0, _)]) (ks := [0]) (sub_c rfl (sub_n)) rfl (by decide) ?_
    dsimp only
    exact K
  | cons x l ih =>
    intro i W h1 h2 h3 h4 K
    rw [List.length_cons] at h2
    obtain ⟨c1, c2, c3⟩ := l_dc h1
    refine b_il (pc2 := 19) d_De_hear_17 rfl rfl ?_
    refine b_aln (pc2 := 20) d_De_hear_19 rfl rfl ?_
    refine b_cv1 (pc2 := 23) (c2 := 0) (u2 := 0) (rw_length he hSR R_31) d_De_hear_20 q_3_67 (Nat.le_of_ble_eq_true rfl) rfl rfl (sh_31 n0) (Nat.le_of_ble_eq_true rfl) rfl rfl (by decide) (by decide) rfl ?_
    refine b_ifd (pc2 := 59) d_De_hear_23 rfl rfl rfl rfl rfl (fun h23 => ?_) (fun h23 => ?_)
    · exact absurd h23 (fun z => by rw [i_le (by omega) (by omega)] at z; omega)
    refine b_aln (pc2 := 27) d_De_hear_26 rfl rfl ?_
    refine b_gr (pc2 := 30) d_De_hear_27 q_3_34 (sh_37 n0) (by decide) (by decide) (p_37_3 n0) rfl ?_
    refine b_al (pc2 := 32) d_De_hear_30 rfl rfl ?_
    refine b_il (pc2 := 34) d_De_hear_32 rfl rfl ?_
    refine b_aln (pc2 := 35) d_De_hear_34 rfl rfl ?_
    refine b_il (pc2 := 37) d_De_hear_35 rfl rfl ?_
    refine b_cv1 (pc2 := 40) (c2 := 0) (u2 := 0) (rw_at he hSR R_31 (by omega)) d_De_hear_37 q_3_83 (Nat.le_of_ble_eq_true rfl) rfl rfl (sh_31 n0) (Nat.le_of_ble_eq_true rfl) rfl rfl (by decide) (by decide) rfl ?_
    rw [c1]
    refine b_lln (pc2 := 41) d_De_hear_40 rfl rfl ?_
    refine b_il (pc2 := 43) d_De_hear_41 rfl rfl ?_
    refine b_cs1 (pc2 := 46) (c2 := 0) (u2 := 0) (de_spoilAt (by omega) (show i < 12 by omega)) d_De_hear_43 q_3_96 (Or.inl rfl) (Nat.le_of_ble_eq_true rfl) rfl rfl (Nat.le_of_ble_eq_true rfl) rfl rfl (by decide) (by decide) rfl ?_
    refine b_pure (pc2 := 47) d_De_hear_46 rfl rfl rfl ?_
    refine b_cv1 (pc2 := 50) (c2 := 0) (u2 := 0) (wh_turn (by omega) (show i < 12 by omega)) d_De_hear_47 q_3_87 (Nat.le_of_ble_eq_true rfl) rfl rfl (sh_5 n0) (Nat.le_of_ble_eq_true rfl) rfl rfl (by decide) (by decide) rfl ?_
    refine b_cv0 (pc2 := 53) (c2 := 0) (u2 := 0) (rw_add he hSR R_63 (by omega)) d_De_hear_50 q_3_64 (Nat.le_of_ble_eq_true rfl) rfl rfl (sh_63 n0) (Nat.le_of_ble_eq_true rfl) rfl rfl (by decide) (by decide) rfl ?_
    refine b_inc (pc2 := 56) (al2 := [(5, _), (0, _), (1, _), (2, _), (4, _)]) (y := Int32.ofNat 1) d_De_hear_53 (by decide) rfl rfl rfl rfl ?_
    refine b_go (pc2 := 17) d_De_hear_56 rfl ?_
    refine b_nf (al := [(5, _), (0, _), (1, _), (2, _), (4, _)]) (ks := [5, 0, 1, 2, 4]) (sub_c rfl (sub_c rfl (sub_c rfl (sub_c rfl (sub_c rfl (sub_n)))))) rfl (by decide) ?_
    dsimp only
    rw [i_add]
    refine ih (i + 1) (am_u1 W 63 (W 63 ++ [((x ^^^ sp8 v i) ^^^ J 6 i) &&& 255])) (by rw [u1_ne _ _ (by decide)]; exact c2) (by rw [u1_ne _ _ (by decide)]; omega) (by rw [u1_at, List.length_append, List.length_singleton]; omega) (by rw [u1_ne _ _ (by decide)]; exact h4) ?_
    rw [u1_at, u1_u1, List.append_assoc]
    exact K
theorem de_hear0_s {d : Nat} (hd : 5 ≤ d) {v : Int64} {p : List Int32} (hp : p = hz v (J 6) 0 (W 31)) (h5 : 5 ≤ (W 31).length) {s : Nat} (hs : p.getD 1 0 = Int32.ofNat s) (hs2 : s < 256) (hg : de_ok p s = false) : bm d (S0 n0) R0 69 [.ref 37, .ref 31, .long v, .ref 5] W J g L (bR (some (.int 0)) (am_u1 W 63 p) (am_u2 J 56 3 0) g L) := by
  obtain ⟨e, rfl⟩ : ∃ e, d = e + 1 := ⟨d - 1, by omega⟩
  refine bm_of (Nat.le_of_ble_eq_true rfl) (Or.inr bR_ret) ?_
  show bT e (S0 n0) R0 mt_De_hear _ 0 [(0, .ref 37), (1, .ref 31), (2, .long v), (4, .ref 5)] [] W J g L 0 0
  have hSR := SR0 n0
  refine b_free fun hlen => ?_
  have hl := hlen 31 12 R_31
  refine b_aln (pc2 := 1) d_De_hear_0 rfl rfl ?_
  refine b_gr (pc2 := 4) d_De_hear_1 q_3_21 (sh_37 n0) (by decide) (by decide) (p_37_1 n0) rfl ?_
  refine b_cv0 (pc2 := 7) (c2 := 0) (u2 := 0) (in_forget_s (by omega)) d_De_hear_4 q_3_93 (Nat.le_of_ble_eq_true rfl) rfl rfl (sh_56 n0) (Nat.le_of_ble_eq_true rfl) rfl rfl (by decide) (by decide) rfl ?_
  refine b_aln (pc2 := 8) d_De_hear_7 rfl rfl ?_
  refine b_gr (pc2 := 11) d_De_hear_8 q_3_34 (sh_37 n0) (by decide) (by decide) (p_37_3 n0) rfl ?_
  refine b_cv0 (pc2 := 14) (c2 := 0) (u2 := 0) (rw_clear (by omega) hSR R_63) d_De_hear_11 q_3_61 (Nat.le_of_ble_eq_true rfl) rfl rfl (sh_63 n0) (Nat.le_of_ble_eq_true rfl) rfl rfl (by decide) (by decide) rfl ?_
  refine b_ic (pc2 := 15) (x := Int32.ofNat 0) d_De_hear_14 rfl rfl ?_
  refine b_is (pc2 := 17) (al2 := [(5, _), (0, _), (1, _), (2, _), (4, _)]) d_De_hear_15 (by decide) rfl rfl ?_
  refine b_nf (al := [(5, _), (0, _), (1, _), (2, _), (4, _)]) (ks := [5, 0, 1, 2, 4]) (sub_c rfl (sub_c rfl (sub_c rfl (sub_c rfl (sub_c rfl (sub_n)))))) rfl (by decide) ?_
  dsimp only
  refine lp_hear_s (by omega) (W 31) 0 (am_u1 W 63 []) (by rw [u1_ne _ _ (by decide)]; rfl) (by rw [u1_ne _ _ (by decide)]; omega) (by rw [u1_at]; rfl) (by rw [u1_ne _ _ (by decide)]; exact hl) ?_
  rw [u1_at, u1_u1, List.nil_append, u2_a _ _ (by decide), ← hp]
  refine b_aln (pc2 := 60) d_De_hear_59 rfl rfl ?_
  refine b_cv1 (pc2 := 63) (c2 := 0) (u2 := 0) (de_isGood_s (by omega) (u1_at _ _ _) (by rw [hp, hz_len]; exact h5) hs hs2) d_De_hear_60 q_3_100 (Nat.le_of_ble_eq_true rfl) rfl rfl (sh_37 n0) (Nat.le_of_ble_eq_true rfl) rfl rfl (by decide) (by decide) rfl ?_
  rw [if_neg (by rw [hg]; decide)]
  refine b_ifd (pc2 := 68) d_De_hear_63 rfl rfl rfl rfl rfl (fun h63 => ?_) (fun h63 => ?_)
  · exact absurd h63 (fun z => z rfl)
  refine b_ic (pc2 := 67) (x := Int32.ofNat 0) d_De_hear_66 rfl rfl ?_
  refine b_br d_De_hear_67 rfl (by decide) ?_
  exact ⟨rfl, rfl, rfl, rfl, rfl⟩
theorem de_hear1_s {d : Nat} (hd : 5 ≤ d) {v : Int64} {p : List Int32} (hp : p = hz v (J 6) 0 (W 31)) (h5 : 5 ≤ (W 31).length) {s : Nat} (hs : p.getD 1 0 = Int32.ofNat s) (hs2 : s < 256) (hg : de_ok p s = true) {W1 : bw_W} {J1 : bw_J} (hA : ∀ e, 4 ≤ e → bm e (S0 n0) R0 73 [.ref 37] (am_u1 W 63 p) (am_u2 J 56 3 0) g L (bR none W1 J1 g L)) : bm d (S0 n0) R0 69 [.ref 37, .ref 31, .long v, .ref 5] W J g L (bR (some (.int 1)) W1 J1 g L) := by
  obtain ⟨e, rfl⟩ : ∃ e, d = e + 1 := ⟨d - 1, by omega⟩
  refine bm_of (Nat.le_of_ble_eq_true rfl) (Or.inr bR_ret) ?_
  show bT e (S0 n0) R0 mt_De_hear _ 0 [(0, .ref 37), (1, .ref 31), (2, .long v), (4, .ref 5)] [] W J g L 0 0
  have hSR := SR0 n0
  refine b_free fun hlen => ?_
  have hl := hlen 31 12 R_31
  refine b_aln (pc2 := 1) d_De_hear_0 rfl rfl ?_
  refine b_gr (pc2 := 4) d_De_hear_1 q_3_21 (sh_37 n0) (by decide) (by decide) (p_37_1 n0) rfl ?_
  refine b_cv0 (pc2 := 7) (c2 := 0) (u2 := 0) (in_forget_s (by omega)) d_De_hear_4 q_3_93 (Nat.le_of_ble_eq_true rfl) rfl rfl (sh_56 n0) (Nat.le_of_ble_eq_true rfl) rfl rfl (by decide) (by decide) rfl ?_
  refine b_aln (pc2 := 8) d_De_hear_7 rfl rfl ?_
  refine b_gr (pc2 := 11) d_De_hear_8 q_3_34 (sh_37 n0) (by decide) (by decide) (p_37_3 n0) rfl ?_
  refine b_cv0 (pc2 := 14) (c2 := 0) (u2 := 0) (rw_clear (by omega) hSR R_63) d_De_hear_11 q_3_61 (Nat.le_of_ble_eq_true rfl) rfl rfl (sh_63 n0) (Nat.le_of_ble_eq_true rfl) rfl rfl (by decide) (by decide) rfl ?_
  refine b_ic (pc2 := 15) (x := Int32.ofNat 0) d_De_hear_14 rfl rfl ?_
  refine b_is (pc2 := 17) (al2 := [(5, _), (0, _), (1, _), (2, _), (4, _)]) d_De_hear_15 (by decide) rfl rfl ?_
  refine b_nf (al := [(5, _), (0, _), (1, _), (2, _), (4, _)]) (ks := [5, 0, 1, 2, 4]) (sub_c rfl (sub_c rfl (sub_c rfl (sub_c rfl (sub_c rfl (sub_n)))))) rfl (by decide) ?_
  dsimp only
  refine lp_hear_s (by omega) (W 31) 0 (am_u1 W 63 []) (by rw [u1_ne _ _ (by decide)]; rfl) (by rw [u1_ne _ _ (by decide)]; omega) (by rw [u1_at]; rfl) (by rw [u1_ne _ _ (by decide)]; exact hl) ?_
  rw [u1_at, u1_u1, List.nil_append, u2_a _ _ (by decide), ← hp]
  refine b_aln (pc2 := 60) d_De_hear_59 rfl rfl ?_
  refine b_cv1 (pc2 := 63) (c2 := 0) (u2 := 0) (de_isGood_s (by omega) (u1_at _ _ _) (by rw [hp, hz_len]; exact h5) hs hs2) d_De_hear_60 q_3_100 (Nat.le_of_ble_eq_true rfl) rfl rfl (sh_37 n0) (Nat.le_of_ble_eq_true rfl) rfl rfl (by decide) (by decide) rfl ?_
  rw [if_pos hg]
  refine b_ifd (pc2 := 68) d_De_hear_63 rfl rfl rfl rfl rfl (fun h63 => ?_) (fun h63 => ?_)
  rotate_left
  · exact absurd (show ¬ (1 : Int32) = 0 by decide) h63
  refine b_aln (pc2 := 69) d_De_hear_68 rfl rfl ?_
  refine b_cv0 (pc2 := 72) (c2 := 0) (u2 := 0) (hA e (by omega)) d_De_hear_69 q_3_104 (Nat.le_of_ble_eq_true rfl) rfl rfl (sh_37 n0) (Nat.le_of_ble_eq_true rfl) rfl rfl (by decide) (by decide) rfl ?_
  refine b_ic (pc2 := 73) (x := Int32.ofNat 1) d_De_hear_72 rfl rfl ?_
  refine b_br d_De_hear_73 rfl (by decide) ?_
  exact ⟨rfl, rfl, rfl, rfl, rfl⟩
end HE
