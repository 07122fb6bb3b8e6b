/-! Part 83 (written by gen33.py): the reference: whiten, refuse -/
def xz (f : Nat → Int32) (c n : Nat) : Nat → Int32 := fun q => if q < n then f q ^^^ Int32.ofNat (wMask c q) else f q
theorem xz_step (f : Nat → Int32) (c k : Nat) : am_u1 (xz f c k) k (xz f c k k ^^^ Int32.ofNat (wMask c k)) = xz f c (k + 1) := by
  funext q
  unfold am_u1 xz
  by_cases h : q = k
  · rw [if_pos h, if_neg (Nat.lt_irrefl k), if_pos (by omega), h]
  · rw [if_neg h]
    by_cases h2 : q < k
    · rw [if_pos h2, if_pos (by omega)]
    · rw [if_neg h2, if_neg (by omega)]
theorem xz_0 (f : Nat → Int32) (c : Nat) : xz f c 0 = f := funext fun q => if_neg (by omega)
theorem x_bit {m i : Nat} (hi : i < 8) (hm : m < 2 ^ i) (x : Int32) : (x ^^^ Int32.ofNat m) ^^^ (Int32.ofNat 1 <<< (Int32.ofNat i &&& 31)) = x ^^^ Int32.ofNat (m + 2 ^ i) := by
  have h : ∀ i : Fin 8, ∀ m : Fin 128, m.val < 2 ^ i.val → m.val ^^^ 2 ^ i.val = m.val + 2 ^ i.val := by decide +kernel
  have hp : 2 ^ i ≤ 2 ^ 7 := Nat.pow_le_pow_right (by decide) (by omega)
  rw [i_shl 1 (by omega), Int32.xor_assoc, i_xor, Nat.one_mul, h ⟨i, hi⟩ ⟨m, Nat.lt_of_lt_of_le hm hp⟩ hm]
section MW
variable {n0 : Nat} {W : bw_W} {J : bw_J} {g : Nat} {L : bw_L}
variable {Qh : am_O → am_H → Prop}
theorem lp_mw1 {e : Nat} {k : Nat} {p : Nat → Int32} (hk16 : k < 16) : ∀ (n r m : Nat), n ≤ 8 → r < 128 → m < 2 ^ (8 - n) → (∀ r2 m2, (r2, m2) = w8 n (r, m) → bH e (S0 n0) R0 mt_Mo_whiten Qh 79 [(2, .int (Int32.ofNat k)), (1, .int (Int32.ofNat r2)), (0, .ref 130)] [] W (am_u1 J 132 (am_u1 p k (p k ^^^ Int32.ofNat m2))) g L 0 0) → bH e (S0 n0) R0 mt_Mo_whiten Qh 20 [(3, .int (Int32.ofNat (8 - n))), (1, .int (Int32.ofNat r)), (2, .int (Int32.ofNat k)), (0, .ref 130)] [] W (am_u1 J 132 (am_u1 p k (p k ^^^ Int32.ofNat m))) g L 0 0 := by
  have hSR := SR0 n0
  intro n
  induction n with
  | zero =>
    intro r m hn hr hm K
    refine b_iln (pc2 := 21) d_Mo_whiten_20 rfl rfl ?_
    refine b_bp (pc2 := 23) (x := Int32.ofNat 8) d_Mo_whiten_21 rfl rfl ?_
    refine b_ifd (pc2 := 79) d_Mo_whiten_23 rfl rfl rfl rfl rfl (fun h23 => ?_) (fun h23 => ?_)
    rotate_left
    · exact absurd ((i_le (by decide) (by decide)).mpr (by decide)) h23
    refine b_nf (al := [(2, _), (1, _), (0, _)]) (ks := [2, 1, 0]) (sub_c rfl (sub_c rfl (sub_c rfl (sub_n)))) rfl (by decide) ?_
    dsimp only
    exact K r m rfl
  | succ n ih =>
    intro r m hn hr hm K
    have hb : 8 - (n + 1) = 7 - n := by omega
    rw [hb] at hm ⊢
    have hp : 2 ^ (8 - n) = 2 * 2 ^ (7 - n) := by rw [show 8 - n = (7 - n) + 1 by omega, Nat.pow_succ, Nat.mul_comm]
    refine b_iln (pc2 := 21) d_Mo_whiten_20 rfl rfl ?_
    refine b_bp (pc2 := 23) (x := Int32.ofNat 8) d_Mo_whiten_21 rfl rfl ?_
    refine b_ifd (pc2 := 79) d_Mo_whiten_23 rfl rfl rfl rfl rfl (fun h23 => ?_) (fun h23 => ?_)
    · exact absurd h23 (fun z => by rw [i_le (by decide) (by omega)] at z; omega)
    refine b_iln (pc2 := 27) d_Mo_whiten_26 rfl rfl ?_
    refine b_bp (pc2 := 29) (x := Int32.ofNat 64) d_Mo_whiten_27 rfl rfl ?_
    refine b_ifd (pc2 := 36) d_Mo_whiten_29 rfl rfl rfl rfl rfl (fun h29 => ?_) (fun h29 => ?_)
    · rw [i_lt (by omega) (by decide)] at h29
      refine b_ic (pc2 := 37) (x := Int32.ofNat 0) d_Mo_whiten_36 rfl rfl ?_
      refine b_is (pc2 := 39) (al2 := [(4, _), (3, _), (1, _), (2, _), (0, _)]) d_Mo_whiten_37 (by decide) rfl rfl ?_
      refine b_iln (pc2 := 40) d_Mo_whiten_39 rfl rfl ?_
      refine b_ic (pc2 := 41) (x := Int32.ofNat 2) d_Mo_whiten_40 rfl rfl ?_
      refine b_pure (pc2 := 42) d_Mo_whiten_41 rfl rfl rfl ?_
      refine b_sp (pc2 := 45) (x := Int32.ofNat 128) d_Mo_whiten_42 rfl rfl ?_
      refine b_rem (pc2 := 46) d_Mo_whiten_45 (by decide) rfl ?_
      rw [i_mul, i_rem (by omega) (by decide) (by decide)]
      refine b_isn (pc2 := 47) (al2 := [(1, _), (4, _), (3, _), (2, _), (0, _)]) d_Mo_whiten_46 (by decide) rfl rfl ?_
      refine b_il (pc2 := 49) d_Mo_whiten_47 rfl rfl ?_
      refine b_ifd (pc2 := 73) d_Mo_whiten_49 rfl rfl rfl rfl rfl (fun h49 => ?_) (fun h49 => ?_)
      rotate_left
      · exact absurd (by decide) h49
      refine b_inc (pc2 := 76) (al2 := [(3, _), (1, _), (4, _), (2, _), (0, _)]) (y := Int32.ofNat 1) d_Mo_whiten_73 (by decide) rfl rfl rfl rfl ?_
      refine b_go (pc2 := 20) d_Mo_whiten_76 rfl ?_
      refine b_nf (al := [(3, _), (1, _), (2, _), (0, _)]) (ks := [3, 1, 2, 0]) (sub_c rfl (sub_c rfl (sub_c rfl (sub_c rfl (sub_n))))) rfl (by decide) ?_
      dsimp only
      rw [i_add, show 7 - n + 1 = 8 - n by omega]
      first | (have e1 : w1 r = r * 2 % 128 := (by unfold w1; rw [if_neg (by omega)]); rw [← e1]; refine ih _ _ (by omega) (w1_lt _) (by omega) (fun r2 m2 h2 => K r2 m2 ?_); rw [h2]; show _ = w8 n (w1 r, if 64 ≤ r then m + 2 ^ (7 - n) else m); rw [if_neg (by omega)]; done) | (have e1 : w1 r = (r * 2 % 128) ^^^ 17 := (by unfold w1; rw [if_pos (by omega)]); rw [← e1]; refine ih _ _ (by omega) (w1_lt _) (by omega) (fun r2 m2 h2 => K r2 m2 ?_); rw [h2]; show _ = w8 n (w1 r, if 64 ≤ r then m + 2 ^ (7 - n) else m); rw [if_pos (by omega)])
    · rw [i_lt (by omega) (by decide)] at h29
      refine b_ic (pc2 := 33) (x := Int32.ofNat 1) d_Mo_whiten_32 rfl rfl ?_
      refine b_go (pc2 := 37) d_Mo_whiten_33 rfl ?_
      refine b_is (pc2 := 39) (al2 := [(4, _), (3, _), (1, _), (2, _), (0, _)]) d_Mo_whiten_37 (by decide) rfl rfl ?_
      refine b_iln (pc2 := 40) d_Mo_whiten_39 rfl rfl ?_
      refine b_ic (pc2 := 41) (x := Int32.ofNat 2) d_Mo_whiten_40 rfl rfl ?_
      refine b_pure (pc2 := 42) d_Mo_whiten_41 rfl rfl rfl ?_
      refine b_sp (pc2 := 45) (x := Int32.ofNat 128) d_Mo_whiten_42 rfl rfl ?_
      refine b_rem (pc2 := 46) d_Mo_whiten_45 (by decide) rfl ?_
      rw [i_mul, i_rem (by omega) (by decide) (by decide)]
      refine b_isn (pc2 := 47) (al2 := [(1, _), (4, _), (3, _), (2, _), (0, _)]) d_Mo_whiten_46 (by decide) rfl rfl ?_
      refine b_il (pc2 := 49) d_Mo_whiten_47 rfl rfl ?_
      refine b_ifd (pc2 := 73) d_Mo_whiten_49 rfl rfl rfl rfl rfl (fun h49 => ?_) (fun h49 => ?_)
      · exact absurd h49 (by decide)
      refine b_aln (pc2 := 53) d_Mo_whiten_52 rfl rfl ?_
      refine b_gr (pc2 := 56) d_Mo_whiten_53 q_11_17 (sh_130 n0) (by decide) (by decide) (p_130_9 n0) rfl ?_
      refine b_iln (pc2 := 57) d_Mo_whiten_56 rfl rfl ?_
      refine b_aln (pc2 := 58) d_Mo_whiten_57 rfl rfl ?_
      refine b_gr (pc2 := 61) d_Mo_whiten_58 q_11_17 (sh_130 n0) (by decide) (by decide) (p_130_9 n0) rfl ?_
      refine b_iln (pc2 := 62) d_Mo_whiten_61 rfl rfl ?_
      refine b_ia (pc2 := 63) (q := k) d_Mo_whiten_62 (sh_132 n0) (i_in hk16 (by decide)) (i_tn (by omega)) (rc_132) rfl ?_
      rw [u1_at, u1_at]
      refine b_ic (pc2 := 64) (x := Int32.ofNat 1) d_Mo_whiten_63 rfl rfl ?_
      refine b_iln (pc2 := 65) d_Mo_whiten_64 rfl rfl ?_
      refine b_pure (pc2 := 66) d_Mo_whiten_65 rfl rfl rfl ?_
      refine b_pure (pc2 := 67) d_Mo_whiten_66 rfl rfl rfl ?_
      rw [x_bit (by omega) hm]
      refine b_ist (pc2 := 68) (q := k) d_Mo_whiten_67 (sh_132 n0) (i_in hk16 (by decide)) (i_tn (by omega)) (rc_132) rfl ?_
      rw [u21, u1_u1]
      refine b_iln (pc2 := 69) d_Mo_whiten_68 rfl rfl ?_
      refine b_bp (pc2 := 71) (x := Int32.ofNat 17) d_Mo_whiten_69 rfl rfl ?_
      refine b_pure (pc2 := 72) d_Mo_whiten_71 rfl rfl rfl ?_
      rw [i_xor]
      refine b_isn (pc2 := 73) (al2 := [(1, _), (4, _), (3, _), (2, _), (0, _)]) d_Mo_whiten_72 (by decide) rfl rfl ?_
      refine b_inc (pc2 := 76) (al2 := [(3, _), (1, _), (4, _), (2, _), (0, _)]) (y := Int32.ofNat 1) d_Mo_whiten_73 (by decide) rfl rfl rfl rfl ?_
      refine b_go (pc2 := 20) d_Mo_whiten_76 rfl ?_
      refine b_nf (al := [(3, _), (1, _), (2, _), (0, _)]) (ks := [3, 1, 2, 0]) (sub_c rfl (sub_c rfl (sub_c rfl (sub_c rfl (sub_n))))) rfl (by decide) ?_
      dsimp only
      rw [i_add, show 7 - n + 1 = 8 - n by omega]
      first | (have e1 : w1 r = r * 2 % 128 := (by unfold w1; rw [if_neg (by omega)]); rw [← e1]; refine ih _ _ (by omega) (w1_lt _) (by omega) (fun r2 m2 h2 => K r2 m2 ?_); rw [h2]; show _ = w8 n (w1 r, if 64 ≤ r then m + 2 ^ (7 - n) else m); rw [if_neg (by omega)]; done) | (have e1 : w1 r = (r * 2 % 128) ^^^ 17 := (by unfold w1; rw [if_pos (by omega)]); rw [← e1]; refine ih _ _ (by omega) (w1_lt _) (by omega) (fun r2 m2 h2 => K r2 m2 ?_); rw [h2]; show _ = w8 n (w1 r, if 64 ≤ r then m + 2 ^ (7 - n) else m); rw [if_pos (by omega)])
theorem lp_mw2 {e : Nat} {c n : Nat} (hc : c < 128) (hl : J 130 8 = Int32.ofNat n) (hn : n ≤ 16) : ∀ (m k : Nat), k + m = n → bT e (S0 n0) R0 mt_Mo_whiten (bR none W (am_u1 J 132 (xz (J 132) c n)) g L) 10 [(2, .int (Int32.ofNat k)), (1, .int (Int32.ofNat (wReg c k))), (0, .ref 130)] [] W (am_u1 J 132 (xz (J 132) c k)) g L 0 0 := by
  have hSR := SR0 n0
  intro m
  induction m with
  | zero =>
    intro k hk
    refine b_iln (pc2 := 11) d_Mo_whiten_10 rfl rfl ?_
    refine b_aln (pc2 := 12) d_Mo_whiten_11 rfl rfl ?_
    refine b_gi (pc2 := 15) d_Mo_whiten_12 q_11_156 (sh_130 n0) (by decide) (by decide) (rc_130) rfl ?_
    rw [u1_ne _ _ (by decide), hl]
    refine b_ifd (pc2 := 85) d_Mo_whiten_15 rfl rfl rfl rfl rfl (fun h15 => ?_) (fun h15 => ?_)
    rotate_left
    · exact absurd ((i_le (by omega) (by omega)).mpr (by omega)) h15
    refine b_vr d_Mo_whiten_85 rfl ?_
    exact ⟨rfl, rfl, by rw [show k = n by omega], rfl, rfl⟩
  | succ m ih =>
    intro k hk
    refine b_iln (pc2 := 11) d_Mo_whiten_10 rfl rfl ?_
    refine b_aln (pc2 := 12) d_Mo_whiten_11 rfl rfl ?_
    refine b_gi (pc2 := 15) d_Mo_whiten_12 q_11_156 (sh_130 n0) (by decide) (by decide) (rc_130) rfl ?_
    rw [u1_ne _ _ (by decide), hl]
    refine b_ifd (pc2 := 85) d_Mo_whiten_15 rfl rfl rfl rfl rfl (fun h15 => ?_) (fun h15 => ?_)
    · exact absurd h15 (fun z => by rw [i_le (by omega) (by omega)] at z; omega)
    refine b_ic (pc2 := 19) (x := Int32.ofNat 0) d_Mo_whiten_18 rfl rfl ?_
    refine b_isn (pc2 := 20) (al2 := [(3, _), (2, _), (1, _), (0, _)]) d_Mo_whiten_19 (by decide) rfl rfl ?_
    refine b_nf (al := [(3, _), (1, _), (2, _), (0, _)]) (ks := [3, 1, 2, 0]) (sub_c rfl (sub_c rfl (sub_c rfl (sub_c rfl (sub_n))))) rfl (by decide) ?_
    dsimp only
    have h0 : am_u1 (xz (J 132) c k) k (xz (J 132) c k k ^^^ Int32.ofNat 0) = xz (J 132) c k := by
      rw [show xz (J 132) c k k ^^^ Int32.ofNat 0 = xz (J 132) c k k from Int32.xor_zero, u1_id]
    refine (fun z => ?_ : _ → _) (lp_mw1 (n0 := n0) (W := W) (J := J) (g := g) (L := L) (e := e) (k := k) (p := xz (J 132) c k) (Qh := bw_Q (S0 n0) R0 (bR none W (am_u1 J 132 (xz (J 132) c n)) g L)) (by omega) 8 (wReg c k) 0 (by decide) (wReg_lt hc k) (by decide) (fun r2 m2 h2 => ?_))
    · rw [h0] at z
      exact z
    · refine b_inc (pc2 := 82) (al2 := [(2, _), (1, _), (0, _)]) (y := Int32.ofNat 1) d_Mo_whiten_79 (by decide) rfl rfl rfl rfl ?_
      refine b_go (pc2 := 10) d_Mo_whiten_82 rfl ?_
      have e1 : r2 = wReg c (k + 1) := congrArg Prod.fst h2
      have e2 : m2 = wMask c k := congrArg Prod.snd h2
      rw [i_add, e1, e2, xz_step]
      exact ih (k + 1) (by omega)
theorem mo_whiten {d : Nat} (hd : 1 ≤ d) {c n : Nat} (hc : J 130 5 = Int32.ofNat c) (hc2 : c < 64) (hl : J 130 8 = Int32.ofNat n) (hn : n ≤ 16) : bm d (S0 n0) R0 150 [.ref 130] W J g L (bR none W (am_u1 J 132 (xz (J 132) (64 + c) n)) g L) := by
  obtain ⟨e, rfl⟩ : ∃ e, d = e + 1 := ⟨d - 1, by omega⟩
  refine bm_of (Nat.le_of_ble_eq_true rfl) (Or.inr bR_ret) ?_
  show bT e (S0 n0) R0 mt_Mo_whiten _ 0 [(0, .ref 130)] [] W J g L 0 0
  have hSR := SR0 n0
  refine b_bp (pc2 := 2) (x := Int32.ofNat 64) d_Mo_whiten_0 rfl rfl ?_
  refine b_aln (pc2 := 3) d_Mo_whiten_2 rfl rfl ?_
  refine b_gi (pc2 := 6) d_Mo_whiten_3 q_11_13 (sh_130 n0) (by decide) (by decide) (rc_130) rfl ?_
  rw [hc]
  refine b_pure (pc2 := 7) d_Mo_whiten_6 rfl rfl rfl ?_
  rw [i_add]
  refine b_isn (pc2 := 8) (al2 := [(1, _), (0, _)]) d_Mo_whiten_7 (by decide) rfl rfl ?_
  refine b_ic (pc2 := 9) (x := Int32.ofNat 0) d_Mo_whiten_8 rfl rfl ?_
  refine b_isn (pc2 := 10) (al2 := [(2, _), (1, _), (0, _)]) d_Mo_whiten_9 (by decide) rfl rfl ?_
  refine b_nf (al := [(2, _), (1, _), (0, _)]) (ks := [2, 1, 0]) (sub_c rfl (sub_c rfl (sub_c rfl (sub_n)))) rfl (by decide) ?_
  dsimp only
  refine (fun z => ?_ : _ → _) (lp_mw2 (n0 := n0) (W := W) (J := J) (g := g) (L := L) (e := e) (c := 64 + c) (n := n) (by omega) hl hn n 0 (by omega))
  rw [xz_0, u1_id] at z
  exact z
theorem mo_refuse {d : Nat} (hd : 2 ≤ d) {h y : Int32} {J1 : bw_J} (hG : ∀ e, 1 ≤ e → bm e (S0 n0) R0 135 [.ref 130, .int (Int32.ofNat 1)] W (mkJ J [Int32.ofNat 1, J 150 0 &&& 255, h &&& 255, y &&& 255]) g L (bR none W J1 g L)) : bm d (S0 n0) R0 161 [.ref 130, .int h, .int y] W J g L (bR none W J1 g L) := by
  obtain ⟨e, rfl⟩ : ∃ e, d = e + 1 := ⟨d - 1, by omega⟩
  refine bm_of (Nat.le_of_ble_eq_true rfl) (Or.inr bR_ret) ?_
  show bT e (S0 n0) R0 mt_Mo_refuse _ 0 [(0, .ref 130), (1, .int h), (2, .int y)] [] W J g L 0 0
  have hSR := SR0 n0
  refine b_aln (pc2 := 1) d_Mo_refuse_0 rfl rfl ?_
  refine b_gr (pc2 := 4) d_Mo_refuse_1 q_11_72 (sh_130 n0) (by decide) (by decide) (p_130_28 n0) rfl ?_
  refine b_ic (pc2 := 5) (x := Int32.ofNat 0) d_Mo_refuse_4 rfl rfl ?_
  refine b_ia (pc2 := 6) (q := 0) d_Mo_refuse_5 (sh_150 n0) (i_in (i := 0) (by decide) (by decide)) (rfl) (rc_150) rfl ?_
  refine b_isn (pc2 := 7) (al2 := [(3, _), (0, _), (1, _), (2, _)]) d_Mo_refuse_6 (by decide) rfl rfl ?_
  refine b_aln (pc2 := 8) d_Mo_refuse_7 rfl rfl ?_
  refine b_ic (pc2 := 9) (x := Int32.ofNat 1) d_Mo_refuse_8 rfl rfl ?_
  refine b_cv0 (pc2 := 12) (c2 := 0) (u2 := 0) (mo_start (by omega)) d_Mo_refuse_9 q_11_183 (Nat.le_of_ble_eq_true rfl) rfl rfl (sh_130 n0) (Nat.le_of_ble_eq_true rfl) rfl rfl (by decide) (by decide) rfl ?_
  rw [show Int32.ofNat 1 &&& 255 = Int32.ofNat 1 from rfl]
  refine b_aln (pc2 := 13) d_Mo_refuse_12 rfl rfl ?_
  refine b_iln (pc2 := 14) d_Mo_refuse_13 rfl rfl ?_
  refine b_cv0 (pc2 := 17) (c2 := 0) (u2 := 0) (mo_lay (by omega) (by show 1 < 40; decide)) d_Mo_refuse_14 q_11_186 (Nat.le_of_ble_eq_true rfl) rfl rfl (sh_130 n0) (Nat.le_of_ble_eq_true rfl) rfl rfl (by decide) (by decide) rfl ?_
  refine b_aln (pc2 := 18) d_Mo_refuse_17 rfl rfl ?_
  refine b_iln (pc2 := 19) d_Mo_refuse_18 rfl rfl ?_
  refine b_cv0 (pc2 := 22) (c2 := 0) (u2 := 0) (mo_lay (by omega) (by show 2 < 40; decide)) d_Mo_refuse_19 q_11_186 (Nat.le_of_ble_eq_true rfl) rfl rfl (sh_130 n0) (Nat.le_of_ble_eq_true rfl) rfl rfl (by decide) (by decide) rfl ?_
  refine b_aln (pc2 := 23) d_Mo_refuse_22 rfl rfl ?_
  refine b_iln (pc2 := 24) d_Mo_refuse_23 rfl rfl ?_
  refine b_cv0 (pc2 := 27) (c2 := 0) (u2 := 0) (mo_lay (by omega) (by show 3 < 40; decide)) d_Mo_refuse_24 q_11_186 (Nat.le_of_ble_eq_true rfl) rfl rfl (sh_130 n0) (Nat.le_of_ble_eq_true rfl) rfl rfl (by decide) (by decide) rfl ?_
  refine b_aln (pc2 := 28) d_Mo_refuse_27 rfl rfl ?_
  refine b_ic (pc2 := 29) (x := Int32.ofNat 1) d_Mo_refuse_28 rfl rfl ?_
  refine b_cv0 (pc2 := 32) (c2 := 0) (u2 := 0) (hG e (by omega)) d_Mo_refuse_29 q_11_149 (Nat.le_of_ble_eq_true rfl) rfl rfl (sh_130 n0) (Nat.le_of_ble_eq_true rfl) rfl rfl (by decide) (by decide) rfl ?_
  refine b_vr d_Mo_refuse_32 rfl ?_
  exact ⟨rfl, rfl, rfl, rfl, rfl⟩
end MW
