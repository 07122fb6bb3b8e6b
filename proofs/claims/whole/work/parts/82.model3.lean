/-! Part 82 (written by gen32.py): the reference: ask, check -/
def akJ (J : bw_J) (l : List Int32) : bw_J := am_u1 (am_u2 (am_u2 J 130 49 0) 130 50 (Int32.ofNat l.length)) 161 (ovw 0 l (J 161))
/-- m cells from k on -/
def lst (f : Nat → Int32) : Nat → Nat → List Int32
  | _, 0 => []
  | k, m + 1 => f k :: lst f (k + 1) m
theorem cr_hm {r : Nat} (hr : r < 16777216) : Int32.ofNat r * Int32.ofNat 2 - Int32.ofNat r * Int32.ofNat 2 / 16777216 * 16777216 = Int32.ofNat (r * 2 % 16777216) := by
  rw [i_mul, show (16777216 : Int32) = Int32.ofNat 16777216 from rfl, i_rem (by omega) (by decide) (by decide)]
theorem cr_eq {r : Nat} {b : Bool} (h : decide (8388608 ≤ r) = b) : r * 2 % 16777216 = cr1 r b := by
  unfold cr1
  rw [if_pos h]
theorem cr_ne {r : Nat} {b : Bool} (h : ¬ decide (8388608 ≤ r) = b) : (r * 2 % 16777216) ^^^ 1627 = cr1 r b := by
  unfold cr1
  rw [if_neg h]
section MK
variable {n0 : Nat} {W : bw_W} {J : bw_J} {g : Nat} {L : bw_L}
variable {Qh : am_O → am_H → Prop}
theorem lp_ask {e : Nat} {l : List Int32} (hmk : J 130 29 = Int32.ofNat l.length) (hmv : ∀ k, k < l.length → J 151 k = l.getD k 0) (hl : l.length ≤ 20) (K : bH e (S0 n0) R0 mt_Mo_ask Qh 41 [(0, .ref 130)] [] W (am_u1 J 161 (ovw 0 l (J 161))) g L 0 0) : ∀ (r k : Nat), k + r = l.length → bH e (S0 n0) R0 mt_Mo_ask Qh 15 [(1, .int (Int32.ofNat k)), (0, .ref 130)] [] W (am_u1 J 161 (ovw 0 (l.take k) (J 161))) g L 0 0 := by
  have hSR := SR0 n0
  intro r
  induction r with
  | zero =>
    intro k hk
    refine b_iln (pc2 := 16) d_Mo_ask_15 rfl rfl ?_
    refine b_aln (pc2 := 17) d_Mo_ask_16 rfl rfl ?_
    refine b_gi (pc2 := 20) d_Mo_ask_17 q_11_140 (sh_130 n0) (by decide) (by decide) (rc_130) rfl ?_
    rw [u1_ne _ _ (by decide), hmk]
    refine b_ifd (pc2 := 41) d_Mo_ask_20 rfl rfl rfl rfl rfl (fun h20 => ?_) (fun h20 => ?_)
    rotate_left
    · exact absurd ((i_le (by omega) (by omega)).mpr (by omega)) h20
    refine b_nf (al := [(0, _)]) (ks := [0]) (sub_c rfl (sub_n)) rfl (by decide) ?_
    dsimp only
    rw [List.take_of_length_le (show l.length ≤ k by omega)]
    exact K
  | succ r ih =>
    intro k hk
    refine b_iln (pc2 := 16) d_Mo_ask_15 rfl rfl ?_
    refine b_aln (pc2 := 17) d_Mo_ask_16 rfl rfl ?_
    refine b_gi (pc2 := 20) d_Mo_ask_17 q_11_140 (sh_130 n0) (by decide) (by decide) (rc_130) rfl ?_
    rw [u1_ne _ _ (by decide), hmk]
    refine b_ifd (pc2 := 41) d_Mo_ask_20 rfl rfl rfl rfl rfl (fun h20 => ?_) (fun h20 => ?_)
    · exact absurd h20 (fun z => by rw [i_le (by omega) (by omega)] at z; omega)
    refine b_aln (pc2 := 24) d_Mo_ask_23 rfl rfl ?_
    refine b_gr (pc2 := 27) d_Mo_ask_24 q_11_114 (sh_130 n0) (by decide) (by decide) (p_130_51 n0) rfl ?_
    refine b_iln (pc2 := 28) d_Mo_ask_27 rfl rfl ?_
    refine b_aln (pc2 := 29) d_Mo_ask_28 rfl rfl ?_
    refine b_gr (pc2 := 32) d_Mo_ask_29 q_11_75 (sh_130 n0) (by decide) (by decide) (p_130_30 n0) rfl ?_
    refine b_iln (pc2 := 33) d_Mo_ask_32 rfl rfl ?_
    refine b_ia (pc2 := 34) (q := k) d_Mo_ask_33 (sh_151 n0) (i_in (show k < 40 by omega) (by decide)) (i_tn (by omega)) (rc_151) rfl ?_
    rw [u1_ne _ _ (by decide), hmv k (by omega)]
    refine b_ist (pc2 := 35) (q := k) d_Mo_ask_34 (sh_161 n0) (i_in (show k < 24 by omega) (by decide)) (i_tn (by omega)) (rc_161) rfl ?_
    have hlen : k = 0 + (l.take k).length := by rw [List.length_take, Nat.min_eq_left (by omega), Nat.zero_add]
    have hst := ovw_step 0 (l.take k) (J 161) (l.getD k 0)
    rw [← hlen, l_tk (by omega)] at hst
    rw [u21, hst]
    refine b_inc (pc2 := 38) (al2 := [(1, _), (0, _)]) (y := Int32.ofNat 1) d_Mo_ask_35 (by decide) rfl rfl rfl rfl ?_
    refine b_go (pc2 := 15) d_Mo_ask_38 rfl ?_
    refine b_nf (al := [(1, _), (0, _)]) (ks := [1, 0]) (sub_c rfl (sub_c rfl (sub_n))) rfl (by decide) ?_
    dsimp only
    rw [i_add]
    exact ih (k + 1) (by omega)
theorem mo_ask {d : Nat} (hd : 2 ≤ d) {l : List Int32} {J1 : bw_J} (hmk : J 130 29 = Int32.ofNat l.length) (hmv : ∀ k, k < l.length → J 151 k = l.getD k 0) (hl : l.length ≤ 20) (hG : ∀ e, 1 ≤ e → bm e (S0 n0) R0 135 [.ref 130, .int (Int32.ofNat 0)] W (akJ J l) g L (bR none W J1 g L)) : bm d (S0 n0) R0 139 [.ref 130] W J g L (bR none W J1 g L) := by
  obtain ⟨e, rfl⟩ : ∃ e, d = e + 1 := ⟨d - 1, by omega⟩
  refine bm_of (Nat.le_of_ble_eq_true rfl) (Or.inr bR_ret) ?_
  show bT e (S0 n0) R0 mt_Mo_ask _ 0 [(0, .ref 130)] [] W J g L 0 0
  have hSR := SR0 n0
  refine b_aln (pc2 := 1) d_Mo_ask_0 rfl rfl ?_
  refine b_ic (pc2 := 2) (x := Int32.ofNat 0) d_Mo_ask_1 rfl rfl ?_
  refine b_pi (pc2 := 5) d_Mo_ask_2 q_11_143 (sh_130 n0) (by decide) (Or.inl (by decide)) (Or.inl rfl) (rc_130) rfl ?_
  refine b_aln (pc2 := 6) d_Mo_ask_5 rfl rfl ?_
  refine b_aln (pc2 := 7) d_Mo_ask_6 rfl rfl ?_
  refine b_gi (pc2 := 10) d_Mo_ask_7 q_11_140 (sh_130 n0) (by decide) (by decide) (rc_130) rfl ?_
  rw [u2_k _ _ (by decide), hmk]
  refine b_pi (pc2 := 13) d_Mo_ask_10 q_11_146 (sh_130 n0) (by decide) (Or.inl (by decide)) (Or.inl rfl) (rc_130) rfl ?_
  refine b_ic (pc2 := 14) (x := Int32.ofNat 0) d_Mo_ask_13 rfl rfl ?_
  refine b_isn (pc2 := 15) (al2 := [(1, _), (0, _)]) d_Mo_ask_14 (by decide) rfl rfl ?_
  refine b_nf (al := [(1, _), (0, _)]) (ks := [1, 0]) (sub_c rfl (sub_c rfl (sub_n))) rfl (by decide) ?_
  dsimp only
  have h161 : am_u2 (am_u2 J 130 49 (Int32.ofNat 0)) 130 50 (Int32.ofNat l.length) 161 = J 161 := by rw [u2_a _ _ (by decide), u2_a _ _ (by decide)]
  refine (fun z => ?_ : _ → _) (lp_ask (n0 := n0) (W := W) (J := am_u2 (am_u2 J 130 49 (Int32.ofNat 0)) 130 50 (Int32.ofNat l.length)) (g := g) (L := L) (e := e) (l := l) (Qh := bw_Q (S0 n0) R0 (bR none W J1 g L)) (by rw [u2_k _ _ (by decide), u2_k _ _ (by decide)]; exact hmk) (by rw [u2_a _ _ (by decide), u2_a _ _ (by decide)]; exact hmv) hl ?_ l.length 0 (by omega))
  · rw [List.take_zero, ovw_nil, u1_id] at z
    exact z
  · rw [h161]
    refine b_aln (pc2 := 42) d_Mo_ask_41 rfl rfl ?_
    refine b_ic (pc2 := 43) (x := Int32.ofNat 0) d_Mo_ask_42 rfl rfl ?_
    refine b_cv0 (pc2 := 46) (c2 := 0) (u2 := 0) (hG e (by omega)) d_Mo_ask_43 q_11_149 (Nat.le_of_ble_eq_true rfl) rfl rfl (sh_130 n0) (Nat.le_of_ble_eq_true rfl) rfl rfl (by decide) (by decide) rfl ?_
    refine b_vr d_Mo_ask_46 rfl ?_
    exact ⟨rfl, rfl, rfl, rfl, rfl⟩
theorem lp_mc1 {e : Nat} {k : Nat} {n1 : Int32} (hk16 : k < 16) : ∀ (m r : Nat), m ≤ 8 → r < 16777216 → bH e (S0 n0) R0 mt_Mo_check Qh 81 [(3, .int (Int32.ofNat k)), (2, .int (Int32.ofNat (cr8 (J 132 k) m r))), (0, .ref 130), (1, .int n1)] [] W J g L 0 0 → bH e (S0 n0) R0 mt_Mo_check Qh 13 [(4, .int (Int32.ofNat (8 - m))), (2, .int (Int32.ofNat r)), (3, .int (Int32.ofNat k)), (0, .ref 130), (1, .int n1)] [] W J g L 0 0 := by
  have hSR := SR0 n0
  intro m
  induction m with
  | zero =>
    intro r hm hr K
    refine b_il (pc2 := 15) d_Mo_check_13 rfl rfl ?_
    refine b_bp (pc2 := 17) (x := Int32.ofNat 8) d_Mo_check_15 rfl rfl ?_
    refine b_ifd (pc2 := 81) d_Mo_check_17 rfl rfl rfl rfl rfl (fun h17 => ?_) (fun h17 => ?_)
    rotate_left
    · exact absurd ((i_le (by decide) (by decide)).mpr (by decide)) h17
    refine b_nf (al := [(3, _), (2, _), (0, _), (1, _)]) (ks := [3, 2, 0, 1]) (sub_c rfl (sub_c rfl (sub_c rfl (sub_c rfl (sub_n))))) rfl (by decide) ?_
    dsimp only
    exact K
  | succ m ih =>
    intro r hm hr K
    have hb : 8 - (m + 1) = 7 - m := by omega
    rw [hb]
    have hbt : bt (J 132 k) (7 - m) = decide ((J 132 k >>> (Int32.ofNat (7 - m) &&& 31)) &&& Int32.ofNat 1 = Int32.ofNat 1) := rfl
    have h84 : (8388608 : Int32) = Int32.ofNat 8388608 := rfl
    refine b_il (pc2 := 15) d_Mo_check_13 rfl rfl ?_
    refine b_bp (pc2 := 17) (x := Int32.ofNat 8) d_Mo_check_15 rfl rfl ?_
    refine b_ifd (pc2 := 81) d_Mo_check_17 rfl rfl rfl rfl rfl (fun h17 => ?_) (fun h17 => ?_)
    · exact absurd h17 (fun z => by rw [i_le (by decide) (by omega)] at z; omega)
    refine b_aln (pc2 := 21) d_Mo_check_20 rfl rfl ?_
    refine b_gr (pc2 := 24) d_Mo_check_21 q_11_17 (sh_130 n0) (by decide) (by decide) (p_130_9 n0) rfl ?_
    refine b_iln (pc2 := 25) d_Mo_check_24 rfl rfl ?_
    refine b_ia (pc2 := 26) (q := k) d_Mo_check_25 (sh_132 n0) (i_in hk16 (by decide)) (i_tn (by omega)) (rc_132) rfl ?_
    refine b_il (pc2 := 28) d_Mo_check_26 rfl rfl ?_
    refine b_pure (pc2 := 29) d_Mo_check_28 rfl rfl rfl ?_
    refine b_ic (pc2 := 30) (x := Int32.ofNat 1) d_Mo_check_29 rfl rfl ?_
    refine b_pure (pc2 := 31) d_Mo_check_30 rfl rfl rfl ?_
    refine b_ic (pc2 := 32) (x := Int32.ofNat 1) d_Mo_check_31 rfl rfl ?_
    refine b_ifd (pc2 := 39) d_Mo_check_32 rfl rfl rfl rfl rfl (fun h32 => ?_) (fun h32 => ?_)
    · refine b_ic (pc2 := 40) (x := Int32.ofNat 0) d_Mo_check_39 rfl rfl ?_
      refine b_is (pc2 := 42) (al2 := [(5, _), (4, _), (2, _), (3, _), (0, _), (1, _)]) d_Mo_check_40 (by decide) rfl rfl ?_
      refine b_iln (pc2 := 43) d_Mo_check_42 rfl rfl ?_
      refine b_ldc (pc2 := 45) d_Mo_check_43 rfl rfl ?_
      refine b_ifd (pc2 := 52) d_Mo_check_45 rfl rfl rfl rfl rfl (fun h45 => ?_) (fun h45 => ?_)
      · refine b_ic (pc2 := 53) (x := Int32.ofNat 0) d_Mo_check_52 rfl rfl ?_
        refine b_is (pc2 := 55) (al2 := [(6, _), (5, _), (4, _), (2, _), (3, _), (0, _), (1, _)]) d_Mo_check_53 (by decide) rfl rfl ?_
        refine b_iln (pc2 := 56) d_Mo_check_55 rfl rfl ?_
        refine b_ic (pc2 := 57) (x := Int32.ofNat 2) d_Mo_check_56 rfl rfl ?_
        refine b_pure (pc2 := 58) d_Mo_check_57 rfl rfl rfl ?_
        refine b_ldc (pc2 := 60) d_Mo_check_58 rfl rfl ?_
        refine b_rem (pc2 := 61) d_Mo_check_60 (by decide) rfl ?_
        rw [cr_hm hr]
        refine b_isn (pc2 := 62) (al2 := [(2, _), (6, _), (5, _), (4, _), (3, _), (0, _), (1, _)]) d_Mo_check_61 (by decide) rfl rfl ?_
        refine b_il (pc2 := 64) d_Mo_check_62 rfl rfl ?_
        refine b_il (pc2 := 66) d_Mo_check_64 rfl rfl ?_
        refine b_ifd (pc2 := 75) d_Mo_check_66 rfl rfl rfl rfl rfl (fun h66 => ?_) (fun h66 => ?_)
        rotate_left
        · exact absurd (by decide) h66
        have hx : decide (8388608 ≤ r) = _ := rfl
        rw [h84, i_lt (by omega) (by decide)] at h45
        first | rw [decide_eq_true (Decidable.not_not.mp h32)] at hbt | rw [decide_eq_false h32] at hbt
        first | rw [cr_eq (r := r) (b := bt (J 132 k) (7 - m)) (by rw [hbt]; first | exact decide_eq_true (by omega) | exact decide_eq_false (by omega))] | rw [i_xor, cr_ne (r := r) (b := bt (J 132 k) (7 - m)) (by rw [hbt]; first | (rw [decide_eq_true (by omega)]; decide) | (rw [decide_eq_false (by omega)]; decide))]
        refine b_inc (pc2 := 78) (al2 := [(4, _), (2, _), (6, _), (5, _), (3, _), (0, _), (1, _)]) (y := Int32.ofNat 1) d_Mo_check_75 (by decide) rfl rfl rfl rfl ?_
        refine b_go (pc2 := 13) d_Mo_check_78 rfl ?_
        refine b_nf (al := [(4, _), (2, _), (3, _), (0, _), (1, _)]) (ks := [4, 2, 3, 0, 1]) (sub_c rfl (sub_c rfl (sub_c rfl (sub_c rfl (sub_c rfl (sub_n)))))) rfl (by decide) ?_
        dsimp only
        rw [i_add, show 7 - m + 1 = 8 - m by omega]
        exact ih _ (by omega) (cr1_lt _ _) K
      · refine b_ic (pc2 := 49) (x := Int32.ofNat 1) d_Mo_check_48 rfl rfl ?_
        refine b_go (pc2 := 53) d_Mo_check_49 rfl ?_
        refine b_is (pc2 := 55) (al2 := [(6, _), (5, _), (4, _), (2, _), (3, _), (0, _), (1, _)]) d_Mo_check_53 (by decide) rfl rfl ?_
        refine b_iln (pc2 := 56) d_Mo_check_55 rfl rfl ?_
        refine b_ic (pc2 := 57) (x := Int32.ofNat 2) d_Mo_check_56 rfl rfl ?_
        refine b_pure (pc2 := 58) d_Mo_check_57 rfl rfl rfl ?_
        refine b_ldc (pc2 := 60) d_Mo_check_58 rfl rfl ?_
        refine b_rem (pc2 := 61) d_Mo_check_60 (by decide) rfl ?_
        rw [cr_hm hr]
        refine b_isn (pc2 := 62) (al2 := [(2, _), (6, _), (5, _), (4, _), (3, _), (0, _), (1, _)]) d_Mo_check_61 (by decide) rfl rfl ?_
        refine b_il (pc2 := 64) d_Mo_check_62 rfl rfl ?_
        refine b_il (pc2 := 66) d_Mo_check_64 rfl rfl ?_
        refine b_ifd (pc2 := 75) d_Mo_check_66 rfl rfl rfl rfl rfl (fun h66 => ?_) (fun h66 => ?_)
        · exact absurd h66 (by decide)
        refine b_iln (pc2 := 70) d_Mo_check_69 rfl rfl ?_
        refine b_sp (pc2 := 73) (x := Int32.ofNat 1627) d_Mo_check_70 rfl rfl ?_
        refine b_pure (pc2 := 74) d_Mo_check_73 rfl rfl rfl ?_
        refine b_isn (pc2 := 75) (al2 := [(2, _), (6, _), (5, _), (4, _), (3, _), (0, _), (1, _)]) d_Mo_check_74 (by decide) rfl rfl ?_
        have hx : decide (8388608 ≤ r) = _ := rfl
        rw [h84, i_lt (by omega) (by decide)] at h45
        first | rw [decide_eq_true (Decidable.not_not.mp h32)] at hbt | rw [decide_eq_false h32] at hbt
        first | rw [cr_eq (r := r) (b := bt (J 132 k) (7 - m)) (by rw [hbt]; first | exact decide_eq_true (by omega) | exact decide_eq_false (by omega))] | rw [i_xor, cr_ne (r := r) (b := bt (J 132 k) (7 - m)) (by rw [hbt]; first | (rw [decide_eq_true (by omega)]; decide) | (rw [decide_eq_false (by omega)]; decide))]
        refine b_inc (pc2 := 78) (al2 := [(4, _), (2, _), (6, _), (5, _), (3, _), (0, _), (1, _)]) (y := Int32.ofNat 1) d_Mo_check_75 (by decide) rfl rfl rfl rfl ?_
        refine b_go (pc2 := 13) d_Mo_check_78 rfl ?_
        refine b_nf (al := [(4, _), (2, _), (3, _), (0, _), (1, _)]) (ks := [4, 2, 3, 0, 1]) (sub_c rfl (sub_c rfl (sub_c rfl (sub_c rfl (sub_c rfl (sub_n)))))) rfl (by decide) ?_
        dsimp only
        rw [i_add, show 7 - m + 1 = 8 - m by omega]
        exact ih _ (by omega) (cr1_lt _ _) K
    · refine b_ic (pc2 := 36) (x := Int32.ofNat 1) d_Mo_check_35 rfl rfl ?_
      refine b_go (pc2 := 40) d_Mo_check_36 rfl ?_
      refine b_is (pc2 := 42) (al2 := [(5, _), (4, _), (2, _), (3, _), (0, _), (1, _)]) d_Mo_check_40 (by decide) rfl rfl ?_
      refine b_iln (pc2 := 43) d_Mo_check_42 rfl rfl ?_
      refine b_ldc (pc2 := 45) d_Mo_check_43 rfl rfl ?_
      refine b_ifd (pc2 := 52) d_Mo_check_45 rfl rfl rfl rfl rfl (fun h45 => ?_) (fun h45 => ?_)
      · refine b_ic (pc2 := 53) (x := Int32.ofNat 0) d_Mo_check_52 rfl rfl ?_
        refine b_is (pc2 := 55) (al2 := [(6, _), (5, _), (4, _), (2, _), (3, _), (0, _), (1, _)]) d_Mo_check_53 (by decide) rfl rfl ?_
        refine b_iln (pc2 := 56) d_Mo_check_55 rfl rfl ?_
        refine b_ic (pc2 := 57) (x := Int32.ofNat 2) d_Mo_check_56 rfl rfl ?_
        refine b_pure (pc2 := 58) d_Mo_check_57 rfl rfl rfl ?_
        refine b_ldc (pc2 := 60) d_Mo_check_58 rfl rfl ?_
        refine b_rem (pc2 := 61) d_Mo_check_60 (by decide) rfl ?_
        rw [cr_hm hr]
        refine b_isn (pc2 := 62) (al2 := [(2, _), (6, _), (5, _), (4, _), (3, _), (0, _), (1, _)]) d_Mo_check_61 (by decide) rfl rfl ?_
        refine b_il (pc2 := 64) d_Mo_check_62 rfl rfl ?_
        refine b_il (pc2 := 66) d_Mo_check_64 rfl rfl ?_
        refine b_ifd (pc2 := 75) d_Mo_check_66 rfl rfl rfl rfl rfl (fun h66 => ?_) (fun h66 => ?_)
        · exact absurd h66 (by decide)
        refine b_iln (pc2 := 70) d_Mo_check_69 rfl rfl ?_
        refine b_sp (pc2 := 73) (x := Int32.ofNat 1627) d_Mo_check_70 rfl rfl ?_
        refine b_pure (pc2 := 74) d_Mo_check_73 rfl rfl rfl ?_
        refine b_isn (pc2 := 75) (al2 := [(2, _), (6, _), (5, _), (4, _), (3, _), (0, _), (1, _)]) d_Mo_check_74 (by decide) rfl rfl ?_
        have hx : decide (8388608 ≤ r) = _ := rfl
        rw [h84, i_lt (by omega) (by decide)] at h45
        first | rw [decide_eq_true (Decidable.not_not.mp h32)] at hbt | rw [decide_eq_false h32] at hbt
        first | rw [cr_eq (r := r) (b := bt (J 132 k) (7 - m)) (by rw [hbt]; first | exact decide_eq_true (by omega) | exact decide_eq_false (by omega))] | rw [i_xor, cr_ne (r := r) (b := bt (J 132 k) (7 - m)) (by rw [hbt]; first | (rw [decide_eq_true (by omega)]; decide) | (rw [decide_eq_false (by omega)]; decide))]
        refine b_inc (pc2 := 78) (al2 := [(4, _), (2, _), (6, _), (5, _), (3, _), (0, _), (1, _)]) (y := Int32.ofNat 1) d_Mo_check_75 (by decide) rfl rfl rfl rfl ?_
        refine b_go (pc2 := 13) d_Mo_check_78 rfl ?_
        refine b_nf (al := [(4, _), (2, _), (3, _), (0, _), (1, _)]) (ks := [4, 2, 3, 0, 1]) (sub_c rfl (sub_c rfl (sub_c rfl (sub_c rfl (sub_c rfl (sub_n)))))) rfl (by decide) ?_
        dsimp only
        rw [i_add, show 7 - m + 1 = 8 - m by omega]
        exact ih _ (by omega) (cr1_lt _ _) K
      · refine b_ic (pc2 := 49) (x := Int32.ofNat 1) d_Mo_check_48 rfl rfl ?_
        refine b_go (pc2 := 53) d_Mo_check_49 rfl ?_
        refine b_is (pc2 := 55) (al2 := [(6, _), (5, _), (4, _), (2, _), (3, _), (0, _), (1, _)]) d_Mo_check_53 (by decide) rfl rfl ?_
        refine b_iln (pc2 := 56) d_Mo_check_55 rfl rfl ?_
        refine b_ic (pc2 := 57) (x := Int32.ofNat 2) d_Mo_check_56 rfl rfl ?_
        refine b_pure (pc2 := 58) d_Mo_check_57 rfl rfl rfl ?_
        refine b_ldc (pc2 := 60) d_Mo_check_58 rfl rfl ?_
        refine b_rem (pc2 := 61) d_Mo_check_60 (by decide) rfl ?_
        rw [cr_hm hr]
        refine b_isn (pc2 := 62) (al2 := [(2, _), (6, _), (5, _), (4, _), (3, _), (0, _), (1, _)]) d_Mo_check_61 (by decide) rfl rfl ?_
        refine b_il (pc2 := 64) d_Mo_check_62 rfl rfl ?_
        refine b_il (pc2 := 66) d_Mo_check_64 rfl rfl ?_
        refine b_ifd (pc2 := 75) d_Mo_check_66 rfl rfl rfl rfl rfl (fun h66 => ?_) (fun h66 => ?_)
        rotate_left
        · exact absurd (by decide) h66
        have hx : decide (8388608 ≤ r) = _ := rfl
        rw [h84, i_lt (by omega) (by decide)] at h45
        first | rw [decide_eq_true (Decidable.not_not.mp h32)] at hbt | rw [decide_eq_false h32] at hbt
        first | rw [cr_eq (r := r) (b := bt (J 132 k) (7 - m)) (by rw [hbt]; first | exact decide_eq_true (by omega) | exact decide_eq_false (by omega))] | rw [i_xor, cr_ne (r := r) (b := bt (J 132 k) (7 - m)) (by rw [hbt]; first | (rw [decide_eq_true (by omega)]; decide) | (rw [decide_eq_false (by omega)]; decide))]
        refine b_inc (pc2 := 78) (al2 := [(4, _), (2, _), (6, _), (5, _), (3, _), (0, _), (1, _)]) (y := Int32.ofNat 1) d_Mo_check_75 (by decide) rfl rfl rfl rfl ?_
        refine b_go (pc2 := 13) d_Mo_check_78 rfl ?_
        refine b_nf (al := [(4, _), (2, _), (3, _), (0, _), (1, _)]) (ks := [4, 2, 3, 0, 1]) (sub_c rfl (sub_c rfl (sub_c rfl (sub_c rfl (sub_c rfl (sub_n)))))) rfl (by decide) ?_
        dsimp only
        rw [i_add, show 7 - m + 1 = 8 - m by omega]
        exact ih _ (by omega) (cr1_lt _ _) K
theorem lp_mc2 {e : Nat} {n : Nat} (hn : n ≤ 16) : ∀ (m k r : Nat), k + m = n → r < 16777216 → bT e (S0 n0) R0 mt_Mo_check (bR (some (.int (Int32.ofNat (crL (lst (J 132) k m) r)))) W J g L) 5 [(3, .int (Int32.ofNat k)), (2, .int (Int32.ofNat r)), (0, .ref 130), (1, .int (Int32.ofNat n))] [] W J g L 0 0 := by
  have hSR := SR0 n0
  intro m
  induction m with
  | zero =>
    intro k r hk hr
    refine b_iln (pc2 := 6) d_Mo_check_5 rfl rfl ?_
    refine b_iln (pc2 := 7) d_Mo_check_6 rfl rfl ?_
    refine b_ifd (pc2 := 87) d_Mo_check_7 rfl rfl rfl rfl rfl (fun h7 => ?_) (fun h7 => ?_)
    rotate_left
    · exact absurd ((i_le (by omega) (by omega)).mpr (by omega)) h7
    refine b_iln (pc2 := 88) d_Mo_check_87 rfl rfl ?_
    refine b_ir d_Mo_check_88 rfl ?_
    exact ⟨rfl, rfl, rfl, rfl, rfl⟩
  | succ m ih =>
    intro k r hk hr
    refine b_iln (pc2 := 6) d_Mo_check_5 rfl rfl ?_
    refine b_iln (pc2 := 7) d_Mo_check_6 rfl rfl ?_
    refine b_ifd (pc2 := 87) d_Mo_check_7 rfl rfl rfl rfl rfl (fun h7 => ?_) (fun h7 => ?_)
    · exact absurd h7 (fun z => by rw [i_le (by omega) (by omega)] at z; omega)
    refine b_ic (pc2 := 11) (x := Int32.ofNat 0) d_Mo_check_10 rfl rfl ?_
    refine b_is (pc2 := 13) (al2 := [(4, _), (3, _), (2, _), (0, _), (1, _)]) d_Mo_check_11 (by decide) rfl rfl ?_
    refine b_nf (al := [(4, _), (2, _), (3, _), (0, _), (1, _)]) (ks := [4, 2, 3, 0, 1]) (sub_c rfl (sub_c rfl (sub_c rfl (sub_c rfl (sub_c rfl (sub_n)))))) rfl (by decide) ?_
    dsimp only
    refine lp_mc1 (by omega) 8 r (by decide) hr ?_
    refine b_inc (pc2 := 84) (al2 := [(3, _), (2, _), (0, _), (1, _)]) (y := Int32.ofNat 1) d_Mo_check_81 (by decide) rfl rfl rfl rfl ?_
    refine b_go (pc2 := 5) d_Mo_check_84 rfl ?_
    rw [i_add]
    exact ih (k + 1) _ (by omega) (cr8_lt _ _ _ hr)
theorem mo_check {d : Nat} (hd : 1 ≤ d) {n : Nat} (hn : n ≤ 16) : bm d (S0 n0) R0 149 [.ref 130, .int (Int32.ofNat n)] W J g L (bR (some (.int (Int32.ofNat (crL (lst (J 132) 0 n) 5592405)))) W J g L) := by
  obtain ⟨e, rfl⟩ : ∃ e, d = e + 1 := ⟨d - 1, by omega⟩
  refine bm_of (Nat.le_of_ble_eq_true rfl) (Or.inr bR_ret) ?_
  show bT e (S0 n0) R0 mt_Mo_check _ 0 [(0, .ref 130), (1, .int (Int32.ofNat n))] [] W J g L 0 0
  have hSR := SR0 n0
  refine b_ldc (pc2 := 2) d_Mo_check_0 rfl rfl ?_
  refine b_isn (pc2 := 3) (al2 := [(2, _), (0, _), (1, _)]) d_Mo_check_2 (by decide) rfl rfl ?_
  refine b_ic (pc2 := 4) (x := Int32.ofNat 0) d_Mo_check_3 rfl rfl ?_
  refine b_isn (pc2 := 5) (al2 := [(3, _), (2, _), (0, _), (1, _)]) d_Mo_check_4 (by decide) rfl rfl ?_
  refine b_nf (al := [(3, _), (2, _), (0, _), (1, _)]) (ks := [3, 2, 0, 1]) (sub_c rfl (sub_c rfl (sub_c rfl (sub_c rfl (sub_n))))) rfl (by decide) ?_
  dsimp only
  exact lp_mc2 hn n 0 5592405 (by omega) (by decide)
end MK
