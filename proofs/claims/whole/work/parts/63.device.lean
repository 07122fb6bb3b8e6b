/-! Part 63 (written by gen14.py): Device -/
/-- what spoils byte k -/
def sp8 (v : Int64) (k : Nat) : Int32 := if k < 8 then by0 v (7 - k) else 0
/-- a packet -/
def pk0 (kd nx tu : Nat) (h : List Int32) : List Int32 := [Int32.ofNat (kd + 4 * nx + 8 * tu), Int32.ofNat h.length] ++ h
def pkt (kd nx tu : Nat) (h : List Int32) : List Int32 := pk0 kd nx tu h ++ by8 (Int32.ofNat (crL (pk0 kd nx tu h) 5592405)).toInt64 3
/-- on the air -/
def wz (m : Nat → Int32) : Nat → List Int32 → List Int32
  | _, [] => []
  | i, x :: l => ((x ^^^ m i) &&& 255) :: wz m (i + 1) l
theorem wz_len (m : Nat → Int32) : ∀ (l : List Int32) (i : Nat), (wz m i l).length = l.length
  | [], _ => rfl
  | _ :: l, i => congrArg (· + 1) (wz_len m l (i + 1))
/-- from the air, spoilt -/
def hz (v : Int64) (m : Nat → Int32) : Nat → List Int32 → List Int32
  | _, [] => []
  | i, x :: l => (((x ^^^ sp8 v i) ^^^ m i) &&& 255) :: hz v m (i + 1) l
theorem hz_len (v : Int64) (m : Nat → Int32) : ∀ (l : List Int32) (i : Nat), (hz v m i l).length = l.length
  | [], _ => rfl
  | _ :: l, i => congrArg (· + 1) (hz_len v m l (i + 1))
/-- is it good: s its second byte -/
def de_ok (p : List Int32) (s : Nat) : Bool := decide (s ≤ 7 ∧ s + 5 = p.length ∧ (((p.getD (p.length - 3) 0 <<< (Int32.ofNat 16 &&& 31)) ||| (p.getD (p.length - 3 + 1) 0 <<< (Int32.ofNat 8 &&& 31))) ||| p.getD (p.length - 3 + 2) 0) = Int32.ofNat (crL (p.take (p.length - 3)) 5592405))
theorem l_dc {l l2 : List Int32} {x : Int32} {i : Nat} (h : l.drop i = x :: l2) : l.getD i 0 = x ∧ l.drop (i + 1) = l2 ∧ i < l.length := by
  have hi : i < l.length := by
    rcases Nat.lt_or_ge i l.length with q | q
    · exact q
    · rw [List.drop_eq_nil_of_le q] at h; cases h
  rw [List.drop_eq_getElem_cons hi] at h
  injection h with h1 h2
  refine ⟨?_, h2, hi⟩
  rw [List.getD_eq_getElem?_getD, List.getElem?_eq_getElem hi]
  exact h1
section DE
variable {n0 : Nat} {W : bw_W} {J : bw_J} {g : Nat} {L : bw_L}
theorem de_spoilAt {d : Nat} (hd : 1 ≤ d) {v : Int64} {k : Nat} (hk : k < 12) : bm d (S0 n0) R0 71 [.long v, .int (Int32.ofNat k)] W J g L (bR (some (.int (sp8 v k))) W J g L) := by
  obtain ⟨e, rfl⟩ : ∃ e, d = e + 1 := ⟨d - 1, by omega⟩
  refine bm_of (Nat.le_of_ble_eq_true rfl) (Or.inr bR_ret) ?_
  show bT e (S0 n0) R0 mt_De_spoilAt _ 0 [(0, .long v), (2, .int (Int32.ofNat k))] [] W J g L 0 0
  have hSR := SR0 n0
  refine b_iln (pc2 := 1) d_De_spoilAt_0 rfl rfl ?_
  refine b_bp (pc2 := 3) (x := Int32.ofNat 8) d_De_spoilAt_1 rfl rfl ?_
  refine b_ifd (pc2 := 23) d_De_spoilAt_3 rfl rfl rfl rfl rfl (fun h3 => ?_) (fun h3 => ?_)
  · refine b_ic (pc2 := 24) (x := Int32.ofNat 0) d_De_spoilAt_23 rfl rfl ?_
    refine b_ir d_De_spoilAt_24 rfl ?_
    rw [i_le (by decide) (by omega)] at h3
    exact ⟨by unfold sp8; rw [if_neg (by omega)]; rfl, rfl, rfl, rfl, rfl⟩
  · refine b_lln (pc2 := 7) d_De_spoilAt_6 rfl rfl ?_
    refine b_bp (pc2 := 9) (x := Int32.ofNat 56) d_De_spoilAt_7 rfl rfl ?_
    refine b_bp (pc2 := 11) (x := Int32.ofNat 8) d_De_spoilAt_9 rfl rfl ?_
    refine b_iln (pc2 := 12) d_De_spoilAt_11 rfl rfl ?_
    refine b_pure (pc2 := 13) d_De_spoilAt_12 rfl rfl rfl ?_
    refine b_pure (pc2 := 14) d_De_spoilAt_13 rfl rfl rfl ?_
    rw [i_le (by decide) (by omega)] at h3
    rw [i_mul, i_sub (by omega), show 56 - 8 * k = 8 * (7 - k) by omega, ← i_mul]
    refine b_pure (pc2 := 15) d_De_spoilAt_14 rfl rfl rfl ?_
    refine b_pure (pc2 := 16) d_De_spoilAt_15 rfl rfl rfl ?_
    refine b_sp (pc2 := 19) (x := Int32.ofNat 255) d_De_spoilAt_16 rfl rfl ?_
    refine b_pure (pc2 := 20) d_De_spoilAt_19 rfl rfl rfl ?_
    refine b_go (pc2 := 24) d_De_spoilAt_20 rfl ?_
    refine b_ir d_De_spoilAt_24 rfl ?_
    exact ⟨by unfold sp8; rw [if_pos (by omega)]; rfl, rfl, rfl, rfl, rfl⟩
theorem lp_send_c {e : Nat} (he : 1 ≤ e) : ∀ (l : List Int32) (i : Nat) (W : bw_W), (W 33).drop i = l → (W 33).length = i + l.length → (W 31).length = i → (W 33).length ≤ 12 → bT e (S0 n0) R0 mt_De_send (bR none (am_u1 W 31 (W 31 ++ wz (J 6) i l)) J g L) 120 [(2, .int (Int32.ofNat i)), (0, .ref 7), (1, .ref 5)] [] W J g L 0 0 := by
  have hSR := SR0 n0
  intro l
  induction l with
  | nil =>
    intro i W h1 h2 h3 h4
    rw [List.length_nil] at h2
    refine b_iln (pc2 := 121) d_De_send_120 rfl rfl ?_
    refine b_aln (pc2 := 122) d_De_send_121 rfl rfl ?_
    refine b_gr (pc2 := 125) d_De_send_122 q_3_34 (sh_7 n0) (by decide) (by decide) (p_7_3 n0) rfl ?_
    refine b_cv1 (pc2 := 128) (c2 := 0) (u2 := 0) (rw_length he hSR R_33) d_De_send_125 q_3_67 (Nat.le_of_ble_eq_true rfl) rfl rfl (sh_33 n0) (Nat.le_of_ble_eq_true rfl) rfl rfl (by decide) (by decide) rfl ?_
    refine b_ifd (pc2 := 157) d_De_send_128 rfl rfl rfl rfl rfl (fun h128 => ?_) (fun h128 => ?_)
    rotate_left
    · exact absurd ((i_le (by omega) (by omega)).mpr (by omega)) h128
    refine b_vr d_De_send_157 rfl ?_
    exact ⟨rfl, by rw [show W 31 ++ wz (J 6) i [] = W 31 from List.append_nil _, u1_id], rfl, rfl, rfl⟩
  | cons x l ih =>
    intro i W h1 h2 h3 h4
    rw [List.length_cons] at h2
    obtain ⟨c1, c2, c3⟩ := l_dc h1
    refine b_iln (pc2 := 121) d_De_send_120 rfl rfl ?_
    refine b_aln (pc2 := 122) d_De_send_121 rfl rfl ?_
    refine b_gr (pc2 := 125) d_De_send_122 q_3_34 (sh_7 n0) (by decide) (by decide) (p_7_3 n0) rfl ?_
    refine b_cv1 (pc2 := 128) (c2 := 0) (u2 := 0) (rw_length he hSR R_33) d_De_send_125 q_3_67 (Nat.le_of_ble_eq_true rfl) rfl rfl (sh_33 n0) (Nat.le_of_ble_eq_true rfl) rfl rfl (by decide) (by decide) rfl ?_
    refine b_ifd (pc2 := 157) d_De_send_128 rfl rfl rfl rfl rfl (fun h128 => ?_) (fun h128 => ?_)
    · exact absurd h128 (fun z => by rw [i_le (by omega) (by omega)] at z; omega)
    refine b_aln (pc2 := 132) d_De_send_131 rfl rfl ?_
    refine b_gr (pc2 := 135) d_De_send_132 q_3_30 (sh_7 n0) (by decide) (by decide) (p_7_2 n0) rfl ?_
    refine b_aln (pc2 := 136) d_De_send_135 rfl rfl ?_
    refine b_iln (pc2 := 137) d_De_send_136 rfl rfl ?_
    refine b_aln (pc2 := 138) d_De_send_137 rfl rfl ?_
    refine b_gr (pc2 := 141) d_De_send_138 q_3_34 (sh_7 n0) (by decide) (by decide) (p_7_3 n0) rfl ?_
    refine b_iln (pc2 := 142) d_De_send_141 rfl rfl ?_
    refine b_cv1 (pc2 := 145) (c2 := 0) (u2 := 0) (rw_at he hSR R_33 (by omega)) d_De_send_142 q_3_83 (Nat.le_of_ble_eq_true rfl) rfl rfl (sh_33 n0) (Nat.le_of_ble_eq_true rfl) rfl rfl (by decide) (by decide) rfl ?_
    rw [c1]
    refine b_cv1 (pc2 := 148) (c2 := 0) (u2 := 0) (wh_turn (by omega) (show i < 12 by omega)) d_De_send_145 q_3_87 (Nat.le_of_ble_eq_true rfl) rfl rfl (sh_5 n0) (Nat.le_of_ble_eq_true rfl) rfl rfl (by decide) (by decide) rfl ?_
    refine b_cv0 (pc2 := 151) (c2 := 0) (u2 := 0) (rw_add he hSR R_31 (by omega)) d_De_send_148 q_3_64 (Nat.le_of_ble_eq_true rfl) rfl rfl (sh_31 n0) (Nat.le_of_ble_eq_true rfl) rfl rfl (by decide) (by decide) rfl ?_
    refine b_inc (pc2 := 154) (al2 := [(2, _), (0, _), (1, _)]) (y := Int32.ofNat 1) d_De_send_151 (by decide) rfl rfl rfl rfl ?_
    refine b_go (pc2 := 120) d_De_send_154 rfl ?_
    refine b_nf (al := [(2, _), (0, _), (1, _)]) (ks := [2, 0, 1]) (sub_c rfl (sub_c rfl (sub_c rfl (sub_n)))) rfl (by decide) ?_
    dsimp only
    rw [i_add]
    refine (fun h => ?_ : _ → _) (ih (i + 1) (am_u1 W 31 (W 31 ++ [(x ^^^ J 6 i) &&& 255])) (by rw [u1_ne _ _ (by decide)]; exact c2) (by rw [u1_ne _ _ (by decide)]; omega) (by rw [u1_at, List.length_append, List.length_singleton]; omega) (by rw [u1_ne _ _ (by decide)]; exact h4))
    rw [u1_at, u1_u1, List.append_assoc] at h
    exact h
theorem de_send27_c {e : Nat} (he : 2 ≤ e) {kd nx tu : Nat} {h : List Int32} (hk : J 7 5 = Int32.ofNat kd) (hk2 : kd ≤ 2) (hx : J 7 8 = Int32.ofNat nx) (hx2 : nx ≤ 1) (hu : J 7 7 = Int32.ofNat tu) (hu2 : tu ≤ 1) (hh : W 35 = h) (hh2 : h.length ≤ 7) {al : List (Nat × Value)} (ha0 : am_lk al 0 = some (.ref 7)) (ha1 : am_lk al 1 = some (.ref 5)) : bT e (S0 n0) R0 mt_De_send (bR none (am_u1 (am_u1 W 33 (pkt kd nx tu h)) 31 (wz (J 6) 0 (pkt kd nx tu h))) J g L) 27 al [] W J g L 0 0 := by
  have hSR := SR0 n0
  refine b_nf (al := [(0, .ref 7), (1, .ref 5)]) (ks := [0, 1]) (sub_c ha0 (sub_c ha1 sub_n)) rfl (by decide) ?_
  have hpl : (pk0 kd nx tu h).length = h.length + 2 := by unfold pk0; rw [List.length_append]; show 2 + h.length = _; omega
  have hpl2 : (pkt kd nx tu h).length = h.length + 5 := by unfold pkt; rw [List.length_append, hpl, by8_len]
  refine b_aln (pc2 := 28) d_De_send_27 rfl rfl ?_
  refine b_gr (pc2 := 31) d_De_send_28 q_3_34 (sh_7 n0) (by decide) (by decide) (p_7_3 n0) rfl ?_
  refine b_cv0 (pc2 := 34) (c2 := 0) (u2 := 0) (rw_clear (by omega) hSR R_33) d_De_send_31 q_3_61 (Nat.le_of_ble_eq_true rfl) rfl rfl (sh_33 n0) (Nat.le_of_ble_eq_true rfl) rfl rfl (by decide) (by decide) rfl ?_
  refine b_aln (pc2 := 35) d_De_send_34 rfl rfl ?_
  refine b_gr (pc2 := 38) d_De_send_35 q_3_34 (sh_7 n0) (by decide) (by decide) (p_7_3 n0) rfl ?_
  refine b_aln (pc2 := 39) d_De_send_38 rfl rfl ?_
  refine b_gi (pc2 := 42) d_De_send_39 q_3_40 (sh_7 n0) (by decide) (by decide) (rc_7) rfl ?_
  refine b_ic (pc2 := 43) (x := Int32.ofNat 4) d_De_send_42 rfl rfl ?_
  refine b_aln (pc2 := 44) d_De_send_43 rfl rfl ?_
  refine b_gi (pc2 := 47) d_De_send_44 q_3_51 (sh_7 n0) (by decide) (by decide) (rc_7) rfl ?_
  refine b_pure (pc2 := 48) d_De_send_47 rfl rfl rfl ?_
  refine b_pure (pc2 := 49) d_De_send_48 rfl rfl rfl ?_
  refine b_bp (pc2 := 51) (x := Int32.ofNat 8) d_De_send_49 rfl rfl ?_
  refine b_aln (pc2 := 52) d_De_send_51 rfl rfl ?_
  refine b_gi (pc2 := 55) d_De_send_52 q_3_48 (sh_7 n0) (by decide) (by decide) (rc_7) rfl ?_
  refine b_pure (pc2 := 56) d_De_send_55 rfl rfl rfl ?_
  refine b_pure (pc2 := 57) d_De_send_56 rfl rfl rfl ?_
  rw [hk, hx, hu, i_mul, i_add, i_mul, i_add]
  refine b_cv0 (pc2 := 60) (c2 := 0) (u2 := 0) (rw_add (by omega) hSR R_33 (by simp only [u1_at, List.length_append, List.length_cons, List.length_nil]; omega)) d_De_send_57 q_3_64 (Nat.le_of_ble_eq_true rfl) rfl rfl (sh_33 n0) (Nat.le_of_ble_eq_true rfl) rfl rfl (by decide) (by decide) rfl ?_
  rw [u1_u1, u1_at, b255 (by omega), List.nil_append]
  refine b_aln (pc2 := 61) d_De_send_60 rfl rfl ?_
  refine b_gr (pc2 := 64) d_De_send_61 q_3_34 (sh_7 n0) (by decide) (by decide) (p_7_3 n0) rfl ?_
  refine b_aln (pc2 := 65) d_De_send_64 rfl rfl ?_
  refine b_gr (pc2 := 68) d_De_send_65 q_3_37 (sh_7 n0) (by decide) (by decide) (p_7_4 n0) rfl ?_
  refine b_cv1 (pc2 := 71) (c2 := 0) (u2 := 0) (rw_length (by omega) hSR R_35) d_De_send_68 q_3_67 (Nat.le_of_ble_eq_true rfl) rfl rfl (sh_35 n0) (Nat.le_of_ble_eq_true rfl) rfl rfl (by decide) (by decide) rfl ?_
  rw [u1_ne _ _ (by decide), hh]
  refine b_cv0 (pc2 := 74) (c2 := 0) (u2 := 0) (rw_add (by omega) hSR R_33 (by simp only [u1_at, List.length_append, List.length_cons, List.length_nil]; omega)) d_De_send_71 q_3_64 (Nat.le_of_ble_eq_true rfl) rfl rfl (sh_33 n0) (Nat.le_of_ble_eq_true rfl) rfl rfl (by decide) (by decide) rfl ?_
  rw [u1_u1, u1_at, b255 (by omega)]
  refine b_aln (pc2 := 75) d_De_send_74 rfl rfl ?_
  refine b_gr (pc2 := 78) d_De_send_75 q_3_34 (sh_7 n0) (by decide) (by decide) (p_7_3 n0) rfl ?_
  refine b_aln (pc2 := 79) d_De_send_78 rfl rfl ?_
  refine b_gr (pc2 := 82) d_De_send_79 q_3_37 (sh_7 n0) (by decide) (by decide) (p_7_4 n0) rfl ?_
  refine b_ic (pc2 := 83) (x := Int32.ofNat 0) d_De_send_82 rfl rfl ?_
  refine b_bp (pc2 := 85) (x := Int32.ofNat 7) d_De_send_83 rfl rfl ?_
  refine b_cv0 (pc2 := 88) (c2 := 0) (u2 := 0) (rw_addFrom (f := 0) (mo := 7) (by omega) hSR R_33 R_35 (by decide) (by decide) (by decide)) d_De_send_85 q_3_71 (Nat.le_of_ble_eq_true rfl) rfl rfl (sh_33 n0) (Nat.le_of_ble_eq_true rfl) rfl rfl (by decide) (by decide) rfl ?_
  rw [u1_u1, u1_at, u1_ne _ _ (by decide), hh, List.drop_zero, List.take_of_length_le hh2, List.take_of_length_le (by simp only [List.length_append, List.length_cons, List.length_nil]; omega), List.singleton_append]
  show bT e (S0 n0) R0 mt_De_send _ 88 _ _ (am_u1 W 33 (pk0 kd nx tu h)) J g L 0 0
  refine b_aln (pc2 := 89) d_De_send_88 rfl rfl ?_
  refine b_gr (pc2 := 92) d_De_send_89 q_3_34 (sh_7 n0) (by decide) (by decide) (p_7_3 n0) rfl ?_
  refine b_aln (pc2 := 93) d_De_send_92 rfl rfl ?_
  refine b_gr (pc2 := 96) d_De_send_93 q_3_34 (sh_7 n0) (by decide) (by decide) (p_7_3 n0) rfl ?_
  refine b_aln (pc2 := 97) d_De_send_96 rfl rfl ?_
  refine b_gr (pc2 := 100) d_De_send_97 q_3_34 (sh_7 n0) (by decide) (by decide) (p_7_3 n0) rfl ?_
  refine b_cv1 (pc2 := 103) (c2 := 0) (u2 := 0) (rw_length (by omega) hSR R_33) d_De_send_100 q_3_67 (Nat.le_of_ble_eq_true rfl) rfl rfl (sh_33 n0) (Nat.le_of_ble_eq_true rfl) rfl rfl (by decide) (by decide) rfl ?_
  rw [u1_at]
  refine b_cs1 (pc2 := 106) (c2 := 0) (u2 := 0) (de_checkOf (by omega) R_33 (by rw [u1_at]; exact Nat.le_refl _)) d_De_send_103 q_3_75 (Or.inl rfl) (Nat.le_of_ble_eq_true rfl) rfl rfl (Nat.le_of_ble_eq_true rfl) rfl rfl (by decide) (by decide) rfl ?_
  rw [u1_at, List.take_of_length_le (Nat.le_refl _)]
  refine b_pure (pc2 := 107) d_De_send_106 rfl rfl rfl ?_
  refine b_ic (pc2 := 108) (x := Int32.ofNat 3) d_De_send_107 rfl rfl ?_
  refine b_cv0 (pc2 := 111) (c2 := 0) (u2 := 0) (rw_addNumber (n := 3) (by omega) hSR R_33 (by decide) (by rw [u1_at, hpl]; omega)) d_De_send_108 q_3_79 (Nat.le_of_ble_eq_true rfl) rfl rfl (sh_33 n0) (Nat.le_of_ble_eq_true rfl) rfl rfl (by decide) (by decide) rfl ?_
  rw [u1_u1, u1_at]
  show bT e (S0 n0) R0 mt_De_send _ 111 _ _ (am_u1 W 33 (pkt kd nx tu h)) J g L 0 0
  refine b_aln (pc2 := 112) d_De_send_111 rfl rfl ?_
  refine b_gr (pc2 := 115) d_De_send_112 q_3_30 (sh_7 n0) (by decide) (by decide) (p_7_2 n0) rfl ?_
  refine b_cv0 (pc2 := 118) (c2 := 0) (u2 := 0) (rw_clear (by omega) hSR R_31) d_De_send_115 q_3_61 (Nat.le_of_ble_eq_true rfl) rfl rfl (sh_31 n0) (Nat.le_of_ble_eq_true rfl) rfl rfl (by decide) (by decide) rfl ?_
  refine b_ic (pc2 := 119) (x := Int32.ofNat 0) d_De_send_118 rfl rfl ?_
  refine b_isn (pc2 := 120) (al2 := [(2, _), (0, _), (1, _)]) d_De_send_119 (by decide) rfl rfl ?_
  refine b_nf (al := [(2, _), (0, _), (1, _)]) (ks := [2, 0, 1]) (sub_c rfl (sub_c rfl (sub_c rfl (sub_n)))) rfl (by decide) ?_
  dsimp only
  refine (fun z => ?_ : _ → _) (lp_send_c (n0 := n0) (J := J) (g := g) (L := L) (e := e) (by omega) (pkt kd nx tu h) 0 (am_u1 (am_u1 W 33 (pkt kd nx tu h)) 31 []) (by rw [u1_ne _ _ (by decide), u1_at]; rfl) (by rw [u1_ne _ _ (by decide), u1_at]; omega) (by rw [u1_at]; rfl) (by rw [u1_ne _ _ (by decide), u1_at]; omega))
  rw [u1_u1, u1_at, List.nil_append] at z
  exact z
theorem de_send1_c {d : Nat} (hd : 3 ≤ d) {kd nx tu : Nat} {h : List Int32} (hk2 : kd ≤ 2) (hx : J 7 8 = Int32.ofNat nx) (hx2 : nx ≤ 1) (hu : J 7 7 = Int32.ofNat tu) (hu2 : tu ≤ 1) (hh2 : h.length ≤ 7) (hk : J 7 5 = Int32.ofNat kd) (hp : J 7 6 = 1) (hh : W 35 = h) : bm d (S0 n0) R0 64 [.ref 7, .ref 5] W J g L (bR none (am_u1 (am_u1 W 33 (pkt kd nx tu h)) 31 (wz (J 6) 0 (pkt kd nx tu h))) J g L) := by
  obtain ⟨e, rfl⟩ : ∃ e, d = e + 1 := ⟨d - 1, by omega⟩
  refine bm_of (Nat.le_of_ble_eq_true rfl) (Or.inr bR_ret) ?_
  show bT e (S0 n0) R0 mt_De_send _ 0 [(0, .ref 7), (1, .ref 5)] [] W J g L 0 0
  have hSR := SR0 n0
  refine b_aln (pc2 := 1) d_De_send_0 rfl rfl ?_
  refine b_gi (pc2 := 4) d_De_send_1 q_3_44 (sh_7 n0) (by decide) (by decide) (rc_7) rfl ?_
  refine b_ifd (pc2 := 27) d_De_send_4 rfl rfl rfl rfl rfl (fun h4 => ?_) (fun h4 => ?_)
  rotate_left
  · exact absurd (fun z => by rw [hp] at z; exact absurd z (by decide)) h4
  exact de_send27_c (by omega) hk hk2 hx hx2 hu hu2 hh hh2 rfl rfl
theorem de_send0_c {d : Nat} (hd : 3 ≤ d) {kd nx tu : Nat} {h : List Int32} (hk2 : kd ≤ 2) (hx : J 7 8 = Int32.ofNat nx) (hx2 : nx ≤ 1) (hu : J 7 7 = Int32.ofNat tu) (hu2 : tu ≤ 1) (hh2 : h.length ≤ 7) {W1 : bw_W} {J1 : bw_J} (hp : J 7 6 = 0) (hT : ∀ e, 2 ≤ e → bm e (S0 n0) R0 65 [.ref 8, .ref 35] W J g L (bR (some (.int (Int32.ofNat kd))) W1 J1 g L)) (hx1 : J1 7 8 = Int32.ofNat nx) (hu1 : J1 7 7 = Int32.ofNat tu) (hm : J1 6 = J 6) (hh : W1 35 = h) : bm d (S0 n0) R0 64 [.ref 7, .ref 5] W J g L (bR none (am_u1 (am_u1 W1 33 (pkt kd nx tu h)) 31 (wz (J 6) 0 (pkt kd nx tu h))) (am_u2 (am_u2 J1 7 5 (Int32.ofNat kd)) 7 6 1) g L) := by
  obtain ⟨e, rfl⟩ : ∃ e, d = e + 1 := ⟨d - 1, by omega⟩
  refine bm_of (Nat.le_of_ble_eq_true rfl) (Or.inr bR_ret) ?_
  show bT e (S0 n0) R0 mt_De_send _ 0 [(0, .ref 7), (1, .ref 5)] [] W J g L 0 0
  have hSR := SR0 n0
  refine b_aln (pc2 := 1) d_De_send_0 rfl rfl ?_
  refine b_gi (pc2 := 4) d_De_send_1 q_3_44 (sh_7 n0) (by decide) (by decide) (rc_7) rfl ?_
  refine b_ifd (pc2 := 27) d_De_send_4 rfl rfl rfl rfl rfl (fun h4 => ?_) (fun h4 => ?_)
  · exact absurd h4 (fun z => z hp)
  refine b_aln (pc2 := 8) d_De_send_7 rfl rfl ?_
  refine b_aln (pc2 := 9) d_De_send_8 rfl rfl ?_
  refine b_gr (pc2 := 12) d_De_send_9 q_3_12 (sh_7 n0) (by decide) (by decide) (p_7_0 n0) rfl ?_
  refine b_aln (pc2 := 13) d_De_send_12 rfl rfl ?_
  refine b_gr (pc2 := 16) d_De_send_13 q_3_37 (sh_7 n0) (by decide) (by decide) (p_7_4 n0) rfl ?_
  refine b_cv1 (pc2 := 19) (c2 := 0) (u2 := 0) (hT e (by omega)) d_De_send_16 q_3_57 (Nat.le_of_ble_eq_true rfl) rfl rfl (sh_8 n0) (Nat.le_of_ble_eq_true rfl) rfl rfl (by decide) (by decide) rfl ?_
  refine b_pi (pc2 := 22) d_De_send_19 q_3_40 (sh_7 n0) (by decide) (Or.inl (by decide)) (Or.inl rfl) (rc_7) rfl ?_
  refine b_aln (pc2 := 23) d_De_send_22 rfl rfl ?_
  refine b_ic (pc2 := 24) (x := Int32.ofNat 1) d_De_send_23 rfl rfl ?_
  refine b_pi (pc2 := 27) d_De_send_24 q_3_44 (sh_7 n0) (by decide) (Or.inl (by decide)) (Or.inr ⟨rfl, by decide⟩) (rc_7) rfl ?_
  refine (fun z => ?_ : _ → _) (de_send27_c (n0 := n0) (W := W1) (J := am_u2 (am_u2 J1 7 5 (Int32.ofNat kd)) 7 6 1) (g := g) (L := L) (e := e) (kd := kd) (nx := nx) (tu := tu) (h := h) (by omega) (by rw [u2_k _ _ (by decide), u2_at]) hk2 (by rw [u2_k _ _ (by decide), u2_k _ _ (by decide)]; exact hx1) hx2 (by rw [u2_k _ _ (by decide), u2_k _ _ (by decide)]; exact hu1) hu2 hh hh2 (al := [(0, .ref 7), (1, .ref 5)]) rfl rfl)
  rw [u2_a _ _ (by decide), u2_a _ _ (by decide), hm] at z
  exact z
theorem de_isGood_c {d : Nat} (hd : 3 ≤ d) {p : List Int32} (hp : W 33 = p) (hp5 : 5 ≤ p.length) {s : Nat} (hs : p.getD 1 0 = Int32.ofNat s) (hs2 : s < 256) : bm d (S0 n0) R0 72 [.ref 7] W J g L (bR (some (.int (if de_ok p s = true then 1 else 0))) W J g L) := by
  obtain ⟨e, rfl⟩ : ∃ e, d = e + 1 := ⟨d - 1, by omega⟩
  refine bm_of (Nat.le_of_ble_eq_true rfl) (Or.inr bR_ret) ?_
  show bT e (S0 n0) R0 mt_De_isGood _ 0 [(0, .ref 7)] [] W J g L 0 0
  have hSR := SR0 n0
  refine b_free fun hlen => ?_
  have hl : p.length ≤ 12 := by rw [← hp]; exact hlen 33 12 R_33
  refine b_aln (pc2 := 1) d_De_isGood_0 rfl rfl ?_
  refine b_gr (pc2 := 4) d_De_isGood_1 q_3_34 (sh_7 n0) (by decide) (by decide) (p_7_3 n0) rfl ?_
  refine b_cv1 (pc2 := 7) (c2 := 0) (u2 := 0) (rw_length (by omega) hSR R_33) d_De_isGood_4 q_3_67 (Nat.le_of_ble_eq_true rfl) rfl rfl (sh_33 n0) (Nat.le_of_ble_eq_true rfl) rfl rfl (by decide) (by decide) rfl ?_
  rw [hp]
  refine b_ic (pc2 := 8) (x := Int32.ofNat 3) d_De_isGood_7 rfl rfl ?_
  refine b_pure (pc2 := 9) d_De_isGood_8 rfl rfl rfl ?_
  rw [i_sub (by omega)]
  refine b_isn (pc2 := 10) (al2 := [(1, _), (0, _)]) d_De_isGood_9 (by decide) rfl rfl ?_
  refine b_aln (pc2 := 11) d_De_isGood_10 rfl rfl ?_
  refine b_gr (pc2 := 14) d_De_isGood_11 q_3_34 (sh_7 n0) (by decide) (by decide) (p_7_3 n0) rfl ?_
  refine b_ic (pc2 := 15) (x := Int32.ofNat 1) d_De_isGood_14 rfl rfl ?_
  refine b_cv1 (pc2 := 18) (c2 := 0) (u2 := 0) (rw_at (k := 1) (by omega) hSR R_33 (by decide)) d_De_isGood_15 q_3_83 (Nat.le_of_ble_eq_true rfl) rfl rfl (sh_33 n0) (Nat.le_of_ble_eq_true rfl) rfl rfl (by decide) (by decide) rfl ?_
  rw [hp, hs]
  refine b_bp (pc2 := 20) (x := Int32.ofNat 7) d_De_isGood_18 rfl rfl ?_
  refine b_ifd (pc2 := 37) d_De_isGood_20 rfl rfl rfl rfl rfl (fun h20 => ?_) (fun h20 => ?_)
  · refine b_ic (pc2 := 38) (x := Int32.ofNat 0) d_De_isGood_37 rfl rfl ?_
    refine b_br d_De_isGood_38 rfl (by decide) ?_
    rw [i_lt (by decide) (by omega)] at h20
    exact ⟨by rw [if_neg (fun z => by have := (of_decide_eq_true z).1; omega)]; rfl, rfl, rfl, rfl, rfl⟩
  · refine b_aln (pc2 := 24) d_De_isGood_23 rfl rfl ?_
    refine b_gr (pc2 := 27) d_De_isGood_24 q_3_34 (sh_7 n0) (by decide) (by decide) (p_7_3 n0) rfl ?_
    refine b_ic (pc2 := 28) (x := Int32.ofNat 1) d_De_isGood_27 rfl rfl ?_
    refine b_cv1 (pc2 := 31) (c2 := 0) (u2 := 0) (rw_at (k := 1) (by omega) hSR R_33 (by decide)) d_De_isGood_28 q_3_83 (Nat.le_of_ble_eq_true rfl) rfl rfl (sh_33 n0) (Nat.le_of_ble_eq_true rfl) rfl rfl (by decide) (by decide) rfl ?_
    rw [hp, hs]
    refine b_iln (pc2 := 32) d_De_isGood_31 rfl rfl ?_
    refine b_ic (pc2 := 33) (x := Int32.ofNat 2) d_De_isGood_32 rfl rfl ?_
    refine b_pure (pc2 := 34) d_De_isGood_33 rfl rfl rfl ?_
    rw [i_sub (by omega)]
    refine b_ifd (pc2 := 39) d_De_isGood_34 rfl rfl rfl rfl rfl (fun h34 => ?_) (fun h34 => ?_)
    · refine b_aln (pc2 := 40) d_De_isGood_39 rfl rfl ?_
      refine b_gr (pc2 := 43) d_De_isGood_40 q_3_34 (sh_7 n0) (by decide) (by decide) (p_7_3 n0) rfl ?_
      refine b_iln (pc2 := 44) d_De_isGood_43 rfl rfl ?_
      refine b_cv1 (pc2 := 47) (c2 := 0) (u2 := 0) (rw_at (by omega) hSR R_33 (by omega)) d_De_isGood_44 q_3_83 (Nat.le_of_ble_eq_true rfl) rfl rfl (sh_33 n0) (Nat.le_of_ble_eq_true rfl) rfl rfl (by decide) (by decide) rfl ?_
      rw [hp]
      refine b_bp (pc2 := 49) (x := Int32.ofNat 16) d_De_isGood_47 rfl rfl ?_
      refine b_pure (pc2 := 50) d_De_isGood_49 rfl rfl rfl ?_
      refine b_aln (pc2 := 51) d_De_isGood_50 rfl rfl ?_
      refine b_gr (pc2 := 54) d_De_isGood_51 q_3_34 (sh_7 n0) (by decide) (by decide) (p_7_3 n0) rfl ?_
      refine b_iln (pc2 := 55) d_De_isGood_54 rfl rfl ?_
      refine b_ic (pc2 := 56) (x := Int32.ofNat 1) d_De_isGood_55 rfl rfl ?_
      refine b_pure (pc2 := 57) d_De_isGood_56 rfl rfl rfl ?_
      rw [i_add]
      refine b_cv1 (pc2 := 60) (c2 := 0) (u2 := 0) (rw_at (by omega) hSR R_33 (by omega)) d_De_isGood_57 q_3_83 (Nat.le_of_ble_eq_true rfl) rfl rfl (sh_33 n0) (Nat.le_of_ble_eq_true rfl) rfl rfl (by decide) (by decide) rfl ?_
      rw [hp]
      refine b_bp (pc2 := 62) (x := Int32.ofNat 8) d_De_isGood_60 rfl rfl ?_
      refine b_pure (pc2 := 63) d_De_isGood_62 rfl rfl rfl ?_
      refine b_pure (pc2 := 64) d_De_isGood_63 rfl rfl rfl ?_
      refine b_aln (pc2 := 65) d_De_isGood_64 rfl rfl ?_
      refine b_gr (pc2 := 68) d_De_isGood_65 q_3_34 (sh_7 n0) (by decide) (by decide) (p_7_3 n0) rfl ?_
      refine b_iln (pc2 := 69) d_De_isGood_68 rfl rfl ?_
      refine b_ic (pc2 := 70) (x := Int32.ofNat 2) d_De_isGood_69 rfl rfl ?_
      refine b_pure (pc2 := 71) d_De_isGood_70 rfl rfl rfl ?_
      rw [i_add]
      refine b_cv1 (pc2 := 74) (c2 := 0) (u2 := 0) (rw_at (by omega) hSR R_33 (by omega)) d_De_isGood_71 q_3_83 (Nat.le_of_ble_eq_true rfl) rfl rfl (sh_33 n0) (Nat.le_of_ble_eq_true rfl) rfl rfl (by decide) (by decide) rfl ?_
      rw [hp]
      refine b_pure (pc2 := 75) d_De_isGood_74 rfl rfl rfl ?_
      refine b_isn (pc2 := 76) (al2 := [(2, _), (1, _), (0, _)]) d_De_isGood_75 (by decide) rfl rfl ?_
      refine b_iln (pc2 := 77) d_De_isGood_76 rfl rfl ?_
      refine b_aln (pc2 := 78) d_De_isGood_77 rfl rfl ?_
      refine b_gr (pc2 := 81) d_De_isGood_78 q_3_34 (sh_7 n0) (by decide) (by decide) (p_7_3 n0) rfl ?_
      refine b_iln (pc2 := 82) d_De_isGood_81 rfl rfl ?_
      refine b_cs1 (pc2 := 85) (c2 := 0) (u2 := 0) (de_checkOf (by omega) R_33 (by rw [hp]; omega)) d_De_isGood_82 q_3_75 (Or.inl rfl) (Nat.le_of_ble_eq_true rfl) rfl rfl (Nat.le_of_ble_eq_true rfl) rfl rfl (by decide) (by decide) rfl ?_
      rw [hp]
      refine b_ifd (pc2 := 92) d_De_isGood_85 rfl rfl rfl rfl rfl (fun h85 => ?_) (fun h85 => ?_)
      · refine b_ic (pc2 := 93) (x := Int32.ofNat 0) d_De_isGood_92 rfl rfl ?_
        refine b_br d_De_isGood_93 rfl (by decide) ?_
        exact ⟨by rw [if_neg (fun z => h85 (of_decide_eq_true z).2.2)]; rfl, rfl, rfl, rfl, rfl⟩
      · refine b_ic (pc2 := 89) (x := Int32.ofNat 1) d_De_isGood_88 rfl rfl ?_
        refine b_go (pc2 := 93) d_De_isGood_89 rfl ?_
        refine b_br d_De_isGood_93 rfl (by decide) ?_
        rw [i_lt (by decide) (by omega)] at h20
        rw [i_eq (by omega) (by omega)] at h34
        exact ⟨by rw [if_pos (show de_ok p s = true from decide_eq_true ⟨by omega, by omega, Decidable.not_not.mp h85⟩)]; rfl, rfl, rfl, rfl, rfl⟩
    · refine b_ic (pc2 := 38) (x := Int32.ofNat 0) d_De_isGood_37 rfl rfl ?_
      refine b_br d_De_isGood_38 rfl (by decide) ?_
      rw [i_eq (by omega) (by omega)] at h34
      exact ⟨by rw [if_neg (fun z => by have := (of_decide_eq_true z).2.1; omega)]; rfl, rfl, rfl, rfl, rfl⟩
theorem lp_send_s {e : Nat} (he : 1 ≤ e) : ∀ (l : List Int32) (i : Nat) (W : bw_W), (W 63).drop i = l → (W 63).length = i + l.length → (W 61).length = i → (W 63).length ≤ 12 → bT e (S0 n0) R0 mt_De_send (bR none (am_u1 W 61 (W 61 ++ wz (J 6) i l)) J g L) 120 [(2, .int (Int32.ofNat i)), (0, .ref 37), (1, .ref 5)] [] W J g L 0 0 := by
  have hSR := SR0 n0
  intro l
  induction l with
  | nil =>
    intro i W h1 h2 h3 h4
    rw [List.length_nil] at h2
    refine b_iln (pc2 := 121) d_De_send_120 rfl rfl ?_
    refine b_aln (pc2 := 122) d_De_send_121 rfl rfl ?_
    refine b_gr (pc2 := 125) d_De_send_122 q_3_34 (sh_37 n0) (by decide) (by decide) (p_37_3 n0) rfl ?_
    refine b_cv1 (pc2 := 128) (c2 := 0) (u2 := 0) (rw_length he hSR R_63) d_De_send_125 q_3_67 (Nat.le_of_ble_eq_true rfl) rfl rfl (sh_63 n0) (Nat.le_of_ble_eq_true rfl) rfl rfl (by decide) (by decide) rfl ?_
    refine b_ifd (pc2 := 157) d_De_send_128 rfl rfl rfl rfl rfl (fun h128 => ?_) (fun h128 => ?_)
    rotate_left
    · exact absurd ((i_le (by omega) (by omega)).mpr (by omega)) h128
    refine b_vr d_De_send_157 rfl ?_
    exact ⟨rfl, by rw [show W 61 ++ wz (J 6) i [] = W 61 from List.append_nil _, u1_id], rfl, rfl, rfl⟩
  | cons x l ih =>
    intro i W h1 h2 h3 h4
    rw [List.length_cons] at h2
    obtain ⟨c1, c2, c3⟩ := l_dc h1
    refine b_iln (pc2 := 121) d_De_send_120 rfl rfl ?_
    refine b_aln (pc2 := 122) d_De_send_121 rfl rfl ?_
    refine b_gr (pc2 := 125) d_De_send_122 q_3_34 (sh_37 n0) (by decide) (by decide) (p_37_3 n0) rfl ?_
    refine b_cv1 (pc2 := 128) (c2 := 0) (u2 := 0) (rw_length he hSR R_63) d_De_send_125 q_3_67 (Nat.le_of_ble_eq_true rfl) rfl rfl (sh_63 n0) (Nat.le_of_ble_eq_true rfl) rfl rfl (by decide) (by decide) rfl ?_
    refine b_ifd (pc2 := 157) d_De_send_128 rfl rfl rfl rfl rfl (fun h128 => ?_) (fun h128 => ?_)
    · exact absurd h128 (fun z => by rw [i_le (by omega) (by omega)] at z; omega)
    refine b_aln (pc2 := 132) d_De_send_131 rfl rfl ?_
    refine b_gr (pc2 := 135) d_De_send_132 q_3_30 (sh_37 n0) (by decide) (by decide) (p_37_2 n0) rfl ?_
    refine b_aln (pc2 := 136) d_De_send_135 rfl rfl ?_
    refine b_iln (pc2 := 137) d_De_send_136 rfl rfl ?_
    refine b_aln (pc2 := 138) d_De_send_137 rfl rfl ?_
    refine b_gr (pc2 := 141) d_De_send_138 q_3_34 (sh_37 n0) (by decide) (by decide) (p_37_3 n0) rfl ?_
    refine b_iln (pc2 := 142) d_De_send_141 rfl rfl ?_
    refine b_cv1 (pc2 := 145) (c2 := 0) (u2 := 0) (rw_at he hSR R_63 (by omega)) d_De_send_142 q_3_83 (Nat.le_of_ble_eq_true rfl) rfl rfl (sh_63 n0) (Nat.le_of_ble_eq_true rfl) rfl rfl (by decide) (by decide) rfl ?_
    rw [c1]
    refine b_cv1 (pc2 := 148) (c2 := 0) (u2 := 0) (wh_turn (by omega) (show i < 12 by omega)) d_De_send_145 q_3_87 (Nat.le_of_ble_eq_true rfl) rfl rfl (sh_5 n0) (Nat.le_of_ble_eq_true rfl) rfl rfl (by decide) (by decide) rfl ?_
    refine b_cv0 (pc2 := 151) (c2 := 0) (u2 := 0) (rw_add he hSR R_61 (by omega)) d_De_send_148 q_3_64 (Nat.le_of_ble_eq_true rfl) rfl rfl (sh_61 n0) (Nat.le_of_ble_eq_true rfl) rfl rfl (by decide) (by decide) rfl ?_
    refine b_inc (pc2 := 154) (al2 := [(2, _), (0, _), (1, _)]) (y := Int32.ofNat 1) d_De_send_151 (by decide) rfl rfl rfl rfl ?_
    refine b_go (pc2 := 120) d_De_send_154 rfl ?_
    refine b_nf (al := [(2, _), (0, _), (1, _)]) (ks := [2, 0, 1]) (sub_c rfl (sub_c rfl (sub_c rfl (sub_n)))) rfl (by decide) ?_
    dsimp only
    rw [i_add]
    refine (fun h => ?_ : _ → _) (ih (i + 1) (am_u1 W 61 (W 61 ++ [(x ^^^ J 6 i) &&& 255])) (by rw [u1_ne _ _ (by decide)]; exact c2) (by rw [u1_ne _ _ (by decide)]; omega) (by rw [u1_at, List.length_append, List.length_singleton]; omega) (by rw [u1_ne _ _ (by decide)]; exact h4))
    rw [u1_at, u1_u1, List.append_assoc] at h
    exact h
theorem de_send27_s {e : Nat} (he : 2 ≤ e) {kd nx tu : Nat} {h : List Int32} (hk : J 37 5 = Int32.ofNat kd) (hk2 : kd ≤ 2) (hx : J 37 8 = Int32.ofNat nx) (hx2 : nx ≤ 1) (hu : J 37 7 = Int32.ofNat tu) (hu2 : tu ≤ 1) (hh : W 65 = h) (hh2 : h.length ≤ 7) {al : List (Nat × Value)} (ha0 : am_lk al 0 = some (.ref 37)) (ha1 : am_lk al 1 = some (.ref 5)) : bT e (S0 n0) R0 mt_De_send (bR none (am_u1 (am_u1 W 63 (pkt kd nx tu h)) 61 (wz (J 6) 0 (pkt kd nx tu h))) J g L) 27 al [] W J g L 0 0 := by
  have hSR := SR0 n0
  refine b_nf (al := [(0, .ref 37), (1, .ref 5)]) (ks := [0, 1]) (sub_c ha0 (sub_c ha1 sub_n)) rfl (by decide) ?_
  have hpl : (pk0 kd nx tu h).length = h.length + 2 := by unfold pk0; rw [List.length_append]; show 2 + h.length = _; omega
  have hpl2 : (pkt kd nx tu h).length = h.length + 5 := by unfold pkt; rw [List.length_append, hpl, by8_len]
  refine b_aln (pc2 := 28) d_De_send_27 rfl rfl ?_
  refine b_gr (pc2 := 31) d_De_send_28 q_3_34 (sh_37 n0) (by decide) (by decide) (p_37_3 n0) rfl ?_
  refine b_cv0 (pc2 := 34) (c2 := 0) (u2 := 0) (rw_clear (by omega) hSR R_63) d_De_send_31 q_3_61 (Nat.le_of_ble_eq_true rfl) rfl rfl (sh_63 n0) (Nat.le_of_ble_eq_true rfl) rfl rfl (by decide) (by decide) rfl ?_
  refine b_aln (pc2 := 35) d_De_send_34 rfl rfl ?_
  refine b_gr (pc2 := 38) d_De_send_35 q_3_34 (sh_37 n0) (by decide) (by decide) (p_37_3 n0) rfl ?_
  refine b_aln (pc2 := 39) d_De_send_38 rfl rfl ?_
  refine b_gi (pc2 := 42) d_De_send_39 q_3_40 (sh_37 n0) (by decide) (by decide) (rc_37) rfl ?_
  refine b_ic (pc2 := 43) (x := Int32.ofNat 4) d_De_send_42 rfl rfl ?_
  refine b_aln (pc2 := 44) d_De_send_43 rfl rfl ?_
  refine b_gi (pc2 := 47) d_De_send_44 q_3_51 (sh_37 n0) (by decide) (by decide) (rc_37) rfl ?_
  refine b_pure (pc2 := 48) d_De_send_47 rfl rfl rfl ?_
  refine b_pure (pc2 := 49) d_De_send_48 rfl rfl rfl ?_
  refine b_bp (pc2 := 51) (x := Int32.ofNat 8) d_De_send_49 rfl rfl ?_
  refine b_aln (pc2 := 52) d_De_send_51 rfl rfl ?_
  refine b_gi (pc2 := 55) d_De_send_52 q_3_48 (sh_37 n0) (by decide) (by decide) (rc_37) rfl ?_
  refine b_pure (pc2 := 56) d_De_send_55 rfl rfl rfl ?_
  refine b_pure (pc2 := 57) d_De_send_56 rfl rfl rfl ?_
  rw [hk, hx, hu, i_mul, i_add, i_mul, i_add]
  refine b_cv0 (pc2 := 60) (c2 := 0) (u2 := 0) (rw_add (by omega) hSR R_63 (by simp only [u1_at, List.length_append, List.length_cons, List.length_nil]; omega)) d_De_send_57 q_3_64 (Nat.le_of_ble_eq_true rfl) rfl rfl (sh_63 n0) (Nat.le_of_ble_eq_true rfl) rfl rfl (by decide) (by decide) rfl ?_
  rw [u1_u1, u1_at, b255 (by omega), List.nil_append]
  refine b_aln (pc2 := 61) d_De_send_60 rfl rfl ?_
  refine b_gr (pc2 := 64) d_De_send_61 q_3_34 (sh_37 n0) (by decide) (by decide) (p_37_3 n0) rfl ?_
  refine b_aln (pc2 := 65) d_De_send_64 rfl rfl ?_
  refine b_gr (pc2 := 68) d_De_send_65 q_3_37 (sh_37 n0) (by decide) (by decide) (p_37_4 n0) rfl ?_
  refine b_cv1 (pc2 := 71) (c2 := 0) (u2 := 0) (rw_length (by omega) hSR R_65) d_De_send_68 q_3_67 (Nat.le_of_ble_eq_true rfl) rfl rfl (sh_65 n0) (Nat.le_of_ble_eq_true rfl) rfl rfl (by decide) (by decide) rfl ?_
  rw [u1_ne _ _ (by decide), hh]
  refine b_cv0 (pc2 := 74) (c2 := 0) (u2 := 0) (rw_add (by omega) hSR R_63 (by simp only [u1_at, List.length_append, List.length_cons, List.length_nil]; omega)) d_De_send_71 q_3_64 (Nat.le_of_ble_eq_true rfl) rfl rfl (sh_63 n0) (Nat.le_of_ble_eq_true rfl) rfl rfl (by decide) (by decide) rfl ?_
  rw [u1_u1, u1_at, b255 (by omega)]
  refine b_aln (pc2 := 75) d_De_send_74 rfl rfl ?_
  refine b_gr (pc2 := 78) d_De_send_75 q_3_34 (sh_37 n0) (by decide) (by decide) (p_37_3 n0) rfl ?_
  refine b_aln (pc2 := 79) d_De_send_78 rfl rfl ?_
  refine b_gr (pc2 := 82) d_De_send_79 q_3_37 (sh_37 n0) (by decide) (by decide) (p_37_4 n0) rfl ?_
  refine b_ic (pc2 := 83) (x := Int32.ofNat 0) d_De_send_82 rfl rfl ?_
  refine b_bp (pc2 := 85) (x := Int32.ofNat 7) d_De_send_83 rfl rfl ?_
  refine b_cv0 (pc2 := 88) (c2 := 0) (u2 := 0) (rw_addFrom (f := 0) (mo := 7) (by omega) hSR R_63 R_65 (by decide) (by decide) (by decide)) d_De_send_85 q_3_71 (Nat.le_of_ble_eq_true rfl) rfl rfl (sh_63 n0) (Nat.le_of_ble_eq_true rfl) rfl rfl (by decide) (by decide) rfl ?_
  rw [u1_u1, u1_at, u1_ne _ _ (by decide), hh, List.drop_zero, List.take_of_length_le hh2, List.take_of_length_le (by simp only [List.length_append, List.length_cons, List.length_nil]; omega), List.singleton_append]
  show bT e (S0 n0) R0 mt_De_send _ 88 _ _ (am_u1 W 63 (pk0 kd nx tu h)) J g L 0 0
  refine b_aln (pc2 := 89) d_De_send_88 rfl rfl ?_
  refine b_gr (pc2 := 92) d_De_send_89 q_3_34 (sh_37 n0) (by decide) (by decide) (p_37_3 n0) rfl ?_
  refine b_aln (pc2 := 93) d_De_send_92 rfl rfl ?_
  refine b_gr (pc2 := 96) d_De_send_93 q_3_34 (sh_37 n0) (by decide) (by decide) (p_37_3 n0) rfl ?_
  refine b_aln (pc2 := 97) d_De_send_96 rfl rfl ?_
  refine b_gr (pc2 := 100) d_De_send_97 q_3_34 (sh_37 n0) (by decide) (by decide) (p_37_3 n0) rfl ?_
  refine b_cv1 (pc2 := 103) (c2 := 0) (u2 := 0) (rw_length (by omega) hSR R_63) d_De_send_100 q_3_67 (Nat.le_of_ble_eq_true rfl) rfl rfl (sh_63 n0) (Nat.le_of_ble_eq_true rfl) rfl rfl (by decide) (by decide) rfl ?_
  rw [u1_at]
  refine b_cs1 (pc2 := 106) (c2 := 0) (u2 := 0) (de_checkOf (by omega) R_63 (by rw [u1_at]; exact Nat.le_refl _)) d_De_send_103 q_3_75 (Or.inl rfl) (Nat.le_of_ble_eq_true rfl) rfl rfl (Nat.le_of_ble_eq_true rfl) rfl rfl (by decide) (by decide) rfl ?_
  rw [u1_at, List.take_of_length_le (Nat.le_refl _)]
  refine b_pure (pc2 := 107) d_De_send_106 rfl rfl rfl ?_
  refine b_ic (pc2 := 108) (x := Int32.ofNat 3) d_De_send_107 rfl rfl ?_
  refine b_cv0 (pc2 := 111) (c2 := 0) (u2 := 0) (rw_addNumber (n := 3) (by omega) hSR R_63 (by decide) (by rw [u1_at, hpl]; omega)) d_De_send_108 q_3_79 (Nat.le_of_ble_eq_true rfl) rfl rfl (sh_63 n0) (Nat.le_of_ble_eq_true rfl) rfl rfl (by decide) (by decide) rfl ?_
  rw [u1_u1, u1_at]
  show bT e (S0 n0) R0 mt_De_send _ 111 _ _ (am_u1 W 63 (pkt kd nx tu h)) J g L 0 0
  refine b_aln (pc2 := 112) d_De_send_111 rfl rfl ?_
  refine b_gr (pc2 := 115) d_De_send_112 q_3_30 (sh_37 n0) (by decide) (by decide) (p_37_2 n0) rfl ?_
  refine b_cv0 (pc2 := 118) (c2 := 0) (u2 := 0) (rw_clear (by omega) hSR R_61) d_De_send_115 q_3_61 (Nat.le_of_ble_eq_true rfl) rfl rfl (sh_61 n0) (Nat.le_of_ble_eq_true rfl) rfl rfl (by decide) (by decide) rfl ?_
  refine b_ic (pc2 := 119) (x := Int32.ofNat 0) d_De_send_118 rfl rfl ?_
  refine b_isn (pc2 := 120) (al2 := [(2, _), (0, _), (1, _)]) d_De_send_119 (by decide) rfl rfl ?_
  refine b_nf (al := [(2, _), (0, _), (1, _)]) (ks := [2, 0, 1]) (sub_c rfl (sub_c rfl (sub_c rfl (sub_n)))) rfl (by decide) ?_
  dsimp only
  refine (fun z => ?_ : _ → _) (lp_send_s (n0 := n0) (J := J) (g := g) (L := L) (e := e) (by omega) (pkt kd nx tu h) 0 (am_u1 (am_u1 W 63 (pkt kd nx tu h)) 61 []) (by rw [u1_ne _ _ (by decide), u1_at]; rfl) (by rw [u1_ne _ _ (by decide), u1_at]; omega) (by rw [u1_at]; rfl) (by rw [u1_ne _ _ (by decide), u1_at]; omega))
  rw [u1_u1, u1_at, List.nil_append] at z
  exact z
theorem de_send1_s {d : Nat} (hd : 3 ≤ d) {kd nx tu : Nat} {h : List Int32} (hk2 : kd ≤ 2) (hx : J 37 8 = Int32.ofNat nx) (hx2 : nx ≤ 1) (hu : J 37 7 = Int32.ofNat tu) (hu2 : tu ≤ 1) (hh2 : h.length ≤ 7) (hk : J 37 5 = Int32.ofNat kd) (hp : J 37 6 = 1) (hh : W 65 = h) : bm d (S0 n0) R0 64 [.ref 37, .ref 5] W J g L (bR none (am_u1 (am_u1 W 63 (pkt kd nx tu h)) 61 (wz (J 6) 0 (pkt kd nx tu h))) J g L) := by
  obtain ⟨e, rfl⟩ : ∃ e, d = e + 1 := ⟨d - 1, by omega⟩
  refine bm_of (Nat.le_of_ble_eq_true rfl) (Or.inr bR_ret) ?_
  show bT e (S0 n0) R0 mt_De_send _ 0 [(0, .ref 37), (1, .ref 5)] [] W J g L 0 0
  have hSR := SR0 n0
  refine b_aln (pc2 := 1) d_De_send_0 rfl rfl ?_
  refine b_gi (pc2 := 4) d_De_send_1 q_3_44 (sh_37 n0) (by decide) (by decide) (rc_37) rfl ?_
  refine b_ifd (pc2 := 27) d_De_send_4 rfl rfl rfl rfl rfl (fun h4 => ?_) (fun h4 => ?_)
  rotate_left
  · exact absurd (fun z => by rw [hp] at z; exact absurd z (by decide)) h4
  exact de_send27_s (by omega) hk hk2 hx hx2 hu hu2 hh hh2 rfl rfl
theorem de_send0_s {d : Nat} (hd : 3 ≤ d) {kd nx tu : Nat} {h : List Int32} (hk2 : kd ≤ 2) (hx : J 37 8 = Int32.ofNat nx) (hx2 : nx ≤ 1) (hu : J 37 7 = Int32.ofNat tu) (hu2 : tu ≤ 1) (hh2 : h.length ≤ 7) {W1 : bw_W} {J1 : bw_J} (hp : J 37 6 = 0) (hT : ∀ e, 2 ≤ e → bm e (S0 n0) R0 65 [.ref 38, .ref 65] W J g L (bR (some (.int (Int32.ofNat kd))) W1 J1 g L)) (hx1 : J1 37 8 = Int32.ofNat nx) (hu1 : J1 37 7 = Int32.ofNat tu) (hm : J1 6 = J 6) (hh : W1 65 = h) : bm d (S0 n0) R0 64 [.ref 37, .ref 5] W J g L (bR none (am_u1 (am_u1 W1 63 (pkt kd nx tu h)) 61 (wz (J 6) 0 (pkt kd nx tu h))) (am_u2 (am_u2 J1 37 5 (Int32.ofNat kd)) 37 6 1) g L) := by
  obtain ⟨e, rfl⟩ : ∃ e, d = e + 1 := ⟨d - 1, by omega⟩
  refine bm_of (Nat.le_of_ble_eq_true rfl) (Or.inr bR_ret) ?_
  show bT e (S0 n0) R0 mt_De_send _ 0 [(0, .ref 37), (1, .ref 5)] [] W J g L 0 0
  have hSR := SR0 n0
  refine b_aln (pc2 := 1) d_De_send_0 rfl rfl ?_
  refine b_gi (pc2 := 4) d_De_send_1 q_3_44 (sh_37 n0) (by decide) (by decide) (rc_37) rfl ?_
  refine b_ifd (pc2 := 27) d_De_send_4 rfl rfl rfl rfl rfl (fun h4 => ?_) (fun h4 => ?_)
  · exact absurd h4 (fun z => z hp)
  refine b_aln (pc2 := 8) d_De_send_7 rfl rfl ?_
  refine b_aln (pc2 := 9) d_De_send_8 rfl rfl ?_
  refine b_gr (pc2 := 12) d_De_send_9 q_3_12 (sh_37 n0) (by decide) (by decide) (p_37_0 n0) rfl ?_
  refine b_aln (pc2 := 13) d_De_send_12 rfl rfl ?_
  refine b_gr (pc2 := 16) d_De_send_13 q_3_37 (sh_37 n0) (by decide) (by decide) (p_37_4 n0) rfl ?_
  refine b_cv1 (pc2 := 19) (c2 := 0) (u2 := 0) (hT e (by omega)) d_De_send_16 q_3_57 (Nat.le_of_ble_eq_true rfl) rfl rfl (sh_38 n0) (Nat.le_of_ble_eq_true rfl) rfl rfl (by decide) (by decide) rfl ?_
  refine b_pi (pc2 := 22) d_De_send_19 q_3_40 (sh_37 n0) (by decide) (Or.inl (by decide)) (Or.inl rfl) (rc_37) rfl ?_
  refine b_aln (pc2 := 23) d_De_send_22 rfl rfl ?_
  refine b_ic (pc2 := 24) (x := Int32.ofNat 1) d_De_send_23 rfl rfl ?_
  refine b_pi (pc2 := 27) d_De_send_24 q_3_44 (sh_37 n0) (by decide) (Or.inl (by decide)) (Or.inr ⟨rfl, by decide⟩) (rc_37) rfl ?_
  refine (fun z => ?_ : _ → _) (de_send27_s (n0 := n0) (W := W1) (J := am_u2 (am_u2 J1 37 5 (Int32.ofNat kd)) 37 6 1) (g := g) (L := L) (e := e) (kd := kd) (nx := nx) (tu := tu) (h := h) (by omega) (by rw [u2_k _ _ (by decide), u2_at]) hk2 (by rw [u2_k _ _ (by decide), u2_k _ _ (by decide)]; exact hx1) hx2 (by rw [u2_k _ _ (by decide), u2_k _ _ (by decide)]; exact hu1) hu2 hh hh2 (al := [(0, .ref 37), (1, .ref 5)]) rfl rfl)
  rw [u2_a _ _ (by decide), u2_a _ _ (by decide), hm] at z
  exact z
theorem de_isGood_s {d : Nat} (hd : 3 ≤ d) {p : List Int32} (hp : W 63 = p) (hp5 : 5 ≤ p.length) {s : Nat} (hs : p.getD 1 0 = Int32.ofNat s) (hs2 : s < 256) : bm d (S0 n0) R0 72 [.ref 37] W J g L (bR (some (.int (if de_ok p s = true then 1 else 0))) W J g L) := by
  obtain ⟨e, rfl⟩ : ∃ e, d = e + 1 := ⟨d - 1, by omega⟩
  refine bm_of (Nat.le_of_ble_eq_true rfl) (Or.inr bR_ret) ?_
  show bT e (S0 n0) R0 mt_De_isGood _ 0 [(0, .ref 37)] [] W J g L 0 0
  have hSR := SR0 n0
  refine b_free fun hlen => ?_
  have hl : p.length ≤ 12 := by rw [← hp]; exact hlen 63 12 R_63
  refine b_aln (pc2 := 1) d_De_isGood_0 rfl rfl ?_
  refine b_gr (pc2 := 4) d_De_isGood_1 q_3_34 (sh_37 n0) (by decide) (by decide) (p_37_3 n0) rfl ?_
  refine b_cv1 (pc2 := 7) (c2 := 0) (u2 := 0) (rw_length (by omega) hSR R_63) d_De_isGood_4 q_3_67 (Nat.le_of_ble_eq_true rfl) rfl rfl (sh_63 n0) (Nat.le_of_ble_eq_true rfl) rfl rfl (by decide) (by decide) rfl ?_
  rw [hp]
  refine b_ic (pc2 := 8) (x := Int32.ofNat 3) d_De_isGood_7 rfl rfl ?_
  refine b_pure (pc2 := 9) d_De_isGood_8 rfl rfl rfl ?_
  rw [i_sub (by omega)]
  refine b_isn (pc2 := 10) (al2 := [(1, _), (0, _)]) d_De_isGood_9 (by decide) rfl rfl ?_
  refine b_aln (pc2 := 11) d_De_isGood_10 rfl rfl ?_
  refine b_gr (pc2 := 14) d_De_isGood_11 q_3_34 (sh_37 n0) (by decide) (by decide) (p_37_3 n0) rfl ?_
  refine b_ic (pc2 := 15) (x := Int32.ofNat 1) d_De_isGood_14 rfl rfl ?_
  refine b_cv1 (pc2 := 18) (c2 := 0) (u2 := 0) (rw_at (k := 1) (by omega) hSR R_63 (by decide)) d_De_isGood_15 q_3_83 (Nat.le_of_ble_eq_true rfl) rfl rfl (sh_63 n0) (Nat.le_of_ble_eq_true rfl) rfl rfl (by decide) (by decide) rfl ?_
  rw [hp, hs]
  refine b_bp (pc2 := 20) (x := Int32.ofNat 7) d_De_isGood_18 rfl rfl ?_
  refine b_ifd (pc2 := 37) d_De_isGood_20 rfl rfl rfl rfl rfl (fun h20 => ?_) (fun h20 => ?_)
  · refine b_ic (pc2 := 38) (x := Int32.ofNat 0) d_De_isGood_37 rfl rfl ?_
    refine b_br d_De_isGood_38 rfl (by decide) ?_
    rw [i_lt (by decide) (by omega)] at h20
    exact ⟨by rw [if_neg (fun z => by have := (of_decide_eq_true z).1; omega)]; rfl, rfl, rfl, rfl, rfl⟩
  · refine b_aln (pc2 := 24) d_De_isGood_23 rfl rfl ?_
    refine b_gr (pc2 := 27) d_De_isGood_24 q_3_34 (sh_37 n0) (by decide) (by decide) (p_37_3 n0) rfl ?_
    refine b_ic (pc2 := 28) (x := Int32.ofNat 1) d_De_isGood_27 rfl rfl ?_
    refine b_cv1 (pc2 := 31) (c2 := 0) (u2 := 0) (rw_at (k := 1) (by omega) hSR R_63 (by decide)) d_De_isGood_28 q_3_83 (Nat.le_of_ble_eq_true rfl) rfl rfl (sh_63 n0) (Nat.le_of_ble_eq_true rfl) rfl rfl (by decide) (by decide) rfl ?_
    rw [hp, hs]
    refine b_iln (pc2 := 32) d_De_isGood_31 rfl rfl ?_
    refine b_ic (pc2 := 33) (x := Int32.ofNat 2) d_De_isGood_32 rfl rfl ?_
    refine b_pure (pc2 := 34) d_De_isGood_33 rfl rfl rfl ?_
    rw [i_sub (by omega)]
    refine b_ifd (pc2 := 39) d_De_isGood_34 rfl rfl rfl rfl rfl (fun h34 => ?_) (fun h34 => ?_)
    · refine b_aln (pc2 := 40) d_De_isGood_39 rfl rfl ?_
      refine b_gr (pc2 := 43) d_De_isGood_40 q_3_34 (sh_37 n0) (by decide) (by decide) (p_37_3 n0) rfl ?_
      refine b_iln (pc2 := 44) d_De_isGood_43 rfl rfl ?_
      refine b_cv1 (pc2 := 47) (c2 := 0) (u2 := 0) (rw_at (by omega) hSR R_63 (by omega)) d_De_isGood_44 q_3_83 (Nat.le_of_ble_eq_true rfl) rfl rfl (sh_63 n0) (Nat.le_of_ble_eq_true rfl) rfl rfl (by decide) (by decide) rfl ?_
      rw [hp]
      refine b_bp (pc2 := 49) (x := Int32.ofNat 16) d_De_isGood_47 rfl rfl ?_
      refine b_pure (pc2 := 50) d_De_isGood_49 rfl rfl rfl ?_
      refine b_aln (pc2 := 51) d_De_isGood_50 rfl rfl ?_
      refine b_gr (pc2 := 54) d_De_isGood_51 q_3_34 (sh_37 n0) (by decide) (by decide) (p_37_3 n0) rfl ?_
      refine b_iln (pc2 := 55) d_De_isGood_54 rfl rfl ?_
      refine b_ic (pc2 := 56) (x := Int32.ofNat 1) d_De_isGood_55 rfl rfl ?_
      refine b_pure (pc2 := 57) d_De_isGood_56 rfl rfl rfl ?_
      rw [i_add]
      refine b_cv1 (pc2 := 60) (c2 := 0) (u2 := 0) (rw_at (by omega) hSR R_63 (by omega)) d_De_isGood_57 q_3_83 (Nat.le_of_ble_eq_true rfl) rfl rfl (sh_63 n0) (Nat.le_of_ble_eq_true rfl) rfl rfl (by decide) (by decide) rfl ?_
      rw [hp]
      refine b_bp (pc2 := 62) (x := Int32.ofNat 8) d_De_isGood_60 rfl rfl ?_
      refine b_pure (pc2 := 63) d_De_isGood_62 rfl rfl rfl ?_
      refine b_pure (pc2 := 64) d_De_isGood_63 rfl rfl rfl ?_
      refine b_aln (pc2 := 65) d_De_isGood_64 rfl rfl ?_
      refine b_gr (pc2 := 68) d_De_isGood_65 q_3_34 (sh_37 n0) (by decide) (by decide) (p_37_3 n0) rfl ?_
      refine b_iln (pc2 := 69) d_De_isGood_68 rfl rfl ?_
      refine b_ic (pc2 := 70) (x := Int32.ofNat 2) d_De_isGood_69 rfl rfl ?_
      refine b_pure (pc2 := 71) d_De_isGood_70 rfl rfl rfl ?_
      rw [i_add]
      refine b_cv1 (pc2 := 74) (c2 := 0) (u2 := 0) (rw_at (by omega) hSR R_63 (by omega)) d_De_isGood_71 q_3_83 (Nat.le_of_ble_eq_true rfl) rfl rfl (sh_63 n0) (Nat.le_of_ble_eq_true rfl) rfl rfl (by decide) (by decide) rfl ?_
      rw [hp]
      refine b_pure (pc2 := 75) d_De_isGood_74 rfl rfl rfl ?_
      refine b_isn (pc2 := 76) (al2 := [(2, _), (1, _), (0, _)]) d_De_isGood_75 (by decide) rfl rfl ?_
      refine b_iln (pc2 := 77) d_De_isGood_76 rfl rfl ?_
      refine b_aln (pc2 := 78) d_De_isGood_77 rfl rfl ?_
      refine b_gr (pc2 := 81) d_De_isGood_78 q_3_34 (sh_37 n0) (by decide) (by decide) (p_37_3 n0) rfl ?_
      refine b_iln (pc2 := 82) d_De_isGood_81 rfl rfl ?_
      refine b_cs1 (pc2 := 85) (c2 := 0) (u2 := 0) (de_checkOf (by omega) R_63 (by rw [hp]; omega)) d_De_isGood_82 q_3_75 (Or.inl rfl) (Nat.le_of_ble_eq_true rfl) rfl rfl (Nat.le_of_ble_eq_true rfl) rfl rfl (by decide) (by decide) rfl ?_
      rw [hp]
      refine b_ifd (pc2 := 92) d_De_isGood_85 rfl rfl rfl rfl rfl (fun h85 => ?_) (fun h85 => ?_)
      · refine b_ic (pc2 := 93) (x := Int32.ofNat 0) d_De_isGood_92 rfl rfl ?_
        refine b_br d_De_isGood_93 rfl (by decide) ?_
        exact ⟨by rw [if_neg (fun z => h85 (of_decide_eq_true z).2.2)]; rfl, rfl, rfl, rfl, rfl⟩
      · refine b_ic (pc2 := 89) (x := Int32.ofNat 1) d_De_isGood_88 rfl rfl ?_
        refine b_go (pc2 := 93) d_De_isGood_89 rfl ?_
        refine b_br d_De_isGood_93 rfl (by decide) ?_
        rw [i_lt (by decide) (by omega)] at h20
        rw [i_eq (by omega) (by omega)] at h34
        exact ⟨by rw [if_pos (show de_ok p s = true from decide_eq_true ⟨by omega, by omega, Decidable.not_not.mp h85⟩)]; rfl, rfl, rfl, rfl, rfl⟩
    · refine b_ic (pc2 := 38) (x := Int32.ofNat 0) d_De_isGood_37 rfl rfl ?_
      refine b_br d_De_isGood_38 rfl (by decide) ?_
      rw [i_eq (by omega) (by omega)] at h34
      exact ⟨by rw [if_neg (fun z => by have := (of_decide_eq_true z).2.1; omega)]; rfl, rfl, rfl, rfl, rfl⟩
end DE
