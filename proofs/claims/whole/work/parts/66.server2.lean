/-! Part 66 (written by gen17.py): Server: answers to find, read, write, part; the shape -/
/-- the first handle from h on, of k, whose type is x -/
def fnd (J : bw_J) (x : Int32) : Nat → Nat → Option Nat
  | 0, _ => none
  | k + 1, h => if J (88 + 3 * (h - 1)) 1 = x then some h else fnd J x k (h + 1)
section SA
variable {n0 : Nat} {W : bw_W} {J : bw_J} {g : Nat} {L : bw_L}
variable {i : Nat}
theorem lp_find {e : Nat} (he : 1 ≤ e) {ct : Nat} (hc : J 86 1 = Int32.ofNat ct) (hc2 : ct ≤ 10) {f0 x : Int32} (ha : W 128 = []) : ∀ (k h : Nat), k = ct + 1 - h → 1 ≤ h → h < 1000 → bT e (S0 n0) R0 mt_Se_answerFind (match fnd J x k h with | some q => bR (some (.int 0)) (am_u1 W 128 [Int32.ofNat 17, Int32.ofNat q]) J g L | none => bR (some (.int (Int32.ofNat 10))) W J g L) 6 [(3, .int (Int32.ofNat h)), (0, .ref 86), (1, .int f0), (2, .int x)] [] W J g L 0 0 := by
  have hSR := SR0 n0
  intro k
  induction k with
  | zero =>
    intro h hk h1 h2
    refine b_iln (pc2 := 7) d_Se_answerFind_6 rfl rfl ?_
    refine b_aln (pc2 := 8) d_Se_answerFind_7 rfl rfl ?_
    refine b_gi (pc2 := 11) d_Se_answerFind_8 q_8_18 (sh_86 n0) (by decide) (by decide) (rc_86) rfl ?_
    rw [hc]
    refine b_ifd (pc2 := 54) d_Se_answerFind_11 rfl rfl rfl rfl rfl (fun h11 => ?_) (fun h11 => ?_)
    rotate_left
    · exact absurd ((i_lt (by omega) (by omega)).mpr (by omega)) h11
    refine b_bp (pc2 := 56) (x := Int32.ofNat 10) d_Se_answerFind_54 rfl rfl ?_
    refine b_ir d_Se_answerFind_56 rfl ?_
    exact ⟨rfl, rfl, rfl, rfl, rfl⟩
  | succ k ih =>
    intro h hk h1 h2
    have hi : h - 1 < 10 := by omega
    unfold fnd
    refine b_iln (pc2 := 7) d_Se_answerFind_6 rfl rfl ?_
    refine b_aln (pc2 := 8) d_Se_answerFind_7 rfl rfl ?_
    refine b_gi (pc2 := 11) d_Se_answerFind_8 q_8_18 (sh_86 n0) (by decide) (by decide) (rc_86) rfl ?_
    rw [hc]
    refine b_ifd (pc2 := 54) d_Se_answerFind_11 rfl rfl rfl rfl rfl (fun h11 => ?_) (fun h11 => ?_)
    · exact absurd h11 (fun z => by rw [i_lt (by omega) (by omega)] at z; omega)
    refine b_aln (pc2 := 15) d_Se_answerFind_14 rfl rfl ?_
    refine b_gr (pc2 := 18) d_Se_answerFind_15 q_8_13 (sh_86 n0) (by decide) (by decide) (p_86_0 n0) rfl ?_
    refine b_iln (pc2 := 19) d_Se_answerFind_18 rfl rfl ?_
    refine b_ic (pc2 := 20) (x := Int32.ofNat 1) d_Se_answerFind_19 rfl rfl ?_
    refine b_pure (pc2 := 21) d_Se_answerFind_20 rfl rfl rfl ?_
    rw [i_sub (by omega)]
    refine b_aa (pc2 := 22) (q := (h - 1)) d_Se_answerFind_21 (sh_87 n0) (Or.inr rfl) (i_in hi (by decide)) (i_tn (by omega)) (at_P n0 hi) rfl ?_
    refine b_iln (pc2 := 23) d_Se_answerFind_22 rfl rfl ?_
    refine b_cv1 (pc2 := 26) (c2 := 0) (u2 := 0) (at_isOfType he hi) d_Se_answerFind_23 q_8_118 (Nat.le_of_ble_eq_true rfl) rfl rfl (at_H n0 hi) (Nat.le_of_ble_eq_true rfl) rfl rfl (by decide) (by decide) rfl ?_
    refine b_ifd (pc2 := 48) d_Se_answerFind_26 rfl rfl rfl rfl rfl (fun h26 => ?_) (fun h26 => ?_)
    · have hj : ¬ J (88 + 3 * (h - 1)) 1 = x := fun q => by rw [if_pos q] at h26; exact absurd h26 (by decide)
      rw [if_neg hj]
      refine b_inc (pc2 := 51) (al2 := [(3, _), (0, _), (1, _), (2, _)]) (y := Int32.ofNat 1) d_Se_answerFind_48 (by decide) rfl rfl rfl rfl ?_
      refine b_go (pc2 := 6) d_Se_answerFind_51 rfl ?_
      refine b_nf (al := [(3, _), (0, _), (1, _), (2, _)]) (ks := [3, 0, 1, 2]) (sub_c rfl (sub_c rfl (sub_c rfl (sub_c rfl (sub_n))))) rfl (by decide) ?_
      dsimp only
      rw [i_add]
      exact ih (h + 1) (by omega) (by omega) (by omega)
    · have hj : J (88 + 3 * (h - 1)) 1 = x := by
        by_cases q : J (88 + 3 * (h - 1)) 1 = x
        · exact q
        · rw [if_neg q] at h26; exact absurd rfl h26
      rw [if_pos hj]
      refine b_aln (pc2 := 30) d_Se_answerFind_29 rfl rfl ?_
      refine b_gr (pc2 := 33) d_Se_answerFind_30 q_8_38 (sh_86 n0) (by decide) (by decide) (p_86_5 n0) rfl ?_
      refine b_bp (pc2 := 35) (x := Int32.ofNat 17) d_Se_answerFind_33 rfl rfl ?_
      refine b_cv0 (pc2 := 38) (c2 := 0) (u2 := 0) (rw_add (by omega) hSR R_128 (by rw [ha]; decide)) d_Se_answerFind_35 q_8_63 (Nat.le_of_ble_eq_true rfl) rfl rfl (sh_128 n0) (Nat.le_of_ble_eq_true rfl) rfl rfl (by decide) (by decide) rfl ?_
      rw [ha, List.nil_append, b255 (n := 17) (by decide)]
      refine b_aln (pc2 := 39) d_Se_answerFind_38 rfl rfl ?_
      refine b_gr (pc2 := 42) d_Se_answerFind_39 q_8_38 (sh_86 n0) (by decide) (by decide) (p_86_5 n0) rfl ?_
      refine b_iln (pc2 := 43) d_Se_answerFind_42 rfl rfl ?_
      refine b_cv0 (pc2 := 46) (c2 := 0) (u2 := 0) (rw_add (by omega) hSR R_128 (by simp only [u1_at, List.length_append, List.length_cons, List.length_nil]; omega)) d_Se_answerFind_43 q_8_63 (Nat.le_of_ble_eq_true rfl) rfl rfl (sh_128 n0) (Nat.le_of_ble_eq_true rfl) rfl rfl (by decide) (by decide) rfl ?_
      rw [u1_u1, u1_at, b255 (n := h) (by omega)]
      refine b_ic (pc2 := 47) (x := Int32.ofNat 0) d_Se_answerFind_46 rfl rfl ?_
      refine b_ir d_Se_answerFind_47 rfl ?_
      exact ⟨rfl, rfl, rfl, rfl, rfl⟩
theorem mx_1 {f : Nat} (hf : f < 256) : (if Int32.ofNat f < Int32.ofNat 1 then Int32.ofNat 1 else Int32.ofNat f) = Int32.ofNat (max f 1) := by
  by_cases h : f < 1
  · rw [if_pos ((i_lt (by omega) (by decide)).mpr h), Nat.max_eq_right (by omega)]
  · rw [if_neg (fun z => h ((i_lt (by omega) (by decide)).mp z)), Nat.max_eq_left (by omega)]
theorem se_answerFind {d : Nat} (hd : 2 ≤ d) {ct f : Nat} (hc : J 86 1 = Int32.ofNat ct) (hc2 : ct ≤ 10) (hf : f < 256) {x : Int32} (ha : W 128 = []) : bm d (S0 n0) R0 81 [.ref 86, .int (Int32.ofNat f), .int x] W J g L (match fnd J x (ct + 1 - max f 1) (max f 1) with | some q => bR (some (.int 0)) (am_u1 W 128 [Int32.ofNat 17, Int32.ofNat q]) J g L | none => bR (some (.int (Int32.ofNat 10))) W J g L) := by
  obtain ⟨e, rfl⟩ : ∃ e, d = e + 1 := ⟨d - 1, by omega⟩
  refine bm_of (Nat.le_of_ble_eq_true rfl) (Or.inr (fun o W1 J1 g1 L1 q => by revert q; cases fnd J x (ct + 1 - max f 1) (max f 1) <;> exact fun q => ⟨_, q.1⟩)) ?_
  show bT e (S0 n0) R0 mt_Se_answerFind _ 0 [(0, .ref 86), (1, .int (Int32.ofNat f)), (2, .int x)] [] W J g L 0 0
  refine b_iln (pc2 := 1) d_Se_answerFind_0 rfl rfl ?_
  refine b_ic (pc2 := 2) (x := Int32.ofNat 1) d_Se_answerFind_1 rfl rfl ?_
  refine b_mx (pc2 := 5) (i := 0) d_Se_answerFind_2 q_8_113 (Nat.le_of_ble_eq_true rfl) rfl ?_
  rw [mx_1 hf]
  refine b_isn (pc2 := 6) (al2 := [(3, _), (0, _), (1, _), (2, _)]) d_Se_answerFind_5 (by decide) rfl rfl ?_
  refine b_nf (al := [(3, _), (0, _), (1, _), (2, _)]) (ks := [3, 0, 1, 2]) (sub_c rfl (sub_c rfl (sub_c rfl (sub_c rfl (sub_n))))) rfl (by decide) ?_
  dsimp only
  exact lp_find (by omega) hc hc2 ha _ _ rfl (by omega) (by omega)
theorem se_answerRead {d : Nat} (hd : 2 ≤ d) (hi : i < 10) {rq pl lm : Nat} (hrq : rq < 255) (hpl : pl < 256) (hlm : J 86 6 = Int32.ofNat lm) (hl1 : 8 ≤ lm) (hl2 : lm ≤ 20) (ha : W 128 = []) : bm d (S0 n0) R0 88 [.ref 86, .int (Int32.ofNat rq), .ref (89 + 3 * i), .int (Int32.ofNat pl)] W J g L (if (W (89 + 3 * i)).length < pl then bR (some (.int (Int32.ofNat 7))) W J g L else bR (some (.int 0)) (am_u1 W 128 (Int32.ofNat (rq + 1) :: ((W (89 + 3 * i)).drop pl).take (lm - 1))) J g L) := by
  obtain ⟨e, rfl⟩ : ∃ e, d = e + 1 := ⟨d - 1, by omega⟩
  refine bm_of (Nat.le_of_ble_eq_true rfl) (Or.inr (fun o W1 J1 g1 L1 q => by revert q; split <;> exact fun q => ⟨_, q.1⟩)) ?_
  show bT e (S0 n0) R0 mt_Se_answerRead _ 0 [(0, .ref 86), (1, .int (Int32.ofNat rq)), (2, .ref (89 + 3 * i)), (3, .int (Int32.ofNat pl))] [] W J g L 0 0
  have hSR := SR0 n0
  refine b_free fun hlen => ?_
  have hl := hlen _ 16 (at_R hi)
  refine b_iln (pc2 := 1) d_Se_answerRead_0 rfl rfl ?_
  refine b_aln (pc2 := 2) d_Se_answerRead_1 rfl rfl ?_
  refine b_cv1 (pc2 := 5) (c2 := 0) (u2 := 0) (rw_length (by omega) hSR (at_R hi)) d_Se_answerRead_2 q_8_80 (Nat.le_of_ble_eq_true rfl) rfl rfl ((hSR _ _ (at_R hi)).1) (Nat.le_of_ble_eq_true rfl) rfl rfl (by decide) (by decide) rfl ?_
  refine b_ifd (pc2 := 11) d_Se_answerRead_5 rfl rfl rfl rfl rfl (fun h5 => ?_) (fun h5 => ?_)
  · rw [i_le (by omega) (by omega)] at h5
    rw [if_neg (by omega)]
    refine b_aln (pc2 := 12) d_Se_answerRead_11 rfl rfl ?_
    refine b_gr (pc2 := 15) d_Se_answerRead_12 q_8_38 (sh_86 n0) (by decide) (by decide) (p_86_5 n0) rfl ?_
    refine b_iln (pc2 := 16) d_Se_answerRead_15 rfl rfl ?_
    refine b_ic (pc2 := 17) (x := Int32.ofNat 1) d_Se_answerRead_16 rfl rfl ?_
    refine b_pure (pc2 := 18) d_Se_answerRead_17 rfl rfl rfl ?_
    rw [i_add]
    refine b_cv0 (pc2 := 21) (c2 := 0) (u2 := 0) (rw_add (by omega) hSR R_128 (by rw [ha]; decide)) d_Se_answerRead_18 q_8_63 (Nat.le_of_ble_eq_true rfl) rfl rfl (sh_128 n0) (Nat.le_of_ble_eq_true rfl) rfl rfl (by decide) (by decide) rfl ?_
    rw [ha, List.nil_append, b255 (by omega)]
    refine b_aln (pc2 := 22) d_Se_answerRead_21 rfl rfl ?_
    refine b_gr (pc2 := 25) d_Se_answerRead_22 q_8_38 (sh_86 n0) (by decide) (by decide) (p_86_5 n0) rfl ?_
    refine b_aln (pc2 := 26) d_Se_answerRead_25 rfl rfl ?_
    refine b_iln (pc2 := 27) d_Se_answerRead_26 rfl rfl ?_
    refine b_aln (pc2 := 28) d_Se_answerRead_27 rfl rfl ?_
    refine b_gi (pc2 := 31) d_Se_answerRead_28 q_8_42 (sh_86 n0) (by decide) (by decide) (rc_86) rfl ?_
    refine b_ic (pc2 := 32) (x := Int32.ofNat 1) d_Se_answerRead_31 rfl rfl ?_
    rw [hlm]
    refine b_pure (pc2 := 33) d_Se_answerRead_32 rfl rfl rfl ?_
    rw [i_sub (by omega)]
    refine b_cv0 (pc2 := 36) (c2 := 0) (u2 := 0) (rw_addFrom (by omega) hSR R_128 (at_R hi) (by omega) (by omega) (by omega)) d_Se_answerRead_33 q_8_70 (Nat.le_of_ble_eq_true rfl) rfl rfl (sh_128 n0) (Nat.le_of_ble_eq_true rfl) rfl rfl (by decide) (by decide) rfl ?_
    rw [u1_u1, u1_at, u1_ne _ _ (by omega), List.singleton_append, List.take_of_length_le (show (((W (89 + 3 * i)).drop pl).take (lm - 1)).length ≤ 20 - [Int32.ofNat (rq + 1)].length by rw [List.length_take]; show _ ≤ 19; omega)]
    refine b_ic (pc2 := 37) (x := Int32.ofNat 0) d_Se_answerRead_36 rfl rfl ?_
    refine b_ir d_Se_answerRead_37 rfl ?_
    exact ⟨rfl, rfl, rfl, rfl, rfl⟩
  · rw [i_le (by omega) (by omega)] at h5
    rw [if_pos (by omega)]
    refine b_bp (pc2 := 10) (x := Int32.ofNat 7) d_Se_answerRead_8 rfl rfl ?_
    refine b_ir d_Se_answerRead_10 rfl ?_
    exact ⟨rfl, rfl, rfl, rfl, rfl⟩
theorem se_answerWrite {d : Nat} (hd : 2 ≤ d) (hi : i < 10) (hm : (W 57).length ≤ 20) (hm2 : 2 ≤ (W 57).length) (ha : W 128 = []) : bm d (S0 n0) R0 90 [.ref 86, .ref (89 + 3 * i), .ref 57] W J g L (if 18 < (W 57).length then bR (some (.int (Int32.ofNat 13))) W J g L else bR (some (.int 0)) (am_u1 (am_u1 W (89 + 3 * i) ((W 57).drop 2)) 128 [Int32.ofNat 19]) J g L) := by
  obtain ⟨e, rfl⟩ : ∃ e, d = e + 1 := ⟨d - 1, by omega⟩
  refine bm_of (Nat.le_of_ble_eq_true rfl) (Or.inr (fun o W1 J1 g1 L1 q => by revert q; split <;> exact fun q => ⟨_, q.1⟩)) ?_
  show bT e (S0 n0) R0 mt_Se_answerWrite _ 0 [(0, .ref 86), (1, .ref (89 + 3 * i)), (2, .ref 57)] [] W J g L 0 0
  have hSR := SR0 n0
  refine b_aln (pc2 := 1) d_Se_answerWrite_0 rfl rfl ?_
  refine b_cv1 (pc2 := 4) (c2 := 0) (u2 := 0) (rw_length (by omega) hSR R_57) d_Se_answerWrite_1 q_8_80 (Nat.le_of_ble_eq_true rfl) rfl rfl (sh_57 n0) (Nat.le_of_ble_eq_true rfl) rfl rfl (by decide) (by decide) rfl ?_
  refine b_ic (pc2 := 5) (x := Int32.ofNat 2) d_Se_answerWrite_4 rfl rfl ?_
  refine b_pure (pc2 := 6) d_Se_answerWrite_5 rfl rfl rfl ?_
  rw [i_sub (by omega)]
  refine b_bp (pc2 := 8) (x := Int32.ofNat 16) d_Se_answerWrite_6 rfl rfl ?_
  refine b_ifd (pc2 := 14) d_Se_answerWrite_8 rfl rfl rfl rfl rfl (fun h8 => ?_) (fun h8 => ?_)
  · rw [i_le (by omega) (by decide)] at h8
    rw [if_neg (by omega)]
    refine b_aln (pc2 := 15) d_Se_answerWrite_14 rfl rfl ?_
    refine b_cv0 (pc2 := 18) (c2 := 0) (u2 := 0) (rw_clear (by omega) hSR (at_R hi)) d_Se_answerWrite_15 q_8_60 (Nat.le_of_ble_eq_true rfl) rfl rfl ((hSR _ _ (at_R hi)).1) (Nat.le_of_ble_eq_true rfl) rfl rfl (by decide) (by decide) rfl ?_
    refine b_aln (pc2 := 19) d_Se_answerWrite_18 rfl rfl ?_
    refine b_aln (pc2 := 20) d_Se_answerWrite_19 rfl rfl ?_
    refine b_ic (pc2 := 21) (x := Int32.ofNat 2) d_Se_answerWrite_20 rfl rfl ?_
    refine b_bp (pc2 := 23) (x := Int32.ofNat 16) d_Se_answerWrite_21 rfl rfl ?_
    refine b_cv0 (pc2 := 26) (c2 := 0) (u2 := 0) (rw_addFrom (f := 2) (mo := 16) (by omega) hSR (at_R hi) R_57 (by omega) (by decide) (by decide)) d_Se_answerWrite_23 q_8_70 (Nat.le_of_ble_eq_true rfl) rfl rfl ((hSR _ _ (at_R hi)).1) (Nat.le_of_ble_eq_true rfl) rfl rfl (by decide) (by decide) rfl ?_
    rw [u1_u1, u1_at, u1_ne _ _ (by omega), List.nil_append, List.take_of_length_le (show ((W 57).drop 2).length ≤ 16 by rw [List.length_drop]; omega), List.take_of_length_le (show ((W 57).drop 2).length ≤ 16 - ([] : List Int32).length by rw [List.length_drop]; show _ ≤ 16; omega)]
    refine b_aln (pc2 := 27) d_Se_answerWrite_26 rfl rfl ?_
    refine b_gr (pc2 := 30) d_Se_answerWrite_27 q_8_38 (sh_86 n0) (by decide) (by decide) (p_86_5 n0) rfl ?_
    refine b_bp (pc2 := 32) (x := Int32.ofNat 19) d_Se_answerWrite_30 rfl rfl ?_
    refine b_cv0 (pc2 := 35) (c2 := 0) (u2 := 0) (rw_add (by omega) hSR R_128 (by rw [u1_ne _ _ (by omega), ha]; decide)) d_Se_answerWrite_32 q_8_63 (Nat.le_of_ble_eq_true rfl) rfl rfl (sh_128 n0) (Nat.le_of_ble_eq_true rfl) rfl rfl (by decide) (by decide) rfl ?_
    rw [u1_ne _ _ (by omega), ha, List.nil_append, b255 (n := 19) (by decide)]
    refine b_ic (pc2 := 36) (x := Int32.ofNat 0) d_Se_answerWrite_35 rfl rfl ?_
    refine b_ir d_Se_answerWrite_36 rfl ?_
    exact ⟨rfl, rfl, rfl, rfl, rfl⟩
  · rw [i_le (by omega) (by decide)] at h8
    rw [if_pos (by omega)]
    refine b_bp (pc2 := 13) (x := Int32.ofNat 13) d_Se_answerWrite_11 rfl rfl ?_
    refine b_ir d_Se_answerWrite_13 rfl ?_
    exact ⟨rfl, rfl, rfl, rfl, rfl⟩
theorem se_answerPart {d : Nat} (hd : 2 ≤ d) {pn : Nat} (hp : J 86 3 = Int32.ofNat pn) (hpn : pn ≤ 4) (hm : (W 57).length ≤ 20) (hm1 : 1 ≤ (W 57).length) (ha : W 128 = []) : bm d (S0 n0) R0 91 [.ref 86, .ref 57] W J g L (if pn < 4 then bR (some (.int 0)) (am_u1 (am_u1 W (119 + 2 * pn) ((W 57).drop 1)) 128 (Int32.ofNat 23 :: (W 57).drop 1)) (am_u2 J 86 3 (Int32.ofNat (pn + 1))) g L else bR (some (.int (Int32.ofNat 9))) W J g L) := by
  obtain ⟨e, rfl⟩ : ∃ e, d = e + 1 := ⟨d - 1, by omega⟩
  refine bm_of (Nat.le_of_ble_eq_true rfl) (Or.inr (fun o W1 J1 g1 L1 q => by revert q; split <;> exact fun q => ⟨_, q.1⟩)) ?_
  show bT e (S0 n0) R0 mt_Se_answerPart _ 0 [(0, .ref 86), (1, .ref 57)] [] W J g L 0 0
  have hSR := SR0 n0
  refine b_aln (pc2 := 1) d_Se_answerPart_0 rfl rfl ?_
  refine b_gi (pc2 := 4) d_Se_answerPart_1 q_8_31 (sh_86 n0) (by decide) (by decide) (rc_86) rfl ?_
  rw [hp]
  refine b_ic (pc2 := 5) (x := Int32.ofNat 4) d_Se_answerPart_4 rfl rfl ?_
  refine b_ifd (pc2 := 11) d_Se_answerPart_5 rfl rfl rfl rfl rfl (fun h5 => ?_) (fun h5 => ?_)
  · rw [i_lt (by omega) (by decide)] at h5
    rw [if_pos h5]
    have hp4 := h5
    have hd19 : ((W 57).drop 1).length ≤ 19 := by rw [List.length_drop]; omega
    refine b_aln (pc2 := 12) d_Se_answerPart_11 rfl rfl ?_
    refine b_gr (pc2 := 15) d_Se_answerPart_12 q_8_24 (sh_86 n0) (by decide) (by decide) (p_86_2 n0) rfl ?_
    refine b_aln (pc2 := 16) d_Se_answerPart_15 rfl rfl ?_
    refine b_gi (pc2 := 19) d_Se_answerPart_16 q_8_31 (sh_86 n0) (by decide) (by decide) (rc_86) rfl ?_
    rw [hp]
    refine b_aa (pc2 := 20) (q := pn) d_Se_answerPart_19 (sh_118 n0) (Or.inl rfl) (i_in hp4 (by decide)) (i_tn (by omega)) (pt_P n0 hp4) rfl ?_
    refine b_cv0 (pc2 := 23) (c2 := 0) (u2 := 0) (rw_clear (by omega) hSR (pt_R hp4)) d_Se_answerPart_20 q_8_60 (Nat.le_of_ble_eq_true rfl) rfl rfl (pt_H n0 hp4) (Nat.le_of_ble_eq_true rfl) rfl rfl (by decide) (by decide) rfl ?_
    refine b_aln (pc2 := 24) d_Se_answerPart_23 rfl rfl ?_
    refine b_gr (pc2 := 27) d_Se_answerPart_24 q_8_24 (sh_86 n0) (by decide) (by decide) (p_86_2 n0) rfl ?_
    refine b_aln (pc2 := 28) d_Se_answerPart_27 rfl rfl ?_
    refine b_gi (pc2 := 31) d_Se_answerPart_28 q_8_31 (sh_86 n0) (by decide) (by decide) (rc_86) rfl ?_
    rw [hp]
    refine b_aa (pc2 := 32) (q := pn) d_Se_answerPart_31 (sh_118 n0) (Or.inl rfl) (i_in hp4 (by decide)) (i_tn (by omega)) (pt_P n0 hp4) rfl ?_
    refine b_aln (pc2 := 33) d_Se_answerPart_32 rfl rfl ?_
    refine b_ic (pc2 := 34) (x := Int32.ofNat 1) d_Se_answerPart_33 rfl rfl ?_
    refine b_bp (pc2 := 36) (x := Int32.ofNat 20) d_Se_answerPart_34 rfl rfl ?_
    refine b_cv0 (pc2 := 39) (c2 := 0) (u2 := 0) (rw_addFrom (f := 1) (mo := 20) (by omega) hSR (pt_R hp4) R_57 (by omega) (by decide) (by decide)) d_Se_answerPart_36 q_8_70 (Nat.le_of_ble_eq_true rfl) rfl rfl (pt_H n0 hp4) (Nat.le_of_ble_eq_true rfl) rfl rfl (by decide) (by decide) rfl ?_
    rw [u1_u1, u1_at, u1_ne _ _ (by omega), List.nil_append, List.take_of_length_le (show ((W 57).drop 1).length ≤ 20 by omega), List.take_of_length_le (show ((W 57).drop 1).length ≤ 20 - ([] : List Int32).length from Nat.le_trans hd19 (by decide))]
    refine b_aln (pc2 := 40) d_Se_answerPart_39 rfl rfl ?_
    refine b_pure (pc2 := 41) d_Se_answerPart_40 rfl rfl rfl ?_
    refine b_gi (pc2 := 44) d_Se_answerPart_41 q_8_31 (sh_86 n0) (by decide) (by decide) (rc_86) rfl ?_
    rw [hp]
    refine b_ic (pc2 := 45) (x := Int32.ofNat 1) d_Se_answerPart_44 rfl rfl ?_
    refine b_pure (pc2 := 46) d_Se_answerPart_45 rfl rfl rfl ?_
    rw [i_add]
    refine b_pi (pc2 := 49) d_Se_answerPart_46 q_8_31 (sh_86 n0) (by decide) (Or.inl (by decide)) (Or.inl rfl) (rc_86) rfl ?_
    refine b_aln (pc2 := 50) d_Se_answerPart_49 rfl rfl ?_
    refine b_gr (pc2 := 53) d_Se_answerPart_50 q_8_38 (sh_86 n0) (by decide) (by decide) (p_86_5 n0) rfl ?_
    refine b_bp (pc2 := 55) (x := Int32.ofNat 23) d_Se_answerPart_53 rfl rfl ?_
    refine b_cv0 (pc2 := 58) (c2 := 0) (u2 := 0) (rw_add (by omega) hSR R_128 (by rw [u1_ne _ _ (by omega), ha]; decide)) d_Se_answerPart_55 q_8_63 (Nat.le_of_ble_eq_true rfl) rfl rfl (sh_128 n0) (Nat.le_of_ble_eq_true rfl) rfl rfl (by decide) (by decide) rfl ?_
    rw [u1_ne _ _ (by omega), ha, List.nil_append, b255 (n := 23) (by decide)]
    refine b_aln (pc2 := 59) d_Se_answerPart_58 rfl rfl ?_
    refine b_gr (pc2 := 62) d_Se_answerPart_59 q_8_38 (sh_86 n0) (by decide) (by decide) (p_86_5 n0) rfl ?_
    refine b_aln (pc2 := 63) d_Se_answerPart_62 rfl rfl ?_
    refine b_ic (pc2 := 64) (x := Int32.ofNat 1) d_Se_answerPart_63 rfl rfl ?_
    refine b_bp (pc2 := 66) (x := Int32.ofNat 20) d_Se_answerPart_64 rfl rfl ?_
    refine b_cv0 (pc2 := 69) (c2 := 0) (u2 := 0) (rw_addFrom (f := 1) (mo := 20) (by omega) hSR R_128 R_57 (by decide) (by decide) (by decide)) d_Se_answerPart_66 q_8_70 (Nat.le_of_ble_eq_true rfl) rfl rfl (sh_128 n0) (Nat.le_of_ble_eq_true rfl) rfl rfl (by decide) (by decide) rfl ?_
    rw [u1_u1, u1_at, u1_ne _ _ (by decide), u1_ne _ _ (by omega), List.take_of_length_le (show ((W 57).drop 1).length ≤ 20 by omega), List.take_of_length_le (show ((W 57).drop 1).length ≤ 20 - [Int32.ofNat 23].length from hd19), List.singleton_append]
    refine b_ic (pc2 := 70) (x := Int32.ofNat 0) d_Se_answerPart_69 rfl rfl ?_
    refine b_ir d_Se_answerPart_70 rfl ?_
    exact ⟨rfl, rfl, rfl, rfl, rfl⟩
  · rw [i_lt (by omega) (by decide)] at h5
    rw [if_neg h5]
    refine b_bp (pc2 := 10) (x := Int32.ofNat 9) d_Se_answerPart_8 rfl rfl ?_
    refine b_ir d_Se_answerPart_10 rfl ?_
    exact ⟨rfl, rfl, rfl, rfl, rfl⟩
end SA
