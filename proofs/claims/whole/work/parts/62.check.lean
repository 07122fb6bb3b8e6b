/-! Part 62 (written by gen13.py): the check and the whitening -/
theorem cr_go {r : Nat} (hr : r < 16777216) {x : Int32} {i : Nat} (h : (Int32.ofNat r >>> (Int32.ofNat 23 &&& 31)) &&& Int32.ofNat 1 = (x >>> (Int32.ofNat i &&& 31)) &&& Int32.ofNat 1) : (Int32.ofNat r <<< (Int32.ofNat 1 &&& 31)) &&& 16777215 = Int32.ofNat (cr1 r (bt x i)) := by
  rw [cr_sh hr]
  unfold cr1
  rw [if_pos ((cr_hi hr x i).mp h)]
theorem cr_no {r : Nat} (hr : r < 16777216) {x : Int32} {i : Nat} (h : ¬ (Int32.ofNat r >>> (Int32.ofNat 23 &&& 31)) &&& Int32.ofNat 1 = (x >>> (Int32.ofNat i &&& 31)) &&& Int32.ofNat 1) : ((Int32.ofNat r <<< (Int32.ofNat 1 &&& 31)) &&& 16777215) ^^^ Int32.ofNat 1627 = Int32.ofNat (cr1 r (bt x i)) := by
  rw [cr_sh hr, i_xor]
  unfold cr1
  rw [if_neg (fun z => h ((cr_hi hr x i).mpr z))]
theorem l_dt {l : List Int32} {i m : Nat} (h : i < l.length) : (l.drop i).take (m + 1) = l.getD i 0 :: (l.drop (i + 1)).take m := by
  rw [List.drop_eq_getElem_cons h, List.take_succ_cons, List.getD_eq_getElem?_getD, List.getElem?_eq_getElem h]
  rfl
/-- one step of the whitening's register -/
def w1 (r : Nat) : Nat := if 64 ≤ r then (r * 2 % 128) ^^^ 17 else r * 2 % 128
theorem w1_lt (r : Nat) : w1 r < 128 := by
  unfold w1
  have h : r * 2 % 128 < 128 := Nat.mod_lt _ (by decide)
  split
  · exact Nat.xor_lt_two_pow (n := 7) h (by decide)
  · exact h
/-- the last k bits of a byte: register and mask -/
def w8 : Nat → Nat × Nat → Nat × Nat
  | 0, p => p
  | k + 1, p => w8 k (w1 p.1, if 64 ≤ p.1 then p.2 + 2 ^ (7 - k) else p.2)
theorem w8_lt : ∀ (k : Nat) (p : Nat × Nat), p.1 < 128 → (w8 k p).1 < 128
  | 0, _, h => h
  | k + 1, p, _ => w8_lt k _ (w1_lt p.1)
def wReg (r : Nat) : Nat → Nat
  | 0 => r
  | j + 1 => (w8 8 (wReg r j, 0)).1
def wMask (r j : Nat) : Nat := (w8 8 (wReg r j, 0)).2
theorem wReg_lt {r : Nat} (h : r < 128) : ∀ j, wReg r j < 128
  | 0 => h
  | j + 1 => w8_lt 8 _ (wReg_lt h j)
theorem w_hi {r : Nat} (h : r < 128) : (Int32.ofNat r &&& Int32.ofNat 64 = 0) ↔ ¬ 64 ≤ r := by
  have : ∀ m : Fin 128, (Int32.ofNat m.val &&& Int32.ofNat 64 = 0) ↔ ¬ 64 ≤ m.val := by decide +kernel
  exact this ⟨r, h⟩
theorem w_sh {r : Nat} (h : r < 128) : (Int32.ofNat r <<< (Int32.ofNat 1 &&& 31)) &&& Int32.ofNat 127 = Int32.ofNat (r * 2 % 128) := by
  have : ∀ m : Fin 128, (Int32.ofNat m.val <<< (Int32.ofNat 1 &&& 31)) &&& Int32.ofNat 127 = Int32.ofNat (m.val * 2 % 128) := by decide +kernel
  exact this ⟨r, h⟩
theorem w_or {m i : Nat} (hm : m < 2 ^ i) (hi : i < 8) : Int32.ofNat m ||| (Int32.ofNat 1 <<< (Int32.ofNat i &&& 31)) = Int32.ofNat (m + 2 ^ i) := by
  have h := Nat.two_pow_add_eq_or_of_lt hm 1
  rw [Nat.mul_one] at h
  rw [i_shl 1 (by omega), i_or, Nat.one_mul, Nat.or_comm, ← h, Nat.add_comm]
section CK
variable {n0 : Nat} {W : bw_W} {J : bw_J} {g : Nat} {L : bw_L}
variable {a N : Nat} {Qh : am_O → am_H → Prop}
theorem lp_ck1 {e : Nat} {x k0 n1 : Int32} : ∀ (k r : Nat), k ≤ 8 → r < 16777216 → bH e (S0 n0) R0 mt_De_checkOf Qh 66 [(3, .int k0), (2, .int (Int32.ofNat (cr8 x k r))), (0, .ref a), (1, .int n1)] [] W J g L 0 0 → bH e (S0 n0) R0 mt_De_checkOf Qh 20 [(5, .int (Int32.ofNat (8 - k))), (2, .int (Int32.ofNat r)), (4, .int x), (3, .int k0), (0, .ref a), (1, .int n1)] [] W J g L 0 0 := by
  intro k
  induction k with
  | zero =>
    intro r hk hr K
    refine b_il (pc2 := 22) d_De_checkOf_20 rfl rfl ?_
    refine b_bp (pc2 := 24) (x := Int32.ofNat 8) d_De_checkOf_22 rfl rfl ?_
    refine b_ifd (pc2 := 66) d_De_checkOf_24 rfl rfl rfl rfl rfl (fun h24 => ?_) (fun h24 => ?_)
    rotate_left
    · exact absurd ((i_le (by decide) (by decide)).mpr (by decide)) h24
    refine b_nf (al := [(3, _), (2, _), (0, _), (1, _)]) (ks := [3, 2, 0, 1]) (sub_c rfl (sub_c rfl (sub_c rfl (sub_c rfl (sub_n))))) rfl (by decide) ?_
    dsimp only
    exact K
  | succ k ih =>
    intro r hk hr K
    have hb : 8 - (k + 1) = 7 - k := by omega
    rw [hb]
    refine b_il (pc2 := 22) d_De_checkOf_20 rfl rfl ?_
    refine b_bp (pc2 := 24) (x := Int32.ofNat 8) d_De_checkOf_22 rfl rfl ?_
    refine b_ifd (pc2 := 66) d_De_checkOf_24 rfl rfl rfl rfl rfl (fun h24 => ?_) (fun h24 => ?_)
    · exact absurd h24 (fun z => by rw [i_le (by decide) (by omega)] at z; omega)
    refine b_iln (pc2 := 28) d_De_checkOf_27 rfl rfl ?_
    refine b_bp (pc2 := 30) (x := Int32.ofNat 23) d_De_checkOf_28 rfl rfl ?_
    refine b_pure (pc2 := 31) d_De_checkOf_30 rfl rfl rfl ?_
    refine b_ic (pc2 := 32) (x := Int32.ofNat 1) d_De_checkOf_31 rfl rfl ?_
    refine b_pure (pc2 := 33) d_De_checkOf_32 rfl rfl rfl ?_
    refine b_is (pc2 := 35) (al2 := [(6, _), (5, _), (2, _), (4, _), (3, _), (0, _), (1, _)]) d_De_checkOf_33 (by decide) rfl rfl ?_
    refine b_iln (pc2 := 36) d_De_checkOf_35 rfl rfl ?_
    refine b_ic (pc2 := 37) (x := Int32.ofNat 1) d_De_checkOf_36 rfl rfl ?_
    refine b_pure (pc2 := 38) d_De_checkOf_37 rfl rfl rfl ?_
    refine b_ldc (pc2 := 40) d_De_checkOf_38 rfl rfl ?_
    refine b_pure (pc2 := 41) d_De_checkOf_40 rfl rfl rfl ?_
    refine b_isn (pc2 := 42) (al2 := [(2, _), (6, _), (5, _), (4, _), (3, _), (0, _), (1, _)]) d_De_checkOf_41 (by decide) rfl rfl ?_
    refine b_il (pc2 := 44) d_De_checkOf_42 rfl rfl ?_
    refine b_il (pc2 := 46) d_De_checkOf_44 rfl rfl ?_
    refine b_il (pc2 := 48) d_De_checkOf_46 rfl rfl ?_
    refine b_pure (pc2 := 49) d_De_checkOf_48 rfl rfl rfl ?_
    refine b_ic (pc2 := 50) (x := Int32.ofNat 1) d_De_checkOf_49 rfl rfl ?_
    refine b_pure (pc2 := 51) d_De_checkOf_50 rfl rfl rfl ?_
    refine b_ifd (pc2 := 60) d_De_checkOf_51 rfl rfl rfl rfl rfl (fun h51 => ?_) (fun h51 => ?_)
    · first | rw [cr_go hr h51] | rw [cr_no hr h51]
      refine b_inc (pc2 := 63) (al2 := [(5, _), (2, _), (6, _), (4, _), (3, _), (0, _), (1, _)]) (y := Int32.ofNat 1) d_De_checkOf_60 (by decide) rfl rfl rfl rfl ?_
      refine b_go (pc2 := 20) d_De_checkOf_63 rfl ?_
      refine b_nf (al := [(5, _), (2, _), (4, _), (3, _), (0, _), (1, _)]) (ks := [5, 2, 4, 3, 0, 1]) (sub_c rfl (sub_c rfl (sub_c rfl (sub_c rfl (sub_c rfl (sub_c rfl (sub_n))))))) rfl (by decide) ?_
      dsimp only
      rw [i_add, show 7 - k + 1 = 8 - k by omega]
      exact ih _ (by omega) (cr1_lt _ _) K
    · refine b_iln (pc2 := 55) d_De_checkOf_54 rfl rfl ?_
      refine b_sp (pc2 := 58) (x := Int32.ofNat 1627) d_De_checkOf_55 rfl rfl ?_
      refine b_pure (pc2 := 59) d_De_checkOf_58 rfl rfl rfl ?_
      refine b_isn (pc2 := 60) (al2 := [(2, _), (6, _), (5, _), (4, _), (3, _), (0, _), (1, _)]) d_De_checkOf_59 (by decide) rfl rfl ?_
      first | rw [cr_go hr h51] | rw [cr_no hr h51]
      refine b_inc (pc2 := 63) (al2 := [(5, _), (2, _), (6, _), (4, _), (3, _), (0, _), (1, _)]) (y := Int32.ofNat 1) d_De_checkOf_60 (by decide) rfl rfl rfl rfl ?_
      refine b_go (pc2 := 20) d_De_checkOf_63 rfl ?_
      refine b_nf (al := [(5, _), (2, _), (4, _), (3, _), (0, _), (1, _)]) (ks := [5, 2, 4, 3, 0, 1]) (sub_c rfl (sub_c rfl (sub_c rfl (sub_c rfl (sub_c rfl (sub_c rfl (sub_n))))))) rfl (by decide) ?_
      dsimp only
      rw [i_add, show 7 - k + 1 = 8 - k by omega]
      exact ih _ (by omega) (cr1_lt _ _) K
theorem lp_ck2 {e : Nat} (he : 1 ≤ e) (ha : R0 a = some N) {n : Nat} (hn : n ≤ (W a).length) (hl : (W a).length ≤ 1000) : ∀ (m i r : Nat), i + m = n → r < 16777216 → bT e (S0 n0) R0 mt_De_checkOf (bR (some (.int (Int32.ofNat (crL (((W a).drop i).take m) r)))) W J g L) 5 [(3, .int (Int32.ofNat i)), (2, .int (Int32.ofNat r)), (0, .ref a), (1, .int (Int32.ofNat n))] [] W J g L 0 0 := by
  have hSR := SR0 n0
  intro m
  induction m with
  | zero =>
    intro i r hi hr
    refine b_iln (pc2 := 6) d_De_checkOf_5 rfl rfl ?_
    refine b_iln (pc2 := 7) d_De_checkOf_6 rfl rfl ?_
    refine b_ifd (pc2 := 72) d_De_checkOf_7 rfl rfl rfl rfl rfl (fun h7 => ?_) (fun h7 => ?_)
    rotate_left
    · exact absurd ((i_le (by omega) (by omega)).mpr (by omega)) h7
    refine b_iln (pc2 := 73) d_De_checkOf_72 rfl rfl ?_
    refine b_ir d_De_checkOf_73 rfl ?_
    exact ⟨rfl, rfl, rfl, rfl, rfl⟩
  | succ m ih =>
    intro i r hi hr
    rw [l_dt (by omega)]
    refine b_iln (pc2 := 6) d_De_checkOf_5 rfl rfl ?_
    refine b_iln (pc2 := 7) d_De_checkOf_6 rfl rfl ?_
    refine b_ifd (pc2 := 72) d_De_checkOf_7 rfl rfl rfl rfl rfl (fun h7 => ?_) (fun h7 => ?_)
    · exact absurd h7 (fun z => by rw [i_le (by omega) (by omega)] at z; omega)
    refine b_aln (pc2 := 11) d_De_checkOf_10 rfl rfl ?_
    refine b_iln (pc2 := 12) d_De_checkOf_11 rfl rfl ?_
    refine b_cv1 (pc2 := 15) (c2 := 0) (u2 := 0) (rw_at he hSR ha (by omega)) d_De_checkOf_12 q_3_83 (Nat.le_of_ble_eq_true rfl) rfl rfl ((hSR a N ha).1) (Nat.le_of_ble_eq_true rfl) rfl rfl (by decide) (by decide) rfl ?_
    refine b_is (pc2 := 17) (al2 := [(4, _), (3, _), (2, _), (0, _), (1, _)]) d_De_checkOf_15 (by decide) rfl rfl ?_
    refine b_ic (pc2 := 18) (x := Int32.ofNat 0) d_De_checkOf_17 rfl rfl ?_
    refine b_is (pc2 := 20) (al2 := [(5, _), (4, _), (3, _), (2, _), (0, _), (1, _)]) d_De_checkOf_18 (by decide) rfl rfl ?_
    refine b_nf (al := [(5, _), (2, _), (4, _), (3, _), (0, _), (1, _)]) (ks := [5, 2, 4, 3, 0, 1]) (sub_c rfl (sub_c rfl (sub_c rfl (sub_c rfl (sub_c rfl (sub_c rfl (sub_n))))))) rfl (by decide) ?_
    dsimp only
    refine lp_ck1 8 r (by decide) hr ?_
    refine b_inc (pc2 := 69) (al2 := [(3, _), (2, _), (0, _), (1, _)]) (y := Int32.ofNat 1) d_De_checkOf_66 (by decide) rfl rfl rfl rfl ?_
    refine b_go (pc2 := 5) d_De_checkOf_69 rfl ?_
    rw [i_add]
    exact ih (i + 1) _ (by omega) (cr8_lt _ _ _ hr)
theorem de_checkOf {d : Nat} (hd : 2 ≤ d) (ha : R0 a = some N) {n : Nat} (hn : n ≤ (W a).length) : bm d (S0 n0) R0 66 [.ref a, .int (Int32.ofNat n)] W J g L (bR (some (.int (Int32.ofNat (crL ((W a).take n) 5592405)))) W J g L) := by
  obtain ⟨e, rfl⟩ : ∃ e, d = e + 1 := ⟨d - 1, by omega⟩
  refine bm_of (Nat.le_of_ble_eq_true rfl) (Or.inr bR_ret) ?_
  show bT e (S0 n0) R0 mt_De_checkOf _ 0 [(0, .ref a), (1, .int (Int32.ofNat n))] [] W J g L 0 0
  have hSR := SR0 n0
  refine b_free fun hlen => ?_
  have hl : (W a).length ≤ 1000 := Nat.le_trans (hlen a N ha) (hSR a N ha).2.2.2
  refine b_ldc (pc2 := 2) d_De_checkOf_0 rfl rfl ?_
  refine b_isn (pc2 := 3) (al2 := [(2, _), (0, _), (1, _)]) d_De_checkOf_2 (by decide) rfl rfl ?_
  refine b_ic (pc2 := 4) (x := Int32.ofNat 0) d_De_checkOf_3 rfl rfl ?_
  refine b_isn (pc2 := 5) (al2 := [(3, _), (2, _), (0, _), (1, _)]) d_De_checkOf_4 (by decide) rfl rfl ?_
  refine b_nf (al := [(3, _), (2, _), (0, _), (1, _)]) (ks := [3, 2, 0, 1]) (sub_c rfl (sub_c rfl (sub_c rfl (sub_c rfl (sub_n))))) rfl (by decide) ?_
  dsimp only
  exact lp_ck2 (by omega) ha hn hl n 0 5592405 (by omega) (by decide)
theorem lp_tu1 {e : Nat} {k0 c1 : Int32} : ∀ (k r m : Nat), k ≤ 8 → r < 128 → m < 2 ^ (8 - k) → (∀ r2 m2, (r2, m2) = w8 k (r, m) → bH e (S0 n0) R0 mt_Wh_tune Qh 75 [(4, .int (Int32.ofNat m2)), (2, .int (Int32.ofNat r2)), (3, .int k0), (0, .ref 5), (1, .int c1)] [] W J g L 0 0) → bH e (S0 n0) R0 mt_Wh_tune Qh 22 [(5, .int (Int32.ofNat (8 - k))), (2, .int (Int32.ofNat r)), (4, .int (Int32.ofNat m)), (3, .int k0), (0, .ref 5), (1, .int c1)] [] W J g L 0 0 := by
  intro k
  induction k with
  | zero =>
    intro r m hk hr hm K
    refine b_il (pc2 := 24) d_Wh_tune_22 rfl rfl ?_
    refine b_bp (pc2 := 26) (x := Int32.ofNat 8) d_Wh_tune_24 rfl rfl ?_
    refine b_ifd (pc2 := 75) d_Wh_tune_26 rfl rfl rfl rfl rfl (fun h26 => ?_) (fun h26 => ?_)
    rotate_left
    · exact absurd ((i_le (by decide) (by decide)).mpr (by decide)) h26
    refine b_nf (al := [(4, _), (2, _), (3, _), (0, _), (1, _)]) (ks := [4, 2, 3, 0, 1]) (sub_c rfl (sub_c rfl (sub_c rfl (sub_c rfl (sub_c rfl (sub_n)))))) rfl (by decide) ?_
    dsimp only
    exact K r m rfl
  | succ k ih =>
    intro r m hk hr hm K
    have hb : 8 - (k + 1) = 7 - k := by omega
    rw [hb] at hm ⊢
    have hp : 2 ^ (8 - k) = 2 * 2 ^ (7 - k) := by rw [show 8 - k = (7 - k) + 1 by omega, Nat.pow_succ, Nat.mul_comm]
    refine b_il (pc2 := 24) d_Wh_tune_22 rfl rfl ?_
    refine b_bp (pc2 := 26) (x := Int32.ofNat 8) d_Wh_tune_24 rfl rfl ?_
    refine b_ifd (pc2 := 75) d_Wh_tune_26 rfl rfl rfl rfl rfl (fun h26 => ?_) (fun h26 => ?_)
    · exact absurd h26 (fun z => by rw [i_le (by decide) (by omega)] at z; omega)
    refine b_iln (pc2 := 30) d_Wh_tune_29 rfl rfl ?_
    refine b_bp (pc2 := 32) (x := Int32.ofNat 64) d_Wh_tune_30 rfl rfl ?_
    refine b_pure (pc2 := 33) d_Wh_tune_32 rfl rfl rfl ?_
    refine b_ifd (pc2 := 40) d_Wh_tune_33 rfl rfl rfl rfl rfl (fun h33 => ?_) (fun h33 => ?_)
    · refine b_ic (pc2 := 41) (x := Int32.ofNat 0) d_Wh_tune_40 rfl rfl ?_
      refine b_is (pc2 := 43) (al2 := [(6, _), (5, _), (2, _), (4, _), (3, _), (0, _), (1, _)]) d_Wh_tune_41 (by decide) rfl rfl ?_
      refine b_iln (pc2 := 44) d_Wh_tune_43 rfl rfl ?_
      refine b_ic (pc2 := 45) (x := Int32.ofNat 1) d_Wh_tune_44 rfl rfl ?_
      refine b_pure (pc2 := 46) d_Wh_tune_45 rfl rfl rfl ?_
      refine b_bp (pc2 := 48) (x := Int32.ofNat 127) d_Wh_tune_46 rfl rfl ?_
      refine b_pure (pc2 := 49) d_Wh_tune_48 rfl rfl rfl ?_
      rw [w_sh hr]
      refine b_isn (pc2 := 50) (al2 := [(2, _), (6, _), (5, _), (4, _), (3, _), (0, _), (1, _)]) d_Wh_tune_49 (by decide) rfl rfl ?_
      refine b_il (pc2 := 52) d_Wh_tune_50 rfl rfl ?_
      refine b_ifd (pc2 := 69) d_Wh_tune_52 rfl rfl rfl rfl rfl (fun h52 => ?_) (fun h52 => ?_)
      rotate_left
      · exact absurd (rfl) h52
      refine b_inc (pc2 := 72) (al2 := [(5, _), (2, _), (6, _), (4, _), (3, _), (0, _), (1, _)]) (y := Int32.ofNat 1) d_Wh_tune_69 (by decide) rfl rfl rfl rfl ?_
      refine b_go (pc2 := 22) d_Wh_tune_72 rfl ?_
      refine b_nf (al := [(5, _), (2, _), (4, _), (3, _), (0, _), (1, _)]) (ks := [5, 2, 4, 3, 0, 1]) (sub_c rfl (sub_c rfl (sub_c rfl (sub_c rfl (sub_c rfl (sub_c rfl (sub_n))))))) rfl (by decide) ?_
      dsimp only
      have h64 := (w_hi hr).mp h33
      rw [i_add, show 7 - k + 1 = 8 - k by omega]
      have e1 : w1 r = r * 2 % 128 := by unfold w1; rw [if_neg h64]
      rw [← e1]
      refine ih _ _ (by omega) (w1_lt _) (by omega) (fun r2 m2 h2 => K r2 m2 ?_)
      rw [h2]
      show _ = w8 k (w1 r, if 64 ≤ r then m + 2 ^ (7 - k) else m)
      rw [if_neg h64]
    · refine b_ic (pc2 := 37) (x := Int32.ofNat 1) d_Wh_tune_36 rfl rfl ?_
      refine b_go (pc2 := 41) d_Wh_tune_37 rfl ?_
      refine b_is (pc2 := 43) (al2 := [(6, _), (5, _), (2, _), (4, _), (3, _), (0, _), (1, _)]) d_Wh_tune_41 (by decide) rfl rfl ?_
      refine b_iln (pc2 := 44) d_Wh_tune_43 rfl rfl ?_
      refine b_ic (pc2 := 45) (x := Int32.ofNat 1) d_Wh_tune_44 rfl rfl ?_
      refine b_pure (pc2 := 46) d_Wh_tune_45 rfl rfl rfl ?_
      refine b_bp (pc2 := 48) (x := Int32.ofNat 127) d_Wh_tune_46 rfl rfl ?_
      refine b_pure (pc2 := 49) d_Wh_tune_48 rfl rfl rfl ?_
      rw [w_sh hr]
      refine b_isn (pc2 := 50) (al2 := [(2, _), (6, _), (5, _), (4, _), (3, _), (0, _), (1, _)]) d_Wh_tune_49 (by decide) rfl rfl ?_
      refine b_il (pc2 := 52) d_Wh_tune_50 rfl rfl ?_
      refine b_ifd (pc2 := 69) d_Wh_tune_52 rfl rfl rfl rfl rfl (fun h52 => ?_) (fun h52 => ?_)
      · exact absurd h52 (by decide)
      refine b_il (pc2 := 57) d_Wh_tune_55 rfl rfl ?_
      refine b_ic (pc2 := 58) (x := Int32.ofNat 1) d_Wh_tune_57 rfl rfl ?_
      refine b_il (pc2 := 60) d_Wh_tune_58 rfl rfl ?_
      refine b_pure (pc2 := 61) d_Wh_tune_60 rfl rfl rfl ?_
      refine b_pure (pc2 := 62) d_Wh_tune_61 rfl rfl rfl ?_
      rw [w_or hm (by omega)]
      refine b_is (pc2 := 64) (al2 := [(4, _), (2, _), (6, _), (5, _), (3, _), (0, _), (1, _)]) d_Wh_tune_62 (by decide) rfl rfl ?_
      refine b_iln (pc2 := 65) d_Wh_tune_64 rfl rfl ?_
      refine b_bp (pc2 := 67) (x := Int32.ofNat 17) d_Wh_tune_65 rfl rfl ?_
      refine b_pure (pc2 := 68) d_Wh_tune_67 rfl rfl rfl ?_
      rw [i_xor]
      refine b_isn (pc2 := 69) (al2 := [(2, _), (4, _), (6, _), (5, _), (3, _), (0, _), (1, _)]) d_Wh_tune_68 (by decide) rfl rfl ?_
      refine b_inc (pc2 := 72) (al2 := [(5, _), (2, _), (4, _), (6, _), (3, _), (0, _), (1, _)]) (y := Int32.ofNat 1) d_Wh_tune_69 (by decide) rfl rfl rfl rfl ?_
      refine b_go (pc2 := 22) d_Wh_tune_72 rfl ?_
      refine b_nf (al := [(5, _), (2, _), (4, _), (3, _), (0, _), (1, _)]) (ks := [5, 2, 4, 3, 0, 1]) (sub_c rfl (sub_c rfl (sub_c rfl (sub_c rfl (sub_c rfl (sub_c rfl (sub_n))))))) rfl (by decide) ?_
      dsimp only
      have h64 := Decidable.not_not.mp (fun z => h33 ((w_hi hr).mpr z))
      rw [i_add, show 7 - k + 1 = 8 - k by omega]
      have e1 : w1 r = (r * 2 % 128) ^^^ 17 := by unfold w1; rw [if_pos h64]
      rw [← e1]
      refine ih _ _ (by omega) (w1_lt _) (by omega) (fun r2 m2 h2 => K r2 m2 ?_)
      rw [h2]
      show _ = w8 k (w1 r, if 64 ≤ r then m + 2 ^ (7 - k) else m)
      rw [if_pos h64]
/-- the masks, the first i of them new -/
def wJ (J : bw_J) (c i : Nat) : bw_J := am_u1 J 6 (fun k => if k < i then Int32.ofNat (wMask c k) else J 6 k)
theorem wJ_step (J : bw_J) (c i : Nat) : am_u2 (wJ J c i) 6 i (Int32.ofNat (wMask c i)) = wJ J c (i + 1) := by
  funext b k
  unfold am_u2 wJ am_u1
  by_cases hb : b = 6
  · rw [if_pos hb, if_pos hb]
    by_cases hk : k = i
    · rw [if_pos hk, if_pos (by omega), hk]
    · rw [if_neg hk, if_pos rfl]
      by_cases hlt : k < i
      · rw [if_pos hlt, if_pos (by omega)]
      · rw [if_neg hlt, if_neg (by omega)]
  · rw [if_neg hb, if_neg hb, if_neg hb]
theorem wJ_0 (J : bw_J) (c : Nat) : wJ J c 0 = J := by
  unfold wJ
  rw [show (fun k => if k < 0 then Int32.ofNat (wMask c k) else J 6 k) = J 6 from funext fun k => if_neg (by omega), u1_id]
theorem lp_tu2 {e : Nat} {c : Nat} {c1 : Int32} (hc : c < 128) : ∀ (m i : Nat), i + m = 12 → bT e (S0 n0) R0 mt_Wh_tune (bR none W (wJ J c 12) g L) 7 [(3, .int (Int32.ofNat i)), (2, .int (Int32.ofNat (wReg c i))), (0, .ref 5), (1, .int c1)] [] W (wJ J c i) g L 0 0 := by
  intro m
  induction m with
  | zero =>
    intro i hi
    refine b_iln (pc2 := 8) d_Wh_tune_7 rfl rfl ?_
    refine b_aln (pc2 := 9) d_Wh_tune_8 rfl rfl ?_
    refine b_gr (pc2 := 12) d_Wh_tune_9 q_9_9 (sh_5 n0) (by decide) (by decide) (p_5_0 n0) rfl ?_
    refine b_len (pc2 := 13) d_Wh_tune_12 (sh_6 n0) (Or.inl ⟨by decide, by decide⟩) rfl ?_
    refine b_ifd (pc2 := 89) d_Wh_tune_13 rfl rfl rfl rfl rfl (fun h13 => ?_) (fun h13 => ?_)
    rotate_left
    · exact absurd ((i_le (by decide) (by omega)).mpr (by omega)) h13
    refine b_vr d_Wh_tune_89 rfl ?_
    exact ⟨rfl, rfl, by rw [show i = 12 by omega], rfl, rfl⟩
  | succ m ih =>
    intro i hi
    refine b_iln (pc2 := 8) d_Wh_tune_7 rfl rfl ?_
    refine b_aln (pc2 := 9) d_Wh_tune_8 rfl rfl ?_
    refine b_gr (pc2 := 12) d_Wh_tune_9 q_9_9 (sh_5 n0) (by decide) (by decide) (p_5_0 n0) rfl ?_
    refine b_len (pc2 := 13) d_Wh_tune_12 (sh_6 n0) (Or.inl ⟨by decide, by decide⟩) rfl ?_
    refine b_ifd (pc2 := 89) d_Wh_tune_13 rfl rfl rfl rfl rfl (fun h13 => ?_) (fun h13 => ?_)
    · exact absurd h13 (fun z => by rw [i_le (by decide) (by omega)] at z; omega)
    refine b_ic (pc2 := 17) (x := Int32.ofNat 0) d_Wh_tune_16 rfl rfl ?_
    refine b_is (pc2 := 19) (al2 := [(4, _), (3, _), (2, _), (0, _), (1, _)]) d_Wh_tune_17 (by decide) rfl rfl ?_
    refine b_ic (pc2 := 20) (x := Int32.ofNat 0) d_Wh_tune_19 rfl rfl ?_
    refine b_is (pc2 := 22) (al2 := [(5, _), (4, _), (3, _), (2, _), (0, _), (1, _)]) d_Wh_tune_20 (by decide) rfl rfl ?_
    refine b_nf (al := [(5, _), (2, _), (4, _), (3, _), (0, _), (1, _)]) (ks := [5, 2, 4, 3, 0, 1]) (sub_c rfl (sub_c rfl (sub_c rfl (sub_c rfl (sub_c rfl (sub_c rfl (sub_n))))))) rfl (by decide) ?_
    dsimp only
    refine lp_tu1 8 (wReg c i) 0 (by decide) (wReg_lt hc i) (by decide) (fun r2 m2 h2 => ?_)
    refine b_aln (pc2 := 76) d_Wh_tune_75 rfl rfl ?_
    refine b_gr (pc2 := 79) d_Wh_tune_76 q_9_9 (sh_5 n0) (by decide) (by decide) (p_5_0 n0) rfl ?_
    refine b_iln (pc2 := 80) d_Wh_tune_79 rfl rfl ?_
    refine b_il (pc2 := 82) d_Wh_tune_80 rfl rfl ?_
    refine b_ist (pc2 := 83) (q := i) d_Wh_tune_82 (sh_6 n0) (i_in (show i < 12 by omega) (by decide)) (i_tn (by omega)) (rc_6) rfl ?_
    refine b_inc (pc2 := 86) (al2 := [(3, _), (4, _), (2, _), (0, _), (1, _)]) (y := Int32.ofNat 1) d_Wh_tune_83 (by decide) rfl rfl rfl rfl ?_
    refine b_go (pc2 := 7) d_Wh_tune_86 rfl ?_
    refine b_nf (al := [(3, _), (2, _), (0, _), (1, _)]) (ks := [3, 2, 0, 1]) (sub_c rfl (sub_c rfl (sub_c rfl (sub_c rfl (sub_n))))) rfl (by decide) ?_
    dsimp only
    have e1 : r2 = wReg c (i + 1) := congrArg Prod.fst h2
    have e2 : m2 = wMask c i := congrArg Prod.snd h2
    rw [i_add, e1, e2, wJ_step]
    exact ih (i + 1) (by omega)
theorem wh_tune {d : Nat} (hd : 1 ≤ d) {c : Nat} (hc : c < 64) : bm d (S0 n0) R0 63 [.ref 5, .int (Int32.ofNat c)] W J g L (bR none W (wJ J (64 + c) 12) g L) := by
  obtain ⟨e, rfl⟩ : ∃ e, d = e + 1 := ⟨d - 1, by omega⟩
  refine bm_of (Nat.le_of_ble_eq_true rfl) (Or.inr bR_ret) ?_
  show bT e (S0 n0) R0 mt_Wh_tune _ 0 [(0, .ref 5), (1, .int (Int32.ofNat c))] [] W J g L 0 0
  have hSR := SR0 n0
  refine b_bp (pc2 := 2) (x := Int32.ofNat 64) d_Wh_tune_0 rfl rfl ?_
  refine b_iln (pc2 := 3) d_Wh_tune_2 rfl rfl ?_
  refine b_pure (pc2 := 4) d_Wh_tune_3 rfl rfl rfl ?_
  rw [i_add]
  refine b_isn (pc2 := 5) (al2 := [(2, _), (0, _), (1, _)]) d_Wh_tune_4 (by decide) rfl rfl ?_
  refine b_ic (pc2 := 6) (x := Int32.ofNat 0) d_Wh_tune_5 rfl rfl ?_
  refine b_isn (pc2 := 7) (al2 := [(3, _), (2, _), (0, _), (1, _)]) d_Wh_tune_6 (by decide) rfl rfl ?_
  refine b_nf (al := [(3, _), (2, _), (0, _), (1, _)]) (ks := [3, 2, 0, 1]) (sub_c rfl (sub_c rfl (sub_c rfl (sub_c rfl (sub_n))))) rfl (by decide) ?_
  dsimp only
  refine (fun h => ?_ : _ → _) (lp_tu2 (n0 := n0) (W := W) (J := J) (g := g) (L := L) (e := e) (c := 64 + c) (c1 := Int32.ofNat c) (by omega) 12 0 (by omega))
  rw [wJ_0] at h
  exact h
end CK
