/-! Part 98 (written by gen72.py): the channels' constructor -/
theorem us_q {X k D : Nat} (hX : X < 4294967296) (h : k < 32) (hD : 2 ^ k = D) : ((Int32.ofNat X).toUInt32 >>> ((Int32.ofNat k).toUInt32 &&& Int32.toUInt32 31)).toInt32 = Int32.ofNat (X / D) := by
  subst hD; exact us_of hX h
section ST
variable {S : am_S} {R : Nat → Option Nat} {W : bw_W} {J : bw_J} {g : Nat} {L : bw_L}
theorem ma_fmod {d : Nat} (hd : 1 ≤ d) {x y : Int32} (hy : ¬ y = 0) : bm d S R 2 [.int x, .int y] W J g L (bR (some (.int (fmod x y))) W J g L) := by
  obtain ⟨e, rfl⟩ : ∃ e, d = e + 1 := ⟨d - 1, by omega⟩
  refine bm_of (Nat.le_of_ble_eq_true rfl) (Or.inr bR_ret) ?_
  show bT e S R mt_Ma_floorMod _ 0 [(0, .int x), (1, .int y)] [] W J g L 0 0
  refine b_iln (pc2 := 1) d_Ma_floorMod_0 rfl rfl ?_
  refine b_iln (pc2 := 2) d_Ma_floorMod_1 rfl rfl ?_
  refine b_rem (pc2 := 3) d_Ma_floorMod_2 (hy) rfl ?_
  refine b_isn (pc2 := 4) (al2 := [(2, _), (0, _), (1, _)]) d_Ma_floorMod_3 (by decide) rfl rfl ?_
  refine b_iln (pc2 := 5) d_Ma_floorMod_4 rfl rfl ?_
  refine b_iln (pc2 := 6) d_Ma_floorMod_5 rfl rfl ?_
  refine b_pure (pc2 := 7) d_Ma_floorMod_6 rfl rfl rfl ?_
  refine b_ifd (pc2 := 18) d_Ma_floorMod_7 rfl rfl rfl rfl rfl (fun h7 => ?_) (fun h7 => ?_)
  · refine b_iln (pc2 := 19) d_Ma_floorMod_18 rfl rfl ?_
    refine b_ir d_Ma_floorMod_19 rfl ?_
    exact ⟨by unfold fmod; rw [if_pos h7], rfl, rfl, rfl, rfl⟩
  · refine b_iln (pc2 := 11) d_Ma_floorMod_10 rfl rfl ?_
    refine b_ifd (pc2 := 18) d_Ma_floorMod_11 rfl rfl rfl rfl rfl (fun h11 => ?_) (fun h11 => ?_)
    · refine b_iln (pc2 := 19) d_Ma_floorMod_18 rfl rfl ?_
      refine b_ir d_Ma_floorMod_19 rfl ?_
      exact ⟨by unfold fmod; rw [if_neg h7, if_pos h11], rfl, rfl, rfl, rfl⟩
    · refine b_iln (pc2 := 15) d_Ma_floorMod_14 rfl rfl ?_
      refine b_iln (pc2 := 16) d_Ma_floorMod_15 rfl rfl ?_
      refine b_pure (pc2 := 17) d_Ma_floorMod_16 rfl rfl rfl ?_
      refine b_ir d_Ma_floorMod_17 rfl ?_
      exact ⟨by unfold fmod; rw [if_neg h7, if_neg h11], rfl, rfl, rfl, rfl⟩
theorem ig_bc {d : Nat} (hd : 1 ≤ d) {X : Nat} (hX : X < 4294967296) : bm d S R 4 [.int (Int32.ofNat X)] W J g L (bR (some (.int (Int32.ofNat (cB X 32)))) W J g L) := by
  obtain ⟨e, rfl⟩ : ∃ e, d = e + 1 := ⟨d - 1, by omega⟩
  refine bm_of (Nat.le_of_ble_eq_true rfl) (Or.inr bR_ret) ?_
  show bT e S R mt_Ig_bitCount _ 0 [(0, .int (Int32.ofNat X))] [] W J g L 0 0
  obtain ⟨X1, e1⟩ : ∃ y, y = X - ((X / 2) &&& 1431655765) := ⟨_, rfl⟩
  obtain ⟨X2, e2⟩ : ∃ y, y = (X1 &&& 858993459) + ((X1 / 4) &&& 858993459) := ⟨_, rfl⟩
  obtain ⟨X3, e3⟩ : ∃ y, y = (X2 + X2 / 16) &&& 252645135 := ⟨_, rfl⟩
  obtain ⟨X4, e4⟩ : ∃ y, y = X3 + X3 / 256 := ⟨_, rfl⟩
  obtain ⟨X5, e5⟩ : ∃ y, y = X4 + X4 / 65536 := ⟨_, rfl⟩
  obtain ⟨q1, q2, q3, q4, q5⟩ := pop4 (b0 := X % 256) (b1 := X / 256 % 256) (b2 := X / 65536 % 256) (b3 := X / 16777216) (by omega) (by omega) (by omega) (by omega) (by omega) e1 e2 e3 e4 e5
  refine b_iln (pc2 := 1) d_Ig_bitCount_0 rfl rfl ?_
  refine b_iln (pc2 := 2) d_Ig_bitCount_1 rfl rfl ?_
  refine b_ic (pc2 := 3) (x := Int32.ofNat 1) d_Ig_bitCount_2 rfl rfl ?_
  refine b_pure (pc2 := 4) d_Ig_bitCount_3 rfl rfl rfl ?_
  rw [us_q hX (by decide) (show _ = 2 from rfl)]
  refine b_ldcw (pc2 := 7) (x := Int32.ofNat 1431655765) d_Ig_bitCount_4 rfl rfl ?_
  refine b_pure (pc2 := 8) d_Ig_bitCount_7 rfl rfl rfl ?_
  rw [i_and]
  refine b_pure (pc2 := 9) d_Ig_bitCount_8 rfl rfl rfl ?_
  rw [i_sub q1, ← e1]
  refine b_isn (pc2 := 10) (al2 := [(0, _)]) d_Ig_bitCount_9 (by decide) rfl rfl ?_
  refine b_iln (pc2 := 11) d_Ig_bitCount_10 rfl rfl ?_
  refine b_ldcw (pc2 := 14) (x := Int32.ofNat 858993459) d_Ig_bitCount_11 rfl rfl ?_
  refine b_pure (pc2 := 15) d_Ig_bitCount_14 rfl rfl rfl ?_
  rw [i_and]
  refine b_iln (pc2 := 16) d_Ig_bitCount_15 rfl rfl ?_
  refine b_ic (pc2 := 17) (x := Int32.ofNat 2) d_Ig_bitCount_16 rfl rfl ?_
  refine b_pure (pc2 := 18) d_Ig_bitCount_17 rfl rfl rfl ?_
  rw [us_q q2 (by decide) (show _ = 4 from rfl)]
  refine b_ldcw (pc2 := 21) (x := Int32.ofNat 858993459) d_Ig_bitCount_18 rfl rfl ?_
  refine b_pure (pc2 := 22) d_Ig_bitCount_21 rfl rfl rfl ?_
  rw [i_and]
  refine b_pure (pc2 := 23) d_Ig_bitCount_22 rfl rfl rfl ?_
  rw [i_add, ← e2]
  refine b_isn (pc2 := 24) (al2 := [(0, _)]) d_Ig_bitCount_23 (by decide) rfl rfl ?_
  refine b_iln (pc2 := 25) d_Ig_bitCount_24 rfl rfl ?_
  refine b_iln (pc2 := 26) d_Ig_bitCount_25 rfl rfl ?_
  refine b_ic (pc2 := 27) (x := Int32.ofNat 4) d_Ig_bitCount_26 rfl rfl ?_
  refine b_pure (pc2 := 28) d_Ig_bitCount_27 rfl rfl rfl ?_
  rw [us_q (Nat.lt_trans q3 (by decide)) (by decide) (show _ = 16 from rfl)]
  refine b_pure (pc2 := 29) d_Ig_bitCount_28 rfl rfl rfl ?_
  rw [i_add]
  refine b_ldcw (pc2 := 32) (x := Int32.ofNat 252645135) d_Ig_bitCount_29 rfl rfl ?_
  refine b_pure (pc2 := 33) d_Ig_bitCount_32 rfl rfl rfl ?_
  rw [i_and, ← e3]
  refine b_isn (pc2 := 34) (al2 := [(0, _)]) d_Ig_bitCount_33 (by decide) rfl rfl ?_
  refine b_iln (pc2 := 35) d_Ig_bitCount_34 rfl rfl ?_
  refine b_iln (pc2 := 36) d_Ig_bitCount_35 rfl rfl ?_
  refine b_bp (pc2 := 38) (x := Int32.ofNat 8) d_Ig_bitCount_36 rfl rfl ?_
  refine b_pure (pc2 := 39) d_Ig_bitCount_38 rfl rfl rfl ?_
  rw [us_q (Nat.lt_trans q4 (by decide)) (by decide) (show _ = 256 from rfl)]
  refine b_pure (pc2 := 40) d_Ig_bitCount_39 rfl rfl rfl ?_
  rw [i_add, ← e4]
  refine b_isn (pc2 := 41) (al2 := [(0, _)]) d_Ig_bitCount_40 (by decide) rfl rfl ?_
  refine b_iln (pc2 := 42) d_Ig_bitCount_41 rfl rfl ?_
  refine b_iln (pc2 := 43) d_Ig_bitCount_42 rfl rfl ?_
  refine b_bp (pc2 := 45) (x := Int32.ofNat 16) d_Ig_bitCount_43 rfl rfl ?_
  refine b_pure (pc2 := 46) d_Ig_bitCount_45 rfl rfl rfl ?_
  rw [us_q (show X4 < 4294967296 by omega) (by decide) (show _ = 65536 from rfl)]
  refine b_pure (pc2 := 47) d_Ig_bitCount_46 rfl rfl rfl ?_
  rw [i_add, ← e5]
  refine b_isn (pc2 := 48) (al2 := [(0, _)]) d_Ig_bitCount_47 (by decide) rfl rfl ?_
  refine b_iln (pc2 := 49) d_Ig_bitCount_48 rfl rfl ?_
  refine b_bp (pc2 := 51) (x := Int32.ofNat 63) d_Ig_bitCount_49 rfl rfl ?_
  refine b_pure (pc2 := 52) d_Ig_bitCount_51 rfl rfl rfl ?_
  rw [i_and, q5, ← cB_32 hX]
  refine b_ir d_Ig_bitCount_52 rfl ?_
  exact ⟨rfl, rfl, rfl, rfl, rfl⟩
theorem ch_cu {d : Nat} (hd : 2 ≤ d) {U A : Nat} (hU : U < 4294967296) (hA : A < 4294967296) : bm d S R 3 [.int (Int32.ofNat U), .int (Int32.ofNat A)] W J g L (bR (some (.int (Int32.ofNat (cM (mk (Int32.ofNat U) (Int32.ofNat A)) 37)))) W J g L) := by
  obtain ⟨e, rfl⟩ : ∃ e, d = e + 1 := ⟨d - 1, by omega⟩
  refine bm_of (Nat.le_of_ble_eq_true rfl) (Or.inr bR_ret) ?_
  show bT e S R mt_Ch_countUsed _ 0 [(0, .int (Int32.ofNat U)), (1, .int (Int32.ofNat A))] [] W J g L 0 0
  have hq : cM (mk (Int32.ofNat U) (Int32.ofNat A)) 37 = cB U 32 + cB (A &&& 31) 32 := by
    have := cM_a (Int32.ofNat U) (Int32.ofNat A) 5 (by decide)
    rw [i_bv, i_bv, BitVec.toNat_ofNat, BitVec.toNat_ofNat, Nat.mod_eq_of_lt (show U < 2 ^ 32 by omega), Nat.mod_eq_of_lt (show A < 2 ^ 32 by omega)] at this
    rw [cB_31]; exact this
  refine b_iln (pc2 := 1) d_Ch_countUsed_0 rfl rfl ?_
  refine b_cs1 (pc2 := 4) (c2 := 0) (u2 := 0) (ig_bc (by omega) hU) d_Ch_countUsed_1 q_1_40 (Or.inl rfl) (Nat.le_of_ble_eq_true rfl) rfl rfl (Nat.le_of_ble_eq_true rfl) rfl rfl (by decide) (by decide) rfl ?_
  refine b_iln (pc2 := 5) d_Ch_countUsed_4 rfl rfl ?_
  refine b_bp (pc2 := 7) (x := Int32.ofNat 31) d_Ch_countUsed_5 rfl rfl ?_
  refine b_pure (pc2 := 8) d_Ch_countUsed_7 rfl rfl rfl ?_
  rw [i_and]
  refine b_cs1 (pc2 := 11) (c2 := 0) (u2 := 0) (ig_bc (by omega) (Nat.lt_of_le_of_lt Nat.and_le_left hA)) d_Ch_countUsed_8 q_1_40 (Or.inl rfl) (Nat.le_of_ble_eq_true rfl) rfl rfl (Nat.le_of_ble_eq_true rfl) rfl rfl (by decide) (by decide) rfl ?_
  refine b_pure (pc2 := 12) d_Ch_countUsed_11 rfl rfl rfl ?_
  rw [i_add, ← hq]
  refine b_ir d_Ch_countUsed_12 rfl ?_
  exact ⟨rfl, rfl, rfl, rfl, rfl⟩
theorem ch_im {d : Nat} (hd : 1 ≤ d) {k : Nat} (hk : k < 37) {u a : Int32} : bm d S R 5 [.int (Int32.ofNat k), .int u, .int a] W J g L (bR (some (.int (bI (mk u a k)))) W J g L) := by
  obtain ⟨e, rfl⟩ : ∃ e, d = e + 1 := ⟨d - 1, by omega⟩
  refine bm_of (Nat.le_of_ble_eq_true rfl) (Or.inr bR_ret) ?_
  show bT e S R mt_Ch_isMarked _ 0 [(0, .int (Int32.ofNat k)), (1, .int u), (2, .int a)] [] W J g L 0 0
  refine b_iln (pc2 := 1) d_Ch_isMarked_0 rfl rfl ?_
  refine b_bp (pc2 := 3) (x := Int32.ofNat 32) d_Ch_isMarked_1 rfl rfl ?_
  refine b_ifd (pc2 := 12) d_Ch_isMarked_3 rfl rfl rfl rfl rfl (fun h3 => ?_) (fun h3 => ?_)
  · rw [i_le (by omega) (by omega)] at h3
    refine b_iln (pc2 := 13) d_Ch_isMarked_12 rfl rfl ?_
    refine b_iln (pc2 := 14) d_Ch_isMarked_13 rfl rfl ?_
    refine b_bp (pc2 := 16) (x := Int32.ofNat 32) d_Ch_isMarked_14 rfl rfl ?_
    refine b_pure (pc2 := 17) d_Ch_isMarked_16 rfl rfl rfl ?_
    rw [i_sub (by omega)]
    refine b_pure (pc2 := 18) d_Ch_isMarked_17 rfl rfl rfl ?_
    refine b_isn (pc2 := 19) (al2 := [(3, _), (0, _), (1, _), (2, _)]) d_Ch_isMarked_18 (by decide) rfl rfl ?_
    refine b_iln (pc2 := 20) d_Ch_isMarked_19 rfl rfl ?_
    refine b_ic (pc2 := 21) (x := Int32.ofNat 1) d_Ch_isMarked_20 rfl rfl ?_
    refine b_pure (pc2 := 22) d_Ch_isMarked_21 rfl rfl rfl ?_
    refine b_ic (pc2 := 23) (x := Int32.ofNat 1) d_Ch_isMarked_22 rfl rfl ?_
    refine b_ifd (pc2 := 30) d_Ch_isMarked_23 rfl rfl rfl rfl rfl (fun h23 => ?_) (fun h23 => ?_)
    · refine b_ic (pc2 := 31) (x := Int32.ofNat 0) d_Ch_isMarked_30 rfl rfl ?_
      refine b_br d_Ch_isMarked_31 rfl (by decide) ?_
      have hq : bI (mk u a k) = Int32.ofNat 0 := by
        unfold bI mk
        rw [if_neg (show ¬ k < 32 by omega), if_neg (fun z => h23 ((us_bt a (by omega)).2 z))]
      exact ⟨by rw [hq], rfl, rfl, rfl, rfl⟩
    · refine b_ic (pc2 := 27) (x := Int32.ofNat 1) d_Ch_isMarked_26 rfl rfl ?_
      refine b_go (pc2 := 31) d_Ch_isMarked_27 rfl ?_
      refine b_br d_Ch_isMarked_31 rfl (by decide) ?_
      have hq : bI (mk u a k) = Int32.ofNat 1 := by
        unfold bI mk
        rw [if_neg (show ¬ k < 32 by omega), if_pos ((us_bt a (by omega)).1 (Classical.not_not.1 h23))]
      exact ⟨by rw [hq], rfl, rfl, rfl, rfl⟩
  · rw [i_le (by omega) (by omega)] at h3
    refine b_iln (pc2 := 7) d_Ch_isMarked_6 rfl rfl ?_
    refine b_iln (pc2 := 8) d_Ch_isMarked_7 rfl rfl ?_
    refine b_pure (pc2 := 9) d_Ch_isMarked_8 rfl rfl rfl ?_
    refine b_go (pc2 := 18) d_Ch_isMarked_9 rfl ?_
    refine b_isn (pc2 := 19) (al2 := [(3, _), (0, _), (1, _), (2, _)]) d_Ch_isMarked_18 (by decide) rfl rfl ?_
    refine b_iln (pc2 := 20) d_Ch_isMarked_19 rfl rfl ?_
    refine b_ic (pc2 := 21) (x := Int32.ofNat 1) d_Ch_isMarked_20 rfl rfl ?_
    refine b_pure (pc2 := 22) d_Ch_isMarked_21 rfl rfl rfl ?_
    refine b_ic (pc2 := 23) (x := Int32.ofNat 1) d_Ch_isMarked_22 rfl rfl ?_
    refine b_ifd (pc2 := 30) d_Ch_isMarked_23 rfl rfl rfl rfl rfl (fun h23 => ?_) (fun h23 => ?_)
    · refine b_ic (pc2 := 31) (x := Int32.ofNat 0) d_Ch_isMarked_30 rfl rfl ?_
      refine b_br d_Ch_isMarked_31 rfl (by decide) ?_
      have hq : bI (mk u a k) = Int32.ofNat 0 := by
        unfold bI mk
        rw [if_pos (show k < 32 by omega), if_neg (fun z => h23 ((us_bt u (by omega)).2 z))]
      exact ⟨by rw [hq], rfl, rfl, rfl, rfl⟩
    · refine b_ic (pc2 := 27) (x := Int32.ofNat 1) d_Ch_isMarked_26 rfl rfl ?_
      refine b_go (pc2 := 31) d_Ch_isMarked_27 rfl ?_
      refine b_br d_Ch_isMarked_31 rfl (by decide) ?_
      have hq : bI (mk u a k) = Int32.ofNat 1 := by
        unfold bI mk
        rw [if_pos (show k < 32 by omega), if_pos ((us_bt u (by omega)).1 (Classical.not_not.1 h23))]
      exact ⟨by rw [hq], rfl, rfl, rfl, rfl⟩
end ST
def chK (b : Nat) (J : bw_J) (m : Nat → Bool) (k : Nat) : bw_J := am_u2 (am_u1 (am_u1 J (b + 2) (uO m k)) (b + 3) (fun i => if i < k then bI (m i) else 0)) (b + 1) 3 (Int32.ofNat (cM m k))
theorem chK_0 {b : Nat} {J : bw_J} {m : Nat → Bool} (h2 : J (b + 2) = fun _ => 0) (h3 : J (b + 3) = fun _ => 0) (h1 : J (b + 1) 3 = Int32.ofNat 0) : chK b J m 0 = J := by
  unfold chK
  have e1 : am_u1 J (b + 2) (uO m 0) = J := by
    have := u1_id J (b + 2)
    rw [h2] at this
    exact this
  have e2 : am_u1 J (b + 3) (fun i => if i < 0 then bI (m i) else 0) = J := by
    have := u1_id J (b + 3)
    rw [h3] at this
    rw [show (fun i => if i < 0 then bI (m i) else 0) = fun _ => (0 : Int32) from funext fun i => if_neg (by omega)]
    exact this
  rw [e1, e2]
  exact u2_idq h1
theorem chK_1 {b : Nat} {J : bw_J} {m : Nat → Bool} {k i : Nat} (h : ¬ i = 3) : chK b J m k (b + 1) i = J (b + 1) i := by
  unfold chK
  rw [u2_k _ _ h, u1_ne _ _ (by omega), u1_ne _ _ (by omega)]
theorem chK_13 {b : Nat} {J : bw_J} {m : Nat → Bool} {k : Nat} : chK b J m k (b + 1) 3 = Int32.ofNat (cM m k) := u2_at _ _ _ _
theorem chK_2 {b : Nat} {J : bw_J} {m : Nat → Bool} {k : Nat} : chK b J m k (b + 2) = uO m k := by
  unfold chK
  rw [u2_a _ _ (by omega), u1_ne _ _ (by omega), u1_at]
theorem chK_3 {b : Nat} {J : bw_J} {m : Nat → Bool} {k : Nat} : chK b J m k (b + 3) = fun i => if i < k then bI (m i) else 0 := by
  unfold chK
  rw [u2_a _ _ (by omega), u1_at]
theorem chK_o {b : Nat} {J : bw_J} {m : Nat → Bool} {k c : Nat} (h1 : ¬ c = b + 1) (h2 : ¬ c = b + 2) (h3 : ¬ c = b + 3) : chK b J m k c = J c := by
  unfold chK
  rw [u2_a _ _ h1, u1_ne _ _ h3, u1_ne _ _ h2]
theorem chK_t {b : Nat} {J : bw_J} {m : Nat → Bool} {k : Nat} (h : m k = true) : am_u2 (am_u2 (am_u2 (chK b J m k) (b + 3) k (Int32.ofNat 1)) (b + 2) (cM m k) (Int32.ofNat k)) (b + 1) 3 (Int32.ofNat (cM m k + 1)) = chK b J m (k + 1) := by
  have hc : cM m (k + 1) = cM m k + 1 := by show (if m k = true then _ else _) = _; rw [if_pos h]
  funext c
  by_cases c1 : c = b + 1
  · subst c1
    funext i
    by_cases hi : i = 3
    · subst hi; rw [u2_at, chK_13, hc]
    · rw [u2_k _ _ hi, u2_a _ _ (by omega), u2_a _ _ (by omega), chK_1 hi, chK_1 hi]
  · rw [u2_a _ _ c1]
    by_cases c2 : c = b + 2
    · subst c2
      rw [chK_2]
      funext i
      show _ = (if m k = true then (if i = cM m k then Int32.ofNat k else uO m k i) else uO m k i)
      rw [if_pos h]
      by_cases hi : i = cM m k
      · subst hi; rw [u2_at, if_pos rfl]
      · rw [u2_k _ _ hi, u2_a _ _ (by omega), chK_2, if_neg hi]
    · rw [u2_a _ _ c2]
      by_cases c3 : c = b + 3
      · subst c3
        rw [chK_3]
        funext i
        by_cases hi : i = k
        · subst hi; rw [u2_at, if_pos (by omega), h]; rfl
        · rw [u2_k _ _ hi, chK_3]
          dsimp only
          by_cases h2 : i < k
          · rw [if_pos h2, if_pos (by omega)]
          · rw [if_neg h2, if_neg (by omega)]
      · rw [u2_a _ _ c3, chK_o c1 c2 c3, chK_o c1 c2 c3]
theorem chK_f {b : Nat} {J : bw_J} {m : Nat → Bool} {k : Nat} (h : ¬ m k = true) : chK b J m (k + 1) = chK b J m k := by
  have hc : cM m (k + 1) = cM m k := by show (if m k = true then _ else _) = _; rw [if_neg h]
  have hu : uO m (k + 1) = uO m k := funext fun i => by show (if m k = true then _ else _) = _; rw [if_neg h]
  unfold chK
  rw [hc, hu]
  congr 2
  funext i
  by_cases hi : i = k
  · subst hi
    rw [if_pos (by omega), if_neg (by omega), (bI_0 _).2 (by simpa using h)]
  · by_cases h2 : i < k
    · rw [if_pos h2, if_pos (by omega)]
    · rw [if_neg h2, if_neg (by omega)]
def mA (U A : Nat) : Nat → Bool := if cM (mk (Int32.ofNat U) (Int32.ofNat A)) 37 < 2 then fun _ => true else mk (Int32.ofNat U) (Int32.ofNat A)
section CH
variable {d N b : Nat} {H : List (Nat × Nat)} {P : List (List (Option Nat))} {J J9 : bw_J} {Q : am_O → am_H → Prop} {W : bw_W}
abbrev chH : List (Nat × Nat) := [(1, 5), (100, 37), (101, 37)]
abbrev chP (b : Nat) : List (List (Option Nat)) := [[none, some (b + 2), some (b + 3)], [], []]
theorem ch_lp (hd : 1 ≤ d) (hb : H.length = b) (hp : P.length = b) {m : Nat → Bool} {f h u a : Int32} (hf : (¬ f = 0 ∧ m = fun _ => true) ∨ (f = 0 ∧ m = mk u a)) (hJ4 : J (b + 1) 4 = 0) : ∀ r k, k + r = 37 → bH d (hLS N (H ++ chH) (P ++ chP b)) r0 mt_Ch_init (cR (hLS N (H ++ chH) (P ++ chP b)) (chK b J m 37)) 56 [(5, .int (Int32.ofNat k)), (4, .int f), (0, .ref (b + 1)), (1, .int h), (2, .int u), (3, .int a)] [] W (chK b J m k) 0 lz 2 74 := by
  intro r
  induction r with
  | zero =>
    intro k hk
    obtain rfl : k = 37 := by omega
    refine b_il (pc2 := 58) d_Ch_init_56 rfl rfl ?_
    refine b_bp (pc2 := 60) (x := Int32.ofNat 37) d_Ch_init_58 rfl rfl ?_
    refine b_ifd (pc2 := 113) d_Ch_init_60 rfl rfl rfl rfl rfl (fun h60 => ?_) (fun h60 => ?_)
    rotate_left
    · exact absurd (by decide) h60
    refine b_aln (pc2 := 114) d_Ch_init_113 rfl rfl ?_
    refine b_ic (pc2 := 115) (x := Int32.ofNat 0) d_Ch_init_114 rfl rfl ?_
    refine b_pi (pc2 := 118) d_Ch_init_115 q_1_37 (show _ from hLS_sh (i := 0) hb rfl) (by decide) (Or.inl (by decide)) (Or.inl rfl) (bw_rc0 _) rfl ?_
    rw [u2_idq (f := chK b J m 37) (a := b + 1) (k := 4) (x := Int32.ofNat 0) (by rw [chK_1 (by decide), hJ4]; rfl)]
    exact c_vr d_Ch_init_118 rfl
  | succ r ih =>
    intro k hk
    have hcm := cM_le m k
    have hset : m k = true → bH d (hLS N (H ++ chH) (P ++ chP b)) r0 mt_Ch_init (cR (hLS N (H ++ chH) (P ++ chP b)) (chK b J m 37)) 78 [(5, .int (Int32.ofNat k)), (4, .int f), (0, .ref (b + 1)), (1, .int h), (2, .int u), (3, .int a)] [] W (chK b J m k) 0 lz 2 74 := fun hm => by
      refine b_aln (pc2 := 79) d_Ch_init_78 rfl rfl ?_
      refine b_gr (pc2 := 82) d_Ch_init_79 q_1_23 (show _ from hLS_sh (i := 0) hb rfl) (by decide) (by decide) (show _ from hLS_p (i := 0) (j := b + 3) hp rfl) rfl ?_
      refine b_il (pc2 := 84) d_Ch_init_82 rfl rfl ?_
      refine b_ic (pc2 := 85) (x := Int32.ofNat 1) d_Ch_init_84 rfl rfl ?_
      refine b_bst (pc2 := 86) (q := k) d_Ch_init_85 (show _ from hLS_sh (i := 2) hb rfl) (i_in (show k < 37 by omega) (by decide)) (i_tn (by omega)) (bw_rc0 _) (Or.inr rfl) rfl ?_
      refine b_aln (pc2 := 87) d_Ch_init_86 rfl rfl ?_
      refine b_gr (pc2 := 90) d_Ch_init_87 q_1_19 (show _ from hLS_sh (i := 0) hb rfl) (by decide) (by decide) (show _ from hLS_p (i := 0) (j := b + 2) hp rfl) rfl ?_
      refine b_aln (pc2 := 91) d_Ch_init_90 rfl rfl ?_
      refine b_gi (pc2 := 94) d_Ch_init_91 q_1_30 (show _ from hLS_sh (i := 0) hb rfl) (by decide) (by decide) (bw_rc0 _) rfl ?_
      rw [u2_a _ _ (by omega), chK_13]
      refine b_il (pc2 := 96) d_Ch_init_94 rfl rfl ?_
      refine b_ist (pc2 := 97) (q := cM m k) d_Ch_init_96 (show _ from hLS_sh (i := 1) hb rfl) (i_in (show cM m k < 37 by omega) (by decide)) (i_tn (by omega)) (bw_rc0 _) rfl ?_
      refine b_aln (pc2 := 98) d_Ch_init_97 rfl rfl ?_
      refine b_pure (pc2 := 99) d_Ch_init_98 rfl rfl rfl ?_
      refine b_gi (pc2 := 102) d_Ch_init_99 q_1_30 (show _ from hLS_sh (i := 0) hb rfl) (by decide) (by decide) (bw_rc0 _) rfl ?_
      rw [u2_a _ _ (by omega), u2_a _ _ (by omega), chK_13]
      refine b_ic (pc2 := 103) (x := Int32.ofNat 1) d_Ch_init_102 rfl rfl ?_
      refine b_pure (pc2 := 104) d_Ch_init_103 rfl rfl rfl ?_
      rw [i_add]
      refine b_pi (pc2 := 107) d_Ch_init_104 q_1_30 (show _ from hLS_sh (i := 0) hb rfl) (by decide) (Or.inl (by decide)) (Or.inl rfl) (bw_rc0 _) rfl ?_
      rw [chK_t hm]
      refine b_inc (pc2 := 110) (al2 := [(5, _), (4, _), (0, _), (1, _), (2, _), (3, _)]) (y := Int32.ofNat 1) d_Ch_init_107 (by decide) rfl rfl rfl rfl ?_
      rw [i_add]
      refine b_go (pc2 := 56) d_Ch_init_110 rfl ?_
      exact ih (k + 1) (by omega)
    refine b_il (pc2 := 58) d_Ch_init_56 rfl rfl ?_
    refine b_bp (pc2 := 60) (x := Int32.ofNat 37) d_Ch_init_58 rfl rfl ?_
    refine b_ifd (pc2 := 113) d_Ch_init_60 rfl rfl rfl rfl rfl (fun h60 => ?_) (fun h60 => ?_)
    · exact absurd h60 (fun z => by rw [i_le (by omega) (by omega)] at z; omega)
    refine b_il (pc2 := 65) d_Ch_init_63 rfl rfl ?_
    refine b_ifd (pc2 := 78) d_Ch_init_65 rfl rfl rfl rfl rfl (fun h65 => ?_) (fun h65 => ?_)
    · refine hset ?_
      rcases hf with ⟨h1, h2⟩ | ⟨h1, h2⟩
      · rw [h2]
      · exact absurd h1 h65
    · have hm : m = mk u a := by
        rcases hf with ⟨h1, h2⟩ | ⟨h1, h2⟩
        · exact absurd h1 h65
        · exact h2
      refine b_il (pc2 := 70) d_Ch_init_68 rfl rfl ?_
      refine b_iln (pc2 := 71) d_Ch_init_70 rfl rfl ?_
      refine b_iln (pc2 := 72) d_Ch_init_71 rfl rfl ?_
      refine b_cs1 (pc2 := 75) (c2 := 2) (u2 := 74) (ch_im hd (show k < 37 by omega)) d_Ch_init_72 q_1_33 (by decide) (Nat.le_of_ble_eq_true rfl) rfl rfl (Nat.le_of_ble_eq_true rfl) rfl rfl (by decide) (by decide) rfl ?_
      refine b_ifd (pc2 := 107) d_Ch_init_75 rfl rfl rfl rfl rfl (fun h75 => ?_) (fun h75 => ?_)
      · rw [bI_0] at h75
        refine b_inc (pc2 := 110) (al2 := [(5, _), (4, _), (0, _), (1, _), (2, _), (3, _)]) (y := Int32.ofNat 1) d_Ch_init_107 (by decide) rfl rfl rfl rfl ?_
        rw [i_add]
        refine b_go (pc2 := 56) d_Ch_init_110 rfl ?_
        rw [← chK_f (k := k) (by rw [hm, h75]; decide)]
        exact ih (k + 1) (by omega)
      · refine hset ?_
        rw [bI_0] at h75
        rw [hm]
        simpa using h75
theorem ci_Ch_init {d N : Nat} (hd : 3 ≤ d) {h : Int32} {hp' U A : Nat} (hh : fmod h (Int32.ofNat 12) = Int32.ofNat hp') (hU : U < 4294967296) (hA : A < 4294967296) : cS d N 1 [.int h, .int (Int32.ofNat U), .int (Int32.ofNat A)] (1, 5) chH chP (fun b J => chK b (am_u2 J (b + 1) 0 (Int32.ofNat (5 + hp'))) (mA U A) 37) := by
  obtain ⟨d, rfl⟩ : ∃ e, d = e + 1 := ⟨d - 1, by omega⟩
  refine cS_of (fun _ => Nat.le_of_ble_eq_true rfl) (fun b H P J hb hp hz => ?_)
  show bH d (hLS N (H ++ [(1, 5)]) (P ++ [[]])) r0 mt_Ch_init _ 0 [(0, .ref (b + 1)), (1, .int h), (2, .int (Int32.ofNat U)), (3, .int (Int32.ofNat A))] [] _ J 0 lz 0 0
  refine b_aln (pc2 := 1) d_Ch_init_0 rfl rfl ?_
  refine c_sup (pc2 := 4) d_Ch_init_1 q_1_1 (Nat.le_of_ble_eq_true rfl) rfl ?_
  refine b_aln (pc2 := 5) d_Ch_init_4 rfl rfl ?_
  refine b_ic (pc2 := 6) (x := Int32.ofNat 5) d_Ch_init_5 rfl rfl ?_
  refine b_iln (pc2 := 7) d_Ch_init_6 rfl rfl ?_
  refine b_bp (pc2 := 9) (x := Int32.ofNat 12) d_Ch_init_7 rfl rfl ?_
  refine b_cs1 (pc2 := 12) (c2 := 0) (u2 := 0) (ma_fmod (by omega) (by decide)) d_Ch_init_9 q_1_7 (by decide) (Nat.le_of_ble_eq_true rfl) rfl rfl (Nat.le_of_ble_eq_true rfl) rfl rfl (by decide) (by decide) rfl ?_
  refine b_pure (pc2 := 13) d_Ch_init_12 rfl rfl rfl ?_
  rw [hh, i_add]
  refine b_pi (pc2 := 16) d_Ch_init_13 q_1_13 (show _ from hLS_sh (i := 0) hb rfl) (by decide) (Or.inr ⟨rfl, rfl⟩) (Or.inl rfl) (bw_rc0 _) rfl ?_
  obtain ⟨J1, hJ1⟩ : ∃ y, y = am_u2 J (b + 1) 0 (Int32.ofNat (5 + hp')) := ⟨_, rfl⟩
  rw [← hJ1]
  have z1 : zer J1 (b + 1) := fun q hq => by rw [hJ1, u2_a _ _ (by omega)]; exact hz q (by omega)
  have z0 : ∀ i, ¬ i = 0 → J1 (b + 1) i = 0 := fun i hi => by rw [hJ1, u2_k _ _ hi, hz _ (by omega)]
  clear hJ1
  refine b_aln (pc2 := 17) d_Ch_init_16 rfl rfl ?_
  refine b_bp (pc2 := 19) (x := Int32.ofNat 37) d_Ch_init_17 rfl rfl ?_
  refine c_newa (pc2 := 21) (n := 1) (a := b + 2) (t := 100) (q := 37) d_Ch_init_19 (Or.inl ⟨rfl, rfl⟩) (by decide) hb hp rfl rfl (fun q hq => z1 q (by omega)) (by decide) (by decide) rfl rfl ?_
  refine c_cv (tH2 := [(1, 5), (100, 37)]) (tP2 := [[], []]) rfl rfl ?_
  refine c_putR (pc2 := 24) (q := 0) (a := b + 1) d_Ch_init_21 q_1_19 hb hp rfl (Nat.le_of_ble_eq_true rfl) (by decide) (Or.inr ⟨rfl, rfl⟩) rfl rfl rfl ?_
  refine c_cv (tH2 := [(1, 5), (100, 37)]) (tP2 := [[none, some (b + 2)], []]) rfl rfl ?_
  refine b_aln (pc2 := 25) d_Ch_init_24 rfl rfl ?_
  refine b_bp (pc2 := 27) (x := Int32.ofNat 37) d_Ch_init_25 rfl rfl ?_
  refine c_newa (pc2 := 29) (n := 2) (a := b + 3) (t := 101) (q := 37) d_Ch_init_27 (Or.inr (Or.inl ⟨rfl, rfl⟩)) (by decide) hb hp rfl rfl (fun q hq => z1 q (by omega)) (by decide) (by decide) rfl rfl ?_
  refine c_cv (tH2 := chH) (tP2 := [[none, some (b + 2)], [], []]) rfl rfl ?_
  refine c_putR (pc2 := 32) (q := 0) (a := b + 1) d_Ch_init_29 q_1_23 hb hp rfl (Nat.le_of_ble_eq_true rfl) (by decide) (Or.inr ⟨rfl, rfl⟩) rfl rfl rfl ?_
  refine c_cv (tH2 := chH) (tP2 := chP b) rfl rfl ?_
  refine b_iln (pc2 := 33) d_Ch_init_32 rfl rfl ?_
  refine b_iln (pc2 := 34) d_Ch_init_33 rfl rfl ?_
  refine b_cs1 (pc2 := 37) (c2 := 2) (u2 := 74) (ch_cu (by omega) hU hA) d_Ch_init_34 q_1_27 (by decide) (Nat.le_of_ble_eq_true rfl) rfl rfl (Nat.le_of_ble_eq_true rfl) rfl rfl (by decide) (by decide) rfl ?_
  refine b_ic (pc2 := 38) (x := Int32.ofNat 2) d_Ch_init_37 rfl rfl ?_
  have hcm := cM_le (mk (Int32.ofNat U) (Int32.ofNat A)) 37
  have hrest : ∀ f : Int32, ((¬ f = 0 ∧ mA U A = fun _ => true) ∨ (f = 0 ∧ mA U A = mk (Int32.ofNat U) (Int32.ofNat A))) → bH d (hLS N (H ++ chH) (P ++ chP b)) r0 mt_Ch_init (cR (hLS N (H ++ chH) (P ++ chP b)) (chK b J1 (mA U A) 37)) 46 [(0, .ref (b + 1)), (1, .int h), (2, .int (Int32.ofNat U)), (3, .int (Int32.ofNat A))] [.int f] (fun _ => []) J1 0 lz 2 74 := fun f hf => by
    refine b_is (pc2 := 48) (al2 := [(4, _), (0, _), (1, _), (2, _), (3, _)]) d_Ch_init_46 (by decide) rfl rfl ?_
    refine b_aln (pc2 := 49) d_Ch_init_48 rfl rfl ?_
    refine b_ic (pc2 := 50) (x := Int32.ofNat 0) d_Ch_init_49 rfl rfl ?_
    refine b_pi (pc2 := 53) d_Ch_init_50 q_1_30 (show _ from hLS_sh (i := 0) hb rfl) (by decide) (Or.inl (by decide)) (Or.inl rfl) (bw_rc0 _) rfl ?_
    rw [u2_idq (f := J1) (a := b + 1) (k := 3) (x := Int32.ofNat 0) (by rw [z0 3 (by decide)]; rfl)]
    refine b_ic (pc2 := 54) (x := Int32.ofNat 0) d_Ch_init_53 rfl rfl ?_
    refine b_is (pc2 := 56) (al2 := [(5, _), (4, _), (0, _), (1, _), (2, _), (3, _)]) d_Ch_init_54 (by decide) rfl rfl ?_
    have := ch_lp (W := fun _ => []) (J := J1) (N := N) (h := h) (show 1 ≤ d by omega) hb hp hf (z0 4 (by decide)) 37 0 (by decide)
    rw [chK_0 (z1 _ (by omega)) (z1 _ (by omega)) (z0 3 (by decide))] at this
    exact this
  refine b_ifd (pc2 := 45) d_Ch_init_38 rfl rfl rfl rfl rfl (fun h38 => ?_) (fun h38 => ?_)
  · rw [i_le (by omega) (by omega)] at h38
    refine b_ic (pc2 := 46) (x := Int32.ofNat 0) d_Ch_init_45 rfl rfl ?_
    exact hrest _ (Or.inr ⟨rfl, by unfold mA; rw [if_neg (by omega)]⟩)
  · rw [i_le (by omega) (by omega)] at h38
    refine b_ic (pc2 := 42) (x := Int32.ofNat 1) d_Ch_init_41 rfl rfl ?_
    refine b_go (pc2 := 46) d_Ch_init_42 rfl ?_
    exact hrest _ (Or.inl ⟨by decide, by unfold mA; rw [if_pos (by omega)]⟩)
end CH
