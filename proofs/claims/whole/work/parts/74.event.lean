/-! Part 74 (written by gen24.py): AttributeLink: an event -/
section EV
variable {n0 : Nat} {W : bw_W} {J : bw_J} {g : Nat} {L : bw_L}
variable {W1 W2 : bw_W} {J1 J2 J3 : bw_J} {Qh : am_O → am_H → Prop}
theorem ch_adv1 {d : Nat} (hd : 1 ≤ d) {s hp uc : Nat} (hs : J 2 4 = Int32.ofNat s) (hs2 : s < 37) (hh : J 2 0 = Int32.ofNat hp) (hh2 : hp ≤ 16) (hu : J 2 3 = Int32.ofNat uc) (hu1 : 1 ≤ uc) (hu2 : uc ≤ 37) (hx : ¬ J 4 ((s + hp) % 37) = 0) : bm d (S0 n0) R0 62 [.ref 2] W J g L (bR (some (.int (Int32.ofNat ((s + hp) % 37)))) W (am_u2 J 2 4 (Int32.ofNat ((s + hp) % 37))) g L) := by
  obtain ⟨e, rfl⟩ : ∃ e, d = e + 1 := ⟨d - 1, by omega⟩
  refine bm_of (Nat.le_of_ble_eq_true rfl) (Or.inr bR_ret) ?_
  show bT e (S0 n0) R0 mt_Ch_advance _ 0 [(0, .ref 2)] [] W J g L 0 0
  have hSR := SR0 n0
  have hq : (s + hp) % 37 < 37 := Nat.mod_lt _ (by decide)
  refine b_aln (pc2 := 1) d_Ch_advance_0 rfl rfl ?_
  refine b_aln (pc2 := 2) d_Ch_advance_1 rfl rfl ?_
  refine b_gi (pc2 := 5) d_Ch_advance_2 q_1_37 (sh_2 n0) (by decide) (by decide) (rc_2) rfl ?_
  refine b_aln (pc2 := 6) d_Ch_advance_5 rfl rfl ?_
  refine b_gi (pc2 := 9) d_Ch_advance_6 q_1_13 (sh_2 n0) (by decide) (by decide) (rc_2) rfl ?_
  rw [hs, hh]
  refine b_pure (pc2 := 10) d_Ch_advance_9 rfl rfl rfl ?_
  rw [i_add]
  refine b_bp (pc2 := 12) (x := Int32.ofNat 37) d_Ch_advance_10 rfl rfl ?_
  refine b_rem (pc2 := 13) d_Ch_advance_12 (by decide) rfl ?_
  rw [i_rem (by omega) (by decide) (by decide)]
  refine b_pi (pc2 := 16) d_Ch_advance_13 q_1_37 (sh_2 n0) (by decide) (Or.inl (by decide)) (Or.inl rfl) (rc_2) rfl ?_
  refine b_aln (pc2 := 17) d_Ch_advance_16 rfl rfl ?_
  refine b_gr (pc2 := 20) d_Ch_advance_17 q_1_23 (sh_2 n0) (by decide) (by decide) (p_2_2 n0) rfl ?_
  refine b_aln (pc2 := 21) d_Ch_advance_20 rfl rfl ?_
  refine b_gi (pc2 := 24) d_Ch_advance_21 q_1_37 (sh_2 n0) (by decide) (by decide) (rc_2) rfl ?_
  rw [u2_at]
  refine b_ba (pc2 := 25) (q := ((s + hp) % 37)) d_Ch_advance_24 (sh_4 n0) (i_in hq (by decide)) (i_tn (by omega)) (rc_4) rfl ?_
  rw [u2_a _ _ (by decide)]
  refine b_ifd (pc2 := 35) d_Ch_advance_25 rfl rfl rfl rfl rfl (fun h25 => ?_) (fun h25 => ?_)
  · exact absurd h25 (hx)
  refine b_aln (pc2 := 29) d_Ch_advance_28 rfl rfl ?_
  refine b_gi (pc2 := 32) d_Ch_advance_29 q_1_37 (sh_2 n0) (by decide) (by decide) (rc_2) rfl ?_
  rw [u2_at]
  refine b_go (pc2 := 49) d_Ch_advance_32 rfl ?_
  refine b_ir d_Ch_advance_49 rfl ?_
  exact ⟨rfl, rfl, rfl, rfl, rfl⟩
theorem ch_adv0 {d : Nat} (hd : 1 ≤ d) {s hp uc : Nat} (hs : J 2 4 = Int32.ofNat s) (hs2 : s < 37) (hh : J 2 0 = Int32.ofNat hp) (hh2 : hp ≤ 16) (hu : J 2 3 = Int32.ofNat uc) (hu1 : 1 ≤ uc) (hu2 : uc ≤ 37) (hx : J 4 ((s + hp) % 37) = 0) : bm d (S0 n0) R0 62 [.ref 2] W J g L (bR (some (.int (J 3 ((s + hp) % 37 % uc)))) W (am_u2 J 2 4 (Int32.ofNat ((s + hp) % 37))) g L) := by
  obtain ⟨e, rfl⟩ : ∃ e, d = e + 1 := ⟨d - 1, by omega⟩
  refine bm_of (Nat.le_of_ble_eq_true rfl) (Or.inr bR_ret) ?_
  show bT e (S0 n0) R0 mt_Ch_advance _ 0 [(0, .ref 2)] [] W J g L 0 0
  have hSR := SR0 n0
  have hq : (s + hp) % 37 < 37 := Nat.mod_lt _ (by decide)
  refine b_aln (pc2 := 1) d_Ch_advance_0 rfl rfl ?_
  refine b_aln (pc2 := 2) d_Ch_advance_1 rfl rfl ?_
  refine b_gi (pc2 := 5) d_Ch_advance_2 q_1_37 (sh_2 n0) (by decide) (by decide) (rc_2) rfl ?_
  refine b_aln (pc2 := 6) d_Ch_advance_5 rfl rfl ?_
  refine b_gi (pc2 := 9) d_Ch_advance_6 q_1_13 (sh_2 n0) (by decide) (by decide) (rc_2) rfl ?_
  rw [hs, hh]
  refine b_pure (pc2 := 10) d_Ch_advance_9 rfl rfl rfl ?_
  rw [i_add]
  refine b_bp (pc2 := 12) (x := Int32.ofNat 37) d_Ch_advance_10 rfl rfl ?_
  refine b_rem (pc2 := 13) d_Ch_advance_12 (by decide) rfl ?_
  rw [i_rem (by omega) (by decide) (by decide)]
  refine b_pi (pc2 := 16) d_Ch_advance_13 q_1_37 (sh_2 n0) (by decide) (Or.inl (by decide)) (Or.inl rfl) (rc_2) rfl ?_
  refine b_aln (pc2 := 17) d_Ch_advance_16 rfl rfl ?_
  refine b_gr (pc2 := 20) d_Ch_advance_17 q_1_23 (sh_2 n0) (by decide) (by decide) (p_2_2 n0) rfl ?_
  refine b_aln (pc2 := 21) d_Ch_advance_20 rfl rfl ?_
  refine b_gi (pc2 := 24) d_Ch_advance_21 q_1_37 (sh_2 n0) (by decide) (by decide) (rc_2) rfl ?_
  rw [u2_at]
  refine b_ba (pc2 := 25) (q := ((s + hp) % 37)) d_Ch_advance_24 (sh_4 n0) (i_in hq (by decide)) (i_tn (by omega)) (rc_4) rfl ?_
  rw [u2_a _ _ (by decide)]
  refine b_ifd (pc2 := 35) d_Ch_advance_25 rfl rfl rfl rfl rfl (fun h25 => ?_) (fun h25 => ?_)
  rotate_left
  · exact absurd (hx) h25
  refine b_aln (pc2 := 36) d_Ch_advance_35 rfl rfl ?_
  refine b_gr (pc2 := 39) d_Ch_advance_36 q_1_19 (sh_2 n0) (by decide) (by decide) (p_2_1 n0) rfl ?_
  refine b_aln (pc2 := 40) d_Ch_advance_39 rfl rfl ?_
  refine b_gi (pc2 := 43) d_Ch_advance_40 q_1_37 (sh_2 n0) (by decide) (by decide) (rc_2) rfl ?_
  rw [u2_at]
  refine b_aln (pc2 := 44) d_Ch_advance_43 rfl rfl ?_
  refine b_gi (pc2 := 47) d_Ch_advance_44 q_1_30 (sh_2 n0) (by decide) (by decide) (rc_2) rfl ?_
  rw [u2_k _ _ (by decide), hu]
  refine b_rem (pc2 := 48) d_Ch_advance_47 (fun z => by rw [show (0 : Int32) = Int32.ofNat 0 from rfl, i_eq (by omega) (by decide)] at z; omega) rfl ?_
  rw [i_rem (by omega) (by omega) (by omega)]
  have hq2 : (s + hp) % 37 % uc < 37 := Nat.lt_of_le_of_lt (Nat.mod_le _ _) hq
  refine b_ia (pc2 := 49) (q := ((s + hp) % 37 % uc)) d_Ch_advance_48 (sh_3 n0) (i_in hq2 (by decide)) (i_tn (by omega)) (rc_3) rfl ?_
  rw [u2_a _ _ (by decide)]
  refine b_ir d_Ch_advance_49 rfl ?_
  exact ⟨rfl, rfl, rfl, rfl, rfl⟩
theorem if_ms {b : Int32} {m : Nat} : (if b = 0 then Int32.ofNat m + Int32.ofNat 1 else 0) = Int32.ofNat (if b = 0 then m + 1 else 0) := by
  by_cases h : b = 0
  · rw [if_pos h, if_pos h, i_add]
  · rw [if_neg h, if_neg h]
    rfl
theorem al_finish {d : Nat} (hd : 2 ≤ d) {sg cg dn : Int32} {ev ms mc : Nat} (he1 : J 1 6 = Int32.ofNat ev) (hm1 : J 37 9 = Int32.ofNat ms) (hms : ms < 1000) (hm0 : J 7 9 = Int32.ofNat mc) (hmc : mc < 1000) (hdn : dn = if 6 ≤ (if sg = 0 then ms + 1 else 0) ∨ 6 ≤ (if cg = 0 then mc + 1 else 0) then 1 else 0) (hE : ∀ e, 1 ≤ e → bm e (S0 n0) R0 109 [.ref 67, .int dn] W (am_u2 (am_u2 (am_u2 (am_u2 J 1 6 (Int32.ofNat (ev + 1))) 37 9 (Int32.ofNat (if sg = 0 then ms + 1 else 0))) 7 9 (Int32.ofNat (if cg = 0 then mc + 1 else 0))) 1 8 dn) g L (bR none W1 J1 g L)) : bm d (S0 n0) R0 107 [.ref 1, .int sg, .int cg] W J g L (bR none W1 J1 g L) := by
  obtain ⟨e, rfl⟩ : ∃ e, d = e + 1 := ⟨d - 1, by omega⟩
  refine bm_of (Nat.le_of_ble_eq_true rfl) (Or.inr bR_ret) ?_
  show bT e (S0 n0) R0 mt_Al_finish _ 0 [(0, .ref 1), (1, .int sg), (2, .int cg)] [] W J g L 0 0
  have hSR := SR0 n0
  have q1 : (if sg = 0 then ms + 1 else 0) < 2000 := by split <;> omega
  have q2 : (if cg = 0 then mc + 1 else 0) < 2000 := by split <;> omega
  refine b_aln (pc2 := 1) d_Al_finish_0 rfl rfl ?_
  refine b_pure (pc2 := 2) d_Al_finish_1 rfl rfl rfl ?_
  refine b_gi (pc2 := 5) d_Al_finish_2 q_10_49 (sh_1 n0) (by decide) (by decide) (rc_1) rfl ?_
  refine b_ic (pc2 := 6) (x := Int32.ofNat 1) d_Al_finish_5 rfl rfl ?_
  rw [he1]
  refine b_pure (pc2 := 7) d_Al_finish_6 rfl rfl rfl ?_
  rw [i_add]
  refine b_pi (pc2 := 10) d_Al_finish_7 q_10_49 (sh_1 n0) (by decide) (Or.inl (by decide)) (Or.inl rfl) (rc_1) rfl ?_
  refine b_aln (pc2 := 11) d_Al_finish_10 rfl rfl ?_
  refine b_gr (pc2 := 14) d_Al_finish_11 q_10_32 (sh_1 n0) (by decide) (by decide) (p_1_3 n0) rfl ?_
  refine b_iln (pc2 := 15) d_Al_finish_14 rfl rfl ?_
  refine b_cv0 (pc2 := 18) (c2 := 0) (u2 := 0) (de_countMiss_s (by omega)) d_Al_finish_15 q_10_228 (Nat.le_of_ble_eq_true rfl) rfl rfl (sh_37 n0) (Nat.le_of_ble_eq_true rfl) rfl rfl (by decide) (by decide) rfl ?_
  rw [u2_a _ _ (by decide), hm1, if_ms]
  refine b_aln (pc2 := 19) d_Al_finish_18 rfl rfl ?_
  refine b_gr (pc2 := 22) d_Al_finish_19 q_10_28 (sh_1 n0) (by decide) (by decide) (p_1_2 n0) rfl ?_
  refine b_iln (pc2 := 23) d_Al_finish_22 rfl rfl ?_
  refine b_cv0 (pc2 := 26) (c2 := 0) (u2 := 0) (de_countMiss_c (by omega)) d_Al_finish_23 q_10_228 (Nat.le_of_ble_eq_true rfl) rfl rfl (sh_7 n0) (Nat.le_of_ble_eq_true rfl) rfl rfl (by decide) (by decide) rfl ?_
  rw [u2_a _ _ (by decide), u2_a _ _ (by decide), hm0, if_ms]
  refine b_aln (pc2 := 27) d_Al_finish_26 rfl rfl ?_
  refine b_aln (pc2 := 28) d_Al_finish_27 rfl rfl ?_
  refine b_gr (pc2 := 31) d_Al_finish_28 q_10_32 (sh_1 n0) (by decide) (by decide) (p_1_3 n0) rfl ?_
  refine b_cv1 (pc2 := 34) (c2 := 0) (u2 := 0) (de_misses_s (by omega)) d_Al_finish_31 q_10_163 (Nat.le_of_ble_eq_true rfl) rfl rfl (sh_37 n0) (Nat.le_of_ble_eq_true rfl) rfl rfl (by decide) (by decide) rfl ?_
  rw [u2_a _ _ (by decide), u2_at]
  refine b_bp (pc2 := 36) (x := Int32.ofNat 6) d_Al_finish_34 rfl rfl ?_
  refine b_ifd (pc2 := 51) d_Al_finish_36 rfl rfl rfl rfl rfl (fun h36 => ?_) (fun h36 => ?_)
  · refine b_ic (pc2 := 52) (x := Int32.ofNat 1) d_Al_finish_51 rfl rfl ?_
    refine b_go (pc2 := 56) d_Al_finish_52 rfl ?_
    have hdn2 : dn = _ := hdn
    first | (rw [i_le (by decide) (by omega)] at h36; rw [if_pos (Or.inl h36)] at hdn2) | (rw [i_le (by decide) (by omega)] at h36; rw [i_lt (by omega) (by decide)] at h48; first | (rw [if_neg (by omega)] at hdn2) | (rw [if_pos (Or.inr (by omega))] at hdn2))
    clear hdn
    subst hdn2
    refine b_pi (pc2 := 59) d_Al_finish_56 q_10_56 (sh_1 n0) (by decide) (Or.inl (by decide)) (Or.inr ⟨rfl, by decide⟩) (rc_1) rfl ?_
    refine b_aln (pc2 := 60) d_Al_finish_59 rfl rfl ?_
    refine b_gr (pc2 := 63) d_Al_finish_60 q_10_38 (sh_1 n0) (by decide) (by decide) (p_1_4 n0) rfl ?_
    refine b_aln (pc2 := 64) d_Al_finish_63 rfl rfl ?_
    refine b_gi (pc2 := 67) d_Al_finish_64 q_10_56 (sh_1 n0) (by decide) (by decide) (rc_1) rfl ?_
    rw [u2_at]
    refine b_cv0 (pc2 := 70) (c2 := 0) (u2 := 0) (hE e (by omega)) d_Al_finish_67 q_10_232 (Nat.le_of_ble_eq_true rfl) rfl rfl (sh_67 n0) (Nat.le_of_ble_eq_true rfl) rfl rfl (by decide) (by decide) rfl ?_
    refine b_vr d_Al_finish_70 rfl ?_
    exact ⟨rfl, rfl, rfl, rfl, rfl⟩
  · refine b_aln (pc2 := 40) d_Al_finish_39 rfl rfl ?_
    refine b_gr (pc2 := 43) d_Al_finish_40 q_10_28 (sh_1 n0) (by decide) (by decide) (p_1_2 n0) rfl ?_
    refine b_cv1 (pc2 := 46) (c2 := 0) (u2 := 0) (de_misses_c (by omega)) d_Al_finish_43 q_10_163 (Nat.le_of_ble_eq_true rfl) rfl rfl (sh_7 n0) (Nat.le_of_ble_eq_true rfl) rfl rfl (by decide) (by decide) rfl ?_
    rw [u2_at]
    refine b_bp (pc2 := 48) (x := Int32.ofNat 6) d_Al_finish_46 rfl rfl ?_
    refine b_ifd (pc2 := 55) d_Al_finish_48 rfl rfl rfl rfl rfl (fun h48 => ?_) (fun h48 => ?_)
    · refine b_ic (pc2 := 56) (x := Int32.ofNat 0) d_Al_finish_55 rfl rfl ?_
      have hdn2 : dn = _ := hdn
      first | (rw [i_le (by decide) (by omega)] at h36; rw [if_pos (Or.inl h36)] at hdn2) | (rw [i_le (by decide) (by omega)] at h36; rw [i_lt (by omega) (by decide)] at h48; first | (rw [if_neg (by omega)] at hdn2) | (rw [if_pos (Or.inr (by omega))] at hdn2))
      clear hdn
      subst hdn2
      refine b_pi (pc2 := 59) d_Al_finish_56 q_10_56 (sh_1 n0) (by decide) (Or.inl (by decide)) (Or.inr ⟨rfl, by decide⟩) (rc_1) rfl ?_
      refine b_aln (pc2 := 60) d_Al_finish_59 rfl rfl ?_
      refine b_gr (pc2 := 63) d_Al_finish_60 q_10_38 (sh_1 n0) (by decide) (by decide) (p_1_4 n0) rfl ?_
      refine b_aln (pc2 := 64) d_Al_finish_63 rfl rfl ?_
      refine b_gi (pc2 := 67) d_Al_finish_64 q_10_56 (sh_1 n0) (by decide) (by decide) (rc_1) rfl ?_
      rw [u2_at]
      refine b_cv0 (pc2 := 70) (c2 := 0) (u2 := 0) (hE e (by omega)) d_Al_finish_67 q_10_232 (Nat.le_of_ble_eq_true rfl) rfl rfl (sh_67 n0) (Nat.le_of_ble_eq_true rfl) rfl rfl (by decide) (by decide) rfl ?_
      refine b_vr d_Al_finish_70 rfl ?_
      exact ⟨rfl, rfl, rfl, rfl, rfl⟩
    · refine b_ic (pc2 := 52) (x := Int32.ofNat 1) d_Al_finish_51 rfl rfl ?_
      refine b_go (pc2 := 56) d_Al_finish_52 rfl ?_
      have hdn2 : dn = _ := hdn
      first | (rw [i_le (by decide) (by omega)] at h36; rw [if_pos (Or.inl h36)] at hdn2) | (rw [i_le (by decide) (by omega)] at h36; rw [i_lt (by omega) (by decide)] at h48; first | (rw [if_neg (by omega)] at hdn2) | (rw [if_pos (Or.inr (by omega))] at hdn2))
      clear hdn
      subst hdn2
      refine b_pi (pc2 := 59) d_Al_finish_56 q_10_56 (sh_1 n0) (by decide) (Or.inl (by decide)) (Or.inr ⟨rfl, by decide⟩) (rc_1) rfl ?_
      refine b_aln (pc2 := 60) d_Al_finish_59 rfl rfl ?_
      refine b_gr (pc2 := 63) d_Al_finish_60 q_10_38 (sh_1 n0) (by decide) (by decide) (p_1_4 n0) rfl ?_
      refine b_aln (pc2 := 64) d_Al_finish_63 rfl rfl ?_
      refine b_gi (pc2 := 67) d_Al_finish_64 q_10_56 (sh_1 n0) (by decide) (by decide) (rc_1) rfl ?_
      rw [u2_at]
      refine b_cv0 (pc2 := 70) (c2 := 0) (u2 := 0) (hE e (by omega)) d_Al_finish_67 q_10_232 (Nat.le_of_ble_eq_true rfl) rfl rfl (sh_67 n0) (Nat.le_of_ble_eq_true rfl) rfl rfl (by decide) (by decide) rfl ?_
      refine b_vr d_Al_finish_70 rfl ?_
      exact ⟨rfl, rfl, rfl, rfl, rfl⟩
theorem ex_a {e : Nat} (he : 3 ≤ e) {fl : Int32} {up bk : Int64} {ch : Int32} (hA : ∀ e, 1 ≤ e → bm e (S0 n0) R0 62 [.ref 2] W J g L (bR (some (.int ch)) W J1 g L)) (hT : ∀ e, 1 ≤ e → bm e (S0 n0) R0 63 [.ref 5, .int ch] W (am_u2 J1 1 7 ch) g L (bR none W J2 g L)) (hS : ∀ e, 3 ≤ e → bm e (S0 n0) R0 64 [.ref 7, .ref 5] W J2 g L (bR none W1 J3 g L)) (K : bH e (S0 n0) R0 mt_Al_exchange Qh 33 [(0, .ref 1), (1, .int fl), (2, .long up), (4, .long bk)] [] W1 J3 g L 0 0) : bH e (S0 n0) R0 mt_Al_exchange Qh 0 [(0, .ref 1), (1, .int fl), (2, .long up), (4, .long bk)] [] W J g L 0 0 := by
  have hSR := SR0 n0
  refine b_aln (pc2 := 1) d_Al_exchange_0 rfl rfl ?_
  refine b_aln (pc2 := 2) d_Al_exchange_1 rfl rfl ?_
  refine b_gr (pc2 := 5) d_Al_exchange_2 q_10_14 (sh_1 n0) (by decide) (by decide) (p_1_0 n0) rfl ?_
  refine b_cv1 (pc2 := 8) (c2 := 0) (u2 := 0) (hA e (by omega)) d_Al_exchange_5 q_10_190 (Nat.le_of_ble_eq_true rfl) rfl rfl (sh_2 n0) (Nat.le_of_ble_eq_true rfl) rfl rfl (by decide) (by decide) rfl ?_
  refine b_pi (pc2 := 11) d_Al_exchange_8 q_10_53 (sh_1 n0) (by decide) (Or.inl (by decide)) (Or.inl rfl) (rc_1) rfl ?_
  refine b_aln (pc2 := 12) d_Al_exchange_11 rfl rfl ?_
  refine b_gr (pc2 := 15) d_Al_exchange_12 q_10_21 (sh_1 n0) (by decide) (by decide) (p_1_1 n0) rfl ?_
  refine b_aln (pc2 := 16) d_Al_exchange_15 rfl rfl ?_
  refine b_gi (pc2 := 19) d_Al_exchange_16 q_10_53 (sh_1 n0) (by decide) (by decide) (rc_1) rfl ?_
  rw [u2_at]
  refine b_cv0 (pc2 := 22) (c2 := 0) (u2 := 0) (hT e (by omega)) d_Al_exchange_19 q_10_193 (Nat.le_of_ble_eq_true rfl) rfl rfl (sh_5 n0) (Nat.le_of_ble_eq_true rfl) rfl rfl (by decide) (by decide) rfl ?_
  refine b_aln (pc2 := 23) d_Al_exchange_22 rfl rfl ?_
  refine b_gr (pc2 := 26) d_Al_exchange_23 q_10_28 (sh_1 n0) (by decide) (by decide) (p_1_2 n0) rfl ?_
  refine b_aln (pc2 := 27) d_Al_exchange_26 rfl rfl ?_
  refine b_gr (pc2 := 30) d_Al_exchange_27 q_10_21 (sh_1 n0) (by decide) (by decide) (p_1_1 n0) rfl ?_
  refine b_cv0 (pc2 := 33) (c2 := 0) (u2 := 0) (hS e (by omega)) d_Al_exchange_30 q_10_197 (Nat.le_of_ble_eq_true rfl) rfl rfl (sh_7 n0) (Nat.le_of_ble_eq_true rfl) rfl rfl (by decide) (by decide) rfl ?_
  refine b_nf (al := [(0, _), (1, _), (2, _), (4, _)]) (ks := [0, 1, 2, 4]) (sub_c rfl (sub_c rfl (sub_c rfl (sub_c rfl (sub_n))))) rfl (by decide) ?_
  dsimp only
  exact K
theorem ex_b0 {e : Nat} (he : 5 ≤ e) {fl : Int32} {up bk : Int64} (hf : ¬ fl &&& Int32.ofNat 1 = 0) (K : bH e (S0 n0) R0 mt_Al_exchange Qh 202 [(0, .ref 1), (6, .int (Int32.ofNat 0)), (7, .int (Int32.ofNat 0))] [] W J g L 0 0) : bH e (S0 n0) R0 mt_Al_exchange Qh 33 [(0, .ref 1), (1, .int fl), (2, .long up), (4, .long bk)] [] W J g L 0 0 := by
  have hSR := SR0 n0
  refine b_iln (pc2 := 34) d_Al_exchange_33 rfl rfl ?_
  refine b_ic (pc2 := 35) (x := Int32.ofNat 1) d_Al_exchange_34 rfl rfl ?_
  refine b_pure (pc2 := 36) d_Al_exchange_35 rfl rfl rfl ?_
  refine b_ifd (pc2 := 65) d_Al_exchange_36 rfl rfl rfl rfl rfl (fun h36 => ?_) (fun h36 => ?_)
  rotate_left
  · exact absurd (hf) h36
  refine b_ic (pc2 := 66) (x := Int32.ofNat 0) d_Al_exchange_65 rfl rfl ?_
  refine b_is (pc2 := 68) (al2 := [(6, _), (0, _), (1, _), (2, _), (4, _)]) d_Al_exchange_66 (by decide) rfl rfl ?_
  refine b_ic (pc2 := 69) (x := Int32.ofNat 0) d_Al_exchange_68 rfl rfl ?_
  refine b_is (pc2 := 71) (al2 := [(7, _), (6, _), (0, _), (1, _), (2, _), (4, _)]) d_Al_exchange_69 (by decide) rfl rfl ?_
  refine b_il (pc2 := 73) d_Al_exchange_71 rfl rfl ?_
  refine b_ifd (pc2 := 160) d_Al_exchange_73 rfl rfl rfl rfl rfl (fun h73 => ?_) (fun h73 => ?_)
  rotate_left
  · exact absurd (by decide) h73
  refine b_il (pc2 := 162) d_Al_exchange_160 rfl rfl ?_
  refine b_ifd (pc2 := 202) d_Al_exchange_162 rfl rfl rfl rfl rfl (fun h162 => ?_) (fun h162 => ?_)
  rotate_left
  · exact absurd (by decide) h162
  refine b_nf (al := [(0, _), (6, _), (7, _)]) (ks := [0, 6, 7]) (sub_c rfl (sub_c rfl (sub_c rfl (sub_n)))) rfl (by decide) ?_
  dsimp only
  exact K
theorem ex_b1 {e : Nat} (he : 5 ≤ e) {fl : Int32} {up bk : Int64} (hf : fl &&& Int32.ofNat 1 = 0) (hH : ∀ e, 5 ≤ e → bm e (S0 n0) R0 69 [.ref 37, .ref 31, .long up, .ref 5] W J g L (bR (some (.int 0)) W1 J1 g L)) (K : bH e (S0 n0) R0 mt_Al_exchange Qh 202 [(0, .ref 1), (6, .int (Int32.ofNat 0)), (7, .int (Int32.ofNat 0))] [] W1 J1 g L 0 0) : bH e (S0 n0) R0 mt_Al_exchange Qh 33 [(0, .ref 1), (1, .int fl), (2, .long up), (4, .long bk)] [] W J g L 0 0 := by
  have hSR := SR0 n0
  refine b_iln (pc2 := 34) d_Al_exchange_33 rfl rfl ?_
  refine b_ic (pc2 := 35) (x := Int32.ofNat 1) d_Al_exchange_34 rfl rfl ?_
  refine b_pure (pc2 := 36) d_Al_exchange_35 rfl rfl rfl ?_
  refine b_ifd (pc2 := 65) d_Al_exchange_36 rfl rfl rfl rfl rfl (fun h36 => ?_) (fun h36 => ?_)
  · exact absurd h36 (fun z => z hf)
  refine b_aln (pc2 := 40) d_Al_exchange_39 rfl rfl ?_
  refine b_gr (pc2 := 43) d_Al_exchange_40 q_10_32 (sh_1 n0) (by decide) (by decide) (p_1_3 n0) rfl ?_
  refine b_aln (pc2 := 44) d_Al_exchange_43 rfl rfl ?_
  refine b_gr (pc2 := 47) d_Al_exchange_44 q_10_28 (sh_1 n0) (by decide) (by decide) (p_1_2 n0) rfl ?_
  refine b_gr (pc2 := 50) d_Al_exchange_47 q_10_160 (sh_7 n0) (by decide) (by decide) (p_7_2 n0) rfl ?_
  refine b_lln (pc2 := 51) d_Al_exchange_50 rfl rfl ?_
  refine b_aln (pc2 := 52) d_Al_exchange_51 rfl rfl ?_
  refine b_gr (pc2 := 55) d_Al_exchange_52 q_10_21 (sh_1 n0) (by decide) (by decide) (p_1_1 n0) rfl ?_
  refine b_cv1 (pc2 := 58) (c2 := 0) (u2 := 0) (hH e (by omega)) d_Al_exchange_55 q_10_201 (Nat.le_of_ble_eq_true rfl) rfl rfl (sh_37 n0) (Nat.le_of_ble_eq_true rfl) rfl rfl (by decide) (by decide) rfl ?_
  refine b_ifd (pc2 := 65) d_Al_exchange_58 rfl rfl rfl rfl rfl (fun h58 => ?_) (fun h58 => ?_)
  rotate_left
  · exact absurd (rfl) h58
  refine b_ic (pc2 := 66) (x := Int32.ofNat 0) d_Al_exchange_65 rfl rfl ?_
  refine b_is (pc2 := 68) (al2 := [(6, _), (0, _), (1, _), (2, _), (4, _)]) d_Al_exchange_66 (by decide) rfl rfl ?_
  refine b_ic (pc2 := 69) (x := Int32.ofNat 0) d_Al_exchange_68 rfl rfl ?_
  refine b_is (pc2 := 71) (al2 := [(7, _), (6, _), (0, _), (1, _), (2, _), (4, _)]) d_Al_exchange_69 (by decide) rfl rfl ?_
  refine b_il (pc2 := 73) d_Al_exchange_71 rfl rfl ?_
  refine b_ifd (pc2 := 160) d_Al_exchange_73 rfl rfl rfl rfl rfl (fun h73 => ?_) (fun h73 => ?_)
  rotate_left
  · exact absurd (by decide) h73
  refine b_il (pc2 := 162) d_Al_exchange_160 rfl rfl ?_
  refine b_ifd (pc2 := 202) d_Al_exchange_162 rfl rfl rfl rfl rfl (fun h162 => ?_) (fun h162 => ?_)
  rotate_left
  · exact absurd (by decide) h162
  refine b_nf (al := [(0, _), (6, _), (7, _)]) (ks := [0, 6, 7]) (sub_c rfl (sub_c rfl (sub_c rfl (sub_n)))) rfl (by decide) ?_
  dsimp only
  exact K
theorem ex_b2 {e : Nat} (he : 5 ≤ e) {fl : Int32} {up bk : Int64} (hf : fl &&& Int32.ofNat 1 = 0) (hH : ∀ e, 5 ≤ e → bm e (S0 n0) R0 69 [.ref 37, .ref 31, .long up, .ref 5] W J g L (bR (some (.int 1)) W1 J1 g L)) (K : bH e (S0 n0) R0 mt_Al_exchange Qh 76 [(0, .ref 1), (1, .int fl), (4, .long bk), (6, .int (Int32.ofNat 1)), (7, .int (Int32.ofNat 0))] [] W1 J1 g L 0 0) : bH e (S0 n0) R0 mt_Al_exchange Qh 33 [(0, .ref 1), (1, .int fl), (2, .long up), (4, .long bk)] [] W J g L 0 0 := by
  have hSR := SR0 n0
  refine b_iln (pc2 := 34) d_Al_exchange_33 rfl rfl ?_
  refine b_ic (pc2 := 35) (x := Int32.ofNat 1) d_Al_exchange_34 rfl rfl ?_
  refine b_pure (pc2 := 36) d_Al_exchange_35 rfl rfl rfl ?_
  refine b_ifd (pc2 := 65) d_Al_exchange_36 rfl rfl rfl rfl rfl (fun h36 => ?_) (fun h36 => ?_)
  · exact absurd h36 (fun z => z hf)
  refine b_aln (pc2 := 40) d_Al_exchange_39 rfl rfl ?_
  refine b_gr (pc2 := 43) d_Al_exchange_40 q_10_32 (sh_1 n0) (by decide) (by decide) (p_1_3 n0) rfl ?_
  refine b_aln (pc2 := 44) d_Al_exchange_43 rfl rfl ?_
  refine b_gr (pc2 := 47) d_Al_exchange_44 q_10_28 (sh_1 n0) (by decide) (by decide) (p_1_2 n0) rfl ?_
  refine b_gr (pc2 := 50) d_Al_exchange_47 q_10_160 (sh_7 n0) (by decide) (by decide) (p_7_2 n0) rfl ?_
  refine b_lln (pc2 := 51) d_Al_exchange_50 rfl rfl ?_
  refine b_aln (pc2 := 52) d_Al_exchange_51 rfl rfl ?_
  refine b_gr (pc2 := 55) d_Al_exchange_52 q_10_21 (sh_1 n0) (by decide) (by decide) (p_1_1 n0) rfl ?_
  refine b_cv1 (pc2 := 58) (c2 := 0) (u2 := 0) (hH e (by omega)) d_Al_exchange_55 q_10_201 (Nat.le_of_ble_eq_true rfl) rfl rfl (sh_37 n0) (Nat.le_of_ble_eq_true rfl) rfl rfl (by decide) (by decide) rfl ?_
  refine b_ifd (pc2 := 65) d_Al_exchange_58 rfl rfl rfl rfl rfl (fun h58 => ?_) (fun h58 => ?_)
  · exact absurd h58 (show ¬ (1 : Int32) = 0 by decide)
  refine b_ic (pc2 := 62) (x := Int32.ofNat 1) d_Al_exchange_61 rfl rfl ?_
  refine b_go (pc2 := 66) d_Al_exchange_62 rfl ?_
  refine b_is (pc2 := 68) (al2 := [(6, _), (0, _), (1, _), (2, _), (4, _)]) d_Al_exchange_66 (by decide) rfl rfl ?_
  refine b_ic (pc2 := 69) (x := Int32.ofNat 0) d_Al_exchange_68 rfl rfl ?_
  refine b_is (pc2 := 71) (al2 := [(7, _), (6, _), (0, _), (1, _), (2, _), (4, _)]) d_Al_exchange_69 (by decide) rfl rfl ?_
  refine b_il (pc2 := 73) d_Al_exchange_71 rfl rfl ?_
  refine b_ifd (pc2 := 160) d_Al_exchange_73 rfl rfl rfl rfl rfl (fun h73 => ?_) (fun h73 => ?_)
  · exact absurd h73 (by decide)
  refine b_nf (al := [(0, _), (1, _), (4, _), (6, _), (7, _)]) (ks := [0, 1, 4, 6, 7]) (sub_c rfl (sub_c rfl (sub_c rfl (sub_c rfl (sub_c rfl (sub_n)))))) rfl (by decide) ?_
  dsimp only
  exact K
theorem ex_c0 {e : Nat} (he : 5 ≤ e) {fl : Int32} {up bk : Int64} (hdn : J 56 3 = 0) (K : bH e (S0 n0) R0 mt_Al_exchange Qh 113 [(0, .ref 1), (1, .int fl), (4, .long bk), (6, .int (Int32.ofNat 1)), (7, .int (Int32.ofNat 0))] [] W J g L 0 0) : bH e (S0 n0) R0 mt_Al_exchange Qh 76 [(0, .ref 1), (1, .int fl), (4, .long bk), (6, .int (Int32.ofNat 1)), (7, .int (Int32.ofNat 0))] [] W J g L 0 0 := by
  have hSR := SR0 n0
  refine b_aln (pc2 := 77) d_Al_exchange_76 rfl rfl ?_
  refine b_gr (pc2 := 80) d_Al_exchange_77 q_10_32 (sh_1 n0) (by decide) (by decide) (p_1_3 n0) rfl ?_
  refine b_gr (pc2 := 83) d_Al_exchange_80 q_10_205 (sh_37 n0) (by decide) (by decide) (p_37_1 n0) rfl ?_
  refine b_cv1 (pc2 := 86) (c2 := 0) (u2 := 0) (in_isDone_s (by omega) (Or.inl hdn)) d_Al_exchange_83 q_10_209 (Nat.le_of_ble_eq_true rfl) rfl rfl (sh_56 n0) (Nat.le_of_ble_eq_true rfl) rfl rfl (by decide) (by decide) rfl ?_
  refine b_ifd (pc2 := 113) d_Al_exchange_86 rfl rfl rfl rfl rfl (fun h86 => ?_) (fun h86 => ?_)
  rotate_left
  · exact absurd (hdn) h86
  refine b_nf (al := [(0, _), (1, _), (4, _), (6, _), (7, _)]) (ks := [0, 1, 4, 6, 7]) (sub_c rfl (sub_c rfl (sub_c rfl (sub_c rfl (sub_c rfl (sub_n)))))) rfl (by decide) ?_
  dsimp only
  exact K
theorem ex_c1 {e : Nat} (he : 5 ≤ e) {fl : Int32} {up bk : Int64} (hdn : J 56 3 = 1) (hV : ∀ e, 5 ≤ e → bm e (S0 n0) R0 77 [.ref 86, .ref 57, .ref 38] W J g L (bR none W1 J1 g L)) (K : bH e (S0 n0) R0 mt_Al_exchange Qh 113 [(0, .ref 1), (1, .int fl), (4, .long bk), (6, .int (Int32.ofNat 1)), (7, .int (Int32.ofNat 0))] [] W1 J1 g L 0 0) : bH e (S0 n0) R0 mt_Al_exchange Qh 76 [(0, .ref 1), (1, .int fl), (4, .long bk), (6, .int (Int32.ofNat 1)), (7, .int (Int32.ofNat 0))] [] W J g L 0 0 := by
  have hSR := SR0 n0
  refine b_aln (pc2 := 77) d_Al_exchange_76 rfl rfl ?_
  refine b_gr (pc2 := 80) d_Al_exchange_77 q_10_32 (sh_1 n0) (by decide) (by decide) (p_1_3 n0) rfl ?_
  refine b_gr (pc2 := 83) d_Al_exchange_80 q_10_205 (sh_37 n0) (by decide) (by decide) (p_37_1 n0) rfl ?_
  refine b_cv1 (pc2 := 86) (c2 := 0) (u2 := 0) (in_isDone_s (by omega) (Or.inr hdn)) d_Al_exchange_83 q_10_209 (Nat.le_of_ble_eq_true rfl) rfl rfl (sh_56 n0) (Nat.le_of_ble_eq_true rfl) rfl rfl (by decide) (by decide) rfl ?_
  refine b_ifd (pc2 := 113) d_Al_exchange_86 rfl rfl rfl rfl rfl (fun h86 => ?_) (fun h86 => ?_)
  · exact absurd h86 (by rw [hdn]; decide)
  refine b_aln (pc2 := 90) d_Al_exchange_89 rfl rfl ?_
  refine b_gr (pc2 := 93) d_Al_exchange_90 q_10_45 (sh_1 n0) (by decide) (by decide) (p_1_5 n0) rfl ?_
  refine b_aln (pc2 := 94) d_Al_exchange_93 rfl rfl ?_
  refine b_gr (pc2 := 97) d_Al_exchange_94 q_10_32 (sh_1 n0) (by decide) (by decide) (p_1_3 n0) rfl ?_
  refine b_gr (pc2 := 100) d_Al_exchange_97 q_10_205 (sh_37 n0) (by decide) (by decide) (p_37_1 n0) rfl ?_
  refine b_gr (pc2 := 103) d_Al_exchange_100 q_10_214 (sh_56 n0) (by decide) (by decide) (p_56_0 n0) rfl ?_
  refine b_aln (pc2 := 104) d_Al_exchange_103 rfl rfl ?_
  refine b_gr (pc2 := 107) d_Al_exchange_104 q_10_32 (sh_1 n0) (by decide) (by decide) (p_1_3 n0) rfl ?_
  refine b_gr (pc2 := 110) d_Al_exchange_107 q_10_101 (sh_37 n0) (by decide) (by decide) (p_37_0 n0) rfl ?_
  refine b_cv0 (pc2 := 113) (c2 := 0) (u2 := 0) (hV e (by omega)) d_Al_exchange_110 q_10_217 (Nat.le_of_ble_eq_true rfl) rfl rfl (sh_86 n0) (Nat.le_of_ble_eq_true rfl) rfl rfl (by decide) (by decide) rfl ?_
  refine b_nf (al := [(0, _), (1, _), (4, _), (6, _), (7, _)]) (ks := [0, 1, 4, 6, 7]) (sub_c rfl (sub_c rfl (sub_c rfl (sub_c rfl (sub_c rfl (sub_n)))))) rfl (by decide) ?_
  dsimp only
  exact K
theorem ex_d0 {e : Nat} (he : 5 ≤ e) {fl : Int32} {up bk : Int64} (hS : ∀ e, 3 ≤ e → bm e (S0 n0) R0 64 [.ref 37, .ref 5] W J g L (bR none W1 J1 g L)) (hf : ¬ fl &&& Int32.ofNat 2 = 0) (K : bH e (S0 n0) R0 mt_Al_exchange Qh 202 [(0, .ref 1), (6, .int (Int32.ofNat 1)), (7, .int (Int32.ofNat 0))] [] W1 J1 g L 0 0) : bH e (S0 n0) R0 mt_Al_exchange Qh 113 [(0, .ref 1), (1, .int fl), (4, .long bk), (6, .int (Int32.ofNat 1)), (7, .int (Int32.ofNat 0))] [] W J g L 0 0 := by
  have hSR := SR0 n0
  refine b_aln (pc2 := 114) d_Al_exchange_113 rfl rfl ?_
  refine b_gr (pc2 := 117) d_Al_exchange_114 q_10_32 (sh_1 n0) (by decide) (by decide) (p_1_3 n0) rfl ?_
  refine b_aln (pc2 := 118) d_Al_exchange_117 rfl rfl ?_
  refine b_gr (pc2 := 121) d_Al_exchange_118 q_10_21 (sh_1 n0) (by decide) (by decide) (p_1_1 n0) rfl ?_
  refine b_cv0 (pc2 := 124) (c2 := 0) (u2 := 0) (hS e (by omega)) d_Al_exchange_121 q_10_197 (Nat.le_of_ble_eq_true rfl) rfl rfl (sh_37 n0) (Nat.le_of_ble_eq_true rfl) rfl rfl (by decide) (by decide) rfl ?_
  refine b_iln (pc2 := 125) d_Al_exchange_124 rfl rfl ?_
  refine b_ic (pc2 := 126) (x := Int32.ofNat 2) d_Al_exchange_125 rfl rfl ?_
  refine b_pure (pc2 := 127) d_Al_exchange_126 rfl rfl rfl ?_
  refine b_ifd (pc2 := 157) d_Al_exchange_127 rfl rfl rfl rfl rfl (fun h127 => ?_) (fun h127 => ?_)
  rotate_left
  · exact absurd (hf) h127
  refine b_ic (pc2 := 158) (x := Int32.ofNat 0) d_Al_exchange_157 rfl rfl ?_
  refine b_is (pc2 := 160) (al2 := [(7, _), (0, _), (1, _), (4, _), (6, _)]) d_Al_exchange_158 (by decide) rfl rfl ?_
  refine b_il (pc2 := 162) d_Al_exchange_160 rfl rfl ?_
  refine b_ifd (pc2 := 202) d_Al_exchange_162 rfl rfl rfl rfl rfl (fun h162 => ?_) (fun h162 => ?_)
  rotate_left
  · exact absurd (by decide) h162
  refine b_nf (al := [(0, _), (6, _), (7, _)]) (ks := [0, 6, 7]) (sub_c rfl (sub_c rfl (sub_c rfl (sub_n)))) rfl (by decide) ?_
  dsimp only
  exact K
theorem ex_d1 {e : Nat} (he : 5 ≤ e) {fl : Int32} {up bk : Int64} (hS : ∀ e, 3 ≤ e → bm e (S0 n0) R0 64 [.ref 37, .ref 5] W J g L (bR none W1 J1 g L)) (hf : fl &&& Int32.ofNat 2 = 0) (hH : ∀ e, 5 ≤ e → bm e (S0 n0) R0 69 [.ref 7, .ref 61, .long bk, .ref 5] W1 J1 g L (bR (some (.int 0)) W2 J2 g L)) (K : bH e (S0 n0) R0 mt_Al_exchange Qh 202 [(0, .ref 1), (6, .int (Int32.ofNat 1)), (7, .int (Int32.ofNat 0))] [] W2 J2 g L 0 0) : bH e (S0 n0) R0 mt_Al_exchange Qh 113 [(0, .ref 1), (1, .int fl), (4, .long bk), (6, .int (Int32.ofNat 1)), (7, .int (Int32.ofNat 0))] [] W J g L 0 0 := by
  have hSR := SR0 n0
  refine b_aln (pc2 := 114) d_Al_exchange_113 rfl rfl ?_
  refine b_gr (pc2 := 117) d_Al_exchange_114 q_10_32 (sh_1 n0) (by decide) (by decide) (p_1_3 n0) rfl ?_
  refine b_aln (pc2 := 118) d_Al_exchange_117 rfl rfl ?_
  refine b_gr (pc2 := 121) d_Al_exchange_118 q_10_21 (sh_1 n0) (by decide) (by decide) (p_1_1 n0) rfl ?_
  refine b_cv0 (pc2 := 124) (c2 := 0) (u2 := 0) (hS e (by omega)) d_Al_exchange_121 q_10_197 (Nat.le_of_ble_eq_true rfl) rfl rfl (sh_37 n0) (Nat.le_of_ble_eq_true rfl) rfl rfl (by decide) (by decide) rfl ?_
  refine b_iln (pc2 := 125) d_Al_exchange_124 rfl rfl ?_
  refine b_ic (pc2 := 126) (x := Int32.ofNat 2) d_Al_exchange_125 rfl rfl ?_
  refine b_pure (pc2 := 127) d_Al_exchange_126 rfl rfl rfl ?_
  refine b_ifd (pc2 := 157) d_Al_exchange_127 rfl rfl rfl rfl rfl (fun h127 => ?_) (fun h127 => ?_)
  · exact absurd h127 (fun z => z hf)
  refine b_aln (pc2 := 131) d_Al_exchange_130 rfl rfl ?_
  refine b_gr (pc2 := 134) d_Al_exchange_131 q_10_28 (sh_1 n0) (by decide) (by decide) (p_1_2 n0) rfl ?_
  refine b_aln (pc2 := 135) d_Al_exchange_134 rfl rfl ?_
  refine b_gr (pc2 := 138) d_Al_exchange_135 q_10_32 (sh_1 n0) (by decide) (by decide) (p_1_3 n0) rfl ?_
  refine b_gr (pc2 := 141) d_Al_exchange_138 q_10_160 (sh_37 n0) (by decide) (by decide) (p_37_2 n0) rfl ?_
  refine b_ll (pc2 := 143) d_Al_exchange_141 rfl rfl ?_
  refine b_aln (pc2 := 144) d_Al_exchange_143 rfl rfl ?_
  refine b_gr (pc2 := 147) d_Al_exchange_144 q_10_21 (sh_1 n0) (by decide) (by decide) (p_1_1 n0) rfl ?_
  refine b_cv1 (pc2 := 150) (c2 := 0) (u2 := 0) (hH e (by omega)) d_Al_exchange_147 q_10_201 (Nat.le_of_ble_eq_true rfl) rfl rfl (sh_7 n0) (Nat.le_of_ble_eq_true rfl) rfl rfl (by decide) (by decide) rfl ?_
  refine b_ifd (pc2 := 157) d_Al_exchange_150 rfl rfl rfl rfl rfl (fun h150 => ?_) (fun h150 => ?_)
  rotate_left
  · exact absurd (rfl) h150
  refine b_ic (pc2 := 158) (x := Int32.ofNat 0) d_Al_exchange_157 rfl rfl ?_
  refine b_is (pc2 := 160) (al2 := [(7, _), (0, _), (1, _), (4, _), (6, _)]) d_Al_exchange_158 (by decide) rfl rfl ?_
  refine b_il (pc2 := 162) d_Al_exchange_160 rfl rfl ?_
  refine b_ifd (pc2 := 202) d_Al_exchange_162 rfl rfl rfl rfl rfl (fun h162 => ?_) (fun h162 => ?_)
  rotate_left
  · exact absurd (by decide) h162
  refine b_nf (al := [(0, _), (6, _), (7, _)]) (ks := [0, 6, 7]) (sub_c rfl (sub_c rfl (sub_c rfl (sub_n)))) rfl (by decide) ?_
  dsimp only
  exact K
theorem ex_d2 {e : Nat} (he : 5 ≤ e) {fl : Int32} {up bk : Int64} (hS : ∀ e, 3 ≤ e → bm e (S0 n0) R0 64 [.ref 37, .ref 5] W J g L (bR none W1 J1 g L)) (hf : fl &&& Int32.ofNat 2 = 0) (hH : ∀ e, 5 ≤ e → bm e (S0 n0) R0 69 [.ref 7, .ref 61, .long bk, .ref 5] W1 J1 g L (bR (some (.int 1)) W2 J2 g L)) (K : bH e (S0 n0) R0 mt_Al_exchange Qh 165 [(0, .ref 1), (6, .int (Int32.ofNat 1)), (7, .int (Int32.ofNat 1))] [] W2 J2 g L 0 0) : bH e (S0 n0) R0 mt_Al_exchange Qh 113 [(0, .ref 1), (1, .int fl), (4, .long bk), (6, .int (Int32.ofNat 1)), (7, .int (Int32.ofNat 0))] [] W J g L 0 0 := by
  have hSR := SR0 n0
  refine b_aln (pc2 := 114) d_Al_exchange_113 rfl rfl ?_
  refine b_gr (pc2 := 117) d_Al_exchange_114 q_10_32 (sh_1 n0) (by decide) (by decide) (p_1_3 n0) rfl ?_
  refine b_aln (pc2 := 118) d_Al_exchange_117 rfl rfl ?_
  refine b_gr (pc2 := 121) d_Al_exchange_118 q_10_21 (sh_1 n0) (by decide) (by decide) (p_1_1 n0) rfl ?_
  refine b_cv0 (pc2 := 124) (c2 := 0) (u2 := 0) (hS e (by omega)) d_Al_exchange_121 q_10_197 (Nat.le_of_ble_eq_true rfl) rfl rfl (sh_37 n0) (Nat.le_of_ble_eq_true rfl) rfl rfl (by decide) (by decide) rfl ?_
  refine b_iln (pc2 := 125) d_Al_exchange_124 rfl rfl ?_
  refine b_ic (pc2 := 126) (x := Int32.ofNat 2) d_Al_exchange_125 rfl rfl ?_
  refine b_pure (pc2 := 127) d_Al_exchange_126 rfl rfl rfl ?_
  refine b_ifd (pc2 := 157) d_Al_exchange_127 rfl rfl rfl rfl rfl (fun h127 => ?_) (fun h127 => ?_)
  · exact absurd h127 (fun z => z hf)
  refine b_aln (pc2 := 131) d_Al_exchange_130 rfl rfl ?_
  refine b_gr (pc2 := 134) d_Al_exchange_131 q_10_28 (sh_1 n0) (by decide) (by decide) (p_1_2 n0) rfl ?_
  refine b_aln (pc2 := 135) d_Al_exchange_134 rfl rfl ?_
  refine b_gr (pc2 := 138) d_Al_exchange_135 q_10_32 (sh_1 n0) (by decide) (by decide) (p_1_3 n0) rfl ?_
  refine b_gr (pc2 := 141) d_Al_exchange_138 q_10_160 (sh_37 n0) (by decide) (by decide) (p_37_2 n0) rfl ?_
  refine b_ll (pc2 := 143) d_Al_exchange_141 rfl rfl ?_
  refine b_aln (pc2 := 144) d_Al_exchange_143 rfl rfl ?_
  refine b_gr (pc2 := 147) d_Al_exchange_144 q_10_21 (sh_1 n0) (by decide) (by decide) (p_1_1 n0) rfl ?_
  refine b_cv1 (pc2 := 150) (c2 := 0) (u2 := 0) (hH e (by omega)) d_Al_exchange_147 q_10_201 (Nat.le_of_ble_eq_true rfl) rfl rfl (sh_7 n0) (Nat.le_of_ble_eq_true rfl) rfl rfl (by decide) (by decide) rfl ?_
  refine b_ifd (pc2 := 157) d_Al_exchange_150 rfl rfl rfl rfl rfl (fun h150 => ?_) (fun h150 => ?_)
  · exact absurd h150 (show ¬ (1 : Int32) = 0 by decide)
  refine b_ic (pc2 := 154) (x := Int32.ofNat 1) d_Al_exchange_153 rfl rfl ?_
  refine b_go (pc2 := 158) d_Al_exchange_154 rfl ?_
  refine b_is (pc2 := 160) (al2 := [(7, _), (0, _), (1, _), (4, _), (6, _)]) d_Al_exchange_158 (by decide) rfl rfl ?_
  refine b_il (pc2 := 162) d_Al_exchange_160 rfl rfl ?_
  refine b_ifd (pc2 := 202) d_Al_exchange_162 rfl rfl rfl rfl rfl (fun h162 => ?_) (fun h162 => ?_)
  · exact absurd h162 (by decide)
  refine b_nf (al := [(0, _), (6, _), (7, _)]) (ks := [0, 6, 7]) (sub_c rfl (sub_c rfl (sub_c rfl (sub_n)))) rfl (by decide) ?_
  dsimp only
  exact K
theorem ex_e0 {e : Nat} (he : 5 ≤ e) {fl : Int32} {up bk : Int64} (hdn : J 26 3 = 0) (K : bH e (S0 n0) R0 mt_Al_exchange Qh 202 [(0, .ref 1), (6, .int (Int32.ofNat 1)), (7, .int (Int32.ofNat 1))] [] W J g L 0 0) : bH e (S0 n0) R0 mt_Al_exchange Qh 165 [(0, .ref 1), (6, .int (Int32.ofNat 1)), (7, .int (Int32.ofNat 1))] [] W J g L 0 0 := by
  have hSR := SR0 n0
  refine b_aln (pc2 := 166) d_Al_exchange_165 rfl rfl ?_
  refine b_gr (pc2 := 169) d_Al_exchange_166 q_10_28 (sh_1 n0) (by decide) (by decide) (p_1_2 n0) rfl ?_
  refine b_gr (pc2 := 172) d_Al_exchange_169 q_10_205 (sh_7 n0) (by decide) (by decide) (p_7_1 n0) rfl ?_
  refine b_cv1 (pc2 := 175) (c2 := 0) (u2 := 0) (in_isDone_c (by omega) (Or.inl hdn)) d_Al_exchange_172 q_10_209 (Nat.le_of_ble_eq_true rfl) rfl rfl (sh_26 n0) (Nat.le_of_ble_eq_true rfl) rfl rfl (by decide) (by decide) rfl ?_
  refine b_ifd (pc2 := 202) d_Al_exchange_175 rfl rfl rfl rfl rfl (fun h175 => ?_) (fun h175 => ?_)
  rotate_left
  · exact absurd (hdn) h175
  refine b_nf (al := [(0, _), (6, _), (7, _)]) (ks := [0, 6, 7]) (sub_c rfl (sub_c rfl (sub_c rfl (sub_n)))) rfl (by decide) ?_
  dsimp only
  exact K
theorem ex_e1 {e : Nat} (he : 5 ≤ e) {fl : Int32} {up bk : Int64} (hdn : J 26 3 = 1) (hV : ∀ e, 5 ≤ e → bm e (S0 n0) R0 93 [.ref 67, .ref 27, .ref 8] W J g L (bR none W1 J1 g L)) (K : bH e (S0 n0) R0 mt_Al_exchange Qh 202 [(0, .ref 1), (6, .int (Int32.ofNat 1)), (7, .int (Int32.ofNat 1))] [] W1 J1 g L 0 0) : bH e (S0 n0) R0 mt_Al_exchange Qh 165 [(0, .ref 1), (6, .int (Int32.ofNat 1)), (7, .int (Int32.ofNat 1))] [] W J g L 0 0 := by
  have hSR := SR0 n0
  refine b_aln (pc2 := 166) d_Al_exchange_165 rfl rfl ?_
  refine b_gr (pc2 := 169) d_Al_exchange_166 q_10_28 (sh_1 n0) (by decide) (by decide) (p_1_2 n0) rfl ?_
  refine b_gr (pc2 := 172) d_Al_exchange_169 q_10_205 (sh_7 n0) (by decide) (by decide) (p_7_1 n0) rfl ?_
  refine b_cv1 (pc2 := 175) (c2 := 0) (u2 := 0) (in_isDone_c (by omega) (Or.inr hdn)) d_Al_exchange_172 q_10_209 (Nat.le_of_ble_eq_true rfl) rfl rfl (sh_26 n0) (Nat.le_of_ble_eq_true rfl) rfl rfl (by decide) (by decide) rfl ?_
  refine b_ifd (pc2 := 202) d_Al_exchange_175 rfl rfl rfl rfl rfl (fun h175 => ?_) (fun h175 => ?_)
  · exact absurd h175 (by rw [hdn]; decide)
  refine b_aln (pc2 := 179) d_Al_exchange_178 rfl rfl ?_
  refine b_gr (pc2 := 182) d_Al_exchange_179 q_10_38 (sh_1 n0) (by decide) (by decide) (p_1_4 n0) rfl ?_
  refine b_aln (pc2 := 183) d_Al_exchange_182 rfl rfl ?_
  refine b_gr (pc2 := 186) d_Al_exchange_183 q_10_28 (sh_1 n0) (by decide) (by decide) (p_1_2 n0) rfl ?_
  refine b_gr (pc2 := 189) d_Al_exchange_186 q_10_205 (sh_7 n0) (by decide) (by decide) (p_7_1 n0) rfl ?_
  refine b_gr (pc2 := 192) d_Al_exchange_189 q_10_214 (sh_26 n0) (by decide) (by decide) (p_26_0 n0) rfl ?_
  refine b_aln (pc2 := 193) d_Al_exchange_192 rfl rfl ?_
  refine b_gr (pc2 := 196) d_Al_exchange_193 q_10_28 (sh_1 n0) (by decide) (by decide) (p_1_2 n0) rfl ?_
  refine b_gr (pc2 := 199) d_Al_exchange_196 q_10_101 (sh_7 n0) (by decide) (by decide) (p_7_0 n0) rfl ?_
  refine b_cv0 (pc2 := 202) (c2 := 0) (u2 := 0) (hV e (by omega)) d_Al_exchange_199 q_10_221 (Nat.le_of_ble_eq_true rfl) rfl rfl (sh_67 n0) (Nat.le_of_ble_eq_true rfl) rfl rfl (by decide) (by decide) rfl ?_
  refine b_nf (al := [(0, _), (6, _), (7, _)]) (ks := [0, 6, 7]) (sub_c rfl (sub_c rfl (sub_c rfl (sub_n)))) rfl (by decide) ?_
  dsimp only
  exact K
theorem ex_f00 {e : Nat} (he : 2 ≤ e) (hF : ∀ e, 2 ≤ e → bm e (S0 n0) R0 107 [.ref 1, .int (Int32.ofNat 0), .int (Int32.ofNat 0)] W J g L (bR none W1 J1 g L)) : bT e (S0 n0) R0 mt_Al_exchange (bR (some (.int (Int32.ofNat 0))) W1 J1 g L) 202 [(0, .ref 1), (6, .int (Int32.ofNat 0)), (7, .int (Int32.ofNat 0))] [] W J g L 0 0 := by
  have hSR := SR0 n0
  refine b_aln (pc2 := 203) d_Al_exchange_202 rfl rfl ?_
  refine b_il (pc2 := 205) d_Al_exchange_203 rfl rfl ?_
  refine b_il (pc2 := 207) d_Al_exchange_205 rfl rfl ?_
  refine b_cv0 (pc2 := 210) (c2 := 0) (u2 := 0) (hF e (by omega)) d_Al_exchange_207 q_10_224 (Nat.le_of_ble_eq_true rfl) rfl rfl (sh_1 n0) (Nat.le_of_ble_eq_true rfl) rfl rfl (by decide) (by decide) rfl ?_
  refine b_il (pc2 := 212) d_Al_exchange_210 rfl rfl ?_
  refine b_ifd (pc2 := 219) d_Al_exchange_212 rfl rfl rfl rfl rfl (fun h212 => ?_) (fun h212 => ?_)
  rotate_left
  · exact absurd (by decide) h212
  refine b_ic (pc2 := 220) (x := Int32.ofNat 0) d_Al_exchange_219 rfl rfl ?_
  refine b_il (pc2 := 222) d_Al_exchange_220 rfl rfl ?_
  refine b_ifd (pc2 := 229) d_Al_exchange_222 rfl rfl rfl rfl rfl (fun h222 => ?_) (fun h222 => ?_)
  rotate_left
  · exact absurd (by decide) h222
  refine b_ic (pc2 := 230) (x := Int32.ofNat 0) d_Al_exchange_229 rfl rfl ?_
  refine b_pure (pc2 := 231) d_Al_exchange_230 rfl rfl rfl ?_
  refine b_ir d_Al_exchange_231 rfl ?_
  exact ⟨rfl, rfl, rfl, rfl, rfl⟩
theorem ex_f10 {e : Nat} (he : 2 ≤ e) (hF : ∀ e, 2 ≤ e → bm e (S0 n0) R0 107 [.ref 1, .int (Int32.ofNat 1), .int (Int32.ofNat 0)] W J g L (bR none W1 J1 g L)) : bT e (S0 n0) R0 mt_Al_exchange (bR (some (.int (Int32.ofNat 1))) W1 J1 g L) 202 [(0, .ref 1), (6, .int (Int32.ofNat 1)), (7, .int (Int32.ofNat 0))] [] W J g L 0 0 := by
  have hSR := SR0 n0
  refine b_aln (pc2 := 203) d_Al_exchange_202 rfl rfl ?_
  refine b_il (pc2 := 205) d_Al_exchange_203 rfl rfl ?_
  refine b_il (pc2 := 207) d_Al_exchange_205 rfl rfl ?_
  refine b_cv0 (pc2 := 210) (c2 := 0) (u2 := 0) (hF e (by omega)) d_Al_exchange_207 q_10_224 (Nat.le_of_ble_eq_true rfl) rfl rfl (sh_1 n0) (Nat.le_of_ble_eq_true rfl) rfl rfl (by decide) (by decide) rfl ?_
  refine b_il (pc2 := 212) d_Al_exchange_210 rfl rfl ?_
  refine b_ifd (pc2 := 219) d_Al_exchange_212 rfl rfl rfl rfl rfl (fun h212 => ?_) (fun h212 => ?_)
  · exact absurd h212 (by decide)
  refine b_ic (pc2 := 216) (x := Int32.ofNat 1) d_Al_exchange_215 rfl rfl ?_
  refine b_go (pc2 := 220) d_Al_exchange_216 rfl ?_
  refine b_il (pc2 := 222) d_Al_exchange_220 rfl rfl ?_
  refine b_ifd (pc2 := 229) d_Al_exchange_222 rfl rfl rfl rfl rfl (fun h222 => ?_) (fun h222 => ?_)
  rotate_left
  · exact absurd (by decide) h222
  refine b_ic (pc2 := 230) (x := Int32.ofNat 0) d_Al_exchange_229 rfl rfl ?_
  refine b_pure (pc2 := 231) d_Al_exchange_230 rfl rfl rfl ?_
  refine b_ir d_Al_exchange_231 rfl ?_
  exact ⟨rfl, rfl, rfl, rfl, rfl⟩
theorem ex_f11 {e : Nat} (he : 2 ≤ e) (hF : ∀ e, 2 ≤ e → bm e (S0 n0) R0 107 [.ref 1, .int (Int32.ofNat 1), .int (Int32.ofNat 1)] W J g L (bR none W1 J1 g L)) : bT e (S0 n0) R0 mt_Al_exchange (bR (some (.int (Int32.ofNat 3))) W1 J1 g L) 202 [(0, .ref 1), (6, .int (Int32.ofNat 1)), (7, .int (Int32.ofNat 1))] [] W J g L 0 0 := by
  have hSR := SR0 n0
  refine b_aln (pc2 := 203) d_Al_exchange_202 rfl rfl ?_
  refine b_il (pc2 := 205) d_Al_exchange_203 rfl rfl ?_
  refine b_il (pc2 := 207) d_Al_exchange_205 rfl rfl ?_
  refine b_cv0 (pc2 := 210) (c2 := 0) (u2 := 0) (hF e (by omega)) d_Al_exchange_207 q_10_224 (Nat.le_of_ble_eq_true rfl) rfl rfl (sh_1 n0) (Nat.le_of_ble_eq_true rfl) rfl rfl (by decide) (by decide) rfl ?_
  refine b_il (pc2 := 212) d_Al_exchange_210 rfl rfl ?_
  refine b_ifd (pc2 := 219) d_Al_exchange_212 rfl rfl rfl rfl rfl (fun h212 => ?_) (fun h212 => ?_)
  · exact absurd h212 (by decide)
  refine b_ic (pc2 := 216) (x := Int32.ofNat 1) d_Al_exchange_215 rfl rfl ?_
  refine b_go (pc2 := 220) d_Al_exchange_216 rfl ?_
  refine b_il (pc2 := 222) d_Al_exchange_220 rfl rfl ?_
  refine b_ifd (pc2 := 229) d_Al_exchange_222 rfl rfl rfl rfl rfl (fun h222 => ?_) (fun h222 => ?_)
  · exact absurd h222 (by decide)
  refine b_ic (pc2 := 226) (x := Int32.ofNat 2) d_Al_exchange_225 rfl rfl ?_
  refine b_go (pc2 := 230) d_Al_exchange_226 rfl ?_
  refine b_pure (pc2 := 231) d_Al_exchange_230 rfl rfl rfl ?_
  refine b_ir d_Al_exchange_231 rfl ?_
  exact ⟨rfl, rfl, rfl, rfl, rfl⟩
end EV
