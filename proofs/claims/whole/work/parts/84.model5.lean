/-! Part 84 (written by gen34.py): the reference: agree, seek, show -/
def fndM (f : Nat → Int32) (x : Int32) : Nat → Nat → Option Nat
  | 0, _ => none
  | k + 1, h => if f (h - 1) = x then some h else fndM f x k (h + 1)
theorem lst_app (f : Nat → Int32) : ∀ (m k : Nat), lst f k (m + 1) = lst f k m ++ [f (k + m)]
  | 0, k => rfl
  | m + 1, k => by
    show f k :: lst f (k + 1) (m + 1) = f k :: (lst f (k + 1) m ++ [f (k + (m + 1))])
    rw [lst_app f m (k + 1), show k + 1 + m = k + (m + 1) by omega]
theorem lst_len (f : Nat → Int32) : ∀ (m k : Nat), (lst f k m).length = m
  | 0, _ => rfl
  | m + 1, k => congrArg (· + 1) (lst_len f m (k + 1))
section MS
variable {n0 : Nat} {W : bw_W} {J : bw_J} {g : Nat} {L : bw_L}
variable {J1 : bw_J}
theorem mo_agree {d : Nat} (hd : 2 ≤ d) {b1 : Nat} (hb : J 150 1 = Int32.ofNat b1) (hb2 : b1 < 256) (hG : ∀ e, 1 ≤ e → bm e (S0 n0) R0 135 [.ref 130, .int (Int32.ofNat 1)] W (mkJ (am_u2 J 130 37 (Int32.ofNat (max 8 (min 20 b1)))) [Int32.ofNat 3, Int32.ofNat 20]) g L (bR none W J1 g L)) : bm d (S0 n0) R0 163 [.ref 130] W J g L (bR none W J1 g L) := by
  obtain ⟨e, rfl⟩ : ∃ e, d = e + 1 := ⟨d - 1, by omega⟩
  refine bm_of (Nat.le_of_ble_eq_true rfl) (Or.inr bR_ret) ?_
  show bT e (S0 n0) R0 mt_Mo_agree _ 0 [(0, .ref 130)] [] W J g L 0 0
  have hSR := SR0 n0
  refine b_aln (pc2 := 1) d_Mo_agree_0 rfl rfl ?_
  refine b_aln (pc2 := 2) d_Mo_agree_1 rfl rfl ?_
  refine b_gr (pc2 := 5) d_Mo_agree_2 q_11_72 (sh_130 n0) (by decide) (by decide) (p_130_28 n0) rfl ?_
  refine b_ic (pc2 := 6) (x := Int32.ofNat 1) d_Mo_agree_5 rfl rfl ?_
  refine b_ia (pc2 := 7) (q := 1) d_Mo_agree_6 (sh_150 n0) (i_in (i := 1) (by decide) (by decide)) (rfl) (rc_150) rfl ?_
  rw [hb]
  refine b_bp (pc2 := 9) (x := Int32.ofNat 8) d_Mo_agree_7 rfl rfl ?_
  refine b_ifd (pc2 := 17) d_Mo_agree_9 rfl rfl rfl rfl rfl (fun h9 => ?_) (fun h9 => ?_)
  · refine b_aln (pc2 := 18) d_Mo_agree_17 rfl rfl ?_
    refine b_gr (pc2 := 21) d_Mo_agree_18 q_11_72 (sh_130 n0) (by decide) (by decide) (p_130_28 n0) rfl ?_
    refine b_ic (pc2 := 22) (x := Int32.ofNat 1) d_Mo_agree_21 rfl rfl ?_
    refine b_ia (pc2 := 23) (q := 1) d_Mo_agree_22 (sh_150 n0) (i_in (i := 1) (by decide) (by decide)) (rfl) (rc_150) rfl ?_
    rw [hb]
    refine b_bp (pc2 := 25) (x := Int32.ofNat 20) d_Mo_agree_23 rfl rfl ?_
    refine b_ifd (pc2 := 33) d_Mo_agree_25 rfl rfl rfl rfl rfl (fun h25 => ?_) (fun h25 => ?_)
    · refine b_aln (pc2 := 34) d_Mo_agree_33 rfl rfl ?_
      refine b_gr (pc2 := 37) d_Mo_agree_34 q_11_72 (sh_130 n0) (by decide) (by decide) (p_130_28 n0) rfl ?_
      refine b_ic (pc2 := 38) (x := Int32.ofNat 1) d_Mo_agree_37 rfl rfl ?_
      refine b_ia (pc2 := 39) (q := 1) d_Mo_agree_38 (sh_150 n0) (i_in (i := 1) (by decide) (by decide)) (rfl) (rc_150) rfl ?_
      rw [hb]
      rw [i_le (by decide) (by omega)] at h9
      first | rw [i_le (by omega) (by decide)] at h25 | skip
      first | rw [show max 8 (min 20 b1) = 8 by omega] at hG | rw [show max 8 (min 20 b1) = b1 by omega] at hG | rw [show max 8 (min 20 b1) = 20 by omega] at hG
      refine b_pi (pc2 := 42) d_Mo_agree_39 q_11_93 (sh_130 n0) (by decide) (Or.inl (by decide)) (Or.inl rfl) (rc_130) rfl ?_
      refine b_aln (pc2 := 43) d_Mo_agree_42 rfl rfl ?_
      refine b_ic (pc2 := 44) (x := Int32.ofNat 3) d_Mo_agree_43 rfl rfl ?_
      refine b_cv0 (pc2 := 47) (c2 := 0) (u2 := 0) (mo_start (by omega)) d_Mo_agree_44 q_11_183 (Nat.le_of_ble_eq_true rfl) rfl rfl (sh_130 n0) (Nat.le_of_ble_eq_true rfl) rfl rfl (by decide) (by decide) rfl ?_
      rw [show Int32.ofNat 3 &&& 255 = Int32.ofNat 3 from rfl]
      refine b_aln (pc2 := 48) d_Mo_agree_47 rfl rfl ?_
      refine b_bp (pc2 := 50) (x := Int32.ofNat 20) d_Mo_agree_48 rfl rfl ?_
      refine b_cv0 (pc2 := 53) (c2 := 0) (u2 := 0) (mo_lay (by omega) (by show 1 < 40; decide)) d_Mo_agree_50 q_11_186 (Nat.le_of_ble_eq_true rfl) rfl rfl (sh_130 n0) (Nat.le_of_ble_eq_true rfl) rfl rfl (by decide) (by decide) rfl ?_
      rw [show Int32.ofNat 20 &&& 255 = Int32.ofNat 20 from rfl]
      refine b_aln (pc2 := 54) d_Mo_agree_53 rfl rfl ?_
      refine b_ic (pc2 := 55) (x := Int32.ofNat 1) d_Mo_agree_54 rfl rfl ?_
      refine b_cv0 (pc2 := 58) (c2 := 0) (u2 := 0) (hG e (by omega)) d_Mo_agree_55 q_11_149 (Nat.le_of_ble_eq_true rfl) rfl rfl (sh_130 n0) (Nat.le_of_ble_eq_true rfl) rfl rfl (by decide) (by decide) rfl ?_
      refine b_vr d_Mo_agree_58 rfl ?_
      exact ⟨rfl, rfl, rfl, rfl, rfl⟩
    · refine b_bp (pc2 := 30) (x := Int32.ofNat 20) d_Mo_agree_28 rfl rfl ?_
      refine b_go (pc2 := 39) d_Mo_agree_30 rfl ?_
      rw [i_le (by decide) (by omega)] at h9
      first | rw [i_le (by omega) (by decide)] at h25 | skip
      first | rw [show max 8 (min 20 b1) = 8 by omega] at hG | rw [show max 8 (min 20 b1) = b1 by omega] at hG | rw [show max 8 (min 20 b1) = 20 by omega] at hG
      refine b_pi (pc2 := 42) d_Mo_agree_39 q_11_93 (sh_130 n0) (by decide) (Or.inl (by decide)) (Or.inl rfl) (rc_130) rfl ?_
      refine b_aln (pc2 := 43) d_Mo_agree_42 rfl rfl ?_
      refine b_ic (pc2 := 44) (x := Int32.ofNat 3) d_Mo_agree_43 rfl rfl ?_
      refine b_cv0 (pc2 := 47) (c2 := 0) (u2 := 0) (mo_start (by omega)) d_Mo_agree_44 q_11_183 (Nat.le_of_ble_eq_true rfl) rfl rfl (sh_130 n0) (Nat.le_of_ble_eq_true rfl) rfl rfl (by decide) (by decide) rfl ?_
      rw [show Int32.ofNat 3 &&& 255 = Int32.ofNat 3 from rfl]
      refine b_aln (pc2 := 48) d_Mo_agree_47 rfl rfl ?_
      refine b_bp (pc2 := 50) (x := Int32.ofNat 20) d_Mo_agree_48 rfl rfl ?_
      refine b_cv0 (pc2 := 53) (c2 := 0) (u2 := 0) (mo_lay (by omega) (by show 1 < 40; decide)) d_Mo_agree_50 q_11_186 (Nat.le_of_ble_eq_true rfl) rfl rfl (sh_130 n0) (Nat.le_of_ble_eq_true rfl) rfl rfl (by decide) (by decide) rfl ?_
      rw [show Int32.ofNat 20 &&& 255 = Int32.ofNat 20 from rfl]
      refine b_aln (pc2 := 54) d_Mo_agree_53 rfl rfl ?_
      refine b_ic (pc2 := 55) (x := Int32.ofNat 1) d_Mo_agree_54 rfl rfl ?_
      refine b_cv0 (pc2 := 58) (c2 := 0) (u2 := 0) (hG e (by omega)) d_Mo_agree_55 q_11_149 (Nat.le_of_ble_eq_true rfl) rfl rfl (sh_130 n0) (Nat.le_of_ble_eq_true rfl) rfl rfl (by decide) (by decide) rfl ?_
      refine b_vr d_Mo_agree_58 rfl ?_
      exact ⟨rfl, rfl, rfl, rfl, rfl⟩
  · refine b_bp (pc2 := 14) (x := Int32.ofNat 8) d_Mo_agree_12 rfl rfl ?_
    refine b_go (pc2 := 39) d_Mo_agree_14 rfl ?_
    rw [i_le (by decide) (by omega)] at h9
    first | rw [i_le (by omega) (by decide)] at h25 | skip
    first | rw [show max 8 (min 20 b1) = 8 by omega] at hG | rw [show max 8 (min 20 b1) = b1 by omega] at hG | rw [show max 8 (min 20 b1) = 20 by omega] at hG
    refine b_pi (pc2 := 42) d_Mo_agree_39 q_11_93 (sh_130 n0) (by decide) (Or.inl (by decide)) (Or.inl rfl) (rc_130) rfl ?_
    refine b_aln (pc2 := 43) d_Mo_agree_42 rfl rfl ?_
    refine b_ic (pc2 := 44) (x := Int32.ofNat 3) d_Mo_agree_43 rfl rfl ?_
    refine b_cv0 (pc2 := 47) (c2 := 0) (u2 := 0) (mo_start (by omega)) d_Mo_agree_44 q_11_183 (Nat.le_of_ble_eq_true rfl) rfl rfl (sh_130 n0) (Nat.le_of_ble_eq_true rfl) rfl rfl (by decide) (by decide) rfl ?_
    rw [show Int32.ofNat 3 &&& 255 = Int32.ofNat 3 from rfl]
    refine b_aln (pc2 := 48) d_Mo_agree_47 rfl rfl ?_
    refine b_bp (pc2 := 50) (x := Int32.ofNat 20) d_Mo_agree_48 rfl rfl ?_
    refine b_cv0 (pc2 := 53) (c2 := 0) (u2 := 0) (mo_lay (by omega) (by show 1 < 40; decide)) d_Mo_agree_50 q_11_186 (Nat.le_of_ble_eq_true rfl) rfl rfl (sh_130 n0) (Nat.le_of_ble_eq_true rfl) rfl rfl (by decide) (by decide) rfl ?_
    rw [show Int32.ofNat 20 &&& 255 = Int32.ofNat 20 from rfl]
    refine b_aln (pc2 := 54) d_Mo_agree_53 rfl rfl ?_
    refine b_ic (pc2 := 55) (x := Int32.ofNat 1) d_Mo_agree_54 rfl rfl ?_
    refine b_cv0 (pc2 := 58) (c2 := 0) (u2 := 0) (hG e (by omega)) d_Mo_agree_55 q_11_149 (Nat.le_of_ble_eq_true rfl) rfl rfl (sh_130 n0) (Nat.le_of_ble_eq_true rfl) rfl rfl (by decide) (by decide) rfl ?_
    refine b_vr d_Mo_agree_58 rfl ?_
    exact ⟨rfl, rfl, rfl, rfl, rfl⟩
theorem lp_seek {e : Nat} (he : 2 ≤ e) {ct : Nat} (hc : J 130 31 = Int32.ofNat ct) (hct : ct ≤ 10) : ∀ (k h : Nat), k = ct + 1 - h → 1 ≤ h → h < 1000 → (match fndM (J 152) (J 150 2) k h with | some q => ∀ e, 1 ≤ e → bm e (S0 n0) R0 135 [.ref 130, .int (Int32.ofNat 1)] W (mkJ J [Int32.ofNat 17, Int32.ofNat q]) g L (bR none W J1 g L) | none => ∀ e, 2 ≤ e → bm e (S0 n0) R0 161 [.ref 130, .int (J 150 1), .int (Int32.ofNat 10)] W J g L (bR none W J1 g L)) → bT e (S0 n0) R0 mt_Mo_seek (bR none W J1 g L) 21 [(1, .int (Int32.ofNat h)), (0, .ref 130)] [] W J g L 0 0 := by
  have hSR := SR0 n0
  intro k
  induction k with
  | zero =>
    intro h hk h1 h2 hR
    refine b_iln (pc2 := 22) d_Mo_seek_21 rfl rfl ?_
    refine b_aln (pc2 := 23) d_Mo_seek_22 rfl rfl ?_
    refine b_gi (pc2 := 26) d_Mo_seek_23 q_11_212 (sh_130 n0) (by decide) (by decide) (rc_130) rfl ?_
    rw [hc]
    refine b_ifd (pc2 := 69) d_Mo_seek_26 rfl rfl rfl rfl rfl (fun h26 => ?_) (fun h26 => ?_)
    rotate_left
    · exact absurd ((i_lt (by omega) (by omega)).mpr (by omega)) h26
    refine b_aln (pc2 := 70) d_Mo_seek_69 rfl rfl ?_
    refine b_aln (pc2 := 71) d_Mo_seek_70 rfl rfl ?_
    refine b_gr (pc2 := 74) d_Mo_seek_71 q_11_72 (sh_130 n0) (by decide) (by decide) (p_130_28 n0) rfl ?_
    refine b_ic (pc2 := 75) (x := Int32.ofNat 1) d_Mo_seek_74 rfl rfl ?_
    refine b_ia (pc2 := 76) (q := 1) d_Mo_seek_75 (sh_150 n0) (i_in (i := 1) (by decide) (by decide)) (rfl) (rc_150) rfl ?_
    refine b_bp (pc2 := 78) (x := Int32.ofNat 10) d_Mo_seek_76 rfl rfl ?_
    refine b_cv0 (pc2 := 81) (c2 := 0) (u2 := 0) (hR e (by omega)) d_Mo_seek_78 q_11_193 (Nat.le_of_ble_eq_true rfl) rfl rfl (sh_130 n0) (Nat.le_of_ble_eq_true rfl) rfl rfl (by decide) (by decide) rfl ?_
    refine b_vr d_Mo_seek_81 rfl ?_
    exact ⟨rfl, rfl, rfl, rfl, rfl⟩
  | succ k ih =>
    intro h hk h1 h2 hR
    unfold fndM at hR
    refine b_iln (pc2 := 22) d_Mo_seek_21 rfl rfl ?_
    refine b_aln (pc2 := 23) d_Mo_seek_22 rfl rfl ?_
    refine b_gi (pc2 := 26) d_Mo_seek_23 q_11_212 (sh_130 n0) (by decide) (by decide) (rc_130) rfl ?_
    rw [hc]
    refine b_ifd (pc2 := 69) d_Mo_seek_26 rfl rfl rfl rfl rfl (fun h26 => ?_) (fun h26 => ?_)
    · exact absurd h26 (fun z => by rw [i_lt (by omega) (by omega)] at z; omega)
    refine b_aln (pc2 := 30) d_Mo_seek_29 rfl rfl ?_
    refine b_gr (pc2 := 33) d_Mo_seek_30 q_11_78 (sh_130 n0) (by decide) (by decide) (p_130_32 n0) rfl ?_
    refine b_iln (pc2 := 34) d_Mo_seek_33 rfl rfl ?_
    refine b_ic (pc2 := 35) (x := Int32.ofNat 1) d_Mo_seek_34 rfl rfl ?_
    refine b_pure (pc2 := 36) d_Mo_seek_35 rfl rfl rfl ?_
    rw [i_sub (by omega)]
    refine b_ia (pc2 := 37) (q := (h - 1)) d_Mo_seek_36 (sh_152 n0) (i_in (show h - 1 < 10 by omega) (by decide)) (i_tn (by omega)) (rc_152) rfl ?_
    refine b_aln (pc2 := 38) d_Mo_seek_37 rfl rfl ?_
    refine b_gr (pc2 := 41) d_Mo_seek_38 q_11_72 (sh_130 n0) (by decide) (by decide) (p_130_28 n0) rfl ?_
    refine b_ic (pc2 := 42) (x := Int32.ofNat 2) d_Mo_seek_41 rfl rfl ?_
    refine b_ia (pc2 := 43) (q := 2) d_Mo_seek_42 (sh_150 n0) (i_in (i := 2) (by decide) (by decide)) (rfl) (rc_150) rfl ?_
    refine b_ifd (pc2 := 63) d_Mo_seek_43 rfl rfl rfl rfl rfl (fun h43 => ?_) (fun h43 => ?_)
    · rw [if_neg h43] at hR
      refine b_inc (pc2 := 66) (al2 := [(1, _), (0, _)]) (y := Int32.ofNat 1) d_Mo_seek_63 (by decide) rfl rfl rfl rfl ?_
      refine b_go (pc2 := 21) d_Mo_seek_66 rfl ?_
      refine b_nf (al := [(1, _), (0, _)]) (ks := [1, 0]) (sub_c rfl (sub_c rfl (sub_n))) rfl (by decide) ?_
      dsimp only
      rw [i_add]
      exact ih (h + 1) (by omega) (by omega) (by omega) hR
    · rw [if_pos (Decidable.not_not.mp h43)] at hR
      refine b_aln (pc2 := 47) d_Mo_seek_46 rfl rfl ?_
      refine b_bp (pc2 := 49) (x := Int32.ofNat 17) d_Mo_seek_47 rfl rfl ?_
      refine b_cv0 (pc2 := 52) (c2 := 0) (u2 := 0) (mo_start (by omega)) d_Mo_seek_49 q_11_183 (Nat.le_of_ble_eq_true rfl) rfl rfl (sh_130 n0) (Nat.le_of_ble_eq_true rfl) rfl rfl (by decide) (by decide) rfl ?_
      rw [show Int32.ofNat 17 &&& 255 = Int32.ofNat 17 from rfl]
      refine b_aln (pc2 := 53) d_Mo_seek_52 rfl rfl ?_
      refine b_iln (pc2 := 54) d_Mo_seek_53 rfl rfl ?_
      refine b_cv0 (pc2 := 57) (c2 := 0) (u2 := 0) (mo_lay (by omega) (by show 1 < 40; decide)) d_Mo_seek_54 q_11_186 (Nat.le_of_ble_eq_true rfl) rfl rfl (sh_130 n0) (Nat.le_of_ble_eq_true rfl) rfl rfl (by decide) (by decide) rfl ?_
      rw [b255 (n := h) (by omega)]
      refine b_aln (pc2 := 58) d_Mo_seek_57 rfl rfl ?_
      refine b_ic (pc2 := 59) (x := Int32.ofNat 1) d_Mo_seek_58 rfl rfl ?_
      refine b_cv0 (pc2 := 62) (c2 := 0) (u2 := 0) (hR e (by omega)) d_Mo_seek_59 q_11_149 (Nat.le_of_ble_eq_true rfl) rfl rfl (sh_130 n0) (Nat.le_of_ble_eq_true rfl) rfl rfl (by decide) (by decide) rfl ?_
      refine b_vr d_Mo_seek_62 rfl ?_
      exact ⟨rfl, rfl, rfl, rfl, rfl⟩
theorem mo_seek {d : Nat} (hd : 3 ≤ d) {ct f : Nat} (hc : J 130 31 = Int32.ofNat ct) (hct : ct ≤ 10) (hb : J 150 1 = Int32.ofNat f) (hf : f < 256) (hR : (match fndM (J 152) (J 150 2) (ct + 1 - max f 1) (max f 1) with | some q => ∀ e, 1 ≤ e → bm e (S0 n0) R0 135 [.ref 130, .int (Int32.ofNat 1)] W (mkJ J [Int32.ofNat 17, Int32.ofNat q]) g L (bR none W J1 g L) | none => ∀ e, 2 ≤ e → bm e (S0 n0) R0 161 [.ref 130, .int (J 150 1), .int (Int32.ofNat 10)] W J g L (bR none W J1 g L))) : bm d (S0 n0) R0 164 [.ref 130] W J g L (bR none W J1 g L) := by
  obtain ⟨e, rfl⟩ : ∃ e, d = e + 1 := ⟨d - 1, by omega⟩
  refine bm_of (Nat.le_of_ble_eq_true rfl) (Or.inr bR_ret) ?_
  show bT e (S0 n0) R0 mt_Mo_seek _ 0 [(0, .ref 130)] [] W J g L 0 0
  have hSR := SR0 n0
  refine b_aln (pc2 := 1) d_Mo_seek_0 rfl rfl ?_
  refine b_gr (pc2 := 4) d_Mo_seek_1 q_11_72 (sh_130 n0) (by decide) (by decide) (p_130_28 n0) rfl ?_
  refine b_ic (pc2 := 5) (x := Int32.ofNat 1) d_Mo_seek_4 rfl rfl ?_
  refine b_ia (pc2 := 6) (q := 1) d_Mo_seek_5 (sh_150 n0) (i_in (i := 1) (by decide) (by decide)) (rfl) (rc_150) rfl ?_
  rw [hb]
  refine b_ic (pc2 := 7) (x := Int32.ofNat 1) d_Mo_seek_6 rfl rfl ?_
  refine b_ifd (pc2 := 14) d_Mo_seek_7 rfl rfl rfl rfl rfl (fun h7 => ?_) (fun h7 => ?_)
  · refine b_aln (pc2 := 15) d_Mo_seek_14 rfl rfl ?_
    refine b_gr (pc2 := 18) d_Mo_seek_15 q_11_72 (sh_130 n0) (by decide) (by decide) (p_130_28 n0) rfl ?_
    refine b_ic (pc2 := 19) (x := Int32.ofNat 1) d_Mo_seek_18 rfl rfl ?_
    refine b_ia (pc2 := 20) (q := 1) d_Mo_seek_19 (sh_150 n0) (i_in (i := 1) (by decide) (by decide)) (rfl) (rc_150) rfl ?_
    rw [hb]
    refine b_isn (pc2 := 21) (al2 := [(1, _), (0, _)]) d_Mo_seek_20 (by decide) rfl rfl ?_
    refine b_nf (al := [(1, _), (0, _)]) (ks := [1, 0]) (sub_c rfl (sub_c rfl (sub_n))) rfl (by decide) ?_
    dsimp only
    rw [i_le (by decide) (by omega)] at h7
    first | (rw [show max f 1 = f by omega] at hR; exact lp_seek (by omega) hc hct _ _ rfl (by omega) (by omega) hR) | (rw [show max f 1 = 1 by omega] at hR; exact lp_seek (by omega) hc hct _ _ rfl (by omega) (by omega) hR)
  · refine b_ic (pc2 := 11) (x := Int32.ofNat 1) d_Mo_seek_10 rfl rfl ?_
    refine b_go (pc2 := 20) d_Mo_seek_11 rfl ?_
    refine b_isn (pc2 := 21) (al2 := [(1, _), (0, _)]) d_Mo_seek_20 (by decide) rfl rfl ?_
    refine b_nf (al := [(1, _), (0, _)]) (ks := [1, 0]) (sub_c rfl (sub_c rfl (sub_n))) rfl (by decide) ?_
    dsimp only
    rw [i_le (by decide) (by omega)] at h7
    first | (rw [show max f 1 = f by omega] at hR; exact lp_seek (by omega) hc hct _ _ rfl (by omega) (by omega) hR) | (rw [show max f 1 = 1 by omega] at hR; exact lp_seek (by omega) hc hct _ _ rfl (by omega) (by omega) hR)
theorem lp_show {e : Nat} (he : 2 ≤ e) {a f vs lm : Nat} {op x0 : Int32} (ha : a < 10) (hv : J 154 a = Int32.ofNat vs) (hvs : vs ≤ 16) (hlm : J 130 37 = Int32.ofNat lm) (hl1 : 8 ≤ lm) (hl2 : lm ≤ 20) (hbv : ∀ k, k < vs → J 155 (16 * a + k) &&& 255 = J 155 (16 * a + k)) (hfv : f ≤ vs) (hG : ∀ e, 1 ≤ e → bm e (S0 n0) R0 135 [.ref 130, .int (Int32.ofNat 1)] W (mkJ J (x0 :: lst (J 155) (16 * a + f) (min (vs - f) (lm - 1)))) g L (bR none W J1 g L)) : ∀ (r j : Nat), j + r = min (vs - f) (lm - 1) → bT e (S0 n0) R0 mt_Mo_show (bR none W J1 g L) 30 [(4, .int (Int32.ofNat (f + j))), (0, .ref 130), (1, .int op), (2, .int (Int32.ofNat a)), (3, .int (Int32.ofNat f))] [] W (mkJ J (x0 :: lst (J 155) (16 * a + f) j)) g L 0 0 := by
  have hSR := SR0 n0
  have hm : ∀ l c, ¬ c = 151 → ¬ c = 130 → mkJ J l c = J c := fun l c h1 h2 => by unfold mkJ; rw [u2_a _ _ h2, u1_ne _ _ h1]
  have h37 : ∀ l, mkJ J l 130 37 = J 130 37 := fun l => by unfold mkJ; rw [u2_k _ _ (by decide), u1_ne _ _ (by decide)]
  have h29 : ∀ l, mkJ J l 130 29 = Int32.ofNat l.length := fun l => u2_at _ _ _ _
  intro r
  induction r with
  | zero =>
    intro j hj
    refine b_il (pc2 := 32) d_Mo_show_30 rfl rfl ?_
    refine b_aln (pc2 := 33) d_Mo_show_32 rfl rfl ?_
    refine b_gr (pc2 := 36) d_Mo_show_33 q_11_84 (sh_130 n0) (by decide) (by decide) (p_130_34 n0) rfl ?_
    refine b_iln (pc2 := 37) d_Mo_show_36 rfl rfl ?_
    refine b_ia (pc2 := 38) (q := a) d_Mo_show_37 (sh_154 n0) (i_in ha (by decide)) (i_tn (by omega)) (rc_154) rfl ?_
    rw [hm _ _ (by decide) (by decide), hv]
    refine b_ifd (pc2 := 74) d_Mo_show_38 rfl rfl rfl rfl rfl (fun h38 => ?_) (fun h38 => ?_)
    · refine b_aln (pc2 := 75) d_Mo_show_74 rfl rfl ?_
      refine b_ic (pc2 := 76) (x := Int32.ofNat 1) d_Mo_show_75 rfl rfl ?_
      rw [show j = min (vs - f) (lm - 1) by omega]
      refine b_cv0 (pc2 := 79) (c2 := 0) (u2 := 0) (hG e (by omega)) d_Mo_show_76 q_11_149 (Nat.le_of_ble_eq_true rfl) rfl rfl (sh_130 n0) (Nat.le_of_ble_eq_true rfl) rfl rfl (by decide) (by decide) rfl ?_
      refine b_vr d_Mo_show_79 rfl ?_
      exact ⟨rfl, rfl, rfl, rfl, rfl⟩
    · refine b_aln (pc2 := 42) d_Mo_show_41 rfl rfl ?_
      refine b_gi (pc2 := 45) d_Mo_show_42 q_11_140 (sh_130 n0) (by decide) (by decide) (rc_130) rfl ?_
      rw [h29, List.length_cons, lst_len]
      refine b_aln (pc2 := 46) d_Mo_show_45 rfl rfl ?_
      refine b_gi (pc2 := 49) d_Mo_show_46 q_11_93 (sh_130 n0) (by decide) (by decide) (rc_130) rfl ?_
      rw [h37, hlm]
      refine b_ifd (pc2 := 74) d_Mo_show_49 rfl rfl rfl rfl rfl (fun h49 => ?_) (fun h49 => ?_)
      · refine b_aln (pc2 := 75) d_Mo_show_74 rfl rfl ?_
        refine b_ic (pc2 := 76) (x := Int32.ofNat 1) d_Mo_show_75 rfl rfl ?_
        rw [show j = min (vs - f) (lm - 1) by omega]
        refine b_cv0 (pc2 := 79) (c2 := 0) (u2 := 0) (hG e (by omega)) d_Mo_show_76 q_11_149 (Nat.le_of_ble_eq_true rfl) rfl rfl (sh_130 n0) (Nat.le_of_ble_eq_true rfl) rfl rfl (by decide) (by decide) rfl ?_
        refine b_vr d_Mo_show_79 rfl ?_
        exact ⟨rfl, rfl, rfl, rfl, rfl⟩
      · rw [i_le (by omega) (by omega)] at h38 h49
        omega
  | succ r ih =>
    intro j hj
    refine b_il (pc2 := 32) d_Mo_show_30 rfl rfl ?_
    refine b_aln (pc2 := 33) d_Mo_show_32 rfl rfl ?_
    refine b_gr (pc2 := 36) d_Mo_show_33 q_11_84 (sh_130 n0) (by decide) (by decide) (p_130_34 n0) rfl ?_
    refine b_iln (pc2 := 37) d_Mo_show_36 rfl rfl ?_
    refine b_ia (pc2 := 38) (q := a) d_Mo_show_37 (sh_154 n0) (i_in ha (by decide)) (i_tn (by omega)) (rc_154) rfl ?_
    rw [hm _ _ (by decide) (by decide), hv]
    refine b_ifd (pc2 := 74) d_Mo_show_38 rfl rfl rfl rfl rfl (fun h38 => ?_) (fun h38 => ?_)
    · exact absurd h38 (fun z => by rw [i_le (by omega) (by omega)] at z; omega)
    refine b_aln (pc2 := 42) d_Mo_show_41 rfl rfl ?_
    refine b_gi (pc2 := 45) d_Mo_show_42 q_11_140 (sh_130 n0) (by decide) (by decide) (rc_130) rfl ?_
    rw [h29, List.length_cons, lst_len]
    refine b_aln (pc2 := 46) d_Mo_show_45 rfl rfl ?_
    refine b_gi (pc2 := 49) d_Mo_show_46 q_11_93 (sh_130 n0) (by decide) (by decide) (rc_130) rfl ?_
    rw [h37, hlm]
    refine b_ifd (pc2 := 74) d_Mo_show_49 rfl rfl rfl rfl rfl (fun h49 => ?_) (fun h49 => ?_)
    · exact absurd h49 (fun z => by rw [i_le (by omega) (by omega)] at z; omega)
    refine b_aln (pc2 := 53) d_Mo_show_52 rfl rfl ?_
    refine b_aln (pc2 := 54) d_Mo_show_53 rfl rfl ?_
    refine b_gr (pc2 := 57) d_Mo_show_54 q_11_87 (sh_130 n0) (by decide) (by decide) (p_130_35 n0) rfl ?_
    refine b_bp (pc2 := 59) (x := Int32.ofNat 16) d_Mo_show_57 rfl rfl ?_
    refine b_iln (pc2 := 60) d_Mo_show_59 rfl rfl ?_
    refine b_pure (pc2 := 61) d_Mo_show_60 rfl rfl rfl ?_
    rw [i_mul]
    refine b_il (pc2 := 63) d_Mo_show_61 rfl rfl ?_
    refine b_pure (pc2 := 64) d_Mo_show_63 rfl rfl rfl ?_
    rw [i_add]
    refine b_ia (pc2 := 65) (q := (16 * a + (f + j))) d_Mo_show_64 (sh_155 n0) (i_in (show 16 * a + (f + j) < 160 by omega) (by decide)) (i_tn (by omega)) (rc_155) rfl ?_
    rw [hm _ _ (by decide) (by decide)]
    refine b_cv0 (pc2 := 68) (c2 := 0) (u2 := 0) (mo_lay (by omega) (by rw [List.length_cons, lst_len]; omega)) d_Mo_show_65 q_11_186 (Nat.le_of_ble_eq_true rfl) rfl rfl (sh_130 n0) (Nat.le_of_ble_eq_true rfl) rfl rfl (by decide) (by decide) rfl ?_
    rw [hbv _ (by omega), List.cons_append, show J 155 (16 * a + (f + j)) = J 155 (16 * a + f + j) by rw [Nat.add_assoc], ← lst_app]
    refine b_inc (pc2 := 71) (al2 := [(4, _), (0, _), (1, _), (2, _), (3, _)]) (y := Int32.ofNat 1) d_Mo_show_68 (by decide) rfl rfl rfl rfl ?_
    refine b_go (pc2 := 30) d_Mo_show_71 rfl ?_
    refine b_nf (al := [(4, _), (0, _), (1, _), (2, _), (3, _)]) (ks := [4, 0, 1, 2, 3]) (sub_c rfl (sub_c rfl (sub_c rfl (sub_c rfl (sub_c rfl (sub_n)))))) rfl (by decide) ?_
    dsimp only
    rw [i_add]
    exact ih (j + 1) (by omega)
theorem mo_show0 {d : Nat} (hd : 3 ≤ d) {op a f vs : Nat} (hop : op < 255) (ha : a < 10) (hf : f < 256) (hv : J 154 a = Int32.ofNat vs) (hvs : vs ≤ 16) (hx : vs < f) (hR : ∀ e, 2 ≤ e → bm e (S0 n0) R0 161 [.ref 130, .int (Int32.ofNat (a + 1)), .int (Int32.ofNat 7)] W J g L (bR none W J1 g L)) : bm d (S0 n0) R0 168 [.ref 130, .int (Int32.ofNat op), .int (Int32.ofNat a), .int (Int32.ofNat f)] W J g L (bR none W J1 g L) := by
  obtain ⟨e, rfl⟩ : ∃ e, d = e + 1 := ⟨d - 1, by omega⟩
  refine bm_of (Nat.le_of_ble_eq_true rfl) (Or.inr bR_ret) ?_
  show bT e (S0 n0) R0 mt_Mo_show _ 0 [(0, .ref 130), (1, .int (Int32.ofNat op)), (2, .int (Int32.ofNat a)), (3, .int (Int32.ofNat f))] [] W J g L 0 0
  have hSR := SR0 n0
  refine b_iln (pc2 := 1) d_Mo_show_0 rfl rfl ?_
  refine b_aln (pc2 := 2) d_Mo_show_1 rfl rfl ?_
  refine b_gr (pc2 := 5) d_Mo_show_2 q_11_84 (sh_130 n0) (by decide) (by decide) (p_130_34 n0) rfl ?_
  refine b_iln (pc2 := 6) d_Mo_show_5 rfl rfl ?_
  refine b_ia (pc2 := 7) (q := a) d_Mo_show_6 (sh_154 n0) (i_in ha (by decide)) (i_tn (by omega)) (rc_154) rfl ?_
  rw [hv]
  refine b_ifd (pc2 := 20) d_Mo_show_7 rfl rfl rfl rfl rfl (fun h7 => ?_) (fun h7 => ?_)
  · exact absurd h7 (fun z => by rw [i_le (by omega) (by omega)] at z; omega)
  refine b_aln (pc2 := 11) d_Mo_show_10 rfl rfl ?_
  refine b_iln (pc2 := 12) d_Mo_show_11 rfl rfl ?_
  refine b_ic (pc2 := 13) (x := Int32.ofNat 1) d_Mo_show_12 rfl rfl ?_
  refine b_pure (pc2 := 14) d_Mo_show_13 rfl rfl rfl ?_
  rw [i_add]
  refine b_bp (pc2 := 16) (x := Int32.ofNat 7) d_Mo_show_14 rfl rfl ?_
  refine b_cv0 (pc2 := 19) (c2 := 0) (u2 := 0) (hR e (by omega)) d_Mo_show_16 q_11_193 (Nat.le_of_ble_eq_true rfl) rfl rfl (sh_130 n0) (Nat.le_of_ble_eq_true rfl) rfl rfl (by decide) (by decide) rfl ?_
  refine b_vr d_Mo_show_19 rfl ?_
  exact ⟨rfl, rfl, rfl, rfl, rfl⟩
theorem mo_show1 {d : Nat} (hd : 3 ≤ d) {op a f vs : Nat} (hop : op < 255) (ha : a < 10) (hf : f < 256) (hv : J 154 a = Int32.ofNat vs) (hvs : vs ≤ 16) (hx : f ≤ vs) {lm : Nat} (hlm : J 130 37 = Int32.ofNat lm) (hl1 : 8 ≤ lm) (hl2 : lm ≤ 20) (hbv : ∀ k, k < vs → J 155 (16 * a + k) &&& 255 = J 155 (16 * a + k)) (hG : ∀ e, 1 ≤ e → bm e (S0 n0) R0 135 [.ref 130, .int (Int32.ofNat 1)] W (mkJ J (Int32.ofNat (op + 1) :: lst (J 155) (16 * a + f) (min (vs - f) (lm - 1)))) g L (bR none W J1 g L)) : bm d (S0 n0) R0 168 [.ref 130, .int (Int32.ofNat op), .int (Int32.ofNat a), .int (Int32.ofNat f)] W J g L (bR none W J1 g L) := by
  obtain ⟨e, rfl⟩ : ∃ e, d = e + 1 := ⟨d - 1, by omega⟩
  refine bm_of (Nat.le_of_ble_eq_true rfl) (Or.inr bR_ret) ?_
  show bT e (S0 n0) R0 mt_Mo_show _ 0 [(0, .ref 130), (1, .int (Int32.ofNat op)), (2, .int (Int32.ofNat a)), (3, .int (Int32.ofNat f))] [] W J g L 0 0
  have hSR := SR0 n0
  refine b_iln (pc2 := 1) d_Mo_show_0 rfl rfl ?_
  refine b_aln (pc2 := 2) d_Mo_show_1 rfl rfl ?_
  refine b_gr (pc2 := 5) d_Mo_show_2 q_11_84 (sh_130 n0) (by decide) (by decide) (p_130_34 n0) rfl ?_
  refine b_iln (pc2 := 6) d_Mo_show_5 rfl rfl ?_
  refine b_ia (pc2 := 7) (q := a) d_Mo_show_6 (sh_154 n0) (i_in ha (by decide)) (i_tn (by omega)) (rc_154) rfl ?_
  rw [hv]
  refine b_ifd (pc2 := 20) d_Mo_show_7 rfl rfl rfl rfl rfl (fun h7 => ?_) (fun h7 => ?_)
  rotate_left
  · exact absurd ((i_le (by omega) (by omega)).mpr hx) h7
  refine b_aln (pc2 := 21) d_Mo_show_20 rfl rfl ?_
  refine b_iln (pc2 := 22) d_Mo_show_21 rfl rfl ?_
  refine b_ic (pc2 := 23) (x := Int32.ofNat 1) d_Mo_show_22 rfl rfl ?_
  refine b_pure (pc2 := 24) d_Mo_show_23 rfl rfl rfl ?_
  rw [i_add]
  refine b_cv0 (pc2 := 27) (c2 := 0) (u2 := 0) (mo_start (by omega)) d_Mo_show_24 q_11_183 (Nat.le_of_ble_eq_true rfl) rfl rfl (sh_130 n0) (Nat.le_of_ble_eq_true rfl) rfl rfl (by decide) (by decide) rfl ?_
  rw [b255 (by omega)]
  refine b_iln (pc2 := 28) d_Mo_show_27 rfl rfl ?_
  refine b_is (pc2 := 30) (al2 := [(4, _), (0, _), (1, _), (2, _), (3, _)]) d_Mo_show_28 (by decide) rfl rfl ?_
  refine b_nf (al := [(4, _), (0, _), (1, _), (2, _), (3, _)]) (ks := [4, 0, 1, 2, 3]) (sub_c rfl (sub_c rfl (sub_c rfl (sub_c rfl (sub_c rfl (sub_n)))))) rfl (by decide) ?_
  dsimp only
  exact lp_show (by omega) ha hv hvs hlm hl1 hl2 hbv hx hG (min (vs - f) (lm - 1)) 0 (by omega)
end MS
