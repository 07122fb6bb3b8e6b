/-! Part 89 (written by gen39.py): the reference: writeOn -/
section MV
variable {n0 : Nat} {W : bw_W} {J : bw_J} {g : Nat} {L : bw_L}
variable {J1 : bw_J}
theorem lp_won {e : Nat} (he : 2 ≤ e) {wp ws lm : Nat} (hwp : J 130 55 = Int32.ofNat wp) (hwp2 : wp < 200) (hws : J 130 54 = Int32.ofNat ws) (hws8 : ws ≤ 8) (hlm : J 130 44 = Int32.ofNat lm) (hl1 : 8 ≤ lm) (hl2 : lm ≤ 20) (hbv : ∀ k, k < ws → J 163 k &&& 255 = J 163 k) {x0 x1 x2 : Int32} (hA : ∀ e, 2 ≤ e → bm e (S0 n0) R0 139 [.ref 130] W (mkJ J (x0 :: x1 :: x2 :: lst (J 163) wp (min (lm - 3) (ws - wp)))) g L (bR none W J1 g L)) : ∀ (r j : Nat), j + r = (min (lm - 3) (ws - wp)) → bT e (S0 n0) R0 mt_Mo_writeOn (bR none W J1 g L) 24 [(1, .int (Int32.ofNat j)), (0, .ref 130)] [] W (mkJ J (x0 :: x1 :: x2 :: lst (J 163) wp j)) g L 0 0 := by
  have hSR := SR0 n0
  intro r
  induction r with
  | zero =>
    intro j hj
    refine b_iln (pc2 := 25) d_Mo_writeOn_24 rfl rfl ?_
    refine b_aln (pc2 := 26) d_Mo_writeOn_25 rfl rfl ?_
    refine b_gi (pc2 := 29) d_Mo_writeOn_26 q_11_108 (sh_130 n0) (by decide) (by decide) (rc_130) rfl ?_
    rw [mkJ_f _ _ (by decide), hlm]
    refine b_ic (pc2 := 30) (x := Int32.ofNat 3) d_Mo_writeOn_29 rfl rfl ?_
    refine b_pure (pc2 := 31) d_Mo_writeOn_30 rfl rfl rfl ?_
    rw [i_sub (by omega)]
    refine b_ifd (pc2 := 68) d_Mo_writeOn_31 rfl rfl rfl rfl rfl (fun h31 => ?_) (fun h31 => ?_)
    · refine b_aln (pc2 := 69) d_Mo_writeOn_68 rfl rfl ?_
      rw [show j = (min (lm - 3) (ws - wp)) by omega]
      refine b_cv0 (pc2 := 72) (c2 := 0) (u2 := 0) (hA e (by omega)) d_Mo_writeOn_69 q_11_268 (Nat.le_of_ble_eq_true rfl) rfl rfl (sh_130 n0) (Nat.le_of_ble_eq_true rfl) rfl rfl (by decide) (by decide) rfl ?_
      refine b_vr d_Mo_writeOn_72 rfl ?_
      exact ⟨rfl, rfl, rfl, rfl, rfl⟩
    · refine b_aln (pc2 := 35) d_Mo_writeOn_34 rfl rfl ?_
      refine b_gi (pc2 := 38) d_Mo_writeOn_35 q_11_271 (sh_130 n0) (by decide) (by decide) (rc_130) rfl ?_
      rw [mkJ_f _ _ (by decide), hwp]
      refine b_iln (pc2 := 39) d_Mo_writeOn_38 rfl rfl ?_
      refine b_pure (pc2 := 40) d_Mo_writeOn_39 rfl rfl rfl ?_
      rw [i_add]
      refine b_aln (pc2 := 41) d_Mo_writeOn_40 rfl rfl ?_
      refine b_gi (pc2 := 44) d_Mo_writeOn_41 q_11_274 (sh_130 n0) (by decide) (by decide) (rc_130) rfl ?_
      rw [mkJ_f _ _ (by decide), hws]
      refine b_ifd (pc2 := 68) d_Mo_writeOn_44 rfl rfl rfl rfl rfl (fun h44 => ?_) (fun h44 => ?_)
      · refine b_aln (pc2 := 69) d_Mo_writeOn_68 rfl rfl ?_
        rw [show j = (min (lm - 3) (ws - wp)) by omega]
        refine b_cv0 (pc2 := 72) (c2 := 0) (u2 := 0) (hA e (by omega)) d_Mo_writeOn_69 q_11_268 (Nat.le_of_ble_eq_true rfl) rfl rfl (sh_130 n0) (Nat.le_of_ble_eq_true rfl) rfl rfl (by decide) (by decide) rfl ?_
        refine b_vr d_Mo_writeOn_72 rfl ?_
        exact ⟨rfl, rfl, rfl, rfl, rfl⟩
      · rw [i_le (by omega) (by omega)] at h31 h44
        omega
  | succ r ih =>
    intro j hj
    refine b_iln (pc2 := 25) d_Mo_writeOn_24 rfl rfl ?_
    refine b_aln (pc2 := 26) d_Mo_writeOn_25 rfl rfl ?_
    refine b_gi (pc2 := 29) d_Mo_writeOn_26 q_11_108 (sh_130 n0) (by decide) (by decide) (rc_130) rfl ?_
    rw [mkJ_f _ _ (by decide), hlm]
    refine b_ic (pc2 := 30) (x := Int32.ofNat 3) d_Mo_writeOn_29 rfl rfl ?_
    refine b_pure (pc2 := 31) d_Mo_writeOn_30 rfl rfl rfl ?_
    rw [i_sub (by omega)]
    refine b_ifd (pc2 := 68) d_Mo_writeOn_31 rfl rfl rfl rfl rfl (fun h31 => ?_) (fun h31 => ?_)
    · exact absurd h31 (fun z => by rw [i_le (by omega) (by omega)] at z; omega)
    refine b_aln (pc2 := 35) d_Mo_writeOn_34 rfl rfl ?_
    refine b_gi (pc2 := 38) d_Mo_writeOn_35 q_11_271 (sh_130 n0) (by decide) (by decide) (rc_130) rfl ?_
    rw [mkJ_f _ _ (by decide), hwp]
    refine b_iln (pc2 := 39) d_Mo_writeOn_38 rfl rfl ?_
    refine b_pure (pc2 := 40) d_Mo_writeOn_39 rfl rfl rfl ?_
    rw [i_add]
    refine b_aln (pc2 := 41) d_Mo_writeOn_40 rfl rfl ?_
    refine b_gi (pc2 := 44) d_Mo_writeOn_41 q_11_274 (sh_130 n0) (by decide) (by decide) (rc_130) rfl ?_
    rw [mkJ_f _ _ (by decide), hws]
    refine b_ifd (pc2 := 68) d_Mo_writeOn_44 rfl rfl rfl rfl rfl (fun h44 => ?_) (fun h44 => ?_)
    · exact absurd h44 (fun z => by rw [i_le (by omega) (by omega)] at z; omega)
    refine b_aln (pc2 := 48) d_Mo_writeOn_47 rfl rfl ?_
    refine b_aln (pc2 := 49) d_Mo_writeOn_48 rfl rfl ?_
    refine b_gr (pc2 := 52) d_Mo_writeOn_49 q_11_120 (sh_130 n0) (by decide) (by decide) (p_130_56 n0) rfl ?_
    refine b_aln (pc2 := 53) d_Mo_writeOn_52 rfl rfl ?_
    refine b_gi (pc2 := 56) d_Mo_writeOn_53 q_11_271 (sh_130 n0) (by decide) (by decide) (rc_130) rfl ?_
    rw [mkJ_f _ _ (by decide), hwp]
    refine b_iln (pc2 := 57) d_Mo_writeOn_56 rfl rfl ?_
    refine b_pure (pc2 := 58) d_Mo_writeOn_57 rfl rfl rfl ?_
    rw [i_add]
    refine b_ia (pc2 := 59) (q := (wp + j)) d_Mo_writeOn_58 (sh_163 n0) (i_in (show wp + j < 8 by omega) (by decide)) (i_tn (by omega)) (rc_163) rfl ?_
    rw [mkJ_c _ _ (by decide) (by decide)]
    refine b_cv0 (pc2 := 62) (c2 := 0) (u2 := 0) (mo_lay (by omega) (by rw [List.length_cons, List.length_cons, List.length_cons, lst_len]; omega)) d_Mo_writeOn_59 q_11_186 (Nat.le_of_ble_eq_true rfl) rfl rfl (sh_130 n0) (Nat.le_of_ble_eq_true rfl) rfl rfl (by decide) (by decide) rfl ?_
    rw [hbv _ (by omega), List.cons_append, List.cons_append, List.cons_append, ← lst_app]
    refine b_inc (pc2 := 65) (al2 := [(1, _), (0, _)]) (y := Int32.ofNat 1) d_Mo_writeOn_62 (by decide) rfl rfl rfl rfl ?_
    refine b_go (pc2 := 24) d_Mo_writeOn_65 rfl ?_
    refine b_nf (al := [(1, _), (0, _)]) (ks := [1, 0]) (sub_c rfl (sub_c rfl (sub_n))) rfl (by decide) ?_
    dsimp only
    rw [i_add]
    exact ih (j + 1) (by omega)
theorem mo_writeOn {d : Nat} (hd : 3 ≤ d) {wp ws lm : Nat} (hwp : J 130 55 = Int32.ofNat wp) (hwp2 : wp < 200) (hws : J 130 54 = Int32.ofNat ws) (hws8 : ws ≤ 8) (hlm : J 130 44 = Int32.ofNat lm) (hl1 : 8 ≤ lm) (hl2 : lm ≤ 20) (hbv : ∀ k, k < ws → J 163 k &&& 255 = J 163 k) {ab : Nat} (hab : J 130 46 = Int32.ofNat ab) (hab2 : ab < 256) (hA : ∀ e, 2 ≤ e → bm e (S0 n0) R0 139 [.ref 130] W (mkJ J (Int32.ofNat 22 :: Int32.ofNat ab :: Int32.ofNat wp :: lst (J 163) wp (min (lm - 3) (ws - wp)))) g L (bR none W J1 g L)) : bm d (S0 n0) R0 141 [.ref 130] W J g L (bR none W J1 g L) := by
  obtain ⟨e, rfl⟩ : ∃ e, d = e + 1 := ⟨d - 1, by omega⟩
  refine bm_of (Nat.le_of_ble_eq_true rfl) (Or.inr bR_ret) ?_
  show bT e (S0 n0) R0 mt_Mo_writeOn _ 0 [(0, .ref 130)] [] W J g L 0 0
  have hSR := SR0 n0
  refine b_aln (pc2 := 1) d_Mo_writeOn_0 rfl rfl ?_
  refine b_bp (pc2 := 3) (x := Int32.ofNat 22) d_Mo_writeOn_1 rfl rfl ?_
  refine b_cv0 (pc2 := 6) (c2 := 0) (u2 := 0) (mo_start (by omega)) d_Mo_writeOn_3 q_11_183 (Nat.le_of_ble_eq_true rfl) rfl rfl (sh_130 n0) (Nat.le_of_ble_eq_true rfl) rfl rfl (by decide) (by decide) rfl ?_
  rw [show Int32.ofNat 22 &&& 255 = Int32.ofNat 22 from rfl]
  refine b_aln (pc2 := 7) d_Mo_writeOn_6 rfl rfl ?_
  refine b_aln (pc2 := 8) d_Mo_writeOn_7 rfl rfl ?_
  refine b_gi (pc2 := 11) d_Mo_writeOn_8 q_11_265 (sh_130 n0) (by decide) (by decide) (rc_130) rfl ?_
  rw [mkJ_f _ _ (by decide), hab]
  refine b_cv0 (pc2 := 14) (c2 := 0) (u2 := 0) (mo_lay (by omega) (by show 1 < 40; decide)) d_Mo_writeOn_11 q_11_186 (Nat.le_of_ble_eq_true rfl) rfl rfl (sh_130 n0) (Nat.le_of_ble_eq_true rfl) rfl rfl (by decide) (by decide) rfl ?_
  rw [b255 hab2]
  refine b_aln (pc2 := 15) d_Mo_writeOn_14 rfl rfl ?_
  refine b_aln (pc2 := 16) d_Mo_writeOn_15 rfl rfl ?_
  refine b_gi (pc2 := 19) d_Mo_writeOn_16 q_11_271 (sh_130 n0) (by decide) (by decide) (rc_130) rfl ?_
  rw [mkJ_f _ _ (by decide), hwp]
  refine b_cv0 (pc2 := 22) (c2 := 0) (u2 := 0) (mo_lay (by omega) (by show 2 < 40; decide)) d_Mo_writeOn_19 q_11_186 (Nat.le_of_ble_eq_true rfl) rfl rfl (sh_130 n0) (Nat.le_of_ble_eq_true rfl) rfl rfl (by decide) (by decide) rfl ?_
  rw [b255 (by omega)]
  refine b_ic (pc2 := 23) (x := Int32.ofNat 0) d_Mo_writeOn_22 rfl rfl ?_
  refine b_isn (pc2 := 24) (al2 := [(1, _), (0, _)]) d_Mo_writeOn_23 (by decide) rfl rfl ?_
  refine b_nf (al := [(1, _), (0, _)]) (ks := [1, 0]) (sub_c rfl (sub_c rfl (sub_n))) rfl (by decide) ?_
  dsimp only
  exact lp_won (by omega) hwp hwp2 hws hws8 hlm hl1 hl2 hbv hA (min (lm - 3) (ws - wp)) 0 (by omega)
end MV
