/-! Part 93 (written by gen45.py): the reference: take, send -/
theorem u2_idq {α : Type} {f : Nat → Nat → α} {a k : Nat} {x : α} (h : f a k = x) : am_u2 f a k x = f := by
  subst h; exact u2_id f a k
section MT
variable {n0 : Nat} {W : bw_W} {J : bw_J} {g : Nat} {L : bw_L}
variable {J1 : bw_J} {Qh : am_O → am_H → Prop} {dv : Nat}
theorem mo_take_h {d : Nat} (hd : 1 ≤ d) (hdv : dv < 2) (hh : J 136 dv = Int32.ofNat 1) : bm d (S0 n0) R0 148 [.ref 130, .int (Int32.ofNat dv)] W J g L (bR none W J g L) := by
  obtain ⟨e, rfl⟩ : ∃ e, d = e + 1 := ⟨d - 1, by omega⟩
  refine bm_of (Nat.le_of_ble_eq_true rfl) (Or.inr bR_ret) ?_
  show bT e (S0 n0) R0 mt_Mo_take _ 0 [(0, .ref 130), (1, .int (Int32.ofNat dv))] [] W J g L 0 0
  have hSR := SR0 n0
  refine b_aln (pc2 := 1) d_Mo_take_0 rfl rfl ?_
  refine b_gr (pc2 := 4) d_Mo_take_1 q_11_30 (sh_130 n0) (by decide) (by decide) (p_130_13 n0) rfl ?_
  refine b_iln (pc2 := 5) d_Mo_take_4 rfl rfl ?_
  refine b_ba (pc2 := 6) (q := dv) d_Mo_take_5 (sh_136 n0) (i_in (show dv < 2 by omega) (by decide)) (i_tn (by omega)) (rc_136) rfl ?_
  rw [hh]
  refine b_ifd (pc2 := 10) d_Mo_take_6 rfl rfl rfl rfl rfl (fun h6 => ?_) (fun h6 => ?_)
  · exact absurd h6 (by decide)
  refine b_vr d_Mo_take_9 rfl ?_
  exact ⟨rfl, rfl, rfl, rfl, rfl⟩
theorem mo_take_0 {d : Nat} (hd : 1 ≤ d) (hdv : dv < 2) (hh : J 136 dv = Int32.ofNat 0) (hw : J 143 dv = Int32.ofNat 0) : bm d (S0 n0) R0 148 [.ref 130, .int (Int32.ofNat dv)] W J g L (bR none W (am_u2 (am_u2 (am_u2 J 136 dv (Int32.ofNat 1)) 138 dv (Int32.ofNat 0)) 137 dv (Int32.ofNat 1)) g L) := by
  obtain ⟨e, rfl⟩ : ∃ e, d = e + 1 := ⟨d - 1, by omega⟩
  refine bm_of (Nat.le_of_ble_eq_true rfl) (Or.inr bR_ret) ?_
  show bT e (S0 n0) R0 mt_Mo_take _ 0 [(0, .ref 130), (1, .int (Int32.ofNat dv))] [] W J g L 0 0
  have hSR := SR0 n0
  refine b_aln (pc2 := 1) d_Mo_take_0 rfl rfl ?_
  refine b_gr (pc2 := 4) d_Mo_take_1 q_11_30 (sh_130 n0) (by decide) (by decide) (p_130_13 n0) rfl ?_
  refine b_iln (pc2 := 5) d_Mo_take_4 rfl rfl ?_
  refine b_ba (pc2 := 6) (q := dv) d_Mo_take_5 (sh_136 n0) (i_in (show dv < 2 by omega) (by decide)) (i_tn (by omega)) (rc_136) rfl ?_
  rw [hh]
  refine b_ifd (pc2 := 10) d_Mo_take_6 rfl rfl rfl rfl rfl (fun h6 => ?_) (fun h6 => ?_)
  rotate_left
  · exact absurd (by decide) h6
  refine b_aln (pc2 := 11) d_Mo_take_10 rfl rfl ?_
  refine b_gr (pc2 := 14) d_Mo_take_11 q_11_30 (sh_130 n0) (by decide) (by decide) (p_130_13 n0) rfl ?_
  refine b_iln (pc2 := 15) d_Mo_take_14 rfl rfl ?_
  refine b_ic (pc2 := 16) (x := Int32.ofNat 1) d_Mo_take_15 rfl rfl ?_
  refine b_bst (pc2 := 17) (q := dv) d_Mo_take_16 (sh_136 n0) (i_in (show dv < 2 by omega) (by decide)) (i_tn (by omega)) (rc_136) (Or.inr rfl) rfl ?_
  refine b_aln (pc2 := 18) d_Mo_take_17 rfl rfl ?_
  refine b_gr (pc2 := 21) d_Mo_take_18 q_11_36 (sh_130 n0) (by decide) (by decide) (p_130_15 n0) rfl ?_
  refine b_iln (pc2 := 22) d_Mo_take_21 rfl rfl ?_
  refine b_ic (pc2 := 23) (x := Int32.ofNat 0) d_Mo_take_22 rfl rfl ?_
  refine b_ist (pc2 := 24) (q := dv) d_Mo_take_23 (sh_138 n0) (i_in (show dv < 2 by omega) (by decide)) (i_tn (by omega)) (rc_138) rfl ?_
  refine b_aln (pc2 := 25) d_Mo_take_24 rfl rfl ?_
  refine b_gr (pc2 := 28) d_Mo_take_25 q_11_33 (sh_130 n0) (by decide) (by decide) (p_130_14 n0) rfl ?_
  refine b_iln (pc2 := 29) d_Mo_take_28 rfl rfl ?_
  refine b_ic (pc2 := 30) (x := Int32.ofNat 1) d_Mo_take_29 rfl rfl ?_
  refine b_ist (pc2 := 31) (q := dv) d_Mo_take_30 (sh_137 n0) (i_in (show dv < 2 by omega) (by decide)) (i_tn (by omega)) (rc_137) rfl ?_
  refine b_aln (pc2 := 32) d_Mo_take_31 rfl rfl ?_
  refine b_gr (pc2 := 35) d_Mo_take_32 q_11_51 (sh_130 n0) (by decide) (by decide) (p_130_20 n0) rfl ?_
  refine b_iln (pc2 := 36) d_Mo_take_35 rfl rfl ?_
  refine b_ia (pc2 := 37) (q := dv) d_Mo_take_36 (sh_143 n0) (i_in (show dv < 2 by omega) (by decide)) (i_tn (by omega)) (rc_143) rfl ?_
  rw [u2_a _ _ (by decide), u2_a _ _ (by decide), u2_a _ _ (by decide), hw]
  refine b_ifd (pc2 := 41) d_Mo_take_37 rfl rfl rfl rfl rfl (fun h37 => ?_) (fun h37 => ?_)
  · exact absurd h37 (by decide)
  refine b_vr d_Mo_take_40 rfl ?_
  exact ⟨rfl, rfl, rfl, rfl, rfl⟩
theorem lp_take {e : Nat} (hdv : dv < 2) {fr : Nat} (hf8 : fr < 8) {ct rs : Nat} (hr : J 141 (8 * dv + fr) = Int32.ofNat rs) (hrs : rs ≤ 24) (hct : ct ≤ rs) (K : bH e (S0 n0) R0 mt_Mo_take Qh 154 [(2, .int (Int32.ofNat (8 * dv + fr))), (0, .ref 130), (1, .int (Int32.ofNat dv))] [] W (am_u2 (am_u2 (am_u1 J 139 (ovw (8 * dv) (lst (J 140) (24 * (8 * dv + fr) + ct) (min 7 (rs - ct))) (J 139))) 138 dv (Int32.ofNat (min 7 (rs - ct)))) 144 dv (Int32.ofNat (ct + (min 7 (rs - ct))))) g L 0 0) : ∀ (r j : Nat), j + r = (min 7 (rs - ct)) → bH e (S0 n0) R0 mt_Mo_take Qh 73 [(2, .int (Int32.ofNat (8 * dv + fr))), (0, .ref 130), (1, .int (Int32.ofNat dv))] [] W (am_u2 (am_u2 (am_u1 J 139 (ovw (8 * dv) (lst (J 140) (24 * (8 * dv + fr) + ct) j) (J 139))) 138 dv (Int32.ofNat j)) 144 dv (Int32.ofNat (ct + j))) g L 0 0 := by
  intro r
  induction r with
  | zero =>
    intro j hj
    refine b_aln (pc2 := 74) d_Mo_take_73 rfl rfl ?_
    refine b_gr (pc2 := 77) d_Mo_take_74 q_11_36 (sh_130 n0) (by decide) (by decide) (p_130_15 n0) rfl ?_
    refine b_iln (pc2 := 78) d_Mo_take_77 rfl rfl ?_
    refine b_ia (pc2 := 79) (q := dv) d_Mo_take_78 (sh_138 n0) (i_in (show dv < 2 by omega) (by decide)) (i_tn (by omega)) (rc_138) rfl ?_
    rw [u2_a _ _ (by decide), u2_at]
    refine b_bp (pc2 := 81) (x := Int32.ofNat 7) d_Mo_take_79 rfl rfl ?_
    refine b_ifd (pc2 := 154) d_Mo_take_81 rfl rfl rfl rfl rfl (fun h81 => ?_) (fun h81 => ?_)
    · rw [i_le (by omega) (by omega)] at h81
      refine b_nf (al := [(2, _), (0, _), (1, _)]) (ks := [2, 0, 1]) (sub_c rfl (sub_c rfl (sub_c rfl (sub_n)))) rfl (by decide) ?_
      dsimp only
      rw [show j = (min 7 (rs - ct)) by omega] at *
      exact K
    · rw [i_le (by omega) (by omega)] at h81
      refine b_aln (pc2 := 85) d_Mo_take_84 rfl rfl ?_
      refine b_gr (pc2 := 88) d_Mo_take_85 q_11_54 (sh_130 n0) (by decide) (by decide) (p_130_21 n0) rfl ?_
      refine b_iln (pc2 := 89) d_Mo_take_88 rfl rfl ?_
      refine b_ia (pc2 := 90) (q := dv) d_Mo_take_89 (sh_144 n0) (i_in (show dv < 2 by omega) (by decide)) (i_tn (by omega)) (rc_144) rfl ?_
      rw [u2_at]
      refine b_aln (pc2 := 91) d_Mo_take_90 rfl rfl ?_
      refine b_gr (pc2 := 94) d_Mo_take_91 q_11_45 (sh_130 n0) (by decide) (by decide) (p_130_18 n0) rfl ?_
      refine b_iln (pc2 := 95) d_Mo_take_94 rfl rfl ?_
      refine b_ia (pc2 := 96) (q := (8 * dv + fr)) d_Mo_take_95 (sh_141 n0) (i_in (show 8 * dv + fr < 16 by omega) (by decide)) (i_tn (by omega)) (rc_141) rfl ?_
      rw [u2_a _ _ (by decide), u2_a _ _ (by decide), u1_ne _ _ (by decide), hr]
      refine b_ifd (pc2 := 154) d_Mo_take_96 rfl rfl rfl rfl rfl (fun h96 => ?_) (fun h96 => ?_)
      · rw [i_le (by omega) (by omega)] at h96
        refine b_nf (al := [(2, _), (0, _), (1, _)]) (ks := [2, 0, 1]) (sub_c rfl (sub_c rfl (sub_c rfl (sub_n)))) rfl (by decide) ?_
        dsimp only
        rw [show j = (min 7 (rs - ct)) by omega] at *
        exact K
      · rw [i_le (by omega) (by omega)] at h96
        omega
  | succ r ih =>
    intro j hj
    refine b_aln (pc2 := 74) d_Mo_take_73 rfl rfl ?_
    refine b_gr (pc2 := 77) d_Mo_take_74 q_11_36 (sh_130 n0) (by decide) (by decide) (p_130_15 n0) rfl ?_
    refine b_iln (pc2 := 78) d_Mo_take_77 rfl rfl ?_
    refine b_ia (pc2 := 79) (q := dv) d_Mo_take_78 (sh_138 n0) (i_in (show dv < 2 by omega) (by decide)) (i_tn (by omega)) (rc_138) rfl ?_
    rw [u2_a _ _ (by decide), u2_at]
    refine b_bp (pc2 := 81) (x := Int32.ofNat 7) d_Mo_take_79 rfl rfl ?_
    refine b_ifd (pc2 := 154) d_Mo_take_81 rfl rfl rfl rfl rfl (fun h81 => ?_) (fun h81 => ?_)
    · exact absurd h81 (fun z => by rw [i_le (by omega) (by omega)] at z; omega)
    refine b_aln (pc2 := 85) d_Mo_take_84 rfl rfl ?_
    refine b_gr (pc2 := 88) d_Mo_take_85 q_11_54 (sh_130 n0) (by decide) (by decide) (p_130_21 n0) rfl ?_
    refine b_iln (pc2 := 89) d_Mo_take_88 rfl rfl ?_
    refine b_ia (pc2 := 90) (q := dv) d_Mo_take_89 (sh_144 n0) (i_in (show dv < 2 by omega) (by decide)) (i_tn (by omega)) (rc_144) rfl ?_
    rw [u2_at]
    refine b_aln (pc2 := 91) d_Mo_take_90 rfl rfl ?_
    refine b_gr (pc2 := 94) d_Mo_take_91 q_11_45 (sh_130 n0) (by decide) (by decide) (p_130_18 n0) rfl ?_
    refine b_iln (pc2 := 95) d_Mo_take_94 rfl rfl ?_
    refine b_ia (pc2 := 96) (q := (8 * dv + fr)) d_Mo_take_95 (sh_141 n0) (i_in (show 8 * dv + fr < 16 by omega) (by decide)) (i_tn (by omega)) (rc_141) rfl ?_
    rw [u2_a _ _ (by decide), u2_a _ _ (by decide), u1_ne _ _ (by decide), hr]
    refine b_ifd (pc2 := 154) d_Mo_take_96 rfl rfl rfl rfl rfl (fun h96 => ?_) (fun h96 => ?_)
    · exact absurd h96 (fun z => by rw [i_le (by omega) (by omega)] at z; omega)
    refine b_aln (pc2 := 100) d_Mo_take_99 rfl rfl ?_
    refine b_gr (pc2 := 103) d_Mo_take_100 q_11_39 (sh_130 n0) (by decide) (by decide) (p_130_16 n0) rfl ?_
    refine b_bp (pc2 := 105) (x := Int32.ofNat 8) d_Mo_take_103 rfl rfl ?_
    refine b_iln (pc2 := 106) d_Mo_take_105 rfl rfl ?_
    refine b_pure (pc2 := 107) d_Mo_take_106 rfl rfl rfl ?_
    rw [i_mul]
    refine b_aln (pc2 := 108) d_Mo_take_107 rfl rfl ?_
    refine b_gr (pc2 := 111) d_Mo_take_108 q_11_36 (sh_130 n0) (by decide) (by decide) (p_130_15 n0) rfl ?_
    refine b_iln (pc2 := 112) d_Mo_take_111 rfl rfl ?_
    refine b_ia (pc2 := 113) (q := dv) d_Mo_take_112 (sh_138 n0) (i_in (show dv < 2 by omega) (by decide)) (i_tn (by omega)) (rc_138) rfl ?_
    rw [u2_a _ _ (by decide), u2_at]
    refine b_pure (pc2 := 114) d_Mo_take_113 rfl rfl rfl ?_
    rw [i_add, show 8 * dv + j = (8 * dv + (lst (J 140) (24 * (8 * dv + fr) + ct) j).length) by rw [lst_len]]
    refine b_aln (pc2 := 115) d_Mo_take_114 rfl rfl ?_
    refine b_gr (pc2 := 118) d_Mo_take_115 q_11_42 (sh_130 n0) (by decide) (by decide) (p_130_17 n0) rfl ?_
    refine b_bp (pc2 := 120) (x := Int32.ofNat 24) d_Mo_take_118 rfl rfl ?_
    refine b_iln (pc2 := 121) d_Mo_take_120 rfl rfl ?_
    refine b_pure (pc2 := 122) d_Mo_take_121 rfl rfl rfl ?_
    rw [i_mul]
    refine b_aln (pc2 := 123) d_Mo_take_122 rfl rfl ?_
    refine b_gr (pc2 := 126) d_Mo_take_123 q_11_54 (sh_130 n0) (by decide) (by decide) (p_130_21 n0) rfl ?_
    refine b_iln (pc2 := 127) d_Mo_take_126 rfl rfl ?_
    refine b_ia (pc2 := 128) (q := dv) d_Mo_take_127 (sh_144 n0) (i_in (show dv < 2 by omega) (by decide)) (i_tn (by omega)) (rc_144) rfl ?_
    rw [u2_at]
    refine b_pure (pc2 := 129) d_Mo_take_128 rfl rfl rfl ?_
    rw [i_add, show 24 * (8 * dv + fr) + (ct + j) = 24 * (8 * dv + fr) + ct + j by omega]
    refine b_ia (pc2 := 130) (q := (24 * (8 * dv + fr) + ct + j)) d_Mo_take_129 (sh_140 n0) (i_in (show 24 * (8 * dv + fr) + ct + j < 384 by omega) (by decide)) (i_tn (by omega)) (rc_140) rfl ?_
    rw [u2_a _ _ (by decide), u2_a _ _ (by decide), u1_ne _ _ (by decide)]
    refine b_ist (pc2 := 131) (q := (8 * dv + (lst (J 140) (24 * (8 * dv + fr) + ct) j).length)) d_Mo_take_130 (sh_139 n0) (i_in (show (8 * dv + (lst (J 140) (24 * (8 * dv + fr) + ct) j).length) < 16 by rw [lst_len]; omega) (by decide)) (i_tn (by rw [lst_len]; omega)) (rc_139) rfl ?_
    rw [u2_c (a := 144) (b := 139) _ _ _ (by decide), u2_c (a := 138) (b := 139) _ _ _ (by decide), u21, ovw_step, ← lst_app]
    refine b_aln (pc2 := 132) d_Mo_take_131 rfl rfl ?_
    refine b_gr (pc2 := 135) d_Mo_take_132 q_11_36 (sh_130 n0) (by decide) (by decide) (p_130_15 n0) rfl ?_
    refine b_iln (pc2 := 136) d_Mo_take_135 rfl rfl ?_
    refine b_pure (pc2 := 137) d_Mo_take_136 rfl rfl rfl ?_
    refine b_ia (pc2 := 138) (q := dv) d_Mo_take_137 (sh_138 n0) (i_in (show dv < 2 by omega) (by decide)) (i_tn (by omega)) (rc_138) rfl ?_
    rw [u2_a _ _ (by decide), u2_at]
    refine b_ic (pc2 := 139) (x := Int32.ofNat 1) d_Mo_take_138 rfl rfl ?_
    refine b_pure (pc2 := 140) d_Mo_take_139 rfl rfl rfl ?_
    rw [i_add]
    refine b_ist (pc2 := 141) (q := dv) d_Mo_take_140 (sh_138 n0) (i_in (show dv < 2 by omega) (by decide)) (i_tn (by omega)) (rc_138) rfl ?_
    rw [u2_c (a := 144) (b := 138) _ _ _ (by decide), u2_u2]
    refine b_aln (pc2 := 142) d_Mo_take_141 rfl rfl ?_
    refine b_gr (pc2 := 145) d_Mo_take_142 q_11_54 (sh_130 n0) (by decide) (by decide) (p_130_21 n0) rfl ?_
    refine b_iln (pc2 := 146) d_Mo_take_145 rfl rfl ?_
    refine b_pure (pc2 := 147) d_Mo_take_146 rfl rfl rfl ?_
    refine b_ia (pc2 := 148) (q := dv) d_Mo_take_147 (sh_144 n0) (i_in (show dv < 2 by omega) (by decide)) (i_tn (by omega)) (rc_144) rfl ?_
    rw [u2_at]
    refine b_ic (pc2 := 149) (x := Int32.ofNat 1) d_Mo_take_148 rfl rfl ?_
    refine b_pure (pc2 := 150) d_Mo_take_149 rfl rfl rfl ?_
    rw [i_add]
    refine b_ist (pc2 := 151) (q := dv) d_Mo_take_150 (sh_144 n0) (i_in (show dv < 2 by omega) (by decide)) (i_tn (by omega)) (rc_144) rfl ?_
    rw [u2_u2, show ct + j + 1 = ct + (j + 1) by omega]
    refine b_go (pc2 := 73) d_Mo_take_151 rfl ?_
    refine b_nf (al := [(2, _), (0, _), (1, _)]) (ks := [2, 0, 1]) (sub_c rfl (sub_c rfl (sub_c rfl (sub_n)))) rfl (by decide) ?_
    dsimp only
    exact ih (j + 1) (by omega)
theorem mo_take_1 {d : Nat} (hd : 1 ≤ d) (hdv : dv < 2) (hh : J 136 dv = Int32.ofNat 0) {fr w : Nat} (hf : J 142 dv = Int32.ofNat fr) (hf8 : fr < 8) (hw : J 143 dv = Int32.ofNat w) (hw1 : 1 ≤ w) (hw8 : w ≤ 8) {ct rs : Nat} (hc : J 144 dv = Int32.ofNat ct) (hr : J 141 (8 * dv + fr) = Int32.ofNat rs) (hrs : rs ≤ 24) (hct : ct ≤ rs) {kd : Nat} (hkd : kd = if ct = 0 then 2 else 1) (hx : ¬ ct + (min 7 (rs - ct)) = rs) : bm d (S0 n0) R0 148 [.ref 130, .int (Int32.ofNat dv)] W J g L (bR none W (am_u2 (am_u2 (am_u1 (am_u2 (am_u2 (am_u2 (am_u2 J 136 dv (Int32.ofNat 1)) 138 dv (Int32.ofNat 0)) 137 dv (Int32.ofNat 1)) 137 dv (Int32.ofNat kd)) 139 (ovw (8 * dv) (lst (J 140) (24 * (8 * dv + fr) + ct) (min 7 (rs - ct))) (J 139))) 138 dv (Int32.ofNat (min 7 (rs - ct)))) 144 dv (Int32.ofNat (ct + (min 7 (rs - ct))))) g L) := by
  obtain ⟨e, rfl⟩ : ∃ e, d = e + 1 := ⟨d - 1, by omega⟩
  refine bm_of (Nat.le_of_ble_eq_true rfl) (Or.inr bR_ret) ?_
  show bT e (S0 n0) R0 mt_Mo_take _ 0 [(0, .ref 130), (1, .int (Int32.ofNat dv))] [] W J g L 0 0
  have hSR := SR0 n0
  refine b_aln (pc2 := 1) d_Mo_take_0 rfl rfl ?_
  refine b_gr (pc2 := 4) d_Mo_take_1 q_11_30 (sh_130 n0) (by decide) (by decide) (p_130_13 n0) rfl ?_
  refine b_iln (pc2 := 5) d_Mo_take_4 rfl rfl ?_
  refine b_ba (pc2 := 6) (q := dv) d_Mo_take_5 (sh_136 n0) (i_in (show dv < 2 by omega) (by decide)) (i_tn (by omega)) (rc_136) rfl ?_
  rw [hh]
  refine b_ifd (pc2 := 10) d_Mo_take_6 rfl rfl rfl rfl rfl (fun h6 => ?_) (fun h6 => ?_)
  rotate_left
  · exact absurd (by decide) h6
  refine b_aln (pc2 := 11) d_Mo_take_10 rfl rfl ?_
  refine b_gr (pc2 := 14) d_Mo_take_11 q_11_30 (sh_130 n0) (by decide) (by decide) (p_130_13 n0) rfl ?_
  refine b_iln (pc2 := 15) d_Mo_take_14 rfl rfl ?_
  refine b_ic (pc2 := 16) (x := Int32.ofNat 1) d_Mo_take_15 rfl rfl ?_
  refine b_bst (pc2 := 17) (q := dv) d_Mo_take_16 (sh_136 n0) (i_in (show dv < 2 by omega) (by decide)) (i_tn (by omega)) (rc_136) (Or.inr rfl) rfl ?_
  refine b_aln (pc2 := 18) d_Mo_take_17 rfl rfl ?_
  refine b_gr (pc2 := 21) d_Mo_take_18 q_11_36 (sh_130 n0) (by decide) (by decide) (p_130_15 n0) rfl ?_
  refine b_iln (pc2 := 22) d_Mo_take_21 rfl rfl ?_
  refine b_ic (pc2 := 23) (x := Int32.ofNat 0) d_Mo_take_22 rfl rfl ?_
  refine b_ist (pc2 := 24) (q := dv) d_Mo_take_23 (sh_138 n0) (i_in (show dv < 2 by omega) (by decide)) (i_tn (by omega)) (rc_138) rfl ?_
  refine b_aln (pc2 := 25) d_Mo_take_24 rfl rfl ?_
  refine b_gr (pc2 := 28) d_Mo_take_25 q_11_33 (sh_130 n0) (by decide) (by decide) (p_130_14 n0) rfl ?_
  refine b_iln (pc2 := 29) d_Mo_take_28 rfl rfl ?_
  refine b_ic (pc2 := 30) (x := Int32.ofNat 1) d_Mo_take_29 rfl rfl ?_
  refine b_ist (pc2 := 31) (q := dv) d_Mo_take_30 (sh_137 n0) (i_in (show dv < 2 by omega) (by decide)) (i_tn (by omega)) (rc_137) rfl ?_
  refine b_aln (pc2 := 32) d_Mo_take_31 rfl rfl ?_
  refine b_gr (pc2 := 35) d_Mo_take_32 q_11_51 (sh_130 n0) (by decide) (by decide) (p_130_20 n0) rfl ?_
  refine b_iln (pc2 := 36) d_Mo_take_35 rfl rfl ?_
  refine b_ia (pc2 := 37) (q := dv) d_Mo_take_36 (sh_143 n0) (i_in (show dv < 2 by omega) (by decide)) (i_tn (by omega)) (rc_143) rfl ?_
  rw [u2_a _ _ (by decide), u2_a _ _ (by decide), u2_a _ _ (by decide), hw]
  refine b_ifd (pc2 := 41) d_Mo_take_37 rfl rfl rfl rfl rfl (fun h37 => ?_) (fun h37 => ?_)
  rotate_left
  · exact absurd (by rw [z_eq (by omega)]; omega) h37
  refine b_bp (pc2 := 43) (x := Int32.ofNat 8) d_Mo_take_41 rfl rfl ?_
  refine b_iln (pc2 := 44) d_Mo_take_43 rfl rfl ?_
  refine b_pure (pc2 := 45) d_Mo_take_44 rfl rfl rfl ?_
  rw [i_mul]
  refine b_aln (pc2 := 46) d_Mo_take_45 rfl rfl ?_
  refine b_gr (pc2 := 49) d_Mo_take_46 q_11_48 (sh_130 n0) (by decide) (by decide) (p_130_19 n0) rfl ?_
  refine b_iln (pc2 := 50) d_Mo_take_49 rfl rfl ?_
  refine b_ia (pc2 := 51) (q := dv) d_Mo_take_50 (sh_142 n0) (i_in (show dv < 2 by omega) (by decide)) (i_tn (by omega)) (rc_142) rfl ?_
  rw [u2_a _ _ (by decide), u2_a _ _ (by decide), u2_a _ _ (by decide), hf]
  refine b_pure (pc2 := 52) d_Mo_take_51 rfl rfl rfl ?_
  rw [i_add]
  refine b_isn (pc2 := 53) (al2 := [(2, _), (0, _), (1, _)]) d_Mo_take_52 (by decide) rfl rfl ?_
  refine b_aln (pc2 := 54) d_Mo_take_53 rfl rfl ?_
  refine b_gr (pc2 := 57) d_Mo_take_54 q_11_33 (sh_130 n0) (by decide) (by decide) (p_130_14 n0) rfl ?_
  refine b_iln (pc2 := 58) d_Mo_take_57 rfl rfl ?_
  refine b_aln (pc2 := 59) d_Mo_take_58 rfl rfl ?_
  refine b_gr (pc2 := 62) d_Mo_take_59 q_11_54 (sh_130 n0) (by decide) (by decide) (p_130_21 n0) rfl ?_
  refine b_iln (pc2 := 63) d_Mo_take_62 rfl rfl ?_
  refine b_ia (pc2 := 64) (q := dv) d_Mo_take_63 (sh_144 n0) (i_in (show dv < 2 by omega) (by decide)) (i_tn (by omega)) (rc_144) rfl ?_
  rw [u2_a _ _ (by decide), u2_a _ _ (by decide), u2_a _ _ (by decide), hc]
  refine b_ifd (pc2 := 71) d_Mo_take_64 rfl rfl rfl rfl rfl (fun h64 => ?_) (fun h64 => ?_)
  · rw [z_eq (by omega)] at h64
    have hkd2 : kd = 1 := by rw [if_neg (by omega)] at hkd; exact hkd
    subst hkd2
    refine b_ic (pc2 := 72) (x := Int32.ofNat 1) d_Mo_take_71 rfl rfl ?_
    refine b_ist (pc2 := 73) (q := dv) d_Mo_take_72 (sh_137 n0) (i_in (show dv < 2 by omega) (by decide)) (i_tn (by omega)) (rc_137) rfl ?_
    refine b_nf (al := [(2, _), (0, _), (1, _)]) (ks := [2, 0, 1]) (sub_c rfl (sub_c rfl (sub_c rfl (sub_n)))) rfl (by decide) ?_
    dsimp only
    have hK : ∀ c, ¬ c = 136 → ¬ c = 137 → ¬ c = 138 → (am_u2 (am_u2 (am_u2 (am_u2 J 136 dv (Int32.ofNat 1)) 138 dv (Int32.ofNat 0)) 137 dv (Int32.ofNat 1)) 137 dv (Int32.ofNat 1)) c = J c := fun c a1 a2 a3 => by rw [u2_a _ _ a2, u2_a _ _ a2, u2_a _ _ a3, u2_a _ _ a1]
    refine (fun z => ?_ : _ → _) (lp_take (n0 := n0) (W := W) (J := (am_u2 (am_u2 (am_u2 (am_u2 J 136 dv (Int32.ofNat 1)) 138 dv (Int32.ofNat 0)) 137 dv (Int32.ofNat 1)) 137 dv (Int32.ofNat 1))) (g := g) (L := L) (e := e) (dv := dv) (fr := fr) (ct := ct) (rs := rs) (Qh := bw_Q (S0 n0) R0 (bR none W (am_u2 (am_u2 (am_u1 (am_u2 (am_u2 (am_u2 (am_u2 J 136 dv (Int32.ofNat 1)) 138 dv (Int32.ofNat 0)) 137 dv (Int32.ofNat 1)) 137 dv (Int32.ofNat 1)) 139 (ovw (8 * dv) (lst (J 140) (24 * (8 * dv + fr) + ct) (min 7 (rs - ct))) (J 139))) 138 dv (Int32.ofNat (min 7 (rs - ct)))) 144 dv (Int32.ofNat (ct + (min 7 (rs - ct))))) g L)) hdv hf8 (by rw [hK 141 (by decide) (by decide) (by decide)]; exact hr) hrs hct ?_ (min 7 (rs - ct)) 0 (by omega))
    · rw [show lst ((am_u2 (am_u2 (am_u2 (am_u2 J 136 dv (Int32.ofNat 1)) 138 dv (Int32.ofNat 0)) 137 dv (Int32.ofNat 1)) 137 dv (Int32.ofNat 1)) 140) (24 * (8 * dv + fr) + ct) 0 = [] from rfl, ovw_nil, u1_id, show am_u2 (am_u2 (am_u2 (am_u2 (am_u2 J 136 dv (Int32.ofNat 1)) 138 dv (Int32.ofNat 0)) 137 dv (Int32.ofNat 1)) 137 dv (Int32.ofNat 1)) 138 dv (Int32.ofNat 0) = (am_u2 (am_u2 (am_u2 (am_u2 J 136 dv (Int32.ofNat 1)) 138 dv (Int32.ofNat 0)) 137 dv (Int32.ofNat 1)) 137 dv (Int32.ofNat 1)) from ?_, show ct + 0 = ct from rfl, ← hc, ← hK 144 (by decide) (by decide) (by decide), u2_id] at z
      · exact z
      · exact u2_idq (show (am_u2 (am_u2 (am_u2 (am_u2 J 136 dv (Int32.ofNat 1)) 138 dv (Int32.ofNat 0)) 137 dv (Int32.ofNat 1)) 137 dv (Int32.ofNat 1)) 138 dv = Int32.ofNat 0 by rw [u2_a _ _ (by decide), u2_a _ _ (by decide), u2_at])
    · rw [hK 140 (by decide) (by decide) (by decide), hK 139 (by decide) (by decide) (by decide)]
      refine b_aln (pc2 := 155) d_Mo_take_154 rfl rfl ?_
      refine b_gr (pc2 := 158) d_Mo_take_155 q_11_54 (sh_130 n0) (by decide) (by decide) (p_130_21 n0) rfl ?_
      refine b_iln (pc2 := 159) d_Mo_take_158 rfl rfl ?_
      refine b_ia (pc2 := 160) (q := dv) d_Mo_take_159 (sh_144 n0) (i_in (show dv < 2 by omega) (by decide)) (i_tn (by omega)) (rc_144) rfl ?_
      rw [u2_at]
      refine b_aln (pc2 := 161) d_Mo_take_160 rfl rfl ?_
      refine b_gr (pc2 := 164) d_Mo_take_161 q_11_45 (sh_130 n0) (by decide) (by decide) (p_130_18 n0) rfl ?_
      refine b_iln (pc2 := 165) d_Mo_take_164 rfl rfl ?_
      refine b_ia (pc2 := 166) (q := (8 * dv + fr)) d_Mo_take_165 (sh_141 n0) (i_in (show 8 * dv + fr < 16 by omega) (by decide)) (i_tn (by omega)) (rc_141) rfl ?_
      rw [u2_a _ _ (by decide), u2_a _ _ (by decide), u1_ne _ _ (by decide), u2_a _ _ (by decide), u2_a _ _ (by decide), u2_a _ _ (by decide), u2_a _ _ (by decide), hr]
      refine b_ifd (pc2 := 203) d_Mo_take_166 rfl rfl rfl rfl rfl (fun h166 => ?_) (fun h166 => ?_)
      rotate_left
      · exact absurd (by rw [i_eq (by omega) (by omega)]; omega) h166
      refine b_vr d_Mo_take_203 rfl ?_
      exact ⟨rfl, rfl, rfl, rfl, rfl⟩
  · rw [z_eq (by omega)] at h64
    have hkd2 : kd = 2 := by rw [if_pos (by omega)] at hkd; exact hkd
    subst hkd2
    refine b_ic (pc2 := 68) (x := Int32.ofNat 2) d_Mo_take_67 rfl rfl ?_
    refine b_go (pc2 := 72) d_Mo_take_68 rfl ?_
    refine b_ist (pc2 := 73) (q := dv) d_Mo_take_72 (sh_137 n0) (i_in (show dv < 2 by omega) (by decide)) (i_tn (by omega)) (rc_137) rfl ?_
    refine b_nf (al := [(2, _), (0, _), (1, _)]) (ks := [2, 0, 1]) (sub_c rfl (sub_c rfl (sub_c rfl (sub_n)))) rfl (by decide) ?_
    dsimp only
    have hK : ∀ c, ¬ c = 136 → ¬ c = 137 → ¬ c = 138 → (am_u2 (am_u2 (am_u2 (am_u2 J 136 dv (Int32.ofNat 1)) 138 dv (Int32.ofNat 0)) 137 dv (Int32.ofNat 1)) 137 dv (Int32.ofNat 2)) c = J c := fun c a1 a2 a3 => by rw [u2_a _ _ a2, u2_a _ _ a2, u2_a _ _ a3, u2_a _ _ a1]
    refine (fun z => ?_ : _ → _) (lp_take (n0 := n0) (W := W) (J := (am_u2 (am_u2 (am_u2 (am_u2 J 136 dv (Int32.ofNat 1)) 138 dv (Int32.ofNat 0)) 137 dv (Int32.ofNat 1)) 137 dv (Int32.ofNat 2))) (g := g) (L := L) (e := e) (dv := dv) (fr := fr) (ct := ct) (rs := rs) (Qh := bw_Q (S0 n0) R0 (bR none W (am_u2 (am_u2 (am_u1 (am_u2 (am_u2 (am_u2 (am_u2 J 136 dv (Int32.ofNat 1)) 138 dv (Int32.ofNat 0)) 137 dv (Int32.ofNat 1)) 137 dv (Int32.ofNat 2)) 139 (ovw (8 * dv) (lst (J 140) (24 * (8 * dv + fr) + ct) (min 7 (rs - ct))) (J 139))) 138 dv (Int32.ofNat (min 7 (rs - ct)))) 144 dv (Int32.ofNat (ct + (min 7 (rs - ct))))) g L)) hdv hf8 (by rw [hK 141 (by decide) (by decide) (by decide)]; exact hr) hrs hct ?_ (min 7 (rs - ct)) 0 (by omega))
    · rw [show lst ((am_u2 (am_u2 (am_u2 (am_u2 J 136 dv (Int32.ofNat 1)) 138 dv (Int32.ofNat 0)) 137 dv (Int32.ofNat 1)) 137 dv (Int32.ofNat 2)) 140) (24 * (8 * dv + fr) + ct) 0 = [] from rfl, ovw_nil, u1_id, show am_u2 (am_u2 (am_u2 (am_u2 (am_u2 J 136 dv (Int32.ofNat 1)) 138 dv (Int32.ofNat 0)) 137 dv (Int32.ofNat 1)) 137 dv (Int32.ofNat 2)) 138 dv (Int32.ofNat 0) = (am_u2 (am_u2 (am_u2 (am_u2 J 136 dv (Int32.ofNat 1)) 138 dv (Int32.ofNat 0)) 137 dv (Int32.ofNat 1)) 137 dv (Int32.ofNat 2)) from ?_, show ct + 0 = ct from rfl, ← hc, ← hK 144 (by decide) (by decide) (by decide), u2_id] at z
      · exact z
      · exact u2_idq (show (am_u2 (am_u2 (am_u2 (am_u2 J 136 dv (Int32.ofNat 1)) 138 dv (Int32.ofNat 0)) 137 dv (Int32.ofNat 1)) 137 dv (Int32.ofNat 2)) 138 dv = Int32.ofNat 0 by rw [u2_a _ _ (by decide), u2_a _ _ (by decide), u2_at])
    · rw [hK 140 (by decide) (by decide) (by decide), hK 139 (by decide) (by decide) (by decide)]
      refine b_aln (pc2 := 155) d_Mo_take_154 rfl rfl ?_
      refine b_gr (pc2 := 158) d_Mo_take_155 q_11_54 (sh_130 n0) (by decide) (by decide) (p_130_21 n0) rfl ?_
      refine b_iln (pc2 := 159) d_Mo_take_158 rfl rfl ?_
      refine b_ia (pc2 := 160) (q := dv) d_Mo_take_159 (sh_144 n0) (i_in (show dv < 2 by omega) (by decide)) (i_tn (by omega)) (rc_144) rfl ?_
      rw [u2_at]
      refine b_aln (pc2 := 161) d_Mo_take_160 rfl rfl ?_
      refine b_gr (pc2 := 164) d_Mo_take_161 q_11_45 (sh_130 n0) (by decide) (by decide) (p_130_18 n0) rfl ?_
      refine b_iln (pc2 := 165) d_Mo_take_164 rfl rfl ?_
      refine b_ia (pc2 := 166) (q := (8 * dv + fr)) d_Mo_take_165 (sh_141 n0) (i_in (show 8 * dv + fr < 16 by omega) (by decide)) (i_tn (by omega)) (rc_141) rfl ?_
      rw [u2_a _ _ (by decide), u2_a _ _ (by decide), u1_ne _ _ (by decide), u2_a _ _ (by decide), u2_a _ _ (by decide), u2_a _ _ (by decide), u2_a _ _ (by decide), hr]
      refine b_ifd (pc2 := 203) d_Mo_take_166 rfl rfl rfl rfl rfl (fun h166 => ?_) (fun h166 => ?_)
      rotate_left
      · exact absurd (by rw [i_eq (by omega) (by omega)]; omega) h166
      refine b_vr d_Mo_take_203 rfl ?_
      exact ⟨rfl, rfl, rfl, rfl, rfl⟩
theorem mo_take_2 {d : Nat} (hd : 1 ≤ d) (hdv : dv < 2) (hh : J 136 dv = Int32.ofNat 0) {fr w : Nat} (hf : J 142 dv = Int32.ofNat fr) (hf8 : fr < 8) (hw : J 143 dv = Int32.ofNat w) (hw1 : 1 ≤ w) (hw8 : w ≤ 8) {ct rs : Nat} (hc : J 144 dv = Int32.ofNat ct) (hr : J 141 (8 * dv + fr) = Int32.ofNat rs) (hrs : rs ≤ 24) (hct : ct ≤ rs) {kd : Nat} (hkd : kd = if ct = 0 then 2 else 1) (hx : ct + (min 7 (rs - ct)) = rs) : bm d (S0 n0) R0 148 [.ref 130, .int (Int32.ofNat dv)] W J g L (bR none W (am_u2 (am_u2 (am_u2 (am_u2 (am_u2 (am_u1 (am_u2 (am_u2 (am_u2 (am_u2 J 136 dv (Int32.ofNat 1)) 138 dv (Int32.ofNat 0)) 137 dv (Int32.ofNat 1)) 137 dv (Int32.ofNat kd)) 139 (ovw (8 * dv) (lst (J 140) (24 * (8 * dv + fr) + ct) (min 7 (rs - ct))) (J 139))) 138 dv (Int32.ofNat (min 7 (rs - ct)))) 144 dv (Int32.ofNat (ct + (min 7 (rs - ct))))) 144 dv (Int32.ofNat 0)) 142 dv (Int32.ofNat ((fr + 1) % 8))) 143 dv (Int32.ofNat (w - 1))) g L) := by
  obtain ⟨e, rfl⟩ : ∃ e, d = e + 1 := ⟨d - 1, by omega⟩
  refine bm_of (Nat.le_of_ble_eq_true rfl) (Or.inr bR_ret) ?_
  show bT e (S0 n0) R0 mt_Mo_take _ 0 [(0, .ref 130), (1, .int (Int32.ofNat dv))] [] W J g L 0 0
  have hSR := SR0 n0
  refine b_aln (pc2 := 1) d_Mo_take_0 rfl rfl ?_
  refine b_gr (pc2 := 4) d_Mo_take_1 q_11_30 (sh_130 n0) (by decide) (by decide) (p_130_13 n0) rfl ?_
  refine b_iln (pc2 := 5) d_Mo_take_4 rfl rfl ?_
  refine b_ba (pc2 := 6) (q := dv) d_Mo_take_5 (sh_136 n0) (i_in (show dv < 2 by omega) (by decide)) (i_tn (by omega)) (rc_136) rfl ?_
  rw [hh]
  refine b_ifd (pc2 := 10) d_Mo_take_6 rfl rfl rfl rfl rfl (fun h6 => ?_) (fun h6 => ?_)
  rotate_left
  · exact absurd (by decide) h6
  refine b_aln (pc2 := 11) d_Mo_take_10 rfl rfl ?_
  refine b_gr (pc2 := 14) d_Mo_take_11 q_11_30 (sh_130 n0) (by decide) (by decide) (p_130_13 n0) rfl ?_
  refine b_iln (pc2 := 15) d_Mo_take_14 rfl rfl ?_
  refine b_ic (pc2 := 16) (x := Int32.ofNat 1) d_Mo_take_15 rfl rfl ?_
  refine b_bst (pc2 := 17) (q := dv) d_Mo_take_16 (sh_136 n0) (i_in (show dv < 2 by omega) (by decide)) (i_tn (by omega)) (rc_136) (Or.inr rfl) rfl ?_
  refine b_aln (pc2 := 18) d_Mo_take_17 rfl rfl ?_
  refine b_gr (pc2 := 21) d_Mo_take_18 q_11_36 (sh_130 n0) (by decide) (by decide) (p_130_15 n0) rfl ?_
  refine b_iln (pc2 := 22) d_Mo_take_21 rfl rfl ?_
  refine b_ic (pc2 := 23) (x := Int32.ofNat 0) d_Mo_take_22 rfl rfl ?_
  refine b_ist (pc2 := 24) (q := dv) d_Mo_take_23 (sh_138 n0) (i_in (show dv < 2 by omega) (by decide)) (i_tn (by omega)) (rc_138) rfl ?_
  refine b_aln (pc2 := 25) d_Mo_take_24 rfl rfl ?_
  refine b_gr (pc2 := 28) d_Mo_take_25 q_11_33 (sh_130 n0) (by decide) (by decide) (p_130_14 n0) rfl ?_
  refine b_iln (pc2 := 29) d_Mo_take_28 rfl rfl ?_
  refine b_ic (pc2 := 30) (x := Int32.ofNat 1) d_Mo_take_29 rfl rfl ?_
  refine b_ist (pc2 := 31) (q := dv) d_Mo_take_30 (sh_137 n0) (i_in (show dv < 2 by omega) (by decide)) (i_tn (by omega)) (rc_137) rfl ?_
  refine b_aln (pc2 := 32) d_Mo_take_31 rfl rfl ?_
  refine b_gr (pc2 := 35) d_Mo_take_32 q_11_51 (sh_130 n0) (by decide) (by decide) (p_130_20 n0) rfl ?_
  refine b_iln (pc2 := 36) d_Mo_take_35 rfl rfl ?_
  refine b_ia (pc2 := 37) (q := dv) d_Mo_take_36 (sh_143 n0) (i_in (show dv < 2 by omega) (by decide)) (i_tn (by omega)) (rc_143) rfl ?_
  rw [u2_a _ _ (by decide), u2_a _ _ (by decide), u2_a _ _ (by decide), hw]
  refine b_ifd (pc2 := 41) d_Mo_take_37 rfl rfl rfl rfl rfl (fun h37 => ?_) (fun h37 => ?_)
  rotate_left
  · exact absurd (by rw [z_eq (by omega)]; omega) h37
  refine b_bp (pc2 := 43) (x := Int32.ofNat 8) d_Mo_take_41 rfl rfl ?_
  refine b_iln (pc2 := 44) d_Mo_take_43 rfl rfl ?_
  refine b_pure (pc2 := 45) d_Mo_take_44 rfl rfl rfl ?_
  rw [i_mul]
  refine b_aln (pc2 := 46) d_Mo_take_45 rfl rfl ?_
  refine b_gr (pc2 := 49) d_Mo_take_46 q_11_48 (sh_130 n0) (by decide) (by decide) (p_130_19 n0) rfl ?_
  refine b_iln (pc2 := 50) d_Mo_take_49 rfl rfl ?_
  refine b_ia (pc2 := 51) (q := dv) d_Mo_take_50 (sh_142 n0) (i_in (show dv < 2 by omega) (by decide)) (i_tn (by omega)) (rc_142) rfl ?_
  rw [u2_a _ _ (by decide), u2_a _ _ (by decide), u2_a _ _ (by decide), hf]
  refine b_pure (pc2 := 52) d_Mo_take_51 rfl rfl rfl ?_
  rw [i_add]
  refine b_isn (pc2 := 53) (al2 := [(2, _), (0, _), (1, _)]) d_Mo_take_52 (by decide) rfl rfl ?_
  refine b_aln (pc2 := 54) d_Mo_take_53 rfl rfl ?_
  refine b_gr (pc2 := 57) d_Mo_take_54 q_11_33 (sh_130 n0) (by decide) (by decide) (p_130_14 n0) rfl ?_
  refine b_iln (pc2 := 58) d_Mo_take_57 rfl rfl ?_
  refine b_aln (pc2 := 59) d_Mo_take_58 rfl rfl ?_
  refine b_gr (pc2 := 62) d_Mo_take_59 q_11_54 (sh_130 n0) (by decide) (by decide) (p_130_21 n0) rfl ?_
  refine b_iln (pc2 := 63) d_Mo_take_62 rfl rfl ?_
  refine b_ia (pc2 := 64) (q := dv) d_Mo_take_63 (sh_144 n0) (i_in (show dv < 2 by omega) (by decide)) (i_tn (by omega)) (rc_144) rfl ?_
  rw [u2_a _ _ (by decide), u2_a _ _ (by decide), u2_a _ _ (by decide), hc]
  refine b_ifd (pc2 := 71) d_Mo_take_64 rfl rfl rfl rfl rfl (fun h64 => ?_) (fun h64 => ?_)
  · rw [z_eq (by omega)] at h64
    have hkd2 : kd = 1 := by rw [if_neg (by omega)] at hkd; exact hkd
    subst hkd2
    refine b_ic (pc2 := 72) (x := Int32.ofNat 1) d_Mo_take_71 rfl rfl ?_
    refine b_ist (pc2 := 73) (q := dv) d_Mo_take_72 (sh_137 n0) (i_in (show dv < 2 by omega) (by decide)) (i_tn (by omega)) (rc_137) rfl ?_
    refine b_nf (al := [(2, _), (0, _), (1, _)]) (ks := [2, 0, 1]) (sub_c rfl (sub_c rfl (sub_c rfl (sub_n)))) rfl (by decide) ?_
    dsimp only
    have hK : ∀ c, ¬ c = 136 → ¬ c = 137 → ¬ c = 138 → (am_u2 (am_u2 (am_u2 (am_u2 J 136 dv (Int32.ofNat 1)) 138 dv (Int32.ofNat 0)) 137 dv (Int32.ofNat 1)) 137 dv (Int32.ofNat 1)) c = J c := fun c a1 a2 a3 => by rw [u2_a _ _ a2, u2_a _ _ a2, u2_a _ _ a3, u2_a _ _ a1]
    refine (fun z => ?_ : _ → _) (lp_take (n0 := n0) (W := W) (J := (am_u2 (am_u2 (am_u2 (am_u2 J 136 dv (Int32.ofNat 1)) 138 dv (Int32.ofNat 0)) 137 dv (Int32.ofNat 1)) 137 dv (Int32.ofNat 1))) (g := g) (L := L) (e := e) (dv := dv) (fr := fr) (ct := ct) (rs := rs) (Qh := bw_Q (S0 n0) R0 (bR none W (am_u2 (am_u2 (am_u2 (am_u2 (am_u2 (am_u1 (am_u2 (am_u2 (am_u2 (am_u2 J 136 dv (Int32.ofNat 1)) 138 dv (Int32.ofNat 0)) 137 dv (Int32.ofNat 1)) 137 dv (Int32.ofNat 1)) 139 (ovw (8 * dv) (lst (J 140) (24 * (8 * dv + fr) + ct) (min 7 (rs - ct))) (J 139))) 138 dv (Int32.ofNat (min 7 (rs - ct)))) 144 dv (Int32.ofNat (ct + (min 7 (rs - ct))))) 144 dv (Int32.ofNat 0)) 142 dv (Int32.ofNat ((fr + 1) % 8))) 143 dv (Int32.ofNat (w - 1))) g L)) hdv hf8 (by rw [hK 141 (by decide) (by decide) (by decide)]; exact hr) hrs hct ?_ (min 7 (rs - ct)) 0 (by omega))
    · rw [show lst ((am_u2 (am_u2 (am_u2 (am_u2 J 136 dv (Int32.ofNat 1)) 138 dv (Int32.ofNat 0)) 137 dv (Int32.ofNat 1)) 137 dv (Int32.ofNat 1)) 140) (24 * (8 * dv + fr) + ct) 0 = [] from rfl, ovw_nil, u1_id, show am_u2 (am_u2 (am_u2 (am_u2 (am_u2 J 136 dv (Int32.ofNat 1)) 138 dv (Int32.ofNat 0)) 137 dv (Int32.ofNat 1)) 137 dv (Int32.ofNat 1)) 138 dv (Int32.ofNat 0) = (am_u2 (am_u2 (am_u2 (am_u2 J 136 dv (Int32.ofNat 1)) 138 dv (Int32.ofNat 0)) 137 dv (Int32.ofNat 1)) 137 dv (Int32.ofNat 1)) from ?_, show ct + 0 = ct from rfl, ← hc, ← hK 144 (by decide) (by decide) (by decide), u2_id] at z
      · exact z
      · exact u2_idq (show (am_u2 (am_u2 (am_u2 (am_u2 J 136 dv (Int32.ofNat 1)) 138 dv (Int32.ofNat 0)) 137 dv (Int32.ofNat 1)) 137 dv (Int32.ofNat 1)) 138 dv = Int32.ofNat 0 by rw [u2_a _ _ (by decide), u2_a _ _ (by decide), u2_at])
    · rw [hK 140 (by decide) (by decide) (by decide), hK 139 (by decide) (by decide) (by decide)]
      refine b_aln (pc2 := 155) d_Mo_take_154 rfl rfl ?_
      refine b_gr (pc2 := 158) d_Mo_take_155 q_11_54 (sh_130 n0) (by decide) (by decide) (p_130_21 n0) rfl ?_
      refine b_iln (pc2 := 159) d_Mo_take_158 rfl rfl ?_
      refine b_ia (pc2 := 160) (q := dv) d_Mo_take_159 (sh_144 n0) (i_in (show dv < 2 by omega) (by decide)) (i_tn (by omega)) (rc_144) rfl ?_
      rw [u2_at]
      refine b_aln (pc2 := 161) d_Mo_take_160 rfl rfl ?_
      refine b_gr (pc2 := 164) d_Mo_take_161 q_11_45 (sh_130 n0) (by decide) (by decide) (p_130_18 n0) rfl ?_
      refine b_iln (pc2 := 165) d_Mo_take_164 rfl rfl ?_
      refine b_ia (pc2 := 166) (q := (8 * dv + fr)) d_Mo_take_165 (sh_141 n0) (i_in (show 8 * dv + fr < 16 by omega) (by decide)) (i_tn (by omega)) (rc_141) rfl ?_
      rw [u2_a _ _ (by decide), u2_a _ _ (by decide), u1_ne _ _ (by decide), u2_a _ _ (by decide), u2_a _ _ (by decide), u2_a _ _ (by decide), u2_a _ _ (by decide), hr]
      refine b_ifd (pc2 := 203) d_Mo_take_166 rfl rfl rfl rfl rfl (fun h166 => ?_) (fun h166 => ?_)
      · exact absurd h166 (fun z => by rw [i_eq (by omega) (by omega)] at z; omega)
      refine b_aln (pc2 := 170) d_Mo_take_169 rfl rfl ?_
      refine b_gr (pc2 := 173) d_Mo_take_170 q_11_54 (sh_130 n0) (by decide) (by decide) (p_130_21 n0) rfl ?_
      refine b_iln (pc2 := 174) d_Mo_take_173 rfl rfl ?_
      refine b_ic (pc2 := 175) (x := Int32.ofNat 0) d_Mo_take_174 rfl rfl ?_
      refine b_ist (pc2 := 176) (q := dv) d_Mo_take_175 (sh_144 n0) (i_in (show dv < 2 by omega) (by decide)) (i_tn (by omega)) (rc_144) rfl ?_
      refine b_aln (pc2 := 177) d_Mo_take_176 rfl rfl ?_
      refine b_gr (pc2 := 180) d_Mo_take_177 q_11_48 (sh_130 n0) (by decide) (by decide) (p_130_19 n0) rfl ?_
      refine b_iln (pc2 := 181) d_Mo_take_180 rfl rfl ?_
      refine b_aln (pc2 := 182) d_Mo_take_181 rfl rfl ?_
      refine b_gr (pc2 := 185) d_Mo_take_182 q_11_48 (sh_130 n0) (by decide) (by decide) (p_130_19 n0) rfl ?_
      refine b_iln (pc2 := 186) d_Mo_take_185 rfl rfl ?_
      refine b_ia (pc2 := 187) (q := dv) d_Mo_take_186 (sh_142 n0) (i_in (show dv < 2 by omega) (by decide)) (i_tn (by omega)) (rc_142) rfl ?_
      rw [u2_a _ _ (by decide), u2_a _ _ (by decide), u2_a _ _ (by decide), u1_ne _ _ (by decide), u2_a _ _ (by decide), u2_a _ _ (by decide), u2_a _ _ (by decide), u2_a _ _ (by decide), hf]
      refine b_ic (pc2 := 188) (x := Int32.ofNat 1) d_Mo_take_187 rfl rfl ?_
      refine b_pure (pc2 := 189) d_Mo_take_188 rfl rfl rfl ?_
      rw [i_add]
      refine b_bp (pc2 := 191) (x := Int32.ofNat 8) d_Mo_take_189 rfl rfl ?_
      refine b_rem (pc2 := 192) d_Mo_take_191 (by decide) rfl ?_
      rw [i_rem (by omega) (by omega) (by omega)]
      refine b_ist (pc2 := 193) (q := dv) d_Mo_take_192 (sh_142 n0) (i_in (show dv < 2 by omega) (by decide)) (i_tn (by omega)) (rc_142) rfl ?_
      refine b_aln (pc2 := 194) d_Mo_take_193 rfl rfl ?_
      refine b_gr (pc2 := 197) d_Mo_take_194 q_11_51 (sh_130 n0) (by decide) (by decide) (p_130_20 n0) rfl ?_
      refine b_iln (pc2 := 198) d_Mo_take_197 rfl rfl ?_
      refine b_pure (pc2 := 199) d_Mo_take_198 rfl rfl rfl ?_
      refine b_ia (pc2 := 200) (q := dv) d_Mo_take_199 (sh_143 n0) (i_in (show dv < 2 by omega) (by decide)) (i_tn (by omega)) (rc_143) rfl ?_
      rw [u2_a _ _ (by decide), u2_a _ _ (by decide), u2_a _ _ (by decide), u2_a _ _ (by decide), u1_ne _ _ (by decide), u2_a _ _ (by decide), u2_a _ _ (by decide), u2_a _ _ (by decide), u2_a _ _ (by decide), hw]
      refine b_ic (pc2 := 201) (x := Int32.ofNat 1) d_Mo_take_200 rfl rfl ?_
      refine b_pure (pc2 := 202) d_Mo_take_201 rfl rfl rfl ?_
      rw [i_sub (by omega)]
      refine b_ist (pc2 := 203) (q := dv) d_Mo_take_202 (sh_143 n0) (i_in (show dv < 2 by omega) (by decide)) (i_tn (by omega)) (rc_143) rfl ?_
      refine b_vr d_Mo_take_203 rfl ?_
      exact ⟨rfl, rfl, rfl, rfl, rfl⟩
  · rw [z_eq (by omega)] at h64
    have hkd2 : kd = 2 := by rw [if_pos (by omega)] at hkd; exact hkd
    subst hkd2
    refine b_ic (pc2 := 68) (x := Int32.ofNat 2) d_Mo_take_67 rfl rfl ?_
    refine b_go (pc2 := 72) d_Mo_take_68 rfl ?_
    refine b_ist (pc2 := 73) (q := dv) d_Mo_take_72 (sh_137 n0) (i_in (show dv < 2 by omega) (by decide)) (i_tn (by omega)) (rc_137) rfl ?_
    refine b_nf (al := [(2, _), (0, _), (1, _)]) (ks := [2, 0, 1]) (sub_c rfl (sub_c rfl (sub_c rfl (sub_n)))) rfl (by decide) ?_
    dsimp only
    have hK : ∀ c, ¬ c = 136 → ¬ c = 137 → ¬ c = 138 → (am_u2 (am_u2 (am_u2 (am_u2 J 136 dv (Int32.ofNat 1)) 138 dv (Int32.ofNat 0)) 137 dv (Int32.ofNat 1)) 137 dv (Int32.ofNat 2)) c = J c := fun c a1 a2 a3 => by rw [u2_a _ _ a2, u2_a _ _ a2, u2_a _ _ a3, u2_a _ _ a1]
    refine (fun z => ?_ : _ → _) (lp_take (n0 := n0) (W := W) (J := (am_u2 (am_u2 (am_u2 (am_u2 J 136 dv (Int32.ofNat 1)) 138 dv (Int32.ofNat 0)) 137 dv (Int32.ofNat 1)) 137 dv (Int32.ofNat 2))) (g := g) (L := L) (e := e) (dv := dv) (fr := fr) (ct := ct) (rs := rs) (Qh := bw_Q (S0 n0) R0 (bR none W (am_u2 (am_u2 (am_u2 (am_u2 (am_u2 (am_u1 (am_u2 (am_u2 (am_u2 (am_u2 J 136 dv (Int32.ofNat 1)) 138 dv (Int32.ofNat 0)) 137 dv (Int32.ofNat 1)) 137 dv (Int32.ofNat 2)) 139 (ovw (8 * dv) (lst (J 140) (24 * (8 * dv + fr) + ct) (min 7 (rs - ct))) (J 139))) 138 dv (Int32.ofNat (min 7 (rs - ct)))) 144 dv (Int32.ofNat (ct + (min 7 (rs - ct))))) 144 dv (Int32.ofNat 0)) 142 dv (Int32.ofNat ((fr + 1) % 8))) 143 dv (Int32.ofNat (w - 1))) g L)) hdv hf8 (by rw [hK 141 (by decide) (by decide) (by decide)]; exact hr) hrs hct ?_ (min 7 (rs - ct)) 0 (by omega))
    · rw [show lst ((am_u2 (am_u2 (am_u2 (am_u2 J 136 dv (Int32.ofNat 1)) 138 dv (Int32.ofNat 0)) 137 dv (Int32.ofNat 1)) 137 dv (Int32.ofNat 2)) 140) (24 * (8 * dv + fr) + ct) 0 = [] from rfl, ovw_nil, u1_id, show am_u2 (am_u2 (am_u2 (am_u2 (am_u2 J 136 dv (Int32.ofNat 1)) 138 dv (Int32.ofNat 0)) 137 dv (Int32.ofNat 1)) 137 dv (Int32.ofNat 2)) 138 dv (Int32.ofNat 0) = (am_u2 (am_u2 (am_u2 (am_u2 J 136 dv (Int32.ofNat 1)) 138 dv (Int32.ofNat 0)) 137 dv (Int32.ofNat 1)) 137 dv (Int32.ofNat 2)) from ?_, show ct + 0 = ct from rfl, ← hc, ← hK 144 (by decide) (by decide) (by decide), u2_id] at z
      · exact z
      · exact u2_idq (show (am_u2 (am_u2 (am_u2 (am_u2 J 136 dv (Int32.ofNat 1)) 138 dv (Int32.ofNat 0)) 137 dv (Int32.ofNat 1)) 137 dv (Int32.ofNat 2)) 138 dv = Int32.ofNat 0 by rw [u2_a _ _ (by decide), u2_a _ _ (by decide), u2_at])
    · rw [hK 140 (by decide) (by decide) (by decide), hK 139 (by decide) (by decide) (by decide)]
      refine b_aln (pc2 := 155) d_Mo_take_154 rfl rfl ?_
      refine b_gr (pc2 := 158) d_Mo_take_155 q_11_54 (sh_130 n0) (by decide) (by decide) (p_130_21 n0) rfl ?_
      refine b_iln (pc2 := 159) d_Mo_take_158 rfl rfl ?_
      refine b_ia (pc2 := 160) (q := dv) d_Mo_take_159 (sh_144 n0) (i_in (show dv < 2 by omega) (by decide)) (i_tn (by omega)) (rc_144) rfl ?_
      rw [u2_at]
      refine b_aln (pc2 := 161) d_Mo_take_160 rfl rfl ?_
      refine b_gr (pc2 := 164) d_Mo_take_161 q_11_45 (sh_130 n0) (by decide) (by decide) (p_130_18 n0) rfl ?_
      refine b_iln (pc2 := 165) d_Mo_take_164 rfl rfl ?_
      refine b_ia (pc2 := 166) (q := (8 * dv + fr)) d_Mo_take_165 (sh_141 n0) (i_in (show 8 * dv + fr < 16 by omega) (by decide)) (i_tn (by omega)) (rc_141) rfl ?_
      rw [u2_a _ _ (by decide), u2_a _ _ (by decide), u1_ne _ _ (by decide), u2_a _ _ (by decide), u2_a _ _ (by decide), u2_a _ _ (by decide), u2_a _ _ (by decide), hr]
      refine b_ifd (pc2 := 203) d_Mo_take_166 rfl rfl rfl rfl rfl (fun h166 => ?_) (fun h166 => ?_)
      · exact absurd h166 (fun z => by rw [i_eq (by omega) (by omega)] at z; omega)
      refine b_aln (pc2 := 170) d_Mo_take_169 rfl rfl ?_
      refine b_gr (pc2 := 173) d_Mo_take_170 q_11_54 (sh_130 n0) (by decide) (by decide) (p_130_21 n0) rfl ?_
      refine b_iln (pc2 := 174) d_Mo_take_173 rfl rfl ?_
      refine b_ic (pc2 := 175) (x := Int32.ofNat 0) d_Mo_take_174 rfl rfl ?_
      refine b_ist (pc2 := 176) (q := dv) d_Mo_take_175 (sh_144 n0) (i_in (show dv < 2 by omega) (by decide)) (i_tn (by omega)) (rc_144) rfl ?_
      refine b_aln (pc2 := 177) d_Mo_take_176 rfl rfl ?_
      refine b_gr (pc2 := 180) d_Mo_take_177 q_11_48 (sh_130 n0) (by decide) (by decide) (p_130_19 n0) rfl ?_
      refine b_iln (pc2 := 181) d_Mo_take_180 rfl rfl ?_
      refine b_aln (pc2 := 182) d_Mo_take_181 rfl rfl ?_
      refine b_gr (pc2 := 185) d_Mo_take_182 q_11_48 (sh_130 n0) (by decide) (by decide) (p_130_19 n0) rfl ?_
      refine b_iln (pc2 := 186) d_Mo_take_185 rfl rfl ?_
      refine b_ia (pc2 := 187) (q := dv) d_Mo_take_186 (sh_142 n0) (i_in (show dv < 2 by omega) (by decide)) (i_tn (by omega)) (rc_142) rfl ?_
      rw [u2_a _ _ (by decide), u2_a _ _ (by decide), u2_a _ _ (by decide), u1_ne _ _ (by decide), u2_a _ _ (by decide), u2_a _ _ (by decide), u2_a _ _ (by decide), u2_a _ _ (by decide), hf]
      refine b_ic (pc2 := 188) (x := Int32.ofNat 1) d_Mo_take_187 rfl rfl ?_
      refine b_pure (pc2 := 189) d_Mo_take_188 rfl rfl rfl ?_
      rw [i_add]
      refine b_bp (pc2 := 191) (x := Int32.ofNat 8) d_Mo_take_189 rfl rfl ?_
      refine b_rem (pc2 := 192) d_Mo_take_191 (by decide) rfl ?_
      rw [i_rem (by omega) (by omega) (by omega)]
      refine b_ist (pc2 := 193) (q := dv) d_Mo_take_192 (sh_142 n0) (i_in (show dv < 2 by omega) (by decide)) (i_tn (by omega)) (rc_142) rfl ?_
      refine b_aln (pc2 := 194) d_Mo_take_193 rfl rfl ?_
      refine b_gr (pc2 := 197) d_Mo_take_194 q_11_51 (sh_130 n0) (by decide) (by decide) (p_130_20 n0) rfl ?_
      refine b_iln (pc2 := 198) d_Mo_take_197 rfl rfl ?_
      refine b_pure (pc2 := 199) d_Mo_take_198 rfl rfl rfl ?_
      refine b_ia (pc2 := 200) (q := dv) d_Mo_take_199 (sh_143 n0) (i_in (show dv < 2 by omega) (by decide)) (i_tn (by omega)) (rc_143) rfl ?_
      rw [u2_a _ _ (by decide), u2_a _ _ (by decide), u2_a _ _ (by decide), u2_a _ _ (by decide), u1_ne _ _ (by decide), u2_a _ _ (by decide), u2_a _ _ (by decide), u2_a _ _ (by decide), u2_a _ _ (by decide), hw]
      refine b_ic (pc2 := 201) (x := Int32.ofNat 1) d_Mo_take_200 rfl rfl ?_
      refine b_pure (pc2 := 202) d_Mo_take_201 rfl rfl rfl ?_
      rw [i_sub (by omega)]
      refine b_ist (pc2 := 203) (q := dv) d_Mo_take_202 (sh_143 n0) (i_in (show dv < 2 by omega) (by decide)) (i_tn (by omega)) (rc_143) rfl ?_
      refine b_vr d_Mo_take_203 rfl ?_
      exact ⟨rfl, rfl, rfl, rfl, rfl⟩
end MT
