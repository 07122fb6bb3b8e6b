/-! Part 93 (written by gen49.py): the reference: attribute, put, tell, begin, write, raw -/
theorem by8_get (v : Int64) : ∀ (n k : Nat), k < n → (by8 v n).getD k 0 = by0 v (n - 1 - k)
  | n + 1, 0, _ => by rw [show n + 1 - 1 - 0 = n by omega]; rfl
  | n + 1, k + 1, h => by
    have := by8_get v n k (by omega)
    rw [show n + 1 - 1 - (k + 1) = n - 1 - k by omega]
    exact this
theorem mkJ_nil (J : bw_J) : am_u2 J 130 29 (Int32.ofNat 0) = mkJ J [] := by
  unfold mkJ
  rw [ovw_nil, u1_id]; rfl
section MQ
variable {n0 : Nat} {W : bw_W} {J : bw_J} {g : Nat} {L : bw_L}
variable {J1 : bw_J} {Qh : am_O → am_H → Prop} {v : Int64}
theorem mo_attr0 {d : Nat} (hd : 2 ≤ d) {ty pm n : Int32} (hb : ¬ ((¬ ty < 0 ∧ ¬ Int32.ofNat 255 < ty) ∧ ¬ pm < 0 ∧ ¬ Int32.ofNat 3 < pm ∧ (¬ n < 0 ∧ ¬ Int32.ofNat 8 < n))) : bm d (S0 n0) R0 129 [.ref 130, .int ty, .int pm, .long v, .int n] W J g L (bR (some (.int (Int32.ofNat 0))) W (am_u2 J 130 0 (Int32.ofNat 1)) g L) := by
  obtain ⟨e, rfl⟩ : ∃ e, d = e + 1 := ⟨d - 1, by omega⟩
  refine bm_of (Nat.le_of_ble_eq_true rfl) (Or.inr bR_ret) ?_
  show bT e (S0 n0) R0 mt_Mo_attribute _ 0 [(0, .ref 130), (1, .int ty), (2, .int pm), (3, .long v), (5, .int n)] [] W J g L 0 0
  have hSR := SR0 n0
  refine b_aln (pc2 := 1) d_Mo_attribute_0 rfl rfl ?_
  refine b_iln (pc2 := 2) d_Mo_attribute_1 rfl rfl ?_
  refine b_ifd (pc2 := 33) d_Mo_attribute_2 rfl rfl rfl rfl rfl (fun h2 => ?_) (fun h2 => ?_)
  · refine b_ic (pc2 := 34) (x := Int32.ofNat 1) d_Mo_attribute_33 rfl rfl ?_
    refine b_go (pc2 := 51) d_Mo_attribute_34 rfl ?_
    refine b_pi (pc2 := 54) d_Mo_attribute_51 q_11_135 (sh_130 n0) (by decide) (Or.inl (by decide)) (Or.inl rfl) (rc_130) rfl ?_
    refine b_aln (pc2 := 55) d_Mo_attribute_54 rfl rfl ?_
    refine b_gi (pc2 := 58) d_Mo_attribute_55 q_11_135 (sh_130 n0) (by decide) (by decide) (rc_130) rfl ?_
    rw [u2_at]
    refine b_ifd (pc2 := 63) d_Mo_attribute_58 rfl rfl rfl rfl rfl (fun h58 => ?_) (fun h58 => ?_)
    · exact absurd h58 (by decide)
    refine b_ic (pc2 := 62) (x := Int32.ofNat 0) d_Mo_attribute_61 rfl rfl ?_
    refine b_ir d_Mo_attribute_62 rfl ?_
    exact ⟨rfl, rfl, rfl, rfl, rfl⟩
  · refine b_iln (pc2 := 6) d_Mo_attribute_5 rfl rfl ?_
    refine b_sp (pc2 := 9) (x := Int32.ofNat 255) d_Mo_attribute_6 rfl rfl ?_
    refine b_ifd (pc2 := 33) d_Mo_attribute_9 rfl rfl rfl rfl rfl (fun h9 => ?_) (fun h9 => ?_)
    · refine b_ic (pc2 := 34) (x := Int32.ofNat 1) d_Mo_attribute_33 rfl rfl ?_
      refine b_go (pc2 := 51) d_Mo_attribute_34 rfl ?_
      refine b_pi (pc2 := 54) d_Mo_attribute_51 q_11_135 (sh_130 n0) (by decide) (Or.inl (by decide)) (Or.inl rfl) (rc_130) rfl ?_
      refine b_aln (pc2 := 55) d_Mo_attribute_54 rfl rfl ?_
      refine b_gi (pc2 := 58) d_Mo_attribute_55 q_11_135 (sh_130 n0) (by decide) (by decide) (rc_130) rfl ?_
      rw [u2_at]
      refine b_ifd (pc2 := 63) d_Mo_attribute_58 rfl rfl rfl rfl rfl (fun h58 => ?_) (fun h58 => ?_)
      · exact absurd h58 (by decide)
      refine b_ic (pc2 := 62) (x := Int32.ofNat 0) d_Mo_attribute_61 rfl rfl ?_
      refine b_ir d_Mo_attribute_62 rfl ?_
      exact ⟨rfl, rfl, rfl, rfl, rfl⟩
    · refine b_iln (pc2 := 13) d_Mo_attribute_12 rfl rfl ?_
      refine b_ifd (pc2 := 33) d_Mo_attribute_13 rfl rfl rfl rfl rfl (fun h13 => ?_) (fun h13 => ?_)
      · refine b_ic (pc2 := 34) (x := Int32.ofNat 1) d_Mo_attribute_33 rfl rfl ?_
        refine b_go (pc2 := 51) d_Mo_attribute_34 rfl ?_
        refine b_pi (pc2 := 54) d_Mo_attribute_51 q_11_135 (sh_130 n0) (by decide) (Or.inl (by decide)) (Or.inl rfl) (rc_130) rfl ?_
        refine b_aln (pc2 := 55) d_Mo_attribute_54 rfl rfl ?_
        refine b_gi (pc2 := 58) d_Mo_attribute_55 q_11_135 (sh_130 n0) (by decide) (by decide) (rc_130) rfl ?_
        rw [u2_at]
        refine b_ifd (pc2 := 63) d_Mo_attribute_58 rfl rfl rfl rfl rfl (fun h58 => ?_) (fun h58 => ?_)
        · exact absurd h58 (by decide)
        refine b_ic (pc2 := 62) (x := Int32.ofNat 0) d_Mo_attribute_61 rfl rfl ?_
        refine b_ir d_Mo_attribute_62 rfl ?_
        exact ⟨rfl, rfl, rfl, rfl, rfl⟩
      · refine b_iln (pc2 := 17) d_Mo_attribute_16 rfl rfl ?_
        refine b_ic (pc2 := 18) (x := Int32.ofNat 3) d_Mo_attribute_17 rfl rfl ?_
        refine b_ifd (pc2 := 33) d_Mo_attribute_18 rfl rfl rfl rfl rfl (fun h18 => ?_) (fun h18 => ?_)
        · refine b_ic (pc2 := 34) (x := Int32.ofNat 1) d_Mo_attribute_33 rfl rfl ?_
          refine b_go (pc2 := 51) d_Mo_attribute_34 rfl ?_
          refine b_pi (pc2 := 54) d_Mo_attribute_51 q_11_135 (sh_130 n0) (by decide) (Or.inl (by decide)) (Or.inl rfl) (rc_130) rfl ?_
          refine b_aln (pc2 := 55) d_Mo_attribute_54 rfl rfl ?_
          refine b_gi (pc2 := 58) d_Mo_attribute_55 q_11_135 (sh_130 n0) (by decide) (by decide) (rc_130) rfl ?_
          rw [u2_at]
          refine b_ifd (pc2 := 63) d_Mo_attribute_58 rfl rfl rfl rfl rfl (fun h58 => ?_) (fun h58 => ?_)
          · exact absurd h58 (by decide)
          refine b_ic (pc2 := 62) (x := Int32.ofNat 0) d_Mo_attribute_61 rfl rfl ?_
          refine b_ir d_Mo_attribute_62 rfl ?_
          exact ⟨rfl, rfl, rfl, rfl, rfl⟩
        · refine b_il (pc2 := 23) d_Mo_attribute_21 rfl rfl ?_
          refine b_ifd (pc2 := 33) d_Mo_attribute_23 rfl rfl rfl rfl rfl (fun h23 => ?_) (fun h23 => ?_)
          · refine b_ic (pc2 := 34) (x := Int32.ofNat 1) d_Mo_attribute_33 rfl rfl ?_
            refine b_go (pc2 := 51) d_Mo_attribute_34 rfl ?_
            refine b_pi (pc2 := 54) d_Mo_attribute_51 q_11_135 (sh_130 n0) (by decide) (Or.inl (by decide)) (Or.inl rfl) (rc_130) rfl ?_
            refine b_aln (pc2 := 55) d_Mo_attribute_54 rfl rfl ?_
            refine b_gi (pc2 := 58) d_Mo_attribute_55 q_11_135 (sh_130 n0) (by decide) (by decide) (rc_130) rfl ?_
            rw [u2_at]
            refine b_ifd (pc2 := 63) d_Mo_attribute_58 rfl rfl rfl rfl rfl (fun h58 => ?_) (fun h58 => ?_)
            · exact absurd h58 (by decide)
            refine b_ic (pc2 := 62) (x := Int32.ofNat 0) d_Mo_attribute_61 rfl rfl ?_
            refine b_ir d_Mo_attribute_62 rfl ?_
            exact ⟨rfl, rfl, rfl, rfl, rfl⟩
          · refine b_il (pc2 := 28) d_Mo_attribute_26 rfl rfl ?_
            refine b_bp (pc2 := 30) (x := Int32.ofNat 8) d_Mo_attribute_28 rfl rfl ?_
            refine b_ifd (pc2 := 37) d_Mo_attribute_30 rfl rfl rfl rfl rfl (fun h30 => ?_) (fun h30 => ?_)
            · exact absurd ⟨⟨h2, h9⟩, h13, h18, h23, Int32.not_lt.mpr h30⟩ hb
            · refine b_ic (pc2 := 34) (x := Int32.ofNat 1) d_Mo_attribute_33 rfl rfl ?_
              refine b_go (pc2 := 51) d_Mo_attribute_34 rfl ?_
              refine b_pi (pc2 := 54) d_Mo_attribute_51 q_11_135 (sh_130 n0) (by decide) (Or.inl (by decide)) (Or.inl rfl) (rc_130) rfl ?_
              refine b_aln (pc2 := 55) d_Mo_attribute_54 rfl rfl ?_
              refine b_gi (pc2 := 58) d_Mo_attribute_55 q_11_135 (sh_130 n0) (by decide) (by decide) (rc_130) rfl ?_
              rw [u2_at]
              refine b_ifd (pc2 := 63) d_Mo_attribute_58 rfl rfl rfl rfl rfl (fun h58 => ?_) (fun h58 => ?_)
              · exact absurd h58 (by decide)
              refine b_ic (pc2 := 62) (x := Int32.ofNat 0) d_Mo_attribute_61 rfl rfl ?_
              refine b_ir d_Mo_attribute_62 rfl ?_
              exact ⟨rfl, rfl, rfl, rfl, rfl⟩
theorem mo_attr1 {d : Nat} (hd : 2 ≤ d) {ty pm n : Int32} (hok : ((¬ ty < 0 ∧ ¬ Int32.ofNat 255 < ty) ∧ ¬ pm < 0 ∧ ¬ Int32.ofNat 3 < pm ∧ (¬ n < 0 ∧ ¬ Int32.ofNat 8 < n))) (hc : J 130 31 = Int32.ofNat 10) : bm d (S0 n0) R0 129 [.ref 130, .int ty, .int pm, .long v, .int n] W J g L (bR (some (.int (Int32.ofNat 0))) W (am_u2 J 130 0 (Int32.ofNat 2)) g L) := by
  obtain ⟨e, rfl⟩ : ∃ e, d = e + 1 := ⟨d - 1, by omega⟩
  refine bm_of (Nat.le_of_ble_eq_true rfl) (Or.inr bR_ret) ?_
  show bT e (S0 n0) R0 mt_Mo_attribute _ 0 [(0, .ref 130), (1, .int ty), (2, .int pm), (3, .long v), (5, .int n)] [] W J g L 0 0
  have hSR := SR0 n0
  refine b_aln (pc2 := 1) d_Mo_attribute_0 rfl rfl ?_
  refine b_iln (pc2 := 2) d_Mo_attribute_1 rfl rfl ?_
  refine b_ifd (pc2 := 33) d_Mo_attribute_2 rfl rfl rfl rfl rfl (fun h2 => ?_) (fun h2 => ?_)
  · exact absurd h2 (hok.1.1)
  refine b_iln (pc2 := 6) d_Mo_attribute_5 rfl rfl ?_
  refine b_sp (pc2 := 9) (x := Int32.ofNat 255) d_Mo_attribute_6 rfl rfl ?_
  refine b_ifd (pc2 := 33) d_Mo_attribute_9 rfl rfl rfl rfl rfl (fun h9 => ?_) (fun h9 => ?_)
  · exact absurd h9 (hok.1.2)
  refine b_iln (pc2 := 13) d_Mo_attribute_12 rfl rfl ?_
  refine b_ifd (pc2 := 33) d_Mo_attribute_13 rfl rfl rfl rfl rfl (fun h13 => ?_) (fun h13 => ?_)
  · exact absurd h13 (hok.2.1)
  refine b_iln (pc2 := 17) d_Mo_attribute_16 rfl rfl ?_
  refine b_ic (pc2 := 18) (x := Int32.ofNat 3) d_Mo_attribute_17 rfl rfl ?_
  refine b_ifd (pc2 := 33) d_Mo_attribute_18 rfl rfl rfl rfl rfl (fun h18 => ?_) (fun h18 => ?_)
  · exact absurd h18 (hok.2.2.1)
  refine b_il (pc2 := 23) d_Mo_attribute_21 rfl rfl ?_
  refine b_ifd (pc2 := 33) d_Mo_attribute_23 rfl rfl rfl rfl rfl (fun h23 => ?_) (fun h23 => ?_)
  · exact absurd h23 (hok.2.2.2.1)
  refine b_il (pc2 := 28) d_Mo_attribute_26 rfl rfl ?_
  refine b_bp (pc2 := 30) (x := Int32.ofNat 8) d_Mo_attribute_28 rfl rfl ?_
  refine b_ifd (pc2 := 37) d_Mo_attribute_30 rfl rfl rfl rfl rfl (fun h30 => ?_) (fun h30 => ?_)
  rotate_left
  · exact absurd (Int32.not_lt.mp hok.2.2.2.2) h30
  refine b_aln (pc2 := 38) d_Mo_attribute_37 rfl rfl ?_
  refine b_gi (pc2 := 41) d_Mo_attribute_38 q_11_212 (sh_130 n0) (by decide) (by decide) (rc_130) rfl ?_
  rw [hc]
  refine b_bp (pc2 := 43) (x := Int32.ofNat 10) d_Mo_attribute_41 rfl rfl ?_
  refine b_ifd (pc2 := 50) d_Mo_attribute_43 rfl rfl rfl rfl rfl (fun h43 => ?_) (fun h43 => ?_)
  · exact absurd h43 (by decide)
  refine b_ic (pc2 := 47) (x := Int32.ofNat 2) d_Mo_attribute_46 rfl rfl ?_
  refine b_go (pc2 := 51) d_Mo_attribute_47 rfl ?_
  refine b_pi (pc2 := 54) d_Mo_attribute_51 q_11_135 (sh_130 n0) (by decide) (Or.inl (by decide)) (Or.inl rfl) (rc_130) rfl ?_
  refine b_aln (pc2 := 55) d_Mo_attribute_54 rfl rfl ?_
  refine b_gi (pc2 := 58) d_Mo_attribute_55 q_11_135 (sh_130 n0) (by decide) (by decide) (rc_130) rfl ?_
  rw [u2_at]
  refine b_ifd (pc2 := 63) d_Mo_attribute_58 rfl rfl rfl rfl rfl (fun h58 => ?_) (fun h58 => ?_)
  · exact absurd h58 (by decide)
  refine b_ic (pc2 := 62) (x := Int32.ofNat 0) d_Mo_attribute_61 rfl rfl ?_
  refine b_ir d_Mo_attribute_62 rfl ?_
  exact ⟨rfl, rfl, rfl, rfl, rfl⟩
theorem lp_at {e : Nat} (he : 1 ≤ e) {n i : Nat} (hn : n ≤ 8) (hi : i < 10) (hc : J 130 31 = Int32.ofNat i) (K : bH e (S0 n0) R0 mt_Mo_attribute Qh 136 [(0, .ref 130)] [] W (am_u1 J 155 (ovw (16 * i) (by8 v n) (J 155))) g L 0 0) : ∀ (r k : Nat), k + r = n → bH e (S0 n0) R0 mt_Mo_attribute Qh 97 [(6, .int (Int32.ofNat k)), (0, .ref 130), (3, .long v), (5, .int (Int32.ofNat n))] [] W (am_u1 J 155 (ovw (16 * i) ((by8 v n).take k) (J 155))) g L 0 0 := by
  intro r
  induction r with
  | zero =>
    intro k hk
    refine b_il (pc2 := 99) d_Mo_attribute_97 rfl rfl ?_
    refine b_il (pc2 := 101) d_Mo_attribute_99 rfl rfl ?_
    refine b_ifd (pc2 := 136) d_Mo_attribute_101 rfl rfl rfl rfl rfl (fun h101 => ?_) (fun h101 => ?_)
    rotate_left
    · exact absurd (by rw [i_le (by omega) (by omega)]; omega) h101
    refine b_nf (al := [(0, _)]) (ks := [0]) (sub_c rfl (sub_n)) rfl (by decide) ?_
    dsimp only
    rw [List.take_of_length_le (by rw [by8_len]; omega)]
    exact K
  | succ r ih =>
    intro k hk
    refine b_il (pc2 := 99) d_Mo_attribute_97 rfl rfl ?_
    refine b_il (pc2 := 101) d_Mo_attribute_99 rfl rfl ?_
    refine b_ifd (pc2 := 136) d_Mo_attribute_101 rfl rfl rfl rfl rfl (fun h101 => ?_) (fun h101 => ?_)
    · exact absurd h101 (fun z => by rw [i_le (by omega) (by omega)] at z; omega)
    refine b_aln (pc2 := 105) d_Mo_attribute_104 rfl rfl ?_
    refine b_gr (pc2 := 108) d_Mo_attribute_105 q_11_87 (sh_130 n0) (by decide) (by decide) (p_130_35 n0) rfl ?_
    refine b_bp (pc2 := 110) (x := Int32.ofNat 16) d_Mo_attribute_108 rfl rfl ?_
    refine b_aln (pc2 := 111) d_Mo_attribute_110 rfl rfl ?_
    refine b_gi (pc2 := 114) d_Mo_attribute_111 q_11_212 (sh_130 n0) (by decide) (by decide) (rc_130) rfl ?_
    rw [u1_ne _ _ (by decide), hc]
    refine b_pure (pc2 := 115) d_Mo_attribute_114 rfl rfl rfl ?_
    rw [i_mul]
    refine b_il (pc2 := 117) d_Mo_attribute_115 rfl rfl ?_
    refine b_pure (pc2 := 118) d_Mo_attribute_117 rfl rfl rfl ?_
    rw [i_add]
    refine b_lln (pc2 := 119) d_Mo_attribute_118 rfl rfl ?_
    refine b_il (pc2 := 121) d_Mo_attribute_119 rfl rfl ?_
    refine b_ic (pc2 := 122) (x := Int32.ofNat 1) d_Mo_attribute_121 rfl rfl ?_
    refine b_pure (pc2 := 123) d_Mo_attribute_122 rfl rfl rfl ?_
    rw [i_sub (by omega)]
    refine b_il (pc2 := 125) d_Mo_attribute_123 rfl rfl ?_
    refine b_pure (pc2 := 126) d_Mo_attribute_125 rfl rfl rfl ?_
    rw [i_sub (by omega)]
    refine b_cs1 (pc2 := 129) (c2 := 0) (u2 := 0) (mo_byteOf (by omega)) d_Mo_attribute_126 q_11_286 (Or.inl rfl) (Nat.le_of_ble_eq_true rfl) rfl rfl (Nat.le_of_ble_eq_true rfl) rfl rfl (by decide) (by decide) rfl ?_
    rw [by_eq v (show n - 1 - k < 8 by omega), ← by8_get v n k (by omega)]
    refine b_ist (pc2 := 130) (q := (16 * i + k)) d_Mo_attribute_129 (sh_155 n0) (i_in (show 16 * i + k < 160 by omega) (by decide)) (i_tn (by omega)) (rc_155) rfl ?_
    rw [u21, ovw_sA _ _ _ _ (show 16 * i + k = 16 * i + ((by8 v n).take k).length by rw [List.length_take, by8_len]; omega), l_tk (show k < (by8 v n).length by rw [by8_len]; omega)]
    refine b_inc (pc2 := 133) (al2 := [(6, _), (0, _), (3, _), (5, _)]) (y := Int32.ofNat 1) d_Mo_attribute_130 (by decide) rfl rfl rfl rfl ?_
    rw [i_add]
    refine b_go (pc2 := 97) d_Mo_attribute_133 rfl ?_
    refine b_nf (al := [(6, _), (0, _), (3, _), (5, _)]) (ks := [6, 0, 3, 5]) (sub_c rfl (sub_c rfl (sub_c rfl (sub_c rfl (sub_n))))) rfl (by decide) ?_
    dsimp only
    exact ih (k + 1) (by omega)
theorem mo_attr2 {d : Nat} (hd : 2 ≤ d) {ty pm : Int32} {n i : Nat} (hok : ((¬ ty < 0 ∧ ¬ Int32.ofNat 255 < ty) ∧ ¬ pm < 0 ∧ ¬ Int32.ofNat 3 < pm ∧ (¬ Int32.ofNat n < 0 ∧ ¬ Int32.ofNat 8 < Int32.ofNat n))) (hn : n ≤ 8) (hi : i < 10) (hc : J 130 31 = Int32.ofNat i) : bm d (S0 n0) R0 129 [.ref 130, .int ty, .int pm, .long v, .int (Int32.ofNat n)] W J g L (bR (some (.int (Int32.ofNat (i + 1)))) W (am_u2 (am_u1 (am_u2 (am_u2 (am_u2 (am_u2 J 130 0 (Int32.ofNat 0)) 152 i ty) 153 i pm) 154 i (Int32.ofNat n)) 155 (ovw (16 * i) (by8 v n) (J 155))) 130 31 (Int32.ofNat (i + 1))) g L) := by
  obtain ⟨e, rfl⟩ : ∃ e, d = e + 1 := ⟨d - 1, by omega⟩
  refine bm_of (Nat.le_of_ble_eq_true rfl) (Or.inr bR_ret) ?_
  show bT e (S0 n0) R0 mt_Mo_attribute _ 0 [(0, .ref 130), (1, .int ty), (2, .int pm), (3, .long v), (5, .int (Int32.ofNat n))] [] W J g L 0 0
  have hSR := SR0 n0
  refine b_aln (pc2 := 1) d_Mo_attribute_0 rfl rfl ?_
  refine b_iln (pc2 := 2) d_Mo_attribute_1 rfl rfl ?_
  refine b_ifd (pc2 := 33) d_Mo_attribute_2 rfl rfl rfl rfl rfl (fun h2 => ?_) (fun h2 => ?_)
  · exact absurd h2 (hok.1.1)
  refine b_iln (pc2 := 6) d_Mo_attribute_5 rfl rfl ?_
  refine b_sp (pc2 := 9) (x := Int32.ofNat 255) d_Mo_attribute_6 rfl rfl ?_
  refine b_ifd (pc2 := 33) d_Mo_attribute_9 rfl rfl rfl rfl rfl (fun h9 => ?_) (fun h9 => ?_)
  · exact absurd h9 (hok.1.2)
  refine b_iln (pc2 := 13) d_Mo_attribute_12 rfl rfl ?_
  refine b_ifd (pc2 := 33) d_Mo_attribute_13 rfl rfl rfl rfl rfl (fun h13 => ?_) (fun h13 => ?_)
  · exact absurd h13 (hok.2.1)
  refine b_iln (pc2 := 17) d_Mo_attribute_16 rfl rfl ?_
  refine b_ic (pc2 := 18) (x := Int32.ofNat 3) d_Mo_attribute_17 rfl rfl ?_
  refine b_ifd (pc2 := 33) d_Mo_attribute_18 rfl rfl rfl rfl rfl (fun h18 => ?_) (fun h18 => ?_)
  · exact absurd h18 (hok.2.2.1)
  refine b_il (pc2 := 23) d_Mo_attribute_21 rfl rfl ?_
  refine b_ifd (pc2 := 33) d_Mo_attribute_23 rfl rfl rfl rfl rfl (fun h23 => ?_) (fun h23 => ?_)
  · exact absurd h23 (hok.2.2.2.1)
  refine b_il (pc2 := 28) d_Mo_attribute_26 rfl rfl ?_
  refine b_bp (pc2 := 30) (x := Int32.ofNat 8) d_Mo_attribute_28 rfl rfl ?_
  refine b_ifd (pc2 := 37) d_Mo_attribute_30 rfl rfl rfl rfl rfl (fun h30 => ?_) (fun h30 => ?_)
  rotate_left
  · exact absurd (Int32.not_lt.mp hok.2.2.2.2) h30
  refine b_aln (pc2 := 38) d_Mo_attribute_37 rfl rfl ?_
  refine b_gi (pc2 := 41) d_Mo_attribute_38 q_11_212 (sh_130 n0) (by decide) (by decide) (rc_130) rfl ?_
  rw [hc]
  refine b_bp (pc2 := 43) (x := Int32.ofNat 10) d_Mo_attribute_41 rfl rfl ?_
  refine b_ifd (pc2 := 50) d_Mo_attribute_43 rfl rfl rfl rfl rfl (fun h43 => ?_) (fun h43 => ?_)
  rotate_left
  · exact absurd (by rw [i_eq (by omega) (by omega)]; omega) h43
  refine b_ic (pc2 := 51) (x := Int32.ofNat 0) d_Mo_attribute_50 rfl rfl ?_
  refine b_pi (pc2 := 54) d_Mo_attribute_51 q_11_135 (sh_130 n0) (by decide) (Or.inl (by decide)) (Or.inl rfl) (rc_130) rfl ?_
  refine b_aln (pc2 := 55) d_Mo_attribute_54 rfl rfl ?_
  refine b_gi (pc2 := 58) d_Mo_attribute_55 q_11_135 (sh_130 n0) (by decide) (by decide) (rc_130) rfl ?_
  rw [u2_at]
  refine b_ifd (pc2 := 63) d_Mo_attribute_58 rfl rfl rfl rfl rfl (fun h58 => ?_) (fun h58 => ?_)
  rotate_left
  · exact absurd (by decide) h58
  refine b_aln (pc2 := 64) d_Mo_attribute_63 rfl rfl ?_
  refine b_gr (pc2 := 67) d_Mo_attribute_64 q_11_78 (sh_130 n0) (by decide) (by decide) (p_130_32 n0) rfl ?_
  refine b_aln (pc2 := 68) d_Mo_attribute_67 rfl rfl ?_
  refine b_gi (pc2 := 71) d_Mo_attribute_68 q_11_212 (sh_130 n0) (by decide) (by decide) (rc_130) rfl ?_
  rw [u2_k _ _ (by decide), hc]
  refine b_iln (pc2 := 72) d_Mo_attribute_71 rfl rfl ?_
  refine b_ist (pc2 := 73) (q := i) d_Mo_attribute_72 (sh_152 n0) (i_in (show i < 10 by omega) (by decide)) (i_tn (by omega)) (rc_152) rfl ?_
  refine b_aln (pc2 := 74) d_Mo_attribute_73 rfl rfl ?_
  refine b_gr (pc2 := 77) d_Mo_attribute_74 q_11_81 (sh_130 n0) (by decide) (by decide) (p_130_33 n0) rfl ?_
  refine b_aln (pc2 := 78) d_Mo_attribute_77 rfl rfl ?_
  refine b_gi (pc2 := 81) d_Mo_attribute_78 q_11_212 (sh_130 n0) (by decide) (by decide) (rc_130) rfl ?_
  rw [u2_a _ _ (by decide), u2_k _ _ (by decide), hc]
  refine b_iln (pc2 := 82) d_Mo_attribute_81 rfl rfl ?_
  refine b_ist (pc2 := 83) (q := i) d_Mo_attribute_82 (sh_153 n0) (i_in (show i < 10 by omega) (by decide)) (i_tn (by omega)) (rc_153) rfl ?_
  refine b_aln (pc2 := 84) d_Mo_attribute_83 rfl rfl ?_
  refine b_gr (pc2 := 87) d_Mo_attribute_84 q_11_84 (sh_130 n0) (by decide) (by decide) (p_130_34 n0) rfl ?_
  refine b_aln (pc2 := 88) d_Mo_attribute_87 rfl rfl ?_
  refine b_gi (pc2 := 91) d_Mo_attribute_88 q_11_212 (sh_130 n0) (by decide) (by decide) (rc_130) rfl ?_
  rw [u2_a _ _ (by decide), u2_a _ _ (by decide), u2_k _ _ (by decide), hc]
  refine b_il (pc2 := 93) d_Mo_attribute_91 rfl rfl ?_
  refine b_ist (pc2 := 94) (q := i) d_Mo_attribute_93 (sh_154 n0) (i_in (show i < 10 by omega) (by decide)) (i_tn (by omega)) (rc_154) rfl ?_
  refine b_ic (pc2 := 95) (x := Int32.ofNat 0) d_Mo_attribute_94 rfl rfl ?_
  refine b_is (pc2 := 97) (al2 := [(6, _), (0, _), (1, _), (2, _), (3, _), (5, _)]) d_Mo_attribute_95 (by decide) rfl rfl ?_
  refine b_nf (al := [(6, _), (0, _), (3, _), (5, _)]) (ks := [6, 0, 3, 5]) (sub_c rfl (sub_c rfl (sub_c rfl (sub_c rfl (sub_n))))) rfl (by decide) ?_
  dsimp only
  have hK : ∀ c, ¬ c = 130 → ¬ c = 152 → ¬ c = 153 → ¬ c = 154 → (am_u2 (am_u2 (am_u2 (am_u2 J 130 0 (Int32.ofNat 0)) 152 i ty) 153 i pm) 154 i (Int32.ofNat n)) c = J c := fun c a1 a2 a3 a4 => by rw [u2_a _ _ a4, u2_a _ _ a3, u2_a _ _ a2, u2_a _ _ a1]
  refine (fun z => ?_ : _ → _) (lp_at (n0 := n0) (W := W) (J := (am_u2 (am_u2 (am_u2 (am_u2 J 130 0 (Int32.ofNat 0)) 152 i ty) 153 i pm) 154 i (Int32.ofNat n))) (g := g) (L := L) (e := e) (v := v) (n := n) (i := i) (Qh := bw_Q (S0 n0) R0 (bR (some (.int (Int32.ofNat (i + 1)))) W (am_u2 (am_u1 (am_u2 (am_u2 (am_u2 (am_u2 J 130 0 (Int32.ofNat 0)) 152 i ty) 153 i pm) 154 i (Int32.ofNat n)) 155 (ovw (16 * i) (by8 v n) (J 155))) 130 31 (Int32.ofNat (i + 1))) g L)) (by omega) hn hi (by rw [u2_a _ _ (by decide), u2_a _ _ (by decide), u2_a _ _ (by decide), u2_k _ _ (by decide)]; exact hc) ?_ n 0 (by omega))
  · rw [List.take_zero, ovw_nil, u1_id] at z
    exact z
  · rw [hK 155 (by decide) (by decide) (by decide) (by decide)]
    refine b_aln (pc2 := 137) d_Mo_attribute_136 rfl rfl ?_
    refine b_pure (pc2 := 138) d_Mo_attribute_137 rfl rfl rfl ?_
    refine b_gi (pc2 := 141) d_Mo_attribute_138 q_11_212 (sh_130 n0) (by decide) (by decide) (rc_130) rfl ?_
    rw [u1_ne _ _ (by decide), u2_a _ _ (by decide), u2_a _ _ (by decide), u2_a _ _ (by decide), u2_k _ _ (by decide), hc]
    refine b_ic (pc2 := 142) (x := Int32.ofNat 1) d_Mo_attribute_141 rfl rfl ?_
    refine b_pure (pc2 := 143) d_Mo_attribute_142 rfl rfl rfl ?_
    rw [i_add]
    refine b_pi (pc2 := 146) d_Mo_attribute_143 q_11_212 (sh_130 n0) (by decide) (Or.inl (by decide)) (Or.inl rfl) (rc_130) rfl ?_
    refine b_aln (pc2 := 147) d_Mo_attribute_146 rfl rfl ?_
    refine b_gi (pc2 := 150) d_Mo_attribute_147 q_11_212 (sh_130 n0) (by decide) (by decide) (rc_130) rfl ?_
    rw [u2_at]
    refine b_ir d_Mo_attribute_150 rfl ?_
    exact ⟨rfl, rfl, rfl, rfl, rfl⟩
theorem mo_put0 {d : Nat} (hd : 2 ≤ d) {h b n : Int32} (hb : ¬ ((¬ h < Int32.ofNat 1 ∧ ¬ J 130 31 < h) ∧ (¬ n < 0 ∧ ¬ Int32.ofNat 8 < n))) : bm d (S0 n0) R0 131 [.ref 130, .int h, .int b, .long v, .int n] W J g L (bR (some (.int (Int32.ofNat 0))) W (am_u2 J 130 0 (Int32.ofNat 1)) g L) := by
  obtain ⟨e, rfl⟩ : ∃ e, d = e + 1 := ⟨d - 1, by omega⟩
  refine bm_of (Nat.le_of_ble_eq_true rfl) (Or.inr bR_ret) ?_
  show bT e (S0 n0) R0 mt_Mo_put _ 0 [(0, .ref 130), (1, .int h), (2, .int b), (3, .long v), (5, .int n)] [] W J g L 0 0
  have hSR := SR0 n0
  refine b_iln (pc2 := 1) d_Mo_put_0 rfl rfl ?_
  refine b_ic (pc2 := 2) (x := Int32.ofNat 1) d_Mo_put_1 rfl rfl ?_
  refine b_ifd (pc2 := 29) d_Mo_put_2 rfl rfl rfl rfl rfl (fun h2 => ?_) (fun h2 => ?_)
  · refine b_ic (pc2 := 30) (x := Int32.ofNat 0) d_Mo_put_29 rfl rfl ?_
    refine b_is (pc2 := 32) (al2 := [(6, _), (0, _), (1, _), (2, _), (3, _), (5, _)]) d_Mo_put_30 (by decide) rfl rfl ?_
    refine b_il (pc2 := 34) d_Mo_put_32 rfl rfl ?_
    refine b_ifd (pc2 := 41) d_Mo_put_34 rfl rfl rfl rfl rfl (fun h34 => ?_) (fun h34 => ?_)
    rotate_left
    · exact absurd (by decide) h34
    refine b_ic (pc2 := 42) (x := Int32.ofNat 0) d_Mo_put_41 rfl rfl ?_
    refine b_go (pc2 := 53) d_Mo_put_42 rfl ?_
    refine b_is (pc2 := 55) (al2 := [(7, _), (6, _), (0, _), (1, _), (2, _), (3, _), (5, _)]) d_Mo_put_53 (by decide) rfl rfl ?_
    refine b_aln (pc2 := 56) d_Mo_put_55 rfl rfl ?_
    refine b_il (pc2 := 58) d_Mo_put_56 rfl rfl ?_
    refine b_ifd (pc2 := 65) d_Mo_put_58 rfl rfl rfl rfl rfl (fun h58 => ?_) (fun h58 => ?_)
    · exact absurd h58 (by decide)
    refine b_ic (pc2 := 62) (x := Int32.ofNat 1) d_Mo_put_61 rfl rfl ?_
    refine b_go (pc2 := 80) d_Mo_put_62 rfl ?_
    refine b_pi (pc2 := 83) d_Mo_put_80 q_11_135 (sh_130 n0) (by decide) (Or.inl (by decide)) (Or.inl rfl) (rc_130) rfl ?_
    refine b_aln (pc2 := 84) d_Mo_put_83 rfl rfl ?_
    refine b_gi (pc2 := 87) d_Mo_put_84 q_11_135 (sh_130 n0) (by decide) (by decide) (rc_130) rfl ?_
    rw [u2_at]
    refine b_ifd (pc2 := 92) d_Mo_put_87 rfl rfl rfl rfl rfl (fun h87 => ?_) (fun h87 => ?_)
    · exact absurd h87 (by decide)
    refine b_ic (pc2 := 91) (x := Int32.ofNat 0) d_Mo_put_90 rfl rfl ?_
    refine b_ir d_Mo_put_91 rfl ?_
    exact ⟨rfl, rfl, rfl, rfl, rfl⟩
  · refine b_iln (pc2 := 6) d_Mo_put_5 rfl rfl ?_
    refine b_aln (pc2 := 7) d_Mo_put_6 rfl rfl ?_
    refine b_gi (pc2 := 10) d_Mo_put_7 q_11_212 (sh_130 n0) (by decide) (by decide) (rc_130) rfl ?_
    refine b_ifd (pc2 := 29) d_Mo_put_10 rfl rfl rfl rfl rfl (fun h10 => ?_) (fun h10 => ?_)
    · refine b_ic (pc2 := 30) (x := Int32.ofNat 0) d_Mo_put_29 rfl rfl ?_
      refine b_is (pc2 := 32) (al2 := [(6, _), (0, _), (1, _), (2, _), (3, _), (5, _)]) d_Mo_put_30 (by decide) rfl rfl ?_
      refine b_il (pc2 := 34) d_Mo_put_32 rfl rfl ?_
      refine b_ifd (pc2 := 41) d_Mo_put_34 rfl rfl rfl rfl rfl (fun h34 => ?_) (fun h34 => ?_)
      rotate_left
      · exact absurd (by decide) h34
      refine b_ic (pc2 := 42) (x := Int32.ofNat 0) d_Mo_put_41 rfl rfl ?_
      refine b_go (pc2 := 53) d_Mo_put_42 rfl ?_
      refine b_is (pc2 := 55) (al2 := [(7, _), (6, _), (0, _), (1, _), (2, _), (3, _), (5, _)]) d_Mo_put_53 (by decide) rfl rfl ?_
      refine b_aln (pc2 := 56) d_Mo_put_55 rfl rfl ?_
      refine b_il (pc2 := 58) d_Mo_put_56 rfl rfl ?_
      refine b_ifd (pc2 := 65) d_Mo_put_58 rfl rfl rfl rfl rfl (fun h58 => ?_) (fun h58 => ?_)
      · exact absurd h58 (by decide)
      refine b_ic (pc2 := 62) (x := Int32.ofNat 1) d_Mo_put_61 rfl rfl ?_
      refine b_go (pc2 := 80) d_Mo_put_62 rfl ?_
      refine b_pi (pc2 := 83) d_Mo_put_80 q_11_135 (sh_130 n0) (by decide) (Or.inl (by decide)) (Or.inl rfl) (rc_130) rfl ?_
      refine b_aln (pc2 := 84) d_Mo_put_83 rfl rfl ?_
      refine b_gi (pc2 := 87) d_Mo_put_84 q_11_135 (sh_130 n0) (by decide) (by decide) (rc_130) rfl ?_
      rw [u2_at]
      refine b_ifd (pc2 := 92) d_Mo_put_87 rfl rfl rfl rfl rfl (fun h87 => ?_) (fun h87 => ?_)
      · exact absurd h87 (by decide)
      refine b_ic (pc2 := 91) (x := Int32.ofNat 0) d_Mo_put_90 rfl rfl ?_
      refine b_ir d_Mo_put_91 rfl ?_
      exact ⟨rfl, rfl, rfl, rfl, rfl⟩
    · refine b_il (pc2 := 15) d_Mo_put_13 rfl rfl ?_
      refine b_ifd (pc2 := 29) d_Mo_put_15 rfl rfl rfl rfl rfl (fun h15 => ?_) (fun h15 => ?_)
      · refine b_ic (pc2 := 30) (x := Int32.ofNat 0) d_Mo_put_29 rfl rfl ?_
        refine b_is (pc2 := 32) (al2 := [(6, _), (0, _), (1, _), (2, _), (3, _), (5, _)]) d_Mo_put_30 (by decide) rfl rfl ?_
        refine b_il (pc2 := 34) d_Mo_put_32 rfl rfl ?_
        refine b_ifd (pc2 := 41) d_Mo_put_34 rfl rfl rfl rfl rfl (fun h34 => ?_) (fun h34 => ?_)
        rotate_left
        · exact absurd (by decide) h34
        refine b_ic (pc2 := 42) (x := Int32.ofNat 0) d_Mo_put_41 rfl rfl ?_
        refine b_go (pc2 := 53) d_Mo_put_42 rfl ?_
        refine b_is (pc2 := 55) (al2 := [(7, _), (6, _), (0, _), (1, _), (2, _), (3, _), (5, _)]) d_Mo_put_53 (by decide) rfl rfl ?_
        refine b_aln (pc2 := 56) d_Mo_put_55 rfl rfl ?_
        refine b_il (pc2 := 58) d_Mo_put_56 rfl rfl ?_
        refine b_ifd (pc2 := 65) d_Mo_put_58 rfl rfl rfl rfl rfl (fun h58 => ?_) (fun h58 => ?_)
        · exact absurd h58 (by decide)
        refine b_ic (pc2 := 62) (x := Int32.ofNat 1) d_Mo_put_61 rfl rfl ?_
        refine b_go (pc2 := 80) d_Mo_put_62 rfl ?_
        refine b_pi (pc2 := 83) d_Mo_put_80 q_11_135 (sh_130 n0) (by decide) (Or.inl (by decide)) (Or.inl rfl) (rc_130) rfl ?_
        refine b_aln (pc2 := 84) d_Mo_put_83 rfl rfl ?_
        refine b_gi (pc2 := 87) d_Mo_put_84 q_11_135 (sh_130 n0) (by decide) (by decide) (rc_130) rfl ?_
        rw [u2_at]
        refine b_ifd (pc2 := 92) d_Mo_put_87 rfl rfl rfl rfl rfl (fun h87 => ?_) (fun h87 => ?_)
        · exact absurd h87 (by decide)
        refine b_ic (pc2 := 91) (x := Int32.ofNat 0) d_Mo_put_90 rfl rfl ?_
        refine b_ir d_Mo_put_91 rfl ?_
        exact ⟨rfl, rfl, rfl, rfl, rfl⟩
      · refine b_il (pc2 := 20) d_Mo_put_18 rfl rfl ?_
        refine b_bp (pc2 := 22) (x := Int32.ofNat 8) d_Mo_put_20 rfl rfl ?_
        refine b_ifd (pc2 := 29) d_Mo_put_22 rfl rfl rfl rfl rfl (fun h22 => ?_) (fun h22 => ?_)
        · refine b_ic (pc2 := 30) (x := Int32.ofNat 0) d_Mo_put_29 rfl rfl ?_
          refine b_is (pc2 := 32) (al2 := [(6, _), (0, _), (1, _), (2, _), (3, _), (5, _)]) d_Mo_put_30 (by decide) rfl rfl ?_
          refine b_il (pc2 := 34) d_Mo_put_32 rfl rfl ?_
          refine b_ifd (pc2 := 41) d_Mo_put_34 rfl rfl rfl rfl rfl (fun h34 => ?_) (fun h34 => ?_)
          rotate_left
          · exact absurd (by decide) h34
          refine b_ic (pc2 := 42) (x := Int32.ofNat 0) d_Mo_put_41 rfl rfl ?_
          refine b_go (pc2 := 53) d_Mo_put_42 rfl ?_
          refine b_is (pc2 := 55) (al2 := [(7, _), (6, _), (0, _), (1, _), (2, _), (3, _), (5, _)]) d_Mo_put_53 (by decide) rfl rfl ?_
          refine b_aln (pc2 := 56) d_Mo_put_55 rfl rfl ?_
          refine b_il (pc2 := 58) d_Mo_put_56 rfl rfl ?_
          refine b_ifd (pc2 := 65) d_Mo_put_58 rfl rfl rfl rfl rfl (fun h58 => ?_) (fun h58 => ?_)
          · exact absurd h58 (by decide)
          refine b_ic (pc2 := 62) (x := Int32.ofNat 1) d_Mo_put_61 rfl rfl ?_
          refine b_go (pc2 := 80) d_Mo_put_62 rfl ?_
          refine b_pi (pc2 := 83) d_Mo_put_80 q_11_135 (sh_130 n0) (by decide) (Or.inl (by decide)) (Or.inl rfl) (rc_130) rfl ?_
          refine b_aln (pc2 := 84) d_Mo_put_83 rfl rfl ?_
          refine b_gi (pc2 := 87) d_Mo_put_84 q_11_135 (sh_130 n0) (by decide) (by decide) (rc_130) rfl ?_
          rw [u2_at]
          refine b_ifd (pc2 := 92) d_Mo_put_87 rfl rfl rfl rfl rfl (fun h87 => ?_) (fun h87 => ?_)
          · exact absurd h87 (by decide)
          refine b_ic (pc2 := 91) (x := Int32.ofNat 0) d_Mo_put_90 rfl rfl ?_
          refine b_ir d_Mo_put_91 rfl ?_
          exact ⟨rfl, rfl, rfl, rfl, rfl⟩
        · exact absurd ⟨⟨h2, h10⟩, h15, h22⟩ hb
theorem mo_put1 {d : Nat} (hd : 2 ≤ d) {b : Int32} {n ct i : Nat} (hi : i < 10) (hc : J 130 31 = Int32.ofNat ct) (hct : ct ≤ 10) (hic : i < ct) (hn : n ≤ 8) {vs : Nat} (hv : J 154 i = Int32.ofNat vs) (hvs : vs ≤ 16) (hb : b = 0) (hf : 16 < vs + n) : bm d (S0 n0) R0 131 [.ref 130, .int (Int32.ofNat (i + 1)), .int b, .long v, .int (Int32.ofNat n)] W J g L (bR (some (.int (Int32.ofNat 0))) W (am_u2 J 130 0 (Int32.ofNat 2)) g L) := by
  obtain ⟨e, rfl⟩ : ∃ e, d = e + 1 := ⟨d - 1, by omega⟩
  refine bm_of (Nat.le_of_ble_eq_true rfl) (Or.inr bR_ret) ?_
  show bT e (S0 n0) R0 mt_Mo_put _ 0 [(0, .ref 130), (1, .int (Int32.ofNat (i + 1))), (2, .int b), (3, .long v), (5, .int (Int32.ofNat n))] [] W J g L 0 0
  have hSR := SR0 n0
  refine b_iln (pc2 := 1) d_Mo_put_0 rfl rfl ?_
  refine b_ic (pc2 := 2) (x := Int32.ofNat 1) d_Mo_put_1 rfl rfl ?_
  refine b_ifd (pc2 := 29) d_Mo_put_2 rfl rfl rfl rfl rfl (fun h2 => ?_) (fun h2 => ?_)
  · exact absurd h2 (fun z => by rw [i_lt (by omega) (by omega)] at z; omega)
  refine b_iln (pc2 := 6) d_Mo_put_5 rfl rfl ?_
  refine b_aln (pc2 := 7) d_Mo_put_6 rfl rfl ?_
  refine b_gi (pc2 := 10) d_Mo_put_7 q_11_212 (sh_130 n0) (by decide) (by decide) (rc_130) rfl ?_
  rw [hc]
  refine b_ifd (pc2 := 29) d_Mo_put_10 rfl rfl rfl rfl rfl (fun h10 => ?_) (fun h10 => ?_)
  · exact absurd h10 (fun z => by rw [i_lt (by omega) (by omega)] at z; omega)
  refine b_il (pc2 := 15) d_Mo_put_13 rfl rfl ?_
  refine b_ifd (pc2 := 29) d_Mo_put_15 rfl rfl rfl rfl rfl (fun h15 => ?_) (fun h15 => ?_)
  · exact absurd h15 (fun z => by rw [z_lt (by omega)] at z; omega)
  refine b_il (pc2 := 20) d_Mo_put_18 rfl rfl ?_
  refine b_bp (pc2 := 22) (x := Int32.ofNat 8) d_Mo_put_20 rfl rfl ?_
  refine b_ifd (pc2 := 29) d_Mo_put_22 rfl rfl rfl rfl rfl (fun h22 => ?_) (fun h22 => ?_)
  · exact absurd h22 (fun z => by rw [i_lt (by omega) (by omega)] at z; omega)
  refine b_ic (pc2 := 26) (x := Int32.ofNat 1) d_Mo_put_25 rfl rfl ?_
  refine b_go (pc2 := 30) d_Mo_put_26 rfl ?_
  refine b_is (pc2 := 32) (al2 := [(6, _), (0, _), (1, _), (2, _), (3, _), (5, _)]) d_Mo_put_30 (by decide) rfl rfl ?_
  refine b_il (pc2 := 34) d_Mo_put_32 rfl rfl ?_
  refine b_ifd (pc2 := 41) d_Mo_put_34 rfl rfl rfl rfl rfl (fun h34 => ?_) (fun h34 => ?_)
  · exact absurd h34 (by decide)
  refine b_iln (pc2 := 38) d_Mo_put_37 rfl rfl ?_
  refine b_ifd (pc2 := 45) d_Mo_put_38 rfl rfl rfl rfl rfl (fun h38 => ?_) (fun h38 => ?_)
  rotate_left
  · exact absurd (hb) h38
  refine b_aln (pc2 := 46) d_Mo_put_45 rfl rfl ?_
  refine b_gr (pc2 := 49) d_Mo_put_46 q_11_84 (sh_130 n0) (by decide) (by decide) (p_130_34 n0) rfl ?_
  refine b_iln (pc2 := 50) d_Mo_put_49 rfl rfl ?_
  refine b_ic (pc2 := 51) (x := Int32.ofNat 1) d_Mo_put_50 rfl rfl ?_
  refine b_pure (pc2 := 52) d_Mo_put_51 rfl rfl rfl ?_
  rw [i_sub (by omega), show i + 1 - 1 = i by omega]
  refine b_ia (pc2 := 53) (q := i) d_Mo_put_52 (sh_154 n0) (i_in (show i < 10 by omega) (by decide)) (i_tn (by omega)) (rc_154) rfl ?_
  rw [hv]
  refine b_is (pc2 := 55) (al2 := [(7, _), (6, _), (0, _), (1, _), (2, _), (3, _), (5, _)]) d_Mo_put_53 (by decide) rfl rfl ?_
  refine b_aln (pc2 := 56) d_Mo_put_55 rfl rfl ?_
  refine b_il (pc2 := 58) d_Mo_put_56 rfl rfl ?_
  refine b_ifd (pc2 := 65) d_Mo_put_58 rfl rfl rfl rfl rfl (fun h58 => ?_) (fun h58 => ?_)
  rotate_left
  · exact absurd (by decide) h58
  refine b_il (pc2 := 67) d_Mo_put_65 rfl rfl ?_
  refine b_il (pc2 := 69) d_Mo_put_67 rfl rfl ?_
  refine b_pure (pc2 := 70) d_Mo_put_69 rfl rfl rfl ?_
  rw [i_add]
  refine b_bp (pc2 := 72) (x := Int32.ofNat 16) d_Mo_put_70 rfl rfl ?_
  refine b_ifd (pc2 := 79) d_Mo_put_72 rfl rfl rfl rfl rfl (fun h72 => ?_) (fun h72 => ?_)
  · exact absurd h72 (fun z => by rw [i_le (by omega) (by omega)] at z; omega)
  refine b_ic (pc2 := 76) (x := Int32.ofNat 2) d_Mo_put_75 rfl rfl ?_
  refine b_go (pc2 := 80) d_Mo_put_76 rfl ?_
  refine b_pi (pc2 := 83) d_Mo_put_80 q_11_135 (sh_130 n0) (by decide) (Or.inl (by decide)) (Or.inl rfl) (rc_130) rfl ?_
  refine b_aln (pc2 := 84) d_Mo_put_83 rfl rfl ?_
  refine b_gi (pc2 := 87) d_Mo_put_84 q_11_135 (sh_130 n0) (by decide) (by decide) (rc_130) rfl ?_
  rw [u2_at]
  refine b_ifd (pc2 := 92) d_Mo_put_87 rfl rfl rfl rfl rfl (fun h87 => ?_) (fun h87 => ?_)
  · exact absurd h87 (by decide)
  refine b_ic (pc2 := 91) (x := Int32.ofNat 0) d_Mo_put_90 rfl rfl ?_
  refine b_ir d_Mo_put_91 rfl ?_
  exact ⟨rfl, rfl, rfl, rfl, rfl⟩
theorem lp_pu {e : Nat} (he : 1 ≤ e) {n i f : Nat} (hn : n ≤ 8) (hi : i < 10) (hf : f + n ≤ 16) (K : bH e (S0 n0) R0 mt_Mo_put Qh 136 [(0, .ref 130), (1, .int (Int32.ofNat (i + 1))), (3, .long v), (5, .int (Int32.ofNat n)), (7, .int (Int32.ofNat f))] [] W (am_u1 J 155 (ovw (16 * i + f) (by8 v n) (J 155))) g L 0 0) : ∀ (r k : Nat), k + r = n → bH e (S0 n0) R0 mt_Mo_put Qh 95 [(8, .int (Int32.ofNat k)), (0, .ref 130), (1, .int (Int32.ofNat (i + 1))), (3, .long v), (5, .int (Int32.ofNat n)), (7, .int (Int32.ofNat f))] [] W (am_u1 J 155 (ovw (16 * i + f) ((by8 v n).take k) (J 155))) g L 0 0 := by
  intro r
  induction r with
  | zero =>
    intro k hk
    refine b_il (pc2 := 97) d_Mo_put_95 rfl rfl ?_
    refine b_il (pc2 := 99) d_Mo_put_97 rfl rfl ?_
    refine b_ifd (pc2 := 136) d_Mo_put_99 rfl rfl rfl rfl rfl (fun h99 => ?_) (fun h99 => ?_)
    rotate_left
    · exact absurd (by rw [i_le (by omega) (by omega)]; omega) h99
    refine b_nf (al := [(0, _), (1, _), (3, _), (5, _), (7, _)]) (ks := [0, 1, 3, 5, 7]) (sub_c rfl (sub_c rfl (sub_c rfl (sub_c rfl (sub_c rfl (sub_n)))))) rfl (by decide) ?_
    dsimp only
    rw [List.take_of_length_le (by rw [by8_len]; omega)]
    exact K
  | succ r ih =>
    intro k hk
    refine b_il (pc2 := 97) d_Mo_put_95 rfl rfl ?_
    refine b_il (pc2 := 99) d_Mo_put_97 rfl rfl ?_
    refine b_ifd (pc2 := 136) d_Mo_put_99 rfl rfl rfl rfl rfl (fun h99 => ?_) (fun h99 => ?_)
    · exact absurd h99 (fun z => by rw [i_le (by omega) (by omega)] at z; omega)
    refine b_aln (pc2 := 103) d_Mo_put_102 rfl rfl ?_
    refine b_gr (pc2 := 106) d_Mo_put_103 q_11_87 (sh_130 n0) (by decide) (by decide) (p_130_35 n0) rfl ?_
    refine b_bp (pc2 := 108) (x := Int32.ofNat 16) d_Mo_put_106 rfl rfl ?_
    refine b_iln (pc2 := 109) d_Mo_put_108 rfl rfl ?_
    refine b_ic (pc2 := 110) (x := Int32.ofNat 1) d_Mo_put_109 rfl rfl ?_
    refine b_pure (pc2 := 111) d_Mo_put_110 rfl rfl rfl ?_
    rw [i_sub (by omega), show i + 1 - 1 = i by omega]
    refine b_pure (pc2 := 112) d_Mo_put_111 rfl rfl rfl ?_
    rw [i_mul]
    refine b_il (pc2 := 114) d_Mo_put_112 rfl rfl ?_
    refine b_pure (pc2 := 115) d_Mo_put_114 rfl rfl rfl ?_
    rw [i_add]
    refine b_il (pc2 := 117) d_Mo_put_115 rfl rfl ?_
    refine b_pure (pc2 := 118) d_Mo_put_117 rfl rfl rfl ?_
    rw [i_add]
    refine b_lln (pc2 := 119) d_Mo_put_118 rfl rfl ?_
    refine b_il (pc2 := 121) d_Mo_put_119 rfl rfl ?_
    refine b_ic (pc2 := 122) (x := Int32.ofNat 1) d_Mo_put_121 rfl rfl ?_
    refine b_pure (pc2 := 123) d_Mo_put_122 rfl rfl rfl ?_
    rw [i_sub (by omega)]
    refine b_il (pc2 := 125) d_Mo_put_123 rfl rfl ?_
    refine b_pure (pc2 := 126) d_Mo_put_125 rfl rfl rfl ?_
    rw [i_sub (by omega)]
    refine b_cs1 (pc2 := 129) (c2 := 0) (u2 := 0) (mo_byteOf (by omega)) d_Mo_put_126 q_11_286 (Or.inl rfl) (Nat.le_of_ble_eq_true rfl) rfl rfl (Nat.le_of_ble_eq_true rfl) rfl rfl (by decide) (by decide) rfl ?_
    rw [by_eq v (show n - 1 - k < 8 by omega), ← by8_get v n k (by omega)]
    refine b_ist (pc2 := 130) (q := (16 * i + f + k)) d_Mo_put_129 (sh_155 n0) (i_in (show 16 * i + f + k < 160 by omega) (by decide)) (i_tn (by omega)) (rc_155) rfl ?_
    rw [u21, ovw_sA _ _ _ _ (show 16 * i + f + k = 16 * i + f + ((by8 v n).take k).length by rw [List.length_take, by8_len]; omega), l_tk (show k < (by8 v n).length by rw [by8_len]; omega)]
    refine b_inc (pc2 := 133) (al2 := [(8, _), (0, _), (1, _), (3, _), (5, _), (7, _)]) (y := Int32.ofNat 1) d_Mo_put_130 (by decide) rfl rfl rfl rfl ?_
    rw [i_add]
    refine b_go (pc2 := 95) d_Mo_put_133 rfl ?_
    refine b_nf (al := [(8, _), (0, _), (1, _), (3, _), (5, _), (7, _)]) (ks := [8, 0, 1, 3, 5, 7]) (sub_c rfl (sub_c rfl (sub_c rfl (sub_c rfl (sub_c rfl (sub_c rfl (sub_n))))))) rfl (by decide) ?_
    dsimp only
    exact ih (k + 1) (by omega)
theorem mo_put2 {d : Nat} (hd : 2 ≤ d) {b : Int32} {n ct i : Nat} (hi : i < 10) (hc : J 130 31 = Int32.ofNat ct) (hct : ct ≤ 10) (hic : i < ct) (hn : n ≤ 8) {vs : Nat} (hv : J 154 i = Int32.ofNat vs) (hvs : vs ≤ 16) (hb : b = 0) (hf : vs + n ≤ 16) : bm d (S0 n0) R0 131 [.ref 130, .int (Int32.ofNat (i + 1)), .int b, .long v, .int (Int32.ofNat n)] W J g L (bR (some (.int (Int32.ofNat (vs + n)))) W (am_u2 (am_u1 (am_u2 J 130 0 (Int32.ofNat 0)) 155 (ovw (16 * i + vs) (by8 v n) (J 155))) 154 i (Int32.ofNat (vs + n))) g L) := by
  obtain ⟨e, rfl⟩ : ∃ e, d = e + 1 := ⟨d - 1, by omega⟩
  refine bm_of (Nat.le_of_ble_eq_true rfl) (Or.inr bR_ret) ?_
  show bT e (S0 n0) R0 mt_Mo_put _ 0 [(0, .ref 130), (1, .int (Int32.ofNat (i + 1))), (2, .int b), (3, .long v), (5, .int (Int32.ofNat n))] [] W J g L 0 0
  have hSR := SR0 n0
  refine b_iln (pc2 := 1) d_Mo_put_0 rfl rfl ?_
  refine b_ic (pc2 := 2) (x := Int32.ofNat 1) d_Mo_put_1 rfl rfl ?_
  refine b_ifd (pc2 := 29) d_Mo_put_2 rfl rfl rfl rfl rfl (fun h2 => ?_) (fun h2 => ?_)
  · exact absurd h2 (fun z => by rw [i_lt (by omega) (by omega)] at z; omega)
  refine b_iln (pc2 := 6) d_Mo_put_5 rfl rfl ?_
  refine b_aln (pc2 := 7) d_Mo_put_6 rfl rfl ?_
  refine b_gi (pc2 := 10) d_Mo_put_7 q_11_212 (sh_130 n0) (by decide) (by decide) (rc_130) rfl ?_
  rw [hc]
  refine b_ifd (pc2 := 29) d_Mo_put_10 rfl rfl rfl rfl rfl (fun h10 => ?_) (fun h10 => ?_)
  · exact absurd h10 (fun z => by rw [i_lt (by omega) (by omega)] at z; omega)
  refine b_il (pc2 := 15) d_Mo_put_13 rfl rfl ?_
  refine b_ifd (pc2 := 29) d_Mo_put_15 rfl rfl rfl rfl rfl (fun h15 => ?_) (fun h15 => ?_)
  · exact absurd h15 (fun z => by rw [z_lt (by omega)] at z; omega)
  refine b_il (pc2 := 20) d_Mo_put_18 rfl rfl ?_
  refine b_bp (pc2 := 22) (x := Int32.ofNat 8) d_Mo_put_20 rfl rfl ?_
  refine b_ifd (pc2 := 29) d_Mo_put_22 rfl rfl rfl rfl rfl (fun h22 => ?_) (fun h22 => ?_)
  · exact absurd h22 (fun z => by rw [i_lt (by omega) (by omega)] at z; omega)
  refine b_ic (pc2 := 26) (x := Int32.ofNat 1) d_Mo_put_25 rfl rfl ?_
  refine b_go (pc2 := 30) d_Mo_put_26 rfl ?_
  refine b_is (pc2 := 32) (al2 := [(6, _), (0, _), (1, _), (2, _), (3, _), (5, _)]) d_Mo_put_30 (by decide) rfl rfl ?_
  refine b_il (pc2 := 34) d_Mo_put_32 rfl rfl ?_
  refine b_ifd (pc2 := 41) d_Mo_put_34 rfl rfl rfl rfl rfl (fun h34 => ?_) (fun h34 => ?_)
  · exact absurd h34 (by decide)
  refine b_iln (pc2 := 38) d_Mo_put_37 rfl rfl ?_
  refine b_ifd (pc2 := 45) d_Mo_put_38 rfl rfl rfl rfl rfl (fun h38 => ?_) (fun h38 => ?_)
  rotate_left
  · exact absurd (hb) h38
  refine b_aln (pc2 := 46) d_Mo_put_45 rfl rfl ?_
  refine b_gr (pc2 := 49) d_Mo_put_46 q_11_84 (sh_130 n0) (by decide) (by decide) (p_130_34 n0) rfl ?_
  refine b_iln (pc2 := 50) d_Mo_put_49 rfl rfl ?_
  refine b_ic (pc2 := 51) (x := Int32.ofNat 1) d_Mo_put_50 rfl rfl ?_
  refine b_pure (pc2 := 52) d_Mo_put_51 rfl rfl rfl ?_
  rw [i_sub (by omega), show i + 1 - 1 = i by omega]
  refine b_ia (pc2 := 53) (q := i) d_Mo_put_52 (sh_154 n0) (i_in (show i < 10 by omega) (by decide)) (i_tn (by omega)) (rc_154) rfl ?_
  rw [hv]
  refine b_is (pc2 := 55) (al2 := [(7, _), (6, _), (0, _), (1, _), (2, _), (3, _), (5, _)]) d_Mo_put_53 (by decide) rfl rfl ?_
  refine b_aln (pc2 := 56) d_Mo_put_55 rfl rfl ?_
  refine b_il (pc2 := 58) d_Mo_put_56 rfl rfl ?_
  refine b_ifd (pc2 := 65) d_Mo_put_58 rfl rfl rfl rfl rfl (fun h58 => ?_) (fun h58 => ?_)
  rotate_left
  · exact absurd (by decide) h58
  refine b_il (pc2 := 67) d_Mo_put_65 rfl rfl ?_
  refine b_il (pc2 := 69) d_Mo_put_67 rfl rfl ?_
  refine b_pure (pc2 := 70) d_Mo_put_69 rfl rfl rfl ?_
  rw [i_add]
  refine b_bp (pc2 := 72) (x := Int32.ofNat 16) d_Mo_put_70 rfl rfl ?_
  refine b_ifd (pc2 := 79) d_Mo_put_72 rfl rfl rfl rfl rfl (fun h72 => ?_) (fun h72 => ?_)
  rotate_left
  · exact absurd (by rw [i_le (by omega) (by omega)]; omega) h72
  refine b_ic (pc2 := 80) (x := Int32.ofNat 0) d_Mo_put_79 rfl rfl ?_
  refine b_pi (pc2 := 83) d_Mo_put_80 q_11_135 (sh_130 n0) (by decide) (Or.inl (by decide)) (Or.inl rfl) (rc_130) rfl ?_
  refine b_aln (pc2 := 84) d_Mo_put_83 rfl rfl ?_
  refine b_gi (pc2 := 87) d_Mo_put_84 q_11_135 (sh_130 n0) (by decide) (by decide) (rc_130) rfl ?_
  rw [u2_at]
  refine b_ifd (pc2 := 92) d_Mo_put_87 rfl rfl rfl rfl rfl (fun h87 => ?_) (fun h87 => ?_)
  rotate_left
  · exact absurd (by decide) h87
  refine b_ic (pc2 := 93) (x := Int32.ofNat 0) d_Mo_put_92 rfl rfl ?_
  refine b_is (pc2 := 95) (al2 := [(8, _), (7, _), (6, _), (0, _), (1, _), (2, _), (3, _), (5, _)]) d_Mo_put_93 (by decide) rfl rfl ?_
  refine b_nf (al := [(8, _), (0, _), (1, _), (3, _), (5, _), (7, _)]) (ks := [8, 0, 1, 3, 5, 7]) (sub_c rfl (sub_c rfl (sub_c rfl (sub_c rfl (sub_c rfl (sub_c rfl (sub_n))))))) rfl (by decide) ?_
  dsimp only
  refine (fun z => ?_ : _ → _) (lp_pu (n0 := n0) (W := W) (J := (am_u2 J 130 0 (Int32.ofNat 0))) (g := g) (L := L) (e := e) (v := v) (n := n) (i := i) (f := vs) (Qh := bw_Q (S0 n0) R0 (bR (some (.int (Int32.ofNat (vs + n)))) W (am_u2 (am_u1 (am_u2 J 130 0 (Int32.ofNat 0)) 155 (ovw (16 * i + vs) (by8 v n) (J 155))) 154 i (Int32.ofNat (vs + n))) g L)) (by omega) hn hi (by omega) ?_ n 0 (by omega))
  · rw [List.take_zero, ovw_nil, u1_id] at z
    exact z
  · rw [u2_a _ _ (by decide)]
    refine b_aln (pc2 := 137) d_Mo_put_136 rfl rfl ?_
    refine b_gr (pc2 := 140) d_Mo_put_137 q_11_84 (sh_130 n0) (by decide) (by decide) (p_130_34 n0) rfl ?_
    refine b_iln (pc2 := 141) d_Mo_put_140 rfl rfl ?_
    refine b_ic (pc2 := 142) (x := Int32.ofNat 1) d_Mo_put_141 rfl rfl ?_
    refine b_pure (pc2 := 143) d_Mo_put_142 rfl rfl rfl ?_
    rw [i_sub (by omega), show i + 1 - 1 = i by omega]
    refine b_il (pc2 := 145) d_Mo_put_143 rfl rfl ?_
    refine b_il (pc2 := 147) d_Mo_put_145 rfl rfl ?_
    refine b_pure (pc2 := 148) d_Mo_put_147 rfl rfl rfl ?_
    rw [i_add]
    refine b_ist (pc2 := 149) (q := i) d_Mo_put_148 (sh_154 n0) (i_in (show i < 10 by omega) (by decide)) (i_tn (by omega)) (rc_154) rfl ?_
    refine b_il (pc2 := 151) d_Mo_put_149 rfl rfl ?_
    refine b_il (pc2 := 153) d_Mo_put_151 rfl rfl ?_
    refine b_pure (pc2 := 154) d_Mo_put_153 rfl rfl rfl ?_
    rw [i_add]
    refine b_ir d_Mo_put_154 rfl ?_
    exact ⟨rfl, rfl, rfl, rfl, rfl⟩
theorem mo_put3 {d : Nat} (hd : 2 ≤ d) {b : Int32} {n ct i : Nat} (hi : i < 10) (hc : J 130 31 = Int32.ofNat ct) (hct : ct ≤ 10) (hic : i < ct) (hn : n ≤ 8) (hb : ¬ b = 0) : bm d (S0 n0) R0 131 [.ref 130, .int (Int32.ofNat (i + 1)), .int b, .long v, .int (Int32.ofNat n)] W J g L (bR (some (.int (Int32.ofNat (0 + n)))) W (am_u2 (am_u1 (am_u2 J 130 0 (Int32.ofNat 0)) 155 (ovw (16 * i + 0) (by8 v n) (J 155))) 154 i (Int32.ofNat (0 + n))) g L) := by
  obtain ⟨e, rfl⟩ : ∃ e, d = e + 1 := ⟨d - 1, by omega⟩
  refine bm_of (Nat.le_of_ble_eq_true rfl) (Or.inr bR_ret) ?_
  show bT e (S0 n0) R0 mt_Mo_put _ 0 [(0, .ref 130), (1, .int (Int32.ofNat (i + 1))), (2, .int b), (3, .long v), (5, .int (Int32.ofNat n))] [] W J g L 0 0
  have hSR := SR0 n0
  refine b_iln (pc2 := 1) d_Mo_put_0 rfl rfl ?_
  refine b_ic (pc2 := 2) (x := Int32.ofNat 1) d_Mo_put_1 rfl rfl ?_
  refine b_ifd (pc2 := 29) d_Mo_put_2 rfl rfl rfl rfl rfl (fun h2 => ?_) (fun h2 => ?_)
  · exact absurd h2 (fun z => by rw [i_lt (by omega) (by omega)] at z; omega)
  refine b_iln (pc2 := 6) d_Mo_put_5 rfl rfl ?_
  refine b_aln (pc2 := 7) d_Mo_put_6 rfl rfl ?_
  refine b_gi (pc2 := 10) d_Mo_put_7 q_11_212 (sh_130 n0) (by decide) (by decide) (rc_130) rfl ?_
  rw [hc]
  refine b_ifd (pc2 := 29) d_Mo_put_10 rfl rfl rfl rfl rfl (fun h10 => ?_) (fun h10 => ?_)
  · exact absurd h10 (fun z => by rw [i_lt (by omega) (by omega)] at z; omega)
  refine b_il (pc2 := 15) d_Mo_put_13 rfl rfl ?_
  refine b_ifd (pc2 := 29) d_Mo_put_15 rfl rfl rfl rfl rfl (fun h15 => ?_) (fun h15 => ?_)
  · exact absurd h15 (fun z => by rw [z_lt (by omega)] at z; omega)
  refine b_il (pc2 := 20) d_Mo_put_18 rfl rfl ?_
  refine b_bp (pc2 := 22) (x := Int32.ofNat 8) d_Mo_put_20 rfl rfl ?_
  refine b_ifd (pc2 := 29) d_Mo_put_22 rfl rfl rfl rfl rfl (fun h22 => ?_) (fun h22 => ?_)
  · exact absurd h22 (fun z => by rw [i_lt (by omega) (by omega)] at z; omega)
  refine b_ic (pc2 := 26) (x := Int32.ofNat 1) d_Mo_put_25 rfl rfl ?_
  refine b_go (pc2 := 30) d_Mo_put_26 rfl ?_
  refine b_is (pc2 := 32) (al2 := [(6, _), (0, _), (1, _), (2, _), (3, _), (5, _)]) d_Mo_put_30 (by decide) rfl rfl ?_
  refine b_il (pc2 := 34) d_Mo_put_32 rfl rfl ?_
  refine b_ifd (pc2 := 41) d_Mo_put_34 rfl rfl rfl rfl rfl (fun h34 => ?_) (fun h34 => ?_)
  · exact absurd h34 (by decide)
  refine b_iln (pc2 := 38) d_Mo_put_37 rfl rfl ?_
  refine b_ifd (pc2 := 45) d_Mo_put_38 rfl rfl rfl rfl rfl (fun h38 => ?_) (fun h38 => ?_)
  · exact absurd h38 (hb)
  refine b_ic (pc2 := 42) (x := Int32.ofNat 0) d_Mo_put_41 rfl rfl ?_
  refine b_go (pc2 := 53) d_Mo_put_42 rfl ?_
  refine b_is (pc2 := 55) (al2 := [(7, _), (6, _), (0, _), (1, _), (2, _), (3, _), (5, _)]) d_Mo_put_53 (by decide) rfl rfl ?_
  refine b_aln (pc2 := 56) d_Mo_put_55 rfl rfl ?_
  refine b_il (pc2 := 58) d_Mo_put_56 rfl rfl ?_
  refine b_ifd (pc2 := 65) d_Mo_put_58 rfl rfl rfl rfl rfl (fun h58 => ?_) (fun h58 => ?_)
  rotate_left
  · exact absurd (by decide) h58
  refine b_il (pc2 := 67) d_Mo_put_65 rfl rfl ?_
  refine b_il (pc2 := 69) d_Mo_put_67 rfl rfl ?_
  refine b_pure (pc2 := 70) d_Mo_put_69 rfl rfl rfl ?_
  rw [i_add]
  refine b_bp (pc2 := 72) (x := Int32.ofNat 16) d_Mo_put_70 rfl rfl ?_
  refine b_ifd (pc2 := 79) d_Mo_put_72 rfl rfl rfl rfl rfl (fun h72 => ?_) (fun h72 => ?_)
  rotate_left
  · exact absurd (by rw [i_le (by omega) (by omega)]; omega) h72
  refine b_ic (pc2 := 80) (x := Int32.ofNat 0) d_Mo_put_79 rfl rfl ?_
  refine b_pi (pc2 := 83) d_Mo_put_80 q_11_135 (sh_130 n0) (by decide) (Or.inl (by decide)) (Or.inl rfl) (rc_130) rfl ?_
  refine b_aln (pc2 := 84) d_Mo_put_83 rfl rfl ?_
  refine b_gi (pc2 := 87) d_Mo_put_84 q_11_135 (sh_130 n0) (by decide) (by decide) (rc_130) rfl ?_
  rw [u2_at]
  refine b_ifd (pc2 := 92) d_Mo_put_87 rfl rfl rfl rfl rfl (fun h87 => ?_) (fun h87 => ?_)
  rotate_left
  · exact absurd (by decide) h87
  refine b_ic (pc2 := 93) (x := Int32.ofNat 0) d_Mo_put_92 rfl rfl ?_
  refine b_is (pc2 := 95) (al2 := [(8, _), (7, _), (6, _), (0, _), (1, _), (2, _), (3, _), (5, _)]) d_Mo_put_93 (by decide) rfl rfl ?_
  refine b_nf (al := [(8, _), (0, _), (1, _), (3, _), (5, _), (7, _)]) (ks := [8, 0, 1, 3, 5, 7]) (sub_c rfl (sub_c rfl (sub_c rfl (sub_c rfl (sub_c rfl (sub_c rfl (sub_n))))))) rfl (by decide) ?_
  dsimp only
  refine (fun z => ?_ : _ → _) (lp_pu (n0 := n0) (W := W) (J := (am_u2 J 130 0 (Int32.ofNat 0))) (g := g) (L := L) (e := e) (v := v) (n := n) (i := i) (f := 0) (Qh := bw_Q (S0 n0) R0 (bR (some (.int (Int32.ofNat (0 + n)))) W (am_u2 (am_u1 (am_u2 J 130 0 (Int32.ofNat 0)) 155 (ovw (16 * i + 0) (by8 v n) (J 155))) 154 i (Int32.ofNat (0 + n))) g L)) (by omega) hn hi (by omega) ?_ n 0 (by omega))
  · rw [List.take_zero, ovw_nil, u1_id] at z
    exact z
  · rw [u2_a _ _ (by decide)]
    refine b_aln (pc2 := 137) d_Mo_put_136 rfl rfl ?_
    refine b_gr (pc2 := 140) d_Mo_put_137 q_11_84 (sh_130 n0) (by decide) (by decide) (p_130_34 n0) rfl ?_
    refine b_iln (pc2 := 141) d_Mo_put_140 rfl rfl ?_
    refine b_ic (pc2 := 142) (x := Int32.ofNat 1) d_Mo_put_141 rfl rfl ?_
    refine b_pure (pc2 := 143) d_Mo_put_142 rfl rfl rfl ?_
    rw [i_sub (by omega), show i + 1 - 1 = i by omega]
    refine b_il (pc2 := 145) d_Mo_put_143 rfl rfl ?_
    refine b_il (pc2 := 147) d_Mo_put_145 rfl rfl ?_
    refine b_pure (pc2 := 148) d_Mo_put_147 rfl rfl rfl ?_
    rw [i_add]
    refine b_ist (pc2 := 149) (q := i) d_Mo_put_148 (sh_154 n0) (i_in (show i < 10 by omega) (by decide)) (i_tn (by omega)) (rc_154) rfl ?_
    refine b_il (pc2 := 151) d_Mo_put_149 rfl rfl ?_
    refine b_il (pc2 := 153) d_Mo_put_151 rfl rfl ?_
    refine b_pure (pc2 := 154) d_Mo_put_153 rfl rfl rfl ?_
    rw [i_add]
    refine b_ir d_Mo_put_154 rfl ?_
    exact ⟨rfl, rfl, rfl, rfl, rfl⟩
theorem mo_tell0 {d : Nat} (hd : 3 ≤ d) {h b : Int32} (hb : ¬ (¬ h < Int32.ofNat 1 ∧ ¬ J 130 31 < h)) : bm d (S0 n0) R0 132 [.ref 130, .int h, .int b] W J g L (bR none W (am_u2 J 130 0 (Int32.ofNat 1)) g L) := by
  obtain ⟨e, rfl⟩ : ∃ e, d = e + 1 := ⟨d - 1, by omega⟩
  refine bm_of (Nat.le_of_ble_eq_true rfl) (Or.inr bR_ret) ?_
  show bT e (S0 n0) R0 mt_Mo_tell _ 0 [(0, .ref 130), (1, .int h), (2, .int b)] [] W J g L 0 0
  have hSR := SR0 n0
  refine b_aln (pc2 := 1) d_Mo_tell_0 rfl rfl ?_
  refine b_iln (pc2 := 2) d_Mo_tell_1 rfl rfl ?_
  refine b_ic (pc2 := 3) (x := Int32.ofNat 1) d_Mo_tell_2 rfl rfl ?_
  refine b_ifd (pc2 := 14) d_Mo_tell_3 rfl rfl rfl rfl rfl (fun h3 => ?_) (fun h3 => ?_)
  · refine b_ic (pc2 := 15) (x := Int32.ofNat 1) d_Mo_tell_14 rfl rfl ?_
    refine b_go (pc2 := 51) d_Mo_tell_15 rfl ?_
    refine b_pi (pc2 := 54) d_Mo_tell_51 q_11_135 (sh_130 n0) (by decide) (Or.inl (by decide)) (Or.inl rfl) (rc_130) rfl ?_
    refine b_aln (pc2 := 55) d_Mo_tell_54 rfl rfl ?_
    refine b_gi (pc2 := 58) d_Mo_tell_55 q_11_135 (sh_130 n0) (by decide) (by decide) (rc_130) rfl ?_
    rw [u2_at]
    refine b_ifd (pc2 := 62) d_Mo_tell_58 rfl rfl rfl rfl rfl (fun h58 => ?_) (fun h58 => ?_)
    · exact absurd h58 (by decide)
    refine b_vr d_Mo_tell_61 rfl ?_
    exact ⟨rfl, rfl, rfl, rfl, rfl⟩
  · refine b_iln (pc2 := 7) d_Mo_tell_6 rfl rfl ?_
    refine b_aln (pc2 := 8) d_Mo_tell_7 rfl rfl ?_
    refine b_gi (pc2 := 11) d_Mo_tell_8 q_11_212 (sh_130 n0) (by decide) (by decide) (rc_130) rfl ?_
    refine b_ifd (pc2 := 18) d_Mo_tell_11 rfl rfl rfl rfl rfl (fun h11 => ?_) (fun h11 => ?_)
    · exact absurd ⟨h3, Int32.not_lt.mpr h11⟩ hb
    · refine b_ic (pc2 := 15) (x := Int32.ofNat 1) d_Mo_tell_14 rfl rfl ?_
      refine b_go (pc2 := 51) d_Mo_tell_15 rfl ?_
      refine b_pi (pc2 := 54) d_Mo_tell_51 q_11_135 (sh_130 n0) (by decide) (Or.inl (by decide)) (Or.inl rfl) (rc_130) rfl ?_
      refine b_aln (pc2 := 55) d_Mo_tell_54 rfl rfl ?_
      refine b_gi (pc2 := 58) d_Mo_tell_55 q_11_135 (sh_130 n0) (by decide) (by decide) (rc_130) rfl ?_
      rw [u2_at]
      refine b_ifd (pc2 := 62) d_Mo_tell_58 rfl rfl rfl rfl rfl (fun h58 => ?_) (fun h58 => ?_)
      · exact absurd h58 (by decide)
      refine b_vr d_Mo_tell_61 rfl ?_
      exact ⟨rfl, rfl, rfl, rfl, rfl⟩
theorem mo_tell1 {d : Nat} (hd : 3 ≤ d) {h b : Int32} (hok : (¬ h < Int32.ofNat 1 ∧ ¬ J 130 31 < h)) (hx : ¬ (J 130 7 = 0 ∧ J 143 1 < Int32.ofNat 4 ∧ (b = 0 ∨ J 130 38 = 0))) : bm d (S0 n0) R0 132 [.ref 130, .int h, .int b] W J g L (bR none W (am_u2 J 130 0 (Int32.ofNat 2)) g L) := by
  obtain ⟨e, rfl⟩ : ∃ e, d = e + 1 := ⟨d - 1, by omega⟩
  refine bm_of (Nat.le_of_ble_eq_true rfl) (Or.inr bR_ret) ?_
  show bT e (S0 n0) R0 mt_Mo_tell _ 0 [(0, .ref 130), (1, .int h), (2, .int b)] [] W J g L 0 0
  have hSR := SR0 n0
  refine b_aln (pc2 := 1) d_Mo_tell_0 rfl rfl ?_
  refine b_iln (pc2 := 2) d_Mo_tell_1 rfl rfl ?_
  refine b_ic (pc2 := 3) (x := Int32.ofNat 1) d_Mo_tell_2 rfl rfl ?_
  refine b_ifd (pc2 := 14) d_Mo_tell_3 rfl rfl rfl rfl rfl (fun h3 => ?_) (fun h3 => ?_)
  · exact absurd h3 (hok.1)
  refine b_iln (pc2 := 7) d_Mo_tell_6 rfl rfl ?_
  refine b_aln (pc2 := 8) d_Mo_tell_7 rfl rfl ?_
  refine b_gi (pc2 := 11) d_Mo_tell_8 q_11_212 (sh_130 n0) (by decide) (by decide) (rc_130) rfl ?_
  refine b_ifd (pc2 := 18) d_Mo_tell_11 rfl rfl rfl rfl rfl (fun h11 => ?_) (fun h11 => ?_)
  rotate_left
  · exact absurd (Int32.not_lt.mp hok.2) h11
  refine b_aln (pc2 := 19) d_Mo_tell_18 rfl rfl ?_
  refine b_gi (pc2 := 22) d_Mo_tell_19 q_11_283 (sh_130 n0) (by decide) (by decide) (rc_130) rfl ?_
  refine b_ifd (pc2 := 46) d_Mo_tell_22 rfl rfl rfl rfl rfl (fun h22 => ?_) (fun h22 => ?_)
  · refine b_ic (pc2 := 47) (x := Int32.ofNat 2) d_Mo_tell_46 rfl rfl ?_
    refine b_go (pc2 := 51) d_Mo_tell_47 rfl ?_
    refine b_pi (pc2 := 54) d_Mo_tell_51 q_11_135 (sh_130 n0) (by decide) (Or.inl (by decide)) (Or.inl rfl) (rc_130) rfl ?_
    refine b_aln (pc2 := 55) d_Mo_tell_54 rfl rfl ?_
    refine b_gi (pc2 := 58) d_Mo_tell_55 q_11_135 (sh_130 n0) (by decide) (by decide) (rc_130) rfl ?_
    rw [u2_at]
    refine b_ifd (pc2 := 62) d_Mo_tell_58 rfl rfl rfl rfl rfl (fun h58 => ?_) (fun h58 => ?_)
    · exact absurd h58 (by decide)
    refine b_vr d_Mo_tell_61 rfl ?_
    exact ⟨rfl, rfl, rfl, rfl, rfl⟩
  · refine b_aln (pc2 := 26) d_Mo_tell_25 rfl rfl ?_
    refine b_gr (pc2 := 29) d_Mo_tell_26 q_11_51 (sh_130 n0) (by decide) (by decide) (p_130_20 n0) rfl ?_
    refine b_ic (pc2 := 30) (x := Int32.ofNat 1) d_Mo_tell_29 rfl rfl ?_
    refine b_ia (pc2 := 31) (q := 1) d_Mo_tell_30 (sh_143 n0) (i_in (i := 1) (by decide) (by decide)) (rfl) (rc_143) rfl ?_
    refine b_ic (pc2 := 32) (x := Int32.ofNat 4) d_Mo_tell_31 rfl rfl ?_
    refine b_ifd (pc2 := 46) d_Mo_tell_32 rfl rfl rfl rfl rfl (fun h32 => ?_) (fun h32 => ?_)
    · refine b_ic (pc2 := 47) (x := Int32.ofNat 2) d_Mo_tell_46 rfl rfl ?_
      refine b_go (pc2 := 51) d_Mo_tell_47 rfl ?_
      refine b_pi (pc2 := 54) d_Mo_tell_51 q_11_135 (sh_130 n0) (by decide) (Or.inl (by decide)) (Or.inl rfl) (rc_130) rfl ?_
      refine b_aln (pc2 := 55) d_Mo_tell_54 rfl rfl ?_
      refine b_gi (pc2 := 58) d_Mo_tell_55 q_11_135 (sh_130 n0) (by decide) (by decide) (rc_130) rfl ?_
      rw [u2_at]
      refine b_ifd (pc2 := 62) d_Mo_tell_58 rfl rfl rfl rfl rfl (fun h58 => ?_) (fun h58 => ?_)
      · exact absurd h58 (by decide)
      refine b_vr d_Mo_tell_61 rfl ?_
      exact ⟨rfl, rfl, rfl, rfl, rfl⟩
    · refine b_iln (pc2 := 36) d_Mo_tell_35 rfl rfl ?_
      refine b_ifd (pc2 := 50) d_Mo_tell_36 rfl rfl rfl rfl rfl (fun h36 => ?_) (fun h36 => ?_)
      · exact absurd ⟨Classical.not_not.mp h22, Int32.not_le.mp h32, Or.inl h36⟩ hx
      · refine b_aln (pc2 := 40) d_Mo_tell_39 rfl rfl ?_
        refine b_gi (pc2 := 43) d_Mo_tell_40 q_11_189 (sh_130 n0) (by decide) (by decide) (rc_130) rfl ?_
        refine b_ifd (pc2 := 50) d_Mo_tell_43 rfl rfl rfl rfl rfl (fun h43 => ?_) (fun h43 => ?_)
        · exact absurd ⟨Classical.not_not.mp h22, Int32.not_le.mp h32, Or.inr h43⟩ hx
        · refine b_ic (pc2 := 47) (x := Int32.ofNat 2) d_Mo_tell_46 rfl rfl ?_
          refine b_go (pc2 := 51) d_Mo_tell_47 rfl ?_
          refine b_pi (pc2 := 54) d_Mo_tell_51 q_11_135 (sh_130 n0) (by decide) (Or.inl (by decide)) (Or.inl rfl) (rc_130) rfl ?_
          refine b_aln (pc2 := 55) d_Mo_tell_54 rfl rfl ?_
          refine b_gi (pc2 := 58) d_Mo_tell_55 q_11_135 (sh_130 n0) (by decide) (by decide) (rc_130) rfl ?_
          rw [u2_at]
          refine b_ifd (pc2 := 62) d_Mo_tell_58 rfl rfl rfl rfl rfl (fun h58 => ?_) (fun h58 => ?_)
          · exact absurd h58 (by decide)
          refine b_vr d_Mo_tell_61 rfl ?_
          exact ⟨rfl, rfl, rfl, rfl, rfl⟩
theorem lp_tell {e : Nat} (he : 1 ≤ e) {i vs lm bb : Nat} (hi : i < 10) (hv : J 154 i = Int32.ofNat vs) (hvs : vs ≤ 16) (hlm : J 130 37 = Int32.ofNat lm) (hl1 : 8 ≤ lm) (hl2 : lm ≤ 20) (hbv : ∀ k, k < vs → J 155 (16 * i + k) &&& 255 = J 155 (16 * i + k)) {x0 x1 : Int32} (K : bH e (S0 n0) R0 mt_Mo_tell Qh 129 [(0, .ref 130), (1, .int (Int32.ofNat (i + 1))), (2, .int (Int32.ofNat bb))] [] W (mkJ J (x0 :: x1 :: lst (J 155) (16 * i) (min vs (lm - 2)))) g L 0 0) : ∀ (r j : Nat), j + r = (min vs (lm - 2)) → bH e (S0 n0) R0 mt_Mo_tell Qh 84 [(3, .int (Int32.ofNat j)), (0, .ref 130), (1, .int (Int32.ofNat (i + 1))), (2, .int (Int32.ofNat bb))] [] W (mkJ J (x0 :: x1 :: lst (J 155) (16 * i) j)) g L 0 0 := by
  intro r
  induction r with
  | zero =>
    intro j hj
    refine b_iln (pc2 := 85) d_Mo_tell_84 rfl rfl ?_
    refine b_aln (pc2 := 86) d_Mo_tell_85 rfl rfl ?_
    refine b_gr (pc2 := 89) d_Mo_tell_86 q_11_84 (sh_130 n0) (by decide) (by decide) (p_130_34 n0) rfl ?_
    refine b_iln (pc2 := 90) d_Mo_tell_89 rfl rfl ?_
    refine b_ic (pc2 := 91) (x := Int32.ofNat 1) d_Mo_tell_90 rfl rfl ?_
    refine b_pure (pc2 := 92) d_Mo_tell_91 rfl rfl rfl ?_
    rw [i_sub (by omega), show i + 1 - 1 = i by omega]
    refine b_ia (pc2 := 93) (q := i) d_Mo_tell_92 (sh_154 n0) (i_in (show i < 10 by omega) (by decide)) (i_tn (by omega)) (rc_154) rfl ?_
    rw [mkJ_c _ _ (by decide) (by decide), hv]
    refine b_ifd (pc2 := 129) d_Mo_tell_93 rfl rfl rfl rfl rfl (fun h93 => ?_) (fun h93 => ?_)
    · rw [i_le (by omega) (by omega)] at h93
      refine b_nf (al := [(0, _), (1, _), (2, _)]) (ks := [0, 1, 2]) (sub_c rfl (sub_c rfl (sub_c rfl (sub_n)))) rfl (by decide) ?_
      dsimp only
      rw [show j = (min vs (lm - 2)) by omega]
      exact K
    · rw [i_le (by omega) (by omega)] at h93
      refine b_iln (pc2 := 97) d_Mo_tell_96 rfl rfl ?_
      refine b_aln (pc2 := 98) d_Mo_tell_97 rfl rfl ?_
      refine b_gi (pc2 := 101) d_Mo_tell_98 q_11_93 (sh_130 n0) (by decide) (by decide) (rc_130) rfl ?_
      rw [mkJ_f _ _ (by decide), hlm]
      refine b_ic (pc2 := 102) (x := Int32.ofNat 2) d_Mo_tell_101 rfl rfl ?_
      refine b_pure (pc2 := 103) d_Mo_tell_102 rfl rfl rfl ?_
      rw [i_sub (by omega)]
      refine b_ifd (pc2 := 129) d_Mo_tell_103 rfl rfl rfl rfl rfl (fun h103 => ?_) (fun h103 => ?_)
      · rw [i_le (by omega) (by omega)] at h103
        refine b_nf (al := [(0, _), (1, _), (2, _)]) (ks := [0, 1, 2]) (sub_c rfl (sub_c rfl (sub_c rfl (sub_n)))) rfl (by decide) ?_
        dsimp only
        rw [show j = (min vs (lm - 2)) by omega]
        exact K
      · rw [i_le (by omega) (by omega)] at h103
        omega
  | succ r ih =>
    intro j hj
    refine b_iln (pc2 := 85) d_Mo_tell_84 rfl rfl ?_
    refine b_aln (pc2 := 86) d_Mo_tell_85 rfl rfl ?_
    refine b_gr (pc2 := 89) d_Mo_tell_86 q_11_84 (sh_130 n0) (by decide) (by decide) (p_130_34 n0) rfl ?_
    refine b_iln (pc2 := 90) d_Mo_tell_89 rfl rfl ?_
    refine b_ic (pc2 := 91) (x := Int32.ofNat 1) d_Mo_tell_90 rfl rfl ?_
    refine b_pure (pc2 := 92) d_Mo_tell_91 rfl rfl rfl ?_
    rw [i_sub (by omega), show i + 1 - 1 = i by omega]
    refine b_ia (pc2 := 93) (q := i) d_Mo_tell_92 (sh_154 n0) (i_in (show i < 10 by omega) (by decide)) (i_tn (by omega)) (rc_154) rfl ?_
    rw [mkJ_c _ _ (by decide) (by decide), hv]
    refine b_ifd (pc2 := 129) d_Mo_tell_93 rfl rfl rfl rfl rfl (fun h93 => ?_) (fun h93 => ?_)
    · exact absurd h93 (fun z => by rw [i_le (by omega) (by omega)] at z; omega)
    refine b_iln (pc2 := 97) d_Mo_tell_96 rfl rfl ?_
    refine b_aln (pc2 := 98) d_Mo_tell_97 rfl rfl ?_
    refine b_gi (pc2 := 101) d_Mo_tell_98 q_11_93 (sh_130 n0) (by decide) (by decide) (rc_130) rfl ?_
    rw [mkJ_f _ _ (by decide), hlm]
    refine b_ic (pc2 := 102) (x := Int32.ofNat 2) d_Mo_tell_101 rfl rfl ?_
    refine b_pure (pc2 := 103) d_Mo_tell_102 rfl rfl rfl ?_
    rw [i_sub (by omega)]
    refine b_ifd (pc2 := 129) d_Mo_tell_103 rfl rfl rfl rfl rfl (fun h103 => ?_) (fun h103 => ?_)
    · exact absurd h103 (fun z => by rw [i_le (by omega) (by omega)] at z; omega)
    refine b_aln (pc2 := 107) d_Mo_tell_106 rfl rfl ?_
    refine b_aln (pc2 := 108) d_Mo_tell_107 rfl rfl ?_
    refine b_gr (pc2 := 111) d_Mo_tell_108 q_11_87 (sh_130 n0) (by decide) (by decide) (p_130_35 n0) rfl ?_
    refine b_bp (pc2 := 113) (x := Int32.ofNat 16) d_Mo_tell_111 rfl rfl ?_
    refine b_iln (pc2 := 114) d_Mo_tell_113 rfl rfl ?_
    refine b_ic (pc2 := 115) (x := Int32.ofNat 1) d_Mo_tell_114 rfl rfl ?_
    refine b_pure (pc2 := 116) d_Mo_tell_115 rfl rfl rfl ?_
    rw [i_sub (by omega), show i + 1 - 1 = i by omega]
    refine b_pure (pc2 := 117) d_Mo_tell_116 rfl rfl rfl ?_
    rw [i_mul]
    refine b_iln (pc2 := 118) d_Mo_tell_117 rfl rfl ?_
    refine b_pure (pc2 := 119) d_Mo_tell_118 rfl rfl rfl ?_
    rw [i_add]
    refine b_ia (pc2 := 120) (q := (16 * i + j)) d_Mo_tell_119 (sh_155 n0) (i_in (show 16 * i + j < 160 by omega) (by decide)) (i_tn (by omega)) (rc_155) rfl ?_
    rw [mkJ_c _ _ (by decide) (by decide)]
    refine b_cv0 (pc2 := 123) (c2 := 0) (u2 := 0) (mo_lay (by omega) (by rw [List.length_cons, List.length_cons, lst_len]; omega)) d_Mo_tell_120 q_11_186 (Nat.le_of_ble_eq_true rfl) rfl rfl (sh_130 n0) (Nat.le_of_ble_eq_true rfl) rfl rfl (by decide) (by decide) rfl ?_
    rw [hbv _ (by omega), List.cons_append, List.cons_append, ← lst_app]
    refine b_inc (pc2 := 126) (al2 := [(3, _), (0, _), (1, _), (2, _)]) (y := Int32.ofNat 1) d_Mo_tell_123 (by decide) rfl rfl rfl rfl ?_
    rw [i_add]
    refine b_go (pc2 := 84) d_Mo_tell_126 rfl ?_
    refine b_nf (al := [(3, _), (0, _), (1, _), (2, _)]) (ks := [3, 0, 1, 2]) (sub_c rfl (sub_c rfl (sub_c rfl (sub_c rfl (sub_n))))) rfl (by decide) ?_
    dsimp only
    exact ih (j + 1) (by omega)
theorem mo_tell2_0 {d : Nat} (hd : 3 ≤ d) {i vs lm ct w : Nat} (hc : J 130 31 = Int32.ofNat ct) (hct : ct ≤ 10) (hic : i < ct) (hdn : J 130 7 = Int32.ofNat 0) (hw : J 143 1 = Int32.ofNat w) (hw4 : w < 4) (hi : i < 10) (hv : J 154 i = Int32.ofNat vs) (hvs : vs ≤ 16) (hlm : J 130 37 = Int32.ofNat lm) (hl1 : 8 ≤ lm) (hl2 : lm ≤ 20) (hbv : ∀ k, k < vs → J 155 (16 * i + k) &&& 255 = J 155 (16 * i + k)) {ind : Nat} (hind : J1 130 38 = Int32.ofNat ind) (hind2 : ind ≤ 1) (hG : ∀ e, 1 ≤ e → bm e (S0 n0) R0 135 [.ref 130, .int (Int32.ofNat 1)] W (mkJ (am_u2 J 130 0 (Int32.ofNat 0)) (Int32.ofNat 27 :: Int32.ofNat (i + 1) :: lst (J 155) (16 * i) (min vs (lm - 2)))) g L (bR none W J1 g L)) : bm d (S0 n0) R0 132 [.ref 130, .int (Int32.ofNat (i + 1)), .int (Int32.ofNat 0)] W J g L (bR none W (am_u2 J1 130 38 (Int32.ofNat ind)) g L) := by
  obtain ⟨e, rfl⟩ : ∃ e, d = e + 1 := ⟨d - 1, by omega⟩
  refine bm_of (Nat.le_of_ble_eq_true rfl) (Or.inr bR_ret) ?_
  show bT e (S0 n0) R0 mt_Mo_tell _ 0 [(0, .ref 130), (1, .int (Int32.ofNat (i + 1))), (2, .int (Int32.ofNat 0))] [] W J g L 0 0
  have hSR := SR0 n0
  refine b_aln (pc2 := 1) d_Mo_tell_0 rfl rfl ?_
  refine b_iln (pc2 := 2) d_Mo_tell_1 rfl rfl ?_
  refine b_ic (pc2 := 3) (x := Int32.ofNat 1) d_Mo_tell_2 rfl rfl ?_
  refine b_ifd (pc2 := 14) d_Mo_tell_3 rfl rfl rfl rfl rfl (fun h3 => ?_) (fun h3 => ?_)
  · exact absurd h3 (fun z => by rw [i_lt (by omega) (by omega)] at z; omega)
  refine b_iln (pc2 := 7) d_Mo_tell_6 rfl rfl ?_
  refine b_aln (pc2 := 8) d_Mo_tell_7 rfl rfl ?_
  refine b_gi (pc2 := 11) d_Mo_tell_8 q_11_212 (sh_130 n0) (by decide) (by decide) (rc_130) rfl ?_
  rw [hc]
  refine b_ifd (pc2 := 18) d_Mo_tell_11 rfl rfl rfl rfl rfl (fun h11 => ?_) (fun h11 => ?_)
  rotate_left
  · exact absurd (by rw [i_le (by omega) (by omega)]; omega) h11
  refine b_aln (pc2 := 19) d_Mo_tell_18 rfl rfl ?_
  refine b_gi (pc2 := 22) d_Mo_tell_19 q_11_283 (sh_130 n0) (by decide) (by decide) (rc_130) rfl ?_
  rw [hdn]
  refine b_ifd (pc2 := 46) d_Mo_tell_22 rfl rfl rfl rfl rfl (fun h22 => ?_) (fun h22 => ?_)
  · exact absurd h22 (by decide)
  refine b_aln (pc2 := 26) d_Mo_tell_25 rfl rfl ?_
  refine b_gr (pc2 := 29) d_Mo_tell_26 q_11_51 (sh_130 n0) (by decide) (by decide) (p_130_20 n0) rfl ?_
  refine b_ic (pc2 := 30) (x := Int32.ofNat 1) d_Mo_tell_29 rfl rfl ?_
  refine b_ia (pc2 := 31) (q := 1) d_Mo_tell_30 (sh_143 n0) (i_in (i := 1) (by decide) (by decide)) (rfl) (rc_143) rfl ?_
  rw [hw]
  refine b_ic (pc2 := 32) (x := Int32.ofNat 4) d_Mo_tell_31 rfl rfl ?_
  refine b_ifd (pc2 := 46) d_Mo_tell_32 rfl rfl rfl rfl rfl (fun h32 => ?_) (fun h32 => ?_)
  · exact absurd h32 (fun z => by rw [i_le (by omega) (by omega)] at z; omega)
  refine b_iln (pc2 := 36) d_Mo_tell_35 rfl rfl ?_
  refine b_ifd (pc2 := 50) d_Mo_tell_36 rfl rfl rfl rfl rfl (fun h36 => ?_) (fun h36 => ?_)
  rotate_left
  · exact absurd (by decide) h36
  refine b_ic (pc2 := 51) (x := Int32.ofNat 0) d_Mo_tell_50 rfl rfl ?_
  refine b_pi (pc2 := 54) d_Mo_tell_51 q_11_135 (sh_130 n0) (by decide) (Or.inl (by decide)) (Or.inl rfl) (rc_130) rfl ?_
  refine b_aln (pc2 := 55) d_Mo_tell_54 rfl rfl ?_
  refine b_gi (pc2 := 58) d_Mo_tell_55 q_11_135 (sh_130 n0) (by decide) (by decide) (rc_130) rfl ?_
  rw [u2_at]
  refine b_ifd (pc2 := 62) d_Mo_tell_58 rfl rfl rfl rfl rfl (fun h58 => ?_) (fun h58 => ?_)
  rotate_left
  · exact absurd (by decide) h58
  refine b_aln (pc2 := 63) d_Mo_tell_62 rfl rfl ?_
  refine b_iln (pc2 := 64) d_Mo_tell_63 rfl rfl ?_
  refine b_ifd (pc2 := 72) d_Mo_tell_64 rfl rfl rfl rfl rfl (fun h64 => ?_) (fun h64 => ?_)
  rotate_left
  · exact absurd (by decide) h64
  refine b_bp (pc2 := 74) (x := Int32.ofNat 27) d_Mo_tell_72 rfl rfl ?_
  refine b_cv0 (pc2 := 77) (c2 := 0) (u2 := 0) (mo_start (by omega)) d_Mo_tell_74 q_11_183 (Nat.le_of_ble_eq_true rfl) rfl rfl (sh_130 n0) (Nat.le_of_ble_eq_true rfl) rfl rfl (by decide) (by decide) rfl ?_
  rw [show Int32.ofNat 27 &&& 255 = Int32.ofNat 27 from rfl]
  refine b_aln (pc2 := 78) d_Mo_tell_77 rfl rfl ?_
  refine b_iln (pc2 := 79) d_Mo_tell_78 rfl rfl ?_
  refine b_cv0 (pc2 := 82) (c2 := 0) (u2 := 0) (mo_lay (by omega) (by show 1 < 40; decide)) d_Mo_tell_79 q_11_186 (Nat.le_of_ble_eq_true rfl) rfl rfl (sh_130 n0) (Nat.le_of_ble_eq_true rfl) rfl rfl (by decide) (by decide) rfl ?_
  rw [b255 (by omega)]
  refine b_ic (pc2 := 83) (x := Int32.ofNat 0) d_Mo_tell_82 rfl rfl ?_
  refine b_isn (pc2 := 84) (al2 := [(3, _), (0, _), (1, _), (2, _)]) d_Mo_tell_83 (by decide) rfl rfl ?_
  refine b_nf (al := [(3, _), (0, _), (1, _), (2, _)]) (ks := [3, 0, 1, 2]) (sub_c rfl (sub_c rfl (sub_c rfl (sub_c rfl (sub_n))))) rfl (by decide) ?_
  dsimp only
  have hK : ∀ c, ¬ c = 130 → (am_u2 J 130 0 (Int32.ofNat 0)) c = J c := fun c a1 => u2_a _ _ a1
  refine (fun z => ?_ : _ → _) (lp_tell (n0 := n0) (W := W) (J := (am_u2 J 130 0 (Int32.ofNat 0))) (g := g) (L := L) (e := e) (i := i) (vs := vs) (lm := lm) (bb := 0) (x0 := Int32.ofNat 27) (x1 := Int32.ofNat (i + 1)) (Qh := bw_Q (S0 n0) R0 (bR none W (am_u2 J1 130 38 (Int32.ofNat ind)) g L)) (by omega) hi (by rw [hK 154 (by decide)]; exact hv) hvs (by rw [u2_k _ _ (by decide)]; exact hlm) hl1 hl2 (by rw [hK 155 (by decide)]; exact hbv) ?_ (min vs (lm - 2)) 0 (by omega))
  · exact z
  · rw [hK 155 (by decide)]
    refine b_aln (pc2 := 130) d_Mo_tell_129 rfl rfl ?_
    refine b_ic (pc2 := 131) (x := Int32.ofNat 1) d_Mo_tell_130 rfl rfl ?_
    refine b_cv0 (pc2 := 134) (c2 := 0) (u2 := 0) (hG e (by omega)) d_Mo_tell_131 q_11_149 (Nat.le_of_ble_eq_true rfl) rfl rfl (sh_130 n0) (Nat.le_of_ble_eq_true rfl) rfl rfl (by decide) (by decide) rfl ?_
    refine b_aln (pc2 := 135) d_Mo_tell_134 rfl rfl ?_
    refine b_aln (pc2 := 136) d_Mo_tell_135 rfl rfl ?_
    refine b_gi (pc2 := 139) d_Mo_tell_136 q_11_189 (sh_130 n0) (by decide) (by decide) (rc_130) rfl ?_
    rw [hind]
    refine b_ifd (pc2 := 146) d_Mo_tell_139 rfl rfl rfl rfl rfl (fun h139 => ?_) (fun h139 => ?_)
    · rw [z_eq (by omega)] at h139
      have e1 : ind = 1 := by omega
      subst e1
      refine b_ic (pc2 := 147) (x := Int32.ofNat 1) d_Mo_tell_146 rfl rfl ?_
      refine b_go (pc2 := 151) d_Mo_tell_147 rfl ?_
      refine b_pi (pc2 := 154) d_Mo_tell_151 q_11_189 (sh_130 n0) (by decide) (Or.inl (by decide)) (Or.inr ⟨rfl, by decide⟩) (rc_130) rfl ?_
      refine b_vr d_Mo_tell_154 rfl ?_
      exact ⟨rfl, rfl, rfl, rfl, rfl⟩
    · rw [z_eq (by omega)] at h139
      refine b_iln (pc2 := 143) d_Mo_tell_142 rfl rfl ?_
      refine b_ifd (pc2 := 150) d_Mo_tell_143 rfl rfl rfl rfl rfl (fun h143 => ?_) (fun h143 => ?_)
      rotate_left
      · exact absurd (by decide) h143
      have e1 : ind = 0 := by omega
      subst e1
      refine b_ic (pc2 := 151) (x := Int32.ofNat 0) d_Mo_tell_150 rfl rfl ?_
      refine b_pi (pc2 := 154) d_Mo_tell_151 q_11_189 (sh_130 n0) (by decide) (Or.inl (by decide)) (Or.inr ⟨rfl, by decide⟩) (rc_130) rfl ?_
      refine b_vr d_Mo_tell_154 rfl ?_
      exact ⟨rfl, rfl, rfl, rfl, rfl⟩
theorem mo_tell2_1 {d : Nat} (hd : 3 ≤ d) {i vs lm ct w : Nat} (hc : J 130 31 = Int32.ofNat ct) (hct : ct ≤ 10) (hic : i < ct) (hdn : J 130 7 = Int32.ofNat 0) (hw : J 143 1 = Int32.ofNat w) (hw4 : w < 4) (hin0 : J 130 38 = Int32.ofNat 0) (hi : i < 10) (hv : J 154 i = Int32.ofNat vs) (hvs : vs ≤ 16) (hlm : J 130 37 = Int32.ofNat lm) (hl1 : 8 ≤ lm) (hl2 : lm ≤ 20) (hbv : ∀ k, k < vs → J 155 (16 * i + k) &&& 255 = J 155 (16 * i + k)) (hind : J1 130 38 = Int32.ofNat 0) (hG : ∀ e, 1 ≤ e → bm e (S0 n0) R0 135 [.ref 130, .int (Int32.ofNat 1)] W (mkJ (am_u2 J 130 0 (Int32.ofNat 0)) (Int32.ofNat 29 :: Int32.ofNat (i + 1) :: lst (J 155) (16 * i) (min vs (lm - 2)))) g L (bR none W J1 g L)) : bm d (S0 n0) R0 132 [.ref 130, .int (Int32.ofNat (i + 1)), .int (Int32.ofNat 1)] W J g L (bR none W (am_u2 J1 130 38 (Int32.ofNat 1)) g L) := by
  obtain ⟨e, rfl⟩ : ∃ e, d = e + 1 := ⟨d - 1, by omega⟩
  refine bm_of (Nat.le_of_ble_eq_true rfl) (Or.inr bR_ret) ?_
  show bT e (S0 n0) R0 mt_Mo_tell _ 0 [(0, .ref 130), (1, .int (Int32.ofNat (i + 1))), (2, .int (Int32.ofNat 1))] [] W J g L 0 0
  have hSR := SR0 n0
  refine b_aln (pc2 := 1) d_Mo_tell_0 rfl rfl ?_
  refine b_iln (pc2 := 2) d_Mo_tell_1 rfl rfl ?_
  refine b_ic (pc2 := 3) (x := Int32.ofNat 1) d_Mo_tell_2 rfl rfl ?_
  refine b_ifd (pc2 := 14) d_Mo_tell_3 rfl rfl rfl rfl rfl (fun h3 => ?_) (fun h3 => ?_)
  · exact absurd h3 (fun z => by rw [i_lt (by omega) (by omega)] at z; omega)
  refine b_iln (pc2 := 7) d_Mo_tell_6 rfl rfl ?_
  refine b_aln (pc2 := 8) d_Mo_tell_7 rfl rfl ?_
  refine b_gi (pc2 := 11) d_Mo_tell_8 q_11_212 (sh_130 n0) (by decide) (by decide) (rc_130) rfl ?_
  rw [hc]
  refine b_ifd (pc2 := 18) d_Mo_tell_11 rfl rfl rfl rfl rfl (fun h11 => ?_) (fun h11 => ?_)
  rotate_left
  · exact absurd (by rw [i_le (by omega) (by omega)]; omega) h11
  refine b_aln (pc2 := 19) d_Mo_tell_18 rfl rfl ?_
  refine b_gi (pc2 := 22) d_Mo_tell_19 q_11_283 (sh_130 n0) (by decide) (by decide) (rc_130) rfl ?_
  rw [hdn]
  refine b_ifd (pc2 := 46) d_Mo_tell_22 rfl rfl rfl rfl rfl (fun h22 => ?_) (fun h22 => ?_)
  · exact absurd h22 (by decide)
  refine b_aln (pc2 := 26) d_Mo_tell_25 rfl rfl ?_
  refine b_gr (pc2 := 29) d_Mo_tell_26 q_11_51 (sh_130 n0) (by decide) (by decide) (p_130_20 n0) rfl ?_
  refine b_ic (pc2 := 30) (x := Int32.ofNat 1) d_Mo_tell_29 rfl rfl ?_
  refine b_ia (pc2 := 31) (q := 1) d_Mo_tell_30 (sh_143 n0) (i_in (i := 1) (by decide) (by decide)) (rfl) (rc_143) rfl ?_
  rw [hw]
  refine b_ic (pc2 := 32) (x := Int32.ofNat 4) d_Mo_tell_31 rfl rfl ?_
  refine b_ifd (pc2 := 46) d_Mo_tell_32 rfl rfl rfl rfl rfl (fun h32 => ?_) (fun h32 => ?_)
  · exact absurd h32 (fun z => by rw [i_le (by omega) (by omega)] at z; omega)
  refine b_iln (pc2 := 36) d_Mo_tell_35 rfl rfl ?_
  refine b_ifd (pc2 := 50) d_Mo_tell_36 rfl rfl rfl rfl rfl (fun h36 => ?_) (fun h36 => ?_)
  · exact absurd h36 (by decide)
  refine b_aln (pc2 := 40) d_Mo_tell_39 rfl rfl ?_
  refine b_gi (pc2 := 43) d_Mo_tell_40 q_11_189 (sh_130 n0) (by decide) (by decide) (rc_130) rfl ?_
  rw [hin0]
  refine b_ifd (pc2 := 50) d_Mo_tell_43 rfl rfl rfl rfl rfl (fun h43 => ?_) (fun h43 => ?_)
  rotate_left
  · exact absurd (by decide) h43
  refine b_ic (pc2 := 51) (x := Int32.ofNat 0) d_Mo_tell_50 rfl rfl ?_
  refine b_pi (pc2 := 54) d_Mo_tell_51 q_11_135 (sh_130 n0) (by decide) (Or.inl (by decide)) (Or.inl rfl) (rc_130) rfl ?_
  refine b_aln (pc2 := 55) d_Mo_tell_54 rfl rfl ?_
  refine b_gi (pc2 := 58) d_Mo_tell_55 q_11_135 (sh_130 n0) (by decide) (by decide) (rc_130) rfl ?_
  rw [u2_at]
  refine b_ifd (pc2 := 62) d_Mo_tell_58 rfl rfl rfl rfl rfl (fun h58 => ?_) (fun h58 => ?_)
  rotate_left
  · exact absurd (by decide) h58
  refine b_aln (pc2 := 63) d_Mo_tell_62 rfl rfl ?_
  refine b_iln (pc2 := 64) d_Mo_tell_63 rfl rfl ?_
  refine b_ifd (pc2 := 72) d_Mo_tell_64 rfl rfl rfl rfl rfl (fun h64 => ?_) (fun h64 => ?_)
  · exact absurd h64 (by decide)
  refine b_bp (pc2 := 69) (x := Int32.ofNat 29) d_Mo_tell_67 rfl rfl ?_
  refine b_go (pc2 := 74) d_Mo_tell_69 rfl ?_
  refine b_cv0 (pc2 := 77) (c2 := 0) (u2 := 0) (mo_start (by omega)) d_Mo_tell_74 q_11_183 (Nat.le_of_ble_eq_true rfl) rfl rfl (sh_130 n0) (Nat.le_of_ble_eq_true rfl) rfl rfl (by decide) (by decide) rfl ?_
  rw [show Int32.ofNat 29 &&& 255 = Int32.ofNat 29 from rfl]
  refine b_aln (pc2 := 78) d_Mo_tell_77 rfl rfl ?_
  refine b_iln (pc2 := 79) d_Mo_tell_78 rfl rfl ?_
  refine b_cv0 (pc2 := 82) (c2 := 0) (u2 := 0) (mo_lay (by omega) (by show 1 < 40; decide)) d_Mo_tell_79 q_11_186 (Nat.le_of_ble_eq_true rfl) rfl rfl (sh_130 n0) (Nat.le_of_ble_eq_true rfl) rfl rfl (by decide) (by decide) rfl ?_
  rw [b255 (by omega)]
  refine b_ic (pc2 := 83) (x := Int32.ofNat 0) d_Mo_tell_82 rfl rfl ?_
  refine b_isn (pc2 := 84) (al2 := [(3, _), (0, _), (1, _), (2, _)]) d_Mo_tell_83 (by decide) rfl rfl ?_
  refine b_nf (al := [(3, _), (0, _), (1, _), (2, _)]) (ks := [3, 0, 1, 2]) (sub_c rfl (sub_c rfl (sub_c rfl (sub_c rfl (sub_n))))) rfl (by decide) ?_
  dsimp only
  have hK : ∀ c, ¬ c = 130 → (am_u2 J 130 0 (Int32.ofNat 0)) c = J c := fun c a1 => u2_a _ _ a1
  refine (fun z => ?_ : _ → _) (lp_tell (n0 := n0) (W := W) (J := (am_u2 J 130 0 (Int32.ofNat 0))) (g := g) (L := L) (e := e) (i := i) (vs := vs) (lm := lm) (bb := 1) (x0 := Int32.ofNat 29) (x1 := Int32.ofNat (i + 1)) (Qh := bw_Q (S0 n0) R0 (bR none W (am_u2 J1 130 38 (Int32.ofNat 1)) g L)) (by omega) hi (by rw [hK 154 (by decide)]; exact hv) hvs (by rw [u2_k _ _ (by decide)]; exact hlm) hl1 hl2 (by rw [hK 155 (by decide)]; exact hbv) ?_ (min vs (lm - 2)) 0 (by omega))
  · exact z
  · rw [hK 155 (by decide)]
    refine b_aln (pc2 := 130) d_Mo_tell_129 rfl rfl ?_
    refine b_ic (pc2 := 131) (x := Int32.ofNat 1) d_Mo_tell_130 rfl rfl ?_
    refine b_cv0 (pc2 := 134) (c2 := 0) (u2 := 0) (hG e (by omega)) d_Mo_tell_131 q_11_149 (Nat.le_of_ble_eq_true rfl) rfl rfl (sh_130 n0) (Nat.le_of_ble_eq_true rfl) rfl rfl (by decide) (by decide) rfl ?_
    refine b_aln (pc2 := 135) d_Mo_tell_134 rfl rfl ?_
    refine b_aln (pc2 := 136) d_Mo_tell_135 rfl rfl ?_
    refine b_gi (pc2 := 139) d_Mo_tell_136 q_11_189 (sh_130 n0) (by decide) (by decide) (rc_130) rfl ?_
    rw [hind]
    refine b_ifd (pc2 := 146) d_Mo_tell_139 rfl rfl rfl rfl rfl (fun h139 => ?_) (fun h139 => ?_)
    · exact absurd h139 (by decide)
    refine b_iln (pc2 := 143) d_Mo_tell_142 rfl rfl ?_
    refine b_ifd (pc2 := 150) d_Mo_tell_143 rfl rfl rfl rfl rfl (fun h143 => ?_) (fun h143 => ?_)
    · exact absurd h143 (by decide)
    skip
    refine b_ic (pc2 := 147) (x := Int32.ofNat 1) d_Mo_tell_146 rfl rfl ?_
    refine b_go (pc2 := 151) d_Mo_tell_147 rfl ?_
    refine b_pi (pc2 := 154) d_Mo_tell_151 q_11_189 (sh_130 n0) (by decide) (Or.inl (by decide)) (Or.inr ⟨rfl, by decide⟩) (rc_130) rfl ?_
    refine b_vr d_Mo_tell_154 rfl ?_
    exact ⟨rfl, rfl, rfl, rfl, rfl⟩
theorem mo_begin0 {d : Nat} (hd : 3 ≤ d) {op a : Int32} (hb : ¬ (¬ op < 0 ∧ ¬ Int32.ofNat 3 < op ∧ (¬ a < 0 ∧ ¬ Int32.ofNat 255 < a))) : bm d (S0 n0) R0 136 [.ref 130, .int op, .int a] W J g L (bR none W (am_u2 J 130 0 (Int32.ofNat 1)) g L) := by
  obtain ⟨e, rfl⟩ : ∃ e, d = e + 1 := ⟨d - 1, by omega⟩
  refine bm_of (Nat.le_of_ble_eq_true rfl) (Or.inr bR_ret) ?_
  show bT e (S0 n0) R0 mt_Mo_begin _ 0 [(0, .ref 130), (1, .int op), (2, .int a)] [] W J g L 0 0
  have hSR := SR0 n0
  refine b_aln (pc2 := 1) d_Mo_begin_0 rfl rfl ?_
  refine b_iln (pc2 := 2) d_Mo_begin_1 rfl rfl ?_
  refine b_ifd (pc2 := 21) d_Mo_begin_2 rfl rfl rfl rfl rfl (fun h2 => ?_) (fun h2 => ?_)
  · refine b_ic (pc2 := 22) (x := Int32.ofNat 1) d_Mo_begin_21 rfl rfl ?_
    refine b_go (pc2 := 37) d_Mo_begin_22 rfl ?_
    refine b_pi (pc2 := 40) d_Mo_begin_37 q_11_135 (sh_130 n0) (by decide) (Or.inl (by decide)) (Or.inl rfl) (rc_130) rfl ?_
    refine b_aln (pc2 := 41) d_Mo_begin_40 rfl rfl ?_
    refine b_gi (pc2 := 44) d_Mo_begin_41 q_11_135 (sh_130 n0) (by decide) (by decide) (rc_130) rfl ?_
    rw [u2_at]
    refine b_ifd (pc2 := 48) d_Mo_begin_44 rfl rfl rfl rfl rfl (fun h44 => ?_) (fun h44 => ?_)
    · exact absurd h44 (by decide)
    refine b_vr d_Mo_begin_47 rfl ?_
    exact ⟨rfl, rfl, rfl, rfl, rfl⟩
  · refine b_iln (pc2 := 6) d_Mo_begin_5 rfl rfl ?_
    refine b_ic (pc2 := 7) (x := Int32.ofNat 3) d_Mo_begin_6 rfl rfl ?_
    refine b_ifd (pc2 := 21) d_Mo_begin_7 rfl rfl rfl rfl rfl (fun h7 => ?_) (fun h7 => ?_)
    · refine b_ic (pc2 := 22) (x := Int32.ofNat 1) d_Mo_begin_21 rfl rfl ?_
      refine b_go (pc2 := 37) d_Mo_begin_22 rfl ?_
      refine b_pi (pc2 := 40) d_Mo_begin_37 q_11_135 (sh_130 n0) (by decide) (Or.inl (by decide)) (Or.inl rfl) (rc_130) rfl ?_
      refine b_aln (pc2 := 41) d_Mo_begin_40 rfl rfl ?_
      refine b_gi (pc2 := 44) d_Mo_begin_41 q_11_135 (sh_130 n0) (by decide) (by decide) (rc_130) rfl ?_
      rw [u2_at]
      refine b_ifd (pc2 := 48) d_Mo_begin_44 rfl rfl rfl rfl rfl (fun h44 => ?_) (fun h44 => ?_)
      · exact absurd h44 (by decide)
      refine b_vr d_Mo_begin_47 rfl ?_
      exact ⟨rfl, rfl, rfl, rfl, rfl⟩
    · refine b_iln (pc2 := 11) d_Mo_begin_10 rfl rfl ?_
      refine b_ifd (pc2 := 21) d_Mo_begin_11 rfl rfl rfl rfl rfl (fun h11 => ?_) (fun h11 => ?_)
      · refine b_ic (pc2 := 22) (x := Int32.ofNat 1) d_Mo_begin_21 rfl rfl ?_
        refine b_go (pc2 := 37) d_Mo_begin_22 rfl ?_
        refine b_pi (pc2 := 40) d_Mo_begin_37 q_11_135 (sh_130 n0) (by decide) (Or.inl (by decide)) (Or.inl rfl) (rc_130) rfl ?_
        refine b_aln (pc2 := 41) d_Mo_begin_40 rfl rfl ?_
        refine b_gi (pc2 := 44) d_Mo_begin_41 q_11_135 (sh_130 n0) (by decide) (by decide) (rc_130) rfl ?_
        rw [u2_at]
        refine b_ifd (pc2 := 48) d_Mo_begin_44 rfl rfl rfl rfl rfl (fun h44 => ?_) (fun h44 => ?_)
        · exact absurd h44 (by decide)
        refine b_vr d_Mo_begin_47 rfl ?_
        exact ⟨rfl, rfl, rfl, rfl, rfl⟩
      · refine b_iln (pc2 := 15) d_Mo_begin_14 rfl rfl ?_
        refine b_sp (pc2 := 18) (x := Int32.ofNat 255) d_Mo_begin_15 rfl rfl ?_
        refine b_ifd (pc2 := 25) d_Mo_begin_18 rfl rfl rfl rfl rfl (fun h18 => ?_) (fun h18 => ?_)
        · exact absurd ⟨h2, h7, h11, Int32.not_lt.mpr h18⟩ hb
        · refine b_ic (pc2 := 22) (x := Int32.ofNat 1) d_Mo_begin_21 rfl rfl ?_
          refine b_go (pc2 := 37) d_Mo_begin_22 rfl ?_
          refine b_pi (pc2 := 40) d_Mo_begin_37 q_11_135 (sh_130 n0) (by decide) (Or.inl (by decide)) (Or.inl rfl) (rc_130) rfl ?_
          refine b_aln (pc2 := 41) d_Mo_begin_40 rfl rfl ?_
          refine b_gi (pc2 := 44) d_Mo_begin_41 q_11_135 (sh_130 n0) (by decide) (by decide) (rc_130) rfl ?_
          rw [u2_at]
          refine b_ifd (pc2 := 48) d_Mo_begin_44 rfl rfl rfl rfl rfl (fun h44 => ?_) (fun h44 => ?_)
          · exact absurd h44 (by decide)
          refine b_vr d_Mo_begin_47 rfl ?_
          exact ⟨rfl, rfl, rfl, rfl, rfl⟩
theorem mo_begin1 {d : Nat} (hd : 3 ≤ d) {op a : Int32} (hok : (¬ op < 0 ∧ ¬ Int32.ofNat 3 < op ∧ (¬ a < 0 ∧ ¬ Int32.ofNat 255 < a))) (hm : ¬ (J 130 7 = 0 ∧ (J 130 47 = Int32.ofNat 1 ∨ J 130 47 = Int32.ofNat 2))) : bm d (S0 n0) R0 136 [.ref 130, .int op, .int a] W J g L (bR none W (am_u2 J 130 0 (Int32.ofNat 2)) g L) := by
  obtain ⟨e, rfl⟩ : ∃ e, d = e + 1 := ⟨d - 1, by omega⟩
  refine bm_of (Nat.le_of_ble_eq_true rfl) (Or.inr bR_ret) ?_
  show bT e (S0 n0) R0 mt_Mo_begin _ 0 [(0, .ref 130), (1, .int op), (2, .int a)] [] W J g L 0 0
  have hSR := SR0 n0
  refine b_aln (pc2 := 1) d_Mo_begin_0 rfl rfl ?_
  refine b_iln (pc2 := 2) d_Mo_begin_1 rfl rfl ?_
  refine b_ifd (pc2 := 21) d_Mo_begin_2 rfl rfl rfl rfl rfl (fun h2 => ?_) (fun h2 => ?_)
  · exact absurd h2 (hok.1)
  refine b_iln (pc2 := 6) d_Mo_begin_5 rfl rfl ?_
  refine b_ic (pc2 := 7) (x := Int32.ofNat 3) d_Mo_begin_6 rfl rfl ?_
  refine b_ifd (pc2 := 21) d_Mo_begin_7 rfl rfl rfl rfl rfl (fun h7 => ?_) (fun h7 => ?_)
  · exact absurd h7 (hok.2.1)
  refine b_iln (pc2 := 11) d_Mo_begin_10 rfl rfl ?_
  refine b_ifd (pc2 := 21) d_Mo_begin_11 rfl rfl rfl rfl rfl (fun h11 => ?_) (fun h11 => ?_)
  · exact absurd h11 (hok.2.2.1)
  refine b_iln (pc2 := 15) d_Mo_begin_14 rfl rfl ?_
  refine b_sp (pc2 := 18) (x := Int32.ofNat 255) d_Mo_begin_15 rfl rfl ?_
  refine b_ifd (pc2 := 25) d_Mo_begin_18 rfl rfl rfl rfl rfl (fun h18 => ?_) (fun h18 => ?_)
  rotate_left
  · exact absurd (Int32.not_lt.mp hok.2.2.2) h18
  refine b_aln (pc2 := 26) d_Mo_begin_25 rfl rfl ?_
  refine b_cv1 (pc2 := 29) (c2 := 0) (u2 := 0) (mo_free (by omega)) d_Mo_begin_26 q_11_290 (Nat.le_of_ble_eq_true rfl) rfl rfl (sh_130 n0) (Nat.le_of_ble_eq_true rfl) rfl rfl (by decide) (by decide) rfl ?_
  rw [if_neg hm]
  refine b_ifd (pc2 := 36) d_Mo_begin_29 rfl rfl rfl rfl rfl (fun h29 => ?_) (fun h29 => ?_)
  rotate_left
  · exact absurd (by decide) h29
  refine b_ic (pc2 := 37) (x := Int32.ofNat 2) d_Mo_begin_36 rfl rfl ?_
  refine b_pi (pc2 := 40) d_Mo_begin_37 q_11_135 (sh_130 n0) (by decide) (Or.inl (by decide)) (Or.inl rfl) (rc_130) rfl ?_
  refine b_aln (pc2 := 41) d_Mo_begin_40 rfl rfl ?_
  refine b_gi (pc2 := 44) d_Mo_begin_41 q_11_135 (sh_130 n0) (by decide) (by decide) (rc_130) rfl ?_
  rw [u2_at]
  refine b_ifd (pc2 := 48) d_Mo_begin_44 rfl rfl rfl rfl rfl (fun h44 => ?_) (fun h44 => ?_)
  · exact absurd h44 (by decide)
  refine b_vr d_Mo_begin_47 rfl ?_
  exact ⟨rfl, rfl, rfl, rfl, rfl⟩
theorem mo_begin2_0 {d : Nat} (hd : 3 ≤ d) {a : Nat} (ha : a < 256) (hm : (J 130 7 = 0 ∧ (J 130 47 = Int32.ofNat 1 ∨ J 130 47 = Int32.ofNat 2))) (hA : ∀ e, 2 ≤ e → bm e (S0 n0) R0 139 [.ref 130] W (mkJ (am_u2 (am_u2 (am_u2 (am_u2 (am_u2 (am_u2 J 130 0 (Int32.ofNat 0)) 130 45 (Int32.ofNat 1)) 130 46 (Int32.ofNat a)) 130 47 0) 130 48 0) 130 52 0) [Int32.ofNat 2, Int32.ofNat a]) g L (bR none W J1 g L)) : bm d (S0 n0) R0 136 [.ref 130, .int (Int32.ofNat 0), .int (Int32.ofNat a)] W J g L (bR none W J1 g L) := by
  obtain ⟨e, rfl⟩ : ∃ e, d = e + 1 := ⟨d - 1, by omega⟩
  refine bm_of (Nat.le_of_ble_eq_true rfl) (Or.inr bR_ret) ?_
  show bT e (S0 n0) R0 mt_Mo_begin _ 0 [(0, .ref 130), (1, .int (Int32.ofNat 0)), (2, .int (Int32.ofNat a))] [] W J g L 0 0
  have hSR := SR0 n0
  refine b_aln (pc2 := 1) d_Mo_begin_0 rfl rfl ?_
  refine b_iln (pc2 := 2) d_Mo_begin_1 rfl rfl ?_
  refine b_ifd (pc2 := 21) d_Mo_begin_2 rfl rfl rfl rfl rfl (fun h2 => ?_) (fun h2 => ?_)
  · exact absurd h2 (by decide)
  refine b_iln (pc2 := 6) d_Mo_begin_5 rfl rfl ?_
  refine b_ic (pc2 := 7) (x := Int32.ofNat 3) d_Mo_begin_6 rfl rfl ?_
  refine b_ifd (pc2 := 21) d_Mo_begin_7 rfl rfl rfl rfl rfl (fun h7 => ?_) (fun h7 => ?_)
  · exact absurd h7 (by decide)
  refine b_iln (pc2 := 11) d_Mo_begin_10 rfl rfl ?_
  refine b_ifd (pc2 := 21) d_Mo_begin_11 rfl rfl rfl rfl rfl (fun h11 => ?_) (fun h11 => ?_)
  · exact absurd h11 (fun z => by rw [z_lt (by omega)] at z; omega)
  refine b_iln (pc2 := 15) d_Mo_begin_14 rfl rfl ?_
  refine b_sp (pc2 := 18) (x := Int32.ofNat 255) d_Mo_begin_15 rfl rfl ?_
  refine b_ifd (pc2 := 25) d_Mo_begin_18 rfl rfl rfl rfl rfl (fun h18 => ?_) (fun h18 => ?_)
  rotate_left
  · exact absurd (by rw [i_le (by omega) (by omega)]; omega) h18
  refine b_aln (pc2 := 26) d_Mo_begin_25 rfl rfl ?_
  refine b_cv1 (pc2 := 29) (c2 := 0) (u2 := 0) (mo_free (by omega)) d_Mo_begin_26 q_11_290 (Nat.le_of_ble_eq_true rfl) rfl rfl (sh_130 n0) (Nat.le_of_ble_eq_true rfl) rfl rfl (by decide) (by decide) rfl ?_
  rw [if_pos hm]
  refine b_ifd (pc2 := 36) d_Mo_begin_29 rfl rfl rfl rfl rfl (fun h29 => ?_) (fun h29 => ?_)
  · exact absurd h29 (by decide)
  refine b_ic (pc2 := 33) (x := Int32.ofNat 0) d_Mo_begin_32 rfl rfl ?_
  refine b_go (pc2 := 37) d_Mo_begin_33 rfl ?_
  refine b_pi (pc2 := 40) d_Mo_begin_37 q_11_135 (sh_130 n0) (by decide) (Or.inl (by decide)) (Or.inl rfl) (rc_130) rfl ?_
  refine b_aln (pc2 := 41) d_Mo_begin_40 rfl rfl ?_
  refine b_gi (pc2 := 44) d_Mo_begin_41 q_11_135 (sh_130 n0) (by decide) (by decide) (rc_130) rfl ?_
  rw [u2_at]
  refine b_ifd (pc2 := 48) d_Mo_begin_44 rfl rfl rfl rfl rfl (fun h44 => ?_) (fun h44 => ?_)
  rotate_left
  · exact absurd (by decide) h44
  refine b_aln (pc2 := 49) d_Mo_begin_48 rfl rfl ?_
  refine b_iln (pc2 := 50) d_Mo_begin_49 rfl rfl ?_
  refine b_ic (pc2 := 51) (x := Int32.ofNat 1) d_Mo_begin_50 rfl rfl ?_
  refine b_pure (pc2 := 52) d_Mo_begin_51 rfl rfl rfl ?_
  rw [i_add]
  refine b_iln (pc2 := 53) d_Mo_begin_52 rfl rfl ?_
  refine b_cv0 (pc2 := 56) (c2 := 0) (u2 := 0) (mo_open (by omega)) d_Mo_begin_53 q_11_293 (Nat.le_of_ble_eq_true rfl) rfl rfl (sh_130 n0) (Nat.le_of_ble_eq_true rfl) rfl rfl (by decide) (by decide) rfl ?_
  refine b_aln (pc2 := 57) d_Mo_begin_56 rfl rfl ?_
  refine b_iln (pc2 := 58) d_Mo_begin_57 rfl rfl ?_
  refine b_ifd (pc2 := 65) d_Mo_begin_58 rfl rfl rfl rfl rfl (fun h58 => ?_) (fun h58 => ?_)
  · exact absurd h58 (by decide)
  refine b_ic (pc2 := 62) (x := Int32.ofNat 2) d_Mo_begin_61 rfl rfl ?_
  refine b_go (pc2 := 77) d_Mo_begin_62 rfl ?_
  refine b_cv0 (pc2 := 80) (c2 := 0) (u2 := 0) (mo_start (by omega)) d_Mo_begin_77 q_11_183 (Nat.le_of_ble_eq_true rfl) rfl rfl (sh_130 n0) (Nat.le_of_ble_eq_true rfl) rfl rfl (by decide) (by decide) rfl ?_
  rw [show Int32.ofNat 2 &&& 255 = Int32.ofNat 2 from rfl]
  refine b_iln (pc2 := 81) d_Mo_begin_80 rfl rfl ?_
  refine b_ic (pc2 := 82) (x := Int32.ofNat 3) d_Mo_begin_81 rfl rfl ?_
  refine b_ifd (pc2 := 90) d_Mo_begin_82 rfl rfl rfl rfl rfl (fun h82 => ?_) (fun h82 => ?_)
  rotate_left
  · exact absurd (by decide) h82
  refine b_aln (pc2 := 91) d_Mo_begin_90 rfl rfl ?_
  refine b_iln (pc2 := 92) d_Mo_begin_91 rfl rfl ?_
  refine b_cv0 (pc2 := 95) (c2 := 0) (u2 := 0) (mo_lay (by omega) (by show 1 < 40; decide)) d_Mo_begin_92 q_11_186 (Nat.le_of_ble_eq_true rfl) rfl rfl (sh_130 n0) (Nat.le_of_ble_eq_true rfl) rfl rfl (by decide) (by decide) rfl ?_
  rw [b255 (by omega)]
  refine b_aln (pc2 := 96) d_Mo_begin_95 rfl rfl ?_
  refine b_cv0 (pc2 := 99) (c2 := 0) (u2 := 0) (hA e (by omega)) d_Mo_begin_96 q_11_268 (Nat.le_of_ble_eq_true rfl) rfl rfl (sh_130 n0) (Nat.le_of_ble_eq_true rfl) rfl rfl (by decide) (by decide) rfl ?_
  refine b_vr d_Mo_begin_99 rfl ?_
  exact ⟨rfl, rfl, rfl, rfl, rfl⟩
theorem mo_begin2_1 {d : Nat} (hd : 3 ≤ d) {a : Nat} (ha : a < 256) (hm : (J 130 7 = 0 ∧ (J 130 47 = Int32.ofNat 1 ∨ J 130 47 = Int32.ofNat 2))) (hA : ∀ e, 2 ≤ e → bm e (S0 n0) R0 139 [.ref 130] W (mkJ (am_u2 (am_u2 (am_u2 (am_u2 (am_u2 (am_u2 J 130 0 (Int32.ofNat 0)) 130 45 (Int32.ofNat 2)) 130 46 (Int32.ofNat a)) 130 47 0) 130 48 0) 130 52 0) [Int32.ofNat 10, Int32.ofNat a]) g L (bR none W J1 g L)) : bm d (S0 n0) R0 136 [.ref 130, .int (Int32.ofNat 1), .int (Int32.ofNat a)] W J g L (bR none W J1 g L) := by
  obtain ⟨e, rfl⟩ : ∃ e, d = e + 1 := ⟨d - 1, by omega⟩
  refine bm_of (Nat.le_of_ble_eq_true rfl) (Or.inr bR_ret) ?_
  show bT e (S0 n0) R0 mt_Mo_begin _ 0 [(0, .ref 130), (1, .int (Int32.ofNat 1)), (2, .int (Int32.ofNat a))] [] W J g L 0 0
  have hSR := SR0 n0
  refine b_aln (pc2 := 1) d_Mo_begin_0 rfl rfl ?_
  refine b_iln (pc2 := 2) d_Mo_begin_1 rfl rfl ?_
  refine b_ifd (pc2 := 21) d_Mo_begin_2 rfl rfl rfl rfl rfl (fun h2 => ?_) (fun h2 => ?_)
  · exact absurd h2 (by decide)
  refine b_iln (pc2 := 6) d_Mo_begin_5 rfl rfl ?_
  refine b_ic (pc2 := 7) (x := Int32.ofNat 3) d_Mo_begin_6 rfl rfl ?_
  refine b_ifd (pc2 := 21) d_Mo_begin_7 rfl rfl rfl rfl rfl (fun h7 => ?_) (fun h7 => ?_)
  · exact absurd h7 (by decide)
  refine b_iln (pc2 := 11) d_Mo_begin_10 rfl rfl ?_
  refine b_ifd (pc2 := 21) d_Mo_begin_11 rfl rfl rfl rfl rfl (fun h11 => ?_) (fun h11 => ?_)
  · exact absurd h11 (fun z => by rw [z_lt (by omega)] at z; omega)
  refine b_iln (pc2 := 15) d_Mo_begin_14 rfl rfl ?_
  refine b_sp (pc2 := 18) (x := Int32.ofNat 255) d_Mo_begin_15 rfl rfl ?_
  refine b_ifd (pc2 := 25) d_Mo_begin_18 rfl rfl rfl rfl rfl (fun h18 => ?_) (fun h18 => ?_)
  rotate_left
  · exact absurd (by rw [i_le (by omega) (by omega)]; omega) h18
  refine b_aln (pc2 := 26) d_Mo_begin_25 rfl rfl ?_
  refine b_cv1 (pc2 := 29) (c2 := 0) (u2 := 0) (mo_free (by omega)) d_Mo_begin_26 q_11_290 (Nat.le_of_ble_eq_true rfl) rfl rfl (sh_130 n0) (Nat.le_of_ble_eq_true rfl) rfl rfl (by decide) (by decide) rfl ?_
  rw [if_pos hm]
  refine b_ifd (pc2 := 36) d_Mo_begin_29 rfl rfl rfl rfl rfl (fun h29 => ?_) (fun h29 => ?_)
  · exact absurd h29 (by decide)
  refine b_ic (pc2 := 33) (x := Int32.ofNat 0) d_Mo_begin_32 rfl rfl ?_
  refine b_go (pc2 := 37) d_Mo_begin_33 rfl ?_
  refine b_pi (pc2 := 40) d_Mo_begin_37 q_11_135 (sh_130 n0) (by decide) (Or.inl (by decide)) (Or.inl rfl) (rc_130) rfl ?_
  refine b_aln (pc2 := 41) d_Mo_begin_40 rfl rfl ?_
  refine b_gi (pc2 := 44) d_Mo_begin_41 q_11_135 (sh_130 n0) (by decide) (by decide) (rc_130) rfl ?_
  rw [u2_at]
  refine b_ifd (pc2 := 48) d_Mo_begin_44 rfl rfl rfl rfl rfl (fun h44 => ?_) (fun h44 => ?_)
  rotate_left
  · exact absurd (by decide) h44
  refine b_aln (pc2 := 49) d_Mo_begin_48 rfl rfl ?_
  refine b_iln (pc2 := 50) d_Mo_begin_49 rfl rfl ?_
  refine b_ic (pc2 := 51) (x := Int32.ofNat 1) d_Mo_begin_50 rfl rfl ?_
  refine b_pure (pc2 := 52) d_Mo_begin_51 rfl rfl rfl ?_
  rw [i_add]
  refine b_iln (pc2 := 53) d_Mo_begin_52 rfl rfl ?_
  refine b_cv0 (pc2 := 56) (c2 := 0) (u2 := 0) (mo_open (by omega)) d_Mo_begin_53 q_11_293 (Nat.le_of_ble_eq_true rfl) rfl rfl (sh_130 n0) (Nat.le_of_ble_eq_true rfl) rfl rfl (by decide) (by decide) rfl ?_
  refine b_aln (pc2 := 57) d_Mo_begin_56 rfl rfl ?_
  refine b_iln (pc2 := 58) d_Mo_begin_57 rfl rfl ?_
  refine b_ifd (pc2 := 65) d_Mo_begin_58 rfl rfl rfl rfl rfl (fun h58 => ?_) (fun h58 => ?_)
  rotate_left
  · exact absurd (by decide) h58
  refine b_iln (pc2 := 66) d_Mo_begin_65 rfl rfl ?_
  refine b_ic (pc2 := 67) (x := Int32.ofNat 3) d_Mo_begin_66 rfl rfl ?_
  refine b_ifd (pc2 := 75) d_Mo_begin_67 rfl rfl rfl rfl rfl (fun h67 => ?_) (fun h67 => ?_)
  rotate_left
  · exact absurd (by decide) h67
  refine b_bp (pc2 := 77) (x := Int32.ofNat 10) d_Mo_begin_75 rfl rfl ?_
  refine b_cv0 (pc2 := 80) (c2 := 0) (u2 := 0) (mo_start (by omega)) d_Mo_begin_77 q_11_183 (Nat.le_of_ble_eq_true rfl) rfl rfl (sh_130 n0) (Nat.le_of_ble_eq_true rfl) rfl rfl (by decide) (by decide) rfl ?_
  rw [show Int32.ofNat 10 &&& 255 = Int32.ofNat 10 from rfl]
  refine b_iln (pc2 := 81) d_Mo_begin_80 rfl rfl ?_
  refine b_ic (pc2 := 82) (x := Int32.ofNat 3) d_Mo_begin_81 rfl rfl ?_
  refine b_ifd (pc2 := 90) d_Mo_begin_82 rfl rfl rfl rfl rfl (fun h82 => ?_) (fun h82 => ?_)
  rotate_left
  · exact absurd (by decide) h82
  refine b_aln (pc2 := 91) d_Mo_begin_90 rfl rfl ?_
  refine b_iln (pc2 := 92) d_Mo_begin_91 rfl rfl ?_
  refine b_cv0 (pc2 := 95) (c2 := 0) (u2 := 0) (mo_lay (by omega) (by show 1 < 40; decide)) d_Mo_begin_92 q_11_186 (Nat.le_of_ble_eq_true rfl) rfl rfl (sh_130 n0) (Nat.le_of_ble_eq_true rfl) rfl rfl (by decide) (by decide) rfl ?_
  rw [b255 (by omega)]
  refine b_aln (pc2 := 96) d_Mo_begin_95 rfl rfl ?_
  refine b_cv0 (pc2 := 99) (c2 := 0) (u2 := 0) (hA e (by omega)) d_Mo_begin_96 q_11_268 (Nat.le_of_ble_eq_true rfl) rfl rfl (sh_130 n0) (Nat.le_of_ble_eq_true rfl) rfl rfl (by decide) (by decide) rfl ?_
  refine b_vr d_Mo_begin_99 rfl ?_
  exact ⟨rfl, rfl, rfl, rfl, rfl⟩
theorem mo_begin2_2 {d : Nat} (hd : 3 ≤ d) {a : Nat} (ha : a < 256) (hm : (J 130 7 = 0 ∧ (J 130 47 = Int32.ofNat 1 ∨ J 130 47 = Int32.ofNat 2))) (hA : ∀ e, 2 ≤ e → bm e (S0 n0) R0 139 [.ref 130] W (mkJ (am_u2 (am_u2 (am_u2 (am_u2 (am_u2 (am_u2 J 130 0 (Int32.ofNat 0)) 130 45 (Int32.ofNat 3)) 130 46 (Int32.ofNat a)) 130 47 0) 130 48 0) 130 52 0) [Int32.ofNat 10, Int32.ofNat a]) g L (bR none W J1 g L)) : bm d (S0 n0) R0 136 [.ref 130, .int (Int32.ofNat 2), .int (Int32.ofNat a)] W J g L (bR none W J1 g L) := by
  obtain ⟨e, rfl⟩ : ∃ e, d = e + 1 := ⟨d - 1, by omega⟩
  refine bm_of (Nat.le_of_ble_eq_true rfl) (Or.inr bR_ret) ?_
  show bT e (S0 n0) R0 mt_Mo_begin _ 0 [(0, .ref 130), (1, .int (Int32.ofNat 2)), (2, .int (Int32.ofNat a))] [] W J g L 0 0
  have hSR := SR0 n0
  refine b_aln (pc2 := 1) d_Mo_begin_0 rfl rfl ?_
  refine b_iln (pc2 := 2) d_Mo_begin_1 rfl rfl ?_
  refine b_ifd (pc2 := 21) d_Mo_begin_2 rfl rfl rfl rfl rfl (fun h2 => ?_) (fun h2 => ?_)
  · exact absurd h2 (by decide)
  refine b_iln (pc2 := 6) d_Mo_begin_5 rfl rfl ?_
  refine b_ic (pc2 := 7) (x := Int32.ofNat 3) d_Mo_begin_6 rfl rfl ?_
  refine b_ifd (pc2 := 21) d_Mo_begin_7 rfl rfl rfl rfl rfl (fun h7 => ?_) (fun h7 => ?_)
  · exact absurd h7 (by decide)
  refine b_iln (pc2 := 11) d_Mo_begin_10 rfl rfl ?_
  refine b_ifd (pc2 := 21) d_Mo_begin_11 rfl rfl rfl rfl rfl (fun h11 => ?_) (fun h11 => ?_)
  · exact absurd h11 (fun z => by rw [z_lt (by omega)] at z; omega)
  refine b_iln (pc2 := 15) d_Mo_begin_14 rfl rfl ?_
  refine b_sp (pc2 := 18) (x := Int32.ofNat 255) d_Mo_begin_15 rfl rfl ?_
  refine b_ifd (pc2 := 25) d_Mo_begin_18 rfl rfl rfl rfl rfl (fun h18 => ?_) (fun h18 => ?_)
  rotate_left
  · exact absurd (by rw [i_le (by omega) (by omega)]; omega) h18
  refine b_aln (pc2 := 26) d_Mo_begin_25 rfl rfl ?_
  refine b_cv1 (pc2 := 29) (c2 := 0) (u2 := 0) (mo_free (by omega)) d_Mo_begin_26 q_11_290 (Nat.le_of_ble_eq_true rfl) rfl rfl (sh_130 n0) (Nat.le_of_ble_eq_true rfl) rfl rfl (by decide) (by decide) rfl ?_
  rw [if_pos hm]
  refine b_ifd (pc2 := 36) d_Mo_begin_29 rfl rfl rfl rfl rfl (fun h29 => ?_) (fun h29 => ?_)
  · exact absurd h29 (by decide)
  refine b_ic (pc2 := 33) (x := Int32.ofNat 0) d_Mo_begin_32 rfl rfl ?_
  refine b_go (pc2 := 37) d_Mo_begin_33 rfl ?_
  refine b_pi (pc2 := 40) d_Mo_begin_37 q_11_135 (sh_130 n0) (by decide) (Or.inl (by decide)) (Or.inl rfl) (rc_130) rfl ?_
  refine b_aln (pc2 := 41) d_Mo_begin_40 rfl rfl ?_
  refine b_gi (pc2 := 44) d_Mo_begin_41 q_11_135 (sh_130 n0) (by decide) (by decide) (rc_130) rfl ?_
  rw [u2_at]
  refine b_ifd (pc2 := 48) d_Mo_begin_44 rfl rfl rfl rfl rfl (fun h44 => ?_) (fun h44 => ?_)
  rotate_left
  · exact absurd (by decide) h44
  refine b_aln (pc2 := 49) d_Mo_begin_48 rfl rfl ?_
  refine b_iln (pc2 := 50) d_Mo_begin_49 rfl rfl ?_
  refine b_ic (pc2 := 51) (x := Int32.ofNat 1) d_Mo_begin_50 rfl rfl ?_
  refine b_pure (pc2 := 52) d_Mo_begin_51 rfl rfl rfl ?_
  rw [i_add]
  refine b_iln (pc2 := 53) d_Mo_begin_52 rfl rfl ?_
  refine b_cv0 (pc2 := 56) (c2 := 0) (u2 := 0) (mo_open (by omega)) d_Mo_begin_53 q_11_293 (Nat.le_of_ble_eq_true rfl) rfl rfl (sh_130 n0) (Nat.le_of_ble_eq_true rfl) rfl rfl (by decide) (by decide) rfl ?_
  refine b_aln (pc2 := 57) d_Mo_begin_56 rfl rfl ?_
  refine b_iln (pc2 := 58) d_Mo_begin_57 rfl rfl ?_
  refine b_ifd (pc2 := 65) d_Mo_begin_58 rfl rfl rfl rfl rfl (fun h58 => ?_) (fun h58 => ?_)
  rotate_left
  · exact absurd (by decide) h58
  refine b_iln (pc2 := 66) d_Mo_begin_65 rfl rfl ?_
  refine b_ic (pc2 := 67) (x := Int32.ofNat 3) d_Mo_begin_66 rfl rfl ?_
  refine b_ifd (pc2 := 75) d_Mo_begin_67 rfl rfl rfl rfl rfl (fun h67 => ?_) (fun h67 => ?_)
  rotate_left
  · exact absurd (by decide) h67
  refine b_bp (pc2 := 77) (x := Int32.ofNat 10) d_Mo_begin_75 rfl rfl ?_
  refine b_cv0 (pc2 := 80) (c2 := 0) (u2 := 0) (mo_start (by omega)) d_Mo_begin_77 q_11_183 (Nat.le_of_ble_eq_true rfl) rfl rfl (sh_130 n0) (Nat.le_of_ble_eq_true rfl) rfl rfl (by decide) (by decide) rfl ?_
  rw [show Int32.ofNat 10 &&& 255 = Int32.ofNat 10 from rfl]
  refine b_iln (pc2 := 81) d_Mo_begin_80 rfl rfl ?_
  refine b_ic (pc2 := 82) (x := Int32.ofNat 3) d_Mo_begin_81 rfl rfl ?_
  refine b_ifd (pc2 := 90) d_Mo_begin_82 rfl rfl rfl rfl rfl (fun h82 => ?_) (fun h82 => ?_)
  rotate_left
  · exact absurd (by decide) h82
  refine b_aln (pc2 := 91) d_Mo_begin_90 rfl rfl ?_
  refine b_iln (pc2 := 92) d_Mo_begin_91 rfl rfl ?_
  refine b_cv0 (pc2 := 95) (c2 := 0) (u2 := 0) (mo_lay (by omega) (by show 1 < 40; decide)) d_Mo_begin_92 q_11_186 (Nat.le_of_ble_eq_true rfl) rfl rfl (sh_130 n0) (Nat.le_of_ble_eq_true rfl) rfl rfl (by decide) (by decide) rfl ?_
  rw [b255 (by omega)]
  refine b_aln (pc2 := 96) d_Mo_begin_95 rfl rfl ?_
  refine b_cv0 (pc2 := 99) (c2 := 0) (u2 := 0) (hA e (by omega)) d_Mo_begin_96 q_11_268 (Nat.le_of_ble_eq_true rfl) rfl rfl (sh_130 n0) (Nat.le_of_ble_eq_true rfl) rfl rfl (by decide) (by decide) rfl ?_
  refine b_vr d_Mo_begin_99 rfl ?_
  exact ⟨rfl, rfl, rfl, rfl, rfl⟩
theorem mo_begin2_3 {d : Nat} (hd : 3 ≤ d) {a : Nat} (ha : a < 256) (hm : (J 130 7 = 0 ∧ (J 130 47 = Int32.ofNat 1 ∨ J 130 47 = Int32.ofNat 2))) (hA : ∀ e, 2 ≤ e → bm e (S0 n0) R0 139 [.ref 130] W (mkJ (am_u2 (am_u2 (am_u2 (am_u2 (am_u2 (am_u2 J 130 0 (Int32.ofNat 0)) 130 45 (Int32.ofNat 4)) 130 46 (Int32.ofNat a)) 130 47 0) 130 48 0) 130 52 0) [Int32.ofNat 16, Int32.ofNat 1, Int32.ofNat a]) g L (bR none W J1 g L)) : bm d (S0 n0) R0 136 [.ref 130, .int (Int32.ofNat 3), .int (Int32.ofNat a)] W J g L (bR none W J1 g L) := by
  obtain ⟨e, rfl⟩ : ∃ e, d = e + 1 := ⟨d - 1, by omega⟩
  refine bm_of (Nat.le_of_ble_eq_true rfl) (Or.inr bR_ret) ?_
  show bT e (S0 n0) R0 mt_Mo_begin _ 0 [(0, .ref 130), (1, .int (Int32.ofNat 3)), (2, .int (Int32.ofNat a))] [] W J g L 0 0
  have hSR := SR0 n0
  refine b_aln (pc2 := 1) d_Mo_begin_0 rfl rfl ?_
  refine b_iln (pc2 := 2) d_Mo_begin_1 rfl rfl ?_
  refine b_ifd (pc2 := 21) d_Mo_begin_2 rfl rfl rfl rfl rfl (fun h2 => ?_) (fun h2 => ?_)
  · exact absurd h2 (by decide)
  refine b_iln (pc2 := 6) d_Mo_begin_5 rfl rfl ?_
  refine b_ic (pc2 := 7) (x := Int32.ofNat 3) d_Mo_begin_6 rfl rfl ?_
  refine b_ifd (pc2 := 21) d_Mo_begin_7 rfl rfl rfl rfl rfl (fun h7 => ?_) (fun h7 => ?_)
  · exact absurd h7 (by decide)
  refine b_iln (pc2 := 11) d_Mo_begin_10 rfl rfl ?_
  refine b_ifd (pc2 := 21) d_Mo_begin_11 rfl rfl rfl rfl rfl (fun h11 => ?_) (fun h11 => ?_)
  · exact absurd h11 (fun z => by rw [z_lt (by omega)] at z; omega)
  refine b_iln (pc2 := 15) d_Mo_begin_14 rfl rfl ?_
  refine b_sp (pc2 := 18) (x := Int32.ofNat 255) d_Mo_begin_15 rfl rfl ?_
  refine b_ifd (pc2 := 25) d_Mo_begin_18 rfl rfl rfl rfl rfl (fun h18 => ?_) (fun h18 => ?_)
  rotate_left
  · exact absurd (by rw [i_le (by omega) (by omega)]; omega) h18
  refine b_aln (pc2 := 26) d_Mo_begin_25 rfl rfl ?_
  refine b_cv1 (pc2 := 29) (c2 := 0) (u2 := 0) (mo_free (by omega)) d_Mo_begin_26 q_11_290 (Nat.le_of_ble_eq_true rfl) rfl rfl (sh_130 n0) (Nat.le_of_ble_eq_true rfl) rfl rfl (by decide) (by decide) rfl ?_
  rw [if_pos hm]
  refine b_ifd (pc2 := 36) d_Mo_begin_29 rfl rfl rfl rfl rfl (fun h29 => ?_) (fun h29 => ?_)
  · exact absurd h29 (by decide)
  refine b_ic (pc2 := 33) (x := Int32.ofNat 0) d_Mo_begin_32 rfl rfl ?_
  refine b_go (pc2 := 37) d_Mo_begin_33 rfl ?_
  refine b_pi (pc2 := 40) d_Mo_begin_37 q_11_135 (sh_130 n0) (by decide) (Or.inl (by decide)) (Or.inl rfl) (rc_130) rfl ?_
  refine b_aln (pc2 := 41) d_Mo_begin_40 rfl rfl ?_
  refine b_gi (pc2 := 44) d_Mo_begin_41 q_11_135 (sh_130 n0) (by decide) (by decide) (rc_130) rfl ?_
  rw [u2_at]
  refine b_ifd (pc2 := 48) d_Mo_begin_44 rfl rfl rfl rfl rfl (fun h44 => ?_) (fun h44 => ?_)
  rotate_left
  · exact absurd (by decide) h44
  refine b_aln (pc2 := 49) d_Mo_begin_48 rfl rfl ?_
  refine b_iln (pc2 := 50) d_Mo_begin_49 rfl rfl ?_
  refine b_ic (pc2 := 51) (x := Int32.ofNat 1) d_Mo_begin_50 rfl rfl ?_
  refine b_pure (pc2 := 52) d_Mo_begin_51 rfl rfl rfl ?_
  rw [i_add]
  refine b_iln (pc2 := 53) d_Mo_begin_52 rfl rfl ?_
  refine b_cv0 (pc2 := 56) (c2 := 0) (u2 := 0) (mo_open (by omega)) d_Mo_begin_53 q_11_293 (Nat.le_of_ble_eq_true rfl) rfl rfl (sh_130 n0) (Nat.le_of_ble_eq_true rfl) rfl rfl (by decide) (by decide) rfl ?_
  refine b_aln (pc2 := 57) d_Mo_begin_56 rfl rfl ?_
  refine b_iln (pc2 := 58) d_Mo_begin_57 rfl rfl ?_
  refine b_ifd (pc2 := 65) d_Mo_begin_58 rfl rfl rfl rfl rfl (fun h58 => ?_) (fun h58 => ?_)
  rotate_left
  · exact absurd (by decide) h58
  refine b_iln (pc2 := 66) d_Mo_begin_65 rfl rfl ?_
  refine b_ic (pc2 := 67) (x := Int32.ofNat 3) d_Mo_begin_66 rfl rfl ?_
  refine b_ifd (pc2 := 75) d_Mo_begin_67 rfl rfl rfl rfl rfl (fun h67 => ?_) (fun h67 => ?_)
  · exact absurd h67 (by decide)
  refine b_bp (pc2 := 72) (x := Int32.ofNat 16) d_Mo_begin_70 rfl rfl ?_
  refine b_go (pc2 := 77) d_Mo_begin_72 rfl ?_
  refine b_cv0 (pc2 := 80) (c2 := 0) (u2 := 0) (mo_start (by omega)) d_Mo_begin_77 q_11_183 (Nat.le_of_ble_eq_true rfl) rfl rfl (sh_130 n0) (Nat.le_of_ble_eq_true rfl) rfl rfl (by decide) (by decide) rfl ?_
  rw [show Int32.ofNat 16 &&& 255 = Int32.ofNat 16 from rfl]
  refine b_iln (pc2 := 81) d_Mo_begin_80 rfl rfl ?_
  refine b_ic (pc2 := 82) (x := Int32.ofNat 3) d_Mo_begin_81 rfl rfl ?_
  refine b_ifd (pc2 := 90) d_Mo_begin_82 rfl rfl rfl rfl rfl (fun h82 => ?_) (fun h82 => ?_)
  · exact absurd h82 (by decide)
  refine b_aln (pc2 := 86) d_Mo_begin_85 rfl rfl ?_
  refine b_ic (pc2 := 87) (x := Int32.ofNat 1) d_Mo_begin_86 rfl rfl ?_
  refine b_cv0 (pc2 := 90) (c2 := 0) (u2 := 0) (mo_lay (by omega) (by show 1 < 40; decide)) d_Mo_begin_87 q_11_186 (Nat.le_of_ble_eq_true rfl) rfl rfl (sh_130 n0) (Nat.le_of_ble_eq_true rfl) rfl rfl (by decide) (by decide) rfl ?_
  rw [show Int32.ofNat 1 &&& 255 = Int32.ofNat 1 from rfl]
  refine b_aln (pc2 := 91) d_Mo_begin_90 rfl rfl ?_
  refine b_iln (pc2 := 92) d_Mo_begin_91 rfl rfl ?_
  refine b_cv0 (pc2 := 95) (c2 := 0) (u2 := 0) (mo_lay (by omega) (by show 2 < 40; decide)) d_Mo_begin_92 q_11_186 (Nat.le_of_ble_eq_true rfl) rfl rfl (sh_130 n0) (Nat.le_of_ble_eq_true rfl) rfl rfl (by decide) (by decide) rfl ?_
  rw [b255 (by omega)]
  refine b_aln (pc2 := 96) d_Mo_begin_95 rfl rfl ?_
  refine b_cv0 (pc2 := 99) (c2 := 0) (u2 := 0) (hA e (by omega)) d_Mo_begin_96 q_11_268 (Nat.le_of_ble_eq_true rfl) rfl rfl (sh_130 n0) (Nat.le_of_ble_eq_true rfl) rfl rfl (by decide) (by decide) rfl ?_
  refine b_vr d_Mo_begin_99 rfl ?_
  exact ⟨rfl, rfl, rfl, rfl, rfl⟩
theorem mo_write0 {d : Nat} (hd : 4 ≤ d) {h n b : Int32} (hb : ¬ ((¬ h < 0 ∧ ¬ Int32.ofNat 255 < h) ∧ (¬ n < 0 ∧ ¬ Int32.ofNat 8 < n) ∧ (¬ b = 0 ∨ n ≤ J 130 44 - Int32.ofNat 2))) : bm d (S0 n0) R0 140 [.ref 130, .int h, .long v, .int n, .int b] W J g L (bR none W (am_u2 J 130 0 (Int32.ofNat 1)) g L) := by
  obtain ⟨e, rfl⟩ : ∃ e, d = e + 1 := ⟨d - 1, by omega⟩
  refine bm_of (Nat.le_of_ble_eq_true rfl) (Or.inr bR_ret) ?_
  show bT e (S0 n0) R0 mt_Mo_write _ 0 [(0, .ref 130), (1, .int h), (2, .long v), (4, .int n), (5, .int b)] [] W J g L 0 0
  have hSR := SR0 n0
  refine b_aln (pc2 := 1) d_Mo_write_0 rfl rfl ?_
  refine b_iln (pc2 := 2) d_Mo_write_1 rfl rfl ?_
  refine b_ifd (pc2 := 40) d_Mo_write_2 rfl rfl rfl rfl rfl (fun h2 => ?_) (fun h2 => ?_)
  · refine b_ic (pc2 := 41) (x := Int32.ofNat 1) d_Mo_write_40 rfl rfl ?_
    refine b_go (pc2 := 56) d_Mo_write_41 rfl ?_
    refine b_pi (pc2 := 59) d_Mo_write_56 q_11_135 (sh_130 n0) (by decide) (Or.inl (by decide)) (Or.inl rfl) (rc_130) rfl ?_
    refine b_aln (pc2 := 60) d_Mo_write_59 rfl rfl ?_
    refine b_gi (pc2 := 63) d_Mo_write_60 q_11_135 (sh_130 n0) (by decide) (by decide) (rc_130) rfl ?_
    rw [u2_at]
    refine b_ifd (pc2 := 67) d_Mo_write_63 rfl rfl rfl rfl rfl (fun h63 => ?_) (fun h63 => ?_)
    · exact absurd h63 (by decide)
    refine b_vr d_Mo_write_66 rfl ?_
    exact ⟨rfl, rfl, rfl, rfl, rfl⟩
  · refine b_iln (pc2 := 6) d_Mo_write_5 rfl rfl ?_
    refine b_sp (pc2 := 9) (x := Int32.ofNat 255) d_Mo_write_6 rfl rfl ?_
    refine b_ifd (pc2 := 40) d_Mo_write_9 rfl rfl rfl rfl rfl (fun h9 => ?_) (fun h9 => ?_)
    · refine b_ic (pc2 := 41) (x := Int32.ofNat 1) d_Mo_write_40 rfl rfl ?_
      refine b_go (pc2 := 56) d_Mo_write_41 rfl ?_
      refine b_pi (pc2 := 59) d_Mo_write_56 q_11_135 (sh_130 n0) (by decide) (Or.inl (by decide)) (Or.inl rfl) (rc_130) rfl ?_
      refine b_aln (pc2 := 60) d_Mo_write_59 rfl rfl ?_
      refine b_gi (pc2 := 63) d_Mo_write_60 q_11_135 (sh_130 n0) (by decide) (by decide) (rc_130) rfl ?_
      rw [u2_at]
      refine b_ifd (pc2 := 67) d_Mo_write_63 rfl rfl rfl rfl rfl (fun h63 => ?_) (fun h63 => ?_)
      · exact absurd h63 (by decide)
      refine b_vr d_Mo_write_66 rfl ?_
      exact ⟨rfl, rfl, rfl, rfl, rfl⟩
    · refine b_il (pc2 := 14) d_Mo_write_12 rfl rfl ?_
      refine b_ifd (pc2 := 40) d_Mo_write_14 rfl rfl rfl rfl rfl (fun h14 => ?_) (fun h14 => ?_)
      · refine b_ic (pc2 := 41) (x := Int32.ofNat 1) d_Mo_write_40 rfl rfl ?_
        refine b_go (pc2 := 56) d_Mo_write_41 rfl ?_
        refine b_pi (pc2 := 59) d_Mo_write_56 q_11_135 (sh_130 n0) (by decide) (Or.inl (by decide)) (Or.inl rfl) (rc_130) rfl ?_
        refine b_aln (pc2 := 60) d_Mo_write_59 rfl rfl ?_
        refine b_gi (pc2 := 63) d_Mo_write_60 q_11_135 (sh_130 n0) (by decide) (by decide) (rc_130) rfl ?_
        rw [u2_at]
        refine b_ifd (pc2 := 67) d_Mo_write_63 rfl rfl rfl rfl rfl (fun h63 => ?_) (fun h63 => ?_)
        · exact absurd h63 (by decide)
        refine b_vr d_Mo_write_66 rfl ?_
        exact ⟨rfl, rfl, rfl, rfl, rfl⟩
      · refine b_il (pc2 := 19) d_Mo_write_17 rfl rfl ?_
        refine b_bp (pc2 := 21) (x := Int32.ofNat 8) d_Mo_write_19 rfl rfl ?_
        refine b_ifd (pc2 := 40) d_Mo_write_21 rfl rfl rfl rfl rfl (fun h21 => ?_) (fun h21 => ?_)
        · refine b_ic (pc2 := 41) (x := Int32.ofNat 1) d_Mo_write_40 rfl rfl ?_
          refine b_go (pc2 := 56) d_Mo_write_41 rfl ?_
          refine b_pi (pc2 := 59) d_Mo_write_56 q_11_135 (sh_130 n0) (by decide) (Or.inl (by decide)) (Or.inl rfl) (rc_130) rfl ?_
          refine b_aln (pc2 := 60) d_Mo_write_59 rfl rfl ?_
          refine b_gi (pc2 := 63) d_Mo_write_60 q_11_135 (sh_130 n0) (by decide) (by decide) (rc_130) rfl ?_
          rw [u2_at]
          refine b_ifd (pc2 := 67) d_Mo_write_63 rfl rfl rfl rfl rfl (fun h63 => ?_) (fun h63 => ?_)
          · exact absurd h63 (by decide)
          refine b_vr d_Mo_write_66 rfl ?_
          exact ⟨rfl, rfl, rfl, rfl, rfl⟩
        · refine b_il (pc2 := 26) d_Mo_write_24 rfl rfl ?_
          refine b_ifd (pc2 := 44) d_Mo_write_26 rfl rfl rfl rfl rfl (fun h26 => ?_) (fun h26 => ?_)
          · exact absurd ⟨⟨h2, h9⟩, ⟨h14, h21⟩, Or.inl h26⟩ hb
          · refine b_il (pc2 := 31) d_Mo_write_29 rfl rfl ?_
            refine b_aln (pc2 := 32) d_Mo_write_31 rfl rfl ?_
            refine b_gi (pc2 := 35) d_Mo_write_32 q_11_108 (sh_130 n0) (by decide) (by decide) (rc_130) rfl ?_
            refine b_ic (pc2 := 36) (x := Int32.ofNat 2) d_Mo_write_35 rfl rfl ?_
            refine b_pure (pc2 := 37) d_Mo_write_36 rfl rfl rfl ?_
            refine b_ifd (pc2 := 44) d_Mo_write_37 rfl rfl rfl rfl rfl (fun h37 => ?_) (fun h37 => ?_)
            · exact absurd ⟨⟨h2, h9⟩, ⟨h14, h21⟩, Or.inr h37⟩ hb
            · refine b_ic (pc2 := 41) (x := Int32.ofNat 1) d_Mo_write_40 rfl rfl ?_
              refine b_go (pc2 := 56) d_Mo_write_41 rfl ?_
              refine b_pi (pc2 := 59) d_Mo_write_56 q_11_135 (sh_130 n0) (by decide) (Or.inl (by decide)) (Or.inl rfl) (rc_130) rfl ?_
              refine b_aln (pc2 := 60) d_Mo_write_59 rfl rfl ?_
              refine b_gi (pc2 := 63) d_Mo_write_60 q_11_135 (sh_130 n0) (by decide) (by decide) (rc_130) rfl ?_
              rw [u2_at]
              refine b_ifd (pc2 := 67) d_Mo_write_63 rfl rfl rfl rfl rfl (fun h63 => ?_) (fun h63 => ?_)
              · exact absurd h63 (by decide)
              refine b_vr d_Mo_write_66 rfl ?_
              exact ⟨rfl, rfl, rfl, rfl, rfl⟩
theorem mo_write1 {d : Nat} (hd : 4 ≤ d) {h n b : Int32} (hok : ((¬ h < 0 ∧ ¬ Int32.ofNat 255 < h) ∧ (¬ n < 0 ∧ ¬ Int32.ofNat 8 < n) ∧ (¬ b = 0 ∨ n ≤ J 130 44 - Int32.ofNat 2))) (hm : ¬ (J 130 7 = 0 ∧ (J 130 47 = Int32.ofNat 1 ∨ J 130 47 = Int32.ofNat 2))) : bm d (S0 n0) R0 140 [.ref 130, .int h, .long v, .int n, .int b] W J g L (bR none W (am_u2 J 130 0 (Int32.ofNat 2)) g L) := by
  obtain ⟨e, rfl⟩ : ∃ e, d = e + 1 := ⟨d - 1, by omega⟩
  refine bm_of (Nat.le_of_ble_eq_true rfl) (Or.inr bR_ret) ?_
  show bT e (S0 n0) R0 mt_Mo_write _ 0 [(0, .ref 130), (1, .int h), (2, .long v), (4, .int n), (5, .int b)] [] W J g L 0 0
  have hSR := SR0 n0
  refine b_aln (pc2 := 1) d_Mo_write_0 rfl rfl ?_
  refine b_iln (pc2 := 2) d_Mo_write_1 rfl rfl ?_
  refine b_ifd (pc2 := 40) d_Mo_write_2 rfl rfl rfl rfl rfl (fun h2 => ?_) (fun h2 => ?_)
  · exact absurd h2 (hok.1.1)
  refine b_iln (pc2 := 6) d_Mo_write_5 rfl rfl ?_
  refine b_sp (pc2 := 9) (x := Int32.ofNat 255) d_Mo_write_6 rfl rfl ?_
  refine b_ifd (pc2 := 40) d_Mo_write_9 rfl rfl rfl rfl rfl (fun h9 => ?_) (fun h9 => ?_)
  · exact absurd h9 (hok.1.2)
  refine b_il (pc2 := 14) d_Mo_write_12 rfl rfl ?_
  refine b_ifd (pc2 := 40) d_Mo_write_14 rfl rfl rfl rfl rfl (fun h14 => ?_) (fun h14 => ?_)
  · exact absurd h14 (hok.2.1.1)
  refine b_il (pc2 := 19) d_Mo_write_17 rfl rfl ?_
  refine b_bp (pc2 := 21) (x := Int32.ofNat 8) d_Mo_write_19 rfl rfl ?_
  refine b_ifd (pc2 := 40) d_Mo_write_21 rfl rfl rfl rfl rfl (fun h21 => ?_) (fun h21 => ?_)
  · exact absurd h21 (hok.2.1.2)
  refine b_il (pc2 := 26) d_Mo_write_24 rfl rfl ?_
  refine b_ifd (pc2 := 44) d_Mo_write_26 rfl rfl rfl rfl rfl (fun h26 => ?_) (fun h26 => ?_)
  · refine b_aln (pc2 := 45) d_Mo_write_44 rfl rfl ?_
    refine b_cv1 (pc2 := 48) (c2 := 0) (u2 := 0) (mo_free (by omega)) d_Mo_write_45 q_11_290 (Nat.le_of_ble_eq_true rfl) rfl rfl (sh_130 n0) (Nat.le_of_ble_eq_true rfl) rfl rfl (by decide) (by decide) rfl ?_
    rw [if_neg hm]
    refine b_ifd (pc2 := 55) d_Mo_write_48 rfl rfl rfl rfl rfl (fun h48 => ?_) (fun h48 => ?_)
    rotate_left
    · exact absurd (by decide) h48
    refine b_ic (pc2 := 56) (x := Int32.ofNat 2) d_Mo_write_55 rfl rfl ?_
    refine b_pi (pc2 := 59) d_Mo_write_56 q_11_135 (sh_130 n0) (by decide) (Or.inl (by decide)) (Or.inl rfl) (rc_130) rfl ?_
    refine b_aln (pc2 := 60) d_Mo_write_59 rfl rfl ?_
    refine b_gi (pc2 := 63) d_Mo_write_60 q_11_135 (sh_130 n0) (by decide) (by decide) (rc_130) rfl ?_
    rw [u2_at]
    refine b_ifd (pc2 := 67) d_Mo_write_63 rfl rfl rfl rfl rfl (fun h63 => ?_) (fun h63 => ?_)
    · exact absurd h63 (by decide)
    refine b_vr d_Mo_write_66 rfl ?_
    exact ⟨rfl, rfl, rfl, rfl, rfl⟩
  · refine b_il (pc2 := 31) d_Mo_write_29 rfl rfl ?_
    refine b_aln (pc2 := 32) d_Mo_write_31 rfl rfl ?_
    refine b_gi (pc2 := 35) d_Mo_write_32 q_11_108 (sh_130 n0) (by decide) (by decide) (rc_130) rfl ?_
    refine b_ic (pc2 := 36) (x := Int32.ofNat 2) d_Mo_write_35 rfl rfl ?_
    refine b_pure (pc2 := 37) d_Mo_write_36 rfl rfl rfl ?_
    refine b_ifd (pc2 := 44) d_Mo_write_37 rfl rfl rfl rfl rfl (fun h37 => ?_) (fun h37 => ?_)
    rotate_left
    · exact absurd (hok.2.2.resolve_left h26) h37
    refine b_aln (pc2 := 45) d_Mo_write_44 rfl rfl ?_
    refine b_cv1 (pc2 := 48) (c2 := 0) (u2 := 0) (mo_free (by omega)) d_Mo_write_45 q_11_290 (Nat.le_of_ble_eq_true rfl) rfl rfl (sh_130 n0) (Nat.le_of_ble_eq_true rfl) rfl rfl (by decide) (by decide) rfl ?_
    rw [if_neg hm]
    refine b_ifd (pc2 := 55) d_Mo_write_48 rfl rfl rfl rfl rfl (fun h48 => ?_) (fun h48 => ?_)
    rotate_left
    · exact absurd (by decide) h48
    refine b_ic (pc2 := 56) (x := Int32.ofNat 2) d_Mo_write_55 rfl rfl ?_
    refine b_pi (pc2 := 59) d_Mo_write_56 q_11_135 (sh_130 n0) (by decide) (Or.inl (by decide)) (Or.inl rfl) (rc_130) rfl ?_
    refine b_aln (pc2 := 60) d_Mo_write_59 rfl rfl ?_
    refine b_gi (pc2 := 63) d_Mo_write_60 q_11_135 (sh_130 n0) (by decide) (by decide) (rc_130) rfl ?_
    rw [u2_at]
    refine b_ifd (pc2 := 67) d_Mo_write_63 rfl rfl rfl rfl rfl (fun h63 => ?_) (fun h63 => ?_)
    · exact absurd h63 (by decide)
    refine b_vr d_Mo_write_66 rfl ?_
    exact ⟨rfl, rfl, rfl, rfl, rfl⟩
theorem lp_w18 {e : Nat} (he : 2 ≤ e) : ∀ (m : Nat) (l : List Int32), l.length + m ≤ 30 → m ≤ 8 → (∀ e, 2 ≤ e → bm e (S0 n0) R0 139 [.ref 130] W (mkJ J (l ++ by8 v m)) g L (bR none W J1 g L)) → bT e (S0 n0) R0 mt_Mo_write (bR none W J1 g L) 165 [(6, .int (Int32.ofNat m - Int32.ofNat 1)), (0, .ref 130), (2, .long v)] [] W (mkJ J l) g L 0 0 := by
  intro m
  induction m with
  | zero =>
    intro l hl hm8 hA
    rw [show by8 v 0 = [] from rfl, List.append_nil] at hA
    refine b_il (pc2 := 167) d_Mo_write_165 rfl rfl ?_
    refine b_ifd (pc2 := 186) d_Mo_write_167 rfl rfl rfl rfl rfl (fun h167 => ?_) (fun h167 => ?_)
    rotate_left
    · exact absurd (by decide) h167
    refine b_aln (pc2 := 187) d_Mo_write_186 rfl rfl ?_
    refine b_cv0 (pc2 := 190) (c2 := 0) (u2 := 0) (hA e (by omega)) d_Mo_write_187 q_11_268 (Nat.le_of_ble_eq_true rfl) rfl rfl (sh_130 n0) (Nat.le_of_ble_eq_true rfl) rfl rfl (by decide) (by decide) rfl ?_
    refine b_vr d_Mo_write_190 rfl ?_
    exact ⟨rfl, rfl, rfl, rfl, rfl⟩
  | succ m ih =>
    intro l hl hm8 hA
    rw [i_sub (by omega), show m + 1 - 1 = m by omega]
    refine b_il (pc2 := 167) d_Mo_write_165 rfl rfl ?_
    refine b_ifd (pc2 := 186) d_Mo_write_167 rfl rfl rfl rfl rfl (fun h167 => ?_) (fun h167 => ?_)
    · exact absurd h167 (fun z => by rw [z_lt (by omega)] at z; omega)
    refine b_aln (pc2 := 171) d_Mo_write_170 rfl rfl ?_
    refine b_lln (pc2 := 172) d_Mo_write_171 rfl rfl ?_
    refine b_il (pc2 := 174) d_Mo_write_172 rfl rfl ?_
    refine b_cs1 (pc2 := 177) (c2 := 0) (u2 := 0) (mo_byteOf (by omega)) d_Mo_write_174 q_11_286 (Or.inl rfl) (Nat.le_of_ble_eq_true rfl) rfl rfl (Nat.le_of_ble_eq_true rfl) rfl rfl (by decide) (by decide) rfl ?_
    rw [by_eq v (show m < 8 by omega)]
    refine b_cv0 (pc2 := 180) (c2 := 0) (u2 := 0) (mo_lay (by omega) (by omega)) d_Mo_write_177 q_11_186 (Nat.le_of_ble_eq_true rfl) rfl rfl (sh_130 n0) (Nat.le_of_ble_eq_true rfl) rfl rfl (by decide) (by decide) rfl ?_
    rw [show by0 v m &&& 255 = by0 v m from a255 _]
    refine b_inc (pc2 := 183) (al2 := [(6, _), (0, _), (2, _)]) (y := -1) d_Mo_write_180 (by decide) rfl rfl rfl rfl ?_
    refine b_go (pc2 := 165) d_Mo_write_183 rfl ?_
    refine b_nf (al := [(6, _), (0, _), (2, _)]) (ks := [6, 0, 2]) (sub_c rfl (sub_c rfl (sub_c rfl (sub_n)))) rfl (by decide) ?_
    dsimp only
    rw [i_pred]
    refine ih (l ++ [by0 v m]) (by simp only [List.length_append, List.length_cons, List.length_nil]; omega) (by omega) ?_
    rw [List.append_assoc]
    exact hA
theorem mo_write2 {d : Nat} (hd : 4 ≤ d) {h n lm : Nat} {b : Int32} (hh : h < 256) (hn : n ≤ 8) (hlm : J 130 44 = Int32.ofNat lm) (hl1 : 8 ≤ lm) (hl2 : lm ≤ 20) (hnl : n ≤ lm - 2) (hb : b = 0) (hm : (J 130 7 = 0 ∧ (J 130 47 = Int32.ofNat 1 ∨ J 130 47 = Int32.ofNat 2))) (hA : ∀ e, 2 ≤ e → bm e (S0 n0) R0 139 [.ref 130] W (mkJ (am_u2 (am_u2 (am_u2 (am_u2 (am_u2 (am_u2 J 130 0 (Int32.ofNat 0)) 130 45 (Int32.ofNat 5)) 130 46 (Int32.ofNat h)) 130 47 0) 130 48 0) 130 52 0) (Int32.ofNat 18 :: Int32.ofNat h :: by8 v n)) g L (bR none W J1 g L)) : bm d (S0 n0) R0 140 [.ref 130, .int (Int32.ofNat h), .long v, .int (Int32.ofNat n), .int b] W J g L (bR none W J1 g L) := by
  obtain ⟨e, rfl⟩ : ∃ e, d = e + 1 := ⟨d - 1, by omega⟩
  refine bm_of (Nat.le_of_ble_eq_true rfl) (Or.inr bR_ret) ?_
  show bT e (S0 n0) R0 mt_Mo_write _ 0 [(0, .ref 130), (1, .int (Int32.ofNat h)), (2, .long v), (4, .int (Int32.ofNat n)), (5, .int b)] [] W J g L 0 0
  have hSR := SR0 n0
  refine b_aln (pc2 := 1) d_Mo_write_0 rfl rfl ?_
  refine b_iln (pc2 := 2) d_Mo_write_1 rfl rfl ?_
  refine b_ifd (pc2 := 40) d_Mo_write_2 rfl rfl rfl rfl rfl (fun h2 => ?_) (fun h2 => ?_)
  · exact absurd h2 (fun z => by rw [z_lt (by omega)] at z; omega)
  refine b_iln (pc2 := 6) d_Mo_write_5 rfl rfl ?_
  refine b_sp (pc2 := 9) (x := Int32.ofNat 255) d_Mo_write_6 rfl rfl ?_
  refine b_ifd (pc2 := 40) d_Mo_write_9 rfl rfl rfl rfl rfl (fun h9 => ?_) (fun h9 => ?_)
  · exact absurd h9 (fun z => by rw [i_lt (by omega) (by omega)] at z; omega)
  refine b_il (pc2 := 14) d_Mo_write_12 rfl rfl ?_
  refine b_ifd (pc2 := 40) d_Mo_write_14 rfl rfl rfl rfl rfl (fun h14 => ?_) (fun h14 => ?_)
  · exact absurd h14 (fun z => by rw [z_lt (by omega)] at z; omega)
  refine b_il (pc2 := 19) d_Mo_write_17 rfl rfl ?_
  refine b_bp (pc2 := 21) (x := Int32.ofNat 8) d_Mo_write_19 rfl rfl ?_
  refine b_ifd (pc2 := 40) d_Mo_write_21 rfl rfl rfl rfl rfl (fun h21 => ?_) (fun h21 => ?_)
  · exact absurd h21 (fun z => by rw [i_lt (by omega) (by omega)] at z; omega)
  refine b_il (pc2 := 26) d_Mo_write_24 rfl rfl ?_
  refine b_ifd (pc2 := 44) d_Mo_write_26 rfl rfl rfl rfl rfl (fun h26 => ?_) (fun h26 => ?_)
  · exact absurd h26 (fun z => z hb)
  refine b_il (pc2 := 31) d_Mo_write_29 rfl rfl ?_
  refine b_aln (pc2 := 32) d_Mo_write_31 rfl rfl ?_
  refine b_gi (pc2 := 35) d_Mo_write_32 q_11_108 (sh_130 n0) (by decide) (by decide) (rc_130) rfl ?_
  rw [hlm]
  refine b_ic (pc2 := 36) (x := Int32.ofNat 2) d_Mo_write_35 rfl rfl ?_
  refine b_pure (pc2 := 37) d_Mo_write_36 rfl rfl rfl ?_
  rw [i_sub (by omega)]
  refine b_ifd (pc2 := 44) d_Mo_write_37 rfl rfl rfl rfl rfl (fun h37 => ?_) (fun h37 => ?_)
  rotate_left
  · exact absurd (by rw [i_le (by omega) (by omega)]; omega) h37
  refine b_aln (pc2 := 45) d_Mo_write_44 rfl rfl ?_
  refine b_cv1 (pc2 := 48) (c2 := 0) (u2 := 0) (mo_free (by omega)) d_Mo_write_45 q_11_290 (Nat.le_of_ble_eq_true rfl) rfl rfl (sh_130 n0) (Nat.le_of_ble_eq_true rfl) rfl rfl (by decide) (by decide) rfl ?_
  rw [if_pos hm]
  refine b_ifd (pc2 := 55) d_Mo_write_48 rfl rfl rfl rfl rfl (fun h48 => ?_) (fun h48 => ?_)
  · exact absurd h48 (by decide)
  refine b_ic (pc2 := 52) (x := Int32.ofNat 0) d_Mo_write_51 rfl rfl ?_
  refine b_go (pc2 := 56) d_Mo_write_52 rfl ?_
  refine b_pi (pc2 := 59) d_Mo_write_56 q_11_135 (sh_130 n0) (by decide) (Or.inl (by decide)) (Or.inl rfl) (rc_130) rfl ?_
  refine b_aln (pc2 := 60) d_Mo_write_59 rfl rfl ?_
  refine b_gi (pc2 := 63) d_Mo_write_60 q_11_135 (sh_130 n0) (by decide) (by decide) (rc_130) rfl ?_
  rw [u2_at]
  refine b_ifd (pc2 := 67) d_Mo_write_63 rfl rfl rfl rfl rfl (fun h63 => ?_) (fun h63 => ?_)
  rotate_left
  · exact absurd (by decide) h63
  refine b_aln (pc2 := 68) d_Mo_write_67 rfl rfl ?_
  refine b_il (pc2 := 70) d_Mo_write_68 rfl rfl ?_
  refine b_ifd (pc2 := 78) d_Mo_write_70 rfl rfl rfl rfl rfl (fun h70 => ?_) (fun h70 => ?_)
  rotate_left
  · exact absurd (hb) h70
  refine b_ic (pc2 := 79) (x := Int32.ofNat 5) d_Mo_write_78 rfl rfl ?_
  refine b_iln (pc2 := 80) d_Mo_write_79 rfl rfl ?_
  refine b_cv0 (pc2 := 83) (c2 := 0) (u2 := 0) (mo_open (by omega)) d_Mo_write_80 q_11_293 (Nat.le_of_ble_eq_true rfl) rfl rfl (sh_130 n0) (Nat.le_of_ble_eq_true rfl) rfl rfl (by decide) (by decide) rfl ?_
  refine b_il (pc2 := 85) d_Mo_write_83 rfl rfl ?_
  refine b_ifd (pc2 := 148) d_Mo_write_85 rfl rfl rfl rfl rfl (fun h85 => ?_) (fun h85 => ?_)
  rotate_left
  · exact absurd (hb) h85
  refine b_aln (pc2 := 149) d_Mo_write_148 rfl rfl ?_
  refine b_bp (pc2 := 151) (x := Int32.ofNat 18) d_Mo_write_149 rfl rfl ?_
  refine b_cv0 (pc2 := 154) (c2 := 0) (u2 := 0) (mo_start (by omega)) d_Mo_write_151 q_11_183 (Nat.le_of_ble_eq_true rfl) rfl rfl (sh_130 n0) (Nat.le_of_ble_eq_true rfl) rfl rfl (by decide) (by decide) rfl ?_
  rw [show Int32.ofNat 18 &&& 255 = Int32.ofNat 18 from rfl]
  refine b_aln (pc2 := 155) d_Mo_write_154 rfl rfl ?_
  refine b_iln (pc2 := 156) d_Mo_write_155 rfl rfl ?_
  refine b_cv0 (pc2 := 159) (c2 := 0) (u2 := 0) (mo_lay (by omega) (by show 1 < 40; decide)) d_Mo_write_156 q_11_186 (Nat.le_of_ble_eq_true rfl) rfl rfl (sh_130 n0) (Nat.le_of_ble_eq_true rfl) rfl rfl (by decide) (by decide) rfl ?_
  rw [b255 (by omega)]
  refine b_il (pc2 := 161) d_Mo_write_159 rfl rfl ?_
  refine b_ic (pc2 := 162) (x := Int32.ofNat 1) d_Mo_write_161 rfl rfl ?_
  refine b_pure (pc2 := 163) d_Mo_write_162 rfl rfl rfl ?_
  refine b_is (pc2 := 165) (al2 := [(6, _), (0, _), (1, _), (2, _), (4, _), (5, _)]) d_Mo_write_163 (by decide) rfl rfl ?_
  refine b_nf (al := [(6, _), (0, _), (2, _)]) (ks := [6, 0, 2]) (sub_c rfl (sub_c rfl (sub_c rfl (sub_n)))) rfl (by decide) ?_
  dsimp only
  exact lp_w18 (by omega) n [Int32.ofNat 18, Int32.ofNat h] (by show 2 + n ≤ 30; omega) hn hA
theorem lp_wa {e : Nat} (he : 1 ≤ e) {n : Nat} (hn : n ≤ 8) (K : bH e (S0 n0) R0 mt_Mo_write Qh 122 [(0, .ref 130), (4, .int (Int32.ofNat n))] [] W (am_u1 J 163 (ovw 0 (by8 v n) (J 163))) g L 0 0) : ∀ (r k : Nat), k + r = n → bH e (S0 n0) R0 mt_Mo_write Qh 91 [(6, .int (Int32.ofNat k)), (0, .ref 130), (2, .long v), (4, .int (Int32.ofNat n))] [] W (am_u1 J 163 (ovw 0 ((by8 v n).take k) (J 163))) g L 0 0 := by
  intro r
  induction r with
  | zero =>
    intro k hk
    refine b_il (pc2 := 93) d_Mo_write_91 rfl rfl ?_
    refine b_il (pc2 := 95) d_Mo_write_93 rfl rfl ?_
    refine b_ifd (pc2 := 122) d_Mo_write_95 rfl rfl rfl rfl rfl (fun h95 => ?_) (fun h95 => ?_)
    rotate_left
    · exact absurd (by rw [i_le (by omega) (by omega)]; omega) h95
    refine b_nf (al := [(0, _), (4, _)]) (ks := [0, 4]) (sub_c rfl (sub_c rfl (sub_n))) rfl (by decide) ?_
    dsimp only
    rw [List.take_of_length_le (by rw [by8_len]; omega)]
    exact K
  | succ r ih =>
    intro k hk
    refine b_il (pc2 := 93) d_Mo_write_91 rfl rfl ?_
    refine b_il (pc2 := 95) d_Mo_write_93 rfl rfl ?_
    refine b_ifd (pc2 := 122) d_Mo_write_95 rfl rfl rfl rfl rfl (fun h95 => ?_) (fun h95 => ?_)
    · exact absurd h95 (fun z => by rw [i_le (by omega) (by omega)] at z; omega)
    refine b_aln (pc2 := 99) d_Mo_write_98 rfl rfl ?_
    refine b_gr (pc2 := 102) d_Mo_write_99 q_11_120 (sh_130 n0) (by decide) (by decide) (p_130_56 n0) rfl ?_
    refine b_il (pc2 := 104) d_Mo_write_102 rfl rfl ?_
    refine b_lln (pc2 := 105) d_Mo_write_104 rfl rfl ?_
    refine b_il (pc2 := 107) d_Mo_write_105 rfl rfl ?_
    refine b_ic (pc2 := 108) (x := Int32.ofNat 1) d_Mo_write_107 rfl rfl ?_
    refine b_pure (pc2 := 109) d_Mo_write_108 rfl rfl rfl ?_
    rw [i_sub (by omega)]
    refine b_il (pc2 := 111) d_Mo_write_109 rfl rfl ?_
    refine b_pure (pc2 := 112) d_Mo_write_111 rfl rfl rfl ?_
    rw [i_sub (by omega)]
    refine b_cs1 (pc2 := 115) (c2 := 0) (u2 := 0) (mo_byteOf (by omega)) d_Mo_write_112 q_11_286 (Or.inl rfl) (Nat.le_of_ble_eq_true rfl) rfl rfl (Nat.le_of_ble_eq_true rfl) rfl rfl (by decide) (by decide) rfl ?_
    rw [by_eq v (show n - 1 - k < 8 by omega), ← by8_get v n k (by omega)]
    refine b_ist (pc2 := 116) (q := k) d_Mo_write_115 (sh_163 n0) (i_in (show k < 8 by omega) (by decide)) (i_tn (by omega)) (rc_163) rfl ?_
    rw [u21, ovw_s0 _ _ _ (show k = ((by8 v n).take k).length by rw [List.length_take, by8_len]; omega), l_tk (show k < (by8 v n).length by rw [by8_len]; omega)]
    refine b_inc (pc2 := 119) (al2 := [(6, _), (0, _), (2, _), (4, _)]) (y := Int32.ofNat 1) d_Mo_write_116 (by decide) rfl rfl rfl rfl ?_
    rw [i_add]
    refine b_go (pc2 := 91) d_Mo_write_119 rfl ?_
    refine b_nf (al := [(6, _), (0, _), (2, _), (4, _)]) (ks := [6, 0, 2, 4]) (sub_c rfl (sub_c rfl (sub_c rfl (sub_c rfl (sub_n))))) rfl (by decide) ?_
    dsimp only
    exact ih (k + 1) (by omega)
theorem mo_write3 {d : Nat} (hd : 4 ≤ d) {h n : Nat} {b : Int32} (hh : h < 256) (hn : n ≤ 8) (hb : ¬ b = 0) (hm : (J 130 7 = 0 ∧ (J 130 47 = Int32.ofNat 1 ∨ J 130 47 = Int32.ofNat 2))) (hA : ∀ e, 3 ≤ e → bm e (S0 n0) R0 141 [.ref 130] W (am_u2 (am_u2 (am_u2 (am_u2 (am_u1 (am_u2 (am_u2 (am_u2 (am_u2 (am_u2 (am_u2 J 130 0 (Int32.ofNat 0)) 130 45 (Int32.ofNat 6)) 130 46 (Int32.ofNat h)) 130 47 0) 130 48 0) 130 52 0) 163 (ovw 0 (by8 v n) (J 163))) 130 54 (Int32.ofNat n)) 130 55 (Int32.ofNat 0)) 130 57 (Int32.ofNat 0)) 130 58 (Int32.ofNat 0)) g L (bR none W J1 g L)) : bm d (S0 n0) R0 140 [.ref 130, .int (Int32.ofNat h), .long v, .int (Int32.ofNat n), .int b] W J g L (bR none W J1 g L) := by
  obtain ⟨e, rfl⟩ : ∃ e, d = e + 1 := ⟨d - 1, by omega⟩
  refine bm_of (Nat.le_of_ble_eq_true rfl) (Or.inr bR_ret) ?_
  show bT e (S0 n0) R0 mt_Mo_write _ 0 [(0, .ref 130), (1, .int (Int32.ofNat h)), (2, .long v), (4, .int (Int32.ofNat n)), (5, .int b)] [] W J g L 0 0
  have hSR := SR0 n0
  refine b_aln (pc2 := 1) d_Mo_write_0 rfl rfl ?_
  refine b_iln (pc2 := 2) d_Mo_write_1 rfl rfl ?_
  refine b_ifd (pc2 := 40) d_Mo_write_2 rfl rfl rfl rfl rfl (fun h2 => ?_) (fun h2 => ?_)
  · exact absurd h2 (fun z => by rw [z_lt (by omega)] at z; omega)
  refine b_iln (pc2 := 6) d_Mo_write_5 rfl rfl ?_
  refine b_sp (pc2 := 9) (x := Int32.ofNat 255) d_Mo_write_6 rfl rfl ?_
  refine b_ifd (pc2 := 40) d_Mo_write_9 rfl rfl rfl rfl rfl (fun h9 => ?_) (fun h9 => ?_)
  · exact absurd h9 (fun z => by rw [i_lt (by omega) (by omega)] at z; omega)
  refine b_il (pc2 := 14) d_Mo_write_12 rfl rfl ?_
  refine b_ifd (pc2 := 40) d_Mo_write_14 rfl rfl rfl rfl rfl (fun h14 => ?_) (fun h14 => ?_)
  · exact absurd h14 (fun z => by rw [z_lt (by omega)] at z; omega)
  refine b_il (pc2 := 19) d_Mo_write_17 rfl rfl ?_
  refine b_bp (pc2 := 21) (x := Int32.ofNat 8) d_Mo_write_19 rfl rfl ?_
  refine b_ifd (pc2 := 40) d_Mo_write_21 rfl rfl rfl rfl rfl (fun h21 => ?_) (fun h21 => ?_)
  · exact absurd h21 (fun z => by rw [i_lt (by omega) (by omega)] at z; omega)
  refine b_il (pc2 := 26) d_Mo_write_24 rfl rfl ?_
  refine b_ifd (pc2 := 44) d_Mo_write_26 rfl rfl rfl rfl rfl (fun h26 => ?_) (fun h26 => ?_)
  rotate_left
  · exact absurd (hb) h26
  refine b_aln (pc2 := 45) d_Mo_write_44 rfl rfl ?_
  refine b_cv1 (pc2 := 48) (c2 := 0) (u2 := 0) (mo_free (by omega)) d_Mo_write_45 q_11_290 (Nat.le_of_ble_eq_true rfl) rfl rfl (sh_130 n0) (Nat.le_of_ble_eq_true rfl) rfl rfl (by decide) (by decide) rfl ?_
  rw [if_pos hm]
  refine b_ifd (pc2 := 55) d_Mo_write_48 rfl rfl rfl rfl rfl (fun h48 => ?_) (fun h48 => ?_)
  · exact absurd h48 (by decide)
  refine b_ic (pc2 := 52) (x := Int32.ofNat 0) d_Mo_write_51 rfl rfl ?_
  refine b_go (pc2 := 56) d_Mo_write_52 rfl ?_
  refine b_pi (pc2 := 59) d_Mo_write_56 q_11_135 (sh_130 n0) (by decide) (Or.inl (by decide)) (Or.inl rfl) (rc_130) rfl ?_
  refine b_aln (pc2 := 60) d_Mo_write_59 rfl rfl ?_
  refine b_gi (pc2 := 63) d_Mo_write_60 q_11_135 (sh_130 n0) (by decide) (by decide) (rc_130) rfl ?_
  rw [u2_at]
  refine b_ifd (pc2 := 67) d_Mo_write_63 rfl rfl rfl rfl rfl (fun h63 => ?_) (fun h63 => ?_)
  rotate_left
  · exact absurd (by decide) h63
  refine b_aln (pc2 := 68) d_Mo_write_67 rfl rfl ?_
  refine b_il (pc2 := 70) d_Mo_write_68 rfl rfl ?_
  refine b_ifd (pc2 := 78) d_Mo_write_70 rfl rfl rfl rfl rfl (fun h70 => ?_) (fun h70 => ?_)
  · exact absurd h70 (hb)
  refine b_bp (pc2 := 75) (x := Int32.ofNat 6) d_Mo_write_73 rfl rfl ?_
  refine b_go (pc2 := 79) d_Mo_write_75 rfl ?_
  refine b_iln (pc2 := 80) d_Mo_write_79 rfl rfl ?_
  refine b_cv0 (pc2 := 83) (c2 := 0) (u2 := 0) (mo_open (by omega)) d_Mo_write_80 q_11_293 (Nat.le_of_ble_eq_true rfl) rfl rfl (sh_130 n0) (Nat.le_of_ble_eq_true rfl) rfl rfl (by decide) (by decide) rfl ?_
  refine b_il (pc2 := 85) d_Mo_write_83 rfl rfl ?_
  refine b_ifd (pc2 := 148) d_Mo_write_85 rfl rfl rfl rfl rfl (fun h85 => ?_) (fun h85 => ?_)
  · exact absurd h85 (hb)
  refine b_ic (pc2 := 89) (x := Int32.ofNat 0) d_Mo_write_88 rfl rfl ?_
  refine b_is (pc2 := 91) (al2 := [(6, _), (0, _), (1, _), (2, _), (4, _), (5, _)]) d_Mo_write_89 (by decide) rfl rfl ?_
  refine b_nf (al := [(6, _), (0, _), (2, _), (4, _)]) (ks := [6, 0, 2, 4]) (sub_c rfl (sub_c rfl (sub_c rfl (sub_c rfl (sub_n))))) rfl (by decide) ?_
  dsimp only
  have hK : ∀ c, ¬ c = 130 → (am_u2 (am_u2 (am_u2 (am_u2 (am_u2 (am_u2 J 130 0 (Int32.ofNat 0)) 130 45 (Int32.ofNat 6)) 130 46 (Int32.ofNat h)) 130 47 0) 130 48 0) 130 52 0) c = J c := fun c a1 => by rw [u2_a _ _ a1, u2_a _ _ a1, u2_a _ _ a1, u2_a _ _ a1, u2_a _ _ a1, u2_a _ _ a1]
  refine (fun z => ?_ : _ → _) (lp_wa (n0 := n0) (W := W) (J := (am_u2 (am_u2 (am_u2 (am_u2 (am_u2 (am_u2 J 130 0 (Int32.ofNat 0)) 130 45 (Int32.ofNat 6)) 130 46 (Int32.ofNat h)) 130 47 0) 130 48 0) 130 52 0)) (g := g) (L := L) (e := e) (v := v) (n := n) (Qh := bw_Q (S0 n0) R0 (bR none W J1 g L)) (by omega) hn ?_ n 0 (by omega))
  · rw [List.take_zero, ovw_nil, u1_id] at z
    exact z
  · rw [hK 163 (by decide)]
    refine b_aln (pc2 := 123) d_Mo_write_122 rfl rfl ?_
    refine b_il (pc2 := 125) d_Mo_write_123 rfl rfl ?_
    refine b_pi (pc2 := 128) d_Mo_write_125 q_11_274 (sh_130 n0) (by decide) (Or.inl (by decide)) (Or.inl rfl) (rc_130) rfl ?_
    refine b_aln (pc2 := 129) d_Mo_write_128 rfl rfl ?_
    refine b_ic (pc2 := 130) (x := Int32.ofNat 0) d_Mo_write_129 rfl rfl ?_
    refine b_pi (pc2 := 133) d_Mo_write_130 q_11_271 (sh_130 n0) (by decide) (Or.inl (by decide)) (Or.inl rfl) (rc_130) rfl ?_
    refine b_aln (pc2 := 134) d_Mo_write_133 rfl rfl ?_
    refine b_ic (pc2 := 135) (x := Int32.ofNat 0) d_Mo_write_134 rfl rfl ?_
    refine b_pi (pc2 := 138) d_Mo_write_135 q_11_244 (sh_130 n0) (by decide) (Or.inl (by decide)) (Or.inr ⟨rfl, by decide⟩) (rc_130) rfl ?_
    refine b_aln (pc2 := 139) d_Mo_write_138 rfl rfl ?_
    refine b_ic (pc2 := 140) (x := Int32.ofNat 0) d_Mo_write_139 rfl rfl ?_
    refine b_pi (pc2 := 143) d_Mo_write_140 q_11_277 (sh_130 n0) (by decide) (Or.inl (by decide)) (Or.inr ⟨rfl, by decide⟩) (rc_130) rfl ?_
    refine b_aln (pc2 := 144) d_Mo_write_143 rfl rfl ?_
    refine b_cv0 (pc2 := 147) (c2 := 0) (u2 := 0) (hA e (by omega)) d_Mo_write_144 q_11_280 (Nat.le_of_ble_eq_true rfl) rfl rfl (sh_130 n0) (Nat.le_of_ble_eq_true rfl) rfl rfl (by decide) (by decide) rfl ?_
    refine b_vr d_Mo_write_147 rfl ?_
    exact ⟨rfl, rfl, rfl, rfl, rfl⟩
theorem mo_raw0 {d : Nat} (hd : 3 ≤ d) {n : Int32} (hb : ¬ (¬ n = 0 ∧ (¬ n < 0 ∧ ¬ Int32.ofNat 8 < n))) : bm d (S0 n0) R0 142 [.ref 130, .long v, .int n] W J g L (bR none W (am_u2 J 130 0 (Int32.ofNat 1)) g L) := by
  obtain ⟨e, rfl⟩ : ∃ e, d = e + 1 := ⟨d - 1, by omega⟩
  refine bm_of (Nat.le_of_ble_eq_true rfl) (Or.inr bR_ret) ?_
  show bT e (S0 n0) R0 mt_Mo_raw _ 0 [(0, .ref 130), (1, .long v), (3, .int n)] [] W J g L 0 0
  have hSR := SR0 n0
  refine b_aln (pc2 := 1) d_Mo_raw_0 rfl rfl ?_
  refine b_iln (pc2 := 2) d_Mo_raw_1 rfl rfl ?_
  refine b_ic (pc2 := 3) (x := Int32.ofNat 1) d_Mo_raw_2 rfl rfl ?_
  refine b_ifd (pc2 := 12) d_Mo_raw_3 rfl rfl rfl rfl rfl (fun h3 => ?_) (fun h3 => ?_)
  · refine b_ic (pc2 := 13) (x := Int32.ofNat 1) d_Mo_raw_12 rfl rfl ?_
    refine b_go (pc2 := 28) d_Mo_raw_13 rfl ?_
    refine b_pi (pc2 := 31) d_Mo_raw_28 q_11_135 (sh_130 n0) (by decide) (Or.inl (by decide)) (Or.inl rfl) (rc_130) rfl ?_
    refine b_aln (pc2 := 32) d_Mo_raw_31 rfl rfl ?_
    refine b_gi (pc2 := 35) d_Mo_raw_32 q_11_135 (sh_130 n0) (by decide) (by decide) (rc_130) rfl ?_
    rw [u2_at]
    refine b_ifd (pc2 := 39) d_Mo_raw_35 rfl rfl rfl rfl rfl (fun h35 => ?_) (fun h35 => ?_)
    · exact absurd h35 (by decide)
    refine b_vr d_Mo_raw_38 rfl ?_
    exact ⟨rfl, rfl, rfl, rfl, rfl⟩
  · refine b_iln (pc2 := 7) d_Mo_raw_6 rfl rfl ?_
    refine b_bp (pc2 := 9) (x := Int32.ofNat 8) d_Mo_raw_7 rfl rfl ?_
    refine b_ifd (pc2 := 16) d_Mo_raw_9 rfl rfl rfl rfl rfl (fun h9 => ?_) (fun h9 => ?_)
    · exact absurd ⟨fun z => h3 (by rw [z]; decide), fun z => h3 (Int32.lt_trans z (by decide)), Int32.not_lt.mpr h9⟩ hb
    · refine b_ic (pc2 := 13) (x := Int32.ofNat 1) d_Mo_raw_12 rfl rfl ?_
      refine b_go (pc2 := 28) d_Mo_raw_13 rfl ?_
      refine b_pi (pc2 := 31) d_Mo_raw_28 q_11_135 (sh_130 n0) (by decide) (Or.inl (by decide)) (Or.inl rfl) (rc_130) rfl ?_
      refine b_aln (pc2 := 32) d_Mo_raw_31 rfl rfl ?_
      refine b_gi (pc2 := 35) d_Mo_raw_32 q_11_135 (sh_130 n0) (by decide) (by decide) (rc_130) rfl ?_
      rw [u2_at]
      refine b_ifd (pc2 := 39) d_Mo_raw_35 rfl rfl rfl rfl rfl (fun h35 => ?_) (fun h35 => ?_)
      · exact absurd h35 (by decide)
      refine b_vr d_Mo_raw_38 rfl ?_
      exact ⟨rfl, rfl, rfl, rfl, rfl⟩
theorem mo_raw1 {d : Nat} (hd : 3 ≤ d) {n : Nat} (hn1 : 1 ≤ n) (hn : n ≤ 8) (hm : ¬ (J 130 7 = 0 ∧ (J 130 47 = Int32.ofNat 1 ∨ J 130 47 = Int32.ofNat 2))) : bm d (S0 n0) R0 142 [.ref 130, .long v, .int (Int32.ofNat n)] W J g L (bR none W (am_u2 J 130 0 (Int32.ofNat 2)) g L) := by
  obtain ⟨e, rfl⟩ : ∃ e, d = e + 1 := ⟨d - 1, by omega⟩
  refine bm_of (Nat.le_of_ble_eq_true rfl) (Or.inr bR_ret) ?_
  show bT e (S0 n0) R0 mt_Mo_raw _ 0 [(0, .ref 130), (1, .long v), (3, .int (Int32.ofNat n))] [] W J g L 0 0
  have hSR := SR0 n0
  refine b_aln (pc2 := 1) d_Mo_raw_0 rfl rfl ?_
  refine b_iln (pc2 := 2) d_Mo_raw_1 rfl rfl ?_
  refine b_ic (pc2 := 3) (x := Int32.ofNat 1) d_Mo_raw_2 rfl rfl ?_
  refine b_ifd (pc2 := 12) d_Mo_raw_3 rfl rfl rfl rfl rfl (fun h3 => ?_) (fun h3 => ?_)
  · exact absurd h3 (fun z => by rw [i_lt (by omega) (by omega)] at z; omega)
  refine b_iln (pc2 := 7) d_Mo_raw_6 rfl rfl ?_
  refine b_bp (pc2 := 9) (x := Int32.ofNat 8) d_Mo_raw_7 rfl rfl ?_
  refine b_ifd (pc2 := 16) d_Mo_raw_9 rfl rfl rfl rfl rfl (fun h9 => ?_) (fun h9 => ?_)
  rotate_left
  · exact absurd (by rw [i_le (by omega) (by omega)]; omega) h9
  refine b_aln (pc2 := 17) d_Mo_raw_16 rfl rfl ?_
  refine b_cv1 (pc2 := 20) (c2 := 0) (u2 := 0) (mo_free (by omega)) d_Mo_raw_17 q_11_290 (Nat.le_of_ble_eq_true rfl) rfl rfl (sh_130 n0) (Nat.le_of_ble_eq_true rfl) rfl rfl (by decide) (by decide) rfl ?_
  rw [if_neg hm]
  refine b_ifd (pc2 := 27) d_Mo_raw_20 rfl rfl rfl rfl rfl (fun h20 => ?_) (fun h20 => ?_)
  rotate_left
  · exact absurd (by decide) h20
  refine b_ic (pc2 := 28) (x := Int32.ofNat 2) d_Mo_raw_27 rfl rfl ?_
  refine b_pi (pc2 := 31) d_Mo_raw_28 q_11_135 (sh_130 n0) (by decide) (Or.inl (by decide)) (Or.inl rfl) (rc_130) rfl ?_
  refine b_aln (pc2 := 32) d_Mo_raw_31 rfl rfl ?_
  refine b_gi (pc2 := 35) d_Mo_raw_32 q_11_135 (sh_130 n0) (by decide) (by decide) (rc_130) rfl ?_
  rw [u2_at]
  refine b_ifd (pc2 := 39) d_Mo_raw_35 rfl rfl rfl rfl rfl (fun h35 => ?_) (fun h35 => ?_)
  · exact absurd h35 (by decide)
  refine b_vr d_Mo_raw_38 rfl ?_
  exact ⟨rfl, rfl, rfl, rfl, rfl⟩
theorem lp_rw {e : Nat} (he : 2 ≤ e) : ∀ (m : Nat) (l : List Int32), l.length + m ≤ 30 → m ≤ 8 → (∀ e, 2 ≤ e → bm e (S0 n0) R0 139 [.ref 130] W (mkJ J (l ++ by8 v m)) g L (bR none W J1 g L)) → bT e (S0 n0) R0 mt_Mo_raw (bR none W J1 g L) 56 [(4, .int (Int32.ofNat m - Int32.ofNat 1)), (0, .ref 130), (1, .long v)] [] W (mkJ J l) g L 0 0 := by
  intro m
  induction m with
  | zero =>
    intro l hl hm8 hA
    rw [show by8 v 0 = [] from rfl, List.append_nil] at hA
    refine b_il (pc2 := 58) d_Mo_raw_56 rfl rfl ?_
    refine b_ifd (pc2 := 77) d_Mo_raw_58 rfl rfl rfl rfl rfl (fun h58 => ?_) (fun h58 => ?_)
    rotate_left
    · exact absurd (by decide) h58
    refine b_aln (pc2 := 78) d_Mo_raw_77 rfl rfl ?_
    refine b_cv0 (pc2 := 81) (c2 := 0) (u2 := 0) (hA e (by omega)) d_Mo_raw_78 q_11_268 (Nat.le_of_ble_eq_true rfl) rfl rfl (sh_130 n0) (Nat.le_of_ble_eq_true rfl) rfl rfl (by decide) (by decide) rfl ?_
    refine b_vr d_Mo_raw_81 rfl ?_
    exact ⟨rfl, rfl, rfl, rfl, rfl⟩
  | succ m ih =>
    intro l hl hm8 hA
    rw [i_sub (by omega), show m + 1 - 1 = m by omega]
    refine b_il (pc2 := 58) d_Mo_raw_56 rfl rfl ?_
    refine b_ifd (pc2 := 77) d_Mo_raw_58 rfl rfl rfl rfl rfl (fun h58 => ?_) (fun h58 => ?_)
    · exact absurd h58 (fun z => by rw [z_lt (by omega)] at z; omega)
    refine b_aln (pc2 := 62) d_Mo_raw_61 rfl rfl ?_
    refine b_lln (pc2 := 63) d_Mo_raw_62 rfl rfl ?_
    refine b_il (pc2 := 65) d_Mo_raw_63 rfl rfl ?_
    refine b_cs1 (pc2 := 68) (c2 := 0) (u2 := 0) (mo_byteOf (by omega)) d_Mo_raw_65 q_11_286 (Or.inl rfl) (Nat.le_of_ble_eq_true rfl) rfl rfl (Nat.le_of_ble_eq_true rfl) rfl rfl (by decide) (by decide) rfl ?_
    rw [by_eq v (show m < 8 by omega)]
    refine b_cv0 (pc2 := 71) (c2 := 0) (u2 := 0) (mo_lay (by omega) (by omega)) d_Mo_raw_68 q_11_186 (Nat.le_of_ble_eq_true rfl) rfl rfl (sh_130 n0) (Nat.le_of_ble_eq_true rfl) rfl rfl (by decide) (by decide) rfl ?_
    rw [show by0 v m &&& 255 = by0 v m from a255 _]
    refine b_inc (pc2 := 74) (al2 := [(4, _), (0, _), (1, _)]) (y := -1) d_Mo_raw_71 (by decide) rfl rfl rfl rfl ?_
    refine b_go (pc2 := 56) d_Mo_raw_74 rfl ?_
    refine b_nf (al := [(4, _), (0, _), (1, _)]) (ks := [4, 0, 1]) (sub_c rfl (sub_c rfl (sub_c rfl (sub_n)))) rfl (by decide) ?_
    dsimp only
    rw [i_pred]
    refine ih (l ++ [by0 v m]) (by simp only [List.length_append, List.length_cons, List.length_nil]; omega) (by omega) ?_
    rw [List.append_assoc]
    exact hA
theorem mo_raw2 {d : Nat} (hd : 3 ≤ d) {n : Nat} (hn1 : 1 ≤ n) (hn : n ≤ 8) (hm : (J 130 7 = 0 ∧ (J 130 47 = Int32.ofNat 1 ∨ J 130 47 = Int32.ofNat 2))) (hA : ∀ e, 2 ≤ e → bm e (S0 n0) R0 139 [.ref 130] W (mkJ (am_u2 (am_u2 (am_u2 (am_u2 (am_u2 (am_u2 J 130 0 (Int32.ofNat 0)) 130 45 (Int32.ofNat 7)) 130 46 (Int32.ofNat 0)) 130 47 0) 130 48 0) 130 52 0) (by8 v n)) g L (bR none W J1 g L)) : bm d (S0 n0) R0 142 [.ref 130, .long v, .int (Int32.ofNat n)] W J g L (bR none W J1 g L) := by
  obtain ⟨e, rfl⟩ : ∃ e, d = e + 1 := ⟨d - 1, by omega⟩
  refine bm_of (Nat.le_of_ble_eq_true rfl) (Or.inr bR_ret) ?_
  show bT e (S0 n0) R0 mt_Mo_raw _ 0 [(0, .ref 130), (1, .long v), (3, .int (Int32.ofNat n))] [] W J g L 0 0
  have hSR := SR0 n0
  refine b_aln (pc2 := 1) d_Mo_raw_0 rfl rfl ?_
  refine b_iln (pc2 := 2) d_Mo_raw_1 rfl rfl ?_
  refine b_ic (pc2 := 3) (x := Int32.ofNat 1) d_Mo_raw_2 rfl rfl ?_
  refine b_ifd (pc2 := 12) d_Mo_raw_3 rfl rfl rfl rfl rfl (fun h3 => ?_) (fun h3 => ?_)
  · exact absurd h3 (fun z => by rw [i_lt (by omega) (by omega)] at z; omega)
  refine b_iln (pc2 := 7) d_Mo_raw_6 rfl rfl ?_
  refine b_bp (pc2 := 9) (x := Int32.ofNat 8) d_Mo_raw_7 rfl rfl ?_
  refine b_ifd (pc2 := 16) d_Mo_raw_9 rfl rfl rfl rfl rfl (fun h9 => ?_) (fun h9 => ?_)
  rotate_left
  · exact absurd (by rw [i_le (by omega) (by omega)]; omega) h9
  refine b_aln (pc2 := 17) d_Mo_raw_16 rfl rfl ?_
  refine b_cv1 (pc2 := 20) (c2 := 0) (u2 := 0) (mo_free (by omega)) d_Mo_raw_17 q_11_290 (Nat.le_of_ble_eq_true rfl) rfl rfl (sh_130 n0) (Nat.le_of_ble_eq_true rfl) rfl rfl (by decide) (by decide) rfl ?_
  rw [if_pos hm]
  refine b_ifd (pc2 := 27) d_Mo_raw_20 rfl rfl rfl rfl rfl (fun h20 => ?_) (fun h20 => ?_)
  · exact absurd h20 (by decide)
  refine b_ic (pc2 := 24) (x := Int32.ofNat 0) d_Mo_raw_23 rfl rfl ?_
  refine b_go (pc2 := 28) d_Mo_raw_24 rfl ?_
  refine b_pi (pc2 := 31) d_Mo_raw_28 q_11_135 (sh_130 n0) (by decide) (Or.inl (by decide)) (Or.inl rfl) (rc_130) rfl ?_
  refine b_aln (pc2 := 32) d_Mo_raw_31 rfl rfl ?_
  refine b_gi (pc2 := 35) d_Mo_raw_32 q_11_135 (sh_130 n0) (by decide) (by decide) (rc_130) rfl ?_
  rw [u2_at]
  refine b_ifd (pc2 := 39) d_Mo_raw_35 rfl rfl rfl rfl rfl (fun h35 => ?_) (fun h35 => ?_)
  rotate_left
  · exact absurd (by decide) h35
  refine b_aln (pc2 := 40) d_Mo_raw_39 rfl rfl ?_
  refine b_bp (pc2 := 42) (x := Int32.ofNat 7) d_Mo_raw_40 rfl rfl ?_
  refine b_ic (pc2 := 43) (x := Int32.ofNat 0) d_Mo_raw_42 rfl rfl ?_
  refine b_cv0 (pc2 := 46) (c2 := 0) (u2 := 0) (mo_open (by omega)) d_Mo_raw_43 q_11_293 (Nat.le_of_ble_eq_true rfl) rfl rfl (sh_130 n0) (Nat.le_of_ble_eq_true rfl) rfl rfl (by decide) (by decide) rfl ?_
  refine b_aln (pc2 := 47) d_Mo_raw_46 rfl rfl ?_
  refine b_ic (pc2 := 48) (x := Int32.ofNat 0) d_Mo_raw_47 rfl rfl ?_
  refine b_pi (pc2 := 51) d_Mo_raw_48 q_11_140 (sh_130 n0) (by decide) (Or.inl (by decide)) (Or.inl rfl) (rc_130) rfl ?_
  rw [mkJ_nil]
  refine b_iln (pc2 := 52) d_Mo_raw_51 rfl rfl ?_
  refine b_ic (pc2 := 53) (x := Int32.ofNat 1) d_Mo_raw_52 rfl rfl ?_
  refine b_pure (pc2 := 54) d_Mo_raw_53 rfl rfl rfl ?_
  refine b_is (pc2 := 56) (al2 := [(4, _), (0, _), (1, _), (3, _)]) d_Mo_raw_54 (by decide) rfl rfl ?_
  refine b_nf (al := [(4, _), (0, _), (1, _)]) (ks := [4, 0, 1]) (sub_c rfl (sub_c rfl (sub_c rfl (sub_n)))) rfl (by decide) ?_
  dsimp only
  exact lp_rw (by omega) n [] (by show 0 + n ≤ 30; omega) hn hA
end MQ
