/-! Part 93 (written by gen42.py): the reference: judge, finish -/
theorem z_eq {a : Nat} (h : a < 2147483648) : Int32.ofNat a = 0 ↔ a = 0 := i_eq (b := 0) h (by decide)
theorem z_lt {a : Nat} (h : a < 2147483648) : Int32.ofNat a < 0 ↔ a < 0 := i_lt (b := 0) h (by decide)
theorem z_le {a : Nat} (h : a < 2147483648) : Int32.ofNat a ≤ 0 ↔ a ≤ 0 := i_le (b := 0) h (by decide)
theorem z_gt {a : Nat} (h : a < 2147483648) : 0 < Int32.ofNat a ↔ 0 < a := i_lt (a := 0) (by decide) h
theorem z_ge {a : Nat} (h : a < 2147483648) : 0 ≤ Int32.ofNat a ↔ 0 ≤ a := i_le (a := 0) (by decide) h
theorem u2_id {α : Type} (f : Nat → Nat → α) (a k : Nat) : am_u2 f a k (f a k) = f := by
  rw [u2_u1, u1_id, u1_id]
theorem u2_c {α : Type} (f : Nat → Nat → α) {a b i k : Nat} (x y : α) (h : ¬ b = a) : am_u2 (am_u2 f a i x) b k y = am_u2 (am_u2 f b k y) a i x := by
  rw [u2_u1 (am_u2 f a i x) b k y, u2_a _ _ h, u12c _ _ _ h, ← u2_u1]
def mplan (H P Z : Nat → Nat) : Nat → Nat → (Nat → Int32) → Nat × (Nat → Int32)
  | 0, _, p => (0, p)
  | r + 1, k, p => if p (H k) < Int32.ofNat (P k) then (7, p) else if 16 < P k + Z k then (13, p) else mplan H P Z r (k + 1) (am_u1 p (H k) (if p (H k) < Int32.ofNat (P k + Z k) then Int32.ofNat (P k + Z k) else p (H k)))
def tl1 (J : bw_J) (k : Nat) : Nat → Int32 := fun q => if q < k then J 154 q else J 156 q
theorem tl1_0 (J : bw_J) : tl1 J 0 = J 156 := funext fun q => if_neg (by omega)
theorem tl1_step (J : bw_J) (k : Nat) : am_u1 (tl1 J k) k (J 154 k) = tl1 J (k + 1) := by
  funext q
  unfold tl1
  by_cases h : q = k
  · subst h; rw [u1_at, if_pos (by omega)]
  · rw [u1_ne _ _ h]
    by_cases h2 : q < k
    · rw [if_pos h2, if_pos (by omega)]
    · rw [if_neg h2, if_neg (by omega)]
/-- the parts of the reference: handle less one, place, how many -/
def mp_ok (J : bw_J) (H P Z : Nat → Nat) (k : Nat) : Prop := J 157 k = Int32.ofNat (H k + 1) ∧ H k < 10 ∧ J 158 k = Int32.ofNat (P k) ∧ P k < 256 ∧ J 159 k = Int32.ofNat (Z k) ∧ Z k ≤ 17
section MJ
variable {n0 : Nat} {W : bw_W} {J : bw_J} {g : Nat} {L : bw_L}
variable {J1 : bw_J} {Qh : am_O → am_H → Prop} {H P Z : Nat → Nat}
theorem lp_j2 {e : Nat} {pn : Nat} (hp : J 130 39 = Int32.ofNat pn) (hpn : pn ≤ 4) (hok : ∀ k, k < pn → mp_ok J H P Z k) : ∀ (r k : Nat) (p : Nat → Int32), k + r = pn → bT e (S0 n0) R0 mt_Mo_judge (bR (some (.int (Int32.ofNat (mplan H P Z r k p).1))) W (am_u1 J 156 (mplan H P Z r k p).2) g L) 30 [(1, .int (Int32.ofNat k)), (0, .ref 130)] [] W (am_u1 J 156 p) g L 0 0 := by
  intro r
  induction r with
  | zero =>
    intro k p hk
    refine b_iln (pc2 := 31) d_Mo_judge_30 rfl rfl ?_
    refine b_aln (pc2 := 32) d_Mo_judge_31 rfl rfl ?_
    refine b_gi (pc2 := 35) d_Mo_judge_32 q_11_225 (sh_130 n0) (by decide) (by decide) (rc_130) rfl ?_
    rw [u1_ne _ _ (by decide), hp]
    refine b_ifd (pc2 := 120) d_Mo_judge_35 rfl rfl rfl rfl rfl (fun h35 => ?_) (fun h35 => ?_)
    rotate_left
    · exact absurd (by rw [i_le (by omega) (by omega)]; omega) h35
    refine b_ic (pc2 := 121) (x := Int32.ofNat 0) d_Mo_judge_120 rfl rfl ?_
    refine b_ir d_Mo_judge_121 rfl ?_
    exact ⟨rfl, rfl, rfl, rfl, rfl⟩
  | succ r ih =>
    intro k p hk
    obtain ⟨q1, q2, q3, q4, q5, q6⟩ := hok k (by omega)
    unfold mplan
    refine b_iln (pc2 := 31) d_Mo_judge_30 rfl rfl ?_
    refine b_aln (pc2 := 32) d_Mo_judge_31 rfl rfl ?_
    refine b_gi (pc2 := 35) d_Mo_judge_32 q_11_225 (sh_130 n0) (by decide) (by decide) (rc_130) rfl ?_
    rw [u1_ne _ _ (by decide), hp]
    refine b_ifd (pc2 := 120) d_Mo_judge_35 rfl rfl rfl rfl rfl (fun h35 => ?_) (fun h35 => ?_)
    · exact absurd h35 (fun z => by rw [i_le (by omega) (by omega)] at z; omega)
    refine b_aln (pc2 := 39) d_Mo_judge_38 rfl rfl ?_
    refine b_gr (pc2 := 42) d_Mo_judge_39 q_11_96 (sh_130 n0) (by decide) (by decide) (p_130_40 n0) rfl ?_
    refine b_iln (pc2 := 43) d_Mo_judge_42 rfl rfl ?_
    refine b_ia (pc2 := 44) (q := k) d_Mo_judge_43 (sh_157 n0) (i_in (show k < 4 by omega) (by decide)) (i_tn (by omega)) (rc_157) rfl ?_
    rw [u1_ne _ _ (by decide), q1]
    refine b_ic (pc2 := 45) (x := Int32.ofNat 1) d_Mo_judge_44 rfl rfl ?_
    refine b_pure (pc2 := 46) d_Mo_judge_45 rfl rfl rfl ?_
    rw [i_sub (by omega), show H k + 1 - 1 = H k by omega]
    refine b_isn (pc2 := 47) (al2 := [(2, _), (1, _), (0, _)]) d_Mo_judge_46 (by decide) rfl rfl ?_
    refine b_aln (pc2 := 48) d_Mo_judge_47 rfl rfl ?_
    refine b_gr (pc2 := 51) d_Mo_judge_48 q_11_99 (sh_130 n0) (by decide) (by decide) (p_130_41 n0) rfl ?_
    refine b_iln (pc2 := 52) d_Mo_judge_51 rfl rfl ?_
    refine b_ia (pc2 := 53) (q := k) d_Mo_judge_52 (sh_158 n0) (i_in (show k < 4 by omega) (by decide)) (i_tn (by omega)) (rc_158) rfl ?_
    rw [u1_ne _ _ (by decide), q3]
    refine b_aln (pc2 := 54) d_Mo_judge_53 rfl rfl ?_
    refine b_gr (pc2 := 57) d_Mo_judge_54 q_11_102 (sh_130 n0) (by decide) (by decide) (p_130_42 n0) rfl ?_
    refine b_iln (pc2 := 58) d_Mo_judge_57 rfl rfl ?_
    refine b_ia (pc2 := 59) (q := k) d_Mo_judge_58 (sh_159 n0) (i_in (show k < 4 by omega) (by decide)) (i_tn (by omega)) (rc_159) rfl ?_
    rw [u1_ne _ _ (by decide), q5]
    refine b_pure (pc2 := 60) d_Mo_judge_59 rfl rfl rfl ?_
    rw [i_add]
    refine b_isn (pc2 := 61) (al2 := [(3, _), (2, _), (1, _), (0, _)]) d_Mo_judge_60 (by decide) rfl rfl ?_
    refine b_aln (pc2 := 62) d_Mo_judge_61 rfl rfl ?_
    refine b_gr (pc2 := 65) d_Mo_judge_62 q_11_99 (sh_130 n0) (by decide) (by decide) (p_130_41 n0) rfl ?_
    refine b_iln (pc2 := 66) d_Mo_judge_65 rfl rfl ?_
    refine b_ia (pc2 := 67) (q := k) d_Mo_judge_66 (sh_158 n0) (i_in (show k < 4 by omega) (by decide)) (i_tn (by omega)) (rc_158) rfl ?_
    rw [u1_ne _ _ (by decide), q3]
    refine b_aln (pc2 := 68) d_Mo_judge_67 rfl rfl ?_
    refine b_gr (pc2 := 71) d_Mo_judge_68 q_11_90 (sh_130 n0) (by decide) (by decide) (p_130_36 n0) rfl ?_
    refine b_iln (pc2 := 72) d_Mo_judge_71 rfl rfl ?_
    refine b_ia (pc2 := 73) (q := (H k)) d_Mo_judge_72 (sh_156 n0) (i_in (show H k < 16 by omega) (by decide)) (i_tn (by omega)) (rc_156) rfl ?_
    rw [u1_at]
    refine b_ifd (pc2 := 79) d_Mo_judge_73 rfl rfl rfl rfl rfl (fun h73 => ?_) (fun h73 => ?_)
    · rw [if_neg (Int32.not_lt.mpr h73)]
      refine b_iln (pc2 := 80) d_Mo_judge_79 rfl rfl ?_
      refine b_bp (pc2 := 82) (x := Int32.ofNat 16) d_Mo_judge_80 rfl rfl ?_
      refine b_ifd (pc2 := 88) d_Mo_judge_82 rfl rfl rfl rfl rfl (fun h82 => ?_) (fun h82 => ?_)
      · rw [i_le (by omega) (by omega)] at h82
        rw [if_neg (show ¬ 16 < P k + Z k by omega)]
        refine b_aln (pc2 := 89) d_Mo_judge_88 rfl rfl ?_
        refine b_gr (pc2 := 92) d_Mo_judge_89 q_11_90 (sh_130 n0) (by decide) (by decide) (p_130_36 n0) rfl ?_
        refine b_iln (pc2 := 93) d_Mo_judge_92 rfl rfl ?_
        refine b_iln (pc2 := 94) d_Mo_judge_93 rfl rfl ?_
        refine b_aln (pc2 := 95) d_Mo_judge_94 rfl rfl ?_
        refine b_gr (pc2 := 98) d_Mo_judge_95 q_11_90 (sh_130 n0) (by decide) (by decide) (p_130_36 n0) rfl ?_
        refine b_iln (pc2 := 99) d_Mo_judge_98 rfl rfl ?_
        refine b_ia (pc2 := 100) (q := (H k)) d_Mo_judge_99 (sh_156 n0) (i_in (show H k < 16 by omega) (by decide)) (i_tn (by omega)) (rc_156) rfl ?_
        rw [u1_at]
        refine b_ifd (pc2 := 107) d_Mo_judge_100 rfl rfl rfl rfl rfl (fun h100 => ?_) (fun h100 => ?_)
        · rw [if_neg (Int32.not_lt.mpr h100)]
          refine b_aln (pc2 := 108) d_Mo_judge_107 rfl rfl ?_
          refine b_gr (pc2 := 111) d_Mo_judge_108 q_11_90 (sh_130 n0) (by decide) (by decide) (p_130_36 n0) rfl ?_
          refine b_iln (pc2 := 112) d_Mo_judge_111 rfl rfl ?_
          refine b_ia (pc2 := 113) (q := (H k)) d_Mo_judge_112 (sh_156 n0) (i_in (show H k < 16 by omega) (by decide)) (i_tn (by omega)) (rc_156) rfl ?_
          rw [u1_at]
          refine b_ist (pc2 := 114) (q := (H k)) d_Mo_judge_113 (sh_156 n0) (i_in (show H k < 16 by omega) (by decide)) (i_tn (by omega)) (rc_156) rfl ?_
          rw [u21]
          refine b_inc (pc2 := 117) (al2 := [(1, _), (3, _), (2, _), (0, _)]) (y := Int32.ofNat 1) d_Mo_judge_114 (by decide) rfl rfl rfl rfl ?_
          rw [i_add]
          refine b_go (pc2 := 30) d_Mo_judge_117 rfl ?_
          refine b_nf (al := [(1, _), (0, _)]) (ks := [1, 0]) (sub_c rfl (sub_c rfl (sub_n))) rfl (by decide) ?_
          dsimp only
          exact ih (k + 1) _ (by omega)
        · rw [if_pos (Int32.not_le.mp h100)]
          refine b_iln (pc2 := 104) d_Mo_judge_103 rfl rfl ?_
          refine b_go (pc2 := 113) d_Mo_judge_104 rfl ?_
          refine b_ist (pc2 := 114) (q := (H k)) d_Mo_judge_113 (sh_156 n0) (i_in (show H k < 16 by omega) (by decide)) (i_tn (by omega)) (rc_156) rfl ?_
          rw [u21]
          refine b_inc (pc2 := 117) (al2 := [(1, _), (3, _), (2, _), (0, _)]) (y := Int32.ofNat 1) d_Mo_judge_114 (by decide) rfl rfl rfl rfl ?_
          rw [i_add]
          refine b_go (pc2 := 30) d_Mo_judge_117 rfl ?_
          refine b_nf (al := [(1, _), (0, _)]) (ks := [1, 0]) (sub_c rfl (sub_c rfl (sub_n))) rfl (by decide) ?_
          dsimp only
          exact ih (k + 1) _ (by omega)
      · rw [i_le (by omega) (by omega)] at h82
        rw [if_pos (by omega)]
        refine b_bp (pc2 := 87) (x := Int32.ofNat 13) d_Mo_judge_85 rfl rfl ?_
        refine b_ir d_Mo_judge_87 rfl ?_
        exact ⟨rfl, rfl, rfl, rfl, rfl⟩
    · rw [if_pos (Int32.not_le.mp h73)]
      refine b_bp (pc2 := 78) (x := Int32.ofNat 7) d_Mo_judge_76 rfl rfl ?_
      refine b_ir d_Mo_judge_78 rfl ?_
      exact ⟨rfl, rfl, rfl, rfl, rfl⟩
theorem lp_j1 {e : Nat} {pn ct : Nat} (hc : J 130 31 = Int32.ofNat ct) (hct : ct ≤ 10) (hp : J 130 39 = Int32.ofNat pn) (hpn : pn ≤ 4) (hok : ∀ k, k < pn → mp_ok J H P Z k) : ∀ (r k : Nat), k + r = ct → bT e (S0 n0) R0 mt_Mo_judge (bR (some (.int (Int32.ofNat (mplan H P Z pn 0 (tl1 J ct)).1))) W (am_u1 J 156 (mplan H P Z pn 0 (tl1 J ct)).2) g L) 2 [(1, .int (Int32.ofNat k)), (0, .ref 130)] [] W (am_u1 J 156 (tl1 J k)) g L 0 0 := by
  intro r
  induction r with
  | zero =>
    intro k hk
    refine b_iln (pc2 := 3) d_Mo_judge_2 rfl rfl ?_
    refine b_aln (pc2 := 4) d_Mo_judge_3 rfl rfl ?_
    refine b_gi (pc2 := 7) d_Mo_judge_4 q_11_212 (sh_130 n0) (by decide) (by decide) (rc_130) rfl ?_
    rw [u1_ne _ _ (by decide), hc]
    refine b_ifd (pc2 := 28) d_Mo_judge_7 rfl rfl rfl rfl rfl (fun h7 => ?_) (fun h7 => ?_)
    rotate_left
    · exact absurd (by rw [i_le (by omega) (by omega)]; omega) h7
    refine b_ic (pc2 := 29) (x := Int32.ofNat 0) d_Mo_judge_28 rfl rfl ?_
    refine b_isn (pc2 := 30) (al2 := [(1, _), (0, _)]) d_Mo_judge_29 (by decide) rfl rfl ?_
    refine b_nf (al := [(1, _), (0, _)]) (ks := [1, 0]) (sub_c rfl (sub_c rfl (sub_n))) rfl (by decide) ?_
    dsimp only
    rw [show k = ct by omega]
    exact lp_j2 hp hpn hok pn 0 _ (by omega)
  | succ r ih =>
    intro k hk
    refine b_iln (pc2 := 3) d_Mo_judge_2 rfl rfl ?_
    refine b_aln (pc2 := 4) d_Mo_judge_3 rfl rfl ?_
    refine b_gi (pc2 := 7) d_Mo_judge_4 q_11_212 (sh_130 n0) (by decide) (by decide) (rc_130) rfl ?_
    rw [u1_ne _ _ (by decide), hc]
    refine b_ifd (pc2 := 28) d_Mo_judge_7 rfl rfl rfl rfl rfl (fun h7 => ?_) (fun h7 => ?_)
    · exact absurd h7 (fun z => by rw [i_le (by omega) (by omega)] at z; omega)
    refine b_aln (pc2 := 11) d_Mo_judge_10 rfl rfl ?_
    refine b_gr (pc2 := 14) d_Mo_judge_11 q_11_90 (sh_130 n0) (by decide) (by decide) (p_130_36 n0) rfl ?_
    refine b_iln (pc2 := 15) d_Mo_judge_14 rfl rfl ?_
    refine b_aln (pc2 := 16) d_Mo_judge_15 rfl rfl ?_
    refine b_gr (pc2 := 19) d_Mo_judge_16 q_11_84 (sh_130 n0) (by decide) (by decide) (p_130_34 n0) rfl ?_
    refine b_iln (pc2 := 20) d_Mo_judge_19 rfl rfl ?_
    refine b_ia (pc2 := 21) (q := k) d_Mo_judge_20 (sh_154 n0) (i_in (show k < 10 by omega) (by decide)) (i_tn (by omega)) (rc_154) rfl ?_
    rw [u1_ne _ _ (by decide)]
    refine b_ist (pc2 := 22) (q := k) d_Mo_judge_21 (sh_156 n0) (i_in (show k < 16 by omega) (by decide)) (i_tn (by omega)) (rc_156) rfl ?_
    rw [u21, tl1_step]
    refine b_inc (pc2 := 25) (al2 := [(1, _), (0, _)]) (y := Int32.ofNat 1) d_Mo_judge_22 (by decide) rfl rfl rfl rfl ?_
    rw [i_add]
    refine b_go (pc2 := 2) d_Mo_judge_25 rfl ?_
    refine b_nf (al := [(1, _), (0, _)]) (ks := [1, 0]) (sub_c rfl (sub_c rfl (sub_n))) rfl (by decide) ?_
    dsimp only
    exact ih (k + 1) (by omega)
theorem mo_judge {d : Nat} (hd : 1 ≤ d) {pn ct : Nat} (hc : J 130 31 = Int32.ofNat ct) (hct : ct ≤ 10) (hp : J 130 39 = Int32.ofNat pn) (hpn : pn ≤ 4) (hok : ∀ k, k < pn → mp_ok J H P Z k)  : bm d (S0 n0) R0 166 [.ref 130] W J g L (bR (some (.int (Int32.ofNat (mplan H P Z pn 0 (tl1 J ct)).1))) W (am_u1 J 156 (mplan H P Z pn 0 (tl1 J ct)).2) g L) := by
  obtain ⟨e, rfl⟩ : ∃ e, d = e + 1 := ⟨d - 1, by omega⟩
  refine bm_of (Nat.le_of_ble_eq_true rfl) (Or.inr bR_ret) ?_
  show bT e (S0 n0) R0 mt_Mo_judge _ 0 [(0, .ref 130)] [] W J g L 0 0
  have hSR := SR0 n0
  refine b_ic (pc2 := 1) (x := Int32.ofNat 0) d_Mo_judge_0 rfl rfl ?_
  refine b_isn (pc2 := 2) (al2 := [(1, _), (0, _)]) d_Mo_judge_1 (by decide) rfl rfl ?_
  refine b_nf (al := [(1, _), (0, _)]) (ks := [1, 0]) (sub_c rfl (sub_c rfl (sub_n))) rfl (by decide) ?_
  dsimp only
  refine (fun z => ?_ : _ → _) (lp_j1 (n0 := n0) (W := W) (J := J) (g := g) (L := L) (e := e) hc hct hp hpn hok ct 0 (by omega))
  rw [tl1_0, u1_id] at z
  exact z
theorem mo_fin0 {d : Nat} (hd : 3 ≤ d) (hb : J 150 1 = Int32.ofNat 0) {pn : Nat} (hp : J 130 39 = Int32.ofNat pn) (hpn : pn ≤ 4) (hG : ∀ e, 1 ≤ e → bm e (S0 n0) R0 135 [.ref 130, .int (Int32.ofNat 1)] W (mkJ (am_u2 J 130 39 (Int32.ofNat 0)) [Int32.ofNat 25]) g L (bR none W J1 g L)) : bm d (S0 n0) R0 165 [.ref 130] W J g L (bR none W J1 g L) := by
  obtain ⟨e, rfl⟩ : ∃ e, d = e + 1 := ⟨d - 1, by omega⟩
  refine bm_of (Nat.le_of_ble_eq_true rfl) (Or.inr bR_ret) ?_
  show bT e (S0 n0) R0 mt_Mo_finish _ 0 [(0, .ref 130)] [] W J g L 0 0
  have hSR := SR0 n0
  refine b_aln (pc2 := 1) d_Mo_finish_0 rfl rfl ?_
  refine b_gr (pc2 := 4) d_Mo_finish_1 q_11_72 (sh_130 n0) (by decide) (by decide) (p_130_28 n0) rfl ?_
  refine b_ic (pc2 := 5) (x := Int32.ofNat 1) d_Mo_finish_4 rfl rfl ?_
  refine b_ia (pc2 := 6) (q := 1) d_Mo_finish_5 (sh_150 n0) (i_in (i := 1) (by decide) (by decide)) (rfl) (rc_150) rfl ?_
  rw [hb]
  refine b_ic (pc2 := 7) (x := Int32.ofNat 1) d_Mo_finish_6 rfl rfl ?_
  refine b_ifd (pc2 := 17) d_Mo_finish_7 rfl rfl rfl rfl rfl (fun h7 => ?_) (fun h7 => ?_)
  rotate_left
  · exact absurd (by decide) h7
  refine b_ic (pc2 := 18) (x := Int32.ofNat 0) d_Mo_finish_17 rfl rfl ?_
  refine b_isn (pc2 := 19) (al2 := [(1, _), (0, _)]) d_Mo_finish_18 (by decide) rfl rfl ?_
  refine b_ic (pc2 := 20) (x := Int32.ofNat 0) d_Mo_finish_19 rfl rfl ?_
  refine b_isn (pc2 := 21) (al2 := [(2, _), (1, _), (0, _)]) d_Mo_finish_20 (by decide) rfl rfl ?_
  refine b_iln (pc2 := 22) d_Mo_finish_21 rfl rfl ?_
  refine b_aln (pc2 := 23) d_Mo_finish_22 rfl rfl ?_
  refine b_gi (pc2 := 26) d_Mo_finish_23 q_11_225 (sh_130 n0) (by decide) (by decide) (rc_130) rfl ?_
  rw [hp]
  refine b_ifd (pc2 := 121) d_Mo_finish_26 rfl rfl rfl rfl rfl (fun h26 => ?_) (fun h26 => ?_)
  · rw [i_le (by omega) (by omega)] at h26
    refine b_aln (pc2 := 122) d_Mo_finish_121 rfl rfl ?_
    refine b_ic (pc2 := 123) (x := Int32.ofNat 0) d_Mo_finish_122 rfl rfl ?_
    refine b_pi (pc2 := 126) d_Mo_finish_123 q_11_225 (sh_130 n0) (by decide) (Or.inl (by decide)) (Or.inl rfl) (rc_130) rfl ?_
    refine b_iln (pc2 := 127) d_Mo_finish_126 rfl rfl ?_
    refine b_ifd (pc2 := 137) d_Mo_finish_127 rfl rfl rfl rfl rfl (fun h127 => ?_) (fun h127 => ?_)
    rotate_left
    · exact absurd (by decide) h127
    refine b_aln (pc2 := 138) d_Mo_finish_137 rfl rfl ?_
    refine b_bp (pc2 := 140) (x := Int32.ofNat 25) d_Mo_finish_138 rfl rfl ?_
    refine b_cv0 (pc2 := 143) (c2 := 0) (u2 := 0) (mo_start (by omega)) d_Mo_finish_140 q_11_183 (Nat.le_of_ble_eq_true rfl) rfl rfl (sh_130 n0) (Nat.le_of_ble_eq_true rfl) rfl rfl (by decide) (by decide) rfl ?_
    rw [show Int32.ofNat 25 &&& 255 = Int32.ofNat 25 from rfl]
    refine b_aln (pc2 := 144) d_Mo_finish_143 rfl rfl ?_
    refine b_ic (pc2 := 145) (x := Int32.ofNat 1) d_Mo_finish_144 rfl rfl ?_
    refine b_cv0 (pc2 := 148) (c2 := 0) (u2 := 0) (hG e (by omega)) d_Mo_finish_145 q_11_149 (Nat.le_of_ble_eq_true rfl) rfl rfl (sh_130 n0) (Nat.le_of_ble_eq_true rfl) rfl rfl (by decide) (by decide) rfl ?_
    refine b_vr d_Mo_finish_148 rfl ?_
    exact ⟨rfl, rfl, rfl, rfl, rfl⟩
  · rw [i_le (by omega) (by omega)] at h26
    refine b_aln (pc2 := 30) d_Mo_finish_29 rfl rfl ?_
    refine b_gr (pc2 := 33) d_Mo_finish_30 q_11_72 (sh_130 n0) (by decide) (by decide) (p_130_28 n0) rfl ?_
    refine b_ic (pc2 := 34) (x := Int32.ofNat 1) d_Mo_finish_33 rfl rfl ?_
    refine b_ia (pc2 := 35) (q := 1) d_Mo_finish_34 (sh_150 n0) (i_in (i := 1) (by decide) (by decide)) (rfl) (rc_150) rfl ?_
    rw [hb]
    refine b_ic (pc2 := 36) (x := Int32.ofNat 1) d_Mo_finish_35 rfl rfl ?_
    refine b_ifd (pc2 := 121) d_Mo_finish_36 rfl rfl rfl rfl rfl (fun h36 => ?_) (fun h36 => ?_)
    rotate_left
    · exact absurd (by decide) h36
    refine b_aln (pc2 := 122) d_Mo_finish_121 rfl rfl ?_
    refine b_ic (pc2 := 123) (x := Int32.ofNat 0) d_Mo_finish_122 rfl rfl ?_
    refine b_pi (pc2 := 126) d_Mo_finish_123 q_11_225 (sh_130 n0) (by decide) (Or.inl (by decide)) (Or.inl rfl) (rc_130) rfl ?_
    refine b_iln (pc2 := 127) d_Mo_finish_126 rfl rfl ?_
    refine b_ifd (pc2 := 137) d_Mo_finish_127 rfl rfl rfl rfl rfl (fun h127 => ?_) (fun h127 => ?_)
    rotate_left
    · exact absurd (by decide) h127
    refine b_aln (pc2 := 138) d_Mo_finish_137 rfl rfl ?_
    refine b_bp (pc2 := 140) (x := Int32.ofNat 25) d_Mo_finish_138 rfl rfl ?_
    refine b_cv0 (pc2 := 143) (c2 := 0) (u2 := 0) (mo_start (by omega)) d_Mo_finish_140 q_11_183 (Nat.le_of_ble_eq_true rfl) rfl rfl (sh_130 n0) (Nat.le_of_ble_eq_true rfl) rfl rfl (by decide) (by decide) rfl ?_
    rw [show Int32.ofNat 25 &&& 255 = Int32.ofNat 25 from rfl]
    refine b_aln (pc2 := 144) d_Mo_finish_143 rfl rfl ?_
    refine b_ic (pc2 := 145) (x := Int32.ofNat 1) d_Mo_finish_144 rfl rfl ?_
    refine b_cv0 (pc2 := 148) (c2 := 0) (u2 := 0) (hG e (by omega)) d_Mo_finish_145 q_11_149 (Nat.le_of_ble_eq_true rfl) rfl rfl (sh_130 n0) (Nat.le_of_ble_eq_true rfl) rfl rfl (by decide) (by decide) rfl ?_
    refine b_vr d_Mo_finish_148 rfl ?_
    exact ⟨rfl, rfl, rfl, rfl, rfl⟩
theorem mo_fin1 {d : Nat} (hd : 3 ≤ d) (hb : J 150 1 = Int32.ofNat 1) {pn ct : Nat} (hc : J 130 31 = Int32.ofNat ct) (hct : ct ≤ 10) (hp : J 130 39 = Int32.ofNat pn) (hpn : pn ≤ 4) (hok : ∀ k, k < pn → mp_ok J H P Z k) {cd : Nat} {pf : Nat → Int32} (hpl : mplan H P Z pn 0 (tl1 J ct) = (cd, pf)) (hcd : 0 < cd) (hcd2 : cd < 256) (hR : ∀ e, 2 ≤ e → bm e (S0 n0) R0 161 [.ref 130, .int (Int32.ofNat 0), .int (Int32.ofNat cd)] W (am_u2 (am_u1 J 156 pf) 130 39 (Int32.ofNat 0)) g L (bR none W J1 g L)) : bm d (S0 n0) R0 165 [.ref 130] W J g L (bR none W J1 g L) := by
  obtain ⟨e, rfl⟩ : ∃ e, d = e + 1 := ⟨d - 1, by omega⟩
  refine bm_of (Nat.le_of_ble_eq_true rfl) (Or.inr bR_ret) ?_
  show bT e (S0 n0) R0 mt_Mo_finish _ 0 [(0, .ref 130)] [] W J g L 0 0
  have hSR := SR0 n0
  refine b_aln (pc2 := 1) d_Mo_finish_0 rfl rfl ?_
  refine b_gr (pc2 := 4) d_Mo_finish_1 q_11_72 (sh_130 n0) (by decide) (by decide) (p_130_28 n0) rfl ?_
  refine b_ic (pc2 := 5) (x := Int32.ofNat 1) d_Mo_finish_4 rfl rfl ?_
  refine b_ia (pc2 := 6) (q := 1) d_Mo_finish_5 (sh_150 n0) (i_in (i := 1) (by decide) (by decide)) (rfl) (rc_150) rfl ?_
  rw [hb]
  refine b_ic (pc2 := 7) (x := Int32.ofNat 1) d_Mo_finish_6 rfl rfl ?_
  refine b_ifd (pc2 := 17) d_Mo_finish_7 rfl rfl rfl rfl rfl (fun h7 => ?_) (fun h7 => ?_)
  · exact absurd h7 (by decide)
  refine b_aln (pc2 := 11) d_Mo_finish_10 rfl rfl ?_
  refine b_cv1 (pc2 := 14) (c2 := 0) (u2 := 0) (mo_judge (by omega) hc hct hp hpn hok) d_Mo_finish_11 q_11_228 (Nat.le_of_ble_eq_true rfl) rfl rfl (sh_130 n0) (Nat.le_of_ble_eq_true rfl) rfl rfl (by decide) (by decide) rfl ?_
  rw [hpl]
  dsimp only
  refine b_go (pc2 := 18) d_Mo_finish_14 rfl ?_
  refine b_isn (pc2 := 19) (al2 := [(1, _), (0, _)]) d_Mo_finish_18 (by decide) rfl rfl ?_
  refine b_ic (pc2 := 20) (x := Int32.ofNat 0) d_Mo_finish_19 rfl rfl ?_
  refine b_isn (pc2 := 21) (al2 := [(2, _), (1, _), (0, _)]) d_Mo_finish_20 (by decide) rfl rfl ?_
  refine b_iln (pc2 := 22) d_Mo_finish_21 rfl rfl ?_
  refine b_aln (pc2 := 23) d_Mo_finish_22 rfl rfl ?_
  refine b_gi (pc2 := 26) d_Mo_finish_23 q_11_225 (sh_130 n0) (by decide) (by decide) (rc_130) rfl ?_
  rw [u1_ne _ _ (by decide), hp]
  refine b_ifd (pc2 := 121) d_Mo_finish_26 rfl rfl rfl rfl rfl (fun h26 => ?_) (fun h26 => ?_)
  · rw [i_le (by omega) (by omega)] at h26
    refine b_aln (pc2 := 122) d_Mo_finish_121 rfl rfl ?_
    refine b_ic (pc2 := 123) (x := Int32.ofNat 0) d_Mo_finish_122 rfl rfl ?_
    refine b_pi (pc2 := 126) d_Mo_finish_123 q_11_225 (sh_130 n0) (by decide) (Or.inl (by decide)) (Or.inl rfl) (rc_130) rfl ?_
    refine b_iln (pc2 := 127) d_Mo_finish_126 rfl rfl ?_
    refine b_ifd (pc2 := 137) d_Mo_finish_127 rfl rfl rfl rfl rfl (fun h127 => ?_) (fun h127 => ?_)
    · exact absurd h127 (fun z => by rw [z_le (by omega)] at z; omega)
    refine b_aln (pc2 := 131) d_Mo_finish_130 rfl rfl ?_
    refine b_ic (pc2 := 132) (x := Int32.ofNat 0) d_Mo_finish_131 rfl rfl ?_
    refine b_iln (pc2 := 133) d_Mo_finish_132 rfl rfl ?_
    refine b_cv0 (pc2 := 136) (c2 := 0) (u2 := 0) (hR e (by omega)) d_Mo_finish_133 q_11_193 (Nat.le_of_ble_eq_true rfl) rfl rfl (sh_130 n0) (Nat.le_of_ble_eq_true rfl) rfl rfl (by decide) (by decide) rfl ?_
    refine b_vr d_Mo_finish_136 rfl ?_
    exact ⟨rfl, rfl, rfl, rfl, rfl⟩
  · rw [i_le (by omega) (by omega)] at h26
    refine b_aln (pc2 := 30) d_Mo_finish_29 rfl rfl ?_
    refine b_gr (pc2 := 33) d_Mo_finish_30 q_11_72 (sh_130 n0) (by decide) (by decide) (p_130_28 n0) rfl ?_
    refine b_ic (pc2 := 34) (x := Int32.ofNat 1) d_Mo_finish_33 rfl rfl ?_
    refine b_ia (pc2 := 35) (q := 1) d_Mo_finish_34 (sh_150 n0) (i_in (i := 1) (by decide) (by decide)) (rfl) (rc_150) rfl ?_
    rw [u1_ne _ _ (by decide), hb]
    refine b_ic (pc2 := 36) (x := Int32.ofNat 1) d_Mo_finish_35 rfl rfl ?_
    refine b_ifd (pc2 := 121) d_Mo_finish_36 rfl rfl rfl rfl rfl (fun h36 => ?_) (fun h36 => ?_)
    · exact absurd h36 (by decide)
    refine b_iln (pc2 := 40) d_Mo_finish_39 rfl rfl ?_
    refine b_ifd (pc2 := 121) d_Mo_finish_40 rfl rfl rfl rfl rfl (fun h40 => ?_) (fun h40 => ?_)
    rotate_left
    · exact absurd (by rw [z_eq (by omega)]; omega) h40
    refine b_aln (pc2 := 122) d_Mo_finish_121 rfl rfl ?_
    refine b_ic (pc2 := 123) (x := Int32.ofNat 0) d_Mo_finish_122 rfl rfl ?_
    refine b_pi (pc2 := 126) d_Mo_finish_123 q_11_225 (sh_130 n0) (by decide) (Or.inl (by decide)) (Or.inl rfl) (rc_130) rfl ?_
    refine b_iln (pc2 := 127) d_Mo_finish_126 rfl rfl ?_
    refine b_ifd (pc2 := 137) d_Mo_finish_127 rfl rfl rfl rfl rfl (fun h127 => ?_) (fun h127 => ?_)
    · exact absurd h127 (fun z => by rw [z_le (by omega)] at z; omega)
    refine b_aln (pc2 := 131) d_Mo_finish_130 rfl rfl ?_
    refine b_ic (pc2 := 132) (x := Int32.ofNat 0) d_Mo_finish_131 rfl rfl ?_
    refine b_iln (pc2 := 133) d_Mo_finish_132 rfl rfl ?_
    refine b_cv0 (pc2 := 136) (c2 := 0) (u2 := 0) (hR e (by omega)) d_Mo_finish_133 q_11_193 (Nat.le_of_ble_eq_true rfl) rfl rfl (sh_130 n0) (Nat.le_of_ble_eq_true rfl) rfl rfl (by decide) (by decide) rfl ?_
    refine b_vr d_Mo_finish_136 rfl ?_
    exact ⟨rfl, rfl, rfl, rfl, rfl⟩
def mfv (H P Z : Nat → Nat) (f : Nat → Int32) : Nat → Nat → (Nat → Int32) → (Nat → Int32)
  | 0, _, v => v
  | r + 1, k, v => mfv H P Z f r (k + 1) (ovw (16 * H k + P k) (lst f (20 * k) (Z k)) v)
def mfs (H : Nat → Nat) (tr : Nat → Int32) : Nat → Nat → (Nat → Int32) → (Nat → Int32)
  | 0, _, s => s
  | r + 1, k, s => mfs H tr r (k + 1) (am_u1 s (H k) (tr (H k)))
theorem lp_f2 {e : Nat} {k a p z : Nat} {v s : Nat → Int32} (hk : k < 4) (ha : a < 10) (h8 : J 158 k = Int32.ofNat p) (h9 : J 159 k = Int32.ofNat z) (hz : p + z ≤ 16) (K : bH e (S0 n0) R0 mt_Mo_finish Qh 103 [(3, .int (Int32.ofNat a)), (2, .int (Int32.ofNat k)), (0, .ref 130), (1, .int (Int32.ofNat 0))] [] W (am_u1 (am_u1 J 154 s) 155 (ovw (16 * a + p) (lst (J 160) (20 * k) z) v)) g L 0 0) : ∀ (r j : Nat), j + r = z → bH e (S0 n0) R0 mt_Mo_finish Qh 55 [(4, .int (Int32.ofNat j)), (3, .int (Int32.ofNat a)), (2, .int (Int32.ofNat k)), (0, .ref 130), (1, .int (Int32.ofNat 0))] [] W (am_u1 (am_u1 J 154 s) 155 (ovw (16 * a + p) (lst (J 160) (20 * k) j) v)) g L 0 0 := by
  intro r
  induction r with
  | zero =>
    intro j hj
    refine b_il (pc2 := 57) d_Mo_finish_55 rfl rfl ?_
    refine b_aln (pc2 := 58) d_Mo_finish_57 rfl rfl ?_
    refine b_gr (pc2 := 61) d_Mo_finish_58 q_11_102 (sh_130 n0) (by decide) (by decide) (p_130_42 n0) rfl ?_
    refine b_iln (pc2 := 62) d_Mo_finish_61 rfl rfl ?_
    refine b_ia (pc2 := 63) (q := k) d_Mo_finish_62 (sh_159 n0) (i_in (show k < 4 by omega) (by decide)) (i_tn (by omega)) (rc_159) rfl ?_
    rw [u1_ne _ _ (by decide), u1_ne _ _ (by decide), h9]
    refine b_ifd (pc2 := 103) d_Mo_finish_63 rfl rfl rfl rfl rfl (fun h63 => ?_) (fun h63 => ?_)
    rotate_left
    · exact absurd (by rw [i_le (by omega) (by omega)]; omega) h63
    refine b_nf (al := [(3, _), (2, _), (0, _), (1, _)]) (ks := [3, 2, 0, 1]) (sub_c rfl (sub_c rfl (sub_c rfl (sub_c rfl (sub_n))))) rfl (by decide) ?_
    dsimp only
    rw [show j = z by omega]
    exact K
  | succ r ih =>
    intro j hj
    refine b_il (pc2 := 57) d_Mo_finish_55 rfl rfl ?_
    refine b_aln (pc2 := 58) d_Mo_finish_57 rfl rfl ?_
    refine b_gr (pc2 := 61) d_Mo_finish_58 q_11_102 (sh_130 n0) (by decide) (by decide) (p_130_42 n0) rfl ?_
    refine b_iln (pc2 := 62) d_Mo_finish_61 rfl rfl ?_
    refine b_ia (pc2 := 63) (q := k) d_Mo_finish_62 (sh_159 n0) (i_in (show k < 4 by omega) (by decide)) (i_tn (by omega)) (rc_159) rfl ?_
    rw [u1_ne _ _ (by decide), u1_ne _ _ (by decide), h9]
    refine b_ifd (pc2 := 103) d_Mo_finish_63 rfl rfl rfl rfl rfl (fun h63 => ?_) (fun h63 => ?_)
    · exact absurd h63 (fun z => by rw [i_le (by omega) (by omega)] at z; omega)
    refine b_aln (pc2 := 67) d_Mo_finish_66 rfl rfl ?_
    refine b_gr (pc2 := 70) d_Mo_finish_67 q_11_87 (sh_130 n0) (by decide) (by decide) (p_130_35 n0) rfl ?_
    refine b_bp (pc2 := 72) (x := Int32.ofNat 16) d_Mo_finish_70 rfl rfl ?_
    refine b_iln (pc2 := 73) d_Mo_finish_72 rfl rfl ?_
    refine b_pure (pc2 := 74) d_Mo_finish_73 rfl rfl rfl ?_
    rw [i_mul]
    refine b_aln (pc2 := 75) d_Mo_finish_74 rfl rfl ?_
    refine b_gr (pc2 := 78) d_Mo_finish_75 q_11_99 (sh_130 n0) (by decide) (by decide) (p_130_41 n0) rfl ?_
    refine b_iln (pc2 := 79) d_Mo_finish_78 rfl rfl ?_
    refine b_ia (pc2 := 80) (q := k) d_Mo_finish_79 (sh_158 n0) (i_in (show k < 4 by omega) (by decide)) (i_tn (by omega)) (rc_158) rfl ?_
    rw [u1_ne _ _ (by decide), u1_ne _ _ (by decide), h8]
    refine b_pure (pc2 := 81) d_Mo_finish_80 rfl rfl rfl ?_
    rw [i_add]
    refine b_il (pc2 := 83) d_Mo_finish_81 rfl rfl ?_
    refine b_pure (pc2 := 84) d_Mo_finish_83 rfl rfl rfl ?_
    rw [i_add, show 16 * a + p + j = 16 * a + p + (lst (J 160) (20 * k) j).length by rw [lst_len]]
    refine b_aln (pc2 := 85) d_Mo_finish_84 rfl rfl ?_
    refine b_gr (pc2 := 88) d_Mo_finish_85 q_11_105 (sh_130 n0) (by decide) (by decide) (p_130_43 n0) rfl ?_
    refine b_bp (pc2 := 90) (x := Int32.ofNat 20) d_Mo_finish_88 rfl rfl ?_
    refine b_iln (pc2 := 91) d_Mo_finish_90 rfl rfl ?_
    refine b_pure (pc2 := 92) d_Mo_finish_91 rfl rfl rfl ?_
    rw [i_mul]
    refine b_il (pc2 := 94) d_Mo_finish_92 rfl rfl ?_
    refine b_pure (pc2 := 95) d_Mo_finish_94 rfl rfl rfl ?_
    rw [i_add]
    refine b_ia (pc2 := 96) (q := (20 * k + j)) d_Mo_finish_95 (sh_160 n0) (i_in (show 20 * k + j < 80 by omega) (by decide)) (i_tn (by omega)) (rc_160) rfl ?_
    rw [u1_ne _ _ (by decide), u1_ne _ _ (by decide)]
    refine b_ist (pc2 := 97) (q := (16 * a + p + (lst (J 160) (20 * k) j).length)) d_Mo_finish_96 (sh_155 n0) (i_in (show 16 * a + p + (lst (J 160) (20 * k) j).length < 160 by rw [lst_len]; omega) (by decide)) (i_tn (by rw [lst_len]; omega)) (rc_155) rfl ?_
    rw [u21, ovw_step, ← lst_app]
    refine b_inc (pc2 := 100) (al2 := [(4, _), (3, _), (2, _), (0, _), (1, _)]) (y := Int32.ofNat 1) d_Mo_finish_97 (by decide) rfl rfl rfl rfl ?_
    rw [i_add]
    refine b_go (pc2 := 55) d_Mo_finish_100 rfl ?_
    refine b_nf (al := [(4, _), (3, _), (2, _), (0, _), (1, _)]) (ks := [4, 3, 2, 0, 1]) (sub_c rfl (sub_c rfl (sub_c rfl (sub_c rfl (sub_c rfl (sub_n)))))) rfl (by decide) ?_
    dsimp only
    exact ih (j + 1) (by omega)
theorem lp_f1 {e : Nat} (hb : J 150 1 = Int32.ofNat 1) {pn : Nat} (hp : J 130 39 = Int32.ofNat pn) (hpn : pn ≤ 4) (hok : ∀ k, k < pn → mp_ok J H P Z k) (hz : ∀ k, k < pn → P k + Z k ≤ 16) : ∀ (r k : Nat) (v s : Nat → Int32), k + r = pn → bH e (S0 n0) R0 mt_Mo_finish Qh 121 [(0, .ref 130), (1, .int (Int32.ofNat 0))] [] W (am_u1 (am_u1 J 154 (mfs H (J 156) r k s)) 155 (mfv H P Z (J 160) r k v)) g L 0 0 → bH e (S0 n0) R0 mt_Mo_finish Qh 21 [(2, .int (Int32.ofNat k)), (0, .ref 130), (1, .int (Int32.ofNat 0))] [] W (am_u1 (am_u1 J 154 s) 155 v) g L 0 0 := by
  intro r
  induction r with
  | zero =>
    intro k v s hk K
    refine b_iln (pc2 := 22) d_Mo_finish_21 rfl rfl ?_
    refine b_aln (pc2 := 23) d_Mo_finish_22 rfl rfl ?_
    refine b_gi (pc2 := 26) d_Mo_finish_23 q_11_225 (sh_130 n0) (by decide) (by decide) (rc_130) rfl ?_
    rw [u1_ne _ _ (by decide), u1_ne _ _ (by decide), hp]
    refine b_ifd (pc2 := 121) d_Mo_finish_26 rfl rfl rfl rfl rfl (fun h26 => ?_) (fun h26 => ?_)
    rotate_left
    · exact absurd (by rw [i_le (by omega) (by omega)]; omega) h26
    refine b_nf (al := [(0, _), (1, _)]) (ks := [0, 1]) (sub_c rfl (sub_c rfl (sub_n))) rfl (by decide) ?_
    dsimp only
    exact K
  | succ r ih =>
    intro k v s hk K
    obtain ⟨q1, q2, q3, q4, q5, q6⟩ := hok k (by omega)
    refine b_iln (pc2 := 22) d_Mo_finish_21 rfl rfl ?_
    refine b_aln (pc2 := 23) d_Mo_finish_22 rfl rfl ?_
    refine b_gi (pc2 := 26) d_Mo_finish_23 q_11_225 (sh_130 n0) (by decide) (by decide) (rc_130) rfl ?_
    rw [u1_ne _ _ (by decide), u1_ne _ _ (by decide), hp]
    refine b_ifd (pc2 := 121) d_Mo_finish_26 rfl rfl rfl rfl rfl (fun h26 => ?_) (fun h26 => ?_)
    · exact absurd h26 (fun z => by rw [i_le (by omega) (by omega)] at z; omega)
    refine b_aln (pc2 := 30) d_Mo_finish_29 rfl rfl ?_
    refine b_gr (pc2 := 33) d_Mo_finish_30 q_11_72 (sh_130 n0) (by decide) (by decide) (p_130_28 n0) rfl ?_
    refine b_ic (pc2 := 34) (x := Int32.ofNat 1) d_Mo_finish_33 rfl rfl ?_
    refine b_ia (pc2 := 35) (q := 1) d_Mo_finish_34 (sh_150 n0) (i_in (i := 1) (by decide) (by decide)) (rfl) (rc_150) rfl ?_
    rw [u1_ne _ _ (by decide), u1_ne _ _ (by decide), hb]
    refine b_ic (pc2 := 36) (x := Int32.ofNat 1) d_Mo_finish_35 rfl rfl ?_
    refine b_ifd (pc2 := 121) d_Mo_finish_36 rfl rfl rfl rfl rfl (fun h36 => ?_) (fun h36 => ?_)
    · exact absurd h36 (by decide)
    refine b_iln (pc2 := 40) d_Mo_finish_39 rfl rfl ?_
    refine b_ifd (pc2 := 121) d_Mo_finish_40 rfl rfl rfl rfl rfl (fun h40 => ?_) (fun h40 => ?_)
    · exact absurd h40 (by decide)
    refine b_aln (pc2 := 44) d_Mo_finish_43 rfl rfl ?_
    refine b_gr (pc2 := 47) d_Mo_finish_44 q_11_96 (sh_130 n0) (by decide) (by decide) (p_130_40 n0) rfl ?_
    refine b_iln (pc2 := 48) d_Mo_finish_47 rfl rfl ?_
    refine b_ia (pc2 := 49) (q := k) d_Mo_finish_48 (sh_157 n0) (i_in (show k < 4 by omega) (by decide)) (i_tn (by omega)) (rc_157) rfl ?_
    rw [u1_ne _ _ (by decide), u1_ne _ _ (by decide), q1]
    refine b_ic (pc2 := 50) (x := Int32.ofNat 1) d_Mo_finish_49 rfl rfl ?_
    refine b_pure (pc2 := 51) d_Mo_finish_50 rfl rfl rfl ?_
    rw [i_sub (by omega), show H k + 1 - 1 = H k by omega]
    refine b_isn (pc2 := 52) (al2 := [(3, _), (2, _), (0, _), (1, _)]) d_Mo_finish_51 (by decide) rfl rfl ?_
    refine b_ic (pc2 := 53) (x := Int32.ofNat 0) d_Mo_finish_52 rfl rfl ?_
    refine b_is (pc2 := 55) (al2 := [(4, _), (3, _), (2, _), (0, _), (1, _)]) d_Mo_finish_53 (by decide) rfl rfl ?_
    refine b_nf (al := [(4, _), (3, _), (2, _), (0, _), (1, _)]) (ks := [4, 3, 2, 0, 1]) (sub_c rfl (sub_c rfl (sub_c rfl (sub_c rfl (sub_c rfl (sub_n)))))) rfl (by decide) ?_
    dsimp only
    refine (fun z => ?_ : _ → _) (lp_f2 (n0 := n0) (W := W) (J := J) (g := g) (L := L) (e := e) (k := k) (a := H k) (v := v) (s := s) (Qh := Qh) (by omega) q2 q3 q5 (hz k (by omega)) ?_ (Z k) 0 (by omega))
    · rw [show lst (J 160) (20 * k) 0 = [] from rfl, ovw_nil] at z
      exact z
    · refine b_aln (pc2 := 104) d_Mo_finish_103 rfl rfl ?_
      refine b_gr (pc2 := 107) d_Mo_finish_104 q_11_84 (sh_130 n0) (by decide) (by decide) (p_130_34 n0) rfl ?_
      refine b_iln (pc2 := 108) d_Mo_finish_107 rfl rfl ?_
      refine b_aln (pc2 := 109) d_Mo_finish_108 rfl rfl ?_
      refine b_gr (pc2 := 112) d_Mo_finish_109 q_11_90 (sh_130 n0) (by decide) (by decide) (p_130_36 n0) rfl ?_
      refine b_iln (pc2 := 113) d_Mo_finish_112 rfl rfl ?_
      refine b_ia (pc2 := 114) (q := (H k)) d_Mo_finish_113 (sh_156 n0) (i_in (show H k < 16 by omega) (by decide)) (i_tn (by omega)) (rc_156) rfl ?_
      rw [u1_ne _ _ (by decide), u1_ne _ _ (by decide)]
      refine b_ist (pc2 := 115) (q := (H k)) d_Mo_finish_114 (sh_154 n0) (i_in (show H k < 10 by omega) (by decide)) (i_tn (by omega)) (rc_154) rfl ?_
      rw [← u12c _ _ _ (by decide), u21]
      refine b_inc (pc2 := 118) (al2 := [(2, _), (3, _), (0, _), (1, _)]) (y := Int32.ofNat 1) d_Mo_finish_115 (by decide) rfl rfl rfl rfl ?_
      rw [i_add]
      refine b_go (pc2 := 21) d_Mo_finish_118 rfl ?_
      refine b_nf (al := [(2, _), (0, _), (1, _)]) (ks := [2, 0, 1]) (sub_c rfl (sub_c rfl (sub_c rfl (sub_n)))) rfl (by decide) ?_
      dsimp only
      exact ih (k + 1) _ _ (by omega) K
theorem mo_fin2 {d : Nat} (hd : 3 ≤ d) (hb : J 150 1 = Int32.ofNat 1) {pn ct : Nat} (hc : J 130 31 = Int32.ofNat ct) (hct : ct ≤ 10) (hp : J 130 39 = Int32.ofNat pn) (hpn : pn ≤ 4) (hok : ∀ k, k < pn → mp_ok J H P Z k) (hz : ∀ k, k < pn → P k + Z k ≤ 16) {pf : Nat → Int32} (hpl : mplan H P Z pn 0 (tl1 J ct) = (0, pf)) (hG : ∀ e, 1 ≤ e → bm e (S0 n0) R0 135 [.ref 130, .int (Int32.ofNat 1)] W (mkJ (am_u2 (am_u1 (am_u1 (am_u1 J 156 pf) 154 (mfs H pf pn 0 (J 154))) 155 (mfv H P Z (J 160) pn 0 (J 155))) 130 39 (Int32.ofNat 0)) [Int32.ofNat 25]) g L (bR none W J1 g L)) : bm d (S0 n0) R0 165 [.ref 130] W J g L (bR none W J1 g L) := by
  obtain ⟨e, rfl⟩ : ∃ e, d = e + 1 := ⟨d - 1, by omega⟩
  refine bm_of (Nat.le_of_ble_eq_true rfl) (Or.inr bR_ret) ?_
  show bT e (S0 n0) R0 mt_Mo_finish _ 0 [(0, .ref 130)] [] W J g L 0 0
  have hSR := SR0 n0
  refine b_aln (pc2 := 1) d_Mo_finish_0 rfl rfl ?_
  refine b_gr (pc2 := 4) d_Mo_finish_1 q_11_72 (sh_130 n0) (by decide) (by decide) (p_130_28 n0) rfl ?_
  refine b_ic (pc2 := 5) (x := Int32.ofNat 1) d_Mo_finish_4 rfl rfl ?_
  refine b_ia (pc2 := 6) (q := 1) d_Mo_finish_5 (sh_150 n0) (i_in (i := 1) (by decide) (by decide)) (rfl) (rc_150) rfl ?_
  rw [hb]
  refine b_ic (pc2 := 7) (x := Int32.ofNat 1) d_Mo_finish_6 rfl rfl ?_
  refine b_ifd (pc2 := 17) d_Mo_finish_7 rfl rfl rfl rfl rfl (fun h7 => ?_) (fun h7 => ?_)
  · exact absurd h7 (by decide)
  refine b_aln (pc2 := 11) d_Mo_finish_10 rfl rfl ?_
  refine b_cv1 (pc2 := 14) (c2 := 0) (u2 := 0) (mo_judge (by omega) hc hct hp hpn hok) d_Mo_finish_11 q_11_228 (Nat.le_of_ble_eq_true rfl) rfl rfl (sh_130 n0) (Nat.le_of_ble_eq_true rfl) rfl rfl (by decide) (by decide) rfl ?_
  rw [hpl]
  dsimp only
  refine b_go (pc2 := 18) d_Mo_finish_14 rfl ?_
  refine b_isn (pc2 := 19) (al2 := [(1, _), (0, _)]) d_Mo_finish_18 (by decide) rfl rfl ?_
  refine b_ic (pc2 := 20) (x := Int32.ofNat 0) d_Mo_finish_19 rfl rfl ?_
  refine b_isn (pc2 := 21) (al2 := [(2, _), (1, _), (0, _)]) d_Mo_finish_20 (by decide) rfl rfl ?_
  refine b_nf (al := [(2, _), (0, _), (1, _)]) (ks := [2, 0, 1]) (sub_c rfl (sub_c rfl (sub_c rfl (sub_n)))) rfl (by decide) ?_
  dsimp only
  have hK : ∀ c, ¬ c = 156 → am_u1 J 156 pf c = J c := fun c a1 => u1_ne _ _ a1
  refine (fun z => ?_ : _ → _) (lp_f1 (n0 := n0) (W := W) (J := am_u1 J 156 pf) (g := g) (L := L) (e := e) (H := H) (P := P) (Z := Z) (pn := pn) (Qh := bw_Q (S0 n0) R0 (bR none W J1 g L)) (by rw [hK 150 (by decide)]; exact hb) (by rw [hK 130 (by decide)]; exact hp) hpn (fun k hk => by have q := hok k hk; unfold mp_ok at q ⊢; rw [hK 157 (by decide), hK 158 (by decide), hK 159 (by decide)]; exact q) hz pn 0 (J 155) (J 154) (by omega) ?_)
  · rw [← hK 154 (by decide), u1_id, ← hK 155 (by decide), u1_id] at z
    exact z
  · rw [u1_at, hK 160 (by decide)]
    refine b_aln (pc2 := 122) d_Mo_finish_121 rfl rfl ?_
    refine b_ic (pc2 := 123) (x := Int32.ofNat 0) d_Mo_finish_122 rfl rfl ?_
    refine b_pi (pc2 := 126) d_Mo_finish_123 q_11_225 (sh_130 n0) (by decide) (Or.inl (by decide)) (Or.inl rfl) (rc_130) rfl ?_
    refine b_iln (pc2 := 127) d_Mo_finish_126 rfl rfl ?_
    refine b_ifd (pc2 := 137) d_Mo_finish_127 rfl rfl rfl rfl rfl (fun h127 => ?_) (fun h127 => ?_)
    rotate_left
    · exact absurd (by decide) h127
    refine b_aln (pc2 := 138) d_Mo_finish_137 rfl rfl ?_
    refine b_bp (pc2 := 140) (x := Int32.ofNat 25) d_Mo_finish_138 rfl rfl ?_
    refine b_cv0 (pc2 := 143) (c2 := 0) (u2 := 0) (mo_start (by omega)) d_Mo_finish_140 q_11_183 (Nat.le_of_ble_eq_true rfl) rfl rfl (sh_130 n0) (Nat.le_of_ble_eq_true rfl) rfl rfl (by decide) (by decide) rfl ?_
    rw [show Int32.ofNat 25 &&& 255 = Int32.ofNat 25 from rfl]
    refine b_aln (pc2 := 144) d_Mo_finish_143 rfl rfl ?_
    refine b_ic (pc2 := 145) (x := Int32.ofNat 1) d_Mo_finish_144 rfl rfl ?_
    refine b_cv0 (pc2 := 148) (c2 := 0) (u2 := 0) (hG e (by omega)) d_Mo_finish_145 q_11_149 (Nat.le_of_ble_eq_true rfl) rfl rfl (sh_130 n0) (Nat.le_of_ble_eq_true rfl) rfl rfl (by decide) (by decide) rfl ?_
    refine b_vr d_Mo_finish_148 rfl ?_
    exact ⟨rfl, rfl, rfl, rfl, rfl⟩
end MJ
