/-! Part 93 (written by gen48.py): the reference: choose, happen, event, run -/
/-- how many of the first k are marked -/
def cnt (f : Nat → Int32) : Nat → Nat
  | 0 => 0
  | k + 1 => if f k = 0 then cnt f k else cnt f k + 1
theorem cnt_le (f : Nat → Int32) {a : Nat} : ∀ {b : Nat}, a ≤ b → cnt f a ≤ cnt f b
  | 0, h => by rw [show a = 0 by omega]; exact Nat.le_refl _
  | b + 1, h => by
    by_cases h2 : a = b + 1
    · subst h2; exact Nat.le_refl _
    · refine Nat.le_trans (cnt_le f (show a ≤ b by omega)) ?_
      show _ ≤ (if f b = 0 then cnt f b else cnt f b + 1)
      by_cases h3 : f b = 0
      · rw [if_pos h3]; exact Nat.le_refl _
      · rw [if_neg h3]; omega
theorem cnt_bd (f : Nat → Int32) : ∀ k, cnt f k ≤ k
  | 0 => Nat.le_refl _
  | k + 1 => by
    have := cnt_bd f k
    show (if f k = 0 then cnt f k else cnt f k + 1) ≤ k + 1
    by_cases h3 : f k = 0
    · rw [if_pos h3]; omega
    · rw [if_neg h3]; omega
theorem cnt_z {f : Nat → Int32} {k : Nat} (h : f k = 0) : cnt f (k + 1) = cnt f k := if_pos h
theorem cnt_s {f : Nat → Int32} {k : Nat} (h : ¬ f k = 0) : cnt f (k + 1) = cnt f k + 1 := if_neg h
theorem c2 {c : Nat} (h : c < 4) : Int32.ofNat c &&& Int32.ofNat 2 = Int32.ofNat (c / 2 % 2 * 2) := match c, h with
  | 0, _ => by decide
  | 1, _ => by decide
  | 2, _ => by decide
  | 3, _ => by decide
  | c + 4, h => absurd h (by omega)
section ME
variable {n0 : Nat} {W : bw_W} {J : bw_J} {g : Nat} {L : bw_L}
variable {J1 J2 J3 : bw_J} {Qh : am_O → am_H → Prop}
theorem lp_cs2 {e : Nat} {ch : Nat} (hch : ch < 37) : ∀ (r k : Nat) (x : Int32), k + r = 37 → bT e (S0 n0) R0 mt_Mo_choose (bR none W (am_u2 J 130 5 (Int32.ofNat ch)) g L) 51 [(3, .int (Int32.ofNat k)), (2, .int (Int32.ofNat ch)), (1, .int x), (0, .ref 130)] [] W J g L 0 0 := by
  intro r
  induction r with
  | zero =>
    intro k x hk
    refine b_iln (pc2 := 52) d_Mo_choose_51 rfl rfl ?_
    refine b_bp (pc2 := 54) (x := Int32.ofNat 37) d_Mo_choose_52 rfl rfl ?_
    refine b_ifd (pc2 := 99) d_Mo_choose_54 rfl rfl rfl rfl rfl (fun h54 => ?_) (fun h54 => ?_)
    rotate_left
    · exact absurd (by rw [i_le (by omega) (by omega)]; omega) h54
    refine b_aln (pc2 := 100) d_Mo_choose_99 rfl rfl ?_
    refine b_iln (pc2 := 101) d_Mo_choose_100 rfl rfl ?_
    refine b_pi (pc2 := 104) d_Mo_choose_101 q_11_13 (sh_130 n0) (by decide) (Or.inl (by decide)) (Or.inl rfl) (rc_130) rfl ?_
    refine b_vr d_Mo_choose_104 rfl ?_
    exact ⟨rfl, rfl, rfl, rfl, rfl⟩
  | succ r ih =>
    intro k x hk
    refine b_iln (pc2 := 52) d_Mo_choose_51 rfl rfl ?_
    refine b_bp (pc2 := 54) (x := Int32.ofNat 37) d_Mo_choose_52 rfl rfl ?_
    refine b_ifd (pc2 := 99) d_Mo_choose_54 rfl rfl rfl rfl rfl (fun h54 => ?_) (fun h54 => ?_)
    · exact absurd h54 (fun z => by rw [i_le (by omega) (by omega)] at z; omega)
    refine b_aln (pc2 := 58) d_Mo_choose_57 rfl rfl ?_
    refine b_gr (pc2 := 61) d_Mo_choose_58 q_11_7 (sh_130 n0) (by decide) (by decide) (p_130_2 n0) rfl ?_
    refine b_iln (pc2 := 62) d_Mo_choose_61 rfl rfl ?_
    refine b_ba (pc2 := 63) (q := k) d_Mo_choose_62 (sh_131 n0) (i_in (show k < 37 by omega) (by decide)) (i_tn (by omega)) (rc_131) rfl ?_
    refine b_ifd (pc2 := 76) d_Mo_choose_63 rfl rfl rfl rfl rfl (fun h63 => ?_) (fun h63 => ?_)
    · refine b_aln (pc2 := 77) d_Mo_choose_76 rfl rfl ?_
      refine b_gr (pc2 := 80) d_Mo_choose_77 q_11_7 (sh_130 n0) (by decide) (by decide) (p_130_2 n0) rfl ?_
      refine b_iln (pc2 := 81) d_Mo_choose_80 rfl rfl ?_
      refine b_ba (pc2 := 82) (q := k) d_Mo_choose_81 (sh_131 n0) (i_in (show k < 37 by omega) (by decide)) (i_tn (by omega)) (rc_131) rfl ?_
      refine b_ifd (pc2 := 91) d_Mo_choose_82 rfl rfl rfl rfl rfl (fun h82 => ?_) (fun h82 => ?_)
      · refine b_iln (pc2 := 92) d_Mo_choose_91 rfl rfl ?_
        refine b_isn (pc2 := 93) (al2 := [(1, _), (3, _), (2, _), (0, _)]) d_Mo_choose_92 (by decide) rfl rfl ?_
        refine b_inc (pc2 := 96) (al2 := [(3, _), (1, _), (2, _), (0, _)]) (y := Int32.ofNat 1) d_Mo_choose_93 (by decide) rfl rfl rfl rfl ?_
        rw [i_add]
        refine b_go (pc2 := 51) d_Mo_choose_96 rfl ?_
        refine b_nf (al := [(3, _), (2, _), (1, _), (0, _)]) (ks := [3, 2, 1, 0]) (sub_c rfl (sub_c rfl (sub_c rfl (sub_c rfl (sub_n))))) rfl (by decide) ?_
        dsimp only
        exact ih (k + 1) _ (by omega)
      · refine b_iln (pc2 := 86) d_Mo_choose_85 rfl rfl ?_
        refine b_ic (pc2 := 87) (x := Int32.ofNat 1) d_Mo_choose_86 rfl rfl ?_
        refine b_pure (pc2 := 88) d_Mo_choose_87 rfl rfl rfl ?_
        refine b_go (pc2 := 92) d_Mo_choose_88 rfl ?_
        refine b_isn (pc2 := 93) (al2 := [(1, _), (3, _), (2, _), (0, _)]) d_Mo_choose_92 (by decide) rfl rfl ?_
        refine b_inc (pc2 := 96) (al2 := [(3, _), (1, _), (2, _), (0, _)]) (y := Int32.ofNat 1) d_Mo_choose_93 (by decide) rfl rfl rfl rfl ?_
        rw [i_add]
        refine b_go (pc2 := 51) d_Mo_choose_96 rfl ?_
        refine b_nf (al := [(3, _), (2, _), (1, _), (0, _)]) (ks := [3, 2, 1, 0]) (sub_c rfl (sub_c rfl (sub_c rfl (sub_c rfl (sub_n))))) rfl (by decide) ?_
        dsimp only
        exact ih (k + 1) _ (by omega)
    · refine b_iln (pc2 := 67) d_Mo_choose_66 rfl rfl ?_
      refine b_ifd (pc2 := 76) d_Mo_choose_67 rfl rfl rfl rfl rfl (fun h67 => ?_) (fun h67 => ?_)
      · refine b_aln (pc2 := 77) d_Mo_choose_76 rfl rfl ?_
        refine b_gr (pc2 := 80) d_Mo_choose_77 q_11_7 (sh_130 n0) (by decide) (by decide) (p_130_2 n0) rfl ?_
        refine b_iln (pc2 := 81) d_Mo_choose_80 rfl rfl ?_
        refine b_ba (pc2 := 82) (q := k) d_Mo_choose_81 (sh_131 n0) (i_in (show k < 37 by omega) (by decide)) (i_tn (by omega)) (rc_131) rfl ?_
        refine b_ifd (pc2 := 91) d_Mo_choose_82 rfl rfl rfl rfl rfl (fun h82 => ?_) (fun h82 => ?_)
        · refine b_iln (pc2 := 92) d_Mo_choose_91 rfl rfl ?_
          refine b_isn (pc2 := 93) (al2 := [(1, _), (3, _), (2, _), (0, _)]) d_Mo_choose_92 (by decide) rfl rfl ?_
          refine b_inc (pc2 := 96) (al2 := [(3, _), (1, _), (2, _), (0, _)]) (y := Int32.ofNat 1) d_Mo_choose_93 (by decide) rfl rfl rfl rfl ?_
          rw [i_add]
          refine b_go (pc2 := 51) d_Mo_choose_96 rfl ?_
          refine b_nf (al := [(3, _), (2, _), (1, _), (0, _)]) (ks := [3, 2, 1, 0]) (sub_c rfl (sub_c rfl (sub_c rfl (sub_c rfl (sub_n))))) rfl (by decide) ?_
          dsimp only
          exact ih (k + 1) _ (by omega)
        · refine b_iln (pc2 := 86) d_Mo_choose_85 rfl rfl ?_
          refine b_ic (pc2 := 87) (x := Int32.ofNat 1) d_Mo_choose_86 rfl rfl ?_
          refine b_pure (pc2 := 88) d_Mo_choose_87 rfl rfl rfl ?_
          refine b_go (pc2 := 92) d_Mo_choose_88 rfl ?_
          refine b_isn (pc2 := 93) (al2 := [(1, _), (3, _), (2, _), (0, _)]) d_Mo_choose_92 (by decide) rfl rfl ?_
          refine b_inc (pc2 := 96) (al2 := [(3, _), (1, _), (2, _), (0, _)]) (y := Int32.ofNat 1) d_Mo_choose_93 (by decide) rfl rfl rfl rfl ?_
          rw [i_add]
          refine b_go (pc2 := 51) d_Mo_choose_96 rfl ?_
          refine b_nf (al := [(3, _), (2, _), (1, _), (0, _)]) (ks := [3, 2, 1, 0]) (sub_c rfl (sub_c rfl (sub_c rfl (sub_c rfl (sub_n))))) rfl (by decide) ?_
          dsimp only
          exact ih (k + 1) _ (by omega)
      · refine b_iln (pc2 := 71) d_Mo_choose_70 rfl rfl ?_
        refine b_ifd (pc2 := 76) d_Mo_choose_71 rfl rfl rfl rfl rfl (fun h71 => ?_) (fun h71 => ?_)
        rotate_left
        · exact absurd (by rw [z_ge (by omega)]; omega) h71
        refine b_aln (pc2 := 77) d_Mo_choose_76 rfl rfl ?_
        refine b_gr (pc2 := 80) d_Mo_choose_77 q_11_7 (sh_130 n0) (by decide) (by decide) (p_130_2 n0) rfl ?_
        refine b_iln (pc2 := 81) d_Mo_choose_80 rfl rfl ?_
        refine b_ba (pc2 := 82) (q := k) d_Mo_choose_81 (sh_131 n0) (i_in (show k < 37 by omega) (by decide)) (i_tn (by omega)) (rc_131) rfl ?_
        refine b_ifd (pc2 := 91) d_Mo_choose_82 rfl rfl rfl rfl rfl (fun h82 => ?_) (fun h82 => ?_)
        · refine b_iln (pc2 := 92) d_Mo_choose_91 rfl rfl ?_
          refine b_isn (pc2 := 93) (al2 := [(1, _), (3, _), (2, _), (0, _)]) d_Mo_choose_92 (by decide) rfl rfl ?_
          refine b_inc (pc2 := 96) (al2 := [(3, _), (1, _), (2, _), (0, _)]) (y := Int32.ofNat 1) d_Mo_choose_93 (by decide) rfl rfl rfl rfl ?_
          rw [i_add]
          refine b_go (pc2 := 51) d_Mo_choose_96 rfl ?_
          refine b_nf (al := [(3, _), (2, _), (1, _), (0, _)]) (ks := [3, 2, 1, 0]) (sub_c rfl (sub_c rfl (sub_c rfl (sub_c rfl (sub_n))))) rfl (by decide) ?_
          dsimp only
          exact ih (k + 1) _ (by omega)
        · refine b_iln (pc2 := 86) d_Mo_choose_85 rfl rfl ?_
          refine b_ic (pc2 := 87) (x := Int32.ofNat 1) d_Mo_choose_86 rfl rfl ?_
          refine b_pure (pc2 := 88) d_Mo_choose_87 rfl rfl rfl ?_
          refine b_go (pc2 := 92) d_Mo_choose_88 rfl ?_
          refine b_isn (pc2 := 93) (al2 := [(1, _), (3, _), (2, _), (0, _)]) d_Mo_choose_92 (by decide) rfl rfl ?_
          refine b_inc (pc2 := 96) (al2 := [(3, _), (1, _), (2, _), (0, _)]) (y := Int32.ofNat 1) d_Mo_choose_93 (by decide) rfl rfl rfl rfl ?_
          rw [i_add]
          refine b_go (pc2 := 51) d_Mo_choose_96 rfl ?_
          refine b_nf (al := [(3, _), (2, _), (1, _), (0, _)]) (ks := [3, 2, 1, 0]) (sub_c rfl (sub_c rfl (sub_c rfl (sub_c rfl (sub_n))))) rfl (by decide) ?_
          dsimp only
          exact ih (k + 1) _ (by omega)
theorem lp_cs1 {e : Nat} {ch : Nat} (hch : ch < 37) (hu : ¬ J 131 ch = 0) : ∀ (r k : Nat), k + r = ch → bT e (S0 n0) R0 mt_Mo_choose (bR none W (am_u2 J 130 5 (Int32.ofNat ch)) g L) 51 [(3, .int (Int32.ofNat k)), (2, .int (-1)), (1, .int (Int32.ofNat (cnt (J 131) ch - cnt (J 131) k))), (0, .ref 130)] [] W J g L 0 0 := by
  intro r
  induction r with
  | zero =>
    intro k hk
    have hkc : k = ch := by omega
    subst hkc
    have hb1 := cnt_bd (J 131) k
    refine b_iln (pc2 := 52) d_Mo_choose_51 rfl rfl ?_
    refine b_bp (pc2 := 54) (x := Int32.ofNat 37) d_Mo_choose_52 rfl rfl ?_
    refine b_ifd (pc2 := 99) d_Mo_choose_54 rfl rfl rfl rfl rfl (fun h54 => ?_) (fun h54 => ?_)
    · exact absurd h54 (fun z => by rw [i_le (by omega) (by omega)] at z; omega)
    refine b_aln (pc2 := 58) d_Mo_choose_57 rfl rfl ?_
    refine b_gr (pc2 := 61) d_Mo_choose_58 q_11_7 (sh_130 n0) (by decide) (by decide) (p_130_2 n0) rfl ?_
    refine b_iln (pc2 := 62) d_Mo_choose_61 rfl rfl ?_
    refine b_ba (pc2 := 63) (q := k) d_Mo_choose_62 (sh_131 n0) (i_in (show k < 37 by omega) (by decide)) (i_tn (by omega)) (rc_131) rfl ?_
    refine b_ifd (pc2 := 76) d_Mo_choose_63 rfl rfl rfl rfl rfl (fun h63 => ?_) (fun h63 => ?_)
    · exact absurd h63 (hu)
    refine b_iln (pc2 := 67) d_Mo_choose_66 rfl rfl ?_
    refine b_ifd (pc2 := 76) d_Mo_choose_67 rfl rfl rfl rfl rfl (fun h67 => ?_) (fun h67 => ?_)
    · exact absurd h67 (fun z => by rw [z_eq (by omega)] at z; omega)
    refine b_iln (pc2 := 71) d_Mo_choose_70 rfl rfl ?_
    refine b_ifd (pc2 := 76) d_Mo_choose_71 rfl rfl rfl rfl rfl (fun h71 => ?_) (fun h71 => ?_)
    · exact absurd h71 (by decide)
    refine b_iln (pc2 := 75) d_Mo_choose_74 rfl rfl ?_
    refine b_isn (pc2 := 76) (al2 := [(2, _), (3, _), (1, _), (0, _)]) d_Mo_choose_75 (by decide) rfl rfl ?_
    refine b_aln (pc2 := 77) d_Mo_choose_76 rfl rfl ?_
    refine b_gr (pc2 := 80) d_Mo_choose_77 q_11_7 (sh_130 n0) (by decide) (by decide) (p_130_2 n0) rfl ?_
    refine b_iln (pc2 := 81) d_Mo_choose_80 rfl rfl ?_
    refine b_ba (pc2 := 82) (q := k) d_Mo_choose_81 (sh_131 n0) (i_in (show k < 37 by omega) (by decide)) (i_tn (by omega)) (rc_131) rfl ?_
    refine b_ifd (pc2 := 91) d_Mo_choose_82 rfl rfl rfl rfl rfl (fun h82 => ?_) (fun h82 => ?_)
    · exact absurd h82 (hu)
    refine b_iln (pc2 := 86) d_Mo_choose_85 rfl rfl ?_
    refine b_ic (pc2 := 87) (x := Int32.ofNat 1) d_Mo_choose_86 rfl rfl ?_
    refine b_pure (pc2 := 88) d_Mo_choose_87 rfl rfl rfl ?_
    refine b_go (pc2 := 92) d_Mo_choose_88 rfl ?_
    refine b_isn (pc2 := 93) (al2 := [(1, _), (2, _), (3, _), (0, _)]) d_Mo_choose_92 (by decide) rfl rfl ?_
    refine b_inc (pc2 := 96) (al2 := [(3, _), (1, _), (2, _), (0, _)]) (y := Int32.ofNat 1) d_Mo_choose_93 (by decide) rfl rfl rfl rfl ?_
    rw [i_add]
    refine b_go (pc2 := 51) d_Mo_choose_96 rfl ?_
    refine b_nf (al := [(3, _), (2, _), (1, _), (0, _)]) (ks := [3, 2, 1, 0]) (sub_c rfl (sub_c rfl (sub_c rfl (sub_c rfl (sub_n))))) rfl (by decide) ?_
    dsimp only
    exact lp_cs2 hch (36 - k) (k + 1) _ (by omega)
  | succ r ih =>
    intro k hk
    have hb1 := cnt_bd (J 131) ch
    have hb2 := cnt_le (J 131) (show k ≤ ch by omega)
    have hb3 := cnt_le (J 131) (show k + 1 ≤ ch by omega)
    refine b_iln (pc2 := 52) d_Mo_choose_51 rfl rfl ?_
    refine b_bp (pc2 := 54) (x := Int32.ofNat 37) d_Mo_choose_52 rfl rfl ?_
    refine b_ifd (pc2 := 99) d_Mo_choose_54 rfl rfl rfl rfl rfl (fun h54 => ?_) (fun h54 => ?_)
    · exact absurd h54 (fun z => by rw [i_le (by omega) (by omega)] at z; omega)
    refine b_aln (pc2 := 58) d_Mo_choose_57 rfl rfl ?_
    refine b_gr (pc2 := 61) d_Mo_choose_58 q_11_7 (sh_130 n0) (by decide) (by decide) (p_130_2 n0) rfl ?_
    refine b_iln (pc2 := 62) d_Mo_choose_61 rfl rfl ?_
    refine b_ba (pc2 := 63) (q := k) d_Mo_choose_62 (sh_131 n0) (i_in (show k < 37 by omega) (by decide)) (i_tn (by omega)) (rc_131) rfl ?_
    refine b_ifd (pc2 := 76) d_Mo_choose_63 rfl rfl rfl rfl rfl (fun h63 => ?_) (fun h63 => ?_)
    · refine b_aln (pc2 := 77) d_Mo_choose_76 rfl rfl ?_
      refine b_gr (pc2 := 80) d_Mo_choose_77 q_11_7 (sh_130 n0) (by decide) (by decide) (p_130_2 n0) rfl ?_
      refine b_iln (pc2 := 81) d_Mo_choose_80 rfl rfl ?_
      refine b_ba (pc2 := 82) (q := k) d_Mo_choose_81 (sh_131 n0) (i_in (show k < 37 by omega) (by decide)) (i_tn (by omega)) (rc_131) rfl ?_
      refine b_ifd (pc2 := 91) d_Mo_choose_82 rfl rfl rfl rfl rfl (fun h82 => ?_) (fun h82 => ?_)
      · rw [← cnt_z h82]
        refine b_iln (pc2 := 92) d_Mo_choose_91 rfl rfl ?_
        refine b_isn (pc2 := 93) (al2 := [(1, _), (3, _), (2, _), (0, _)]) d_Mo_choose_92 (by decide) rfl rfl ?_
        refine b_inc (pc2 := 96) (al2 := [(3, _), (1, _), (2, _), (0, _)]) (y := Int32.ofNat 1) d_Mo_choose_93 (by decide) rfl rfl rfl rfl ?_
        rw [i_add]
        refine b_go (pc2 := 51) d_Mo_choose_96 rfl ?_
        refine b_nf (al := [(3, _), (2, _), (1, _), (0, _)]) (ks := [3, 2, 1, 0]) (sub_c rfl (sub_c rfl (sub_c rfl (sub_c rfl (sub_n))))) rfl (by decide) ?_
        dsimp only
        exact ih (k + 1) (by omega)
      · have hb5 := hb3
        rw [cnt_s h82] at hb5
        refine b_iln (pc2 := 86) d_Mo_choose_85 rfl rfl ?_
        refine b_ic (pc2 := 87) (x := Int32.ofNat 1) d_Mo_choose_86 rfl rfl ?_
        refine b_pure (pc2 := 88) d_Mo_choose_87 rfl rfl rfl ?_
        rw [i_sub (by omega), show cnt (J 131) ch - cnt (J 131) k - 1 = cnt (J 131) ch - cnt (J 131) (k + 1) by rw [cnt_s h82]; omega]
        refine b_go (pc2 := 92) d_Mo_choose_88 rfl ?_
        refine b_isn (pc2 := 93) (al2 := [(1, _), (3, _), (2, _), (0, _)]) d_Mo_choose_92 (by decide) rfl rfl ?_
        refine b_inc (pc2 := 96) (al2 := [(3, _), (1, _), (2, _), (0, _)]) (y := Int32.ofNat 1) d_Mo_choose_93 (by decide) rfl rfl rfl rfl ?_
        rw [i_add]
        refine b_go (pc2 := 51) d_Mo_choose_96 rfl ?_
        refine b_nf (al := [(3, _), (2, _), (1, _), (0, _)]) (ks := [3, 2, 1, 0]) (sub_c rfl (sub_c rfl (sub_c rfl (sub_c rfl (sub_n))))) rfl (by decide) ?_
        dsimp only
        exact ih (k + 1) (by omega)
    · have hb4 := hb3
      rw [cnt_s h63] at hb4
      refine b_iln (pc2 := 67) d_Mo_choose_66 rfl rfl ?_
      refine b_ifd (pc2 := 76) d_Mo_choose_67 rfl rfl rfl rfl rfl (fun h67 => ?_) (fun h67 => ?_)
      rotate_left
      · exact absurd (by rw [z_eq (by omega)]; omega) h67
      refine b_aln (pc2 := 77) d_Mo_choose_76 rfl rfl ?_
      refine b_gr (pc2 := 80) d_Mo_choose_77 q_11_7 (sh_130 n0) (by decide) (by decide) (p_130_2 n0) rfl ?_
      refine b_iln (pc2 := 81) d_Mo_choose_80 rfl rfl ?_
      refine b_ba (pc2 := 82) (q := k) d_Mo_choose_81 (sh_131 n0) (i_in (show k < 37 by omega) (by decide)) (i_tn (by omega)) (rc_131) rfl ?_
      refine b_ifd (pc2 := 91) d_Mo_choose_82 rfl rfl rfl rfl rfl (fun h82 => ?_) (fun h82 => ?_)
      · rw [← cnt_z h82]
        refine b_iln (pc2 := 92) d_Mo_choose_91 rfl rfl ?_
        refine b_isn (pc2 := 93) (al2 := [(1, _), (3, _), (2, _), (0, _)]) d_Mo_choose_92 (by decide) rfl rfl ?_
        refine b_inc (pc2 := 96) (al2 := [(3, _), (1, _), (2, _), (0, _)]) (y := Int32.ofNat 1) d_Mo_choose_93 (by decide) rfl rfl rfl rfl ?_
        rw [i_add]
        refine b_go (pc2 := 51) d_Mo_choose_96 rfl ?_
        refine b_nf (al := [(3, _), (2, _), (1, _), (0, _)]) (ks := [3, 2, 1, 0]) (sub_c rfl (sub_c rfl (sub_c rfl (sub_c rfl (sub_n))))) rfl (by decide) ?_
        dsimp only
        exact ih (k + 1) (by omega)
      · have hb5 := hb3
        rw [cnt_s h82] at hb5
        refine b_iln (pc2 := 86) d_Mo_choose_85 rfl rfl ?_
        refine b_ic (pc2 := 87) (x := Int32.ofNat 1) d_Mo_choose_86 rfl rfl ?_
        refine b_pure (pc2 := 88) d_Mo_choose_87 rfl rfl rfl ?_
        rw [i_sub (by omega), show cnt (J 131) ch - cnt (J 131) k - 1 = cnt (J 131) ch - cnt (J 131) (k + 1) by rw [cnt_s h82]; omega]
        refine b_go (pc2 := 92) d_Mo_choose_88 rfl ?_
        refine b_isn (pc2 := 93) (al2 := [(1, _), (3, _), (2, _), (0, _)]) d_Mo_choose_92 (by decide) rfl rfl ?_
        refine b_inc (pc2 := 96) (al2 := [(3, _), (1, _), (2, _), (0, _)]) (y := Int32.ofNat 1) d_Mo_choose_93 (by decide) rfl rfl rfl rfl ?_
        rw [i_add]
        refine b_go (pc2 := 51) d_Mo_choose_96 rfl ?_
        refine b_nf (al := [(3, _), (2, _), (1, _), (0, _)]) (ks := [3, 2, 1, 0]) (sub_c rfl (sub_c rfl (sub_c rfl (sub_c rfl (sub_n))))) rfl (by decide) ?_
        dsimp only
        exact ih (k + 1) (by omega)
theorem mo_choose1 {d : Nat} (hd : 1 ≤ d) {st hp : Nat} (hst : J 130 4 = Int32.ofNat st) (hst2 : st < 37) (hhp : J 130 1 = Int32.ofNat hp) (hhp2 : hp < 17) (hu : ¬ J 131 ((st + hp) % 37) = 0) : bm d (S0 n0) R0 145 [.ref 130] W J g L (bR none W (am_u2 (am_u2 J 130 4 (Int32.ofNat ((st + hp) % 37))) 130 5 (Int32.ofNat ((st + hp) % 37))) g L) := by
  obtain ⟨e, rfl⟩ : ∃ e, d = e + 1 := ⟨d - 1, by omega⟩
  refine bm_of (Nat.le_of_ble_eq_true rfl) (Or.inr bR_ret) ?_
  show bT e (S0 n0) R0 mt_Mo_choose _ 0 [(0, .ref 130)] [] W J g L 0 0
  have hSR := SR0 n0
  refine b_aln (pc2 := 1) d_Mo_choose_0 rfl rfl ?_
  refine b_aln (pc2 := 2) d_Mo_choose_1 rfl rfl ?_
  refine b_gi (pc2 := 5) d_Mo_choose_2 q_11_296 (sh_130 n0) (by decide) (by decide) (rc_130) rfl ?_
  rw [hst]
  refine b_aln (pc2 := 6) d_Mo_choose_5 rfl rfl ?_
  refine b_gi (pc2 := 9) d_Mo_choose_6 q_11_129 (sh_130 n0) (by decide) (by decide) (rc_130) rfl ?_
  rw [hhp]
  refine b_pure (pc2 := 10) d_Mo_choose_9 rfl rfl rfl ?_
  rw [i_add]
  refine b_bp (pc2 := 12) (x := Int32.ofNat 37) d_Mo_choose_10 rfl rfl ?_
  refine b_rem (pc2 := 13) d_Mo_choose_12 (by decide) rfl ?_
  rw [i_rem (by omega) (by omega) (by omega)]
  refine b_pi (pc2 := 16) d_Mo_choose_13 q_11_296 (sh_130 n0) (by decide) (Or.inl (by decide)) (Or.inl rfl) (rc_130) rfl ?_
  refine b_aln (pc2 := 17) d_Mo_choose_16 rfl rfl ?_
  refine b_aln (pc2 := 18) d_Mo_choose_17 rfl rfl ?_
  refine b_gi (pc2 := 21) d_Mo_choose_18 q_11_296 (sh_130 n0) (by decide) (by decide) (rc_130) rfl ?_
  rw [u2_at]
  refine b_pi (pc2 := 24) d_Mo_choose_21 q_11_13 (sh_130 n0) (by decide) (Or.inl (by decide)) (Or.inl rfl) (rc_130) rfl ?_
  refine b_aln (pc2 := 25) d_Mo_choose_24 rfl rfl ?_
  refine b_gr (pc2 := 28) d_Mo_choose_25 q_11_7 (sh_130 n0) (by decide) (by decide) (p_130_2 n0) rfl ?_
  refine b_aln (pc2 := 29) d_Mo_choose_28 rfl rfl ?_
  refine b_gi (pc2 := 32) d_Mo_choose_29 q_11_296 (sh_130 n0) (by decide) (by decide) (rc_130) rfl ?_
  rw [u2_k _ _ (by decide), u2_at]
  refine b_ba (pc2 := 33) (q := ((st + hp) % 37)) d_Mo_choose_32 (sh_131 n0) (i_in (show (st + hp) % 37 < 37 by omega) (by decide)) (i_tn (by omega)) (rc_131) rfl ?_
  rw [u2_a _ _ (by decide), u2_a _ _ (by decide)]
  refine b_ifd (pc2 := 37) d_Mo_choose_33 rfl rfl rfl rfl rfl (fun h33 => ?_) (fun h33 => ?_)
  · exact absurd h33 (hu)
  refine b_vr d_Mo_choose_36 rfl ?_
  exact ⟨rfl, rfl, rfl, rfl, rfl⟩
theorem mo_choose2 {d : Nat} (hd : 1 ≤ d) {st hp : Nat} (hst : J 130 4 = Int32.ofNat st) (hst2 : st < 37) (hhp : J 130 1 = Int32.ofNat hp) (hhp2 : hp < 17) {uo ch : Nat} (huo : J 130 3 = Int32.ofNat uo) (huo1 : 1 ≤ uo) (huo2 : uo ≤ 37) (hu0 : J 131 ((st + hp) % 37) = 0) (hch : ch < 37) (hu : ¬ J 131 ch = 0) (hct : cnt (J 131) ch = (st + hp) % 37 % uo) : bm d (S0 n0) R0 145 [.ref 130] W J g L (bR none W (am_u2 (am_u2 (am_u2 J 130 4 (Int32.ofNat ((st + hp) % 37))) 130 5 (Int32.ofNat ((st + hp) % 37))) 130 5 (Int32.ofNat ch)) g L) := by
  obtain ⟨e, rfl⟩ : ∃ e, d = e + 1 := ⟨d - 1, by omega⟩
  refine bm_of (Nat.le_of_ble_eq_true rfl) (Or.inr bR_ret) ?_
  show bT e (S0 n0) R0 mt_Mo_choose _ 0 [(0, .ref 130)] [] W J g L 0 0
  have hSR := SR0 n0
  refine b_aln (pc2 := 1) d_Mo_choose_0 rfl rfl ?_
  refine b_aln (pc2 := 2) d_Mo_choose_1 rfl rfl ?_
  refine b_gi (pc2 := 5) d_Mo_choose_2 q_11_296 (sh_130 n0) (by decide) (by decide) (rc_130) rfl ?_
  rw [hst]
  refine b_aln (pc2 := 6) d_Mo_choose_5 rfl rfl ?_
  refine b_gi (pc2 := 9) d_Mo_choose_6 q_11_129 (sh_130 n0) (by decide) (by decide) (rc_130) rfl ?_
  rw [hhp]
  refine b_pure (pc2 := 10) d_Mo_choose_9 rfl rfl rfl ?_
  rw [i_add]
  refine b_bp (pc2 := 12) (x := Int32.ofNat 37) d_Mo_choose_10 rfl rfl ?_
  refine b_rem (pc2 := 13) d_Mo_choose_12 (by decide) rfl ?_
  rw [i_rem (by omega) (by omega) (by omega)]
  refine b_pi (pc2 := 16) d_Mo_choose_13 q_11_296 (sh_130 n0) (by decide) (Or.inl (by decide)) (Or.inl rfl) (rc_130) rfl ?_
  refine b_aln (pc2 := 17) d_Mo_choose_16 rfl rfl ?_
  refine b_aln (pc2 := 18) d_Mo_choose_17 rfl rfl ?_
  refine b_gi (pc2 := 21) d_Mo_choose_18 q_11_296 (sh_130 n0) (by decide) (by decide) (rc_130) rfl ?_
  rw [u2_at]
  refine b_pi (pc2 := 24) d_Mo_choose_21 q_11_13 (sh_130 n0) (by decide) (Or.inl (by decide)) (Or.inl rfl) (rc_130) rfl ?_
  refine b_aln (pc2 := 25) d_Mo_choose_24 rfl rfl ?_
  refine b_gr (pc2 := 28) d_Mo_choose_25 q_11_7 (sh_130 n0) (by decide) (by decide) (p_130_2 n0) rfl ?_
  refine b_aln (pc2 := 29) d_Mo_choose_28 rfl rfl ?_
  refine b_gi (pc2 := 32) d_Mo_choose_29 q_11_296 (sh_130 n0) (by decide) (by decide) (rc_130) rfl ?_
  rw [u2_k _ _ (by decide), u2_at]
  refine b_ba (pc2 := 33) (q := ((st + hp) % 37)) d_Mo_choose_32 (sh_131 n0) (i_in (show (st + hp) % 37 < 37 by omega) (by decide)) (i_tn (by omega)) (rc_131) rfl ?_
  rw [u2_a _ _ (by decide), u2_a _ _ (by decide)]
  refine b_ifd (pc2 := 37) d_Mo_choose_33 rfl rfl rfl rfl rfl (fun h33 => ?_) (fun h33 => ?_)
  rotate_left
  · exact absurd (hu0) h33
  refine b_aln (pc2 := 38) d_Mo_choose_37 rfl rfl ?_
  refine b_gi (pc2 := 41) d_Mo_choose_38 q_11_296 (sh_130 n0) (by decide) (by decide) (rc_130) rfl ?_
  rw [u2_k _ _ (by decide), u2_at]
  refine b_aln (pc2 := 42) d_Mo_choose_41 rfl rfl ?_
  refine b_gi (pc2 := 45) d_Mo_choose_42 q_11_132 (sh_130 n0) (by decide) (by decide) (rc_130) rfl ?_
  rw [u2_k _ _ (by decide), u2_k _ _ (by decide), huo]
  refine b_rem (pc2 := 46) d_Mo_choose_45 (fun z => by rw [z_eq (by omega)] at z; omega) rfl ?_
  rw [i_rem (by omega) (by omega) (by omega)]
  refine b_isn (pc2 := 47) (al2 := [(1, _), (0, _)]) d_Mo_choose_46 (by decide) rfl rfl ?_
  refine b_ic (pc2 := 48) (x := -1) d_Mo_choose_47 rfl rfl ?_
  refine b_isn (pc2 := 49) (al2 := [(2, _), (1, _), (0, _)]) d_Mo_choose_48 (by decide) rfl rfl ?_
  refine b_ic (pc2 := 50) (x := Int32.ofNat 0) d_Mo_choose_49 rfl rfl ?_
  refine b_isn (pc2 := 51) (al2 := [(3, _), (2, _), (1, _), (0, _)]) d_Mo_choose_50 (by decide) rfl rfl ?_
  refine b_nf (al := [(3, _), (2, _), (1, _), (0, _)]) (ks := [3, 2, 1, 0]) (sub_c rfl (sub_c rfl (sub_c rfl (sub_c rfl (sub_n))))) rfl (by decide) ?_
  dsimp only
  have hJ : (am_u2 (am_u2 J 130 4 (Int32.ofNat ((st + hp) % 37))) 130 5 (Int32.ofNat ((st + hp) % 37))) 131 = J 131 := by rw [u2_a _ _ (by decide), u2_a _ _ (by decide)]
  refine (fun z => ?_ : _ → _) (lp_cs1 (n0 := n0) (W := W) (J := (am_u2 (am_u2 J 130 4 (Int32.ofNat ((st + hp) % 37))) 130 5 (Int32.ofNat ((st + hp) % 37)))) (g := g) (L := L) (e := e) (ch := ch) hch (by rw [hJ]; exact hu) ch 0 (by omega))
  rw [hJ, hct] at z
  exact z
theorem hp_i0 {e : Nat} {m0 m1 dn : Nat} (hm0 : J 135 0 = Int32.ofNat m0) (hm02 : m0 < 100) (hm1 : J 135 1 = Int32.ofNat m1) (hm12 : m1 < 100) (hdn : dn = if m0 = 6 ∨ m1 = 6 then 1 else 0) {op oc : Nat} (hop : J 130 45 = Int32.ofNat op) (hop2 : op ≤ 7) (hoc : J 130 47 = Int32.ofNat oc) (hoc2 : oc ≤ 4) (hx : op = 0 ∨ ¬ oc = 0) : bT e (S0 n0) R0 mt_Mo_happen (bR (some (.int (Int32.ofNat 0))) W (am_u2 J 130 7 (Int32.ofNat dn)) g L) 114 [(0, .ref 130), (6, .int (Int32.ofNat 0)), (7, .int (Int32.ofNat 0))] [] W J g L 0 0 := by
  refine b_aln (pc2 := 115) d_Mo_happen_114 rfl rfl ?_
  refine b_aln (pc2 := 116) d_Mo_happen_115 rfl rfl ?_
  refine b_gr (pc2 := 119) d_Mo_happen_116 q_11_27 (sh_130 n0) (by decide) (by decide) (p_130_12 n0) rfl ?_
  refine b_ic (pc2 := 120) (x := Int32.ofNat 0) d_Mo_happen_119 rfl rfl ?_
  refine b_ia (pc2 := 121) (q := 0) d_Mo_happen_120 (sh_135 n0) (i_in (i := 0) (by decide) (by decide)) (rfl) (rc_135) rfl ?_
  rw [hm0]
  refine b_bp (pc2 := 123) (x := Int32.ofNat 6) d_Mo_happen_121 rfl rfl ?_
  refine b_ifd (pc2 := 137) d_Mo_happen_123 rfl rfl rfl rfl rfl (fun h123 => ?_) (fun h123 => ?_)
  · rw [i_eq (by omega) (by omega)] at h123
    have e1 : dn = 1 := by rw [hdn, if_pos (by omega)]
    subst e1
    refine b_ic (pc2 := 138) (x := Int32.ofNat 1) d_Mo_happen_137 rfl rfl ?_
    refine b_go (pc2 := 142) d_Mo_happen_138 rfl ?_
    refine b_pi (pc2 := 145) d_Mo_happen_142 q_11_283 (sh_130 n0) (by decide) (Or.inl (by decide)) (Or.inr ⟨rfl, by decide⟩) (rc_130) rfl ?_
    refine b_aln (pc2 := 146) d_Mo_happen_145 rfl rfl ?_
    refine b_gi (pc2 := 149) d_Mo_happen_146 q_11_235 (sh_130 n0) (by decide) (by decide) (rc_130) rfl ?_
    rw [u2_k _ _ (by decide), hop]
    refine b_ifd (pc2 := 198) d_Mo_happen_149 rfl rfl rfl rfl rfl (fun h149 => ?_) (fun h149 => ?_)
    · rw [z_le (by omega)] at h149
      refine b_il (pc2 := 200) d_Mo_happen_198 rfl rfl ?_
      refine b_ifd (pc2 := 207) d_Mo_happen_200 rfl rfl rfl rfl rfl (fun h200 => ?_) (fun h200 => ?_)
      rotate_left
      · exact absurd (by decide) h200
      refine b_ic (pc2 := 208) (x := Int32.ofNat 0) d_Mo_happen_207 rfl rfl ?_
      refine b_il (pc2 := 210) d_Mo_happen_208 rfl rfl ?_
      refine b_ifd (pc2 := 217) d_Mo_happen_210 rfl rfl rfl rfl rfl (fun h210 => ?_) (fun h210 => ?_)
      rotate_left
      · exact absurd (by decide) h210
      refine b_ic (pc2 := 218) (x := Int32.ofNat 0) d_Mo_happen_217 rfl rfl ?_
      refine b_pure (pc2 := 219) d_Mo_happen_218 rfl rfl rfl ?_
      rw [i_add]
      refine b_ir d_Mo_happen_219 rfl ?_
      exact ⟨rfl, rfl, rfl, rfl, rfl⟩
    · rw [z_le (by omega)] at h149
      refine b_aln (pc2 := 153) d_Mo_happen_152 rfl rfl ?_
      refine b_gi (pc2 := 156) d_Mo_happen_153 q_11_111 (sh_130 n0) (by decide) (by decide) (rc_130) rfl ?_
      rw [u2_k _ _ (by decide), hoc]
      refine b_ifd (pc2 := 198) d_Mo_happen_156 rfl rfl rfl rfl rfl (fun h156 => ?_) (fun h156 => ?_)
      · rw [z_eq (by omega)] at h156
        refine b_il (pc2 := 200) d_Mo_happen_198 rfl rfl ?_
        refine b_ifd (pc2 := 207) d_Mo_happen_200 rfl rfl rfl rfl rfl (fun h200 => ?_) (fun h200 => ?_)
        rotate_left
        · exact absurd (by decide) h200
        refine b_ic (pc2 := 208) (x := Int32.ofNat 0) d_Mo_happen_207 rfl rfl ?_
        refine b_il (pc2 := 210) d_Mo_happen_208 rfl rfl ?_
        refine b_ifd (pc2 := 217) d_Mo_happen_210 rfl rfl rfl rfl rfl (fun h210 => ?_) (fun h210 => ?_)
        rotate_left
        · exact absurd (by decide) h210
        refine b_ic (pc2 := 218) (x := Int32.ofNat 0) d_Mo_happen_217 rfl rfl ?_
        refine b_pure (pc2 := 219) d_Mo_happen_218 rfl rfl rfl ?_
        rw [i_add]
        refine b_ir d_Mo_happen_219 rfl ?_
        exact ⟨rfl, rfl, rfl, rfl, rfl⟩
      · rw [z_eq (by omega)] at h156
        omega
  · rw [i_eq (by omega) (by omega)] at h123
    refine b_aln (pc2 := 127) d_Mo_happen_126 rfl rfl ?_
    refine b_gr (pc2 := 130) d_Mo_happen_127 q_11_27 (sh_130 n0) (by decide) (by decide) (p_130_12 n0) rfl ?_
    refine b_ic (pc2 := 131) (x := Int32.ofNat 1) d_Mo_happen_130 rfl rfl ?_
    refine b_ia (pc2 := 132) (q := 1) d_Mo_happen_131 (sh_135 n0) (i_in (i := 1) (by decide) (by decide)) (rfl) (rc_135) rfl ?_
    rw [hm1]
    refine b_bp (pc2 := 134) (x := Int32.ofNat 6) d_Mo_happen_132 rfl rfl ?_
    refine b_ifd (pc2 := 141) d_Mo_happen_134 rfl rfl rfl rfl rfl (fun h134 => ?_) (fun h134 => ?_)
    · rw [i_eq (by omega) (by omega)] at h134
      have e1 : dn = 0 := by rw [hdn, if_neg (by omega)]
      subst e1
      refine b_ic (pc2 := 142) (x := Int32.ofNat 0) d_Mo_happen_141 rfl rfl ?_
      refine b_pi (pc2 := 145) d_Mo_happen_142 q_11_283 (sh_130 n0) (by decide) (Or.inl (by decide)) (Or.inr ⟨rfl, by decide⟩) (rc_130) rfl ?_
      refine b_aln (pc2 := 146) d_Mo_happen_145 rfl rfl ?_
      refine b_gi (pc2 := 149) d_Mo_happen_146 q_11_235 (sh_130 n0) (by decide) (by decide) (rc_130) rfl ?_
      rw [u2_k _ _ (by decide), hop]
      refine b_ifd (pc2 := 198) d_Mo_happen_149 rfl rfl rfl rfl rfl (fun h149 => ?_) (fun h149 => ?_)
      · rw [z_le (by omega)] at h149
        refine b_il (pc2 := 200) d_Mo_happen_198 rfl rfl ?_
        refine b_ifd (pc2 := 207) d_Mo_happen_200 rfl rfl rfl rfl rfl (fun h200 => ?_) (fun h200 => ?_)
        rotate_left
        · exact absurd (by decide) h200
        refine b_ic (pc2 := 208) (x := Int32.ofNat 0) d_Mo_happen_207 rfl rfl ?_
        refine b_il (pc2 := 210) d_Mo_happen_208 rfl rfl ?_
        refine b_ifd (pc2 := 217) d_Mo_happen_210 rfl rfl rfl rfl rfl (fun h210 => ?_) (fun h210 => ?_)
        rotate_left
        · exact absurd (by decide) h210
        refine b_ic (pc2 := 218) (x := Int32.ofNat 0) d_Mo_happen_217 rfl rfl ?_
        refine b_pure (pc2 := 219) d_Mo_happen_218 rfl rfl rfl ?_
        rw [i_add]
        refine b_ir d_Mo_happen_219 rfl ?_
        exact ⟨rfl, rfl, rfl, rfl, rfl⟩
      · rw [z_le (by omega)] at h149
        refine b_aln (pc2 := 153) d_Mo_happen_152 rfl rfl ?_
        refine b_gi (pc2 := 156) d_Mo_happen_153 q_11_111 (sh_130 n0) (by decide) (by decide) (rc_130) rfl ?_
        rw [u2_k _ _ (by decide), hoc]
        refine b_ifd (pc2 := 198) d_Mo_happen_156 rfl rfl rfl rfl rfl (fun h156 => ?_) (fun h156 => ?_)
        · rw [z_eq (by omega)] at h156
          refine b_il (pc2 := 200) d_Mo_happen_198 rfl rfl ?_
          refine b_ifd (pc2 := 207) d_Mo_happen_200 rfl rfl rfl rfl rfl (fun h200 => ?_) (fun h200 => ?_)
          rotate_left
          · exact absurd (by decide) h200
          refine b_ic (pc2 := 208) (x := Int32.ofNat 0) d_Mo_happen_207 rfl rfl ?_
          refine b_il (pc2 := 210) d_Mo_happen_208 rfl rfl ?_
          refine b_ifd (pc2 := 217) d_Mo_happen_210 rfl rfl rfl rfl rfl (fun h210 => ?_) (fun h210 => ?_)
          rotate_left
          · exact absurd (by decide) h210
          refine b_ic (pc2 := 218) (x := Int32.ofNat 0) d_Mo_happen_217 rfl rfl ?_
          refine b_pure (pc2 := 219) d_Mo_happen_218 rfl rfl rfl ?_
          rw [i_add]
          refine b_ir d_Mo_happen_219 rfl ?_
          exact ⟨rfl, rfl, rfl, rfl, rfl⟩
        · rw [z_eq (by omega)] at h156
          omega
    · rw [i_eq (by omega) (by omega)] at h134
      have e1 : dn = 1 := by rw [hdn, if_pos (by omega)]
      subst e1
      refine b_ic (pc2 := 138) (x := Int32.ofNat 1) d_Mo_happen_137 rfl rfl ?_
      refine b_go (pc2 := 142) d_Mo_happen_138 rfl ?_
      refine b_pi (pc2 := 145) d_Mo_happen_142 q_11_283 (sh_130 n0) (by decide) (Or.inl (by decide)) (Or.inr ⟨rfl, by decide⟩) (rc_130) rfl ?_
      refine b_aln (pc2 := 146) d_Mo_happen_145 rfl rfl ?_
      refine b_gi (pc2 := 149) d_Mo_happen_146 q_11_235 (sh_130 n0) (by decide) (by decide) (rc_130) rfl ?_
      rw [u2_k _ _ (by decide), hop]
      refine b_ifd (pc2 := 198) d_Mo_happen_149 rfl rfl rfl rfl rfl (fun h149 => ?_) (fun h149 => ?_)
      · rw [z_le (by omega)] at h149
        refine b_il (pc2 := 200) d_Mo_happen_198 rfl rfl ?_
        refine b_ifd (pc2 := 207) d_Mo_happen_200 rfl rfl rfl rfl rfl (fun h200 => ?_) (fun h200 => ?_)
        rotate_left
        · exact absurd (by decide) h200
        refine b_ic (pc2 := 208) (x := Int32.ofNat 0) d_Mo_happen_207 rfl rfl ?_
        refine b_il (pc2 := 210) d_Mo_happen_208 rfl rfl ?_
        refine b_ifd (pc2 := 217) d_Mo_happen_210 rfl rfl rfl rfl rfl (fun h210 => ?_) (fun h210 => ?_)
        rotate_left
        · exact absurd (by decide) h210
        refine b_ic (pc2 := 218) (x := Int32.ofNat 0) d_Mo_happen_217 rfl rfl ?_
        refine b_pure (pc2 := 219) d_Mo_happen_218 rfl rfl rfl ?_
        rw [i_add]
        refine b_ir d_Mo_happen_219 rfl ?_
        exact ⟨rfl, rfl, rfl, rfl, rfl⟩
      · rw [z_le (by omega)] at h149
        refine b_aln (pc2 := 153) d_Mo_happen_152 rfl rfl ?_
        refine b_gi (pc2 := 156) d_Mo_happen_153 q_11_111 (sh_130 n0) (by decide) (by decide) (rc_130) rfl ?_
        rw [u2_k _ _ (by decide), hoc]
        refine b_ifd (pc2 := 198) d_Mo_happen_156 rfl rfl rfl rfl rfl (fun h156 => ?_) (fun h156 => ?_)
        · rw [z_eq (by omega)] at h156
          refine b_il (pc2 := 200) d_Mo_happen_198 rfl rfl ?_
          refine b_ifd (pc2 := 207) d_Mo_happen_200 rfl rfl rfl rfl rfl (fun h200 => ?_) (fun h200 => ?_)
          rotate_left
          · exact absurd (by decide) h200
          refine b_ic (pc2 := 208) (x := Int32.ofNat 0) d_Mo_happen_207 rfl rfl ?_
          refine b_il (pc2 := 210) d_Mo_happen_208 rfl rfl ?_
          refine b_ifd (pc2 := 217) d_Mo_happen_210 rfl rfl rfl rfl rfl (fun h210 => ?_) (fun h210 => ?_)
          rotate_left
          · exact absurd (by decide) h210
          refine b_ic (pc2 := 218) (x := Int32.ofNat 0) d_Mo_happen_217 rfl rfl ?_
          refine b_pure (pc2 := 219) d_Mo_happen_218 rfl rfl rfl ?_
          rw [i_add]
          refine b_ir d_Mo_happen_219 rfl ?_
          exact ⟨rfl, rfl, rfl, rfl, rfl⟩
        · rw [z_eq (by omega)] at h156
          omega
theorem hp_b0 {e : Nat} {m0 m1 dn : Nat} (hm0 : J 135 0 = Int32.ofNat m0) (hm02 : m0 < 100) (hm1 : J 135 1 = Int32.ofNat m1) (hm12 : m1 < 100) (hdn : dn = if m0 = 6 ∨ m1 = 6 then 1 else 0) {op oc wt : Nat} (hop : J 130 45 = Int32.ofNat op) (hop1 : 1 ≤ op) (hop2 : op ≤ 7) (hoc : J 130 47 = Int32.ofNat 0) (hwt : J 130 49 = Int32.ofNat wt) (hwt2 : wt < 100) (hoe : oc = if dn = 1 then 4 else if wt + 1 = 30 then 3 else 0) : bT e (S0 n0) R0 mt_Mo_happen (bR (some (.int (Int32.ofNat 0))) W (am_u2 (am_u2 (am_u2 J 130 7 (Int32.ofNat dn)) 130 49 (Int32.ofNat (wt + 1))) 130 47 (Int32.ofNat oc)) g L) 114 [(0, .ref 130), (6, .int (Int32.ofNat 0)), (7, .int (Int32.ofNat 0))] [] W J g L 0 0 := by
  refine b_aln (pc2 := 115) d_Mo_happen_114 rfl rfl ?_
  refine b_aln (pc2 := 116) d_Mo_happen_115 rfl rfl ?_
  refine b_gr (pc2 := 119) d_Mo_happen_116 q_11_27 (sh_130 n0) (by decide) (by decide) (p_130_12 n0) rfl ?_
  refine b_ic (pc2 := 120) (x := Int32.ofNat 0) d_Mo_happen_119 rfl rfl ?_
  refine b_ia (pc2 := 121) (q := 0) d_Mo_happen_120 (sh_135 n0) (i_in (i := 0) (by decide) (by decide)) (rfl) (rc_135) rfl ?_
  rw [hm0]
  refine b_bp (pc2 := 123) (x := Int32.ofNat 6) d_Mo_happen_121 rfl rfl ?_
  refine b_ifd (pc2 := 137) d_Mo_happen_123 rfl rfl rfl rfl rfl (fun h123 => ?_) (fun h123 => ?_)
  · rw [i_eq (by omega) (by omega)] at h123
    have e1 : dn = 1 := by rw [hdn, if_pos (by omega)]
    subst e1
    refine b_ic (pc2 := 138) (x := Int32.ofNat 1) d_Mo_happen_137 rfl rfl ?_
    refine b_go (pc2 := 142) d_Mo_happen_138 rfl ?_
    refine b_pi (pc2 := 145) d_Mo_happen_142 q_11_283 (sh_130 n0) (by decide) (Or.inl (by decide)) (Or.inr ⟨rfl, by decide⟩) (rc_130) rfl ?_
    refine b_aln (pc2 := 146) d_Mo_happen_145 rfl rfl ?_
    refine b_gi (pc2 := 149) d_Mo_happen_146 q_11_235 (sh_130 n0) (by decide) (by decide) (rc_130) rfl ?_
    rw [u2_k _ _ (by decide), hop]
    refine b_ifd (pc2 := 198) d_Mo_happen_149 rfl rfl rfl rfl rfl (fun h149 => ?_) (fun h149 => ?_)
    · exact absurd h149 (fun z => by rw [z_le (by omega)] at z; omega)
    refine b_aln (pc2 := 153) d_Mo_happen_152 rfl rfl ?_
    refine b_gi (pc2 := 156) d_Mo_happen_153 q_11_111 (sh_130 n0) (by decide) (by decide) (rc_130) rfl ?_
    rw [u2_k _ _ (by decide), hoc]
    refine b_ifd (pc2 := 198) d_Mo_happen_156 rfl rfl rfl rfl rfl (fun h156 => ?_) (fun h156 => ?_)
    · exact absurd h156 (by decide)
    refine b_aln (pc2 := 160) d_Mo_happen_159 rfl rfl ?_
    refine b_pure (pc2 := 161) d_Mo_happen_160 rfl rfl rfl ?_
    refine b_gi (pc2 := 164) d_Mo_happen_161 q_11_143 (sh_130 n0) (by decide) (by decide) (rc_130) rfl ?_
    rw [u2_k _ _ (by decide), hwt]
    refine b_ic (pc2 := 165) (x := Int32.ofNat 1) d_Mo_happen_164 rfl rfl ?_
    refine b_pure (pc2 := 166) d_Mo_happen_165 rfl rfl rfl ?_
    rw [i_add]
    refine b_pi (pc2 := 169) d_Mo_happen_166 q_11_143 (sh_130 n0) (by decide) (Or.inl (by decide)) (Or.inl rfl) (rc_130) rfl ?_
    refine b_aln (pc2 := 170) d_Mo_happen_169 rfl rfl ?_
    refine b_aln (pc2 := 171) d_Mo_happen_170 rfl rfl ?_
    refine b_gi (pc2 := 174) d_Mo_happen_171 q_11_283 (sh_130 n0) (by decide) (by decide) (rc_130) rfl ?_
    rw [u2_k _ _ (by decide), u2_at]
    refine b_ifd (pc2 := 181) d_Mo_happen_174 rfl rfl rfl rfl rfl (fun h174 => ?_) (fun h174 => ?_)
    · exact absurd h174 (by decide)
    have e2 : oc = 4 := by rw [hoe, if_pos rfl]
    subst e2
    refine b_ic (pc2 := 178) (x := Int32.ofNat 4) d_Mo_happen_177 rfl rfl ?_
    refine b_go (pc2 := 195) d_Mo_happen_178 rfl ?_
    refine b_pi (pc2 := 198) d_Mo_happen_195 q_11_111 (sh_130 n0) (by decide) (Or.inl (by decide)) (Or.inl rfl) (rc_130) rfl ?_
    refine b_il (pc2 := 200) d_Mo_happen_198 rfl rfl ?_
    refine b_ifd (pc2 := 207) d_Mo_happen_200 rfl rfl rfl rfl rfl (fun h200 => ?_) (fun h200 => ?_)
    rotate_left
    · exact absurd (by decide) h200
    refine b_ic (pc2 := 208) (x := Int32.ofNat 0) d_Mo_happen_207 rfl rfl ?_
    refine b_il (pc2 := 210) d_Mo_happen_208 rfl rfl ?_
    refine b_ifd (pc2 := 217) d_Mo_happen_210 rfl rfl rfl rfl rfl (fun h210 => ?_) (fun h210 => ?_)
    rotate_left
    · exact absurd (by decide) h210
    refine b_ic (pc2 := 218) (x := Int32.ofNat 0) d_Mo_happen_217 rfl rfl ?_
    refine b_pure (pc2 := 219) d_Mo_happen_218 rfl rfl rfl ?_
    rw [i_add]
    refine b_ir d_Mo_happen_219 rfl ?_
    exact ⟨rfl, rfl, rfl, rfl, rfl⟩
  · rw [i_eq (by omega) (by omega)] at h123
    refine b_aln (pc2 := 127) d_Mo_happen_126 rfl rfl ?_
    refine b_gr (pc2 := 130) d_Mo_happen_127 q_11_27 (sh_130 n0) (by decide) (by decide) (p_130_12 n0) rfl ?_
    refine b_ic (pc2 := 131) (x := Int32.ofNat 1) d_Mo_happen_130 rfl rfl ?_
    refine b_ia (pc2 := 132) (q := 1) d_Mo_happen_131 (sh_135 n0) (i_in (i := 1) (by decide) (by decide)) (rfl) (rc_135) rfl ?_
    rw [hm1]
    refine b_bp (pc2 := 134) (x := Int32.ofNat 6) d_Mo_happen_132 rfl rfl ?_
    refine b_ifd (pc2 := 141) d_Mo_happen_134 rfl rfl rfl rfl rfl (fun h134 => ?_) (fun h134 => ?_)
    · rw [i_eq (by omega) (by omega)] at h134
      have e1 : dn = 0 := by rw [hdn, if_neg (by omega)]
      subst e1
      refine b_ic (pc2 := 142) (x := Int32.ofNat 0) d_Mo_happen_141 rfl rfl ?_
      refine b_pi (pc2 := 145) d_Mo_happen_142 q_11_283 (sh_130 n0) (by decide) (Or.inl (by decide)) (Or.inr ⟨rfl, by decide⟩) (rc_130) rfl ?_
      refine b_aln (pc2 := 146) d_Mo_happen_145 rfl rfl ?_
      refine b_gi (pc2 := 149) d_Mo_happen_146 q_11_235 (sh_130 n0) (by decide) (by decide) (rc_130) rfl ?_
      rw [u2_k _ _ (by decide), hop]
      refine b_ifd (pc2 := 198) d_Mo_happen_149 rfl rfl rfl rfl rfl (fun h149 => ?_) (fun h149 => ?_)
      · exact absurd h149 (fun z => by rw [z_le (by omega)] at z; omega)
      refine b_aln (pc2 := 153) d_Mo_happen_152 rfl rfl ?_
      refine b_gi (pc2 := 156) d_Mo_happen_153 q_11_111 (sh_130 n0) (by decide) (by decide) (rc_130) rfl ?_
      rw [u2_k _ _ (by decide), hoc]
      refine b_ifd (pc2 := 198) d_Mo_happen_156 rfl rfl rfl rfl rfl (fun h156 => ?_) (fun h156 => ?_)
      · exact absurd h156 (by decide)
      refine b_aln (pc2 := 160) d_Mo_happen_159 rfl rfl ?_
      refine b_pure (pc2 := 161) d_Mo_happen_160 rfl rfl rfl ?_
      refine b_gi (pc2 := 164) d_Mo_happen_161 q_11_143 (sh_130 n0) (by decide) (by decide) (rc_130) rfl ?_
      rw [u2_k _ _ (by decide), hwt]
      refine b_ic (pc2 := 165) (x := Int32.ofNat 1) d_Mo_happen_164 rfl rfl ?_
      refine b_pure (pc2 := 166) d_Mo_happen_165 rfl rfl rfl ?_
      rw [i_add]
      refine b_pi (pc2 := 169) d_Mo_happen_166 q_11_143 (sh_130 n0) (by decide) (Or.inl (by decide)) (Or.inl rfl) (rc_130) rfl ?_
      refine b_aln (pc2 := 170) d_Mo_happen_169 rfl rfl ?_
      refine b_aln (pc2 := 171) d_Mo_happen_170 rfl rfl ?_
      refine b_gi (pc2 := 174) d_Mo_happen_171 q_11_283 (sh_130 n0) (by decide) (by decide) (rc_130) rfl ?_
      rw [u2_k _ _ (by decide), u2_at]
      refine b_ifd (pc2 := 181) d_Mo_happen_174 rfl rfl rfl rfl rfl (fun h174 => ?_) (fun h174 => ?_)
      rotate_left
      · exact absurd (by decide) h174
      refine b_aln (pc2 := 182) d_Mo_happen_181 rfl rfl ?_
      refine b_gi (pc2 := 185) d_Mo_happen_182 q_11_143 (sh_130 n0) (by decide) (by decide) (rc_130) rfl ?_
      rw [u2_at]
      refine b_bp (pc2 := 187) (x := Int32.ofNat 30) d_Mo_happen_185 rfl rfl ?_
      refine b_ifd (pc2 := 194) d_Mo_happen_187 rfl rfl rfl rfl rfl (fun h187 => ?_) (fun h187 => ?_)
      · rw [i_eq (by omega) (by omega)] at h187
        have e2 : oc = 0 := by rw [hoe, if_neg (by decide), if_neg (by omega)]
        subst e2
        refine b_ic (pc2 := 195) (x := Int32.ofNat 0) d_Mo_happen_194 rfl rfl ?_
        refine b_pi (pc2 := 198) d_Mo_happen_195 q_11_111 (sh_130 n0) (by decide) (Or.inl (by decide)) (Or.inl rfl) (rc_130) rfl ?_
        refine b_il (pc2 := 200) d_Mo_happen_198 rfl rfl ?_
        refine b_ifd (pc2 := 207) d_Mo_happen_200 rfl rfl rfl rfl rfl (fun h200 => ?_) (fun h200 => ?_)
        rotate_left
        · exact absurd (by decide) h200
        refine b_ic (pc2 := 208) (x := Int32.ofNat 0) d_Mo_happen_207 rfl rfl ?_
        refine b_il (pc2 := 210) d_Mo_happen_208 rfl rfl ?_
        refine b_ifd (pc2 := 217) d_Mo_happen_210 rfl rfl rfl rfl rfl (fun h210 => ?_) (fun h210 => ?_)
        rotate_left
        · exact absurd (by decide) h210
        refine b_ic (pc2 := 218) (x := Int32.ofNat 0) d_Mo_happen_217 rfl rfl ?_
        refine b_pure (pc2 := 219) d_Mo_happen_218 rfl rfl rfl ?_
        rw [i_add]
        refine b_ir d_Mo_happen_219 rfl ?_
        exact ⟨rfl, rfl, rfl, rfl, rfl⟩
      · rw [i_eq (by omega) (by omega)] at h187
        have e2 : oc = 3 := by rw [hoe, if_neg (by decide), if_pos (by omega)]
        subst e2
        refine b_ic (pc2 := 191) (x := Int32.ofNat 3) d_Mo_happen_190 rfl rfl ?_
        refine b_go (pc2 := 195) d_Mo_happen_191 rfl ?_
        refine b_pi (pc2 := 198) d_Mo_happen_195 q_11_111 (sh_130 n0) (by decide) (Or.inl (by decide)) (Or.inl rfl) (rc_130) rfl ?_
        refine b_il (pc2 := 200) d_Mo_happen_198 rfl rfl ?_
        refine b_ifd (pc2 := 207) d_Mo_happen_200 rfl rfl rfl rfl rfl (fun h200 => ?_) (fun h200 => ?_)
        rotate_left
        · exact absurd (by decide) h200
        refine b_ic (pc2 := 208) (x := Int32.ofNat 0) d_Mo_happen_207 rfl rfl ?_
        refine b_il (pc2 := 210) d_Mo_happen_208 rfl rfl ?_
        refine b_ifd (pc2 := 217) d_Mo_happen_210 rfl rfl rfl rfl rfl (fun h210 => ?_) (fun h210 => ?_)
        rotate_left
        · exact absurd (by decide) h210
        refine b_ic (pc2 := 218) (x := Int32.ofNat 0) d_Mo_happen_217 rfl rfl ?_
        refine b_pure (pc2 := 219) d_Mo_happen_218 rfl rfl rfl ?_
        rw [i_add]
        refine b_ir d_Mo_happen_219 rfl ?_
        exact ⟨rfl, rfl, rfl, rfl, rfl⟩
    · rw [i_eq (by omega) (by omega)] at h134
      have e1 : dn = 1 := by rw [hdn, if_pos (by omega)]
      subst e1
      refine b_ic (pc2 := 138) (x := Int32.ofNat 1) d_Mo_happen_137 rfl rfl ?_
      refine b_go (pc2 := 142) d_Mo_happen_138 rfl ?_
      refine b_pi (pc2 := 145) d_Mo_happen_142 q_11_283 (sh_130 n0) (by decide) (Or.inl (by decide)) (Or.inr ⟨rfl, by decide⟩) (rc_130) rfl ?_
      refine b_aln (pc2 := 146) d_Mo_happen_145 rfl rfl ?_
      refine b_gi (pc2 := 149) d_Mo_happen_146 q_11_235 (sh_130 n0) (by decide) (by decide) (rc_130) rfl ?_
      rw [u2_k _ _ (by decide), hop]
      refine b_ifd (pc2 := 198) d_Mo_happen_149 rfl rfl rfl rfl rfl (fun h149 => ?_) (fun h149 => ?_)
      · exact absurd h149 (fun z => by rw [z_le (by omega)] at z; omega)
      refine b_aln (pc2 := 153) d_Mo_happen_152 rfl rfl ?_
      refine b_gi (pc2 := 156) d_Mo_happen_153 q_11_111 (sh_130 n0) (by decide) (by decide) (rc_130) rfl ?_
      rw [u2_k _ _ (by decide), hoc]
      refine b_ifd (pc2 := 198) d_Mo_happen_156 rfl rfl rfl rfl rfl (fun h156 => ?_) (fun h156 => ?_)
      · exact absurd h156 (by decide)
      refine b_aln (pc2 := 160) d_Mo_happen_159 rfl rfl ?_
      refine b_pure (pc2 := 161) d_Mo_happen_160 rfl rfl rfl ?_
      refine b_gi (pc2 := 164) d_Mo_happen_161 q_11_143 (sh_130 n0) (by decide) (by decide) (rc_130) rfl ?_
      rw [u2_k _ _ (by decide), hwt]
      refine b_ic (pc2 := 165) (x := Int32.ofNat 1) d_Mo_happen_164 rfl rfl ?_
      refine b_pure (pc2 := 166) d_Mo_happen_165 rfl rfl rfl ?_
      rw [i_add]
      refine b_pi (pc2 := 169) d_Mo_happen_166 q_11_143 (sh_130 n0) (by decide) (Or.inl (by decide)) (Or.inl rfl) (rc_130) rfl ?_
      refine b_aln (pc2 := 170) d_Mo_happen_169 rfl rfl ?_
      refine b_aln (pc2 := 171) d_Mo_happen_170 rfl rfl ?_
      refine b_gi (pc2 := 174) d_Mo_happen_171 q_11_283 (sh_130 n0) (by decide) (by decide) (rc_130) rfl ?_
      rw [u2_k _ _ (by decide), u2_at]
      refine b_ifd (pc2 := 181) d_Mo_happen_174 rfl rfl rfl rfl rfl (fun h174 => ?_) (fun h174 => ?_)
      · exact absurd h174 (by decide)
      have e2 : oc = 4 := by rw [hoe, if_pos rfl]
      subst e2
      refine b_ic (pc2 := 178) (x := Int32.ofNat 4) d_Mo_happen_177 rfl rfl ?_
      refine b_go (pc2 := 195) d_Mo_happen_178 rfl ?_
      refine b_pi (pc2 := 198) d_Mo_happen_195 q_11_111 (sh_130 n0) (by decide) (Or.inl (by decide)) (Or.inl rfl) (rc_130) rfl ?_
      refine b_il (pc2 := 200) d_Mo_happen_198 rfl rfl ?_
      refine b_ifd (pc2 := 207) d_Mo_happen_200 rfl rfl rfl rfl rfl (fun h200 => ?_) (fun h200 => ?_)
      rotate_left
      · exact absurd (by decide) h200
      refine b_ic (pc2 := 208) (x := Int32.ofNat 0) d_Mo_happen_207 rfl rfl ?_
      refine b_il (pc2 := 210) d_Mo_happen_208 rfl rfl ?_
      refine b_ifd (pc2 := 217) d_Mo_happen_210 rfl rfl rfl rfl rfl (fun h210 => ?_) (fun h210 => ?_)
      rotate_left
      · exact absurd (by decide) h210
      refine b_ic (pc2 := 218) (x := Int32.ofNat 0) d_Mo_happen_217 rfl rfl ?_
      refine b_pure (pc2 := 219) d_Mo_happen_218 rfl rfl rfl ?_
      rw [i_add]
      refine b_ir d_Mo_happen_219 rfl ?_
      exact ⟨rfl, rfl, rfl, rfl, rfl⟩
theorem hp_i1 {e : Nat} {m0 m1 dn : Nat} (hm0 : J 135 0 = Int32.ofNat m0) (hm02 : m0 < 100) (hm1 : J 135 1 = Int32.ofNat m1) (hm12 : m1 < 100) (hdn : dn = if m0 = 6 ∨ m1 = 6 then 1 else 0) {op oc : Nat} (hop : J 130 45 = Int32.ofNat op) (hop2 : op ≤ 7) (hoc : J 130 47 = Int32.ofNat oc) (hoc2 : oc ≤ 4) (hx : op = 0 ∨ ¬ oc = 0) : bT e (S0 n0) R0 mt_Mo_happen (bR (some (.int (Int32.ofNat 1))) W (am_u2 J 130 7 (Int32.ofNat dn)) g L) 114 [(0, .ref 130), (6, .int (Int32.ofNat 1)), (7, .int (Int32.ofNat 0))] [] W J g L 0 0 := by
  refine b_aln (pc2 := 115) d_Mo_happen_114 rfl rfl ?_
  refine b_aln (pc2 := 116) d_Mo_happen_115 rfl rfl ?_
  refine b_gr (pc2 := 119) d_Mo_happen_116 q_11_27 (sh_130 n0) (by decide) (by decide) (p_130_12 n0) rfl ?_
  refine b_ic (pc2 := 120) (x := Int32.ofNat 0) d_Mo_happen_119 rfl rfl ?_
  refine b_ia (pc2 := 121) (q := 0) d_Mo_happen_120 (sh_135 n0) (i_in (i := 0) (by decide) (by decide)) (rfl) (rc_135) rfl ?_
  rw [hm0]
  refine b_bp (pc2 := 123) (x := Int32.ofNat 6) d_Mo_happen_121 rfl rfl ?_
  refine b_ifd (pc2 := 137) d_Mo_happen_123 rfl rfl rfl rfl rfl (fun h123 => ?_) (fun h123 => ?_)
  · rw [i_eq (by omega) (by omega)] at h123
    have e1 : dn = 1 := by rw [hdn, if_pos (by omega)]
    subst e1
    refine b_ic (pc2 := 138) (x := Int32.ofNat 1) d_Mo_happen_137 rfl rfl ?_
    refine b_go (pc2 := 142) d_Mo_happen_138 rfl ?_
    refine b_pi (pc2 := 145) d_Mo_happen_142 q_11_283 (sh_130 n0) (by decide) (Or.inl (by decide)) (Or.inr ⟨rfl, by decide⟩) (rc_130) rfl ?_
    refine b_aln (pc2 := 146) d_Mo_happen_145 rfl rfl ?_
    refine b_gi (pc2 := 149) d_Mo_happen_146 q_11_235 (sh_130 n0) (by decide) (by decide) (rc_130) rfl ?_
    rw [u2_k _ _ (by decide), hop]
    refine b_ifd (pc2 := 198) d_Mo_happen_149 rfl rfl rfl rfl rfl (fun h149 => ?_) (fun h149 => ?_)
    · rw [z_le (by omega)] at h149
      refine b_il (pc2 := 200) d_Mo_happen_198 rfl rfl ?_
      refine b_ifd (pc2 := 207) d_Mo_happen_200 rfl rfl rfl rfl rfl (fun h200 => ?_) (fun h200 => ?_)
      · exact absurd h200 (by decide)
      refine b_ic (pc2 := 204) (x := Int32.ofNat 1) d_Mo_happen_203 rfl rfl ?_
      refine b_go (pc2 := 208) d_Mo_happen_204 rfl ?_
      refine b_il (pc2 := 210) d_Mo_happen_208 rfl rfl ?_
      refine b_ifd (pc2 := 217) d_Mo_happen_210 rfl rfl rfl rfl rfl (fun h210 => ?_) (fun h210 => ?_)
      rotate_left
      · exact absurd (by decide) h210
      refine b_ic (pc2 := 218) (x := Int32.ofNat 0) d_Mo_happen_217 rfl rfl ?_
      refine b_pure (pc2 := 219) d_Mo_happen_218 rfl rfl rfl ?_
      rw [i_add]
      refine b_ir d_Mo_happen_219 rfl ?_
      exact ⟨rfl, rfl, rfl, rfl, rfl⟩
    · rw [z_le (by omega)] at h149
      refine b_aln (pc2 := 153) d_Mo_happen_152 rfl rfl ?_
      refine b_gi (pc2 := 156) d_Mo_happen_153 q_11_111 (sh_130 n0) (by decide) (by decide) (rc_130) rfl ?_
      rw [u2_k _ _ (by decide), hoc]
      refine b_ifd (pc2 := 198) d_Mo_happen_156 rfl rfl rfl rfl rfl (fun h156 => ?_) (fun h156 => ?_)
      · rw [z_eq (by omega)] at h156
        refine b_il (pc2 := 200) d_Mo_happen_198 rfl rfl ?_
        refine b_ifd (pc2 := 207) d_Mo_happen_200 rfl rfl rfl rfl rfl (fun h200 => ?_) (fun h200 => ?_)
        · exact absurd h200 (by decide)
        refine b_ic (pc2 := 204) (x := Int32.ofNat 1) d_Mo_happen_203 rfl rfl ?_
        refine b_go (pc2 := 208) d_Mo_happen_204 rfl ?_
        refine b_il (pc2 := 210) d_Mo_happen_208 rfl rfl ?_
        refine b_ifd (pc2 := 217) d_Mo_happen_210 rfl rfl rfl rfl rfl (fun h210 => ?_) (fun h210 => ?_)
        rotate_left
        · exact absurd (by decide) h210
        refine b_ic (pc2 := 218) (x := Int32.ofNat 0) d_Mo_happen_217 rfl rfl ?_
        refine b_pure (pc2 := 219) d_Mo_happen_218 rfl rfl rfl ?_
        rw [i_add]
        refine b_ir d_Mo_happen_219 rfl ?_
        exact ⟨rfl, rfl, rfl, rfl, rfl⟩
      · rw [z_eq (by omega)] at h156
        omega
  · rw [i_eq (by omega) (by omega)] at h123
    refine b_aln (pc2 := 127) d_Mo_happen_126 rfl rfl ?_
    refine b_gr (pc2 := 130) d_Mo_happen_127 q_11_27 (sh_130 n0) (by decide) (by decide) (p_130_12 n0) rfl ?_
    refine b_ic (pc2 := 131) (x := Int32.ofNat 1) d_Mo_happen_130 rfl rfl ?_
    refine b_ia (pc2 := 132) (q := 1) d_Mo_happen_131 (sh_135 n0) (i_in (i := 1) (by decide) (by decide)) (rfl) (rc_135) rfl ?_
    rw [hm1]
    refine b_bp (pc2 := 134) (x := Int32.ofNat 6) d_Mo_happen_132 rfl rfl ?_
    refine b_ifd (pc2 := 141) d_Mo_happen_134 rfl rfl rfl rfl rfl (fun h134 => ?_) (fun h134 => ?_)
    · rw [i_eq (by omega) (by omega)] at h134
      have e1 : dn = 0 := by rw [hdn, if_neg (by omega)]
      subst e1
      refine b_ic (pc2 := 142) (x := Int32.ofNat 0) d_Mo_happen_141 rfl rfl ?_
      refine b_pi (pc2 := 145) d_Mo_happen_142 q_11_283 (sh_130 n0) (by decide) (Or.inl (by decide)) (Or.inr ⟨rfl, by decide⟩) (rc_130) rfl ?_
      refine b_aln (pc2 := 146) d_Mo_happen_145 rfl rfl ?_
      refine b_gi (pc2 := 149) d_Mo_happen_146 q_11_235 (sh_130 n0) (by decide) (by decide) (rc_130) rfl ?_
      rw [u2_k _ _ (by decide), hop]
      refine b_ifd (pc2 := 198) d_Mo_happen_149 rfl rfl rfl rfl rfl (fun h149 => ?_) (fun h149 => ?_)
      · rw [z_le (by omega)] at h149
        refine b_il (pc2 := 200) d_Mo_happen_198 rfl rfl ?_
        refine b_ifd (pc2 := 207) d_Mo_happen_200 rfl rfl rfl rfl rfl (fun h200 => ?_) (fun h200 => ?_)
        · exact absurd h200 (by decide)
        refine b_ic (pc2 := 204) (x := Int32.ofNat 1) d_Mo_happen_203 rfl rfl ?_
        refine b_go (pc2 := 208) d_Mo_happen_204 rfl ?_
        refine b_il (pc2 := 210) d_Mo_happen_208 rfl rfl ?_
        refine b_ifd (pc2 := 217) d_Mo_happen_210 rfl rfl rfl rfl rfl (fun h210 => ?_) (fun h210 => ?_)
        rotate_left
        · exact absurd (by decide) h210
        refine b_ic (pc2 := 218) (x := Int32.ofNat 0) d_Mo_happen_217 rfl rfl ?_
        refine b_pure (pc2 := 219) d_Mo_happen_218 rfl rfl rfl ?_
        rw [i_add]
        refine b_ir d_Mo_happen_219 rfl ?_
        exact ⟨rfl, rfl, rfl, rfl, rfl⟩
      · rw [z_le (by omega)] at h149
        refine b_aln (pc2 := 153) d_Mo_happen_152 rfl rfl ?_
        refine b_gi (pc2 := 156) d_Mo_happen_153 q_11_111 (sh_130 n0) (by decide) (by decide) (rc_130) rfl ?_
        rw [u2_k _ _ (by decide), hoc]
        refine b_ifd (pc2 := 198) d_Mo_happen_156 rfl rfl rfl rfl rfl (fun h156 => ?_) (fun h156 => ?_)
        · rw [z_eq (by omega)] at h156
          refine b_il (pc2 := 200) d_Mo_happen_198 rfl rfl ?_
          refine b_ifd (pc2 := 207) d_Mo_happen_200 rfl rfl rfl rfl rfl (fun h200 => ?_) (fun h200 => ?_)
          · exact absurd h200 (by decide)
          refine b_ic (pc2 := 204) (x := Int32.ofNat 1) d_Mo_happen_203 rfl rfl ?_
          refine b_go (pc2 := 208) d_Mo_happen_204 rfl ?_
          refine b_il (pc2 := 210) d_Mo_happen_208 rfl rfl ?_
          refine b_ifd (pc2 := 217) d_Mo_happen_210 rfl rfl rfl rfl rfl (fun h210 => ?_) (fun h210 => ?_)
          rotate_left
          · exact absurd (by decide) h210
          refine b_ic (pc2 := 218) (x := Int32.ofNat 0) d_Mo_happen_217 rfl rfl ?_
          refine b_pure (pc2 := 219) d_Mo_happen_218 rfl rfl rfl ?_
          rw [i_add]
          refine b_ir d_Mo_happen_219 rfl ?_
          exact ⟨rfl, rfl, rfl, rfl, rfl⟩
        · rw [z_eq (by omega)] at h156
          omega
    · rw [i_eq (by omega) (by omega)] at h134
      have e1 : dn = 1 := by rw [hdn, if_pos (by omega)]
      subst e1
      refine b_ic (pc2 := 138) (x := Int32.ofNat 1) d_Mo_happen_137 rfl rfl ?_
      refine b_go (pc2 := 142) d_Mo_happen_138 rfl ?_
      refine b_pi (pc2 := 145) d_Mo_happen_142 q_11_283 (sh_130 n0) (by decide) (Or.inl (by decide)) (Or.inr ⟨rfl, by decide⟩) (rc_130) rfl ?_
      refine b_aln (pc2 := 146) d_Mo_happen_145 rfl rfl ?_
      refine b_gi (pc2 := 149) d_Mo_happen_146 q_11_235 (sh_130 n0) (by decide) (by decide) (rc_130) rfl ?_
      rw [u2_k _ _ (by decide), hop]
      refine b_ifd (pc2 := 198) d_Mo_happen_149 rfl rfl rfl rfl rfl (fun h149 => ?_) (fun h149 => ?_)
      · rw [z_le (by omega)] at h149
        refine b_il (pc2 := 200) d_Mo_happen_198 rfl rfl ?_
        refine b_ifd (pc2 := 207) d_Mo_happen_200 rfl rfl rfl rfl rfl (fun h200 => ?_) (fun h200 => ?_)
        · exact absurd h200 (by decide)
        refine b_ic (pc2 := 204) (x := Int32.ofNat 1) d_Mo_happen_203 rfl rfl ?_
        refine b_go (pc2 := 208) d_Mo_happen_204 rfl ?_
        refine b_il (pc2 := 210) d_Mo_happen_208 rfl rfl ?_
        refine b_ifd (pc2 := 217) d_Mo_happen_210 rfl rfl rfl rfl rfl (fun h210 => ?_) (fun h210 => ?_)
        rotate_left
        · exact absurd (by decide) h210
        refine b_ic (pc2 := 218) (x := Int32.ofNat 0) d_Mo_happen_217 rfl rfl ?_
        refine b_pure (pc2 := 219) d_Mo_happen_218 rfl rfl rfl ?_
        rw [i_add]
        refine b_ir d_Mo_happen_219 rfl ?_
        exact ⟨rfl, rfl, rfl, rfl, rfl⟩
      · rw [z_le (by omega)] at h149
        refine b_aln (pc2 := 153) d_Mo_happen_152 rfl rfl ?_
        refine b_gi (pc2 := 156) d_Mo_happen_153 q_11_111 (sh_130 n0) (by decide) (by decide) (rc_130) rfl ?_
        rw [u2_k _ _ (by decide), hoc]
        refine b_ifd (pc2 := 198) d_Mo_happen_156 rfl rfl rfl rfl rfl (fun h156 => ?_) (fun h156 => ?_)
        · rw [z_eq (by omega)] at h156
          refine b_il (pc2 := 200) d_Mo_happen_198 rfl rfl ?_
          refine b_ifd (pc2 := 207) d_Mo_happen_200 rfl rfl rfl rfl rfl (fun h200 => ?_) (fun h200 => ?_)
          · exact absurd h200 (by decide)
          refine b_ic (pc2 := 204) (x := Int32.ofNat 1) d_Mo_happen_203 rfl rfl ?_
          refine b_go (pc2 := 208) d_Mo_happen_204 rfl ?_
          refine b_il (pc2 := 210) d_Mo_happen_208 rfl rfl ?_
          refine b_ifd (pc2 := 217) d_Mo_happen_210 rfl rfl rfl rfl rfl (fun h210 => ?_) (fun h210 => ?_)
          rotate_left
          · exact absurd (by decide) h210
          refine b_ic (pc2 := 218) (x := Int32.ofNat 0) d_Mo_happen_217 rfl rfl ?_
          refine b_pure (pc2 := 219) d_Mo_happen_218 rfl rfl rfl ?_
          rw [i_add]
          refine b_ir d_Mo_happen_219 rfl ?_
          exact ⟨rfl, rfl, rfl, rfl, rfl⟩
        · rw [z_eq (by omega)] at h156
          omega
theorem hp_b1 {e : Nat} {m0 m1 dn : Nat} (hm0 : J 135 0 = Int32.ofNat m0) (hm02 : m0 < 100) (hm1 : J 135 1 = Int32.ofNat m1) (hm12 : m1 < 100) (hdn : dn = if m0 = 6 ∨ m1 = 6 then 1 else 0) {op oc wt : Nat} (hop : J 130 45 = Int32.ofNat op) (hop1 : 1 ≤ op) (hop2 : op ≤ 7) (hoc : J 130 47 = Int32.ofNat 0) (hwt : J 130 49 = Int32.ofNat wt) (hwt2 : wt < 100) (hoe : oc = if dn = 1 then 4 else if wt + 1 = 30 then 3 else 0) : bT e (S0 n0) R0 mt_Mo_happen (bR (some (.int (Int32.ofNat 1))) W (am_u2 (am_u2 (am_u2 J 130 7 (Int32.ofNat dn)) 130 49 (Int32.ofNat (wt + 1))) 130 47 (Int32.ofNat oc)) g L) 114 [(0, .ref 130), (6, .int (Int32.ofNat 1)), (7, .int (Int32.ofNat 0))] [] W J g L 0 0 := by
  refine b_aln (pc2 := 115) d_Mo_happen_114 rfl rfl ?_
  refine b_aln (pc2 := 116) d_Mo_happen_115 rfl rfl ?_
  refine b_gr (pc2 := 119) d_Mo_happen_116 q_11_27 (sh_130 n0) (by decide) (by decide) (p_130_12 n0) rfl ?_
  refine b_ic (pc2 := 120) (x := Int32.ofNat 0) d_Mo_happen_119 rfl rfl ?_
  refine b_ia (pc2 := 121) (q := 0) d_Mo_happen_120 (sh_135 n0) (i_in (i := 0) (by decide) (by decide)) (rfl) (rc_135) rfl ?_
  rw [hm0]
  refine b_bp (pc2 := 123) (x := Int32.ofNat 6) d_Mo_happen_121 rfl rfl ?_
  refine b_ifd (pc2 := 137) d_Mo_happen_123 rfl rfl rfl rfl rfl (fun h123 => ?_) (fun h123 => ?_)
  · rw [i_eq (by omega) (by omega)] at h123
    have e1 : dn = 1 := by rw [hdn, if_pos (by omega)]
    subst e1
    refine b_ic (pc2 := 138) (x := Int32.ofNat 1) d_Mo_happen_137 rfl rfl ?_
    refine b_go (pc2 := 142) d_Mo_happen_138 rfl ?_
    refine b_pi (pc2 := 145) d_Mo_happen_142 q_11_283 (sh_130 n0) (by decide) (Or.inl (by decide)) (Or.inr ⟨rfl, by decide⟩) (rc_130) rfl ?_
    refine b_aln (pc2 := 146) d_Mo_happen_145 rfl rfl ?_
    refine b_gi (pc2 := 149) d_Mo_happen_146 q_11_235 (sh_130 n0) (by decide) (by decide) (rc_130) rfl ?_
    rw [u2_k _ _ (by decide), hop]
    refine b_ifd (pc2 := 198) d_Mo_happen_149 rfl rfl rfl rfl rfl (fun h149 => ?_) (fun h149 => ?_)
    · exact absurd h149 (fun z => by rw [z_le (by omega)] at z; omega)
    refine b_aln (pc2 := 153) d_Mo_happen_152 rfl rfl ?_
    refine b_gi (pc2 := 156) d_Mo_happen_153 q_11_111 (sh_130 n0) (by decide) (by decide) (rc_130) rfl ?_
    rw [u2_k _ _ (by decide), hoc]
    refine b_ifd (pc2 := 198) d_Mo_happen_156 rfl rfl rfl rfl rfl (fun h156 => ?_) (fun h156 => ?_)
    · exact absurd h156 (by decide)
    refine b_aln (pc2 := 160) d_Mo_happen_159 rfl rfl ?_
    refine b_pure (pc2 := 161) d_Mo_happen_160 rfl rfl rfl ?_
    refine b_gi (pc2 := 164) d_Mo_happen_161 q_11_143 (sh_130 n0) (by decide) (by decide) (rc_130) rfl ?_
    rw [u2_k _ _ (by decide), hwt]
    refine b_ic (pc2 := 165) (x := Int32.ofNat 1) d_Mo_happen_164 rfl rfl ?_
    refine b_pure (pc2 := 166) d_Mo_happen_165 rfl rfl rfl ?_
    rw [i_add]
    refine b_pi (pc2 := 169) d_Mo_happen_166 q_11_143 (sh_130 n0) (by decide) (Or.inl (by decide)) (Or.inl rfl) (rc_130) rfl ?_
    refine b_aln (pc2 := 170) d_Mo_happen_169 rfl rfl ?_
    refine b_aln (pc2 := 171) d_Mo_happen_170 rfl rfl ?_
    refine b_gi (pc2 := 174) d_Mo_happen_171 q_11_283 (sh_130 n0) (by decide) (by decide) (rc_130) rfl ?_
    rw [u2_k _ _ (by decide), u2_at]
    refine b_ifd (pc2 := 181) d_Mo_happen_174 rfl rfl rfl rfl rfl (fun h174 => ?_) (fun h174 => ?_)
    · exact absurd h174 (by decide)
    have e2 : oc = 4 := by rw [hoe, if_pos rfl]
    subst e2
    refine b_ic (pc2 := 178) (x := Int32.ofNat 4) d_Mo_happen_177 rfl rfl ?_
    refine b_go (pc2 := 195) d_Mo_happen_178 rfl ?_
    refine b_pi (pc2 := 198) d_Mo_happen_195 q_11_111 (sh_130 n0) (by decide) (Or.inl (by decide)) (Or.inl rfl) (rc_130) rfl ?_
    refine b_il (pc2 := 200) d_Mo_happen_198 rfl rfl ?_
    refine b_ifd (pc2 := 207) d_Mo_happen_200 rfl rfl rfl rfl rfl (fun h200 => ?_) (fun h200 => ?_)
    · exact absurd h200 (by decide)
    refine b_ic (pc2 := 204) (x := Int32.ofNat 1) d_Mo_happen_203 rfl rfl ?_
    refine b_go (pc2 := 208) d_Mo_happen_204 rfl ?_
    refine b_il (pc2 := 210) d_Mo_happen_208 rfl rfl ?_
    refine b_ifd (pc2 := 217) d_Mo_happen_210 rfl rfl rfl rfl rfl (fun h210 => ?_) (fun h210 => ?_)
    rotate_left
    · exact absurd (by decide) h210
    refine b_ic (pc2 := 218) (x := Int32.ofNat 0) d_Mo_happen_217 rfl rfl ?_
    refine b_pure (pc2 := 219) d_Mo_happen_218 rfl rfl rfl ?_
    rw [i_add]
    refine b_ir d_Mo_happen_219 rfl ?_
    exact ⟨rfl, rfl, rfl, rfl, rfl⟩
  · rw [i_eq (by omega) (by omega)] at h123
    refine b_aln (pc2 := 127) d_Mo_happen_126 rfl rfl ?_
    refine b_gr (pc2 := 130) d_Mo_happen_127 q_11_27 (sh_130 n0) (by decide) (by decide) (p_130_12 n0) rfl ?_
    refine b_ic (pc2 := 131) (x := Int32.ofNat 1) d_Mo_happen_130 rfl rfl ?_
    refine b_ia (pc2 := 132) (q := 1) d_Mo_happen_131 (sh_135 n0) (i_in (i := 1) (by decide) (by decide)) (rfl) (rc_135) rfl ?_
    rw [hm1]
    refine b_bp (pc2 := 134) (x := Int32.ofNat 6) d_Mo_happen_132 rfl rfl ?_
    refine b_ifd (pc2 := 141) d_Mo_happen_134 rfl rfl rfl rfl rfl (fun h134 => ?_) (fun h134 => ?_)
    · rw [i_eq (by omega) (by omega)] at h134
      have e1 : dn = 0 := by rw [hdn, if_neg (by omega)]
      subst e1
      refine b_ic (pc2 := 142) (x := Int32.ofNat 0) d_Mo_happen_141 rfl rfl ?_
      refine b_pi (pc2 := 145) d_Mo_happen_142 q_11_283 (sh_130 n0) (by decide) (Or.inl (by decide)) (Or.inr ⟨rfl, by decide⟩) (rc_130) rfl ?_
      refine b_aln (pc2 := 146) d_Mo_happen_145 rfl rfl ?_
      refine b_gi (pc2 := 149) d_Mo_happen_146 q_11_235 (sh_130 n0) (by decide) (by decide) (rc_130) rfl ?_
      rw [u2_k _ _ (by decide), hop]
      refine b_ifd (pc2 := 198) d_Mo_happen_149 rfl rfl rfl rfl rfl (fun h149 => ?_) (fun h149 => ?_)
      · exact absurd h149 (fun z => by rw [z_le (by omega)] at z; omega)
      refine b_aln (pc2 := 153) d_Mo_happen_152 rfl rfl ?_
      refine b_gi (pc2 := 156) d_Mo_happen_153 q_11_111 (sh_130 n0) (by decide) (by decide) (rc_130) rfl ?_
      rw [u2_k _ _ (by decide), hoc]
      refine b_ifd (pc2 := 198) d_Mo_happen_156 rfl rfl rfl rfl rfl (fun h156 => ?_) (fun h156 => ?_)
      · exact absurd h156 (by decide)
      refine b_aln (pc2 := 160) d_Mo_happen_159 rfl rfl ?_
      refine b_pure (pc2 := 161) d_Mo_happen_160 rfl rfl rfl ?_
      refine b_gi (pc2 := 164) d_Mo_happen_161 q_11_143 (sh_130 n0) (by decide) (by decide) (rc_130) rfl ?_
      rw [u2_k _ _ (by decide), hwt]
      refine b_ic (pc2 := 165) (x := Int32.ofNat 1) d_Mo_happen_164 rfl rfl ?_
      refine b_pure (pc2 := 166) d_Mo_happen_165 rfl rfl rfl ?_
      rw [i_add]
      refine b_pi (pc2 := 169) d_Mo_happen_166 q_11_143 (sh_130 n0) (by decide) (Or.inl (by decide)) (Or.inl rfl) (rc_130) rfl ?_
      refine b_aln (pc2 := 170) d_Mo_happen_169 rfl rfl ?_
      refine b_aln (pc2 := 171) d_Mo_happen_170 rfl rfl ?_
      refine b_gi (pc2 := 174) d_Mo_happen_171 q_11_283 (sh_130 n0) (by decide) (by decide) (rc_130) rfl ?_
      rw [u2_k _ _ (by decide), u2_at]
      refine b_ifd (pc2 := 181) d_Mo_happen_174 rfl rfl rfl rfl rfl (fun h174 => ?_) (fun h174 => ?_)
      rotate_left
      · exact absurd (by decide) h174
      refine b_aln (pc2 := 182) d_Mo_happen_181 rfl rfl ?_
      refine b_gi (pc2 := 185) d_Mo_happen_182 q_11_143 (sh_130 n0) (by decide) (by decide) (rc_130) rfl ?_
      rw [u2_at]
      refine b_bp (pc2 := 187) (x := Int32.ofNat 30) d_Mo_happen_185 rfl rfl ?_
      refine b_ifd (pc2 := 194) d_Mo_happen_187 rfl rfl rfl rfl rfl (fun h187 => ?_) (fun h187 => ?_)
      · rw [i_eq (by omega) (by omega)] at h187
        have e2 : oc = 0 := by rw [hoe, if_neg (by decide), if_neg (by omega)]
        subst e2
        refine b_ic (pc2 := 195) (x := Int32.ofNat 0) d_Mo_happen_194 rfl rfl ?_
        refine b_pi (pc2 := 198) d_Mo_happen_195 q_11_111 (sh_130 n0) (by decide) (Or.inl (by decide)) (Or.inl rfl) (rc_130) rfl ?_
        refine b_il (pc2 := 200) d_Mo_happen_198 rfl rfl ?_
        refine b_ifd (pc2 := 207) d_Mo_happen_200 rfl rfl rfl rfl rfl (fun h200 => ?_) (fun h200 => ?_)
        · exact absurd h200 (by decide)
        refine b_ic (pc2 := 204) (x := Int32.ofNat 1) d_Mo_happen_203 rfl rfl ?_
        refine b_go (pc2 := 208) d_Mo_happen_204 rfl ?_
        refine b_il (pc2 := 210) d_Mo_happen_208 rfl rfl ?_
        refine b_ifd (pc2 := 217) d_Mo_happen_210 rfl rfl rfl rfl rfl (fun h210 => ?_) (fun h210 => ?_)
        rotate_left
        · exact absurd (by decide) h210
        refine b_ic (pc2 := 218) (x := Int32.ofNat 0) d_Mo_happen_217 rfl rfl ?_
        refine b_pure (pc2 := 219) d_Mo_happen_218 rfl rfl rfl ?_
        rw [i_add]
        refine b_ir d_Mo_happen_219 rfl ?_
        exact ⟨rfl, rfl, rfl, rfl, rfl⟩
      · rw [i_eq (by omega) (by omega)] at h187
        have e2 : oc = 3 := by rw [hoe, if_neg (by decide), if_pos (by omega)]
        subst e2
        refine b_ic (pc2 := 191) (x := Int32.ofNat 3) d_Mo_happen_190 rfl rfl ?_
        refine b_go (pc2 := 195) d_Mo_happen_191 rfl ?_
        refine b_pi (pc2 := 198) d_Mo_happen_195 q_11_111 (sh_130 n0) (by decide) (Or.inl (by decide)) (Or.inl rfl) (rc_130) rfl ?_
        refine b_il (pc2 := 200) d_Mo_happen_198 rfl rfl ?_
        refine b_ifd (pc2 := 207) d_Mo_happen_200 rfl rfl rfl rfl rfl (fun h200 => ?_) (fun h200 => ?_)
        · exact absurd h200 (by decide)
        refine b_ic (pc2 := 204) (x := Int32.ofNat 1) d_Mo_happen_203 rfl rfl ?_
        refine b_go (pc2 := 208) d_Mo_happen_204 rfl ?_
        refine b_il (pc2 := 210) d_Mo_happen_208 rfl rfl ?_
        refine b_ifd (pc2 := 217) d_Mo_happen_210 rfl rfl rfl rfl rfl (fun h210 => ?_) (fun h210 => ?_)
        rotate_left
        · exact absurd (by decide) h210
        refine b_ic (pc2 := 218) (x := Int32.ofNat 0) d_Mo_happen_217 rfl rfl ?_
        refine b_pure (pc2 := 219) d_Mo_happen_218 rfl rfl rfl ?_
        rw [i_add]
        refine b_ir d_Mo_happen_219 rfl ?_
        exact ⟨rfl, rfl, rfl, rfl, rfl⟩
    · rw [i_eq (by omega) (by omega)] at h134
      have e1 : dn = 1 := by rw [hdn, if_pos (by omega)]
      subst e1
      refine b_ic (pc2 := 138) (x := Int32.ofNat 1) d_Mo_happen_137 rfl rfl ?_
      refine b_go (pc2 := 142) d_Mo_happen_138 rfl ?_
      refine b_pi (pc2 := 145) d_Mo_happen_142 q_11_283 (sh_130 n0) (by decide) (Or.inl (by decide)) (Or.inr ⟨rfl, by decide⟩) (rc_130) rfl ?_
      refine b_aln (pc2 := 146) d_Mo_happen_145 rfl rfl ?_
      refine b_gi (pc2 := 149) d_Mo_happen_146 q_11_235 (sh_130 n0) (by decide) (by decide) (rc_130) rfl ?_
      rw [u2_k _ _ (by decide), hop]
      refine b_ifd (pc2 := 198) d_Mo_happen_149 rfl rfl rfl rfl rfl (fun h149 => ?_) (fun h149 => ?_)
      · exact absurd h149 (fun z => by rw [z_le (by omega)] at z; omega)
      refine b_aln (pc2 := 153) d_Mo_happen_152 rfl rfl ?_
      refine b_gi (pc2 := 156) d_Mo_happen_153 q_11_111 (sh_130 n0) (by decide) (by decide) (rc_130) rfl ?_
      rw [u2_k _ _ (by decide), hoc]
      refine b_ifd (pc2 := 198) d_Mo_happen_156 rfl rfl rfl rfl rfl (fun h156 => ?_) (fun h156 => ?_)
      · exact absurd h156 (by decide)
      refine b_aln (pc2 := 160) d_Mo_happen_159 rfl rfl ?_
      refine b_pure (pc2 := 161) d_Mo_happen_160 rfl rfl rfl ?_
      refine b_gi (pc2 := 164) d_Mo_happen_161 q_11_143 (sh_130 n0) (by decide) (by decide) (rc_130) rfl ?_
      rw [u2_k _ _ (by decide), hwt]
      refine b_ic (pc2 := 165) (x := Int32.ofNat 1) d_Mo_happen_164 rfl rfl ?_
      refine b_pure (pc2 := 166) d_Mo_happen_165 rfl rfl rfl ?_
      rw [i_add]
      refine b_pi (pc2 := 169) d_Mo_happen_166 q_11_143 (sh_130 n0) (by decide) (Or.inl (by decide)) (Or.inl rfl) (rc_130) rfl ?_
      refine b_aln (pc2 := 170) d_Mo_happen_169 rfl rfl ?_
      refine b_aln (pc2 := 171) d_Mo_happen_170 rfl rfl ?_
      refine b_gi (pc2 := 174) d_Mo_happen_171 q_11_283 (sh_130 n0) (by decide) (by decide) (rc_130) rfl ?_
      rw [u2_k _ _ (by decide), u2_at]
      refine b_ifd (pc2 := 181) d_Mo_happen_174 rfl rfl rfl rfl rfl (fun h174 => ?_) (fun h174 => ?_)
      · exact absurd h174 (by decide)
      have e2 : oc = 4 := by rw [hoe, if_pos rfl]
      subst e2
      refine b_ic (pc2 := 178) (x := Int32.ofNat 4) d_Mo_happen_177 rfl rfl ?_
      refine b_go (pc2 := 195) d_Mo_happen_178 rfl ?_
      refine b_pi (pc2 := 198) d_Mo_happen_195 q_11_111 (sh_130 n0) (by decide) (Or.inl (by decide)) (Or.inl rfl) (rc_130) rfl ?_
      refine b_il (pc2 := 200) d_Mo_happen_198 rfl rfl ?_
      refine b_ifd (pc2 := 207) d_Mo_happen_200 rfl rfl rfl rfl rfl (fun h200 => ?_) (fun h200 => ?_)
      · exact absurd h200 (by decide)
      refine b_ic (pc2 := 204) (x := Int32.ofNat 1) d_Mo_happen_203 rfl rfl ?_
      refine b_go (pc2 := 208) d_Mo_happen_204 rfl ?_
      refine b_il (pc2 := 210) d_Mo_happen_208 rfl rfl ?_
      refine b_ifd (pc2 := 217) d_Mo_happen_210 rfl rfl rfl rfl rfl (fun h210 => ?_) (fun h210 => ?_)
      rotate_left
      · exact absurd (by decide) h210
      refine b_ic (pc2 := 218) (x := Int32.ofNat 0) d_Mo_happen_217 rfl rfl ?_
      refine b_pure (pc2 := 219) d_Mo_happen_218 rfl rfl rfl ?_
      rw [i_add]
      refine b_ir d_Mo_happen_219 rfl ?_
      exact ⟨rfl, rfl, rfl, rfl, rfl⟩
theorem hp_i3 {e : Nat} {m0 m1 dn : Nat} (hm0 : J 135 0 = Int32.ofNat m0) (hm02 : m0 < 100) (hm1 : J 135 1 = Int32.ofNat m1) (hm12 : m1 < 100) (hdn : dn = if m0 = 6 ∨ m1 = 6 then 1 else 0) {op oc : Nat} (hop : J 130 45 = Int32.ofNat op) (hop2 : op ≤ 7) (hoc : J 130 47 = Int32.ofNat oc) (hoc2 : oc ≤ 4) (hx : op = 0 ∨ ¬ oc = 0) : bT e (S0 n0) R0 mt_Mo_happen (bR (some (.int (Int32.ofNat 3))) W (am_u2 J 130 7 (Int32.ofNat dn)) g L) 114 [(0, .ref 130), (6, .int (Int32.ofNat 1)), (7, .int (Int32.ofNat 1))] [] W J g L 0 0 := by
  refine b_aln (pc2 := 115) d_Mo_happen_114 rfl rfl ?_
  refine b_aln (pc2 := 116) d_Mo_happen_115 rfl rfl ?_
  refine b_gr (pc2 := 119) d_Mo_happen_116 q_11_27 (sh_130 n0) (by decide) (by decide) (p_130_12 n0) rfl ?_
  refine b_ic (pc2 := 120) (x := Int32.ofNat 0) d_Mo_happen_119 rfl rfl ?_
  refine b_ia (pc2 := 121) (q := 0) d_Mo_happen_120 (sh_135 n0) (i_in (i := 0) (by decide) (by decide)) (rfl) (rc_135) rfl ?_
  rw [hm0]
  refine b_bp (pc2 := 123) (x := Int32.ofNat 6) d_Mo_happen_121 rfl rfl ?_
  refine b_ifd (pc2 := 137) d_Mo_happen_123 rfl rfl rfl rfl rfl (fun h123 => ?_) (fun h123 => ?_)
  · rw [i_eq (by omega) (by omega)] at h123
    have e1 : dn = 1 := by rw [hdn, if_pos (by omega)]
    subst e1
    refine b_ic (pc2 := 138) (x := Int32.ofNat 1) d_Mo_happen_137 rfl rfl ?_
    refine b_go (pc2 := 142) d_Mo_happen_138 rfl ?_
    refine b_pi (pc2 := 145) d_Mo_happen_142 q_11_283 (sh_130 n0) (by decide) (Or.inl (by decide)) (Or.inr ⟨rfl, by decide⟩) (rc_130) rfl ?_
    refine b_aln (pc2 := 146) d_Mo_happen_145 rfl rfl ?_
    refine b_gi (pc2 := 149) d_Mo_happen_146 q_11_235 (sh_130 n0) (by decide) (by decide) (rc_130) rfl ?_
    rw [u2_k _ _ (by decide), hop]
    refine b_ifd (pc2 := 198) d_Mo_happen_149 rfl rfl rfl rfl rfl (fun h149 => ?_) (fun h149 => ?_)
    · rw [z_le (by omega)] at h149
      refine b_il (pc2 := 200) d_Mo_happen_198 rfl rfl ?_
      refine b_ifd (pc2 := 207) d_Mo_happen_200 rfl rfl rfl rfl rfl (fun h200 => ?_) (fun h200 => ?_)
      · exact absurd h200 (by decide)
      refine b_ic (pc2 := 204) (x := Int32.ofNat 1) d_Mo_happen_203 rfl rfl ?_
      refine b_go (pc2 := 208) d_Mo_happen_204 rfl ?_
      refine b_il (pc2 := 210) d_Mo_happen_208 rfl rfl ?_
      refine b_ifd (pc2 := 217) d_Mo_happen_210 rfl rfl rfl rfl rfl (fun h210 => ?_) (fun h210 => ?_)
      · exact absurd h210 (by decide)
      refine b_ic (pc2 := 214) (x := Int32.ofNat 2) d_Mo_happen_213 rfl rfl ?_
      refine b_go (pc2 := 218) d_Mo_happen_214 rfl ?_
      refine b_pure (pc2 := 219) d_Mo_happen_218 rfl rfl rfl ?_
      rw [i_add]
      refine b_ir d_Mo_happen_219 rfl ?_
      exact ⟨rfl, rfl, rfl, rfl, rfl⟩
    · rw [z_le (by omega)] at h149
      refine b_aln (pc2 := 153) d_Mo_happen_152 rfl rfl ?_
      refine b_gi (pc2 := 156) d_Mo_happen_153 q_11_111 (sh_130 n0) (by decide) (by decide) (rc_130) rfl ?_
      rw [u2_k _ _ (by decide), hoc]
      refine b_ifd (pc2 := 198) d_Mo_happen_156 rfl rfl rfl rfl rfl (fun h156 => ?_) (fun h156 => ?_)
      · rw [z_eq (by omega)] at h156
        refine b_il (pc2 := 200) d_Mo_happen_198 rfl rfl ?_
        refine b_ifd (pc2 := 207) d_Mo_happen_200 rfl rfl rfl rfl rfl (fun h200 => ?_) (fun h200 => ?_)
        · exact absurd h200 (by decide)
        refine b_ic (pc2 := 204) (x := Int32.ofNat 1) d_Mo_happen_203 rfl rfl ?_
        refine b_go (pc2 := 208) d_Mo_happen_204 rfl ?_
        refine b_il (pc2 := 210) d_Mo_happen_208 rfl rfl ?_
        refine b_ifd (pc2 := 217) d_Mo_happen_210 rfl rfl rfl rfl rfl (fun h210 => ?_) (fun h210 => ?_)
        · exact absurd h210 (by decide)
        refine b_ic (pc2 := 214) (x := Int32.ofNat 2) d_Mo_happen_213 rfl rfl ?_
        refine b_go (pc2 := 218) d_Mo_happen_214 rfl ?_
        refine b_pure (pc2 := 219) d_Mo_happen_218 rfl rfl rfl ?_
        rw [i_add]
        refine b_ir d_Mo_happen_219 rfl ?_
        exact ⟨rfl, rfl, rfl, rfl, rfl⟩
      · rw [z_eq (by omega)] at h156
        omega
  · rw [i_eq (by omega) (by omega)] at h123
    refine b_aln (pc2 := 127) d_Mo_happen_126 rfl rfl ?_
    refine b_gr (pc2 := 130) d_Mo_happen_127 q_11_27 (sh_130 n0) (by decide) (by decide) (p_130_12 n0) rfl ?_
    refine b_ic (pc2 := 131) (x := Int32.ofNat 1) d_Mo_happen_130 rfl rfl ?_
    refine b_ia (pc2 := 132) (q := 1) d_Mo_happen_131 (sh_135 n0) (i_in (i := 1) (by decide) (by decide)) (rfl) (rc_135) rfl ?_
    rw [hm1]
    refine b_bp (pc2 := 134) (x := Int32.ofNat 6) d_Mo_happen_132 rfl rfl ?_
    refine b_ifd (pc2 := 141) d_Mo_happen_134 rfl rfl rfl rfl rfl (fun h134 => ?_) (fun h134 => ?_)
    · rw [i_eq (by omega) (by omega)] at h134
      have e1 : dn = 0 := by rw [hdn, if_neg (by omega)]
      subst e1
      refine b_ic (pc2 := 142) (x := Int32.ofNat 0) d_Mo_happen_141 rfl rfl ?_
      refine b_pi (pc2 := 145) d_Mo_happen_142 q_11_283 (sh_130 n0) (by decide) (Or.inl (by decide)) (Or.inr ⟨rfl, by decide⟩) (rc_130) rfl ?_
      refine b_aln (pc2 := 146) d_Mo_happen_145 rfl rfl ?_
      refine b_gi (pc2 := 149) d_Mo_happen_146 q_11_235 (sh_130 n0) (by decide) (by decide) (rc_130) rfl ?_
      rw [u2_k _ _ (by decide), hop]
      refine b_ifd (pc2 := 198) d_Mo_happen_149 rfl rfl rfl rfl rfl (fun h149 => ?_) (fun h149 => ?_)
      · rw [z_le (by omega)] at h149
        refine b_il (pc2 := 200) d_Mo_happen_198 rfl rfl ?_
        refine b_ifd (pc2 := 207) d_Mo_happen_200 rfl rfl rfl rfl rfl (fun h200 => ?_) (fun h200 => ?_)
        · exact absurd h200 (by decide)
        refine b_ic (pc2 := 204) (x := Int32.ofNat 1) d_Mo_happen_203 rfl rfl ?_
        refine b_go (pc2 := 208) d_Mo_happen_204 rfl ?_
        refine b_il (pc2 := 210) d_Mo_happen_208 rfl rfl ?_
        refine b_ifd (pc2 := 217) d_Mo_happen_210 rfl rfl rfl rfl rfl (fun h210 => ?_) (fun h210 => ?_)
        · exact absurd h210 (by decide)
        refine b_ic (pc2 := 214) (x := Int32.ofNat 2) d_Mo_happen_213 rfl rfl ?_
        refine b_go (pc2 := 218) d_Mo_happen_214 rfl ?_
        refine b_pure (pc2 := 219) d_Mo_happen_218 rfl rfl rfl ?_
        rw [i_add]
        refine b_ir d_Mo_happen_219 rfl ?_
        exact ⟨rfl, rfl, rfl, rfl, rfl⟩
      · rw [z_le (by omega)] at h149
        refine b_aln (pc2 := 153) d_Mo_happen_152 rfl rfl ?_
        refine b_gi (pc2 := 156) d_Mo_happen_153 q_11_111 (sh_130 n0) (by decide) (by decide) (rc_130) rfl ?_
        rw [u2_k _ _ (by decide), hoc]
        refine b_ifd (pc2 := 198) d_Mo_happen_156 rfl rfl rfl rfl rfl (fun h156 => ?_) (fun h156 => ?_)
        · rw [z_eq (by omega)] at h156
          refine b_il (pc2 := 200) d_Mo_happen_198 rfl rfl ?_
          refine b_ifd (pc2 := 207) d_Mo_happen_200 rfl rfl rfl rfl rfl (fun h200 => ?_) (fun h200 => ?_)
          · exact absurd h200 (by decide)
          refine b_ic (pc2 := 204) (x := Int32.ofNat 1) d_Mo_happen_203 rfl rfl ?_
          refine b_go (pc2 := 208) d_Mo_happen_204 rfl ?_
          refine b_il (pc2 := 210) d_Mo_happen_208 rfl rfl ?_
          refine b_ifd (pc2 := 217) d_Mo_happen_210 rfl rfl rfl rfl rfl (fun h210 => ?_) (fun h210 => ?_)
          · exact absurd h210 (by decide)
          refine b_ic (pc2 := 214) (x := Int32.ofNat 2) d_Mo_happen_213 rfl rfl ?_
          refine b_go (pc2 := 218) d_Mo_happen_214 rfl ?_
          refine b_pure (pc2 := 219) d_Mo_happen_218 rfl rfl rfl ?_
          rw [i_add]
          refine b_ir d_Mo_happen_219 rfl ?_
          exact ⟨rfl, rfl, rfl, rfl, rfl⟩
        · rw [z_eq (by omega)] at h156
          omega
    · rw [i_eq (by omega) (by omega)] at h134
      have e1 : dn = 1 := by rw [hdn, if_pos (by omega)]
      subst e1
      refine b_ic (pc2 := 138) (x := Int32.ofNat 1) d_Mo_happen_137 rfl rfl ?_
      refine b_go (pc2 := 142) d_Mo_happen_138 rfl ?_
      refine b_pi (pc2 := 145) d_Mo_happen_142 q_11_283 (sh_130 n0) (by decide) (Or.inl (by decide)) (Or.inr ⟨rfl, by decide⟩) (rc_130) rfl ?_
      refine b_aln (pc2 := 146) d_Mo_happen_145 rfl rfl ?_
      refine b_gi (pc2 := 149) d_Mo_happen_146 q_11_235 (sh_130 n0) (by decide) (by decide) (rc_130) rfl ?_
      rw [u2_k _ _ (by decide), hop]
      refine b_ifd (pc2 := 198) d_Mo_happen_149 rfl rfl rfl rfl rfl (fun h149 => ?_) (fun h149 => ?_)
      · rw [z_le (by omega)] at h149
        refine b_il (pc2 := 200) d_Mo_happen_198 rfl rfl ?_
        refine b_ifd (pc2 := 207) d_Mo_happen_200 rfl rfl rfl rfl rfl (fun h200 => ?_) (fun h200 => ?_)
        · exact absurd h200 (by decide)
        refine b_ic (pc2 := 204) (x := Int32.ofNat 1) d_Mo_happen_203 rfl rfl ?_
        refine b_go (pc2 := 208) d_Mo_happen_204 rfl ?_
        refine b_il (pc2 := 210) d_Mo_happen_208 rfl rfl ?_
        refine b_ifd (pc2 := 217) d_Mo_happen_210 rfl rfl rfl rfl rfl (fun h210 => ?_) (fun h210 => ?_)
        · exact absurd h210 (by decide)
        refine b_ic (pc2 := 214) (x := Int32.ofNat 2) d_Mo_happen_213 rfl rfl ?_
        refine b_go (pc2 := 218) d_Mo_happen_214 rfl ?_
        refine b_pure (pc2 := 219) d_Mo_happen_218 rfl rfl rfl ?_
        rw [i_add]
        refine b_ir d_Mo_happen_219 rfl ?_
        exact ⟨rfl, rfl, rfl, rfl, rfl⟩
      · rw [z_le (by omega)] at h149
        refine b_aln (pc2 := 153) d_Mo_happen_152 rfl rfl ?_
        refine b_gi (pc2 := 156) d_Mo_happen_153 q_11_111 (sh_130 n0) (by decide) (by decide) (rc_130) rfl ?_
        rw [u2_k _ _ (by decide), hoc]
        refine b_ifd (pc2 := 198) d_Mo_happen_156 rfl rfl rfl rfl rfl (fun h156 => ?_) (fun h156 => ?_)
        · rw [z_eq (by omega)] at h156
          refine b_il (pc2 := 200) d_Mo_happen_198 rfl rfl ?_
          refine b_ifd (pc2 := 207) d_Mo_happen_200 rfl rfl rfl rfl rfl (fun h200 => ?_) (fun h200 => ?_)
          · exact absurd h200 (by decide)
          refine b_ic (pc2 := 204) (x := Int32.ofNat 1) d_Mo_happen_203 rfl rfl ?_
          refine b_go (pc2 := 208) d_Mo_happen_204 rfl ?_
          refine b_il (pc2 := 210) d_Mo_happen_208 rfl rfl ?_
          refine b_ifd (pc2 := 217) d_Mo_happen_210 rfl rfl rfl rfl rfl (fun h210 => ?_) (fun h210 => ?_)
          · exact absurd h210 (by decide)
          refine b_ic (pc2 := 214) (x := Int32.ofNat 2) d_Mo_happen_213 rfl rfl ?_
          refine b_go (pc2 := 218) d_Mo_happen_214 rfl ?_
          refine b_pure (pc2 := 219) d_Mo_happen_218 rfl rfl rfl ?_
          rw [i_add]
          refine b_ir d_Mo_happen_219 rfl ?_
          exact ⟨rfl, rfl, rfl, rfl, rfl⟩
        · rw [z_eq (by omega)] at h156
          omega
theorem hp_b3 {e : Nat} {m0 m1 dn : Nat} (hm0 : J 135 0 = Int32.ofNat m0) (hm02 : m0 < 100) (hm1 : J 135 1 = Int32.ofNat m1) (hm12 : m1 < 100) (hdn : dn = if m0 = 6 ∨ m1 = 6 then 1 else 0) {op oc wt : Nat} (hop : J 130 45 = Int32.ofNat op) (hop1 : 1 ≤ op) (hop2 : op ≤ 7) (hoc : J 130 47 = Int32.ofNat 0) (hwt : J 130 49 = Int32.ofNat wt) (hwt2 : wt < 100) (hoe : oc = if dn = 1 then 4 else if wt + 1 = 30 then 3 else 0) : bT e (S0 n0) R0 mt_Mo_happen (bR (some (.int (Int32.ofNat 3))) W (am_u2 (am_u2 (am_u2 J 130 7 (Int32.ofNat dn)) 130 49 (Int32.ofNat (wt + 1))) 130 47 (Int32.ofNat oc)) g L) 114 [(0, .ref 130), (6, .int (Int32.ofNat 1)), (7, .int (Int32.ofNat 1))] [] W J g L 0 0 := by
  refine b_aln (pc2 := 115) d_Mo_happen_114 rfl rfl ?_
  refine b_aln (pc2 := 116) d_Mo_happen_115 rfl rfl ?_
  refine b_gr (pc2 := 119) d_Mo_happen_116 q_11_27 (sh_130 n0) (by decide) (by decide) (p_130_12 n0) rfl ?_
  refine b_ic (pc2 := 120) (x := Int32.ofNat 0) d_Mo_happen_119 rfl rfl ?_
  refine b_ia (pc2 := 121) (q := 0) d_Mo_happen_120 (sh_135 n0) (i_in (i := 0) (by decide) (by decide)) (rfl) (rc_135) rfl ?_
  rw [hm0]
  refine b_bp (pc2 := 123) (x := Int32.ofNat 6) d_Mo_happen_121 rfl rfl ?_
  refine b_ifd (pc2 := 137) d_Mo_happen_123 rfl rfl rfl rfl rfl (fun h123 => ?_) (fun h123 => ?_)
  · rw [i_eq (by omega) (by omega)] at h123
    have e1 : dn = 1 := by rw [hdn, if_pos (by omega)]
    subst e1
    refine b_ic (pc2 := 138) (x := Int32.ofNat 1) d_Mo_happen_137 rfl rfl ?_
    refine b_go (pc2 := 142) d_Mo_happen_138 rfl ?_
    refine b_pi (pc2 := 145) d_Mo_happen_142 q_11_283 (sh_130 n0) (by decide) (Or.inl (by decide)) (Or.inr ⟨rfl, by decide⟩) (rc_130) rfl ?_
    refine b_aln (pc2 := 146) d_Mo_happen_145 rfl rfl ?_
    refine b_gi (pc2 := 149) d_Mo_happen_146 q_11_235 (sh_130 n0) (by decide) (by decide) (rc_130) rfl ?_
    rw [u2_k _ _ (by decide), hop]
    refine b_ifd (pc2 := 198) d_Mo_happen_149 rfl rfl rfl rfl rfl (fun h149 => ?_) (fun h149 => ?_)
    · exact absurd h149 (fun z => by rw [z_le (by omega)] at z; omega)
    refine b_aln (pc2 := 153) d_Mo_happen_152 rfl rfl ?_
    refine b_gi (pc2 := 156) d_Mo_happen_153 q_11_111 (sh_130 n0) (by decide) (by decide) (rc_130) rfl ?_
    rw [u2_k _ _ (by decide), hoc]
    refine b_ifd (pc2 := 198) d_Mo_happen_156 rfl rfl rfl rfl rfl (fun h156 => ?_) (fun h156 => ?_)
    · exact absurd h156 (by decide)
    refine b_aln (pc2 := 160) d_Mo_happen_159 rfl rfl ?_
    refine b_pure (pc2 := 161) d_Mo_happen_160 rfl rfl rfl ?_
    refine b_gi (pc2 := 164) d_Mo_happen_161 q_11_143 (sh_130 n0) (by decide) (by decide) (rc_130) rfl ?_
    rw [u2_k _ _ (by decide), hwt]
    refine b_ic (pc2 := 165) (x := Int32.ofNat 1) d_Mo_happen_164 rfl rfl ?_
    refine b_pure (pc2 := 166) d_Mo_happen_165 rfl rfl rfl ?_
    rw [i_add]
    refine b_pi (pc2 := 169) d_Mo_happen_166 q_11_143 (sh_130 n0) (by decide) (Or.inl (by decide)) (Or.inl rfl) (rc_130) rfl ?_
    refine b_aln (pc2 := 170) d_Mo_happen_169 rfl rfl ?_
    refine b_aln (pc2 := 171) d_Mo_happen_170 rfl rfl ?_
    refine b_gi (pc2 := 174) d_Mo_happen_171 q_11_283 (sh_130 n0) (by decide) (by decide) (rc_130) rfl ?_
    rw [u2_k _ _ (by decide), u2_at]
    refine b_ifd (pc2 := 181) d_Mo_happen_174 rfl rfl rfl rfl rfl (fun h174 => ?_) (fun h174 => ?_)
    · exact absurd h174 (by decide)
    have e2 : oc = 4 := by rw [hoe, if_pos rfl]
    subst e2
    refine b_ic (pc2 := 178) (x := Int32.ofNat 4) d_Mo_happen_177 rfl rfl ?_
    refine b_go (pc2 := 195) d_Mo_happen_178 rfl ?_
    refine b_pi (pc2 := 198) d_Mo_happen_195 q_11_111 (sh_130 n0) (by decide) (Or.inl (by decide)) (Or.inl rfl) (rc_130) rfl ?_
    refine b_il (pc2 := 200) d_Mo_happen_198 rfl rfl ?_
    refine b_ifd (pc2 := 207) d_Mo_happen_200 rfl rfl rfl rfl rfl (fun h200 => ?_) (fun h200 => ?_)
    · exact absurd h200 (by decide)
    refine b_ic (pc2 := 204) (x := Int32.ofNat 1) d_Mo_happen_203 rfl rfl ?_
    refine b_go (pc2 := 208) d_Mo_happen_204 rfl ?_
    refine b_il (pc2 := 210) d_Mo_happen_208 rfl rfl ?_
    refine b_ifd (pc2 := 217) d_Mo_happen_210 rfl rfl rfl rfl rfl (fun h210 => ?_) (fun h210 => ?_)
    · exact absurd h210 (by decide)
    refine b_ic (pc2 := 214) (x := Int32.ofNat 2) d_Mo_happen_213 rfl rfl ?_
    refine b_go (pc2 := 218) d_Mo_happen_214 rfl ?_
    refine b_pure (pc2 := 219) d_Mo_happen_218 rfl rfl rfl ?_
    rw [i_add]
    refine b_ir d_Mo_happen_219 rfl ?_
    exact ⟨rfl, rfl, rfl, rfl, rfl⟩
  · rw [i_eq (by omega) (by omega)] at h123
    refine b_aln (pc2 := 127) d_Mo_happen_126 rfl rfl ?_
    refine b_gr (pc2 := 130) d_Mo_happen_127 q_11_27 (sh_130 n0) (by decide) (by decide) (p_130_12 n0) rfl ?_
    refine b_ic (pc2 := 131) (x := Int32.ofNat 1) d_Mo_happen_130 rfl rfl ?_
    refine b_ia (pc2 := 132) (q := 1) d_Mo_happen_131 (sh_135 n0) (i_in (i := 1) (by decide) (by decide)) (rfl) (rc_135) rfl ?_
    rw [hm1]
    refine b_bp (pc2 := 134) (x := Int32.ofNat 6) d_Mo_happen_132 rfl rfl ?_
    refine b_ifd (pc2 := 141) d_Mo_happen_134 rfl rfl rfl rfl rfl (fun h134 => ?_) (fun h134 => ?_)
    · rw [i_eq (by omega) (by omega)] at h134
      have e1 : dn = 0 := by rw [hdn, if_neg (by omega)]
      subst e1
      refine b_ic (pc2 := 142) (x := Int32.ofNat 0) d_Mo_happen_141 rfl rfl ?_
      refine b_pi (pc2 := 145) d_Mo_happen_142 q_11_283 (sh_130 n0) (by decide) (Or.inl (by decide)) (Or.inr ⟨rfl, by decide⟩) (rc_130) rfl ?_
      refine b_aln (pc2 := 146) d_Mo_happen_145 rfl rfl ?_
      refine b_gi (pc2 := 149) d_Mo_happen_146 q_11_235 (sh_130 n0) (by decide) (by decide) (rc_130) rfl ?_
      rw [u2_k _ _ (by decide), hop]
      refine b_ifd (pc2 := 198) d_Mo_happen_149 rfl rfl rfl rfl rfl (fun h149 => ?_) (fun h149 => ?_)
      · exact absurd h149 (fun z => by rw [z_le (by omega)] at z; omega)
      refine b_aln (pc2 := 153) d_Mo_happen_152 rfl rfl ?_
      refine b_gi (pc2 := 156) d_Mo_happen_153 q_11_111 (sh_130 n0) (by decide) (by decide) (rc_130) rfl ?_
      rw [u2_k _ _ (by decide), hoc]
      refine b_ifd (pc2 := 198) d_Mo_happen_156 rfl rfl rfl rfl rfl (fun h156 => ?_) (fun h156 => ?_)
      · exact absurd h156 (by decide)
      refine b_aln (pc2 := 160) d_Mo_happen_159 rfl rfl ?_
      refine b_pure (pc2 := 161) d_Mo_happen_160 rfl rfl rfl ?_
      refine b_gi (pc2 := 164) d_Mo_happen_161 q_11_143 (sh_130 n0) (by decide) (by decide) (rc_130) rfl ?_
      rw [u2_k _ _ (by decide), hwt]
      refine b_ic (pc2 := 165) (x := Int32.ofNat 1) d_Mo_happen_164 rfl rfl ?_
      refine b_pure (pc2 := 166) d_Mo_happen_165 rfl rfl rfl ?_
      rw [i_add]
      refine b_pi (pc2 := 169) d_Mo_happen_166 q_11_143 (sh_130 n0) (by decide) (Or.inl (by decide)) (Or.inl rfl) (rc_130) rfl ?_
      refine b_aln (pc2 := 170) d_Mo_happen_169 rfl rfl ?_
      refine b_aln (pc2 := 171) d_Mo_happen_170 rfl rfl ?_
      refine b_gi (pc2 := 174) d_Mo_happen_171 q_11_283 (sh_130 n0) (by decide) (by decide) (rc_130) rfl ?_
      rw [u2_k _ _ (by decide), u2_at]
      refine b_ifd (pc2 := 181) d_Mo_happen_174 rfl rfl rfl rfl rfl (fun h174 => ?_) (fun h174 => ?_)
      rotate_left
      · exact absurd (by decide) h174
      refine b_aln (pc2 := 182) d_Mo_happen_181 rfl rfl ?_
      refine b_gi (pc2 := 185) d_Mo_happen_182 q_11_143 (sh_130 n0) (by decide) (by decide) (rc_130) rfl ?_
      rw [u2_at]
      refine b_bp (pc2 := 187) (x := Int32.ofNat 30) d_Mo_happen_185 rfl rfl ?_
      refine b_ifd (pc2 := 194) d_Mo_happen_187 rfl rfl rfl rfl rfl (fun h187 => ?_) (fun h187 => ?_)
      · rw [i_eq (by omega) (by omega)] at h187
        have e2 : oc = 0 := by rw [hoe, if_neg (by decide), if_neg (by omega)]
        subst e2
        refine b_ic (pc2 := 195) (x := Int32.ofNat 0) d_Mo_happen_194 rfl rfl ?_
        refine b_pi (pc2 := 198) d_Mo_happen_195 q_11_111 (sh_130 n0) (by decide) (Or.inl (by decide)) (Or.inl rfl) (rc_130) rfl ?_
        refine b_il (pc2 := 200) d_Mo_happen_198 rfl rfl ?_
        refine b_ifd (pc2 := 207) d_Mo_happen_200 rfl rfl rfl rfl rfl (fun h200 => ?_) (fun h200 => ?_)
        · exact absurd h200 (by decide)
        refine b_ic (pc2 := 204) (x := Int32.ofNat 1) d_Mo_happen_203 rfl rfl ?_
        refine b_go (pc2 := 208) d_Mo_happen_204 rfl ?_
        refine b_il (pc2 := 210) d_Mo_happen_208 rfl rfl ?_
        refine b_ifd (pc2 := 217) d_Mo_happen_210 rfl rfl rfl rfl rfl (fun h210 => ?_) (fun h210 => ?_)
        · exact absurd h210 (by decide)
        refine b_ic (pc2 := 214) (x := Int32.ofNat 2) d_Mo_happen_213 rfl rfl ?_
        refine b_go (pc2 := 218) d_Mo_happen_214 rfl ?_
        refine b_pure (pc2 := 219) d_Mo_happen_218 rfl rfl rfl ?_
        rw [i_add]
        refine b_ir d_Mo_happen_219 rfl ?_
        exact ⟨rfl, rfl, rfl, rfl, rfl⟩
      · rw [i_eq (by omega) (by omega)] at h187
        have e2 : oc = 3 := by rw [hoe, if_neg (by decide), if_pos (by omega)]
        subst e2
        refine b_ic (pc2 := 191) (x := Int32.ofNat 3) d_Mo_happen_190 rfl rfl ?_
        refine b_go (pc2 := 195) d_Mo_happen_191 rfl ?_
        refine b_pi (pc2 := 198) d_Mo_happen_195 q_11_111 (sh_130 n0) (by decide) (Or.inl (by decide)) (Or.inl rfl) (rc_130) rfl ?_
        refine b_il (pc2 := 200) d_Mo_happen_198 rfl rfl ?_
        refine b_ifd (pc2 := 207) d_Mo_happen_200 rfl rfl rfl rfl rfl (fun h200 => ?_) (fun h200 => ?_)
        · exact absurd h200 (by decide)
        refine b_ic (pc2 := 204) (x := Int32.ofNat 1) d_Mo_happen_203 rfl rfl ?_
        refine b_go (pc2 := 208) d_Mo_happen_204 rfl ?_
        refine b_il (pc2 := 210) d_Mo_happen_208 rfl rfl ?_
        refine b_ifd (pc2 := 217) d_Mo_happen_210 rfl rfl rfl rfl rfl (fun h210 => ?_) (fun h210 => ?_)
        · exact absurd h210 (by decide)
        refine b_ic (pc2 := 214) (x := Int32.ofNat 2) d_Mo_happen_213 rfl rfl ?_
        refine b_go (pc2 := 218) d_Mo_happen_214 rfl ?_
        refine b_pure (pc2 := 219) d_Mo_happen_218 rfl rfl rfl ?_
        rw [i_add]
        refine b_ir d_Mo_happen_219 rfl ?_
        exact ⟨rfl, rfl, rfl, rfl, rfl⟩
    · rw [i_eq (by omega) (by omega)] at h134
      have e1 : dn = 1 := by rw [hdn, if_pos (by omega)]
      subst e1
      refine b_ic (pc2 := 138) (x := Int32.ofNat 1) d_Mo_happen_137 rfl rfl ?_
      refine b_go (pc2 := 142) d_Mo_happen_138 rfl ?_
      refine b_pi (pc2 := 145) d_Mo_happen_142 q_11_283 (sh_130 n0) (by decide) (Or.inl (by decide)) (Or.inr ⟨rfl, by decide⟩) (rc_130) rfl ?_
      refine b_aln (pc2 := 146) d_Mo_happen_145 rfl rfl ?_
      refine b_gi (pc2 := 149) d_Mo_happen_146 q_11_235 (sh_130 n0) (by decide) (by decide) (rc_130) rfl ?_
      rw [u2_k _ _ (by decide), hop]
      refine b_ifd (pc2 := 198) d_Mo_happen_149 rfl rfl rfl rfl rfl (fun h149 => ?_) (fun h149 => ?_)
      · exact absurd h149 (fun z => by rw [z_le (by omega)] at z; omega)
      refine b_aln (pc2 := 153) d_Mo_happen_152 rfl rfl ?_
      refine b_gi (pc2 := 156) d_Mo_happen_153 q_11_111 (sh_130 n0) (by decide) (by decide) (rc_130) rfl ?_
      rw [u2_k _ _ (by decide), hoc]
      refine b_ifd (pc2 := 198) d_Mo_happen_156 rfl rfl rfl rfl rfl (fun h156 => ?_) (fun h156 => ?_)
      · exact absurd h156 (by decide)
      refine b_aln (pc2 := 160) d_Mo_happen_159 rfl rfl ?_
      refine b_pure (pc2 := 161) d_Mo_happen_160 rfl rfl rfl ?_
      refine b_gi (pc2 := 164) d_Mo_happen_161 q_11_143 (sh_130 n0) (by decide) (by decide) (rc_130) rfl ?_
      rw [u2_k _ _ (by decide), hwt]
      refine b_ic (pc2 := 165) (x := Int32.ofNat 1) d_Mo_happen_164 rfl rfl ?_
      refine b_pure (pc2 := 166) d_Mo_happen_165 rfl rfl rfl ?_
      rw [i_add]
      refine b_pi (pc2 := 169) d_Mo_happen_166 q_11_143 (sh_130 n0) (by decide) (Or.inl (by decide)) (Or.inl rfl) (rc_130) rfl ?_
      refine b_aln (pc2 := 170) d_Mo_happen_169 rfl rfl ?_
      refine b_aln (pc2 := 171) d_Mo_happen_170 rfl rfl ?_
      refine b_gi (pc2 := 174) d_Mo_happen_171 q_11_283 (sh_130 n0) (by decide) (by decide) (rc_130) rfl ?_
      rw [u2_k _ _ (by decide), u2_at]
      refine b_ifd (pc2 := 181) d_Mo_happen_174 rfl rfl rfl rfl rfl (fun h174 => ?_) (fun h174 => ?_)
      · exact absurd h174 (by decide)
      have e2 : oc = 4 := by rw [hoe, if_pos rfl]
      subst e2
      refine b_ic (pc2 := 178) (x := Int32.ofNat 4) d_Mo_happen_177 rfl rfl ?_
      refine b_go (pc2 := 195) d_Mo_happen_178 rfl ?_
      refine b_pi (pc2 := 198) d_Mo_happen_195 q_11_111 (sh_130 n0) (by decide) (Or.inl (by decide)) (Or.inl rfl) (rc_130) rfl ?_
      refine b_il (pc2 := 200) d_Mo_happen_198 rfl rfl ?_
      refine b_ifd (pc2 := 207) d_Mo_happen_200 rfl rfl rfl rfl rfl (fun h200 => ?_) (fun h200 => ?_)
      · exact absurd h200 (by decide)
      refine b_ic (pc2 := 204) (x := Int32.ofNat 1) d_Mo_happen_203 rfl rfl ?_
      refine b_go (pc2 := 208) d_Mo_happen_204 rfl ?_
      refine b_il (pc2 := 210) d_Mo_happen_208 rfl rfl ?_
      refine b_ifd (pc2 := 217) d_Mo_happen_210 rfl rfl rfl rfl rfl (fun h210 => ?_) (fun h210 => ?_)
      · exact absurd h210 (by decide)
      refine b_ic (pc2 := 214) (x := Int32.ofNat 2) d_Mo_happen_213 rfl rfl ?_
      refine b_go (pc2 := 218) d_Mo_happen_214 rfl ?_
      refine b_pure (pc2 := 219) d_Mo_happen_218 rfl rfl rfl ?_
      rw [i_add]
      refine b_ir d_Mo_happen_219 rfl ?_
      exact ⟨rfl, rfl, rfl, rfl, rfl⟩
theorem mo_happen0 {d : Nat} (hd : 10 ≤ d) {ev fa : Nat} {up dw : Int64} (hev : J 130 6 = Int32.ofNat ev) (hev2 : ev < 100000000) (hfa : fa < 4) (hC : ∀ e, 1 ≤ e → bm e (S0 n0) R0 145 [.ref 130] W (am_u2 J 130 6 (Int32.ofNat (ev + 1))) g L (bR none W J1 g L)) (hK0 : ∀ e, 9 ≤ e → bm e (S0 n0) R0 146 [.ref 130, .int (Int32.ofNat 0), .int (Int32.ofNat (fa % 2)), .long up] W J1 g L (bR (some (.int (Int32.ofNat 0))) W J2 g L)) {m0 m1 : Nat} (hm0 : J2 135 0 = Int32.ofNat m0) (hm02 : m0 < 99) (hm1 : J2 135 1 = Int32.ofNat m1) (hm12 : m1 < 99) {J4 : bw_J} {rv : Int32} (hE : ∀ e, 1 ≤ e → bT e (S0 n0) R0 mt_Mo_happen (bR (some (.int rv)) W J4 g L) 114 [(0, .ref 130), (6, .int (Int32.ofNat 0)), (7, .int (Int32.ofNat 0))] [] W (am_u2 (am_u2 J2 135 1 (Int32.ofNat (m1 + 1))) 135 0 (Int32.ofNat (m0 + 1))) g L 0 0) : bm d (S0 n0) R0 144 [.ref 130, .int (Int32.ofNat fa), .long up, .long dw] W J g L (bR (some (.int rv)) W J4 g L) := by
  obtain ⟨e, rfl⟩ : ∃ e, d = e + 1 := ⟨d - 1, by omega⟩
  refine bm_of (Nat.le_of_ble_eq_true rfl) (Or.inr bR_ret) ?_
  show bT e (S0 n0) R0 mt_Mo_happen _ 0 [(0, .ref 130), (1, .int (Int32.ofNat fa)), (2, .long up), (4, .long dw)] [] W J g L 0 0
  have hSR := SR0 n0
  refine b_aln (pc2 := 1) d_Mo_happen_0 rfl rfl ?_
  refine b_pure (pc2 := 2) d_Mo_happen_1 rfl rfl rfl ?_
  refine b_gi (pc2 := 5) d_Mo_happen_2 q_11_306 (sh_130 n0) (by decide) (by decide) (rc_130) rfl ?_
  rw [hev]
  refine b_ic (pc2 := 6) (x := Int32.ofNat 1) d_Mo_happen_5 rfl rfl ?_
  refine b_pure (pc2 := 7) d_Mo_happen_6 rfl rfl rfl ?_
  rw [i_add]
  refine b_pi (pc2 := 10) d_Mo_happen_7 q_11_306 (sh_130 n0) (by decide) (Or.inl (by decide)) (Or.inl rfl) (rc_130) rfl ?_
  refine b_aln (pc2 := 11) d_Mo_happen_10 rfl rfl ?_
  refine b_cv0 (pc2 := 14) (c2 := 0) (u2 := 0) (hC e (by omega)) d_Mo_happen_11 q_11_309 (Nat.le_of_ble_eq_true rfl) rfl rfl (sh_130 n0) (Nat.le_of_ble_eq_true rfl) rfl rfl (by decide) (by decide) rfl ?_
  refine b_aln (pc2 := 15) d_Mo_happen_14 rfl rfl ?_
  refine b_ic (pc2 := 16) (x := Int32.ofNat 0) d_Mo_happen_15 rfl rfl ?_
  refine b_iln (pc2 := 17) d_Mo_happen_16 rfl rfl ?_
  refine b_ic (pc2 := 18) (x := Int32.ofNat 1) d_Mo_happen_17 rfl rfl ?_
  refine b_pure (pc2 := 19) d_Mo_happen_18 rfl rfl rfl ?_
  rw [c1]
  refine b_ic (pc2 := 20) (x := Int32.ofNat 1) d_Mo_happen_19 rfl rfl ?_
  refine b_ifd (pc2 := 27) d_Mo_happen_20 rfl rfl rfl rfl rfl (fun h20 => ?_) (fun h20 => ?_)
  · rw [i_eq (by omega) (by omega)] at h20
    have hfe : fa % 2 = 0 := by omega
    rw [hfe] at hK0
    refine b_ic (pc2 := 28) (x := Int32.ofNat 0) d_Mo_happen_27 rfl rfl ?_
    refine b_lln (pc2 := 29) d_Mo_happen_28 rfl rfl ?_
    refine b_cv1 (pc2 := 32) (c2 := 0) (u2 := 0) (hK0 e (by omega)) d_Mo_happen_29 q_11_312 (Nat.le_of_ble_eq_true rfl) rfl rfl (sh_130 n0) (Nat.le_of_ble_eq_true rfl) rfl rfl (by decide) (by decide) rfl ?_
    refine b_is (pc2 := 34) (al2 := [(6, _), (0, _), (1, _), (2, _), (4, _)]) d_Mo_happen_32 (by decide) rfl rfl ?_
    refine b_il (pc2 := 36) d_Mo_happen_34 rfl rfl ?_
    refine b_ifd (pc2 := 65) d_Mo_happen_36 rfl rfl rfl rfl rfl (fun h36 => ?_) (fun h36 => ?_)
    rotate_left
    · exact absurd (by decide) h36
    refine b_ic (pc2 := 66) (x := Int32.ofNat 0) d_Mo_happen_65 rfl rfl ?_
    refine b_is (pc2 := 68) (al2 := [(7, _), (6, _), (0, _), (1, _), (2, _), (4, _)]) d_Mo_happen_66 (by decide) rfl rfl ?_
    refine b_aln (pc2 := 69) d_Mo_happen_68 rfl rfl ?_
    refine b_gr (pc2 := 72) d_Mo_happen_69 q_11_27 (sh_130 n0) (by decide) (by decide) (p_130_12 n0) rfl ?_
    refine b_ic (pc2 := 73) (x := Int32.ofNat 1) d_Mo_happen_72 rfl rfl ?_
    refine b_il (pc2 := 75) d_Mo_happen_73 rfl rfl ?_
    refine b_ifd (pc2 := 82) d_Mo_happen_75 rfl rfl rfl rfl rfl (fun h75 => ?_) (fun h75 => ?_)
    rotate_left
    · exact absurd (by decide) h75
    refine b_aln (pc2 := 83) d_Mo_happen_82 rfl rfl ?_
    refine b_gr (pc2 := 86) d_Mo_happen_83 q_11_27 (sh_130 n0) (by decide) (by decide) (p_130_12 n0) rfl ?_
    refine b_ic (pc2 := 87) (x := Int32.ofNat 1) d_Mo_happen_86 rfl rfl ?_
    refine b_ia (pc2 := 88) (q := 1) d_Mo_happen_87 (sh_135 n0) (i_in (i := 1) (by decide) (by decide)) (rfl) (rc_135) rfl ?_
    rw [hm1]
    refine b_ic (pc2 := 89) (x := Int32.ofNat 1) d_Mo_happen_88 rfl rfl ?_
    refine b_pure (pc2 := 90) d_Mo_happen_89 rfl rfl rfl ?_
    rw [i_add]
    refine b_ist (pc2 := 91) (q := 1) d_Mo_happen_90 (sh_135 n0) (i_in (i := 1) (by decide) (by decide)) (rfl) (rc_135) rfl ?_
    refine b_aln (pc2 := 92) d_Mo_happen_91 rfl rfl ?_
    refine b_gr (pc2 := 95) d_Mo_happen_92 q_11_27 (sh_130 n0) (by decide) (by decide) (p_130_12 n0) rfl ?_
    refine b_ic (pc2 := 96) (x := Int32.ofNat 0) d_Mo_happen_95 rfl rfl ?_
    refine b_il (pc2 := 98) d_Mo_happen_96 rfl rfl ?_
    refine b_ifd (pc2 := 105) d_Mo_happen_98 rfl rfl rfl rfl rfl (fun h98 => ?_) (fun h98 => ?_)
    rotate_left
    · exact absurd (by decide) h98
    refine b_aln (pc2 := 106) d_Mo_happen_105 rfl rfl ?_
    refine b_gr (pc2 := 109) d_Mo_happen_106 q_11_27 (sh_130 n0) (by decide) (by decide) (p_130_12 n0) rfl ?_
    refine b_ic (pc2 := 110) (x := Int32.ofNat 0) d_Mo_happen_109 rfl rfl ?_
    refine b_ia (pc2 := 111) (q := 0) d_Mo_happen_110 (sh_135 n0) (i_in (i := 0) (by decide) (by decide)) (rfl) (rc_135) rfl ?_
    rw [u2_k _ _ (by decide), hm0]
    refine b_ic (pc2 := 112) (x := Int32.ofNat 1) d_Mo_happen_111 rfl rfl ?_
    refine b_pure (pc2 := 113) d_Mo_happen_112 rfl rfl rfl ?_
    rw [i_add]
    refine b_ist (pc2 := 114) (q := 0) d_Mo_happen_113 (sh_135 n0) (i_in (i := 0) (by decide) (by decide)) (rfl) (rc_135) rfl ?_
    refine b_nf (al := [(0, _), (6, _), (7, _)]) (ks := [0, 6, 7]) (sub_c rfl (sub_c rfl (sub_c rfl (sub_n)))) rfl (by decide) ?_
    dsimp only
    exact hE e (by omega)
  · rw [i_eq (by omega) (by omega)] at h20
    have hfe : fa % 2 = 1 := by omega
    rw [hfe] at hK0
    refine b_ic (pc2 := 24) (x := Int32.ofNat 1) d_Mo_happen_23 rfl rfl ?_
    refine b_go (pc2 := 28) d_Mo_happen_24 rfl ?_
    refine b_lln (pc2 := 29) d_Mo_happen_28 rfl rfl ?_
    refine b_cv1 (pc2 := 32) (c2 := 0) (u2 := 0) (hK0 e (by omega)) d_Mo_happen_29 q_11_312 (Nat.le_of_ble_eq_true rfl) rfl rfl (sh_130 n0) (Nat.le_of_ble_eq_true rfl) rfl rfl (by decide) (by decide) rfl ?_
    refine b_is (pc2 := 34) (al2 := [(6, _), (0, _), (1, _), (2, _), (4, _)]) d_Mo_happen_32 (by decide) rfl rfl ?_
    refine b_il (pc2 := 36) d_Mo_happen_34 rfl rfl ?_
    refine b_ifd (pc2 := 65) d_Mo_happen_36 rfl rfl rfl rfl rfl (fun h36 => ?_) (fun h36 => ?_)
    rotate_left
    · exact absurd (by decide) h36
    refine b_ic (pc2 := 66) (x := Int32.ofNat 0) d_Mo_happen_65 rfl rfl ?_
    refine b_is (pc2 := 68) (al2 := [(7, _), (6, _), (0, _), (1, _), (2, _), (4, _)]) d_Mo_happen_66 (by decide) rfl rfl ?_
    refine b_aln (pc2 := 69) d_Mo_happen_68 rfl rfl ?_
    refine b_gr (pc2 := 72) d_Mo_happen_69 q_11_27 (sh_130 n0) (by decide) (by decide) (p_130_12 n0) rfl ?_
    refine b_ic (pc2 := 73) (x := Int32.ofNat 1) d_Mo_happen_72 rfl rfl ?_
    refine b_il (pc2 := 75) d_Mo_happen_73 rfl rfl ?_
    refine b_ifd (pc2 := 82) d_Mo_happen_75 rfl rfl rfl rfl rfl (fun h75 => ?_) (fun h75 => ?_)
    rotate_left
    · exact absurd (by decide) h75
    refine b_aln (pc2 := 83) d_Mo_happen_82 rfl rfl ?_
    refine b_gr (pc2 := 86) d_Mo_happen_83 q_11_27 (sh_130 n0) (by decide) (by decide) (p_130_12 n0) rfl ?_
    refine b_ic (pc2 := 87) (x := Int32.ofNat 1) d_Mo_happen_86 rfl rfl ?_
    refine b_ia (pc2 := 88) (q := 1) d_Mo_happen_87 (sh_135 n0) (i_in (i := 1) (by decide) (by decide)) (rfl) (rc_135) rfl ?_
    rw [hm1]
    refine b_ic (pc2 := 89) (x := Int32.ofNat 1) d_Mo_happen_88 rfl rfl ?_
    refine b_pure (pc2 := 90) d_Mo_happen_89 rfl rfl rfl ?_
    rw [i_add]
    refine b_ist (pc2 := 91) (q := 1) d_Mo_happen_90 (sh_135 n0) (i_in (i := 1) (by decide) (by decide)) (rfl) (rc_135) rfl ?_
    refine b_aln (pc2 := 92) d_Mo_happen_91 rfl rfl ?_
    refine b_gr (pc2 := 95) d_Mo_happen_92 q_11_27 (sh_130 n0) (by decide) (by decide) (p_130_12 n0) rfl ?_
    refine b_ic (pc2 := 96) (x := Int32.ofNat 0) d_Mo_happen_95 rfl rfl ?_
    refine b_il (pc2 := 98) d_Mo_happen_96 rfl rfl ?_
    refine b_ifd (pc2 := 105) d_Mo_happen_98 rfl rfl rfl rfl rfl (fun h98 => ?_) (fun h98 => ?_)
    rotate_left
    · exact absurd (by decide) h98
    refine b_aln (pc2 := 106) d_Mo_happen_105 rfl rfl ?_
    refine b_gr (pc2 := 109) d_Mo_happen_106 q_11_27 (sh_130 n0) (by decide) (by decide) (p_130_12 n0) rfl ?_
    refine b_ic (pc2 := 110) (x := Int32.ofNat 0) d_Mo_happen_109 rfl rfl ?_
    refine b_ia (pc2 := 111) (q := 0) d_Mo_happen_110 (sh_135 n0) (i_in (i := 0) (by decide) (by decide)) (rfl) (rc_135) rfl ?_
    rw [u2_k _ _ (by decide), hm0]
    refine b_ic (pc2 := 112) (x := Int32.ofNat 1) d_Mo_happen_111 rfl rfl ?_
    refine b_pure (pc2 := 113) d_Mo_happen_112 rfl rfl rfl ?_
    rw [i_add]
    refine b_ist (pc2 := 114) (q := 0) d_Mo_happen_113 (sh_135 n0) (i_in (i := 0) (by decide) (by decide)) (rfl) (rc_135) rfl ?_
    refine b_nf (al := [(0, _), (6, _), (7, _)]) (ks := [0, 6, 7]) (sub_c rfl (sub_c rfl (sub_c rfl (sub_n)))) rfl (by decide) ?_
    dsimp only
    exact hE e (by omega)
theorem mo_happen1 {d : Nat} (hd : 10 ≤ d) {ev fa : Nat} {up dw : Int64} (hev : J 130 6 = Int32.ofNat ev) (hev2 : ev < 100000000) (hfa : fa < 4) (hC : ∀ e, 1 ≤ e → bm e (S0 n0) R0 145 [.ref 130] W (am_u2 J 130 6 (Int32.ofNat (ev + 1))) g L (bR none W J1 g L)) (hK0 : ∀ e, 9 ≤ e → bm e (S0 n0) R0 146 [.ref 130, .int (Int32.ofNat 0), .int (Int32.ofNat (fa % 2)), .long up] W J1 g L (bR (some (.int (Int32.ofNat 1))) W J2 g L)) (hK1 : ∀ e, 9 ≤ e → bm e (S0 n0) R0 146 [.ref 130, .int (Int32.ofNat 1), .int (Int32.ofNat (fa / 2 % 2)), .long dw] W J2 g L (bR (some (.int (Int32.ofNat 0))) W J3 g L)) {m0 m1 : Nat} (hm0 : J3 135 0 = Int32.ofNat m0) (hm02 : m0 < 99) (hm1 : J3 135 1 = Int32.ofNat m1) (hm12 : m1 < 99) {J4 : bw_J} {rv : Int32} (hE : ∀ e, 1 ≤ e → bT e (S0 n0) R0 mt_Mo_happen (bR (some (.int rv)) W J4 g L) 114 [(0, .ref 130), (6, .int (Int32.ofNat 1)), (7, .int (Int32.ofNat 0))] [] W (am_u2 (am_u2 J3 135 1 (Int32.ofNat (0))) 135 0 (Int32.ofNat (m0 + 1))) g L 0 0) : bm d (S0 n0) R0 144 [.ref 130, .int (Int32.ofNat fa), .long up, .long dw] W J g L (bR (some (.int rv)) W J4 g L) := by
  obtain ⟨e, rfl⟩ : ∃ e, d = e + 1 := ⟨d - 1, by omega⟩
  refine bm_of (Nat.le_of_ble_eq_true rfl) (Or.inr bR_ret) ?_
  show bT e (S0 n0) R0 mt_Mo_happen _ 0 [(0, .ref 130), (1, .int (Int32.ofNat fa)), (2, .long up), (4, .long dw)] [] W J g L 0 0
  have hSR := SR0 n0
  refine b_aln (pc2 := 1) d_Mo_happen_0 rfl rfl ?_
  refine b_pure (pc2 := 2) d_Mo_happen_1 rfl rfl rfl ?_
  refine b_gi (pc2 := 5) d_Mo_happen_2 q_11_306 (sh_130 n0) (by decide) (by decide) (rc_130) rfl ?_
  rw [hev]
  refine b_ic (pc2 := 6) (x := Int32.ofNat 1) d_Mo_happen_5 rfl rfl ?_
  refine b_pure (pc2 := 7) d_Mo_happen_6 rfl rfl rfl ?_
  rw [i_add]
  refine b_pi (pc2 := 10) d_Mo_happen_7 q_11_306 (sh_130 n0) (by decide) (Or.inl (by decide)) (Or.inl rfl) (rc_130) rfl ?_
  refine b_aln (pc2 := 11) d_Mo_happen_10 rfl rfl ?_
  refine b_cv0 (pc2 := 14) (c2 := 0) (u2 := 0) (hC e (by omega)) d_Mo_happen_11 q_11_309 (Nat.le_of_ble_eq_true rfl) rfl rfl (sh_130 n0) (Nat.le_of_ble_eq_true rfl) rfl rfl (by decide) (by decide) rfl ?_
  refine b_aln (pc2 := 15) d_Mo_happen_14 rfl rfl ?_
  refine b_ic (pc2 := 16) (x := Int32.ofNat 0) d_Mo_happen_15 rfl rfl ?_
  refine b_iln (pc2 := 17) d_Mo_happen_16 rfl rfl ?_
  refine b_ic (pc2 := 18) (x := Int32.ofNat 1) d_Mo_happen_17 rfl rfl ?_
  refine b_pure (pc2 := 19) d_Mo_happen_18 rfl rfl rfl ?_
  rw [c1]
  refine b_ic (pc2 := 20) (x := Int32.ofNat 1) d_Mo_happen_19 rfl rfl ?_
  refine b_ifd (pc2 := 27) d_Mo_happen_20 rfl rfl rfl rfl rfl (fun h20 => ?_) (fun h20 => ?_)
  · rw [i_eq (by omega) (by omega)] at h20
    have hfe : fa % 2 = 0 := by omega
    rw [hfe] at hK0
    refine b_ic (pc2 := 28) (x := Int32.ofNat 0) d_Mo_happen_27 rfl rfl ?_
    refine b_lln (pc2 := 29) d_Mo_happen_28 rfl rfl ?_
    refine b_cv1 (pc2 := 32) (c2 := 0) (u2 := 0) (hK0 e (by omega)) d_Mo_happen_29 q_11_312 (Nat.le_of_ble_eq_true rfl) rfl rfl (sh_130 n0) (Nat.le_of_ble_eq_true rfl) rfl rfl (by decide) (by decide) rfl ?_
    refine b_is (pc2 := 34) (al2 := [(6, _), (0, _), (1, _), (2, _), (4, _)]) d_Mo_happen_32 (by decide) rfl rfl ?_
    refine b_il (pc2 := 36) d_Mo_happen_34 rfl rfl ?_
    refine b_ifd (pc2 := 65) d_Mo_happen_36 rfl rfl rfl rfl rfl (fun h36 => ?_) (fun h36 => ?_)
    · exact absurd h36 (by decide)
    refine b_aln (pc2 := 40) d_Mo_happen_39 rfl rfl ?_
    refine b_ic (pc2 := 41) (x := Int32.ofNat 1) d_Mo_happen_40 rfl rfl ?_
    refine b_iln (pc2 := 42) d_Mo_happen_41 rfl rfl ?_
    refine b_ic (pc2 := 43) (x := Int32.ofNat 2) d_Mo_happen_42 rfl rfl ?_
    refine b_pure (pc2 := 44) d_Mo_happen_43 rfl rfl rfl ?_
    rw [c2 hfa]
    refine b_ic (pc2 := 45) (x := Int32.ofNat 2) d_Mo_happen_44 rfl rfl ?_
    refine b_ifd (pc2 := 52) d_Mo_happen_45 rfl rfl rfl rfl rfl (fun h45 => ?_) (fun h45 => ?_)
    · rw [i_eq (by omega) (by omega)] at h45
      have hff : fa / 2 % 2 = 0 := by omega
      rw [hff] at hK1
      refine b_ic (pc2 := 53) (x := Int32.ofNat 0) d_Mo_happen_52 rfl rfl ?_
      refine b_ll (pc2 := 55) d_Mo_happen_53 rfl rfl ?_
      refine b_cv1 (pc2 := 58) (c2 := 0) (u2 := 0) (hK1 e (by omega)) d_Mo_happen_55 q_11_312 (Nat.le_of_ble_eq_true rfl) rfl rfl (sh_130 n0) (Nat.le_of_ble_eq_true rfl) rfl rfl (by decide) (by decide) rfl ?_
      refine b_ifd (pc2 := 65) d_Mo_happen_58 rfl rfl rfl rfl rfl (fun h58 => ?_) (fun h58 => ?_)
      rotate_left
      · exact absurd (by decide) h58
      refine b_ic (pc2 := 66) (x := Int32.ofNat 0) d_Mo_happen_65 rfl rfl ?_
      refine b_is (pc2 := 68) (al2 := [(7, _), (6, _), (0, _), (1, _), (2, _), (4, _)]) d_Mo_happen_66 (by decide) rfl rfl ?_
      refine b_aln (pc2 := 69) d_Mo_happen_68 rfl rfl ?_
      refine b_gr (pc2 := 72) d_Mo_happen_69 q_11_27 (sh_130 n0) (by decide) (by decide) (p_130_12 n0) rfl ?_
      refine b_ic (pc2 := 73) (x := Int32.ofNat 1) d_Mo_happen_72 rfl rfl ?_
      refine b_il (pc2 := 75) d_Mo_happen_73 rfl rfl ?_
      refine b_ifd (pc2 := 82) d_Mo_happen_75 rfl rfl rfl rfl rfl (fun h75 => ?_) (fun h75 => ?_)
      · exact absurd h75 (by decide)
      refine b_ic (pc2 := 79) (x := Int32.ofNat 0) d_Mo_happen_78 rfl rfl ?_
      refine b_go (pc2 := 90) d_Mo_happen_79 rfl ?_
      refine b_ist (pc2 := 91) (q := 1) d_Mo_happen_90 (sh_135 n0) (i_in (i := 1) (by decide) (by decide)) (rfl) (rc_135) rfl ?_
      refine b_aln (pc2 := 92) d_Mo_happen_91 rfl rfl ?_
      refine b_gr (pc2 := 95) d_Mo_happen_92 q_11_27 (sh_130 n0) (by decide) (by decide) (p_130_12 n0) rfl ?_
      refine b_ic (pc2 := 96) (x := Int32.ofNat 0) d_Mo_happen_95 rfl rfl ?_
      refine b_il (pc2 := 98) d_Mo_happen_96 rfl rfl ?_
      refine b_ifd (pc2 := 105) d_Mo_happen_98 rfl rfl rfl rfl rfl (fun h98 => ?_) (fun h98 => ?_)
      rotate_left
      · exact absurd (by decide) h98
      refine b_aln (pc2 := 106) d_Mo_happen_105 rfl rfl ?_
      refine b_gr (pc2 := 109) d_Mo_happen_106 q_11_27 (sh_130 n0) (by decide) (by decide) (p_130_12 n0) rfl ?_
      refine b_ic (pc2 := 110) (x := Int32.ofNat 0) d_Mo_happen_109 rfl rfl ?_
      refine b_ia (pc2 := 111) (q := 0) d_Mo_happen_110 (sh_135 n0) (i_in (i := 0) (by decide) (by decide)) (rfl) (rc_135) rfl ?_
      rw [u2_k _ _ (by decide), hm0]
      refine b_ic (pc2 := 112) (x := Int32.ofNat 1) d_Mo_happen_111 rfl rfl ?_
      refine b_pure (pc2 := 113) d_Mo_happen_112 rfl rfl rfl ?_
      rw [i_add]
      refine b_ist (pc2 := 114) (q := 0) d_Mo_happen_113 (sh_135 n0) (i_in (i := 0) (by decide) (by decide)) (rfl) (rc_135) rfl ?_
      refine b_nf (al := [(0, _), (6, _), (7, _)]) (ks := [0, 6, 7]) (sub_c rfl (sub_c rfl (sub_c rfl (sub_n)))) rfl (by decide) ?_
      dsimp only
      exact hE e (by omega)
    · rw [i_eq (by omega) (by omega)] at h45
      have hff : fa / 2 % 2 = 1 := by omega
      rw [hff] at hK1
      refine b_ic (pc2 := 49) (x := Int32.ofNat 1) d_Mo_happen_48 rfl rfl ?_
      refine b_go (pc2 := 53) d_Mo_happen_49 rfl ?_
      refine b_ll (pc2 := 55) d_Mo_happen_53 rfl rfl ?_
      refine b_cv1 (pc2 := 58) (c2 := 0) (u2 := 0) (hK1 e (by omega)) d_Mo_happen_55 q_11_312 (Nat.le_of_ble_eq_true rfl) rfl rfl (sh_130 n0) (Nat.le_of_ble_eq_true rfl) rfl rfl (by decide) (by decide) rfl ?_
      refine b_ifd (pc2 := 65) d_Mo_happen_58 rfl rfl rfl rfl rfl (fun h58 => ?_) (fun h58 => ?_)
      rotate_left
      · exact absurd (by decide) h58
      refine b_ic (pc2 := 66) (x := Int32.ofNat 0) d_Mo_happen_65 rfl rfl ?_
      refine b_is (pc2 := 68) (al2 := [(7, _), (6, _), (0, _), (1, _), (2, _), (4, _)]) d_Mo_happen_66 (by decide) rfl rfl ?_
      refine b_aln (pc2 := 69) d_Mo_happen_68 rfl rfl ?_
      refine b_gr (pc2 := 72) d_Mo_happen_69 q_11_27 (sh_130 n0) (by decide) (by decide) (p_130_12 n0) rfl ?_
      refine b_ic (pc2 := 73) (x := Int32.ofNat 1) d_Mo_happen_72 rfl rfl ?_
      refine b_il (pc2 := 75) d_Mo_happen_73 rfl rfl ?_
      refine b_ifd (pc2 := 82) d_Mo_happen_75 rfl rfl rfl rfl rfl (fun h75 => ?_) (fun h75 => ?_)
      · exact absurd h75 (by decide)
      refine b_ic (pc2 := 79) (x := Int32.ofNat 0) d_Mo_happen_78 rfl rfl ?_
      refine b_go (pc2 := 90) d_Mo_happen_79 rfl ?_
      refine b_ist (pc2 := 91) (q := 1) d_Mo_happen_90 (sh_135 n0) (i_in (i := 1) (by decide) (by decide)) (rfl) (rc_135) rfl ?_
      refine b_aln (pc2 := 92) d_Mo_happen_91 rfl rfl ?_
      refine b_gr (pc2 := 95) d_Mo_happen_92 q_11_27 (sh_130 n0) (by decide) (by decide) (p_130_12 n0) rfl ?_
      refine b_ic (pc2 := 96) (x := Int32.ofNat 0) d_Mo_happen_95 rfl rfl ?_
      refine b_il (pc2 := 98) d_Mo_happen_96 rfl rfl ?_
      refine b_ifd (pc2 := 105) d_Mo_happen_98 rfl rfl rfl rfl rfl (fun h98 => ?_) (fun h98 => ?_)
      rotate_left
      · exact absurd (by decide) h98
      refine b_aln (pc2 := 106) d_Mo_happen_105 rfl rfl ?_
      refine b_gr (pc2 := 109) d_Mo_happen_106 q_11_27 (sh_130 n0) (by decide) (by decide) (p_130_12 n0) rfl ?_
      refine b_ic (pc2 := 110) (x := Int32.ofNat 0) d_Mo_happen_109 rfl rfl ?_
      refine b_ia (pc2 := 111) (q := 0) d_Mo_happen_110 (sh_135 n0) (i_in (i := 0) (by decide) (by decide)) (rfl) (rc_135) rfl ?_
      rw [u2_k _ _ (by decide), hm0]
      refine b_ic (pc2 := 112) (x := Int32.ofNat 1) d_Mo_happen_111 rfl rfl ?_
      refine b_pure (pc2 := 113) d_Mo_happen_112 rfl rfl rfl ?_
      rw [i_add]
      refine b_ist (pc2 := 114) (q := 0) d_Mo_happen_113 (sh_135 n0) (i_in (i := 0) (by decide) (by decide)) (rfl) (rc_135) rfl ?_
      refine b_nf (al := [(0, _), (6, _), (7, _)]) (ks := [0, 6, 7]) (sub_c rfl (sub_c rfl (sub_c rfl (sub_n)))) rfl (by decide) ?_
      dsimp only
      exact hE e (by omega)
  · rw [i_eq (by omega) (by omega)] at h20
    have hfe : fa % 2 = 1 := by omega
    rw [hfe] at hK0
    refine b_ic (pc2 := 24) (x := Int32.ofNat 1) d_Mo_happen_23 rfl rfl ?_
    refine b_go (pc2 := 28) d_Mo_happen_24 rfl ?_
    refine b_lln (pc2 := 29) d_Mo_happen_28 rfl rfl ?_
    refine b_cv1 (pc2 := 32) (c2 := 0) (u2 := 0) (hK0 e (by omega)) d_Mo_happen_29 q_11_312 (Nat.le_of_ble_eq_true rfl) rfl rfl (sh_130 n0) (Nat.le_of_ble_eq_true rfl) rfl rfl (by decide) (by decide) rfl ?_
    refine b_is (pc2 := 34) (al2 := [(6, _), (0, _), (1, _), (2, _), (4, _)]) d_Mo_happen_32 (by decide) rfl rfl ?_
    refine b_il (pc2 := 36) d_Mo_happen_34 rfl rfl ?_
    refine b_ifd (pc2 := 65) d_Mo_happen_36 rfl rfl rfl rfl rfl (fun h36 => ?_) (fun h36 => ?_)
    · exact absurd h36 (by decide)
    refine b_aln (pc2 := 40) d_Mo_happen_39 rfl rfl ?_
    refine b_ic (pc2 := 41) (x := Int32.ofNat 1) d_Mo_happen_40 rfl rfl ?_
    refine b_iln (pc2 := 42) d_Mo_happen_41 rfl rfl ?_
    refine b_ic (pc2 := 43) (x := Int32.ofNat 2) d_Mo_happen_42 rfl rfl ?_
    refine b_pure (pc2 := 44) d_Mo_happen_43 rfl rfl rfl ?_
    rw [c2 hfa]
    refine b_ic (pc2 := 45) (x := Int32.ofNat 2) d_Mo_happen_44 rfl rfl ?_
    refine b_ifd (pc2 := 52) d_Mo_happen_45 rfl rfl rfl rfl rfl (fun h45 => ?_) (fun h45 => ?_)
    · rw [i_eq (by omega) (by omega)] at h45
      have hff : fa / 2 % 2 = 0 := by omega
      rw [hff] at hK1
      refine b_ic (pc2 := 53) (x := Int32.ofNat 0) d_Mo_happen_52 rfl rfl ?_
      refine b_ll (pc2 := 55) d_Mo_happen_53 rfl rfl ?_
      refine b_cv1 (pc2 := 58) (c2 := 0) (u2 := 0) (hK1 e (by omega)) d_Mo_happen_55 q_11_312 (Nat.le_of_ble_eq_true rfl) rfl rfl (sh_130 n0) (Nat.le_of_ble_eq_true rfl) rfl rfl (by decide) (by decide) rfl ?_
      refine b_ifd (pc2 := 65) d_Mo_happen_58 rfl rfl rfl rfl rfl (fun h58 => ?_) (fun h58 => ?_)
      rotate_left
      · exact absurd (by decide) h58
      refine b_ic (pc2 := 66) (x := Int32.ofNat 0) d_Mo_happen_65 rfl rfl ?_
      refine b_is (pc2 := 68) (al2 := [(7, _), (6, _), (0, _), (1, _), (2, _), (4, _)]) d_Mo_happen_66 (by decide) rfl rfl ?_
      refine b_aln (pc2 := 69) d_Mo_happen_68 rfl rfl ?_
      refine b_gr (pc2 := 72) d_Mo_happen_69 q_11_27 (sh_130 n0) (by decide) (by decide) (p_130_12 n0) rfl ?_
      refine b_ic (pc2 := 73) (x := Int32.ofNat 1) d_Mo_happen_72 rfl rfl ?_
      refine b_il (pc2 := 75) d_Mo_happen_73 rfl rfl ?_
      refine b_ifd (pc2 := 82) d_Mo_happen_75 rfl rfl rfl rfl rfl (fun h75 => ?_) (fun h75 => ?_)
      · exact absurd h75 (by decide)
      refine b_ic (pc2 := 79) (x := Int32.ofNat 0) d_Mo_happen_78 rfl rfl ?_
      refine b_go (pc2 := 90) d_Mo_happen_79 rfl ?_
      refine b_ist (pc2 := 91) (q := 1) d_Mo_happen_90 (sh_135 n0) (i_in (i := 1) (by decide) (by decide)) (rfl) (rc_135) rfl ?_
      refine b_aln (pc2 := 92) d_Mo_happen_91 rfl rfl ?_
      refine b_gr (pc2 := 95) d_Mo_happen_92 q_11_27 (sh_130 n0) (by decide) (by decide) (p_130_12 n0) rfl ?_
      refine b_ic (pc2 := 96) (x := Int32.ofNat 0) d_Mo_happen_95 rfl rfl ?_
      refine b_il (pc2 := 98) d_Mo_happen_96 rfl rfl ?_
      refine b_ifd (pc2 := 105) d_Mo_happen_98 rfl rfl rfl rfl rfl (fun h98 => ?_) (fun h98 => ?_)
      rotate_left
      · exact absurd (by decide) h98
      refine b_aln (pc2 := 106) d_Mo_happen_105 rfl rfl ?_
      refine b_gr (pc2 := 109) d_Mo_happen_106 q_11_27 (sh_130 n0) (by decide) (by decide) (p_130_12 n0) rfl ?_
      refine b_ic (pc2 := 110) (x := Int32.ofNat 0) d_Mo_happen_109 rfl rfl ?_
      refine b_ia (pc2 := 111) (q := 0) d_Mo_happen_110 (sh_135 n0) (i_in (i := 0) (by decide) (by decide)) (rfl) (rc_135) rfl ?_
      rw [u2_k _ _ (by decide), hm0]
      refine b_ic (pc2 := 112) (x := Int32.ofNat 1) d_Mo_happen_111 rfl rfl ?_
      refine b_pure (pc2 := 113) d_Mo_happen_112 rfl rfl rfl ?_
      rw [i_add]
      refine b_ist (pc2 := 114) (q := 0) d_Mo_happen_113 (sh_135 n0) (i_in (i := 0) (by decide) (by decide)) (rfl) (rc_135) rfl ?_
      refine b_nf (al := [(0, _), (6, _), (7, _)]) (ks := [0, 6, 7]) (sub_c rfl (sub_c rfl (sub_c rfl (sub_n)))) rfl (by decide) ?_
      dsimp only
      exact hE e (by omega)
    · rw [i_eq (by omega) (by omega)] at h45
      have hff : fa / 2 % 2 = 1 := by omega
      rw [hff] at hK1
      refine b_ic (pc2 := 49) (x := Int32.ofNat 1) d_Mo_happen_48 rfl rfl ?_
      refine b_go (pc2 := 53) d_Mo_happen_49 rfl ?_
      refine b_ll (pc2 := 55) d_Mo_happen_53 rfl rfl ?_
      refine b_cv1 (pc2 := 58) (c2 := 0) (u2 := 0) (hK1 e (by omega)) d_Mo_happen_55 q_11_312 (Nat.le_of_ble_eq_true rfl) rfl rfl (sh_130 n0) (Nat.le_of_ble_eq_true rfl) rfl rfl (by decide) (by decide) rfl ?_
      refine b_ifd (pc2 := 65) d_Mo_happen_58 rfl rfl rfl rfl rfl (fun h58 => ?_) (fun h58 => ?_)
      rotate_left
      · exact absurd (by decide) h58
      refine b_ic (pc2 := 66) (x := Int32.ofNat 0) d_Mo_happen_65 rfl rfl ?_
      refine b_is (pc2 := 68) (al2 := [(7, _), (6, _), (0, _), (1, _), (2, _), (4, _)]) d_Mo_happen_66 (by decide) rfl rfl ?_
      refine b_aln (pc2 := 69) d_Mo_happen_68 rfl rfl ?_
      refine b_gr (pc2 := 72) d_Mo_happen_69 q_11_27 (sh_130 n0) (by decide) (by decide) (p_130_12 n0) rfl ?_
      refine b_ic (pc2 := 73) (x := Int32.ofNat 1) d_Mo_happen_72 rfl rfl ?_
      refine b_il (pc2 := 75) d_Mo_happen_73 rfl rfl ?_
      refine b_ifd (pc2 := 82) d_Mo_happen_75 rfl rfl rfl rfl rfl (fun h75 => ?_) (fun h75 => ?_)
      · exact absurd h75 (by decide)
      refine b_ic (pc2 := 79) (x := Int32.ofNat 0) d_Mo_happen_78 rfl rfl ?_
      refine b_go (pc2 := 90) d_Mo_happen_79 rfl ?_
      refine b_ist (pc2 := 91) (q := 1) d_Mo_happen_90 (sh_135 n0) (i_in (i := 1) (by decide) (by decide)) (rfl) (rc_135) rfl ?_
      refine b_aln (pc2 := 92) d_Mo_happen_91 rfl rfl ?_
      refine b_gr (pc2 := 95) d_Mo_happen_92 q_11_27 (sh_130 n0) (by decide) (by decide) (p_130_12 n0) rfl ?_
      refine b_ic (pc2 := 96) (x := Int32.ofNat 0) d_Mo_happen_95 rfl rfl ?_
      refine b_il (pc2 := 98) d_Mo_happen_96 rfl rfl ?_
      refine b_ifd (pc2 := 105) d_Mo_happen_98 rfl rfl rfl rfl rfl (fun h98 => ?_) (fun h98 => ?_)
      rotate_left
      · exact absurd (by decide) h98
      refine b_aln (pc2 := 106) d_Mo_happen_105 rfl rfl ?_
      refine b_gr (pc2 := 109) d_Mo_happen_106 q_11_27 (sh_130 n0) (by decide) (by decide) (p_130_12 n0) rfl ?_
      refine b_ic (pc2 := 110) (x := Int32.ofNat 0) d_Mo_happen_109 rfl rfl ?_
      refine b_ia (pc2 := 111) (q := 0) d_Mo_happen_110 (sh_135 n0) (i_in (i := 0) (by decide) (by decide)) (rfl) (rc_135) rfl ?_
      rw [u2_k _ _ (by decide), hm0]
      refine b_ic (pc2 := 112) (x := Int32.ofNat 1) d_Mo_happen_111 rfl rfl ?_
      refine b_pure (pc2 := 113) d_Mo_happen_112 rfl rfl rfl ?_
      rw [i_add]
      refine b_ist (pc2 := 114) (q := 0) d_Mo_happen_113 (sh_135 n0) (i_in (i := 0) (by decide) (by decide)) (rfl) (rc_135) rfl ?_
      refine b_nf (al := [(0, _), (6, _), (7, _)]) (ks := [0, 6, 7]) (sub_c rfl (sub_c rfl (sub_c rfl (sub_n)))) rfl (by decide) ?_
      dsimp only
      exact hE e (by omega)
theorem mo_happen3 {d : Nat} (hd : 10 ≤ d) {ev fa : Nat} {up dw : Int64} (hev : J 130 6 = Int32.ofNat ev) (hev2 : ev < 100000000) (hfa : fa < 4) (hC : ∀ e, 1 ≤ e → bm e (S0 n0) R0 145 [.ref 130] W (am_u2 J 130 6 (Int32.ofNat (ev + 1))) g L (bR none W J1 g L)) (hK0 : ∀ e, 9 ≤ e → bm e (S0 n0) R0 146 [.ref 130, .int (Int32.ofNat 0), .int (Int32.ofNat (fa % 2)), .long up] W J1 g L (bR (some (.int (Int32.ofNat 1))) W J2 g L)) (hK1 : ∀ e, 9 ≤ e → bm e (S0 n0) R0 146 [.ref 130, .int (Int32.ofNat 1), .int (Int32.ofNat (fa / 2 % 2)), .long dw] W J2 g L (bR (some (.int (Int32.ofNat 1))) W J3 g L)) {m0 m1 : Nat} (hm0 : J3 135 0 = Int32.ofNat m0) (hm02 : m0 < 99) (hm1 : J3 135 1 = Int32.ofNat m1) (hm12 : m1 < 99) {J4 : bw_J} {rv : Int32} (hE : ∀ e, 1 ≤ e → bT e (S0 n0) R0 mt_Mo_happen (bR (some (.int rv)) W J4 g L) 114 [(0, .ref 130), (6, .int (Int32.ofNat 1)), (7, .int (Int32.ofNat 1))] [] W (am_u2 (am_u2 J3 135 1 (Int32.ofNat (0))) 135 0 (Int32.ofNat (0))) g L 0 0) : bm d (S0 n0) R0 144 [.ref 130, .int (Int32.ofNat fa), .long up, .long dw] W J g L (bR (some (.int rv)) W J4 g L) := by
  obtain ⟨e, rfl⟩ : ∃ e, d = e + 1 := ⟨d - 1, by omega⟩
  refine bm_of (Nat.le_of_ble_eq_true rfl) (Or.inr bR_ret) ?_
  show bT e (S0 n0) R0 mt_Mo_happen _ 0 [(0, .ref 130), (1, .int (Int32.ofNat fa)), (2, .long up), (4, .long dw)] [] W J g L 0 0
  have hSR := SR0 n0
  refine b_aln (pc2 := 1) d_Mo_happen_0 rfl rfl ?_
  refine b_pure (pc2 := 2) d_Mo_happen_1 rfl rfl rfl ?_
  refine b_gi (pc2 := 5) d_Mo_happen_2 q_11_306 (sh_130 n0) (by decide) (by decide) (rc_130) rfl ?_
  rw [hev]
  refine b_ic (pc2 := 6) (x := Int32.ofNat 1) d_Mo_happen_5 rfl rfl ?_
  refine b_pure (pc2 := 7) d_Mo_happen_6 rfl rfl rfl ?_
  rw [i_add]
  refine b_pi (pc2 := 10) d_Mo_happen_7 q_11_306 (sh_130 n0) (by decide) (Or.inl (by decide)) (Or.inl rfl) (rc_130) rfl ?_
  refine b_aln (pc2 := 11) d_Mo_happen_10 rfl rfl ?_
  refine b_cv0 (pc2 := 14) (c2 := 0) (u2 := 0) (hC e (by omega)) d_Mo_happen_11 q_11_309 (Nat.le_of_ble_eq_true rfl) rfl rfl (sh_130 n0) (Nat.le_of_ble_eq_true rfl) rfl rfl (by decide) (by decide) rfl ?_
  refine b_aln (pc2 := 15) d_Mo_happen_14 rfl rfl ?_
  refine b_ic (pc2 := 16) (x := Int32.ofNat 0) d_Mo_happen_15 rfl rfl ?_
  refine b_iln (pc2 := 17) d_Mo_happen_16 rfl rfl ?_
  refine b_ic (pc2 := 18) (x := Int32.ofNat 1) d_Mo_happen_17 rfl rfl ?_
  refine b_pure (pc2 := 19) d_Mo_happen_18 rfl rfl rfl ?_
  rw [c1]
  refine b_ic (pc2 := 20) (x := Int32.ofNat 1) d_Mo_happen_19 rfl rfl ?_
  refine b_ifd (pc2 := 27) d_Mo_happen_20 rfl rfl rfl rfl rfl (fun h20 => ?_) (fun h20 => ?_)
  · rw [i_eq (by omega) (by omega)] at h20
    have hfe : fa % 2 = 0 := by omega
    rw [hfe] at hK0
    refine b_ic (pc2 := 28) (x := Int32.ofNat 0) d_Mo_happen_27 rfl rfl ?_
    refine b_lln (pc2 := 29) d_Mo_happen_28 rfl rfl ?_
    refine b_cv1 (pc2 := 32) (c2 := 0) (u2 := 0) (hK0 e (by omega)) d_Mo_happen_29 q_11_312 (Nat.le_of_ble_eq_true rfl) rfl rfl (sh_130 n0) (Nat.le_of_ble_eq_true rfl) rfl rfl (by decide) (by decide) rfl ?_
    refine b_is (pc2 := 34) (al2 := [(6, _), (0, _), (1, _), (2, _), (4, _)]) d_Mo_happen_32 (by decide) rfl rfl ?_
    refine b_il (pc2 := 36) d_Mo_happen_34 rfl rfl ?_
    refine b_ifd (pc2 := 65) d_Mo_happen_36 rfl rfl rfl rfl rfl (fun h36 => ?_) (fun h36 => ?_)
    · exact absurd h36 (by decide)
    refine b_aln (pc2 := 40) d_Mo_happen_39 rfl rfl ?_
    refine b_ic (pc2 := 41) (x := Int32.ofNat 1) d_Mo_happen_40 rfl rfl ?_
    refine b_iln (pc2 := 42) d_Mo_happen_41 rfl rfl ?_
    refine b_ic (pc2 := 43) (x := Int32.ofNat 2) d_Mo_happen_42 rfl rfl ?_
    refine b_pure (pc2 := 44) d_Mo_happen_43 rfl rfl rfl ?_
    rw [c2 hfa]
    refine b_ic (pc2 := 45) (x := Int32.ofNat 2) d_Mo_happen_44 rfl rfl ?_
    refine b_ifd (pc2 := 52) d_Mo_happen_45 rfl rfl rfl rfl rfl (fun h45 => ?_) (fun h45 => ?_)
    · rw [i_eq (by omega) (by omega)] at h45
      have hff : fa / 2 % 2 = 0 := by omega
      rw [hff] at hK1
      refine b_ic (pc2 := 53) (x := Int32.ofNat 0) d_Mo_happen_52 rfl rfl ?_
      refine b_ll (pc2 := 55) d_Mo_happen_53 rfl rfl ?_
      refine b_cv1 (pc2 := 58) (c2 := 0) (u2 := 0) (hK1 e (by omega)) d_Mo_happen_55 q_11_312 (Nat.le_of_ble_eq_true rfl) rfl rfl (sh_130 n0) (Nat.le_of_ble_eq_true rfl) rfl rfl (by decide) (by decide) rfl ?_
      refine b_ifd (pc2 := 65) d_Mo_happen_58 rfl rfl rfl rfl rfl (fun h58 => ?_) (fun h58 => ?_)
      · exact absurd h58 (by decide)
      refine b_ic (pc2 := 62) (x := Int32.ofNat 1) d_Mo_happen_61 rfl rfl ?_
      refine b_go (pc2 := 66) d_Mo_happen_62 rfl ?_
      refine b_is (pc2 := 68) (al2 := [(7, _), (6, _), (0, _), (1, _), (2, _), (4, _)]) d_Mo_happen_66 (by decide) rfl rfl ?_
      refine b_aln (pc2 := 69) d_Mo_happen_68 rfl rfl ?_
      refine b_gr (pc2 := 72) d_Mo_happen_69 q_11_27 (sh_130 n0) (by decide) (by decide) (p_130_12 n0) rfl ?_
      refine b_ic (pc2 := 73) (x := Int32.ofNat 1) d_Mo_happen_72 rfl rfl ?_
      refine b_il (pc2 := 75) d_Mo_happen_73 rfl rfl ?_
      refine b_ifd (pc2 := 82) d_Mo_happen_75 rfl rfl rfl rfl rfl (fun h75 => ?_) (fun h75 => ?_)
      · exact absurd h75 (by decide)
      refine b_ic (pc2 := 79) (x := Int32.ofNat 0) d_Mo_happen_78 rfl rfl ?_
      refine b_go (pc2 := 90) d_Mo_happen_79 rfl ?_
      refine b_ist (pc2 := 91) (q := 1) d_Mo_happen_90 (sh_135 n0) (i_in (i := 1) (by decide) (by decide)) (rfl) (rc_135) rfl ?_
      refine b_aln (pc2 := 92) d_Mo_happen_91 rfl rfl ?_
      refine b_gr (pc2 := 95) d_Mo_happen_92 q_11_27 (sh_130 n0) (by decide) (by decide) (p_130_12 n0) rfl ?_
      refine b_ic (pc2 := 96) (x := Int32.ofNat 0) d_Mo_happen_95 rfl rfl ?_
      refine b_il (pc2 := 98) d_Mo_happen_96 rfl rfl ?_
      refine b_ifd (pc2 := 105) d_Mo_happen_98 rfl rfl rfl rfl rfl (fun h98 => ?_) (fun h98 => ?_)
      · exact absurd h98 (by decide)
      refine b_ic (pc2 := 102) (x := Int32.ofNat 0) d_Mo_happen_101 rfl rfl ?_
      refine b_go (pc2 := 113) d_Mo_happen_102 rfl ?_
      refine b_ist (pc2 := 114) (q := 0) d_Mo_happen_113 (sh_135 n0) (i_in (i := 0) (by decide) (by decide)) (rfl) (rc_135) rfl ?_
      refine b_nf (al := [(0, _), (6, _), (7, _)]) (ks := [0, 6, 7]) (sub_c rfl (sub_c rfl (sub_c rfl (sub_n)))) rfl (by decide) ?_
      dsimp only
      exact hE e (by omega)
    · rw [i_eq (by omega) (by omega)] at h45
      have hff : fa / 2 % 2 = 1 := by omega
      rw [hff] at hK1
      refine b_ic (pc2 := 49) (x := Int32.ofNat 1) d_Mo_happen_48 rfl rfl ?_
      refine b_go (pc2 := 53) d_Mo_happen_49 rfl ?_
      refine b_ll (pc2 := 55) d_Mo_happen_53 rfl rfl ?_
      refine b_cv1 (pc2 := 58) (c2 := 0) (u2 := 0) (hK1 e (by omega)) d_Mo_happen_55 q_11_312 (Nat.le_of_ble_eq_true rfl) rfl rfl (sh_130 n0) (Nat.le_of_ble_eq_true rfl) rfl rfl (by decide) (by decide) rfl ?_
      refine b_ifd (pc2 := 65) d_Mo_happen_58 rfl rfl rfl rfl rfl (fun h58 => ?_) (fun h58 => ?_)
      · exact absurd h58 (by decide)
      refine b_ic (pc2 := 62) (x := Int32.ofNat 1) d_Mo_happen_61 rfl rfl ?_
      refine b_go (pc2 := 66) d_Mo_happen_62 rfl ?_
      refine b_is (pc2 := 68) (al2 := [(7, _), (6, _), (0, _), (1, _), (2, _), (4, _)]) d_Mo_happen_66 (by decide) rfl rfl ?_
      refine b_aln (pc2 := 69) d_Mo_happen_68 rfl rfl ?_
      refine b_gr (pc2 := 72) d_Mo_happen_69 q_11_27 (sh_130 n0) (by decide) (by decide) (p_130_12 n0) rfl ?_
      refine b_ic (pc2 := 73) (x := Int32.ofNat 1) d_Mo_happen_72 rfl rfl ?_
      refine b_il (pc2 := 75) d_Mo_happen_73 rfl rfl ?_
      refine b_ifd (pc2 := 82) d_Mo_happen_75 rfl rfl rfl rfl rfl (fun h75 => ?_) (fun h75 => ?_)
      · exact absurd h75 (by decide)
      refine b_ic (pc2 := 79) (x := Int32.ofNat 0) d_Mo_happen_78 rfl rfl ?_
      refine b_go (pc2 := 90) d_Mo_happen_79 rfl ?_
      refine b_ist (pc2 := 91) (q := 1) d_Mo_happen_90 (sh_135 n0) (i_in (i := 1) (by decide) (by decide)) (rfl) (rc_135) rfl ?_
      refine b_aln (pc2 := 92) d_Mo_happen_91 rfl rfl ?_
      refine b_gr (pc2 := 95) d_Mo_happen_92 q_11_27 (sh_130 n0) (by decide) (by decide) (p_130_12 n0) rfl ?_
      refine b_ic (pc2 := 96) (x := Int32.ofNat 0) d_Mo_happen_95 rfl rfl ?_
      refine b_il (pc2 := 98) d_Mo_happen_96 rfl rfl ?_
      refine b_ifd (pc2 := 105) d_Mo_happen_98 rfl rfl rfl rfl rfl (fun h98 => ?_) (fun h98 => ?_)
      · exact absurd h98 (by decide)
      refine b_ic (pc2 := 102) (x := Int32.ofNat 0) d_Mo_happen_101 rfl rfl ?_
      refine b_go (pc2 := 113) d_Mo_happen_102 rfl ?_
      refine b_ist (pc2 := 114) (q := 0) d_Mo_happen_113 (sh_135 n0) (i_in (i := 0) (by decide) (by decide)) (rfl) (rc_135) rfl ?_
      refine b_nf (al := [(0, _), (6, _), (7, _)]) (ks := [0, 6, 7]) (sub_c rfl (sub_c rfl (sub_c rfl (sub_n)))) rfl (by decide) ?_
      dsimp only
      exact hE e (by omega)
  · rw [i_eq (by omega) (by omega)] at h20
    have hfe : fa % 2 = 1 := by omega
    rw [hfe] at hK0
    refine b_ic (pc2 := 24) (x := Int32.ofNat 1) d_Mo_happen_23 rfl rfl ?_
    refine b_go (pc2 := 28) d_Mo_happen_24 rfl ?_
    refine b_lln (pc2 := 29) d_Mo_happen_28 rfl rfl ?_
    refine b_cv1 (pc2 := 32) (c2 := 0) (u2 := 0) (hK0 e (by omega)) d_Mo_happen_29 q_11_312 (Nat.le_of_ble_eq_true rfl) rfl rfl (sh_130 n0) (Nat.le_of_ble_eq_true rfl) rfl rfl (by decide) (by decide) rfl ?_
    refine b_is (pc2 := 34) (al2 := [(6, _), (0, _), (1, _), (2, _), (4, _)]) d_Mo_happen_32 (by decide) rfl rfl ?_
    refine b_il (pc2 := 36) d_Mo_happen_34 rfl rfl ?_
    refine b_ifd (pc2 := 65) d_Mo_happen_36 rfl rfl rfl rfl rfl (fun h36 => ?_) (fun h36 => ?_)
    · exact absurd h36 (by decide)
    refine b_aln (pc2 := 40) d_Mo_happen_39 rfl rfl ?_
    refine b_ic (pc2 := 41) (x := Int32.ofNat 1) d_Mo_happen_40 rfl rfl ?_
    refine b_iln (pc2 := 42) d_Mo_happen_41 rfl rfl ?_
    refine b_ic (pc2 := 43) (x := Int32.ofNat 2) d_Mo_happen_42 rfl rfl ?_
    refine b_pure (pc2 := 44) d_Mo_happen_43 rfl rfl rfl ?_
    rw [c2 hfa]
    refine b_ic (pc2 := 45) (x := Int32.ofNat 2) d_Mo_happen_44 rfl rfl ?_
    refine b_ifd (pc2 := 52) d_Mo_happen_45 rfl rfl rfl rfl rfl (fun h45 => ?_) (fun h45 => ?_)
    · rw [i_eq (by omega) (by omega)] at h45
      have hff : fa / 2 % 2 = 0 := by omega
      rw [hff] at hK1
      refine b_ic (pc2 := 53) (x := Int32.ofNat 0) d_Mo_happen_52 rfl rfl ?_
      refine b_ll (pc2 := 55) d_Mo_happen_53 rfl rfl ?_
      refine b_cv1 (pc2 := 58) (c2 := 0) (u2 := 0) (hK1 e (by omega)) d_Mo_happen_55 q_11_312 (Nat.le_of_ble_eq_true rfl) rfl rfl (sh_130 n0) (Nat.le_of_ble_eq_true rfl) rfl rfl (by decide) (by decide) rfl ?_
      refine b_ifd (pc2 := 65) d_Mo_happen_58 rfl rfl rfl rfl rfl (fun h58 => ?_) (fun h58 => ?_)
      · exact absurd h58 (by decide)
      refine b_ic (pc2 := 62) (x := Int32.ofNat 1) d_Mo_happen_61 rfl rfl ?_
      refine b_go (pc2 := 66) d_Mo_happen_62 rfl ?_
      refine b_is (pc2 := 68) (al2 := [(7, _), (6, _), (0, _), (1, _), (2, _), (4, _)]) d_Mo_happen_66 (by decide) rfl rfl ?_
      refine b_aln (pc2 := 69) d_Mo_happen_68 rfl rfl ?_
      refine b_gr (pc2 := 72) d_Mo_happen_69 q_11_27 (sh_130 n0) (by decide) (by decide) (p_130_12 n0) rfl ?_
      refine b_ic (pc2 := 73) (x := Int32.ofNat 1) d_Mo_happen_72 rfl rfl ?_
      refine b_il (pc2 := 75) d_Mo_happen_73 rfl rfl ?_
      refine b_ifd (pc2 := 82) d_Mo_happen_75 rfl rfl rfl rfl rfl (fun h75 => ?_) (fun h75 => ?_)
      · exact absurd h75 (by decide)
      refine b_ic (pc2 := 79) (x := Int32.ofNat 0) d_Mo_happen_78 rfl rfl ?_
      refine b_go (pc2 := 90) d_Mo_happen_79 rfl ?_
      refine b_ist (pc2 := 91) (q := 1) d_Mo_happen_90 (sh_135 n0) (i_in (i := 1) (by decide) (by decide)) (rfl) (rc_135) rfl ?_
      refine b_aln (pc2 := 92) d_Mo_happen_91 rfl rfl ?_
      refine b_gr (pc2 := 95) d_Mo_happen_92 q_11_27 (sh_130 n0) (by decide) (by decide) (p_130_12 n0) rfl ?_
      refine b_ic (pc2 := 96) (x := Int32.ofNat 0) d_Mo_happen_95 rfl rfl ?_
      refine b_il (pc2 := 98) d_Mo_happen_96 rfl rfl ?_
      refine b_ifd (pc2 := 105) d_Mo_happen_98 rfl rfl rfl rfl rfl (fun h98 => ?_) (fun h98 => ?_)
      · exact absurd h98 (by decide)
      refine b_ic (pc2 := 102) (x := Int32.ofNat 0) d_Mo_happen_101 rfl rfl ?_
      refine b_go (pc2 := 113) d_Mo_happen_102 rfl ?_
      refine b_ist (pc2 := 114) (q := 0) d_Mo_happen_113 (sh_135 n0) (i_in (i := 0) (by decide) (by decide)) (rfl) (rc_135) rfl ?_
      refine b_nf (al := [(0, _), (6, _), (7, _)]) (ks := [0, 6, 7]) (sub_c rfl (sub_c rfl (sub_c rfl (sub_n)))) rfl (by decide) ?_
      dsimp only
      exact hE e (by omega)
    · rw [i_eq (by omega) (by omega)] at h45
      have hff : fa / 2 % 2 = 1 := by omega
      rw [hff] at hK1
      refine b_ic (pc2 := 49) (x := Int32.ofNat 1) d_Mo_happen_48 rfl rfl ?_
      refine b_go (pc2 := 53) d_Mo_happen_49 rfl ?_
      refine b_ll (pc2 := 55) d_Mo_happen_53 rfl rfl ?_
      refine b_cv1 (pc2 := 58) (c2 := 0) (u2 := 0) (hK1 e (by omega)) d_Mo_happen_55 q_11_312 (Nat.le_of_ble_eq_true rfl) rfl rfl (sh_130 n0) (Nat.le_of_ble_eq_true rfl) rfl rfl (by decide) (by decide) rfl ?_
      refine b_ifd (pc2 := 65) d_Mo_happen_58 rfl rfl rfl rfl rfl (fun h58 => ?_) (fun h58 => ?_)
      · exact absurd h58 (by decide)
      refine b_ic (pc2 := 62) (x := Int32.ofNat 1) d_Mo_happen_61 rfl rfl ?_
      refine b_go (pc2 := 66) d_Mo_happen_62 rfl ?_
      refine b_is (pc2 := 68) (al2 := [(7, _), (6, _), (0, _), (1, _), (2, _), (4, _)]) d_Mo_happen_66 (by decide) rfl rfl ?_
      refine b_aln (pc2 := 69) d_Mo_happen_68 rfl rfl ?_
      refine b_gr (pc2 := 72) d_Mo_happen_69 q_11_27 (sh_130 n0) (by decide) (by decide) (p_130_12 n0) rfl ?_
      refine b_ic (pc2 := 73) (x := Int32.ofNat 1) d_Mo_happen_72 rfl rfl ?_
      refine b_il (pc2 := 75) d_Mo_happen_73 rfl rfl ?_
      refine b_ifd (pc2 := 82) d_Mo_happen_75 rfl rfl rfl rfl rfl (fun h75 => ?_) (fun h75 => ?_)
      · exact absurd h75 (by decide)
      refine b_ic (pc2 := 79) (x := Int32.ofNat 0) d_Mo_happen_78 rfl rfl ?_
      refine b_go (pc2 := 90) d_Mo_happen_79 rfl ?_
      refine b_ist (pc2 := 91) (q := 1) d_Mo_happen_90 (sh_135 n0) (i_in (i := 1) (by decide) (by decide)) (rfl) (rc_135) rfl ?_
      refine b_aln (pc2 := 92) d_Mo_happen_91 rfl rfl ?_
      refine b_gr (pc2 := 95) d_Mo_happen_92 q_11_27 (sh_130 n0) (by decide) (by decide) (p_130_12 n0) rfl ?_
      refine b_ic (pc2 := 96) (x := Int32.ofNat 0) d_Mo_happen_95 rfl rfl ?_
      refine b_il (pc2 := 98) d_Mo_happen_96 rfl rfl ?_
      refine b_ifd (pc2 := 105) d_Mo_happen_98 rfl rfl rfl rfl rfl (fun h98 => ?_) (fun h98 => ?_)
      · exact absurd h98 (by decide)
      refine b_ic (pc2 := 102) (x := Int32.ofNat 0) d_Mo_happen_101 rfl rfl ?_
      refine b_go (pc2 := 113) d_Mo_happen_102 rfl ?_
      refine b_ist (pc2 := 114) (q := 0) d_Mo_happen_113 (sh_135 n0) (i_in (i := 0) (by decide) (by decide)) (rfl) (rc_135) rfl ?_
      refine b_nf (al := [(0, _), (6, _), (7, _)]) (ks := [0, 6, 7]) (sub_c rfl (sub_c rfl (sub_c rfl (sub_n)))) rfl (by decide) ?_
      dsimp only
      exact hE e (by omega)
theorem mo_event1 {d : Nat} (hd : 11 ≤ d) {x : Int32} {up dw : Int64} (hx : x < 0 ∨ Int32.ofNat 3 < x) : bm d (S0 n0) R0 143 [.ref 130, .int x, .long up, .long dw] W J g L (bR (some (.int (Int32.ofNat 0))) W (am_u2 J 130 0 (Int32.ofNat 1)) g L) := by
  obtain ⟨e, rfl⟩ : ∃ e, d = e + 1 := ⟨d - 1, by omega⟩
  refine bm_of (Nat.le_of_ble_eq_true rfl) (Or.inr bR_ret) ?_
  show bT e (S0 n0) R0 mt_Mo_event _ 0 [(0, .ref 130), (1, .int x), (2, .long up), (4, .long dw)] [] W J g L 0 0
  have hSR := SR0 n0
  refine b_aln (pc2 := 1) d_Mo_event_0 rfl rfl ?_
  refine b_iln (pc2 := 2) d_Mo_event_1 rfl rfl ?_
  refine b_ifd (pc2 := 10) d_Mo_event_2 rfl rfl rfl rfl rfl (fun h2 => ?_) (fun h2 => ?_)
  · refine b_ic (pc2 := 11) (x := Int32.ofNat 1) d_Mo_event_10 rfl rfl ?_
    refine b_go (pc2 := 26) d_Mo_event_11 rfl ?_
    refine b_pi (pc2 := 29) d_Mo_event_26 q_11_135 (sh_130 n0) (by decide) (Or.inl (by decide)) (Or.inl rfl) (rc_130) rfl ?_
    refine b_aln (pc2 := 30) d_Mo_event_29 rfl rfl ?_
    refine b_gi (pc2 := 33) d_Mo_event_30 q_11_135 (sh_130 n0) (by decide) (by decide) (rc_130) rfl ?_
    rw [u2_at]
    refine b_ifd (pc2 := 40) d_Mo_event_33 rfl rfl rfl rfl rfl (fun h33 => ?_) (fun h33 => ?_)
    · exact absurd h33 (by decide)
    refine b_ic (pc2 := 37) (x := Int32.ofNat 0) d_Mo_event_36 rfl rfl ?_
    refine b_go (pc2 := 48) d_Mo_event_37 rfl ?_
    refine b_ir d_Mo_event_48 rfl ?_
    exact ⟨rfl, rfl, rfl, rfl, rfl⟩
  · refine b_iln (pc2 := 6) d_Mo_event_5 rfl rfl ?_
    refine b_ic (pc2 := 7) (x := Int32.ofNat 3) d_Mo_event_6 rfl rfl ?_
    refine b_ifd (pc2 := 14) d_Mo_event_7 rfl rfl rfl rfl rfl (fun h7 => ?_) (fun h7 => ?_)
    · exact absurd hx (fun z => z.elim h2 (fun q => Int32.not_lt.mpr h7 q))
    · refine b_ic (pc2 := 11) (x := Int32.ofNat 1) d_Mo_event_10 rfl rfl ?_
      refine b_go (pc2 := 26) d_Mo_event_11 rfl ?_
      refine b_pi (pc2 := 29) d_Mo_event_26 q_11_135 (sh_130 n0) (by decide) (Or.inl (by decide)) (Or.inl rfl) (rc_130) rfl ?_
      refine b_aln (pc2 := 30) d_Mo_event_29 rfl rfl ?_
      refine b_gi (pc2 := 33) d_Mo_event_30 q_11_135 (sh_130 n0) (by decide) (by decide) (rc_130) rfl ?_
      rw [u2_at]
      refine b_ifd (pc2 := 40) d_Mo_event_33 rfl rfl rfl rfl rfl (fun h33 => ?_) (fun h33 => ?_)
      · exact absurd h33 (by decide)
      refine b_ic (pc2 := 37) (x := Int32.ofNat 0) d_Mo_event_36 rfl rfl ?_
      refine b_go (pc2 := 48) d_Mo_event_37 rfl ?_
      refine b_ir d_Mo_event_48 rfl ?_
      exact ⟨rfl, rfl, rfl, rfl, rfl⟩
theorem mo_event2 {d : Nat} (hd : 11 ≤ d) {fa : Nat} {up dw : Int64} (hfa : fa < 4) (hdn : J 130 7 = Int32.ofNat 1) : bm d (S0 n0) R0 143 [.ref 130, .int (Int32.ofNat fa), .long up, .long dw] W J g L (bR (some (.int (Int32.ofNat 0))) W (am_u2 J 130 0 (Int32.ofNat 2)) g L) := by
  obtain ⟨e, rfl⟩ : ∃ e, d = e + 1 := ⟨d - 1, by omega⟩
  refine bm_of (Nat.le_of_ble_eq_true rfl) (Or.inr bR_ret) ?_
  show bT e (S0 n0) R0 mt_Mo_event _ 0 [(0, .ref 130), (1, .int (Int32.ofNat fa)), (2, .long up), (4, .long dw)] [] W J g L 0 0
  have hSR := SR0 n0
  refine b_aln (pc2 := 1) d_Mo_event_0 rfl rfl ?_
  refine b_iln (pc2 := 2) d_Mo_event_1 rfl rfl ?_
  refine b_ifd (pc2 := 10) d_Mo_event_2 rfl rfl rfl rfl rfl (fun h2 => ?_) (fun h2 => ?_)
  · exact absurd h2 (fun z => by rw [z_lt (by omega)] at z; omega)
  refine b_iln (pc2 := 6) d_Mo_event_5 rfl rfl ?_
  refine b_ic (pc2 := 7) (x := Int32.ofNat 3) d_Mo_event_6 rfl rfl ?_
  refine b_ifd (pc2 := 14) d_Mo_event_7 rfl rfl rfl rfl rfl (fun h7 => ?_) (fun h7 => ?_)
  rotate_left
  · exact absurd (by rw [i_le (by omega) (by omega)]; omega) h7
  refine b_aln (pc2 := 15) d_Mo_event_14 rfl rfl ?_
  refine b_gi (pc2 := 18) d_Mo_event_15 q_11_283 (sh_130 n0) (by decide) (by decide) (rc_130) rfl ?_
  rw [hdn]
  refine b_ifd (pc2 := 25) d_Mo_event_18 rfl rfl rfl rfl rfl (fun h18 => ?_) (fun h18 => ?_)
  · exact absurd h18 (by decide)
  refine b_ic (pc2 := 22) (x := Int32.ofNat 2) d_Mo_event_21 rfl rfl ?_
  refine b_go (pc2 := 26) d_Mo_event_22 rfl ?_
  refine b_pi (pc2 := 29) d_Mo_event_26 q_11_135 (sh_130 n0) (by decide) (Or.inl (by decide)) (Or.inl rfl) (rc_130) rfl ?_
  refine b_aln (pc2 := 30) d_Mo_event_29 rfl rfl ?_
  refine b_gi (pc2 := 33) d_Mo_event_30 q_11_135 (sh_130 n0) (by decide) (by decide) (rc_130) rfl ?_
  rw [u2_at]
  refine b_ifd (pc2 := 40) d_Mo_event_33 rfl rfl rfl rfl rfl (fun h33 => ?_) (fun h33 => ?_)
  · exact absurd h33 (by decide)
  refine b_ic (pc2 := 37) (x := Int32.ofNat 0) d_Mo_event_36 rfl rfl ?_
  refine b_go (pc2 := 48) d_Mo_event_37 rfl ?_
  refine b_ir d_Mo_event_48 rfl ?_
  exact ⟨rfl, rfl, rfl, rfl, rfl⟩
theorem mo_event0 {d : Nat} (hd : 11 ≤ d) {fa : Nat} {up dw : Int64} (hfa : fa < 4) (hdn : J 130 7 = Int32.ofNat 0) {rv : Int32} (hH : ∀ e, 10 ≤ e → bm e (S0 n0) R0 144 [.ref 130, .int (Int32.ofNat fa), .long up, .long dw] W (am_u2 J 130 0 (Int32.ofNat 0)) g L (bR (some (.int rv)) W J1 g L)) : bm d (S0 n0) R0 143 [.ref 130, .int (Int32.ofNat fa), .long up, .long dw] W J g L (bR (some (.int rv)) W J1 g L) := by
  obtain ⟨e, rfl⟩ : ∃ e, d = e + 1 := ⟨d - 1, by omega⟩
  refine bm_of (Nat.le_of_ble_eq_true rfl) (Or.inr bR_ret) ?_
  show bT e (S0 n0) R0 mt_Mo_event _ 0 [(0, .ref 130), (1, .int (Int32.ofNat fa)), (2, .long up), (4, .long dw)] [] W J g L 0 0
  have hSR := SR0 n0
  refine b_aln (pc2 := 1) d_Mo_event_0 rfl rfl ?_
  refine b_iln (pc2 := 2) d_Mo_event_1 rfl rfl ?_
  refine b_ifd (pc2 := 10) d_Mo_event_2 rfl rfl rfl rfl rfl (fun h2 => ?_) (fun h2 => ?_)
  · exact absurd h2 (fun z => by rw [z_lt (by omega)] at z; omega)
  refine b_iln (pc2 := 6) d_Mo_event_5 rfl rfl ?_
  refine b_ic (pc2 := 7) (x := Int32.ofNat 3) d_Mo_event_6 rfl rfl ?_
  refine b_ifd (pc2 := 14) d_Mo_event_7 rfl rfl rfl rfl rfl (fun h7 => ?_) (fun h7 => ?_)
  rotate_left
  · exact absurd (by rw [i_le (by omega) (by omega)]; omega) h7
  refine b_aln (pc2 := 15) d_Mo_event_14 rfl rfl ?_
  refine b_gi (pc2 := 18) d_Mo_event_15 q_11_283 (sh_130 n0) (by decide) (by decide) (rc_130) rfl ?_
  rw [hdn]
  refine b_ifd (pc2 := 25) d_Mo_event_18 rfl rfl rfl rfl rfl (fun h18 => ?_) (fun h18 => ?_)
  rotate_left
  · exact absurd (by decide) h18
  refine b_ic (pc2 := 26) (x := Int32.ofNat 0) d_Mo_event_25 rfl rfl ?_
  refine b_pi (pc2 := 29) d_Mo_event_26 q_11_135 (sh_130 n0) (by decide) (Or.inl (by decide)) (Or.inl rfl) (rc_130) rfl ?_
  refine b_aln (pc2 := 30) d_Mo_event_29 rfl rfl ?_
  refine b_gi (pc2 := 33) d_Mo_event_30 q_11_135 (sh_130 n0) (by decide) (by decide) (rc_130) rfl ?_
  rw [u2_at]
  refine b_ifd (pc2 := 40) d_Mo_event_33 rfl rfl rfl rfl rfl (fun h33 => ?_) (fun h33 => ?_)
  rotate_left
  · exact absurd (by decide) h33
  refine b_aln (pc2 := 41) d_Mo_event_40 rfl rfl ?_
  refine b_iln (pc2 := 42) d_Mo_event_41 rfl rfl ?_
  refine b_lln (pc2 := 43) d_Mo_event_42 rfl rfl ?_
  refine b_ll (pc2 := 45) d_Mo_event_43 rfl rfl ?_
  refine b_cv1 (pc2 := 48) (c2 := 0) (u2 := 0) (hH e (by omega)) d_Mo_event_45 q_11_316 (Nat.le_of_ble_eq_true rfl) rfl rfl (sh_130 n0) (Nat.le_of_ble_eq_true rfl) rfl rfl (by decide) (by decide) rfl ?_
  refine b_ir d_Mo_event_48 rfl ?_
  exact ⟨rfl, rfl, rfl, rfl, rfl⟩
theorem mo_run1 {d : Nat} (hd : 11 ≤ d) {x : Int32} (hx : x < Int32.ofNat 1 ∨ Int32.ofNat 40 < x) : bm d (S0 n0) R0 171 [.ref 130, .int x] W J g L (bR (some (.int (Int32.ofNat 0))) W (am_u2 J 130 0 (Int32.ofNat 1)) g L) := by
  obtain ⟨e, rfl⟩ : ∃ e, d = e + 1 := ⟨d - 1, by omega⟩
  refine bm_of (Nat.le_of_ble_eq_true rfl) (Or.inr bR_ret) ?_
  show bT e (S0 n0) R0 mt_Mo_run _ 0 [(0, .ref 130), (1, .int x)] [] W J g L 0 0
  have hSR := SR0 n0
  refine b_aln (pc2 := 1) d_Mo_run_0 rfl rfl ?_
  refine b_iln (pc2 := 2) d_Mo_run_1 rfl rfl ?_
  refine b_ic (pc2 := 3) (x := Int32.ofNat 1) d_Mo_run_2 rfl rfl ?_
  refine b_ifd (pc2 := 12) d_Mo_run_3 rfl rfl rfl rfl rfl (fun h3 => ?_) (fun h3 => ?_)
  · refine b_ic (pc2 := 13) (x := Int32.ofNat 1) d_Mo_run_12 rfl rfl ?_
    refine b_go (pc2 := 17) d_Mo_run_13 rfl ?_
    refine b_pi (pc2 := 20) d_Mo_run_17 q_11_135 (sh_130 n0) (by decide) (Or.inl (by decide)) (Or.inl rfl) (rc_130) rfl ?_
    refine b_ic (pc2 := 21) (x := Int32.ofNat 0) d_Mo_run_20 rfl rfl ?_
    refine b_isn (pc2 := 22) (al2 := [(2, _), (0, _), (1, _)]) d_Mo_run_21 (by decide) rfl rfl ?_
    refine b_ic (pc2 := 23) (x := Int32.ofNat 0) d_Mo_run_22 rfl rfl ?_
    refine b_isn (pc2 := 24) (al2 := [(3, _), (2, _), (0, _), (1, _)]) d_Mo_run_23 (by decide) rfl rfl ?_
    refine b_iln (pc2 := 25) d_Mo_run_24 rfl rfl ?_
    refine b_iln (pc2 := 26) d_Mo_run_25 rfl rfl ?_
    refine b_ifd (pc2 := 67) d_Mo_run_26 rfl rfl rfl rfl rfl (fun h26 => ?_) (fun h26 => ?_)
    · refine b_iln (pc2 := 68) d_Mo_run_67 rfl rfl ?_
      refine b_ir d_Mo_run_68 rfl ?_
      exact ⟨rfl, rfl, rfl, rfl, rfl⟩
    · refine b_aln (pc2 := 30) d_Mo_run_29 rfl rfl ?_
      refine b_gi (pc2 := 33) d_Mo_run_30 q_11_135 (sh_130 n0) (by decide) (by decide) (rc_130) rfl ?_
      rw [u2_at]
      refine b_ifd (pc2 := 67) d_Mo_run_33 rfl rfl rfl rfl rfl (fun h33 => ?_) (fun h33 => ?_)
      rotate_left
      · exact absurd (by decide) h33
      refine b_iln (pc2 := 68) d_Mo_run_67 rfl rfl ?_
      refine b_ir d_Mo_run_68 rfl ?_
      exact ⟨rfl, rfl, rfl, rfl, rfl⟩
  · refine b_iln (pc2 := 7) d_Mo_run_6 rfl rfl ?_
    refine b_bp (pc2 := 9) (x := Int32.ofNat 40) d_Mo_run_7 rfl rfl ?_
    refine b_ifd (pc2 := 16) d_Mo_run_9 rfl rfl rfl rfl rfl (fun h9 => ?_) (fun h9 => ?_)
    · exact absurd hx (fun z => z.elim h3 (fun q => Int32.not_lt.mpr h9 q))
    · refine b_ic (pc2 := 13) (x := Int32.ofNat 1) d_Mo_run_12 rfl rfl ?_
      refine b_go (pc2 := 17) d_Mo_run_13 rfl ?_
      refine b_pi (pc2 := 20) d_Mo_run_17 q_11_135 (sh_130 n0) (by decide) (Or.inl (by decide)) (Or.inl rfl) (rc_130) rfl ?_
      refine b_ic (pc2 := 21) (x := Int32.ofNat 0) d_Mo_run_20 rfl rfl ?_
      refine b_isn (pc2 := 22) (al2 := [(2, _), (0, _), (1, _)]) d_Mo_run_21 (by decide) rfl rfl ?_
      refine b_ic (pc2 := 23) (x := Int32.ofNat 0) d_Mo_run_22 rfl rfl ?_
      refine b_isn (pc2 := 24) (al2 := [(3, _), (2, _), (0, _), (1, _)]) d_Mo_run_23 (by decide) rfl rfl ?_
      refine b_iln (pc2 := 25) d_Mo_run_24 rfl rfl ?_
      refine b_iln (pc2 := 26) d_Mo_run_25 rfl rfl ?_
      refine b_ifd (pc2 := 67) d_Mo_run_26 rfl rfl rfl rfl rfl (fun h26 => ?_) (fun h26 => ?_)
      · refine b_iln (pc2 := 68) d_Mo_run_67 rfl rfl ?_
        refine b_ir d_Mo_run_68 rfl ?_
        exact ⟨rfl, rfl, rfl, rfl, rfl⟩
      · refine b_aln (pc2 := 30) d_Mo_run_29 rfl rfl ?_
        refine b_gi (pc2 := 33) d_Mo_run_30 q_11_135 (sh_130 n0) (by decide) (by decide) (rc_130) rfl ?_
        rw [u2_at]
        refine b_ifd (pc2 := 67) d_Mo_run_33 rfl rfl rfl rfl rfl (fun h33 => ?_) (fun h33 => ?_)
        rotate_left
        · exact absurd (by decide) h33
        refine b_iln (pc2 := 68) d_Mo_run_67 rfl rfl ?_
        refine b_ir d_Mo_run_68 rfl ?_
        exact ⟨rfl, rfl, rfl, rfl, rfl⟩
theorem lp_run {e : Nat} (he : 10 ≤ e) {n m : Nat} (hn : n ≤ 40) (hm : m ≤ n) {Js : Nat → bw_J} {rv : Nat → Nat} (hrv : ∀ k, rv k ≤ 3) (hs : ∀ k, k < m → ∀ e, 10 ≤ e → bm e (S0 n0) R0 144 [.ref 130, .int (Int32.ofNat 0), .long 0, .long 0] W (Js k) g L (bR (some (.int (Int32.ofNat (rv k)))) W (Js (k + 1)) g L)) (ht : ∀ k, k ≤ m → Js k 130 0 = Int32.ofNat 0) (hd0 : ∀ k, k < m → Js k 130 7 = Int32.ofNat 0) (hend : m = n ∨ Js m 130 7 = Int32.ofNat 1) : ∀ (r k : Nat), k + r = m → bT e (S0 n0) R0 mt_Mo_run (bR (some (.int (Int32.ofNat m))) W (Js m) g L) 24 [(3, .int (Int32.ofNat k)), (2, .int (Int32.ofNat k)), (0, .ref 130), (1, .int (Int32.ofNat n))] [] W (Js k) g L 0 0 := by
  intro r
  induction r with
  | zero =>
    intro k hk
    have hkm : k = m := by omega
    subst hkm
    rcases hend with hend | hend
    · subst hend
      refine b_iln (pc2 := 25) d_Mo_run_24 rfl rfl ?_
      refine b_iln (pc2 := 26) d_Mo_run_25 rfl rfl ?_
      refine b_ifd (pc2 := 67) d_Mo_run_26 rfl rfl rfl rfl rfl (fun h26 => ?_) (fun h26 => ?_)
      rotate_left
      · exact absurd (by rw [i_le (by omega) (by omega)]; omega) h26
      refine b_iln (pc2 := 68) d_Mo_run_67 rfl rfl ?_
      refine b_ir d_Mo_run_68 rfl ?_
      exact ⟨rfl, rfl, rfl, rfl, rfl⟩
    · skip
      refine b_iln (pc2 := 25) d_Mo_run_24 rfl rfl ?_
      refine b_iln (pc2 := 26) d_Mo_run_25 rfl rfl ?_
      refine b_ifd (pc2 := 67) d_Mo_run_26 rfl rfl rfl rfl rfl (fun h26 => ?_) (fun h26 => ?_)
      · rw [i_le (by omega) (by omega)] at h26
        refine b_iln (pc2 := 68) d_Mo_run_67 rfl rfl ?_
        refine b_ir d_Mo_run_68 rfl ?_
        exact ⟨rfl, rfl, rfl, rfl, rfl⟩
      · rw [i_le (by omega) (by omega)] at h26
        refine b_aln (pc2 := 30) d_Mo_run_29 rfl rfl ?_
        refine b_gi (pc2 := 33) d_Mo_run_30 q_11_135 (sh_130 n0) (by decide) (by decide) (rc_130) rfl ?_
        rw [ht k (Nat.le_refl _)]
        refine b_ifd (pc2 := 67) d_Mo_run_33 rfl rfl rfl rfl rfl (fun h33 => ?_) (fun h33 => ?_)
        · exact absurd h33 (by decide)
        refine b_aln (pc2 := 37) d_Mo_run_36 rfl rfl ?_
        refine b_gi (pc2 := 40) d_Mo_run_37 q_11_283 (sh_130 n0) (by decide) (by decide) (rc_130) rfl ?_
        rw [hend]
        refine b_ifd (pc2 := 67) d_Mo_run_40 rfl rfl rfl rfl rfl (fun h40 => ?_) (fun h40 => ?_)
        rotate_left
        · exact absurd (by decide) h40
        refine b_iln (pc2 := 68) d_Mo_run_67 rfl rfl ?_
        refine b_ir d_Mo_run_68 rfl ?_
        exact ⟨rfl, rfl, rfl, rfl, rfl⟩
  | succ r ih =>
    intro k hk
    have hr3 := hrv k
    refine b_iln (pc2 := 25) d_Mo_run_24 rfl rfl ?_
    refine b_iln (pc2 := 26) d_Mo_run_25 rfl rfl ?_
    refine b_ifd (pc2 := 67) d_Mo_run_26 rfl rfl rfl rfl rfl (fun h26 => ?_) (fun h26 => ?_)
    · exact absurd h26 (fun z => by rw [i_le (by omega) (by omega)] at z; omega)
    refine b_aln (pc2 := 30) d_Mo_run_29 rfl rfl ?_
    refine b_gi (pc2 := 33) d_Mo_run_30 q_11_135 (sh_130 n0) (by decide) (by decide) (rc_130) rfl ?_
    rw [ht k (by omega)]
    refine b_ifd (pc2 := 67) d_Mo_run_33 rfl rfl rfl rfl rfl (fun h33 => ?_) (fun h33 => ?_)
    · exact absurd h33 (by decide)
    refine b_aln (pc2 := 37) d_Mo_run_36 rfl rfl ?_
    refine b_gi (pc2 := 40) d_Mo_run_37 q_11_283 (sh_130 n0) (by decide) (by decide) (rc_130) rfl ?_
    rw [hd0 k (by omega)]
    refine b_ifd (pc2 := 67) d_Mo_run_40 rfl rfl rfl rfl rfl (fun h40 => ?_) (fun h40 => ?_)
    · exact absurd h40 (by decide)
    refine b_aln (pc2 := 44) d_Mo_run_43 rfl rfl ?_
    refine b_ic (pc2 := 45) (x := Int32.ofNat 0) d_Mo_run_44 rfl rfl ?_
    refine b_pure (pc2 := 46) d_Mo_run_45 rfl rfl rfl ?_
    refine b_pure (pc2 := 47) d_Mo_run_46 rfl rfl rfl ?_
    refine b_cv1 (pc2 := 50) (c2 := 0) (u2 := 0) (hs k (by omega) e he) d_Mo_run_47 q_11_316 (Nat.le_of_ble_eq_true rfl) rfl rfl (sh_130 n0) (Nat.le_of_ble_eq_true rfl) rfl rfl (by decide) (by decide) rfl ?_
    refine b_ifd (pc2 := 59) d_Mo_run_50 rfl rfl rfl rfl rfl (fun h50 => ?_) (fun h50 => ?_)
    · exact absurd h50 (fun z => by rw [z_lt (by omega)] at z; omega)
    refine b_iln (pc2 := 54) d_Mo_run_53 rfl rfl ?_
    refine b_ic (pc2 := 55) (x := Int32.ofNat 1) d_Mo_run_54 rfl rfl ?_
    refine b_pure (pc2 := 56) d_Mo_run_55 rfl rfl rfl ?_
    rw [i_add]
    refine b_go (pc2 := 60) d_Mo_run_56 rfl ?_
    refine b_isn (pc2 := 61) (al2 := [(2, _), (3, _), (0, _), (1, _)]) d_Mo_run_60 (by decide) rfl rfl ?_
    refine b_inc (pc2 := 64) (al2 := [(3, _), (2, _), (0, _), (1, _)]) (y := Int32.ofNat 1) d_Mo_run_61 (by decide) rfl rfl rfl rfl ?_
    rw [i_add]
    refine b_go (pc2 := 24) d_Mo_run_64 rfl ?_
    refine b_nf (al := [(3, _), (2, _), (0, _), (1, _)]) (ks := [3, 2, 0, 1]) (sub_c rfl (sub_c rfl (sub_c rfl (sub_c rfl (sub_n))))) rfl (by decide) ?_
    dsimp only
    exact ih (k + 1) (by omega)
theorem mo_run0 {d : Nat} (hd : 11 ≤ d) {n m : Nat} (hn : n ≤ 40) (hm : m ≤ n) {Js : Nat → bw_J} {rv : Nat → Nat} (hrv : ∀ k, rv k ≤ 3) (hs : ∀ k, k < m → ∀ e, 10 ≤ e → bm e (S0 n0) R0 144 [.ref 130, .int (Int32.ofNat 0), .long 0, .long 0] W (Js k) g L (bR (some (.int (Int32.ofNat (rv k)))) W (Js (k + 1)) g L)) (ht : ∀ k, k ≤ m → Js k 130 0 = Int32.ofNat 0) (hd0 : ∀ k, k < m → Js k 130 7 = Int32.ofNat 0) (hend : m = n ∨ Js m 130 7 = Int32.ofNat 1) (hn1 : 1 ≤ n) (h0 : Js 0 = am_u2 J 130 0 (Int32.ofNat 0)) : bm d (S0 n0) R0 171 [.ref 130, .int (Int32.ofNat n)] W J g L (bR (some (.int (Int32.ofNat m))) W (Js m) g L) := by
  obtain ⟨e, rfl⟩ : ∃ e, d = e + 1 := ⟨d - 1, by omega⟩
  refine bm_of (Nat.le_of_ble_eq_true rfl) (Or.inr bR_ret) ?_
  show bT e (S0 n0) R0 mt_Mo_run _ 0 [(0, .ref 130), (1, .int (Int32.ofNat n))] [] W J g L 0 0
  have hSR := SR0 n0
  refine b_aln (pc2 := 1) d_Mo_run_0 rfl rfl ?_
  refine b_iln (pc2 := 2) d_Mo_run_1 rfl rfl ?_
  refine b_ic (pc2 := 3) (x := Int32.ofNat 1) d_Mo_run_2 rfl rfl ?_
  refine b_ifd (pc2 := 12) d_Mo_run_3 rfl rfl rfl rfl rfl (fun h3 => ?_) (fun h3 => ?_)
  · exact absurd h3 (fun z => by rw [i_lt (by omega) (by omega)] at z; omega)
  refine b_iln (pc2 := 7) d_Mo_run_6 rfl rfl ?_
  refine b_bp (pc2 := 9) (x := Int32.ofNat 40) d_Mo_run_7 rfl rfl ?_
  refine b_ifd (pc2 := 16) d_Mo_run_9 rfl rfl rfl rfl rfl (fun h9 => ?_) (fun h9 => ?_)
  rotate_left
  · exact absurd (by rw [i_le (by omega) (by omega)]; omega) h9
  refine b_ic (pc2 := 17) (x := Int32.ofNat 0) d_Mo_run_16 rfl rfl ?_
  refine b_pi (pc2 := 20) d_Mo_run_17 q_11_135 (sh_130 n0) (by decide) (Or.inl (by decide)) (Or.inl rfl) (rc_130) rfl ?_
  refine b_ic (pc2 := 21) (x := Int32.ofNat 0) d_Mo_run_20 rfl rfl ?_
  refine b_isn (pc2 := 22) (al2 := [(2, _), (0, _), (1, _)]) d_Mo_run_21 (by decide) rfl rfl ?_
  refine b_ic (pc2 := 23) (x := Int32.ofNat 0) d_Mo_run_22 rfl rfl ?_
  refine b_isn (pc2 := 24) (al2 := [(3, _), (2, _), (0, _), (1, _)]) d_Mo_run_23 (by decide) rfl rfl ?_
  refine b_nf (al := [(3, _), (2, _), (0, _), (1, _)]) (ks := [3, 2, 0, 1]) (sub_c rfl (sub_c rfl (sub_c rfl (sub_c rfl (sub_n))))) rfl (by decide) ?_
  dsimp only
  rw [← h0]
  exact lp_run (by omega) hn hm hrv hs ht hd0 hend m 0 (by omega)
end ME
