/-! Part 61 (written by gen12.py): Inbox, and small ones -/
/-- a walk may take the rows' rooms for granted -/
theorem b_free {d : Nat} {S : am_S} {R : Nat → Option Nat} {M : am_M} {Qh : am_O → am_H → Prop} {pc : Nat} {al : List (Nat × Value)} {st : List Value} {W : bw_W} {J : bw_J} {g : Nat} {L : bw_L} {c u : Nat} (k : (∀ a N, R a = some N → (W a).length ≤ N) → bH d S R M Qh pc al st W J g L c u) : bH d S R M Qh pc al st W J g L c u := fun I hI => k (fun a N ha => (hI.1 a N ha).2.1) I hI
theorem bm_free {d : Nat} {S : am_S} {R : Nat → Option Nat} {j : Nat} {as : List Value} {W : bw_W} {J : bw_J} {g : Nat} {L : bw_L} {Q : am_O → bw_W → bw_J → Nat → bw_L → Prop} (k : (∀ a N, R a = some N → (W a).length ≤ N) → bm d S R j as W J g L Q) : bm d S R j as W J g L Q := fun I hI => k (fun a N ha => (hI.1 a N ha).2.1) I hI
/-- may the row still become one -/
def ib_ok (l : List Int32) (nn : Nat) : Bool := decide (nn ≤ 20 ∧ l.length ≤ nn + 4 ∧ (l.length < 4 ∨ (l.getD 1 0 = 0 ∧ l.getD 2 0 = 4 ∧ l.getD 3 0 = 0)))
def in_J (ib : Nat) (J : bw_J) (l : List Int32) (nn : Nat) : bw_J := if ib_ok l nn = true then (if l.length = nn + 4 then am_u2 (am_u2 J ib 2 0) ib 3 1 else J) else am_u2 J ib 2 0
def in_W (ib : Nat) (W : bw_W) (l : List Int32) (nn : Nat) : bw_W := if ib_ok l nn = true ∧ l.length = nn + 4 then am_u1 (am_u1 W (ib + 3) l) (ib + 1) ((l.drop 4).take nn) else am_u1 W (ib + 3) l
theorem i0 : (0 : Int32) = Int32.ofNat 0 := rfl
section IB
variable {n0 : Nat} {W : bw_W} {J : bw_J} {g : Nat} {L : bw_L}
theorem in_forget_c {d : Nat} (hd : 1 ≤ d)  : bm d (S0 n0) R0 70 [.ref 26] W J g L (bR none W (am_u2 J 26 3 0) g L) := by
  obtain ⟨e, rfl⟩ : ∃ e, d = e + 1 := ⟨d - 1, by omega⟩
  refine bm_of (Nat.le_of_ble_eq_true rfl) (Or.inr bR_ret) ?_
  show bT e (S0 n0) R0 mt_In_forgetDone _ 0 [(0, .ref 26)] [] W J g L 0 0
  have hSR := SR0 n0
  refine b_aln (pc2 := 1) d_In_forgetDone_0 rfl rfl ?_
  refine b_ic (pc2 := 2) (x := Int32.ofNat 0) d_In_forgetDone_1 rfl rfl ?_
  refine b_pi (pc2 := 5) d_In_forgetDone_2 q_4_27 (sh_26 n0) (by decide) (Or.inl (by decide)) (Or.inr ⟨rfl, by decide⟩) (rc_26) rfl ?_
  refine b_vr d_In_forgetDone_5 rfl ?_
  exact ⟨rfl, rfl, rfl, rfl, rfl⟩
theorem in_isDone_c {d : Nat} (hd : 1 ≤ d) (hb : J 26 3 = 0 ∨ J 26 3 = 1) : bm d (S0 n0) R0 76 [.ref 26] W J g L (bR (some (.int (J 26 3))) W J g L) := by
  obtain ⟨e, rfl⟩ : ∃ e, d = e + 1 := ⟨d - 1, by omega⟩
  refine bm_of (Nat.le_of_ble_eq_true rfl) (Or.inr bR_ret) ?_
  show bT e (S0 n0) R0 mt_In_isDone _ 0 [(0, .ref 26)] [] W J g L 0 0
  have hSR := SR0 n0
  refine b_aln (pc2 := 1) d_In_isDone_0 rfl rfl ?_
  refine b_gi (pc2 := 4) d_In_isDone_1 q_4_27 (sh_26 n0) (by decide) (by decide) (rc_26) rfl ?_
  refine b_br d_In_isDone_4 rfl (hb) ?_
  exact ⟨rfl, rfl, rfl, rfl, rfl⟩
theorem in_isSound_c {d : Nat} (hd : 2 ≤ d) {nn : Nat} (hn : nn < 256) : bm d (S0 n0) R0 75 [.ref 26, .int (Int32.ofNat nn)] W J g L (bR (some (.int (if ib_ok (W 29) nn = true then 1 else 0))) W J g L) := by
  obtain ⟨e, rfl⟩ : ∃ e, d = e + 1 := ⟨d - 1, by omega⟩
  refine bm_of (Nat.le_of_ble_eq_true rfl) (Or.inr bR_ret) ?_
  show bT e (S0 n0) R0 mt_In_isSound _ 0 [(0, .ref 26), (1, .int (Int32.ofNat nn))] [] W J g L 0 0
  have hSR := SR0 n0
  refine b_free fun hlen => ?_
  have hl := hlen 29 31 R_29
  refine b_iln (pc2 := 1) d_In_isSound_0 rfl rfl ?_
  refine b_bp (pc2 := 3) (x := Int32.ofNat 20) d_In_isSound_1 rfl rfl ?_
  refine b_ifd (pc2 := 19) d_In_isSound_3 rfl rfl rfl rfl rfl (fun h3 => ?_) (fun h3 => ?_)
  · refine b_ic (pc2 := 20) (x := Int32.ofNat 0) d_In_isSound_19 rfl rfl ?_
    refine b_br d_In_isSound_20 rfl (by decide) ?_
    rw [i_lt (by decide) (by omega)] at h3
    exact ⟨by rw [if_neg (fun z => by have := (of_decide_eq_true z).1; omega)]; rfl, rfl, rfl, rfl, rfl⟩
  · refine b_aln (pc2 := 7) d_In_isSound_6 rfl rfl ?_
    refine b_gr (pc2 := 10) d_In_isSound_7 q_4_20 (sh_26 n0) (by decide) (by decide) (p_26_1 n0) rfl ?_
    refine b_cv1 (pc2 := 13) (c2 := 0) (u2 := 0) (rw_length (by omega) hSR R_29) d_In_isSound_10 q_4_45 (Nat.le_of_ble_eq_true rfl) rfl rfl (sh_29 n0) (Nat.le_of_ble_eq_true rfl) rfl rfl (by decide) (by decide) rfl ?_
    refine b_iln (pc2 := 14) d_In_isSound_13 rfl rfl ?_
    refine b_ic (pc2 := 15) (x := Int32.ofNat 4) d_In_isSound_14 rfl rfl ?_
    refine b_pure (pc2 := 16) d_In_isSound_15 rfl rfl rfl ?_
    refine b_ifd (pc2 := 21) d_In_isSound_16 rfl rfl rfl rfl rfl (fun h16 => ?_) (fun h16 => ?_)
    · refine b_aln (pc2 := 22) d_In_isSound_21 rfl rfl ?_
      refine b_gr (pc2 := 25) d_In_isSound_22 q_4_20 (sh_26 n0) (by decide) (by decide) (p_26_1 n0) rfl ?_
      refine b_cv1 (pc2 := 28) (c2 := 0) (u2 := 0) (rw_length (by omega) hSR R_29) d_In_isSound_25 q_4_45 (Nat.le_of_ble_eq_true rfl) rfl rfl (sh_29 n0) (Nat.le_of_ble_eq_true rfl) rfl rfl (by decide) (by decide) rfl ?_
      refine b_ic (pc2 := 29) (x := Int32.ofNat 4) d_In_isSound_28 rfl rfl ?_
      refine b_ifd (pc2 := 66) d_In_isSound_29 rfl rfl rfl rfl rfl (fun h29 => ?_) (fun h29 => ?_)
      · refine b_ic (pc2 := 67) (x := Int32.ofNat 1) d_In_isSound_66 rfl rfl ?_
        refine b_go (pc2 := 71) d_In_isSound_67 rfl ?_
        refine b_br d_In_isSound_71 rfl (by decide) ?_
        rw [i_lt (by decide) (by omega)] at h3
        rw [i_add, i_le (by omega) (by omega)] at h16
        rw [i_lt (by omega) (by decide)] at h29
        exact ⟨by rw [if_pos (show ib_ok (W 29) nn = true from decide_eq_true ⟨by omega, by omega, Or.inl (by omega)⟩)]; rfl, rfl, rfl, rfl, rfl⟩
      · refine b_aln (pc2 := 33) d_In_isSound_32 rfl rfl ?_
        refine b_gr (pc2 := 36) d_In_isSound_33 q_4_20 (sh_26 n0) (by decide) (by decide) (p_26_1 n0) rfl ?_
        refine b_ic (pc2 := 37) (x := Int32.ofNat 1) d_In_isSound_36 rfl rfl ?_
        refine b_cv1 (pc2 := 40) (c2 := 0) (u2 := 0) (rw_at (k := 1) (by omega) hSR R_29 (by decide)) d_In_isSound_37 q_4_33 (Nat.le_of_ble_eq_true rfl) rfl rfl (sh_29 n0) (Nat.le_of_ble_eq_true rfl) rfl rfl (by decide) (by decide) rfl ?_
        refine b_ifd (pc2 := 70) d_In_isSound_40 rfl rfl rfl rfl rfl (fun h40 => ?_) (fun h40 => ?_)
        · refine b_ic (pc2 := 71) (x := Int32.ofNat 0) d_In_isSound_70 rfl rfl ?_
          refine b_br d_In_isSound_71 rfl (by decide) ?_
          rw [i_lt (by decide) (by omega)] at h3
          rw [i_add, i_le (by omega) (by omega)] at h16
          rw [i_lt (by omega) (by decide)] at h29
          exact ⟨by rw [if_neg (fun z => by rcases (of_decide_eq_true z).2.2 with q | q; omega; exact h40 q.1)]; rfl, rfl, rfl, rfl, rfl⟩
        · refine b_aln (pc2 := 44) d_In_isSound_43 rfl rfl ?_
          refine b_gr (pc2 := 47) d_In_isSound_44 q_4_20 (sh_26 n0) (by decide) (by decide) (p_26_1 n0) rfl ?_
          refine b_ic (pc2 := 48) (x := Int32.ofNat 2) d_In_isSound_47 rfl rfl ?_
          refine b_cv1 (pc2 := 51) (c2 := 0) (u2 := 0) (rw_at (k := 2) (by omega) hSR R_29 (by decide)) d_In_isSound_48 q_4_33 (Nat.le_of_ble_eq_true rfl) rfl rfl (sh_29 n0) (Nat.le_of_ble_eq_true rfl) rfl rfl (by decide) (by decide) rfl ?_
          refine b_ic (pc2 := 52) (x := Int32.ofNat 4) d_In_isSound_51 rfl rfl ?_
          refine b_ifd (pc2 := 70) d_In_isSound_52 rfl rfl rfl rfl rfl (fun h52 => ?_) (fun h52 => ?_)
          · refine b_ic (pc2 := 71) (x := Int32.ofNat 0) d_In_isSound_70 rfl rfl ?_
            refine b_br d_In_isSound_71 rfl (by decide) ?_
            rw [i_lt (by decide) (by omega)] at h3
            rw [i_add, i_le (by omega) (by omega)] at h16
            rw [i_lt (by omega) (by decide)] at h29
            exact ⟨by rw [if_neg (fun z => by rcases (of_decide_eq_true z).2.2 with q | q; omega; exact h52 q.2.1)]; rfl, rfl, rfl, rfl, rfl⟩
          · refine b_aln (pc2 := 56) d_In_isSound_55 rfl rfl ?_
            refine b_gr (pc2 := 59) d_In_isSound_56 q_4_20 (sh_26 n0) (by decide) (by decide) (p_26_1 n0) rfl ?_
            refine b_ic (pc2 := 60) (x := Int32.ofNat 3) d_In_isSound_59 rfl rfl ?_
            refine b_cv1 (pc2 := 63) (c2 := 0) (u2 := 0) (rw_at (k := 3) (by omega) hSR R_29 (by decide)) d_In_isSound_60 q_4_33 (Nat.le_of_ble_eq_true rfl) rfl rfl (sh_29 n0) (Nat.le_of_ble_eq_true rfl) rfl rfl (by decide) (by decide) rfl ?_
            refine b_ifd (pc2 := 70) d_In_isSound_63 rfl rfl rfl rfl rfl (fun h63 => ?_) (fun h63 => ?_)
            · refine b_ic (pc2 := 71) (x := Int32.ofNat 0) d_In_isSound_70 rfl rfl ?_
              refine b_br d_In_isSound_71 rfl (by decide) ?_
              rw [i_lt (by decide) (by omega)] at h3
              rw [i_add, i_le (by omega) (by omega)] at h16
              rw [i_lt (by omega) (by decide)] at h29
              exact ⟨by rw [if_neg (fun z => by rcases (of_decide_eq_true z).2.2 with q | q; omega; exact h63 q.2.2)]; rfl, rfl, rfl, rfl, rfl⟩
            · refine b_ic (pc2 := 67) (x := Int32.ofNat 1) d_In_isSound_66 rfl rfl ?_
              refine b_go (pc2 := 71) d_In_isSound_67 rfl ?_
              refine b_br d_In_isSound_71 rfl (by decide) ?_
              rw [i_lt (by decide) (by omega)] at h3
              rw [i_add, i_le (by omega) (by omega)] at h16
              rw [i_lt (by omega) (by decide)] at h29
              exact ⟨by rw [if_pos (show ib_ok (W 29) nn = true from decide_eq_true ⟨by omega, by omega, Or.inr ⟨Decidable.not_not.mp h40, Decidable.not_not.mp h52, Decidable.not_not.mp h63⟩⟩)]; rfl, rfl, rfl, rfl, rfl⟩
    · refine b_ic (pc2 := 20) (x := Int32.ofNat 0) d_In_isSound_19 rfl rfl ?_
      refine b_br d_In_isSound_20 rfl (by decide) ?_
      rw [i_lt (by decide) (by omega)] at h3
      rw [i_add, i_le (by omega) (by omega)] at h16
      exact ⟨by rw [if_neg (fun z => by have := (of_decide_eq_true z).2.1; omega)]; rfl, rfl, rfl, rfl, rfl⟩
theorem in_take33_c {e : Nat} (he : 2 ≤ e) {kd : Int32} {s nn : Nat} (hs : (W 33).getD 1 0 = Int32.ofNat s) (hs7 : s ≤ 7) (hl : (W 29).length ≤ 24) {l : List Int32} (hle : l = W 29 ++ ((W 33).drop 2).take s) (hn : l.getD 0 0 = Int32.ofNat nn) (hn2 : nn < 256) : bT e (S0 n0) R0 mt_In_take (bR none (in_W 26 W l nn) (in_J 26 J l nn) g L) 33 [(0, .ref 26), (1, .int kd), (2, .ref 33)] [] W J g L 0 0 := by
  have hSR := SR0 n0
  have hp : (((W 33).drop 2).take s).length ≤ 7 := by rw [List.length_take]; omega
  have hl2 : l.length ≤ 31 := by rw [hle, List.length_append]; omega
  refine b_aln (pc2 := 34) d_In_take_33 rfl rfl ?_
  refine b_gr (pc2 := 37) d_In_take_34 q_4_20 (sh_26 n0) (by decide) (by decide) (p_26_1 n0) rfl ?_
  refine b_aln (pc2 := 38) d_In_take_37 rfl rfl ?_
  refine b_ic (pc2 := 39) (x := Int32.ofNat 2) d_In_take_38 rfl rfl ?_
  refine b_aln (pc2 := 40) d_In_take_39 rfl rfl ?_
  refine b_ic (pc2 := 41) (x := Int32.ofNat 1) d_In_take_40 rfl rfl ?_
  refine b_cv1 (pc2 := 44) (c2 := 0) (u2 := 0) (rw_at (k := 1) (by omega) hSR R_33 (by decide)) d_In_take_41 q_4_33 (Nat.le_of_ble_eq_true rfl) rfl rfl (sh_33 n0) (Nat.le_of_ble_eq_true rfl) rfl rfl (by decide) (by decide) rfl ?_
  rw [hs]
  refine b_cv0 (pc2 := 47) (c2 := 0) (u2 := 0) (rw_addFrom (f := 2) (by omega) hSR R_29 R_33 (by decide) (by decide) (by omega)) d_In_take_44 q_4_37 (Nat.le_of_ble_eq_true rfl) rfl rfl (sh_29 n0) (Nat.le_of_ble_eq_true rfl) rfl rfl (by decide) (by decide) rfl ?_
  rw [List.take_of_length_le (show (((W 33).drop 2).take s).length ≤ 31 - (W 29).length by omega), ← hle]
  refine b_aln (pc2 := 48) d_In_take_47 rfl rfl ?_
  refine b_gr (pc2 := 51) d_In_take_48 q_4_20 (sh_26 n0) (by decide) (by decide) (p_26_1 n0) rfl ?_
  refine b_ic (pc2 := 52) (x := Int32.ofNat 0) d_In_take_51 rfl rfl ?_
  refine b_cv1 (pc2 := 55) (c2 := 0) (u2 := 0) (rw_at (k := 0) (by omega) hSR R_29 (by decide)) d_In_take_52 q_4_33 (Nat.le_of_ble_eq_true rfl) rfl rfl (sh_29 n0) (Nat.le_of_ble_eq_true rfl) rfl rfl (by decide) (by decide) rfl ?_
  rw [u1_at, hn]
  refine b_isn (pc2 := 56) (al2 := [(3, _), (0, _), (1, _), (2, _)]) d_In_take_55 (by decide) rfl rfl ?_
  refine b_aln (pc2 := 57) d_In_take_56 rfl rfl ?_
  refine b_iln (pc2 := 58) d_In_take_57 rfl rfl ?_
  refine b_cv1 (pc2 := 61) (c2 := 0) (u2 := 0) (in_isSound_c (by omega) hn2) d_In_take_58 q_4_41 (Nat.le_of_ble_eq_true rfl) rfl rfl (sh_26 n0) (Nat.le_of_ble_eq_true rfl) rfl rfl (by decide) (by decide) rfl ?_
  rw [u1_at]
  refine b_ifd (pc2 := 72) d_In_take_61 rfl rfl rfl rfl rfl (fun h61 => ?_) (fun h61 => ?_)
  · have hok : ib_ok l nn = true := by
      cases hz : ib_ok l nn with
      | true => rfl
      | false => rw [if_neg (by rw [hz]; decide)] at h61; exact absurd rfl h61
    have h20 := (of_decide_eq_true hok).1
    refine b_aln (pc2 := 73) d_In_take_72 rfl rfl ?_
    refine b_gr (pc2 := 76) d_In_take_73 q_4_20 (sh_26 n0) (by decide) (by decide) (p_26_1 n0) rfl ?_
    refine b_cv1 (pc2 := 79) (c2 := 0) (u2 := 0) (rw_length (by omega) hSR R_29) d_In_take_76 q_4_45 (Nat.le_of_ble_eq_true rfl) rfl rfl (sh_29 n0) (Nat.le_of_ble_eq_true rfl) rfl rfl (by decide) (by decide) rfl ?_
    rw [u1_at]
    refine b_iln (pc2 := 80) d_In_take_79 rfl rfl ?_
    refine b_ic (pc2 := 81) (x := Int32.ofNat 4) d_In_take_80 rfl rfl ?_
    refine b_pure (pc2 := 82) d_In_take_81 rfl rfl rfl ?_
    refine b_ifd (pc2 := 115) d_In_take_82 rfl rfl rfl rfl rfl (fun h82 => ?_) (fun h82 => ?_)
    · refine b_vr d_In_take_115 rfl ?_
      rw [i_add, i_eq (by omega) (by omega)] at h82
      refine ⟨rfl, ?_, ?_, rfl, rfl⟩
      · unfold in_W; rw [if_neg (fun z => h82 z.2)]
      · unfold in_J; rw [if_pos hok, if_neg h82]
    · refine b_aln (pc2 := 86) d_In_take_85 rfl rfl ?_
      refine b_ic (pc2 := 87) (x := Int32.ofNat 0) d_In_take_86 rfl rfl ?_
      refine b_pi (pc2 := 90) d_In_take_87 q_4_23 (sh_26 n0) (by decide) (Or.inl (by decide)) (Or.inr ⟨rfl, by decide⟩) (rc_26) rfl ?_
      refine b_aln (pc2 := 91) d_In_take_90 rfl rfl ?_
      refine b_ic (pc2 := 92) (x := Int32.ofNat 1) d_In_take_91 rfl rfl ?_
      refine b_pi (pc2 := 95) d_In_take_92 q_4_27 (sh_26 n0) (by decide) (Or.inl (by decide)) (Or.inr ⟨rfl, by decide⟩) (rc_26) rfl ?_
      refine b_aln (pc2 := 96) d_In_take_95 rfl rfl ?_
      refine b_gr (pc2 := 99) d_In_take_96 q_4_14 (sh_26 n0) (by decide) (by decide) (p_26_0 n0) rfl ?_
      refine b_cv0 (pc2 := 102) (c2 := 0) (u2 := 0) (rw_clear (by omega) hSR R_27) d_In_take_99 q_4_30 (Nat.le_of_ble_eq_true rfl) rfl rfl (sh_27 n0) (Nat.le_of_ble_eq_true rfl) rfl rfl (by decide) (by decide) rfl ?_
      refine b_aln (pc2 := 103) d_In_take_102 rfl rfl ?_
      refine b_gr (pc2 := 106) d_In_take_103 q_4_14 (sh_26 n0) (by decide) (by decide) (p_26_0 n0) rfl ?_
      refine b_aln (pc2 := 107) d_In_take_106 rfl rfl ?_
      refine b_gr (pc2 := 110) d_In_take_107 q_4_20 (sh_26 n0) (by decide) (by decide) (p_26_1 n0) rfl ?_
      refine b_ic (pc2 := 111) (x := Int32.ofNat 4) d_In_take_110 rfl rfl ?_
      refine b_iln (pc2 := 112) d_In_take_111 rfl rfl ?_
      refine b_cv0 (pc2 := 115) (c2 := 0) (u2 := 0) (rw_addFrom (f := 4) (mo := nn) (by omega) hSR R_27 R_29 (by decide) (by decide) (by omega)) d_In_take_112 q_4_37 (Nat.le_of_ble_eq_true rfl) rfl rfl (sh_27 n0) (Nat.le_of_ble_eq_true rfl) rfl rfl (by decide) (by decide) rfl ?_
      rw [u1_u1, u1_at, u1_ne _ _ (by decide), u1_at, List.nil_append, List.take_of_length_le (show ((l.drop 4).take nn).length ≤ 20 - ([] : List Int32).length by rw [List.length_take]; show min nn _ ≤ 20; omega)]
      refine b_vr d_In_take_115 rfl ?_
      rw [i_add, i_eq (by omega) (by omega)] at h82
      have h82 := Decidable.not_not.mp h82
      refine ⟨rfl, ?_, ?_, rfl, rfl⟩
      · unfold in_W; rw [if_pos ⟨hok, h82⟩]
      · unfold in_J; rw [if_pos hok, if_pos h82]; rfl
  · have hok : ¬ ib_ok l nn = true := fun z => by rw [if_pos z] at h61; exact h61 (by decide)
    refine b_aln (pc2 := 65) d_In_take_64 rfl rfl ?_
    refine b_ic (pc2 := 66) (x := Int32.ofNat 0) d_In_take_65 rfl rfl ?_
    refine b_pi (pc2 := 69) d_In_take_66 q_4_23 (sh_26 n0) (by decide) (Or.inl (by decide)) (Or.inr ⟨rfl, by decide⟩) (rc_26) rfl ?_
    refine b_go (pc2 := 115) d_In_take_69 rfl ?_
    refine b_vr d_In_take_115 rfl ?_
    refine ⟨rfl, ?_, ?_, rfl, rfl⟩
    · unfold in_W; rw [if_neg (fun z => hok z.1)]
    · unfold in_J; rw [if_neg hok]; rfl
theorem in_take2_c {d : Nat} (hd : 3 ≤ d) {s nn : Nat} (hs : (W 33).getD 1 0 = Int32.ofNat s) (hs7 : s ≤ 7) {l : List Int32} (hle : l = ((W 33).drop 2).take s) (hn : l.getD 0 0 = Int32.ofNat nn) (hn2 : nn < 256) : bm d (S0 n0) R0 74 [.ref 26, .int (Int32.ofNat 2), .ref 33] W J g L (bR none (in_W 26 (am_u1 W 29 []) l nn) (in_J 26 (am_u2 J 26 2 1) l nn) g L) := by
  obtain ⟨e, rfl⟩ : ∃ e, d = e + 1 := ⟨d - 1, by omega⟩
  refine bm_of (Nat.le_of_ble_eq_true rfl) (Or.inr bR_ret) ?_
  show bT e (S0 n0) R0 mt_In_take _ 0 [(0, .ref 26), (1, .int (Int32.ofNat 2)), (2, .ref 33)] [] W J g L 0 0
  have hSR := SR0 n0
  refine b_iln (pc2 := 1) d_In_take_0 rfl rfl ?_
  refine b_ic (pc2 := 2) (x := Int32.ofNat 2) d_In_take_1 rfl rfl ?_
  refine b_ifd (pc2 := 20) d_In_take_2 rfl rfl rfl rfl rfl (fun h2 => ?_) (fun h2 => ?_)
  · exact absurd h2 (fun z => z rfl)
  refine b_aln (pc2 := 6) d_In_take_5 rfl rfl ?_
  refine b_gr (pc2 := 9) d_In_take_6 q_4_20 (sh_26 n0) (by decide) (by decide) (p_26_1 n0) rfl ?_
  refine b_cv0 (pc2 := 12) (c2 := 0) (u2 := 0) (rw_clear (by omega) hSR R_29) d_In_take_9 q_4_30 (Nat.le_of_ble_eq_true rfl) rfl rfl (sh_29 n0) (Nat.le_of_ble_eq_true rfl) rfl rfl (by decide) (by decide) rfl ?_
  refine b_aln (pc2 := 13) d_In_take_12 rfl rfl ?_
  refine b_ic (pc2 := 14) (x := Int32.ofNat 1) d_In_take_13 rfl rfl ?_
  refine b_pi (pc2 := 17) d_In_take_14 q_4_23 (sh_26 n0) (by decide) (Or.inl (by decide)) (Or.inr ⟨rfl, by decide⟩) (rc_26) rfl ?_
  refine b_go (pc2 := 33) d_In_take_17 rfl ?_
  exact in_take33_c (by omega) (by rw [u1_ne _ _ (by decide)]; exact hs) hs7 (by rw [u1_at]; decide) (by rw [u1_at, u1_ne _ _ (by decide)]; exact hle) hn hn2
theorem in_take1_c {d : Nat} (hd : 3 ≤ d) {s nn : Nat} (hs : (W 33).getD 1 0 = Int32.ofNat s) (hs7 : s ≤ 7) {l : List Int32} (hl : (W 29).length ≤ 24) (hb : J 26 2 = 1) (hle : l = W 29 ++ ((W 33).drop 2).take s) (hn : l.getD 0 0 = Int32.ofNat nn) (hn2 : nn < 256) : bm d (S0 n0) R0 74 [.ref 26, .int (Int32.ofNat 1), .ref 33] W J g L (bR none (in_W 26 W l nn) (in_J 26 J l nn) g L) := by
  obtain ⟨e, rfl⟩ : ∃ e, d = e + 1 := ⟨d - 1, by omega⟩
  refine bm_of (Nat.le_of_ble_eq_true rfl) (Or.inr bR_ret) ?_
  show bT e (S0 n0) R0 mt_In_take _ 0 [(0, .ref 26), (1, .int (Int32.ofNat 1)), (2, .ref 33)] [] W J g L 0 0
  have hSR := SR0 n0
  refine b_iln (pc2 := 1) d_In_take_0 rfl rfl ?_
  refine b_ic (pc2 := 2) (x := Int32.ofNat 2) d_In_take_1 rfl rfl ?_
  refine b_ifd (pc2 := 20) d_In_take_2 rfl rfl rfl rfl rfl (fun h2 => ?_) (fun h2 => ?_)
  rotate_left
  · exact absurd (show ¬ Int32.ofNat 1 = Int32.ofNat 2 by decide) h2
  refine b_iln (pc2 := 21) d_In_take_20 rfl rfl ?_
  refine b_ic (pc2 := 22) (x := Int32.ofNat 1) d_In_take_21 rfl rfl ?_
  refine b_ifd (pc2 := 32) d_In_take_22 rfl rfl rfl rfl rfl (fun h22 => ?_) (fun h22 => ?_)
  · exact absurd h22 (fun z => z rfl)
  refine b_aln (pc2 := 26) d_In_take_25 rfl rfl ?_
  refine b_gi (pc2 := 29) d_In_take_26 q_4_23 (sh_26 n0) (by decide) (by decide) (rc_26) rfl ?_
  refine b_ifd (pc2 := 33) d_In_take_29 rfl rfl rfl rfl rfl (fun h29 => ?_) (fun h29 => ?_)
  rotate_left
  · exact absurd (fun z => by rw [hb] at z; exact absurd z (by decide)) h29
  exact in_take33_c (by omega) hs hs7 hl hle hn hn2
theorem in_take0_c {d : Nat} (hd : 3 ≤ d) {kd : Nat} (hk : kd < 4) (hk2 : ¬ kd = 2) (hb : kd = 1 → J 26 2 = 0) : bm d (S0 n0) R0 74 [.ref 26, .int (Int32.ofNat kd), .ref 33] W J g L (bR none W J g L) := by
  obtain ⟨e, rfl⟩ : ∃ e, d = e + 1 := ⟨d - 1, by omega⟩
  refine bm_of (Nat.le_of_ble_eq_true rfl) (Or.inr bR_ret) ?_
  show bT e (S0 n0) R0 mt_In_take _ 0 [(0, .ref 26), (1, .int (Int32.ofNat kd)), (2, .ref 33)] [] W J g L 0 0
  have hSR := SR0 n0
  refine b_iln (pc2 := 1) d_In_take_0 rfl rfl ?_
  refine b_ic (pc2 := 2) (x := Int32.ofNat 2) d_In_take_1 rfl rfl ?_
  refine b_ifd (pc2 := 20) d_In_take_2 rfl rfl rfl rfl rfl (fun h2 => ?_) (fun h2 => ?_)
  rotate_left
  · exact absurd (fun z => hk2 ((i_eq (by omega) (by decide)).mp z)) h2
  refine b_iln (pc2 := 21) d_In_take_20 rfl rfl ?_
  refine b_ic (pc2 := 22) (x := Int32.ofNat 1) d_In_take_21 rfl rfl ?_
  refine b_ifd (pc2 := 32) d_In_take_22 rfl rfl rfl rfl rfl (fun h22 => ?_) (fun h22 => ?_)
  · refine b_vr d_In_take_32 rfl ?_
    exact ⟨rfl, rfl, rfl, rfl, rfl⟩
  · refine b_aln (pc2 := 26) d_In_take_25 rfl rfl ?_
    refine b_gi (pc2 := 29) d_In_take_26 q_4_23 (sh_26 n0) (by decide) (by decide) (rc_26) rfl ?_
    refine b_ifd (pc2 := 33) d_In_take_29 rfl rfl rfl rfl rfl (fun h29 => ?_) (fun h29 => ?_)
    · exact absurd (hb ((i_eq (by omega) (by decide)).mp (Decidable.not_not.mp h22))) h29
    · refine b_vr d_In_take_32 rfl ?_
      exact ⟨rfl, rfl, rfl, rfl, rfl⟩
theorem in_forget_s {d : Nat} (hd : 1 ≤ d)  : bm d (S0 n0) R0 70 [.ref 56] W J g L (bR none W (am_u2 J 56 3 0) g L) := by
  obtain ⟨e, rfl⟩ : ∃ e, d = e + 1 := ⟨d - 1, by omega⟩
  refine bm_of (Nat.le_of_ble_eq_true rfl) (Or.inr bR_ret) ?_
  show bT e (S0 n0) R0 mt_In_forgetDone _ 0 [(0, .ref 56)] [] W J g L 0 0
  have hSR := SR0 n0
  refine b_aln (pc2 := 1) d_In_forgetDone_0 rfl rfl ?_
  refine b_ic (pc2 := 2) (x := Int32.ofNat 0) d_In_forgetDone_1 rfl rfl ?_
  refine b_pi (pc2 := 5) d_In_forgetDone_2 q_4_27 (sh_56 n0) (by decide) (Or.inl (by decide)) (Or.inr ⟨rfl, by decide⟩) (rc_56) rfl ?_
  refine b_vr d_In_forgetDone_5 rfl ?_
  exact ⟨rfl, rfl, rfl, rfl, rfl⟩
theorem in_isDone_s {d : Nat} (hd : 1 ≤ d) (hb : J 56 3 = 0 ∨ J 56 3 = 1) : bm d (S0 n0) R0 76 [.ref 56] W J g L (bR (some (.int (J 56 3))) W J g L) := by
  obtain ⟨e, rfl⟩ : ∃ e, d = e + 1 := ⟨d - 1, by omega⟩
  refine bm_of (Nat.le_of_ble_eq_true rfl) (Or.inr bR_ret) ?_
  show bT e (S0 n0) R0 mt_In_isDone _ 0 [(0, .ref 56)] [] W J g L 0 0
  have hSR := SR0 n0
  refine b_aln (pc2 := 1) d_In_isDone_0 rfl rfl ?_
  refine b_gi (pc2 := 4) d_In_isDone_1 q_4_27 (sh_56 n0) (by decide) (by decide) (rc_56) rfl ?_
  refine b_br d_In_isDone_4 rfl (hb) ?_
  exact ⟨rfl, rfl, rfl, rfl, rfl⟩
theorem in_isSound_s {d : Nat} (hd : 2 ≤ d) {nn : Nat} (hn : nn < 256) : bm d (S0 n0) R0 75 [.ref 56, .int (Int32.ofNat nn)] W J g L (bR (some (.int (if ib_ok (W 59) nn = true then 1 else 0))) W J g L) := by
  obtain ⟨e, rfl⟩ : ∃ e, d = e + 1 := ⟨d - 1, by omega⟩
  refine bm_of (Nat.le_of_ble_eq_true rfl) (Or.inr bR_ret) ?_
  show bT e (S0 n0) R0 mt_In_isSound _ 0 [(0, .ref 56), (1, .int (Int32.ofNat nn))] [] W J g L 0 0
  have hSR := SR0 n0
  refine b_free fun hlen => ?_
  have hl := hlen 59 31 R_59
  refine b_iln (pc2 := 1) d_In_isSound_0 rfl rfl ?_
  refine b_bp (pc2 := 3) (x := Int32.ofNat 20) d_In_isSound_1 rfl rfl ?_
  refine b_ifd (pc2 := 19) d_In_isSound_3 rfl rfl rfl rfl rfl (fun h3 => ?_) (fun h3 => ?_)
  · refine b_ic (pc2 := 20) (x := Int32.ofNat 0) d_In_isSound_19 rfl rfl ?_
    refine b_br d_In_isSound_20 rfl (by decide) ?_
    rw [i_lt (by decide) (by omega)] at h3
    exact ⟨by rw [if_neg (fun z => by have := (of_decide_eq_true z).1; omega)]; rfl, rfl, rfl, rfl, rfl⟩
  · refine b_aln (pc2 := 7) d_In_isSound_6 rfl rfl ?_
    refine b_gr (pc2 := 10) d_In_isSound_7 q_4_20 (sh_56 n0) (by decide) (by decide) (p_56_1 n0) rfl ?_
    refine b_cv1 (pc2 := 13) (c2 := 0) (u2 := 0) (rw_length (by omega) hSR R_59) d_In_isSound_10 q_4_45 (Nat.le_of_ble_eq_true rfl) rfl rfl (sh_59 n0) (Nat.le_of_ble_eq_true rfl) rfl rfl (by decide) (by decide) rfl ?_
    refine b_iln (pc2 := 14) d_In_isSound_13 rfl rfl ?_
    refine b_ic (pc2 := 15) (x := Int32.ofNat 4) d_In_isSound_14 rfl rfl ?_
    refine b_pure (pc2 := 16) d_In_isSound_15 rfl rfl rfl ?_
    refine b_ifd (pc2 := 21) d_In_isSound_16 rfl rfl rfl rfl rfl (fun h16 => ?_) (fun h16 => ?_)
    · refine b_aln (pc2 := 22) d_In_isSound_21 rfl rfl ?_
      refine b_gr (pc2 := 25) d_In_isSound_22 q_4_20 (sh_56 n0) (by decide) (by decide) (p_56_1 n0) rfl ?_
      refine b_cv1 (pc2 := 28) (c2 := 0) (u2 := 0) (rw_length (by omega) hSR R_59) d_In_isSound_25 q_4_45 (Nat.le_of_ble_eq_true rfl) rfl rfl (sh_59 n0) (Nat.le_of_ble_eq_true rfl) rfl rfl (by decide) (by decide) rfl ?_
      refine b_ic (pc2 := 29) (x := Int32.ofNat 4) d_In_isSound_28 rfl rfl ?_
      refine b_ifd (pc2 := 66) d_In_isSound_29 rfl rfl rfl rfl rfl (fun h29 => ?_) (fun h29 => ?_)
      · refine b_ic (pc2 := 67) (x := Int32.ofNat 1) d_In_isSound_66 rfl rfl ?_
        refine b_go (pc2 := 71) d_In_isSound_67 rfl ?_
        refine b_br d_In_isSound_71 rfl (by decide) ?_
        rw [i_lt (by decide) (by omega)] at h3
        rw [i_add, i_le (by omega) (by omega)] at h16
        rw [i_lt (by omega) (by decide)] at h29
        exact ⟨by rw [if_pos (show ib_ok (W 59) nn = true from decide_eq_true ⟨by omega, by omega, Or.inl (by omega)⟩)]; rfl, rfl, rfl, rfl, rfl⟩
      · refine b_aln (pc2 := 33) d_In_isSound_32 rfl rfl ?_
        refine b_gr (pc2 := 36) d_In_isSound_33 q_4_20 (sh_56 n0) (by decide) (by decide) (p_56_1 n0) rfl ?_
        refine b_ic (pc2 := 37) (x := Int32.ofNat 1) d_In_isSound_36 rfl rfl ?_
        refine b_cv1 (pc2 := 40) (c2 := 0) (u2 := 0) (rw_at (k := 1) (by omega) hSR R_59 (by decide)) d_In_isSound_37 q_4_33 (Nat.le_of_ble_eq_true rfl) rfl rfl (sh_59 n0) (Nat.le_of_ble_eq_true rfl) rfl rfl (by decide) (by decide) rfl ?_
        refine b_ifd (pc2 := 70) d_In_isSound_40 rfl rfl rfl rfl rfl (fun h40 => ?_) (fun h40 => ?_)
        · refine b_ic (pc2 := 71) (x := Int32.ofNat 0) d_In_isSound_70 rfl rfl ?_
          refine b_br d_In_isSound_71 rfl (by decide) ?_
          rw [i_lt (by decide) (by omega)] at h3
          rw [i_add, i_le (by omega) (by omega)] at h16
          rw [i_lt (by omega) (by decide)] at h29
          exact ⟨by rw [if_neg (fun z => by rcases (of_decide_eq_true z).2.2 with q | q; omega; exact h40 q.1)]; rfl, rfl, rfl, rfl, rfl⟩
        · refine b_aln (pc2 := 44) d_In_isSound_43 rfl rfl ?_
          refine b_gr (pc2 := 47) d_In_isSound_44 q_4_20 (sh_56 n0) (by decide) (by decide) (p_56_1 n0) rfl ?_
          refine b_ic (pc2 := 48) (x := Int32.ofNat 2) d_In_isSound_47 rfl rfl ?_
          refine b_cv1 (pc2 := 51) (c2 := 0) (u2 := 0) (rw_at (k := 2) (by omega) hSR R_59 (by decide)) d_In_isSound_48 q_4_33 (Nat.le_of_ble_eq_true rfl) rfl rfl (sh_59 n0) (Nat.le_of_ble_eq_true rfl) rfl rfl (by decide) (by decide) rfl ?_
          refine b_ic (pc2 := 52) (x := Int32.ofNat 4) d_In_isSound_51 rfl rfl ?_
          refine b_ifd (pc2 := 70) d_In_isSound_52 rfl rfl rfl rfl rfl (fun h52 => ?_) (fun h52 => ?_)
          · refine b_ic (pc2 := 71) (x := Int32.ofNat 0) d_In_isSound_70 rfl rfl ?_
            refine b_br d_In_isSound_71 rfl (by decide) ?_
            rw [i_lt (by decide) (by omega)] at h3
            rw [i_add, i_le (by omega) (by omega)] at h16
            rw [i_lt (by omega) (by decide)] at h29
            exact ⟨by rw [if_neg (fun z => by rcases (of_decide_eq_true z).2.2 with q | q; omega; exact h52 q.2.1)]; rfl, rfl, rfl, rfl, rfl⟩
          · refine b_aln (pc2 := 56) d_In_isSound_55 rfl rfl ?_
            refine b_gr (pc2 := 59) d_In_isSound_56 q_4_20 (sh_56 n0) (by decide) (by decide) (p_56_1 n0) rfl ?_
            refine b_ic (pc2 := 60) (x := Int32.ofNat 3) d_In_isSound_59 rfl rfl ?_
            refine b_cv1 (pc2 := 63) (c2 := 0) (u2 := 0) (rw_at (k := 3) (by omega) hSR R_59 (by decide)) d_In_isSound_60 q_4_33 (Nat.le_of_ble_eq_true rfl) rfl rfl (sh_59 n0) (Nat.le_of_ble_eq_true rfl) rfl rfl (by decide) (by decide) rfl ?_
            refine b_ifd (pc2 := 70) d_In_isSound_63 rfl rfl rfl rfl rfl (fun h63 => ?_) (fun h63 => ?_)
            · refine b_ic (pc2 := 71) (x := Int32.ofNat 0) d_In_isSound_70 rfl rfl ?_
              refine b_br d_In_isSound_71 rfl (by decide) ?_
              rw [i_lt (by decide) (by omega)] at h3
              rw [i_add, i_le (by omega) (by omega)] at h16
              rw [i_lt (by omega) (by decide)] at h29
              exact ⟨by rw [if_neg (fun z => by rcases (of_decide_eq_true z).2.2 with q | q; omega; exact h63 q.2.2)]; rfl, rfl, rfl, rfl, rfl⟩
            · refine b_ic (pc2 := 67) (x := Int32.ofNat 1) d_In_isSound_66 rfl rfl ?_
              refine b_go (pc2 := 71) d_In_isSound_67 rfl ?_
              refine b_br d_In_isSound_71 rfl (by decide) ?_
              rw [i_lt (by decide) (by omega)] at h3
              rw [i_add, i_le (by omega) (by omega)] at h16
              rw [i_lt (by omega) (by decide)] at h29
              exact ⟨by rw [if_pos (show ib_ok (W 59) nn = true from decide_eq_true ⟨by omega, by omega, Or.inr ⟨Decidable.not_not.mp h40, Decidable.not_not.mp h52, Decidable.not_not.mp h63⟩⟩)]; rfl, rfl, rfl, rfl, rfl⟩
    · refine b_ic (pc2 := 20) (x := Int32.ofNat 0) d_In_isSound_19 rfl rfl ?_
      refine b_br d_In_isSound_20 rfl (by decide) ?_
      rw [i_lt (by decide) (by omega)] at h3
      rw [i_add, i_le (by omega) (by omega)] at h16
      exact ⟨by rw [if_neg (fun z => by have := (of_decide_eq_true z).2.1; omega)]; rfl, rfl, rfl, rfl, rfl⟩
theorem in_take33_s {e : Nat} (he : 2 ≤ e) {kd : Int32} {s nn : Nat} (hs : (W 63).getD 1 0 = Int32.ofNat s) (hs7 : s ≤ 7) (hl : (W 59).length ≤ 24) {l : List Int32} (hle : l = W 59 ++ ((W 63).drop 2).take s) (hn : l.getD 0 0 = Int32.ofNat nn) (hn2 : nn < 256) : bT e (S0 n0) R0 mt_In_take (bR none (in_W 56 W l nn) (in_J 56 J l nn) g L) 33 [(0, .ref 56), (1, .int kd), (2, .ref 63)] [] W J g L 0 0 := by
  have hSR := SR0 n0
  have hp : (((W 63).drop 2).take s).length ≤ 7 := by rw [List.length_take]; omega
  have hl2 : l.length ≤ 31 := by rw [hle, List.length_append]; omega
  refine b_aln (pc2 := 34) d_In_take_33 rfl rfl ?_
  refine b_gr (pc2 := 37) d_In_take_34 q_4_20 (sh_56 n0) (by decide) (by decide) (p_56_1 n0) rfl ?_
  refine b_aln (pc2 := 38) d_In_take_37 rfl rfl ?_
  refine b_ic (pc2 := 39) (x := Int32.ofNat 2) d_In_take_38 rfl rfl ?_
  refine b_aln (pc2 := 40) d_In_take_39 rfl rfl ?_
  refine b_ic (pc2 := 41) (x := Int32.ofNat 1) d_In_take_40 rfl rfl ?_
  refine b_cv1 (pc2 := 44) (c2 := 0) (u2 := 0) (rw_at (k := 1) (by omega) hSR R_63 (by decide)) d_In_take_41 q_4_33 (Nat.le_of_ble_eq_true rfl) rfl rfl (sh_63 n0) (Nat.le_of_ble_eq_true rfl) rfl rfl (by decide) (by decide) rfl ?_
  rw [hs]
  refine b_cv0 (pc2 := 47) (c2 := 0) (u2 := 0) (rw_addFrom (f := 2) (by omega) hSR R_59 R_63 (by decide) (by decide) (by omega)) d_In_take_44 q_4_37 (Nat.le_of_ble_eq_true rfl) rfl rfl (sh_59 n0) (Nat.le_of_ble_eq_true rfl) rfl rfl (by decide) (by decide) rfl ?_
  rw [List.take_of_length_le (show (((W 63).drop 2).take s).length ≤ 31 - (W 59).length by omega), ← hle]
  refine b_aln (pc2 := 48) d_In_take_47 rfl rfl ?_
  refine b_gr (pc2 := 51) d_In_take_48 q_4_20 (sh_56 n0) (by decide) (by decide) (p_56_1 n0) rfl ?_
  refine b_ic (pc2 := 52) (x := Int32.ofNat 0) d_In_take_51 rfl rfl ?_
  refine b_cv1 (pc2 := 55) (c2 := 0) (u2 := 0) (rw_at (k := 0) (by omega) hSR R_59 (by decide)) d_In_take_52 q_4_33 (Nat.le_of_ble_eq_true rfl) rfl rfl (sh_59 n0) (Nat.le_of_ble_eq_true rfl) rfl rfl (by decide) (by decide) rfl ?_
  rw [u1_at, hn]
  refine b_isn (pc2 := 56) (al2 := [(3, _), (0, _), (1, _), (2, _)]) d_In_take_55 (by decide) rfl rfl ?_
  refine b_aln (pc2 := 57) d_In_take_56 rfl rfl ?_
  refine b_iln (pc2 := 58) d_In_take_57 rfl rfl ?_
  refine b_cv1 (pc2 := 61) (c2 := 0) (u2 := 0) (in_isSound_s (by omega) hn2) d_In_take_58 q_4_41 (Nat.le_of_ble_eq_true rfl) rfl rfl (sh_56 n0) (Nat.le_of_ble_eq_true rfl) rfl rfl (by decide) (by decide) rfl ?_
  rw [u1_at]
  refine b_ifd (pc2 := 72) d_In_take_61 rfl rfl rfl rfl rfl (fun h61 => ?_) (fun h61 => ?_)
  · have hok : ib_ok l nn = true := by
      cases hz : ib_ok l nn with
      | true => rfl
      | false => rw [if_neg (by rw [hz]; decide)] at h61; exact absurd rfl h61
    have h20 := (of_decide_eq_true hok).1
    refine b_aln (pc2 := 73) d_In_take_72 rfl rfl ?_
    refine b_gr (pc2 := 76) d_In_take_73 q_4_20 (sh_56 n0) (by decide) (by decide) (p_56_1 n0) rfl ?_
    refine b_cv1 (pc2 := 79) (c2 := 0) (u2 := 0) (rw_length (by omega) hSR R_59) d_In_take_76 q_4_45 (Nat.le_of_ble_eq_true rfl) rfl rfl (sh_59 n0) (Nat.le_of_ble_eq_true rfl) rfl rfl (by decide) (by decide) rfl ?_
    rw [u1_at]
    refine b_iln (pc2 := 80) d_In_take_79 rfl rfl ?_
    refine b_ic (pc2 := 81) (x := Int32.ofNat 4) d_In_take_80 rfl rfl ?_
    refine b_pure (pc2 := 82) d_In_take_81 rfl rfl rfl ?_
    refine b_ifd (pc2 := 115) d_In_take_82 rfl rfl rfl rfl rfl (fun h82 => ?_) (fun h82 => ?_)
    · refine b_vr d_In_take_115 rfl ?_
      rw [i_add, i_eq (by omega) (by omega)] at h82
      refine ⟨rfl, ?_, ?_, rfl, rfl⟩
      · unfold in_W; rw [if_neg (fun z => h82 z.2)]
      · unfold in_J; rw [if_pos hok, if_neg h82]
    · refine b_aln (pc2 := 86) d_In_take_85 rfl rfl ?_
      refine b_ic (pc2 := 87) (x := Int32.ofNat 0) d_In_take_86 rfl rfl ?_
      refine b_pi (pc2 := 90) d_In_take_87 q_4_23 (sh_56 n0) (by decide) (Or.inl (by decide)) (Or.inr ⟨rfl, by decide⟩) (rc_56) rfl ?_
      refine b_aln (pc2 := 91) d_In_take_90 rfl rfl ?_
      refine b_ic (pc2 := 92) (x := Int32.ofNat 1) d_In_take_91 rfl rfl ?_
      refine b_pi (pc2 := 95) d_In_take_92 q_4_27 (sh_56 n0) (by decide) (Or.inl (by decide)) (Or.inr ⟨rfl, by decide⟩) (rc_56) rfl ?_
      refine b_aln (pc2 := 96) d_In_take_95 rfl rfl ?_
      refine b_gr (pc2 := 99) d_In_take_96 q_4_14 (sh_56 n0) (by decide) (by decide) (p_56_0 n0) rfl ?_
      refine b_cv0 (pc2 := 102) (c2 := 0) (u2 := 0) (rw_clear (by omega) hSR R_57) d_In_take_99 q_4_30 (Nat.le_of_ble_eq_true rfl) rfl rfl (sh_57 n0) (Nat.le_of_ble_eq_true rfl) rfl rfl (by decide) (by decide) rfl ?_
      refine b_aln (pc2 := 103) d_In_take_102 rfl rfl ?_
      refine b_gr (pc2 := 106) d_In_take_103 q_4_14 (sh_56 n0) (by decide) (by decide) (p_56_0 n0) rfl ?_
      refine b_aln (pc2 := 107) d_In_take_106 rfl rfl ?_
      refine b_gr (pc2 := 110) d_In_take_107 q_4_20 (sh_56 n0) (by decide) (by decide) (p_56_1 n0) rfl ?_
      refine b_ic (pc2 := 111) (x := Int32.ofNat 4) d_In_take_110 rfl rfl ?_
      refine b_iln (pc2 := 112) d_In_take_111 rfl rfl ?_
      refine b_cv0 (pc2 := 115) (c2 := 0) (u2 := 0) (rw_addFrom (f := 4) (mo := nn) (by omega) hSR R_57 R_59 (by decide) (by decide) (by omega)) d_In_take_112 q_4_37 (Nat.le_of_ble_eq_true rfl) rfl rfl (sh_57 n0) (Nat.le_of_ble_eq_true rfl) rfl rfl (by decide) (by decide) rfl ?_
      rw [u1_u1, u1_at, u1_ne _ _ (by decide), u1_at, List.nil_append, List.take_of_length_le (show ((l.drop 4).take nn).length ≤ 20 - ([] : List Int32).length by rw [List.length_take]; show min nn _ ≤ 20; omega)]
      refine b_vr d_In_take_115 rfl ?_
      rw [i_add, i_eq (by omega) (by omega)] at h82
      have h82 := Decidable.not_not.mp h82
      refine ⟨rfl, ?_, ?_, rfl, rfl⟩
      · unfold in_W; rw [if_pos ⟨hok, h82⟩]
      · unfold in_J; rw [if_pos hok, if_pos h82]; rfl
  · have hok : ¬ ib_ok l nn = true := fun z => by rw [if_pos z] at h61; exact h61 (by decide)
    refine b_aln (pc2 := 65) d_In_take_64 rfl rfl ?_
    refine b_ic (pc2 := 66) (x := Int32.ofNat 0) d_In_take_65 rfl rfl ?_
    refine b_pi (pc2 := 69) d_In_take_66 q_4_23 (sh_56 n0) (by decide) (Or.inl (by decide)) (Or.inr ⟨rfl, by decide⟩) (rc_56) rfl ?_
    refine b_go (pc2 := 115) d_In_take_69 rfl ?_
    refine b_vr d_In_take_115 rfl ?_
    refine ⟨rfl, ?_, ?_, rfl, rfl⟩
    · unfold in_W; rw [if_neg (fun z => hok z.1)]
    · unfold in_J; rw [if_neg hok]; rfl
theorem in_take2_s {d : Nat} (hd : 3 ≤ d) {s nn : Nat} (hs : (W 63).getD 1 0 = Int32.ofNat s) (hs7 : s ≤ 7) {l : List Int32} (hle : l = ((W 63).drop 2).take s) (hn : l.getD 0 0 = Int32.ofNat nn) (hn2 : nn < 256) : bm d (S0 n0) R0 74 [.ref 56, .int (Int32.ofNat 2), .ref 63] W J g L (bR none (in_W 56 (am_u1 W 59 []) l nn) (in_J 56 (am_u2 J 56 2 1) l nn) g L) := by
  obtain ⟨e, rfl⟩ : ∃ e, d = e + 1 := ⟨d - 1, by omega⟩
  refine bm_of (Nat.le_of_ble_eq_true rfl) (Or.inr bR_ret) ?_
  show bT e (S0 n0) R0 mt_In_take _ 0 [(0, .ref 56), (1, .int (Int32.ofNat 2)), (2, .ref 63)] [] W J g L 0 0
  have hSR := SR0 n0
  refine b_iln (pc2 := 1) d_In_take_0 rfl rfl ?_
  refine b_ic (pc2 := 2) (x := Int32.ofNat 2) d_In_take_1 rfl rfl ?_
  refine b_ifd (pc2 := 20) d_In_take_2 rfl rfl rfl rfl rfl (fun h2 => ?_) (fun h2 => ?_)
  · exact absurd h2 (fun z => z rfl)
  refine b_aln (pc2 := 6) d_In_take_5 rfl rfl ?_
  refine b_gr (pc2 := 9) d_In_take_6 q_4_20 (sh_56 n0) (by decide) (by decide) (p_56_1 n0) rfl ?_
  refine b_cv0 (pc2 := 12) (c2 := 0) (u2 := 0) (rw_clear (by omega) hSR R_59) d_In_take_9 q_4_30 (Nat.le_of_ble_eq_true rfl) rfl rfl (sh_59 n0) (Nat.le_of_ble_eq_true rfl) rfl rfl (by decide) (by decide) rfl ?_
  refine b_aln (pc2 := 13) d_In_take_12 rfl rfl ?_
  refine b_ic (pc2 := 14) (x := Int32.ofNat 1) d_In_take_13 rfl rfl ?_
  refine b_pi (pc2 := 17) d_In_take_14 q_4_23 (sh_56 n0) (by decide) (Or.inl (by decide)) (Or.inr ⟨rfl, by decide⟩) (rc_56) rfl ?_
  refine b_go (pc2 := 33) d_In_take_17 rfl ?_
  exact in_take33_s (by omega) (by rw [u1_ne _ _ (by decide)]; exact hs) hs7 (by rw [u1_at]; decide) (by rw [u1_at, u1_ne _ _ (by decide)]; exact hle) hn hn2
theorem in_take1_s {d : Nat} (hd : 3 ≤ d) {s nn : Nat} (hs : (W 63).getD 1 0 = Int32.ofNat s) (hs7 : s ≤ 7) {l : List Int32} (hl : (W 59).length ≤ 24) (hb : J 56 2 = 1) (hle : l = W 59 ++ ((W 63).drop 2).take s) (hn : l.getD 0 0 = Int32.ofNat nn) (hn2 : nn < 256) : bm d (S0 n0) R0 74 [.ref 56, .int (Int32.ofNat 1), .ref 63] W J g L (bR none (in_W 56 W l nn) (in_J 56 J l nn) g L) := by
  obtain ⟨e, rfl⟩ : ∃ e, d = e + 1 := ⟨d - 1, by omega⟩
  refine bm_of (Nat.le_of_ble_eq_true rfl) (Or.inr bR_ret) ?_
  show bT e (S0 n0) R0 mt_In_take _ 0 [(0, .ref 56), (1, .int (Int32.ofNat 1)), (2, .ref 63)] [] W J g L 0 0
  have hSR := SR0 n0
  refine b_iln (pc2 := 1) d_In_take_0 rfl rfl ?_
  refine b_ic (pc2 := 2) (x := Int32.ofNat 2) d_In_take_1 rfl rfl ?_
  refine b_ifd (pc2 := 20) d_In_take_2 rfl rfl rfl rfl rfl (fun h2 => ?_) (fun h2 => ?_)
  rotate_left
  · exact absurd (show ¬ Int32.ofNat 1 = Int32.ofNat 2 by decide) h2
  refine b_iln (pc2 := 21) d_In_take_20 rfl rfl ?_
  refine b_ic (pc2 := 22) (x := Int32.ofNat 1) d_In_take_21 rfl rfl ?_
  refine b_ifd (pc2 := 32) d_In_take_22 rfl rfl rfl rfl rfl (fun h22 => ?_) (fun h22 => ?_)
  · exact absurd h22 (fun z => z rfl)
  refine b_aln (pc2 := 26) d_In_take_25 rfl rfl ?_
  refine b_gi (pc2 := 29) d_In_take_26 q_4_23 (sh_56 n0) (by decide) (by decide) (rc_56) rfl ?_
  refine b_ifd (pc2 := 33) d_In_take_29 rfl rfl rfl rfl rfl (fun h29 => ?_) (fun h29 => ?_)
  rotate_left
  · exact absurd (fun z => by rw [hb] at z; exact absurd z (by decide)) h29
  exact in_take33_s (by omega) hs hs7 hl hle hn hn2
theorem in_take0_s {d : Nat} (hd : 3 ≤ d) {kd : Nat} (hk : kd < 4) (hk2 : ¬ kd = 2) (hb : kd = 1 → J 56 2 = 0) : bm d (S0 n0) R0 74 [.ref 56, .int (Int32.ofNat kd), .ref 63] W J g L (bR none W J g L) := by
  obtain ⟨e, rfl⟩ : ∃ e, d = e + 1 := ⟨d - 1, by omega⟩
  refine bm_of (Nat.le_of_ble_eq_true rfl) (Or.inr bR_ret) ?_
  show bT e (S0 n0) R0 mt_In_take _ 0 [(0, .ref 56), (1, .int (Int32.ofNat kd)), (2, .ref 63)] [] W J g L 0 0
  have hSR := SR0 n0
  refine b_iln (pc2 := 1) d_In_take_0 rfl rfl ?_
  refine b_ic (pc2 := 2) (x := Int32.ofNat 2) d_In_take_1 rfl rfl ?_
  refine b_ifd (pc2 := 20) d_In_take_2 rfl rfl rfl rfl rfl (fun h2 => ?_) (fun h2 => ?_)
  rotate_left
  · exact absurd (fun z => hk2 ((i_eq (by omega) (by decide)).mp z)) h2
  refine b_iln (pc2 := 21) d_In_take_20 rfl rfl ?_
  refine b_ic (pc2 := 22) (x := Int32.ofNat 1) d_In_take_21 rfl rfl ?_
  refine b_ifd (pc2 := 32) d_In_take_22 rfl rfl rfl rfl rfl (fun h22 => ?_) (fun h22 => ?_)
  · refine b_vr d_In_take_32 rfl ?_
    exact ⟨rfl, rfl, rfl, rfl, rfl⟩
  · refine b_aln (pc2 := 26) d_In_take_25 rfl rfl ?_
    refine b_gi (pc2 := 29) d_In_take_26 q_4_23 (sh_56 n0) (by decide) (by decide) (rc_56) rfl ?_
    refine b_ifd (pc2 := 33) d_In_take_29 rfl rfl rfl rfl rfl (fun h29 => ?_) (fun h29 => ?_)
    · exact absurd (hb ((i_eq (by omega) (by decide)).mp (Decidable.not_not.mp h22))) h29
    · refine b_vr d_In_take_32 rfl ?_
      exact ⟨rfl, rfl, rfl, rfl, rfl⟩
theorem wh_turn {d : Nat} (hd : 1 ≤ d) {k : Nat} (hk : k < 12) {x : Int32} : bm d (S0 n0) R0 68 [.ref 5, .int (Int32.ofNat k), .int x] W J g L (bR (some (.int (x ^^^ J 6 k))) W J g L) := by
  obtain ⟨e, rfl⟩ : ∃ e, d = e + 1 := ⟨d - 1, by omega⟩
  refine bm_of (Nat.le_of_ble_eq_true rfl) (Or.inr bR_ret) ?_
  show bT e (S0 n0) R0 mt_Wh_turnOver _ 0 [(0, .ref 5), (1, .int (Int32.ofNat k)), (2, .int x)] [] W J g L 0 0
  have hSR := SR0 n0
  refine b_iln (pc2 := 1) d_Wh_turnOver_0 rfl rfl ?_
  refine b_ifd (pc2 := 24) d_Wh_turnOver_1 rfl rfl rfl rfl rfl (fun h1 => ?_) (fun h1 => ?_)
  · exact absurd h1 (i_nn (by omega))
  refine b_iln (pc2 := 5) d_Wh_turnOver_4 rfl rfl ?_
  refine b_aln (pc2 := 6) d_Wh_turnOver_5 rfl rfl ?_
  refine b_gr (pc2 := 9) d_Wh_turnOver_6 q_9_9 (sh_5 n0) (by decide) (by decide) (p_5_0 n0) rfl ?_
  refine b_len (pc2 := 10) d_Wh_turnOver_9 (sh_6 n0) (Or.inl ⟨by decide, by decide⟩) rfl ?_
  refine b_ifd (pc2 := 24) d_Wh_turnOver_10 rfl rfl rfl rfl rfl (fun h10 => ?_) (fun h10 => ?_)
  · exact absurd h10 (fun z => by rw [i_le (by decide) (by omega)] at z; omega)
  refine b_iln (pc2 := 14) d_Wh_turnOver_13 rfl rfl ?_
  refine b_aln (pc2 := 15) d_Wh_turnOver_14 rfl rfl ?_
  refine b_gr (pc2 := 18) d_Wh_turnOver_15 q_9_9 (sh_5 n0) (by decide) (by decide) (p_5_0 n0) rfl ?_
  refine b_iln (pc2 := 19) d_Wh_turnOver_18 rfl rfl ?_
  refine b_ia (pc2 := 20) (q := k) d_Wh_turnOver_19 (sh_6 n0) (i_in hk (by decide)) (i_tn (by omega)) (rc_6) rfl ?_
  refine b_pure (pc2 := 21) d_Wh_turnOver_20 rfl rfl rfl ?_
  refine b_go (pc2 := 25) d_Wh_turnOver_21 rfl ?_
  refine b_ir d_Wh_turnOver_25 rfl ?_
  exact ⟨rfl, rfl, rfl, rfl, rfl⟩
theorem de_misses_c {d : Nat} (hd : 1 ≤ d)  : bm d (S0 n0) R0 19 [.ref 7] W J g L (bR (some (.int (J 7 9))) W J g L) := by
  obtain ⟨e, rfl⟩ : ∃ e, d = e + 1 := ⟨d - 1, by omega⟩
  refine bm_of (Nat.le_of_ble_eq_true rfl) (Or.inr bR_ret) ?_
  show bT e (S0 n0) R0 mt_De_misses _ 0 [(0, .ref 7)] [] W J g L 0 0
  have hSR := SR0 n0
  refine b_aln (pc2 := 1) d_De_misses_0 rfl rfl ?_
  refine b_gi (pc2 := 4) d_De_misses_1 q_3_54 (sh_7 n0) (by decide) (by decide) (rc_7) rfl ?_
  refine b_ir d_De_misses_4 rfl ?_
  exact ⟨rfl, rfl, rfl, rfl, rfl⟩
theorem de_countMiss_c {d : Nat} (hd : 1 ≤ d) {b : Int32} : bm d (S0 n0) R0 108 [.ref 7, .int b] W J g L (bR none W (am_u2 J 7 9 (if b = 0 then J 7 9 + Int32.ofNat 1 else 0)) g L) := by
  obtain ⟨e, rfl⟩ : ∃ e, d = e + 1 := ⟨d - 1, by omega⟩
  refine bm_of (Nat.le_of_ble_eq_true rfl) (Or.inr bR_ret) ?_
  show bT e (S0 n0) R0 mt_De_countMiss _ 0 [(0, .ref 7), (1, .int b)] [] W J g L 0 0
  have hSR := SR0 n0
  refine b_aln (pc2 := 1) d_De_countMiss_0 rfl rfl ?_
  refine b_iln (pc2 := 2) d_De_countMiss_1 rfl rfl ?_
  refine b_ifd (pc2 := 9) d_De_countMiss_2 rfl rfl rfl rfl rfl (fun h2 => ?_) (fun h2 => ?_)
  · refine b_aln (pc2 := 10) d_De_countMiss_9 rfl rfl ?_
    refine b_gi (pc2 := 13) d_De_countMiss_10 q_3_54 (sh_7 n0) (by decide) (by decide) (rc_7) rfl ?_
    refine b_ic (pc2 := 14) (x := Int32.ofNat 1) d_De_countMiss_13 rfl rfl ?_
    refine b_pure (pc2 := 15) d_De_countMiss_14 rfl rfl rfl ?_
    refine b_pi (pc2 := 18) d_De_countMiss_15 q_3_54 (sh_7 n0) (by decide) (Or.inl (by decide)) (Or.inl rfl) (rc_7) rfl ?_
    refine b_vr d_De_countMiss_18 rfl ?_
    exact ⟨rfl, rfl, by rw [if_pos h2], rfl, rfl⟩
  · refine b_ic (pc2 := 6) (x := Int32.ofNat 0) d_De_countMiss_5 rfl rfl ?_
    refine b_go (pc2 := 15) d_De_countMiss_6 rfl ?_
    refine b_pi (pc2 := 18) d_De_countMiss_15 q_3_54 (sh_7 n0) (by decide) (Or.inl (by decide)) (Or.inl rfl) (rc_7) rfl ?_
    refine b_vr d_De_countMiss_18 rfl ?_
    exact ⟨rfl, rfl, by rw [if_neg h2]; rfl, rfl, rfl⟩
theorem de_misses_s {d : Nat} (hd : 1 ≤ d)  : bm d (S0 n0) R0 19 [.ref 37] W J g L (bR (some (.int (J 37 9))) W J g L) := by
  obtain ⟨e, rfl⟩ : ∃ e, d = e + 1 := ⟨d - 1, by omega⟩
  refine bm_of (Nat.le_of_ble_eq_true rfl) (Or.inr bR_ret) ?_
  show bT e (S0 n0) R0 mt_De_misses _ 0 [(0, .ref 37)] [] W J g L 0 0
  have hSR := SR0 n0
  refine b_aln (pc2 := 1) d_De_misses_0 rfl rfl ?_
  refine b_gi (pc2 := 4) d_De_misses_1 q_3_54 (sh_37 n0) (by decide) (by decide) (rc_37) rfl ?_
  refine b_ir d_De_misses_4 rfl ?_
  exact ⟨rfl, rfl, rfl, rfl, rfl⟩
theorem de_countMiss_s {d : Nat} (hd : 1 ≤ d) {b : Int32} : bm d (S0 n0) R0 108 [.ref 37, .int b] W J g L (bR none W (am_u2 J 37 9 (if b = 0 then J 37 9 + Int32.ofNat 1 else 0)) g L) := by
  obtain ⟨e, rfl⟩ : ∃ e, d = e + 1 := ⟨d - 1, by omega⟩
  refine bm_of (Nat.le_of_ble_eq_true rfl) (Or.inr bR_ret) ?_
  show bT e (S0 n0) R0 mt_De_countMiss _ 0 [(0, .ref 37), (1, .int b)] [] W J g L 0 0
  have hSR := SR0 n0
  refine b_aln (pc2 := 1) d_De_countMiss_0 rfl rfl ?_
  refine b_iln (pc2 := 2) d_De_countMiss_1 rfl rfl ?_
  refine b_ifd (pc2 := 9) d_De_countMiss_2 rfl rfl rfl rfl rfl (fun h2 => ?_) (fun h2 => ?_)
  · refine b_aln (pc2 := 10) d_De_countMiss_9 rfl rfl ?_
    refine b_gi (pc2 := 13) d_De_countMiss_10 q_3_54 (sh_37 n0) (by decide) (by decide) (rc_37) rfl ?_
    refine b_ic (pc2 := 14) (x := Int32.ofNat 1) d_De_countMiss_13 rfl rfl ?_
    refine b_pure (pc2 := 15) d_De_countMiss_14 rfl rfl rfl ?_
    refine b_pi (pc2 := 18) d_De_countMiss_15 q_3_54 (sh_37 n0) (by decide) (Or.inl (by decide)) (Or.inl rfl) (rc_37) rfl ?_
    refine b_vr d_De_countMiss_18 rfl ?_
    exact ⟨rfl, rfl, by rw [if_pos h2], rfl, rfl⟩
  · refine b_ic (pc2 := 6) (x := Int32.ofNat 0) d_De_countMiss_5 rfl rfl ?_
    refine b_go (pc2 := 15) d_De_countMiss_6 rfl ?_
    refine b_pi (pc2 := 18) d_De_countMiss_15 q_3_54 (sh_37 n0) (by decide) (Or.inl (by decide)) (Or.inl rfl) (rc_37) rfl ?_
    refine b_vr d_De_countMiss_18 rfl ?_
    exact ⟨rfl, rfl, by rw [if_neg h2]; rfl, rfl, rfl⟩
end IB
