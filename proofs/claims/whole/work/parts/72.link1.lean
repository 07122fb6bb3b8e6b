/-! Part 72 (written by gen22.py): AttributeLink: calls without an event -/
/-- it throws x -/
def bX (x : Nat) (W1 : bw_W) (J1 : bw_J) (g1 : Nat) (L1 : bw_L) : am_O → bw_W → bw_J → Nat → bw_L → Prop := fun o W J g L => o = .inr x ∧ W = W1 ∧ J = J1 ∧ g = g1 ∧ L = L1
section BXX
variable {d : Nat} {S : am_S} {R : Nat → Option Nat} {M : am_M} {Q : am_O → bw_W → bw_J → Nat → bw_L → Prop} {pc pc2 : Nat} {al : List (Nat × Value)} {st r : List Value} {W : bw_W} {J : bw_J} {g : Nat} {L : bw_L} {c u : Nat}
theorem b_csX {i j z t x : Nat} {as : List Value} {W1 : bw_W} {J1 : bw_J} {g1 : Nat} {L1 : bw_L} {c2 u2 : Nat} (hm : bm d S R j as W J g L (bX x W1 J1 g1 L1)) (hd : decode (am_b M) pc = .ok (.invokestatic i, 3)) (hp : tb_pl (am_o M) i = (2, j, t, z)) (ht : t = 1 ∨ t = 4) (hn : am_np (tb_mt j) ≤ st.length) (ha : (st.take (am_np (tb_mt j))).reverse = as) (hr : st.drop (am_np (tb_mt j)) = r) (h8 : am_w8 r ≤ 8) (hc : c + am_mc (tb_mt j) = c2) (hu : u + am_ms (tb_mt j) = u2) (hc2 : c2 ≤ am_mc M) (hu2 : u2 ≤ am_ms M) (hh : am_hs M = []) (k : Q (.inr x) W1 J1 g1 L1) : bT d S R M Q pc al st W J g L c u :=
  b_csQ hm hd hp ht hn ha hr h8 hc hu hc2 hu2 rfl (fun o W2 J2 g2 L2 q => by
    obtain ⟨rfl, rfl, rfl, rfl, rfl⟩ := q
    exact Or.inr ⟨x, rfl, Or.inl ⟨hh, k⟩⟩)
theorem b_cvX {i j z b x : Nat} {as : List Value} {W1 : bw_W} {J1 : bw_J} {g1 : Nat} {L1 : bw_L} {c2 u2 : Nat} (hm : bm d S R j (.ref b :: as) W J g L (bX x W1 J1 g1 L1)) (hd : decode (am_b M) pc = .ok (.invokevirtual i, 3)) (hp : tb_pl (am_o M) i = (2, j, 0, z)) (hn : am_np (tb_mt j) ≤ st.length) (ha : (st.take (am_np (tb_mt j))).reverse = as) (hr : st.drop (am_np (tb_mt j)) = .ref b :: r) (hs : S.1 b = some (am_o (tb_mt j), tb_nf (am_o (tb_mt j)))) (h8 : am_w8 r ≤ 8) (hc : c + am_mc (tb_mt j) = c2) (hu : u + am_ms (tb_mt j) = u2) (hc2 : c2 ≤ am_mc M) (hu2 : u2 ≤ am_ms M) (hh : am_hs M = []) (k : Q (.inr x) W1 J1 g1 L1) : bT d S R M Q pc al st W J g L c u :=
  b_cvQ hm hd hp hn ha hr hs h8 hc hu hc2 hu2 rfl (fun o W2 J2 g2 L2 q => by
    obtain ⟨rfl, rfl, rfl, rfl, rfl⟩ := q
    exact Or.inr ⟨x, rfl, Or.inl ⟨hh, k⟩⟩)
theorem b_cvH {i j z b x t : Nat} {as : List Value} {W1 : bw_W} {J1 : bw_J} {g1 : Nat} {L1 : bw_L} {c2 u2 : Nat} (hm : bm d S R j (.ref b :: as) W J g L (bX x W1 J1 g1 L1)) (hd : decode (am_b M) pc = .ok (.invokevirtual i, 3)) (hp : tb_pl (am_o M) i = (2, j, 0, z)) (hn : am_np (tb_mt j) ≤ st.length) (ha : (st.take (am_np (tb_mt j))).reverse = as) (hr : st.drop (am_np (tb_mt j)) = .ref b :: r) (hs : S.1 b = some (am_o (tb_mt j), tb_nf (am_o (tb_mt j)))) (h8 : am_w8 r ≤ 8) (hc : c + am_mc (tb_mt j) = c2) (hu : u + am_ms (tb_mt j) = u2) (hc2 : c2 ≤ am_mc M) (hu2 : u2 ≤ am_ms M) (hf : am_hf (fun i => (tb_pl (am_o M) i).2.1) (am_hs M) pc x = some t) (hx : x < 4) (k : bT d S R M Q t al [.ref (S.2.2 + g1)] W1 J1 g1 L1 c2 u2) : bT d S R M Q pc al st W J g L c u :=
  b_cvQ hm hd hp hn ha hr hs h8 hc hu hc2 hu2 rfl (fun o W2 J2 g2 L2 q => by
    obtain ⟨rfl, rfl, rfl, rfl, rfl⟩ := q
    exact Or.inr ⟨x, rfl, Or.inr ⟨t, hf, hx, k⟩⟩)
end BXX
theorem if01 {p : Prop} {dp : Decidable p} : (@ite Int32 p dp 1 0 = 0) ↔ ¬ p := by
  by_cases h : p
  · rw [if_pos h]
    exact ⟨fun z => absurd z (by decide), fun z => absurd h z⟩
  · rw [if_neg h]
    exact ⟨fun _ => h, fun _ => rfl⟩
section LK
variable {n0 : Nat} {W : bw_W} {J : bw_J} {g : Nat} {L : bw_L}
variable {i : Nat} {W1 W2 : bw_W} {J1 J2 : bw_J}
theorem al_isByte {d : Nat} (hd : 1 ≤ d) {x : Int32} : bm d (S0 n0) R0 27 [.int x] W J g L (bR (some (.int (if ¬ x < 0 ∧ ¬ Int32.ofNat 255 < x then 1 else 0))) W J g L) := by
  obtain ⟨e, rfl⟩ : ∃ e, d = e + 1 := ⟨d - 1, by omega⟩
  refine bm_of (Nat.le_of_ble_eq_true rfl) (Or.inr bR_ret) ?_
  show bT e (S0 n0) R0 mt_Al_isByte _ 0 [(0, .int x)] [] W J g L 0 0
  have hSR := SR0 n0
  refine b_iln (pc2 := 1) d_Al_isByte_0 rfl rfl ?_
  refine b_ifd (pc2 := 15) d_Al_isByte_1 rfl rfl rfl rfl rfl (fun h1 => ?_) (fun h1 => ?_)
  · refine b_ic (pc2 := 16) (x := Int32.ofNat 0) d_Al_isByte_15 rfl rfl ?_
    refine b_br d_Al_isByte_16 rfl (by decide) ?_
    exact ⟨by rw [if_neg (fun z => z.1 h1)]; rfl, rfl, rfl, rfl, rfl⟩
  · refine b_iln (pc2 := 5) d_Al_isByte_4 rfl rfl ?_
    refine b_sp (pc2 := 8) (x := Int32.ofNat 255) d_Al_isByte_5 rfl rfl ?_
    refine b_ifd (pc2 := 15) d_Al_isByte_8 rfl rfl rfl rfl rfl (fun h8 => ?_) (fun h8 => ?_)
    · refine b_ic (pc2 := 16) (x := Int32.ofNat 0) d_Al_isByte_15 rfl rfl ?_
      refine b_br d_Al_isByte_16 rfl (by decide) ?_
      exact ⟨by rw [if_neg (fun z => z.2 h8)]; rfl, rfl, rfl, rfl, rfl⟩
    · refine b_ic (pc2 := 12) (x := Int32.ofNat 1) d_Al_isByte_11 rfl rfl ?_
      refine b_go (pc2 := 16) d_Al_isByte_12 rfl ?_
      refine b_br d_Al_isByte_16 rfl (by decide) ?_
      exact ⟨by rw [if_pos ⟨h1, h8⟩]; rfl, rfl, rfl, rfl, rfl⟩
theorem al_isSize {d : Nat} (hd : 1 ≤ d) {x : Int32} : bm d (S0 n0) R0 28 [.int x] W J g L (bR (some (.int (if ¬ x < 0 ∧ ¬ Int32.ofNat 8 < x then 1 else 0))) W J g L) := by
  obtain ⟨e, rfl⟩ : ∃ e, d = e + 1 := ⟨d - 1, by omega⟩
  refine bm_of (Nat.le_of_ble_eq_true rfl) (Or.inr bR_ret) ?_
  show bT e (S0 n0) R0 mt_Al_isNumberSize _ 0 [(0, .int x)] [] W J g L 0 0
  have hSR := SR0 n0
  refine b_iln (pc2 := 1) d_Al_isNumberSize_0 rfl rfl ?_
  refine b_ifd (pc2 := 14) d_Al_isNumberSize_1 rfl rfl rfl rfl rfl (fun h1 => ?_) (fun h1 => ?_)
  · refine b_ic (pc2 := 15) (x := Int32.ofNat 0) d_Al_isNumberSize_14 rfl rfl ?_
    refine b_br d_Al_isNumberSize_15 rfl (by decide) ?_
    exact ⟨by rw [if_neg (fun z => z.1 h1)]; rfl, rfl, rfl, rfl, rfl⟩
  · refine b_iln (pc2 := 5) d_Al_isNumberSize_4 rfl rfl ?_
    refine b_bp (pc2 := 7) (x := Int32.ofNat 8) d_Al_isNumberSize_5 rfl rfl ?_
    refine b_ifd (pc2 := 14) d_Al_isNumberSize_7 rfl rfl rfl rfl rfl (fun h7 => ?_) (fun h7 => ?_)
    · refine b_ic (pc2 := 15) (x := Int32.ofNat 0) d_Al_isNumberSize_14 rfl rfl ?_
      refine b_br d_Al_isNumberSize_15 rfl (by decide) ?_
      exact ⟨by rw [if_neg (fun z => z.2 h7)]; rfl, rfl, rfl, rfl, rfl⟩
    · refine b_ic (pc2 := 11) (x := Int32.ofNat 1) d_Al_isNumberSize_10 rfl rfl ?_
      refine b_go (pc2 := 15) d_Al_isNumberSize_11 rfl ?_
      refine b_br d_Al_isNumberSize_15 rfl (by decide) ?_
      exact ⟨by rw [if_pos ⟨h1, h7⟩]; rfl, rfl, rfl, rfl, rfl⟩
theorem al_bol0 {d : Nat} (hd : 2 ≤ d) {r N : Nat} (hr : R0 r = some N) : bm d (S0 n0) R0 117 [.ref r, .int (-1)] W J g L (bR (some (.int (Int32.ofNat (W r).length))) W J g L) := by
  obtain ⟨e, rfl⟩ : ∃ e, d = e + 1 := ⟨d - 1, by omega⟩
  refine bm_of (Nat.le_of_ble_eq_true rfl) (Or.inr bR_ret) ?_
  show bT e (S0 n0) R0 mt_Al_byteOrLength _ 0 [(0, .ref r), (1, .int (-1))] [] W J g L 0 0
  have hSR := SR0 n0
  refine b_iln (pc2 := 1) d_Al_byteOrLength_0 rfl rfl ?_
  refine b_ic (pc2 := 2) (x := -1) d_Al_byteOrLength_1 rfl rfl ?_
  refine b_ifd (pc2 := 10) d_Al_byteOrLength_2 rfl rfl rfl rfl rfl (fun h2 => ?_) (fun h2 => ?_)
  · exact absurd h2 (by decide)
  refine b_aln (pc2 := 6) d_Al_byteOrLength_5 rfl rfl ?_
  refine b_cv1 (pc2 := 9) (c2 := 0) (u2 := 0) (rw_length (by omega) hSR hr) d_Al_byteOrLength_6 q_10_88 (Nat.le_of_ble_eq_true rfl) rfl rfl ((hSR r N hr).1) (Nat.le_of_ble_eq_true rfl) rfl rfl (by decide) (by decide) rfl ?_
  refine b_ir d_Al_byteOrLength_9 rfl ?_
  exact ⟨rfl, rfl, rfl, rfl, rfl⟩
theorem al_bol1 {d : Nat} (hd : 2 ≤ d) {r N : Nat} (hr : R0 r = some N) {k : Nat} (hk : k < (W r).length) : bm d (S0 n0) R0 117 [.ref r, .int (Int32.ofNat k)] W J g L (bR (some (.int ((W r).getD k 0))) W J g L) := by
  obtain ⟨e, rfl⟩ : ∃ e, d = e + 1 := ⟨d - 1, by omega⟩
  refine bm_of (Nat.le_of_ble_eq_true rfl) (Or.inr bR_ret) ?_
  show bT e (S0 n0) R0 mt_Al_byteOrLength _ 0 [(0, .ref r), (1, .int (Int32.ofNat k))] [] W J g L 0 0
  have hSR := SR0 n0
  refine b_free fun hlen => ?_
  have hl := Nat.le_trans (hlen r N hr) (hSR r N hr).2.2.2
  refine b_iln (pc2 := 1) d_Al_byteOrLength_0 rfl rfl ?_
  refine b_ic (pc2 := 2) (x := -1) d_Al_byteOrLength_1 rfl rfl ?_
  refine b_ifd (pc2 := 10) d_Al_byteOrLength_2 rfl rfl rfl rfl rfl (fun h2 => ?_) (fun h2 => ?_)
  rotate_left
  · exact absurd (fun z => absurd (i_nn (n := k) (by omega)) (by rw [z]; decide)) h2
  refine b_aln (pc2 := 11) d_Al_byteOrLength_10 rfl rfl ?_
  refine b_iln (pc2 := 12) d_Al_byteOrLength_11 rfl rfl ?_
  refine b_cv1 (pc2 := 15) (c2 := 0) (u2 := 0) (rw_has (by omega) hSR hr _) d_Al_byteOrLength_12 q_10_179 (Nat.le_of_ble_eq_true rfl) rfl rfl ((hSR r N hr).1) (Nat.le_of_ble_eq_true rfl) rfl rfl (by decide) (by decide) rfl ?_
  rw [if_pos ⟨i_nn (by omega), (i_lt (by omega) (by omega)).mpr hk⟩]
  refine b_ifd (pc2 := 26) d_Al_byteOrLength_15 rfl rfl rfl rfl rfl (fun h15 => ?_) (fun h15 => ?_)
  rotate_left
  · exact absurd (show ¬ (1 : Int32) = 0 by decide) h15
  refine b_aln (pc2 := 27) d_Al_byteOrLength_26 rfl rfl ?_
  refine b_iln (pc2 := 28) d_Al_byteOrLength_27 rfl rfl ?_
  refine b_cv1 (pc2 := 31) (c2 := 0) (u2 := 0) (rw_at (by omega) hSR hr (by omega)) d_Al_byteOrLength_28 q_10_183 (Nat.le_of_ble_eq_true rfl) rfl rfl ((hSR r N hr).1) (Nat.le_of_ble_eq_true rfl) rfl rfl (by decide) (by decide) rfl ?_
  refine b_ir d_Al_byteOrLength_31 rfl ?_
  exact ⟨rfl, rfl, rfl, rfl, rfl⟩
theorem al_bol2 {d : Nat} (hd : 6 ≤ d) {r N : Nat} (hr : R0 r = some N) {k : Int32} (hk : ¬ k = -1) (hb : ¬ (¬ k < 0 ∧ k < Int32.ofNat (W r).length)) : bm d (S0 n0) R0 117 [.ref r, .int k] W J g L (bX 3 W J (g + 1) L) := by
  obtain ⟨e, rfl⟩ : ∃ e, d = e + 1 := ⟨d - 1, by omega⟩
  refine bm_of (Nat.le_of_ble_eq_true rfl) (Or.inl (show 5 < e + 1 by omega)) ?_
  show bT e (S0 n0) R0 mt_Al_byteOrLength _ 0 [(0, .ref r), (1, .int k)] [] W J g L 0 0
  have hSR := SR0 n0
  refine b_iln (pc2 := 1) d_Al_byteOrLength_0 rfl rfl ?_
  refine b_ic (pc2 := 2) (x := -1) d_Al_byteOrLength_1 rfl rfl ?_
  refine b_ifd (pc2 := 10) d_Al_byteOrLength_2 rfl rfl rfl rfl rfl (fun h2 => ?_) (fun h2 => ?_)
  rotate_left
  · exact absurd (hk) h2
  refine b_aln (pc2 := 11) d_Al_byteOrLength_10 rfl rfl ?_
  refine b_iln (pc2 := 12) d_Al_byteOrLength_11 rfl rfl ?_
  refine b_cv1 (pc2 := 15) (c2 := 0) (u2 := 0) (rw_has (by omega) hSR hr _) d_Al_byteOrLength_12 q_10_179 (Nat.le_of_ble_eq_true rfl) rfl rfl ((hSR r N hr).1) (Nat.le_of_ble_eq_true rfl) rfl rfl (by decide) (by decide) rfl ?_
  rw [if_neg hb]
  refine b_ifd (pc2 := 26) d_Al_byteOrLength_15 rfl rfl rfl rfl rfl (fun h15 => ?_) (fun h15 => ?_)
  · exact absurd h15 (fun z => z rfl)
  refine b_thr d_Al_byteOrLength_18 q_10_180 rfl (by decide) (by decide) (Nat.le_of_ble_eq_true rfl) d_Al_byteOrLength_21 d_Al_byteOrLength_22 d_Al_byteOrLength_25 ?_
  exact ⟨rfl, rfl, rfl, rfl, rfl⟩
theorem al_idle0 {d : Nat} (hd : 2 ≤ d) (hd0 : J 1 8 = 0) (hm : (J 67 8 = -1 ∨ J 67 8 = Int32.ofNat 1 ∨ J 67 8 = Int32.ofNat 2)) : bm d (S0 n0) R0 47 [.ref 1] W J g L (bR none W J g L) := by
  obtain ⟨e, rfl⟩ : ∃ e, d = e + 1 := ⟨d - 1, by omega⟩
  refine bm_of (Nat.le_of_ble_eq_true rfl) (Or.inr bR_ret) ?_
  show bT e (S0 n0) R0 mt_Al_requireIdleClient _ 0 [(0, .ref 1)] [] W J g L 0 0
  have hSR := SR0 n0
  refine b_aln (pc2 := 1) d_Al_requireIdleClient_0 rfl rfl ?_
  refine b_gi (pc2 := 4) d_Al_requireIdleClient_1 q_10_56 (sh_1 n0) (by decide) (by decide) (rc_1) rfl ?_
  refine b_ifd (pc2 := 17) d_Al_requireIdleClient_4 rfl rfl rfl rfl rfl (fun h4 => ?_) (fun h4 => ?_)
  · exact absurd h4 (fun z => z hd0)
  refine b_aln (pc2 := 8) d_Al_requireIdleClient_7 rfl rfl ?_
  refine b_gr (pc2 := 11) d_Al_requireIdleClient_8 q_10_38 (sh_1 n0) (by decide) (by decide) (p_1_4 n0) rfl ?_
  refine b_cv1 (pc2 := 14) (c2 := 0) (u2 := 0) (cl_mayStart (by omega)) d_Al_requireIdleClient_11 q_10_187 (Nat.le_of_ble_eq_true rfl) rfl rfl (sh_67 n0) (Nat.le_of_ble_eq_true rfl) rfl rfl (by decide) (by decide) rfl ?_
  rw [if_pos hm]
  refine b_ifd (pc2 := 25) d_Al_requireIdleClient_14 rfl rfl rfl rfl rfl (fun h14 => ?_) (fun h14 => ?_)
  rotate_left
  · exact absurd (show ¬ (1 : Int32) = 0 by decide) h14
  refine b_vr d_Al_requireIdleClient_25 rfl ?_
  exact ⟨rfl, rfl, rfl, rfl, rfl⟩
theorem al_idle1 {d : Nat} (hd : 6 ≤ d) (hm : ¬ (J 1 8 = 0 ∧ (J 67 8 = -1 ∨ J 67 8 = Int32.ofNat 1 ∨ J 67 8 = Int32.ofNat 2))) : bm d (S0 n0) R0 47 [.ref 1] W J g L (bX 1 W J (g + 1) L) := by
  obtain ⟨e, rfl⟩ : ∃ e, d = e + 1 := ⟨d - 1, by omega⟩
  refine bm_of (Nat.le_of_ble_eq_true rfl) (Or.inl (show 5 < e + 1 by omega)) ?_
  show bT e (S0 n0) R0 mt_Al_requireIdleClient _ 0 [(0, .ref 1)] [] W J g L 0 0
  have hSR := SR0 n0
  refine b_aln (pc2 := 1) d_Al_requireIdleClient_0 rfl rfl ?_
  refine b_gi (pc2 := 4) d_Al_requireIdleClient_1 q_10_56 (sh_1 n0) (by decide) (by decide) (rc_1) rfl ?_
  refine b_ifd (pc2 := 17) d_Al_requireIdleClient_4 rfl rfl rfl rfl rfl (fun h4 => ?_) (fun h4 => ?_)
  · refine b_thr d_Al_requireIdleClient_17 q_10_74 rfl (by decide) (by decide) (Nat.le_of_ble_eq_true rfl) d_Al_requireIdleClient_20 d_Al_requireIdleClient_21 d_Al_requireIdleClient_24 ?_
    exact ⟨rfl, rfl, rfl, rfl, rfl⟩
  · refine b_aln (pc2 := 8) d_Al_requireIdleClient_7 rfl rfl ?_
    refine b_gr (pc2 := 11) d_Al_requireIdleClient_8 q_10_38 (sh_1 n0) (by decide) (by decide) (p_1_4 n0) rfl ?_
    refine b_cv1 (pc2 := 14) (c2 := 0) (u2 := 0) (cl_mayStart (by omega)) d_Al_requireIdleClient_11 q_10_187 (Nat.le_of_ble_eq_true rfl) rfl rfl (sh_67 n0) (Nat.le_of_ble_eq_true rfl) rfl rfl (by decide) (by decide) rfl ?_
    refine b_ifd (pc2 := 25) d_Al_requireIdleClient_14 rfl rfl rfl rfl rfl (fun h14 => ?_) (fun h14 => ?_)
    · exact absurd ⟨Decidable.not_not.mp h4, Decidable.not_not.mp (fun z => h14 (if01.mpr z))⟩ hm
    · refine b_thr d_Al_requireIdleClient_17 q_10_74 rfl (by decide) (by decide) (Nat.le_of_ble_eq_true rfl) d_Al_requireIdleClient_20 d_Al_requireIdleClient_21 d_Al_requireIdleClient_24 ?_
      exact ⟨rfl, rfl, rfl, rfl, rfl⟩
theorem al_attr0 {d : Nat} (hd : 6 ≤ d) {ty pm n : Int32} {v : Int64} (hb : ¬ ((¬ ty < 0 ∧ ¬ Int32.ofNat 255 < ty) ∧ ¬ pm < 0 ∧ ¬ Int32.ofNat 3 < pm ∧ (¬ n < 0 ∧ ¬ Int32.ofNat 8 < n))) : bm d (S0 n0) R0 26 [.ref 1, .int ty, .int pm, .long v, .int n] W J g L (bX 0 W J (g + 1) L) := by
  obtain ⟨e, rfl⟩ : ∃ e, d = e + 1 := ⟨d - 1, by omega⟩
  refine bm_of (Nat.le_of_ble_eq_true rfl) (Or.inl (show 5 < e + 1 by omega)) ?_
  show bT e (S0 n0) R0 mt_Al_attribute _ 0 [(0, .ref 1), (1, .int ty), (2, .int pm), (3, .long v), (5, .int n)] [] W J g L 0 0
  have hSR := SR0 n0
  refine b_iln (pc2 := 1) d_Al_attribute_0 rfl rfl ?_
  refine b_cs1 (pc2 := 4) (c2 := 0) (u2 := 0) (al_isByte (by omega)) d_Al_attribute_1 q_10_60 (Or.inl rfl) (Nat.le_of_ble_eq_true rfl) rfl rfl (Nat.le_of_ble_eq_true rfl) rfl rfl (by decide) (by decide) rfl ?_
  refine b_ifd (pc2 := 24) d_Al_attribute_4 rfl rfl rfl rfl rfl (fun h4 => ?_) (fun h4 => ?_)
  · refine b_thr d_Al_attribute_24 q_10_67 rfl (by decide) (by decide) (Nat.le_of_ble_eq_true rfl) d_Al_attribute_27 d_Al_attribute_28 d_Al_attribute_31 ?_
    exact ⟨rfl, rfl, rfl, rfl, rfl⟩
  · refine b_iln (pc2 := 8) d_Al_attribute_7 rfl rfl ?_
    refine b_ifd (pc2 := 24) d_Al_attribute_8 rfl rfl rfl rfl rfl (fun h8 => ?_) (fun h8 => ?_)
    · refine b_thr d_Al_attribute_24 q_10_67 rfl (by decide) (by decide) (Nat.le_of_ble_eq_true rfl) d_Al_attribute_27 d_Al_attribute_28 d_Al_attribute_31 ?_
      exact ⟨rfl, rfl, rfl, rfl, rfl⟩
    · refine b_iln (pc2 := 12) d_Al_attribute_11 rfl rfl ?_
      refine b_ic (pc2 := 13) (x := Int32.ofNat 3) d_Al_attribute_12 rfl rfl ?_
      refine b_ifd (pc2 := 24) d_Al_attribute_13 rfl rfl rfl rfl rfl (fun h13 => ?_) (fun h13 => ?_)
      · refine b_thr d_Al_attribute_24 q_10_67 rfl (by decide) (by decide) (Nat.le_of_ble_eq_true rfl) d_Al_attribute_27 d_Al_attribute_28 d_Al_attribute_31 ?_
        exact ⟨rfl, rfl, rfl, rfl, rfl⟩
      · refine b_il (pc2 := 18) d_Al_attribute_16 rfl rfl ?_
        refine b_cs1 (pc2 := 21) (c2 := 0) (u2 := 0) (al_isSize (by omega)) d_Al_attribute_18 q_10_64 (Or.inl rfl) (Nat.le_of_ble_eq_true rfl) rfl rfl (Nat.le_of_ble_eq_true rfl) rfl rfl (by decide) (by decide) rfl ?_
        refine b_ifd (pc2 := 32) d_Al_attribute_21 rfl rfl rfl rfl rfl (fun h21 => ?_) (fun h21 => ?_)
        · exact absurd ⟨Decidable.not_not.mp (fun z => h4 (if01.mpr z)), h8, h13, Decidable.not_not.mp (fun z => h21 (if01.mpr z))⟩ hb
        · refine b_thr d_Al_attribute_24 q_10_67 rfl (by decide) (by decide) (Nat.le_of_ble_eq_true rfl) d_Al_attribute_27 d_Al_attribute_28 d_Al_attribute_31 ?_
          exact ⟨rfl, rfl, rfl, rfl, rfl⟩
theorem al_attr1 {d : Nat} (hd : 6 ≤ d) {ty pm n : Int32} {v : Int64} (hok : ((¬ ty < 0 ∧ ¬ Int32.ofNat 255 < ty) ∧ ¬ pm < 0 ∧ ¬ Int32.ofNat 3 < pm ∧ (¬ n < 0 ∧ ¬ Int32.ofNat 8 < n))) (hc : J 86 1 = Int32.ofNat 10) : bm d (S0 n0) R0 26 [.ref 1, .int ty, .int pm, .long v, .int n] W J g L (bX 1 W J (g + 1) L) := by
  obtain ⟨e, rfl⟩ : ∃ e, d = e + 1 := ⟨d - 1, by omega⟩
  refine bm_of (Nat.le_of_ble_eq_true rfl) (Or.inl (show 5 < e + 1 by omega)) ?_
  show bT e (S0 n0) R0 mt_Al_attribute _ 0 [(0, .ref 1), (1, .int ty), (2, .int pm), (3, .long v), (5, .int n)] [] W J g L 0 0
  have hSR := SR0 n0
  refine b_iln (pc2 := 1) d_Al_attribute_0 rfl rfl ?_
  refine b_cs1 (pc2 := 4) (c2 := 0) (u2 := 0) (al_isByte (by omega)) d_Al_attribute_1 q_10_60 (Or.inl rfl) (Nat.le_of_ble_eq_true rfl) rfl rfl (Nat.le_of_ble_eq_true rfl) rfl rfl (by decide) (by decide) rfl ?_
  refine b_ifd (pc2 := 24) d_Al_attribute_4 rfl rfl rfl rfl rfl (fun h4 => ?_) (fun h4 => ?_)
  · exact absurd h4 (fun z => (if01.mp z) hok.1)
  refine b_iln (pc2 := 8) d_Al_attribute_7 rfl rfl ?_
  refine b_ifd (pc2 := 24) d_Al_attribute_8 rfl rfl rfl rfl rfl (fun h8 => ?_) (fun h8 => ?_)
  · exact absurd h8 (hok.2.1)
  refine b_iln (pc2 := 12) d_Al_attribute_11 rfl rfl ?_
  refine b_ic (pc2 := 13) (x := Int32.ofNat 3) d_Al_attribute_12 rfl rfl ?_
  refine b_ifd (pc2 := 24) d_Al_attribute_13 rfl rfl rfl rfl rfl (fun h13 => ?_) (fun h13 => ?_)
  · exact absurd h13 (hok.2.2.1)
  refine b_il (pc2 := 18) d_Al_attribute_16 rfl rfl ?_
  refine b_cs1 (pc2 := 21) (c2 := 0) (u2 := 0) (al_isSize (by omega)) d_Al_attribute_18 q_10_64 (Or.inl rfl) (Nat.le_of_ble_eq_true rfl) rfl rfl (Nat.le_of_ble_eq_true rfl) rfl rfl (by decide) (by decide) rfl ?_
  refine b_ifd (pc2 := 32) d_Al_attribute_21 rfl rfl rfl rfl rfl (fun h21 => ?_) (fun h21 => ?_)
  rotate_left
  · exact absurd (fun z => (if01.mp z) hok.2.2.2) h21
  refine b_aln (pc2 := 33) d_Al_attribute_32 rfl rfl ?_
  refine b_gr (pc2 := 36) d_Al_attribute_33 q_10_45 (sh_1 n0) (by decide) (by decide) (p_1_5 n0) rfl ?_
  refine b_cv1 (pc2 := 39) (c2 := 0) (u2 := 0) (se_isFull (ct := 10) (by omega) hc (by decide)) d_Al_attribute_36 q_10_70 (Nat.le_of_ble_eq_true rfl) rfl rfl (sh_86 n0) (Nat.le_of_ble_eq_true rfl) rfl rfl (by decide) (by decide) rfl ?_
  refine b_ifd (pc2 := 50) d_Al_attribute_39 rfl rfl rfl rfl rfl (fun h39 => ?_) (fun h39 => ?_)
  · exact absurd h39 (by decide)
  refine b_thr d_Al_attribute_42 q_10_74 rfl (by decide) (by decide) (Nat.le_of_ble_eq_true rfl) d_Al_attribute_45 d_Al_attribute_46 d_Al_attribute_49 ?_
  exact ⟨rfl, rfl, rfl, rfl, rfl⟩
theorem al_attr2 {d : Nat} (hd : 4 ≤ d) {ty pm : Int32} {n : Nat} {v : Int64} (hok : ((¬ ty < 0 ∧ ¬ Int32.ofNat 255 < ty) ∧ ¬ pm < 0 ∧ ¬ Int32.ofNat 3 < pm ∧ (¬ Int32.ofNat n < 0 ∧ ¬ Int32.ofNat 8 < Int32.ofNat n))) (hn : n ≤ 8) (hi : i < 10) (hc : J 86 1 = Int32.ofNat i) (hw : W (89 + 3 * i) = []) : bm d (S0 n0) R0 26 [.ref 1, .int ty, .int pm, .long v, .int (Int32.ofNat n)] W J g L (bR (some (.int (Int32.ofNat (i + 1)))) (am_u1 W (89 + 3 * i) (by8 v n)) (am_u2 (am_u2 (am_u2 J (88 + 3 * i) 1 ty) (88 + 3 * i) 2 pm) 86 1 (Int32.ofNat (i + 1))) g L) := by
  obtain ⟨e, rfl⟩ : ∃ e, d = e + 1 := ⟨d - 1, by omega⟩
  refine bm_of (Nat.le_of_ble_eq_true rfl) (Or.inr bR_ret) ?_
  show bT e (S0 n0) R0 mt_Al_attribute _ 0 [(0, .ref 1), (1, .int ty), (2, .int pm), (3, .long v), (5, .int (Int32.ofNat n))] [] W J g L 0 0
  have hSR := SR0 n0
  refine b_iln (pc2 := 1) d_Al_attribute_0 rfl rfl ?_
  refine b_cs1 (pc2 := 4) (c2 := 0) (u2 := 0) (al_isByte (by omega)) d_Al_attribute_1 q_10_60 (Or.inl rfl) (Nat.le_of_ble_eq_true rfl) rfl rfl (Nat.le_of_ble_eq_true rfl) rfl rfl (by decide) (by decide) rfl ?_
  refine b_ifd (pc2 := 24) d_Al_attribute_4 rfl rfl rfl rfl rfl (fun h4 => ?_) (fun h4 => ?_)
  · exact absurd h4 (fun z => (if01.mp z) hok.1)
  refine b_iln (pc2 := 8) d_Al_attribute_7 rfl rfl ?_
  refine b_ifd (pc2 := 24) d_Al_attribute_8 rfl rfl rfl rfl rfl (fun h8 => ?_) (fun h8 => ?_)
  · exact absurd h8 (hok.2.1)
  refine b_iln (pc2 := 12) d_Al_attribute_11 rfl rfl ?_
  refine b_ic (pc2 := 13) (x := Int32.ofNat 3) d_Al_attribute_12 rfl rfl ?_
  refine b_ifd (pc2 := 24) d_Al_attribute_13 rfl rfl rfl rfl rfl (fun h13 => ?_) (fun h13 => ?_)
  · exact absurd h13 (hok.2.2.1)
  refine b_il (pc2 := 18) d_Al_attribute_16 rfl rfl ?_
  refine b_cs1 (pc2 := 21) (c2 := 0) (u2 := 0) (al_isSize (by omega)) d_Al_attribute_18 q_10_64 (Or.inl rfl) (Nat.le_of_ble_eq_true rfl) rfl rfl (Nat.le_of_ble_eq_true rfl) rfl rfl (by decide) (by decide) rfl ?_
  refine b_ifd (pc2 := 32) d_Al_attribute_21 rfl rfl rfl rfl rfl (fun h21 => ?_) (fun h21 => ?_)
  rotate_left
  · exact absurd (fun z => (if01.mp z) hok.2.2.2) h21
  refine b_aln (pc2 := 33) d_Al_attribute_32 rfl rfl ?_
  refine b_gr (pc2 := 36) d_Al_attribute_33 q_10_45 (sh_1 n0) (by decide) (by decide) (p_1_5 n0) rfl ?_
  refine b_cv1 (pc2 := 39) (c2 := 0) (u2 := 0) (se_isFull (by omega) hc (by omega)) d_Al_attribute_36 q_10_70 (Nat.le_of_ble_eq_true rfl) rfl rfl (sh_86 n0) (Nat.le_of_ble_eq_true rfl) rfl rfl (by decide) (by decide) rfl ?_
  rw [if_pos hi]
  refine b_ifd (pc2 := 50) d_Al_attribute_39 rfl rfl rfl rfl rfl (fun h39 => ?_) (fun h39 => ?_)
  rotate_left
  · exact absurd (rfl) h39
  refine b_aln (pc2 := 51) d_Al_attribute_50 rfl rfl ?_
  refine b_gr (pc2 := 54) d_Al_attribute_51 q_10_45 (sh_1 n0) (by decide) (by decide) (p_1_5 n0) rfl ?_
  refine b_iln (pc2 := 55) d_Al_attribute_54 rfl rfl ?_
  refine b_iln (pc2 := 56) d_Al_attribute_55 rfl rfl ?_
  refine b_lln (pc2 := 57) d_Al_attribute_56 rfl rfl ?_
  refine b_il (pc2 := 59) d_Al_attribute_57 rfl rfl ?_
  refine b_cv1 (pc2 := 62) (c2 := 0) (u2 := 0) (se_addAttribute (by omega) hi hc hn hw) d_Al_attribute_59 q_10_77 (Nat.le_of_ble_eq_true rfl) rfl rfl (sh_86 n0) (Nat.le_of_ble_eq_true rfl) rfl rfl (by decide) (by decide) rfl ?_
  refine b_ir d_Al_attribute_62 rfl ?_
  exact ⟨rfl, rfl, rfl, rfl, rfl⟩
theorem al_put0 {d : Nat} (hd : 6 ≤ d) {h b n : Int32} {v : Int64} (hb : ¬ ((¬ h < Int32.ofNat 1 ∧ ¬ J 86 1 < h) ∧ (¬ n < 0 ∧ ¬ Int32.ofNat 8 < n))) : bm d (S0 n0) R0 34 [.ref 1, .int h, .int b, .long v, .int n] W J g L (bX 0 W J (g + 1) L) := by
  obtain ⟨e, rfl⟩ : ∃ e, d = e + 1 := ⟨d - 1, by omega⟩
  refine bm_of (Nat.le_of_ble_eq_true rfl) (Or.inl (show 5 < e + 1 by omega)) ?_
  show bT e (S0 n0) R0 mt_Al_put _ 0 [(0, .ref 1), (1, .int h), (2, .int b), (3, .long v), (5, .int n)] [] W J g L 0 0
  have hSR := SR0 n0
  refine b_aln (pc2 := 1) d_Al_put_0 rfl rfl ?_
  refine b_gr (pc2 := 4) d_Al_put_1 q_10_45 (sh_1 n0) (by decide) (by decide) (p_1_5 n0) rfl ?_
  refine b_iln (pc2 := 5) d_Al_put_4 rfl rfl ?_
  refine b_cv1 (pc2 := 8) (c2 := 0) (u2 := 0) (se_hasHandle (by omega)) d_Al_put_5 q_10_81 (Nat.le_of_ble_eq_true rfl) rfl rfl (sh_86 n0) (Nat.le_of_ble_eq_true rfl) rfl rfl (by decide) (by decide) rfl ?_
  refine b_ifd (pc2 := 19) d_Al_put_8 rfl rfl rfl rfl rfl (fun h8 => ?_) (fun h8 => ?_)
  · refine b_thr d_Al_put_19 q_10_67 rfl (by decide) (by decide) (Nat.le_of_ble_eq_true rfl) d_Al_put_22 d_Al_put_23 d_Al_put_26 ?_
    exact ⟨rfl, rfl, rfl, rfl, rfl⟩
  · refine b_il (pc2 := 13) d_Al_put_11 rfl rfl ?_
    refine b_cs1 (pc2 := 16) (c2 := 0) (u2 := 0) (al_isSize (by omega)) d_Al_put_13 q_10_64 (Or.inl rfl) (Nat.le_of_ble_eq_true rfl) rfl rfl (Nat.le_of_ble_eq_true rfl) rfl rfl (by decide) (by decide) rfl ?_
    refine b_ifd (pc2 := 27) d_Al_put_16 rfl rfl rfl rfl rfl (fun h16 => ?_) (fun h16 => ?_)
    · exact absurd ⟨Decidable.not_not.mp (fun z => h8 (if01.mpr z)), Decidable.not_not.mp (fun z => h16 (if01.mpr z))⟩ hb
    · refine b_thr d_Al_put_19 q_10_67 rfl (by decide) (by decide) (Nat.le_of_ble_eq_true rfl) d_Al_put_22 d_Al_put_23 d_Al_put_26 ?_
      exact ⟨rfl, rfl, rfl, rfl, rfl⟩
theorem al_put1 {d : Nat} (hd : 6 ≤ d) {b : Int32} {n ct : Nat} {v : Int64} (hi : i < 10) (hc : J 86 1 = Int32.ofNat ct) (hct : ct ≤ 10) (hic : i < ct) (hn : n ≤ 8) (hb : b = 0) (hf : 16 < (W (89 + 3 * i)).length + n) : bm d (S0 n0) R0 34 [.ref 1, .int (Int32.ofNat (i + 1)), .int b, .long v, .int (Int32.ofNat n)] W J g L (bX 1 W J (g + 1) L) := by
  obtain ⟨e, rfl⟩ : ∃ e, d = e + 1 := ⟨d - 1, by omega⟩
  refine bm_of (Nat.le_of_ble_eq_true rfl) (Or.inl (show 5 < e + 1 by omega)) ?_
  show bT e (S0 n0) R0 mt_Al_put _ 0 [(0, .ref 1), (1, .int (Int32.ofNat (i + 1))), (2, .int b), (3, .long v), (5, .int (Int32.ofNat n))] [] W J g L 0 0
  have hSR := SR0 n0
  refine b_free fun hlen => ?_
  have hl := hlen _ 16 (at_R hi)
  have q1 : ¬ Int32.ofNat (i + 1) < Int32.ofNat 1 ∧ ¬ J 86 1 < Int32.ofNat (i + 1) := ⟨by rw [i_lt (by omega) (by decide)]; omega, by rw [hc, i_lt (by omega) (by omega)]; omega⟩
  have q2 : ¬ Int32.ofNat n < 0 ∧ ¬ Int32.ofNat 8 < Int32.ofNat n := ⟨i_nn (by omega), by rw [i_lt (by decide) (by omega)]; omega⟩
  refine b_aln (pc2 := 1) d_Al_put_0 rfl rfl ?_
  refine b_gr (pc2 := 4) d_Al_put_1 q_10_45 (sh_1 n0) (by decide) (by decide) (p_1_5 n0) rfl ?_
  refine b_iln (pc2 := 5) d_Al_put_4 rfl rfl ?_
  refine b_cv1 (pc2 := 8) (c2 := 0) (u2 := 0) (se_hasHandle (by omega)) d_Al_put_5 q_10_81 (Nat.le_of_ble_eq_true rfl) rfl rfl (sh_86 n0) (Nat.le_of_ble_eq_true rfl) rfl rfl (by decide) (by decide) rfl ?_
  refine b_ifd (pc2 := 19) d_Al_put_8 rfl rfl rfl rfl rfl (fun h8 => ?_) (fun h8 => ?_)
  · exact absurd h8 (fun z => (if01.mp z) q1)
  refine b_il (pc2 := 13) d_Al_put_11 rfl rfl ?_
  refine b_cs1 (pc2 := 16) (c2 := 0) (u2 := 0) (al_isSize (by omega)) d_Al_put_13 q_10_64 (Or.inl rfl) (Nat.le_of_ble_eq_true rfl) rfl rfl (Nat.le_of_ble_eq_true rfl) rfl rfl (by decide) (by decide) rfl ?_
  refine b_ifd (pc2 := 27) d_Al_put_16 rfl rfl rfl rfl rfl (fun h16 => ?_) (fun h16 => ?_)
  rotate_left
  · exact absurd (fun z => (if01.mp z) q2) h16
  refine b_aln (pc2 := 28) d_Al_put_27 rfl rfl ?_
  refine b_gr (pc2 := 31) d_Al_put_28 q_10_45 (sh_1 n0) (by decide) (by decide) (p_1_5 n0) rfl ?_
  refine b_iln (pc2 := 32) d_Al_put_31 rfl rfl ?_
  refine b_cv1 (pc2 := 35) (c2 := 0) (u2 := 0) (se_valueOf (by omega) hi) d_Al_put_32 q_10_84 (Nat.le_of_ble_eq_true rfl) rfl rfl (sh_86 n0) (Nat.le_of_ble_eq_true rfl) rfl rfl (by decide) (by decide) rfl ?_
  refine b_as (pc2 := 37) (al2 := [(6, _), (0, _), (1, _), (2, _), (3, _), (5, _)]) d_Al_put_35 (by decide) rfl rfl ?_
  refine b_iln (pc2 := 38) d_Al_put_37 rfl rfl ?_
  refine b_ifd (pc2 := 62) d_Al_put_38 rfl rfl rfl rfl rfl (fun h38 => ?_) (fun h38 => ?_)
  · exact absurd h38 (fun z => z hb)
  refine b_al (pc2 := 43) d_Al_put_41 rfl rfl ?_
  refine b_cv1 (pc2 := 46) (c2 := 0) (u2 := 0) (rw_length (by omega) hSR (at_R hi)) d_Al_put_43 q_10_88 (Nat.le_of_ble_eq_true rfl) rfl rfl ((hSR _ _ (at_R hi)).1) (Nat.le_of_ble_eq_true rfl) rfl rfl (by decide) (by decide) rfl ?_
  refine b_il (pc2 := 48) d_Al_put_46 rfl rfl ?_
  refine b_pure (pc2 := 49) d_Al_put_48 rfl rfl rfl ?_
  rw [i_add]
  refine b_bp (pc2 := 51) (x := Int32.ofNat 16) d_Al_put_49 rfl rfl ?_
  refine b_ifd (pc2 := 62) d_Al_put_51 rfl rfl rfl rfl rfl (fun h51 => ?_) (fun h51 => ?_)
  · exact absurd h51 (fun z => by rw [i_le (by omega) (by decide)] at z; omega)
  refine b_thr d_Al_put_54 q_10_74 rfl (by decide) (by decide) (Nat.le_of_ble_eq_true rfl) d_Al_put_57 d_Al_put_58 d_Al_put_61 ?_
  exact ⟨rfl, rfl, rfl, rfl, rfl⟩
theorem al_put2 {d : Nat} (hd : 4 ≤ d) {b : Int32} {n ct : Nat} {v : Int64} (hi : i < 10) (hc : J 86 1 = Int32.ofNat ct) (hct : ct ≤ 10) (hic : i < ct) (hn : n ≤ 8) (hb : b = 0) (hf : (W (89 + 3 * i)).length + n ≤ 16) : bm d (S0 n0) R0 34 [.ref 1, .int (Int32.ofNat (i + 1)), .int b, .long v, .int (Int32.ofNat n)] W J g L (bR (some (.int (Int32.ofNat ((W (89 + 3 * i)).length + n)))) (am_u1 W (89 + 3 * i) (W (89 + 3 * i) ++ by8 v n)) J g L) := by
  obtain ⟨e, rfl⟩ : ∃ e, d = e + 1 := ⟨d - 1, by omega⟩
  refine bm_of (Nat.le_of_ble_eq_true rfl) (Or.inr bR_ret) ?_
  show bT e (S0 n0) R0 mt_Al_put _ 0 [(0, .ref 1), (1, .int (Int32.ofNat (i + 1))), (2, .int b), (3, .long v), (5, .int (Int32.ofNat n))] [] W J g L 0 0
  have hSR := SR0 n0
  refine b_free fun hlen => ?_
  have hl := hlen _ 16 (at_R hi)
  have q1 : ¬ Int32.ofNat (i + 1) < Int32.ofNat 1 ∧ ¬ J 86 1 < Int32.ofNat (i + 1) := ⟨by rw [i_lt (by omega) (by decide)]; omega, by rw [hc, i_lt (by omega) (by omega)]; omega⟩
  have q2 : ¬ Int32.ofNat n < 0 ∧ ¬ Int32.ofNat 8 < Int32.ofNat n := ⟨i_nn (by omega), by rw [i_lt (by decide) (by omega)]; omega⟩
  refine b_aln (pc2 := 1) d_Al_put_0 rfl rfl ?_
  refine b_gr (pc2 := 4) d_Al_put_1 q_10_45 (sh_1 n0) (by decide) (by decide) (p_1_5 n0) rfl ?_
  refine b_iln (pc2 := 5) d_Al_put_4 rfl rfl ?_
  refine b_cv1 (pc2 := 8) (c2 := 0) (u2 := 0) (se_hasHandle (by omega)) d_Al_put_5 q_10_81 (Nat.le_of_ble_eq_true rfl) rfl rfl (sh_86 n0) (Nat.le_of_ble_eq_true rfl) rfl rfl (by decide) (by decide) rfl ?_
  refine b_ifd (pc2 := 19) d_Al_put_8 rfl rfl rfl rfl rfl (fun h8 => ?_) (fun h8 => ?_)
  · exact absurd h8 (fun z => (if01.mp z) q1)
  refine b_il (pc2 := 13) d_Al_put_11 rfl rfl ?_
  refine b_cs1 (pc2 := 16) (c2 := 0) (u2 := 0) (al_isSize (by omega)) d_Al_put_13 q_10_64 (Or.inl rfl) (Nat.le_of_ble_eq_true rfl) rfl rfl (Nat.le_of_ble_eq_true rfl) rfl rfl (by decide) (by decide) rfl ?_
  refine b_ifd (pc2 := 27) d_Al_put_16 rfl rfl rfl rfl rfl (fun h16 => ?_) (fun h16 => ?_)
  rotate_left
  · exact absurd (fun z => (if01.mp z) q2) h16
  refine b_aln (pc2 := 28) d_Al_put_27 rfl rfl ?_
  refine b_gr (pc2 := 31) d_Al_put_28 q_10_45 (sh_1 n0) (by decide) (by decide) (p_1_5 n0) rfl ?_
  refine b_iln (pc2 := 32) d_Al_put_31 rfl rfl ?_
  refine b_cv1 (pc2 := 35) (c2 := 0) (u2 := 0) (se_valueOf (by omega) hi) d_Al_put_32 q_10_84 (Nat.le_of_ble_eq_true rfl) rfl rfl (sh_86 n0) (Nat.le_of_ble_eq_true rfl) rfl rfl (by decide) (by decide) rfl ?_
  refine b_as (pc2 := 37) (al2 := [(6, _), (0, _), (1, _), (2, _), (3, _), (5, _)]) d_Al_put_35 (by decide) rfl rfl ?_
  refine b_iln (pc2 := 38) d_Al_put_37 rfl rfl ?_
  refine b_ifd (pc2 := 62) d_Al_put_38 rfl rfl rfl rfl rfl (fun h38 => ?_) (fun h38 => ?_)
  · exact absurd h38 (fun z => z hb)
  refine b_al (pc2 := 43) d_Al_put_41 rfl rfl ?_
  refine b_cv1 (pc2 := 46) (c2 := 0) (u2 := 0) (rw_length (by omega) hSR (at_R hi)) d_Al_put_43 q_10_88 (Nat.le_of_ble_eq_true rfl) rfl rfl ((hSR _ _ (at_R hi)).1) (Nat.le_of_ble_eq_true rfl) rfl rfl (by decide) (by decide) rfl ?_
  refine b_il (pc2 := 48) d_Al_put_46 rfl rfl ?_
  refine b_pure (pc2 := 49) d_Al_put_48 rfl rfl rfl ?_
  rw [i_add]
  refine b_bp (pc2 := 51) (x := Int32.ofNat 16) d_Al_put_49 rfl rfl ?_
  refine b_ifd (pc2 := 62) d_Al_put_51 rfl rfl rfl rfl rfl (fun h51 => ?_) (fun h51 => ?_)
  rotate_left
  · exact absurd ((i_le (by omega) (by decide)).mpr hf) h51
  refine b_iln (pc2 := 63) d_Al_put_62 rfl rfl ?_
  refine b_ifd (pc2 := 71) d_Al_put_63 rfl rfl rfl rfl rfl (fun h63 => ?_) (fun h63 => ?_)
  rotate_left
  · exact absurd (hb) h63
  refine b_al (pc2 := 73) d_Al_put_71 rfl rfl ?_
  refine b_lln (pc2 := 74) d_Al_put_73 rfl rfl ?_
  refine b_il (pc2 := 76) d_Al_put_74 rfl rfl ?_
  refine b_cv0 (pc2 := 79) (c2 := 0) (u2 := 0) (rw_addNumber (by omega) hSR (at_R hi) (by omega) hf) d_Al_put_76 q_10_97 (Nat.le_of_ble_eq_true rfl) rfl rfl ((hSR _ _ (at_R hi)).1) (Nat.le_of_ble_eq_true rfl) rfl rfl (by decide) (by decide) rfl ?_
  refine b_al (pc2 := 81) d_Al_put_79 rfl rfl ?_
  refine b_cv1 (pc2 := 84) (c2 := 0) (u2 := 0) (rw_length (by omega) hSR (at_R hi)) d_Al_put_81 q_10_88 (Nat.le_of_ble_eq_true rfl) rfl rfl ((hSR _ _ (at_R hi)).1) (Nat.le_of_ble_eq_true rfl) rfl rfl (by decide) (by decide) rfl ?_
  rw [u1_at, List.length_append, by8_len]
  refine b_ir d_Al_put_84 rfl ?_
  exact ⟨rfl, rfl, rfl, rfl, rfl⟩
theorem al_put3 {d : Nat} (hd : 4 ≤ d) {b : Int32} {n ct : Nat} {v : Int64} (hi : i < 10) (hc : J 86 1 = Int32.ofNat ct) (hct : ct ≤ 10) (hic : i < ct) (hn : n ≤ 8) (hb : ¬ b = 0) : bm d (S0 n0) R0 34 [.ref 1, .int (Int32.ofNat (i + 1)), .int b, .long v, .int (Int32.ofNat n)] W J g L (bR (some (.int (Int32.ofNat n))) (am_u1 W (89 + 3 * i) (by8 v n)) J g L) := by
  obtain ⟨e, rfl⟩ : ∃ e, d = e + 1 := ⟨d - 1, by omega⟩
  refine bm_of (Nat.le_of_ble_eq_true rfl) (Or.inr bR_ret) ?_
  show bT e (S0 n0) R0 mt_Al_put _ 0 [(0, .ref 1), (1, .int (Int32.ofNat (i + 1))), (2, .int b), (3, .long v), (5, .int (Int32.ofNat n))] [] W J g L 0 0
  have hSR := SR0 n0
  refine b_free fun hlen => ?_
  have hl := hlen _ 16 (at_R hi)
  have q1 : ¬ Int32.ofNat (i + 1) < Int32.ofNat 1 ∧ ¬ J 86 1 < Int32.ofNat (i + 1) := ⟨by rw [i_lt (by omega) (by decide)]; omega, by rw [hc, i_lt (by omega) (by omega)]; omega⟩
  have q2 : ¬ Int32.ofNat n < 0 ∧ ¬ Int32.ofNat 8 < Int32.ofNat n := ⟨i_nn (by omega), by rw [i_lt (by decide) (by omega)]; omega⟩
  refine b_aln (pc2 := 1) d_Al_put_0 rfl rfl ?_
  refine b_gr (pc2 := 4) d_Al_put_1 q_10_45 (sh_1 n0) (by decide) (by decide) (p_1_5 n0) rfl ?_
  refine b_iln (pc2 := 5) d_Al_put_4 rfl rfl ?_
  refine b_cv1 (pc2 := 8) (c2 := 0) (u2 := 0) (se_hasHandle (by omega)) d_Al_put_5 q_10_81 (Nat.le_of_ble_eq_true rfl) rfl rfl (sh_86 n0) (Nat.le_of_ble_eq_true rfl) rfl rfl (by decide) (by decide) rfl ?_
  refine b_ifd (pc2 := 19) d_Al_put_8 rfl rfl rfl rfl rfl (fun h8 => ?_) (fun h8 => ?_)
  · exact absurd h8 (fun z => (if01.mp z) q1)
  refine b_il (pc2 := 13) d_Al_put_11 rfl rfl ?_
  refine b_cs1 (pc2 := 16) (c2 := 0) (u2 := 0) (al_isSize (by omega)) d_Al_put_13 q_10_64 (Or.inl rfl) (Nat.le_of_ble_eq_true rfl) rfl rfl (Nat.le_of_ble_eq_true rfl) rfl rfl (by decide) (by decide) rfl ?_
  refine b_ifd (pc2 := 27) d_Al_put_16 rfl rfl rfl rfl rfl (fun h16 => ?_) (fun h16 => ?_)
  rotate_left
  · exact absurd (fun z => (if01.mp z) q2) h16
  refine b_aln (pc2 := 28) d_Al_put_27 rfl rfl ?_
  refine b_gr (pc2 := 31) d_Al_put_28 q_10_45 (sh_1 n0) (by decide) (by decide) (p_1_5 n0) rfl ?_
  refine b_iln (pc2 := 32) d_Al_put_31 rfl rfl ?_
  refine b_cv1 (pc2 := 35) (c2 := 0) (u2 := 0) (se_valueOf (by omega) hi) d_Al_put_32 q_10_84 (Nat.le_of_ble_eq_true rfl) rfl rfl (sh_86 n0) (Nat.le_of_ble_eq_true rfl) rfl rfl (by decide) (by decide) rfl ?_
  refine b_as (pc2 := 37) (al2 := [(6, _), (0, _), (1, _), (2, _), (3, _), (5, _)]) d_Al_put_35 (by decide) rfl rfl ?_
  refine b_iln (pc2 := 38) d_Al_put_37 rfl rfl ?_
  refine b_ifd (pc2 := 62) d_Al_put_38 rfl rfl rfl rfl rfl (fun h38 => ?_) (fun h38 => ?_)
  rotate_left
  · exact absurd (hb) h38
  refine b_iln (pc2 := 63) d_Al_put_62 rfl rfl ?_
  refine b_ifd (pc2 := 71) d_Al_put_63 rfl rfl rfl rfl rfl (fun h63 => ?_) (fun h63 => ?_)
  · exact absurd h63 (hb)
  refine b_al (pc2 := 68) d_Al_put_66 rfl rfl ?_
  refine b_cv0 (pc2 := 71) (c2 := 0) (u2 := 0) (rw_clear (by omega) hSR (at_R hi)) d_Al_put_68 q_10_94 (Nat.le_of_ble_eq_true rfl) rfl rfl ((hSR _ _ (at_R hi)).1) (Nat.le_of_ble_eq_true rfl) rfl rfl (by decide) (by decide) rfl ?_
  refine b_al (pc2 := 73) d_Al_put_71 rfl rfl ?_
  refine b_lln (pc2 := 74) d_Al_put_73 rfl rfl ?_
  refine b_il (pc2 := 76) d_Al_put_74 rfl rfl ?_
  refine b_cv0 (pc2 := 79) (c2 := 0) (u2 := 0) (rw_addNumber (by omega) hSR (at_R hi) (by omega) (by rw [u1_at]; show 0 + n ≤ 16; omega)) d_Al_put_76 q_10_97 (Nat.le_of_ble_eq_true rfl) rfl rfl ((hSR _ _ (at_R hi)).1) (Nat.le_of_ble_eq_true rfl) rfl rfl (by decide) (by decide) rfl ?_
  rw [u1_u1, u1_at, List.nil_append]
  refine b_al (pc2 := 81) d_Al_put_79 rfl rfl ?_
  refine b_cv1 (pc2 := 84) (c2 := 0) (u2 := 0) (rw_length (by omega) hSR (at_R hi)) d_Al_put_81 q_10_88 (Nat.le_of_ble_eq_true rfl) rfl rfl ((hSR _ _ (at_R hi)).1) (Nat.le_of_ble_eq_true rfl) rfl rfl (by decide) (by decide) rfl ?_
  rw [u1_at, by8_len]
  refine b_ir d_Al_put_84 rfl ?_
  exact ⟨rfl, rfl, rfl, rfl, rfl⟩
end LK
