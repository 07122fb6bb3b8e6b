/-! Part 52 (written by gen8.py): the methods of Row, over plain cells -/
abbrev r0 : Nat → Option Nat := fun _ => none
theorem bw_rc0 (c : Nat) : bw_rc r0 c = false := by cases c <;> rfl
section BX
variable {d : Nat} {S : am_S} {R : Nat → Option Nat} {M : am_M} {Qh : am_O → am_H → Prop} {pc pc2 : Nat} {al : List (Nat × Value)} {st r : List Value} {W : bw_W} {J : bw_J} {g : Nat} {L : bw_L} {c u : Nat}
theorem b_ifd {ins : Instr} {p : Prop} {dp : Decidable p} {off : Int} {pc3 : Nat} (hd : decode (am_b M) pc = .ok (ins, 3)) (hi : am_isd ins = true) (hp : am_pure ins st = none) (hb : am_br ins st = some (@decide p dp, off, r)) (e : (pc : Int) + off = (pc2 : Int)) (e3 : pc + 3 = pc3) (k1 : p → bH d S R M Qh pc2 al r W J g L c u) (k2 : ¬ p → bH d S R M Qh pc3 al r W J g L c u) : bH d S R M Qh pc al st W J g L c u :=
  b_if hd hi hp hb e e3 (fun h => k1 (of_decide_eq_true h)) (fun h => k2 (of_decide_eq_false h))
theorem b_cs1 {i j z t : Nat} {as : List Value} {x : Value} {W1 : bw_W} {J1 : bw_J} {g1 : Nat} {L1 : bw_L} {c2 u2 : Nat} (hm : bm d S R j as W J g L (bR (some x) W1 J1 g1 L1)) (hd : decode (am_b M) pc = .ok (.invokestatic i, 3)) (hp : tb_pl (am_o M) i = (2, j, t, z)) (ht : t = 1 ∨ t = 4) (hn : am_np (tb_mt j) ≤ st.length) (ha : (st.take (am_np (tb_mt j))).reverse = as) (hr : st.drop (am_np (tb_mt j)) = r) (h8 : am_w8 r ≤ 8) (hc : c + am_mc (tb_mt j) = c2) (hu : u + am_ms (tb_mt j) = u2) (hc2 : c2 ≤ am_mc M) (hu2 : u2 ≤ am_ms M) (e : pc + 3 = pc2) (k : bH d S R M Qh pc2 al (x :: r) W1 J1 g1 L1 c2 u2) : bH d S R M Qh pc al st W J g L c u := b_cs hm hd hp ht hn ha hr h8 hc hu hc2 hu2 e k
theorem b_cs0 {i j z t : Nat} {as : List Value} {W1 : bw_W} {J1 : bw_J} {g1 : Nat} {L1 : bw_L} {c2 u2 : Nat} (hm : bm d S R j as W J g L (bR none W1 J1 g1 L1)) (hd : decode (am_b M) pc = .ok (.invokestatic i, 3)) (hp : tb_pl (am_o M) i = (2, j, t, z)) (ht : t = 1 ∨ t = 4) (hn : am_np (tb_mt j) ≤ st.length) (ha : (st.take (am_np (tb_mt j))).reverse = as) (hr : st.drop (am_np (tb_mt j)) = r) (h8 : am_w8 r ≤ 8) (hc : c + am_mc (tb_mt j) = c2) (hu : u + am_ms (tb_mt j) = u2) (hc2 : c2 ≤ am_mc M) (hu2 : u2 ≤ am_ms M) (e : pc + 3 = pc2) (k : bH d S R M Qh pc2 al r W1 J1 g1 L1 c2 u2) : bH d S R M Qh pc al st W J g L c u := b_cs hm hd hp ht hn ha hr h8 hc hu hc2 hu2 e k
theorem b_cv1 {i j z b : Nat} {as : List Value} {x : Value} {W1 : bw_W} {J1 : bw_J} {g1 : Nat} {L1 : bw_L} {c2 u2 : Nat} (hm : bm d S R j (.ref b :: as) W J g L (bR (some x) W1 J1 g1 L1)) (hd : decode (am_b M) pc = .ok (.invokevirtual i, 3)) (hp : tb_pl (am_o M) i = (2, j, 0, z)) (hn : am_np (tb_mt j) ≤ st.length) (ha : (st.take (am_np (tb_mt j))).reverse = as) (hr : st.drop (am_np (tb_mt j)) = .ref b :: r) (hs : S.1 b = some (am_o (tb_mt j), tb_nf (am_o (tb_mt j)))) (h8 : am_w8 r ≤ 8) (hc : c + am_mc (tb_mt j) = c2) (hu : u + am_ms (tb_mt j) = u2) (hc2 : c2 ≤ am_mc M) (hu2 : u2 ≤ am_ms M) (e : pc + 3 = pc2) (k : bH d S R M Qh pc2 al (x :: r) W1 J1 g1 L1 c2 u2) : bH d S R M Qh pc al st W J g L c u := b_cv hm hd hp hn ha hr hs h8 hc hu hc2 hu2 e k
theorem b_cv0 {i j z b : Nat} {as : List Value} {W1 : bw_W} {J1 : bw_J} {g1 : Nat} {L1 : bw_L} {c2 u2 : Nat} (hm : bm d S R j (.ref b :: as) W J g L (bR none W1 J1 g1 L1)) (hd : decode (am_b M) pc = .ok (.invokevirtual i, 3)) (hp : tb_pl (am_o M) i = (2, j, 0, z)) (hn : am_np (tb_mt j) ≤ st.length) (ha : (st.take (am_np (tb_mt j))).reverse = as) (hr : st.drop (am_np (tb_mt j)) = .ref b :: r) (hs : S.1 b = some (am_o (tb_mt j), tb_nf (am_o (tb_mt j)))) (h8 : am_w8 r ≤ 8) (hc : c + am_mc (tb_mt j) = c2) (hu : u + am_ms (tb_mt j) = u2) (hc2 : c2 ≤ am_mc M) (hu2 : u2 ≤ am_ms M) (e : pc + 3 = pc2) (k : bH d S R M Qh pc2 al r W1 J1 g1 L1 c2 u2) : bH d S R M Qh pc al st W J g L c u := b_cv hm hd hp hn ha hr hs h8 hc hu hc2 hu2 e k
theorem bw_cpy {a1 : Nat} {f : Nat → Int32} {I : bw_J} (hI : bw_hp R W J I) (hr : bw_rc R a1 = false) : bw_hp R W (am_u1 J a1 f) (am_u1 I a1 f) := by
  have hne : ∀ b N, R b = some N → ¬ b = a1 ∧ ¬ b + 1 = a1 := fun b N hb => by
    constructor
    · intro h; subst h; unfold bw_rc at hr; rw [hb] at hr; cases hr
    · intro h; subst h; unfold bw_rc at hr; simp [hb] at hr
  refine ⟨fun b N hb => ?_, fun q hq => ?_⟩
  · obtain ⟨n1, n2⟩ := hne b N hb
    unfold am_u1
    rw [if_neg n1, if_neg n2]
    exact hI.1 b N hb
  · unfold am_u1
    by_cases h : q = a1
    · subst h; rw [if_pos rfl, if_pos rfl]
    · rw [if_neg h, if_neg h, hI.2 q hq]
theorem b_cp {i a0 a1 n0 n1 sp dp n z : Nat} {z2 : Nat × Nat} {vs vd vn : Int32} (hd : decode (am_b M) pc = .ok (.invokestatic i, 3)) (hp : tb_pl (am_o M) i = (8, z, z2)) (h0 : S.1 a0 = some (100, n0)) (h1 : S.1 a1 = some (100, n1)) (es : vs = Int32.ofNat sp) (ed : vd = Int32.ofNat dp) (en : vn = Int32.ofNat n) (l0 : sp + n ≤ n0) (l1 : dp + n ≤ n1) (b0 : n0 < 2147483648) (b1 : n1 < 2147483648) (q0 : bw_rc R a0 = false) (q1 : bw_rc R a1 = false) (h8 : am_w8 r ≤ 8) (e : pc + 3 = pc2) (k : bH d S R M Qh pc2 al r W (am_u1 J a1 (va_cpy (J a0) (J a1) sp dp n)) g L c u) : bH d S R M Qh pc al (.int vn :: .int vd :: .ref a1 :: .int vs :: .ref a0 :: r) W J g L c u := b_step hd fun I hI => by
  refine ⟨rfl, ?_⟩
  rw [show am_pl tb_G (am_o M) i = (8, z, z2) from hp]
  subst es; subst ed; subst en; subst e
  have t1 : (Int32.ofNat sp).toNatClampNeg = sp := i_tn (by omega)
  have t2 : (Int32.ofNat dp).toNatClampNeg = dp := i_tn (by omega)
  have t3 : (Int32.ofNat n).toNatClampNeg = n := i_tn (by omega)
  refine ⟨n0, n1, h0, h1, i_nn (by omega), i_nn (by omega), i_nn (by omega), by rw [t1, t3]; exact l0, by rw [t2, t3]; exact l1, h8, ?_⟩
  rw [t1, t2, t3]
  have e0 : am_I (S, g, I, L) a0 = J a0 := hI.2 a0 q0
  have e1 : am_I (S, g, I, L) a1 = J a1 := hI.2 a1 q1
  rw [e0, e1]
  exact k _ (bw_cpy hI q1)
theorem b_ic {n : Int} {x : Int32} (hd : decode (am_b M) pc = .ok (.iconst n, 1)) (hx : Int32.ofInt n = x) (e : pc + 1 = pc2) (k : bH d S R M Qh pc2 al (.int x :: st) W J g L c u) : bH d S R M Qh pc al st W J g L c u := by
  subst hx
  exact b_pure hd rfl rfl e k
theorem b_bp {n : Int} {x : Int32} (hd : decode (am_b M) pc = .ok (.bipush n, 2)) (hx : (Int8.ofInt n).toInt32 = x) (e : pc + 2 = pc2) (k : bH d S R M Qh pc2 al (.int x :: st) W J g L c u) : bH d S R M Qh pc al st W J g L c u := by
  subst hx
  exact b_pure hd rfl rfl e k
theorem b_sp {n : Int} {x : Int32} (hd : decode (am_b M) pc = .ok (.sipush n, 3)) (hx : (Int16.ofInt n).toInt32 = x) (e : pc + 3 = pc2) (k : bH d S R M Qh pc2 al (.int x :: st) W J g L c u) : bH d S R M Qh pc al st W J g L c u := by
  subst hx
  exact b_pure hd rfl rfl e k
end BX
section RW1
variable {S : am_S} {a b N Nb n m : Nat} {W : bw_W} {J : bw_J} {g : Nat} {L : bw_L}
theorem ro_length {d : Nat} (hd : 1 ≤ d) (ha : S.1 a = some (7, 2)) : bm d S r0 37 [.ref a] W J g L (bR (some (.int (J a 1))) W J g L) := by
  obtain ⟨e, rfl⟩ : ∃ e, d = e + 1 := ⟨d - 1, by omega⟩
  refine bm_of (Nat.le_of_ble_eq_true rfl) (Or.inr bR_ret) ?_
  show bT e S r0 mt_Ro_length _ 0 [(0, .ref a)] [] W J g L 0 0
  refine b_aln (pc2 := 1) d_Ro_length_0 rfl rfl ?_
  refine b_gi (pc2 := 4) d_Ro_length_1 q_7_13 (ha) (by decide) (by decide) (bw_rc0 _) rfl ?_
  refine b_ir d_Ro_length_4 rfl ?_
  exact ⟨rfl, rfl, rfl, rfl, rfl⟩
theorem ro_clear {d : Nat} (hd : 1 ≤ d) (ha : S.1 a = some (7, 2)) : bm d S r0 38 [.ref a] W J g L (bR none W (am_u2 J a 1 0) g L) := by
  obtain ⟨e, rfl⟩ : ∃ e, d = e + 1 := ⟨d - 1, by omega⟩
  refine bm_of (Nat.le_of_ble_eq_true rfl) (Or.inr bR_ret) ?_
  show bT e S r0 mt_Ro_clear _ 0 [(0, .ref a)] [] W J g L 0 0
  refine b_aln (pc2 := 1) d_Ro_clear_0 rfl rfl ?_
  refine b_ic (pc2 := 2) (x := Int32.ofNat 0) d_Ro_clear_1 rfl rfl ?_
  refine b_pi (pc2 := 5) d_Ro_clear_2 q_7_13 (ha) (by decide) (Or.inl (by decide)) (Or.inl rfl) (bw_rc0 _) rfl ?_
  refine b_vr d_Ro_clear_5 rfl ?_
  exact ⟨rfl, rfl, rfl, rfl, rfl⟩
theorem ro_has {d : Nat} (hd : 1 ≤ d) (ha : S.1 a = some (7, 2)) (k : Int32) : bm d S r0 118 [.ref a, .int k] W J g L (bR (some (.int (if ¬ k < 0 ∧ k < J a 1 then 1 else 0))) W J g L) := by
  obtain ⟨e, rfl⟩ : ∃ e, d = e + 1 := ⟨d - 1, by omega⟩
  refine bm_of (Nat.le_of_ble_eq_true rfl) (Or.inr bR_ret) ?_
  show bT e S r0 mt_Ro_has _ 0 [(0, .ref a), (1, .int k)] [] W J g L 0 0
  refine b_iln (pc2 := 1) d_Ro_has_0 rfl rfl ?_
  refine b_ifd (pc2 := 16) d_Ro_has_1 rfl rfl rfl rfl rfl (fun h1 => ?_) (fun h1 => ?_)
  · refine b_ic (pc2 := 17) (x := Int32.ofNat 0) d_Ro_has_16 rfl rfl ?_
    refine b_br d_Ro_has_17 rfl (by decide) ?_
    exact ⟨by rw [if_neg (fun q => q.1 h1)]; rfl, rfl, rfl, rfl, rfl⟩
  · refine b_iln (pc2 := 5) d_Ro_has_4 rfl rfl ?_
    refine b_aln (pc2 := 6) d_Ro_has_5 rfl rfl ?_
    refine b_gi (pc2 := 9) d_Ro_has_6 q_7_13 (ha) (by decide) (by decide) (bw_rc0 _) rfl ?_
    refine b_ifd (pc2 := 16) d_Ro_has_9 rfl rfl rfl rfl rfl (fun h9 => ?_) (fun h9 => ?_)
    · refine b_ic (pc2 := 17) (x := Int32.ofNat 0) d_Ro_has_16 rfl rfl ?_
      refine b_br d_Ro_has_17 rfl (by decide) ?_
      exact ⟨by rw [if_neg (fun q => Int32.not_lt.mpr h9 q.2)]; rfl, rfl, rfl, rfl, rfl⟩
    · refine b_ic (pc2 := 13) (x := Int32.ofNat 1) d_Ro_has_12 rfl rfl ?_
      refine b_go (pc2 := 17) d_Ro_has_13 rfl ?_
      refine b_br d_Ro_has_17 rfl (by decide) ?_
      exact ⟨by rw [if_pos ⟨h1, Int32.not_le.mp h9⟩]; rfl, rfl, rfl, rfl, rfl⟩
theorem at_in {k : Int32} (h1 : ¬ k < 0) (h9 : ¬ Int32.ofNat n ≤ k) (hn : n ≤ N) (hN : N ≤ 1000) : vp_in k N := by
  obtain ⟨q, hq, rfl⟩ := i_of h1
  rw [i_le (by omega) hq] at h9
  exact i_in (by omega) (by omega)
theorem ro_at {d : Nat} (hd : 1 ≤ d) (ha : S.1 a = some (7, 2)) (pa : S.2.1 a 0 = some (a + 1)) (na : S.1 (a + 1) = some (100, N)) (hN : N ≤ 1000) (hn : J a 1 = Int32.ofNat n) (hnN : n ≤ N) (k : Int32) : bm d S r0 67 [.ref a, .int k] W J g L (bR (some (.int (if ¬ k < 0 ∧ k < J a 1 then J (a + 1) k.toNatClampNeg else 0))) W J g L) := by
  obtain ⟨e, rfl⟩ : ∃ e, d = e + 1 := ⟨d - 1, by omega⟩
  refine bm_of (Nat.le_of_ble_eq_true rfl) (Or.inr bR_ret) ?_
  show bT e S r0 mt_Ro_at _ 0 [(0, .ref a), (1, .int k)] [] W J g L 0 0
  refine b_iln (pc2 := 1) d_Ro_at_0 rfl rfl ?_
  refine b_ifd (pc2 := 21) d_Ro_at_1 rfl rfl rfl rfl rfl (fun h1 => ?_) (fun h1 => ?_)
  · refine b_ic (pc2 := 22) (x := Int32.ofNat 0) d_Ro_at_21 rfl rfl ?_
    refine b_ir d_Ro_at_22 rfl ?_
    exact ⟨by rw [if_neg (fun q => q.1 h1)]; rfl, rfl, rfl, rfl, rfl⟩
  · refine b_iln (pc2 := 5) d_Ro_at_4 rfl rfl ?_
    refine b_aln (pc2 := 6) d_Ro_at_5 rfl rfl ?_
    refine b_gi (pc2 := 9) d_Ro_at_6 q_7_13 (ha) (by decide) (by decide) (bw_rc0 _) rfl ?_
    refine b_ifd (pc2 := 21) d_Ro_at_9 rfl rfl rfl rfl rfl (fun h9 => ?_) (fun h9 => ?_)
    · refine b_ic (pc2 := 22) (x := Int32.ofNat 0) d_Ro_at_21 rfl rfl ?_
      refine b_ir d_Ro_at_22 rfl ?_
      exact ⟨by rw [if_neg (fun q => Int32.not_lt.mpr h9 q.2)]; rfl, rfl, rfl, rfl, rfl⟩
    · refine b_aln (pc2 := 13) d_Ro_at_12 rfl rfl ?_
      refine b_gr (pc2 := 16) d_Ro_at_13 q_7_7 (ha) (by decide) (by decide) (pa) rfl ?_
      refine b_iln (pc2 := 17) d_Ro_at_16 rfl rfl ?_
      refine b_ia (pc2 := 18) (q := k.toNatClampNeg) d_Ro_at_17 (na) (at_in h1 (by rw [← hn]; exact h9) hnN hN) (rfl) (bw_rc0 _) rfl ?_
      refine b_go (pc2 := 22) d_Ro_at_18 rfl ?_
      refine b_ir d_Ro_at_22 rfl ?_
      exact ⟨by rw [if_pos ⟨h1, Int32.not_le.mp h9⟩], rfl, rfl, rfl, rfl⟩
theorem ro_cut {d : Nat} (hd : 1 ≤ d) (ha : S.1 a = some (7, 2)) (k : Int32) : bm d S r0 103 [.ref a, .int k] W J g L (bR none W (if ¬ k < 0 ∧ k < J a 1 then am_u2 J a 1 k else J) g L) := by
  obtain ⟨e, rfl⟩ : ∃ e, d = e + 1 := ⟨d - 1, by omega⟩
  refine bm_of (Nat.le_of_ble_eq_true rfl) (Or.inr bR_ret) ?_
  show bT e S r0 mt_Ro_cut _ 0 [(0, .ref a), (1, .int k)] [] W J g L 0 0
  refine b_iln (pc2 := 1) d_Ro_cut_0 rfl rfl ?_
  refine b_ifd (pc2 := 17) d_Ro_cut_1 rfl rfl rfl rfl rfl (fun h1 => ?_) (fun h1 => ?_)
  · refine b_vr d_Ro_cut_17 rfl ?_
    exact ⟨rfl, rfl, by rw [if_neg (fun q => q.1 h1)], rfl, rfl⟩
  · refine b_aln (pc2 := 5) d_Ro_cut_4 rfl rfl ?_
    refine b_gi (pc2 := 8) d_Ro_cut_5 q_7_13 (ha) (by decide) (by decide) (bw_rc0 _) rfl ?_
    refine b_iln (pc2 := 9) d_Ro_cut_8 rfl rfl ?_
    refine b_ifd (pc2 := 17) d_Ro_cut_9 rfl rfl rfl rfl rfl (fun h9 => ?_) (fun h9 => ?_)
    · refine b_vr d_Ro_cut_17 rfl ?_
      exact ⟨rfl, rfl, by rw [if_neg (fun q => Int32.not_lt.mpr h9 q.2)], rfl, rfl⟩
    · refine b_aln (pc2 := 13) d_Ro_cut_12 rfl rfl ?_
      refine b_iln (pc2 := 14) d_Ro_cut_13 rfl rfl ?_
      refine b_pi (pc2 := 17) d_Ro_cut_14 q_7_13 (ha) (by decide) (Or.inl (by decide)) (Or.inl rfl) (bw_rc0 _) rfl ?_
      refine b_vr d_Ro_cut_17 rfl ?_
      exact ⟨rfl, rfl, by rw [if_pos ⟨h1, Int32.not_le.mp h9⟩], rfl, rfl⟩
theorem ro_add {d : Nat} (hd : 1 ≤ d) (ha : S.1 a = some (7, 2)) (pa : S.2.1 a 0 = some (a + 1)) (na : S.1 (a + 1) = some (100, N)) (hN : N ≤ 1000) (hn : J a 1 = Int32.ofNat n) (hnN : n ≤ N) (x : Int32) : bm d S r0 13 [.ref a, .int x] W J g L (bR none W (if n < N then am_u2 (am_u2 J (a + 1) n (x &&& 255)) a 1 (Int32.ofNat (n + 1)) else J) g L) := by
  obtain ⟨e, rfl⟩ : ∃ e, d = e + 1 := ⟨d - 1, by omega⟩
  refine bm_of (Nat.le_of_ble_eq_true rfl) (Or.inr bR_ret) ?_
  show bT e S r0 mt_Ro_add _ 0 [(0, .ref a), (1, .int x)] [] W J g L 0 0
  refine b_aln (pc2 := 1) d_Ro_add_0 rfl rfl ?_
  refine b_gi (pc2 := 4) d_Ro_add_1 q_7_13 (ha) (by decide) (by decide) (bw_rc0 _) rfl ?_
  refine b_aln (pc2 := 5) d_Ro_add_4 rfl rfl ?_
  refine b_gr (pc2 := 8) d_Ro_add_5 q_7_7 (ha) (by decide) (by decide) (pa) rfl ?_
  refine b_len (pc2 := 9) d_Ro_add_8 (na) (Or.inl ⟨by decide, by decide⟩) rfl ?_
  refine b_ifd (pc2 := 36) d_Ro_add_9 rfl rfl rfl rfl rfl (fun h9 => ?_) (fun h9 => ?_)
  · refine b_vr d_Ro_add_36 rfl ?_
    refine ⟨rfl, rfl, ?_, rfl, rfl⟩
    rw [hn, i_le (by omega) (by omega)] at h9
    rw [if_neg (by omega)]
  · refine b_aln (pc2 := 13) d_Ro_add_12 rfl rfl ?_
    refine b_gr (pc2 := 16) d_Ro_add_13 q_7_7 (ha) (by decide) (by decide) (pa) rfl ?_
    refine b_aln (pc2 := 17) d_Ro_add_16 rfl rfl ?_
    refine b_gi (pc2 := 20) d_Ro_add_17 q_7_13 (ha) (by decide) (by decide) (bw_rc0 _) rfl ?_
    refine b_iln (pc2 := 21) d_Ro_add_20 rfl rfl ?_
    refine b_sp (pc2 := 24) (x := Int32.ofNat 255) d_Ro_add_21 rfl rfl ?_
    refine b_pure (pc2 := 25) d_Ro_add_24 rfl rfl rfl ?_
    refine b_ist (pc2 := 26) (q := n) d_Ro_add_25 (na) (by rw [hn]; rw [hn, i_le (by omega) (by omega)] at h9; exact i_in (by omega) (by omega)) (by rw [hn]; exact i_tn (by omega)) (bw_rc0 _) rfl ?_
    refine b_aln (pc2 := 27) d_Ro_add_26 rfl rfl ?_
    refine b_pure (pc2 := 28) d_Ro_add_27 rfl rfl rfl ?_
    refine b_gi (pc2 := 31) d_Ro_add_28 q_7_13 (ha) (by decide) (by decide) (bw_rc0 _) rfl ?_
    refine b_ic (pc2 := 32) (x := Int32.ofNat 1) d_Ro_add_31 rfl rfl ?_
    refine b_pure (pc2 := 33) d_Ro_add_32 rfl rfl rfl ?_
    refine b_pi (pc2 := 36) d_Ro_add_33 q_7_13 (ha) (by decide) (Or.inl (by decide)) (Or.inl rfl) (bw_rc0 _) rfl ?_
    refine b_vr d_Ro_add_36 rfl ?_
    refine ⟨rfl, rfl, ?_, rfl, rfl⟩
    rw [hn, i_le (by omega) (by omega)] at h9
    rw [if_pos (by omega)]
    have e1 : am_u2 J (a + 1) n (x &&& 255) a 1 = Int32.ofNat n := by
      unfold am_u2
      rw [if_neg (by omega)]
      exact hn
    show am_u2 (am_u2 J (a + 1) n (x &&& 255)) a 1 (am_u2 J (a + 1) n (x &&& 255) a 1 + Int32.ofNat 1) = _
    rw [e1, i_add]
/-- the two minima of addFrom -/
theorem mn_q {f q : Nat} {x1 x2 most : Int32} {mo : Nat} (h1 : x1 = Int32.ofNat m - Int32.ofNat f) (h2 : x2 = Int32.ofNat N - Int32.ofNat n) (h3 : most = Int32.ofNat mo) (hm : m ≤ 1000) (hn : n ≤ N) (hN : N ≤ 1000) (hf : f ≤ 100000) (ho : mo ≤ 100000) (hq : q = min (min mo (m - f)) (N - n)) :
    (q = 0 → (if x2 < (if x1 < most then x1 else most) then x2 else (if x1 < most then x1 else most)) ≤ 0) ∧ (0 < q → (if x2 < (if x1 < most then x1 else most) then x2 else (if x1 < most then x1 else most)) = Int32.ofNat q) := by
  have t1 : x1.toInt = (m : Int) - (f : Int) := by rw [h1]; exact i_ts (by omega) (by omega)
  have t2 : x2.toInt = (N : Int) - (n : Int) := by rw [h2]; exact i_ts (by omega) (by omega)
  have t3 : most.toInt = (mo : Int) := by rw [h3]; exact i_ti (by omega)
  simp only [Int32.lt_iff_toInt_lt, Int32.le_iff_toInt_le, ← Int32.toInt_inj, Int32.toInt_zero]
  rw [i_ti (n := q) (by omega)]
  constructor
  · intro h0
    split <;> split at * <;> omega
  · intro h0
    split <;> split at * <;> omega
theorem ro_addFrom {d : Nat} (hd : 1 ≤ d) (ha : S.1 a = some (7, 2)) (pa : S.2.1 a 0 = some (a + 1)) (na : S.1 (a + 1) = some (100, N)) (hN : N ≤ 1000) (hb : S.1 b = some (7, 2)) (pb : S.2.1 b 0 = some (b + 1)) (nb : S.1 (b + 1) = some (100, Nb)) (hNb : Nb ≤ 1000) (hn : J a 1 = Int32.ofNat n) (hnN : n ≤ N) (hm : J b 1 = Int32.ofNat m) (hmN : m ≤ Nb) {f mo q : Nat} (hf : f ≤ 100000) (ho : mo ≤ 100000) (hq : q = min (min mo (m - f)) (N - n)) : bm d S r0 43 [.ref a, .ref b, .int (Int32.ofNat f), .int (Int32.ofNat mo)] W J g L (bR none W (if 0 < q then am_u2 (am_u1 J (a + 1) (va_cpy (J (b + 1)) (J (a + 1)) f n q)) a 1 (Int32.ofNat (n + q)) else J) g L) := by
  obtain ⟨e, rfl⟩ : ∃ e, d = e + 1 := ⟨d - 1, by omega⟩
  refine bm_of (Nat.le_of_ble_eq_true rfl) (Or.inr bR_ret) ?_
  show bT e S r0 mt_Ro_addFrom _ 0 [(0, .ref a), (1, .ref b), (2, .int (Int32.ofNat f)), (3, .int (Int32.ofNat mo))] [] W J g L 0 0
  refine b_iln (pc2 := 1) d_Ro_addFrom_0 rfl rfl ?_
  refine b_aln (pc2 := 2) d_Ro_addFrom_1 rfl rfl ?_
  refine b_gi (pc2 := 5) d_Ro_addFrom_2 q_7_13 (hb) (by decide) (by decide) (bw_rc0 _) rfl ?_
  refine b_iln (pc2 := 6) d_Ro_addFrom_5 rfl rfl ?_
  refine b_pure (pc2 := 7) d_Ro_addFrom_6 rfl rfl rfl ?_
  refine b_mn (pc2 := 10) (i := 0) d_Ro_addFrom_7 q_7_17 (Nat.le_of_ble_eq_true rfl) rfl ?_
  refine b_aln (pc2 := 11) d_Ro_addFrom_10 rfl rfl ?_
  refine b_gr (pc2 := 14) d_Ro_addFrom_11 q_7_7 (ha) (by decide) (by decide) (pa) rfl ?_
  refine b_len (pc2 := 15) d_Ro_addFrom_14 (na) (Or.inl ⟨by decide, by decide⟩) rfl ?_
  refine b_aln (pc2 := 16) d_Ro_addFrom_15 rfl rfl ?_
  refine b_gi (pc2 := 19) d_Ro_addFrom_16 q_7_13 (ha) (by decide) (by decide) (bw_rc0 _) rfl ?_
  refine b_pure (pc2 := 20) d_Ro_addFrom_19 rfl rfl rfl ?_
  refine b_mn (pc2 := 23) (i := 0) d_Ro_addFrom_20 q_7_17 (Nat.le_of_ble_eq_true rfl) rfl ?_
  refine b_is (pc2 := 25) (al2 := [(4, _), (0, _), (1, _), (2, _), (3, _)]) d_Ro_addFrom_23 (by decide) rfl rfl ?_
  refine b_iln (pc2 := 26) d_Ro_addFrom_25 rfl rfl ?_
  refine b_ifd (pc2 := 63) d_Ro_addFrom_26 rfl rfl rfl rfl rfl (fun h26 => ?_) (fun h26 => ?_)
  · exact absurd h26 (i_nn (by omega))
  refine b_il (pc2 := 31) d_Ro_addFrom_29 rfl rfl ?_
  have hmn := mn_q (x1 := J b 1 - Int32.ofNat f) (x2 := Int32.ofNat N - J a 1) (by rw [hm]) (by rw [hn]) (rfl : Int32.ofNat mo = Int32.ofNat mo) (by omega) hnN hN hf ho hq
  refine b_ifd (pc2 := 63) d_Ro_addFrom_31 rfl rfl rfl rfl rfl (fun h31 => ?_) (fun h31 => ?_)
  · refine b_vr d_Ro_addFrom_63 rfl ?_
    refine ⟨rfl, rfl, ?_, rfl, rfl⟩
    rw [if_neg (fun h => by rw [hmn.2 h, show (0 : Int32) = Int32.ofNat 0 from rfl, i_le (by omega) (by omega)] at h31; omega)]
  · have hq0 : 0 < q := by
      rcases Nat.eq_zero_or_pos q with h | h
      · exact absurd (hmn.1 h) h31
      · exact h
    refine b_aln (pc2 := 35) d_Ro_addFrom_34 rfl rfl ?_
    refine b_gr (pc2 := 38) d_Ro_addFrom_35 q_7_7 (hb) (by decide) (by decide) (pb) rfl ?_
    refine b_iln (pc2 := 39) d_Ro_addFrom_38 rfl rfl ?_
    refine b_aln (pc2 := 40) d_Ro_addFrom_39 rfl rfl ?_
    refine b_gr (pc2 := 43) d_Ro_addFrom_40 q_7_7 (ha) (by decide) (by decide) (pa) rfl ?_
    refine b_aln (pc2 := 44) d_Ro_addFrom_43 rfl rfl ?_
    refine b_gi (pc2 := 47) d_Ro_addFrom_44 q_7_13 (ha) (by decide) (by decide) (bw_rc0 _) rfl ?_
    refine b_il (pc2 := 49) d_Ro_addFrom_47 rfl rfl ?_
    refine b_cp (pc2 := 52) d_Ro_addFrom_49 q_7_23 nb na rfl hn (hmn.2 hq0) (by omega) (by omega) (by omega) (by omega) (bw_rc0 _) (bw_rc0 _) (Nat.le_of_ble_eq_true rfl) rfl ?_
    refine b_aln (pc2 := 53) d_Ro_addFrom_52 rfl rfl ?_
    refine b_pure (pc2 := 54) d_Ro_addFrom_53 rfl rfl rfl ?_
    refine b_gi (pc2 := 57) d_Ro_addFrom_54 q_7_13 (ha) (by decide) (by decide) (bw_rc0 _) rfl ?_
    refine b_il (pc2 := 59) d_Ro_addFrom_57 rfl rfl ?_
    refine b_pure (pc2 := 60) d_Ro_addFrom_59 rfl rfl rfl ?_
    refine b_pi (pc2 := 63) d_Ro_addFrom_60 q_7_13 (ha) (by decide) (Or.inl (by decide)) (Or.inl rfl) (bw_rc0 _) rfl ?_
    refine b_vr d_Ro_addFrom_63 rfl ?_
    refine ⟨rfl, rfl, ?_, rfl, rfl⟩
    rw [if_pos hq0]
    have e1 : am_u1 J (a + 1) (va_cpy (J (b + 1)) (J (a + 1)) f n q) a 1 = Int32.ofNat n := by
      unfold am_u1
      rw [if_neg (by omega)]
      exact hn
    rw [e1, hmn.2 hq0, i_add]
theorem ro_overlay {d : Nat} (hd : 1 ≤ d) (ha : S.1 a = some (7, 2)) (pa : S.2.1 a 0 = some (a + 1)) (na : S.1 (a + 1) = some (100, N)) (hN : N ≤ 1000) (hb : S.1 b = some (7, 2)) (pb : S.2.1 b 0 = some (b + 1)) (nb : S.1 (b + 1) = some (100, Nb)) (hNb : Nb ≤ 1000) (hn : J a 1 = Int32.ofNat n) (hnN : n ≤ N) (hm : J b 1 = Int32.ofNat m) (hmN : m ≤ Nb) {f p : Nat} (hf : f ≤ m) (hp : p ≤ 100000) : bm d S r0 85 [.ref a, .int (Int32.ofNat p), .ref b, .int (Int32.ofNat f)] W J g L (bR none W (if p ≤ n ∧ f < m ∧ p + (m - f) ≤ N then am_u2 (am_u1 J (a + 1) (va_cpy (J (b + 1)) (J (a + 1)) f p (m - f))) a 1 (Int32.ofNat (max n (p + (m - f)))) else J) g L) := by
  obtain ⟨e, rfl⟩ : ∃ e, d = e + 1 := ⟨d - 1, by omega⟩
  refine bm_of (Nat.le_of_ble_eq_true rfl) (Or.inr bR_ret) ?_
  show bT e S r0 mt_Ro_overlay _ 0 [(0, .ref a), (1, .int (Int32.ofNat p)), (2, .ref b), (3, .int (Int32.ofNat f))] [] W J g L 0 0
  refine b_aln (pc2 := 1) d_Ro_overlay_0 rfl rfl ?_
  refine b_gi (pc2 := 4) d_Ro_overlay_1 q_7_13 (hb) (by decide) (by decide) (bw_rc0 _) rfl ?_
  refine b_iln (pc2 := 5) d_Ro_overlay_4 rfl rfl ?_
  refine b_pure (pc2 := 6) d_Ro_overlay_5 rfl rfl rfl ?_
  refine b_is (pc2 := 8) (al2 := [(4, _), (0, _), (1, _), (2, _), (3, _)]) d_Ro_overlay_6 (by decide) rfl rfl ?_
  have hdf : J b 1 - Int32.ofNat f = Int32.ofNat (m - f) := by rw [hm, i_sub hf]
  rw [hdf]
  refine b_iln (pc2 := 9) d_Ro_overlay_8 rfl rfl ?_
  refine b_ifd (pc2 := 71) d_Ro_overlay_9 rfl rfl rfl rfl rfl (fun h9 => ?_) (fun h9 => ?_)
  · exact absurd h9 (i_nn (by omega))
  refine b_iln (pc2 := 13) d_Ro_overlay_12 rfl rfl ?_
  refine b_aln (pc2 := 14) d_Ro_overlay_13 rfl rfl ?_
  refine b_gi (pc2 := 17) d_Ro_overlay_14 q_7_13 (ha) (by decide) (by decide) (bw_rc0 _) rfl ?_
  refine b_ifd (pc2 := 71) d_Ro_overlay_17 rfl rfl rfl rfl rfl (fun h17 => ?_) (fun h17 => ?_)
  · refine b_vr d_Ro_overlay_71 rfl ?_
    refine ⟨rfl, rfl, ?_, rfl, rfl⟩
    rw [hn, i_lt (by omega) (by omega)] at h17
    rw [if_neg (by omega)]
  · refine b_iln (pc2 := 21) d_Ro_overlay_20 rfl rfl ?_
    refine b_ifd (pc2 := 71) d_Ro_overlay_21 rfl rfl rfl rfl rfl (fun h21 => ?_) (fun h21 => ?_)
    · exact absurd h21 (i_nn (by omega))
    refine b_il (pc2 := 26) d_Ro_overlay_24 rfl rfl ?_
    refine b_ifd (pc2 := 71) d_Ro_overlay_26 rfl rfl rfl rfl rfl (fun h26 => ?_) (fun h26 => ?_)
    · refine b_vr d_Ro_overlay_71 rfl ?_
      refine ⟨rfl, rfl, ?_, rfl, rfl⟩
      rw [show (0 : Int32) = Int32.ofNat 0 from rfl, i_le (by omega) (by omega)] at h26
      rw [if_neg (by omega)]
    · refine b_iln (pc2 := 30) d_Ro_overlay_29 rfl rfl ?_
      refine b_il (pc2 := 32) d_Ro_overlay_30 rfl rfl ?_
      refine b_pure (pc2 := 33) d_Ro_overlay_32 rfl rfl rfl ?_
      refine b_aln (pc2 := 34) d_Ro_overlay_33 rfl rfl ?_
      refine b_gr (pc2 := 37) d_Ro_overlay_34 q_7_7 (ha) (by decide) (by decide) (pa) rfl ?_
      refine b_len (pc2 := 38) d_Ro_overlay_37 (na) (Or.inl ⟨by decide, by decide⟩) rfl ?_
      refine b_ifd (pc2 := 71) d_Ro_overlay_38 rfl rfl rfl rfl rfl (fun h38 => ?_) (fun h38 => ?_)
      · refine b_vr d_Ro_overlay_71 rfl ?_
        refine ⟨rfl, rfl, ?_, rfl, rfl⟩
        rw [i_add, i_lt (by omega) (by omega)] at h38
        rw [if_neg (by omega)]
      · rw [hn, i_lt (by omega) (by omega)] at h17
        rw [show (0 : Int32) = Int32.ofNat 0 from rfl, i_le (by omega) (by omega)] at h26
        rw [i_add, i_lt (by omega) (by omega)] at h38
        refine b_aln (pc2 := 42) d_Ro_overlay_41 rfl rfl ?_
        refine b_gr (pc2 := 45) d_Ro_overlay_42 q_7_7 (hb) (by decide) (by decide) (pb) rfl ?_
        refine b_iln (pc2 := 46) d_Ro_overlay_45 rfl rfl ?_
        refine b_aln (pc2 := 47) d_Ro_overlay_46 rfl rfl ?_
        refine b_gr (pc2 := 50) d_Ro_overlay_47 q_7_7 (ha) (by decide) (by decide) (pa) rfl ?_
        refine b_iln (pc2 := 51) d_Ro_overlay_50 rfl rfl ?_
        refine b_il (pc2 := 53) d_Ro_overlay_51 rfl rfl ?_
        refine b_cp (pc2 := 56) d_Ro_overlay_53 q_7_23 nb na rfl rfl rfl (by omega) (by omega) (by omega) (by omega) (bw_rc0 _) (bw_rc0 _) (Nat.le_of_ble_eq_true rfl) rfl ?_
        refine b_aln (pc2 := 57) d_Ro_overlay_56 rfl rfl ?_
        refine b_aln (pc2 := 58) d_Ro_overlay_57 rfl rfl ?_
        refine b_gi (pc2 := 61) d_Ro_overlay_58 q_7_13 (ha) (by decide) (by decide) (bw_rc0 _) rfl ?_
        refine b_iln (pc2 := 62) d_Ro_overlay_61 rfl rfl ?_
        refine b_il (pc2 := 64) d_Ro_overlay_62 rfl rfl ?_
        refine b_pure (pc2 := 65) d_Ro_overlay_64 rfl rfl rfl ?_
        refine b_mx (pc2 := 68) (i := 0) d_Ro_overlay_65 q_7_33 (Nat.le_of_ble_eq_true rfl) rfl ?_
        refine b_pi (pc2 := 71) d_Ro_overlay_68 q_7_13 (ha) (by decide) (Or.inl (by decide)) (Or.inl rfl) (bw_rc0 _) rfl ?_
        refine b_vr d_Ro_overlay_71 rfl ?_
        refine ⟨rfl, rfl, ?_, rfl, rfl⟩
        rw [if_pos (show p ≤ n ∧ f < m ∧ p + (m - f) ≤ N by omega)]
        have e1 : am_u1 J (a + 1) (va_cpy (J (b + 1)) (J (a + 1)) f p (m - f)) a 1 = Int32.ofNat n := by
          unfold am_u1
          rw [if_neg (by omega)]
          exact hn
        congr 1
        rw [e1, i_add]
        by_cases hx : n < p + (m - f)
        · rw [if_pos ((i_lt (by omega) (by omega)).mpr hx), Nat.max_eq_right (by omega)]
        · rw [if_neg (fun h => hx ((i_lt (by omega) (by omega)).mp h)), Nat.max_eq_left (by omega)]
end RW1
