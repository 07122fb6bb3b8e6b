/-! Part 98: the calls, class and reference side by side: event, run, the questions -/
section R4
variable {n0 : Nat} {T : Nat} {W : bw_W} {J K : bw_J}
theorem sim_event {f : Int32} {up dw : Int64} (h : rel T W J K) (hT : T < 70000000) : callR n0 T (T + 1) W J K 59 [.ref 1, .int f, .long up, .long dw] 143 [.int f, .long up, .long dw] := by
  have hup : ∀ {k : Nat} {cj : Nat} {ca : List Value} {mj : Nat} {ma : List Value}, callR n0 T T W J K cj ca mj ma → callR n0 T (T + 1) W J K cj ca mj ma := fun ⟨k, kg, v, b, W', J', K', a1, a2, a3, a4, a5, a6, a7⟩ => ⟨k, kg, v, b, W', J', K', a1, a2, a3, a4, a5, rel_core a6 (by omega) (core_up a6.2.1 (by omega)) rfl rfl rfl rfl rfl rfl rfl rfl (fun _ _ _ => rfl), a7⟩
  by_cases hok : ¬ f < 0 ∧ f ≤ Int32.ofNat 3
  · have hok' := hok
    obtain ⟨fa, hfa, rfl⟩ := nat_of (by decide) ⟨hok.1, Int32.not_lt.mpr hok.2⟩
    have hr := h
    obtain ⟨-, -, ev, ms, mc, dn, t1, t2, t3, t4, t5, t6, t7, -⟩ := h
    by_cases hd : dn = 0
    · subst hd
      obtain ⟨v, W', J', K', e1, e2, e3, e4, e5, e6⟩ := ev_sim (n0 := n0) (fa := fa) (up := up) (dw := dw) (T := T) (W := W) (J := J) (K := am_u2 K 130 0 (Int32.ofNat 0)) (rel_0 hr) (by omega) t5 (by omega)
      refine ⟨0, 0, Int32.ofNat v, Int32.ofNat v, W', J', K', by decide, fun _ => rfl, fun d K0 g L hd => ?_, fun d W0 J0 g L hd => ?_, by rw [e5, u2_at], e4, e6⟩
      · rw [if_pos rfl]
        exact la_event hd (fun e he => al_event2 (n0 := n0) (W := W) (J := jn J K0) (g := g) (L := L) (by omega) hok' t5 (fun e9 he9 => e2 e9 K0 g L he9))
      · refine mo_event0 (n0 := n0) (W := W0) (J := jn J0 K) (g := g) (L := L) hd (by omega) t6 (fun e he => ?_)
        rw [jn_u2r (by decide)]
        exact e3 e W0 J0 g L he
    · have hd1 : dn = 1 := by omega
      subst hd1
      exact hup (k := 0) (call_x (k := 2) hr (Or.inr rfl) (fun d K0 g L hd => la_event_x2 hd (fun e he => al_event1 (n0 := n0) (W := W) (J := jn J K0) (g := g) (L := L) (by omega) hok' (by rw [show (jn J K0) 1 8 = J 1 8 from rfl, t5]; decide))) (fun d W0 J0 g L hd => mo_event2 (n0 := n0) (W := W0) (J := jn J0 K) (g := g) (L := L) hd (by omega) t6))
  · refine hup (k := 0) (call_x (k := 1) h (Or.inl rfl) (fun d K0 g L hd => la_event_x1 hd (fun e he => al_event0 (n0 := n0) (W := W) (J := jn J K0) (g := g) (L := L) (by omega) hok)) (fun d W0 J0 g L hd => mo_event1 (n0 := n0) (W := W0) (J := jn J0 K) (g := g) (L := L) hd ?_))
    by_cases q : f < 0
    · exact Or.inl q
    · exact Or.inr (Int32.not_le.mp (fun z => hok ⟨q, z⟩))
/-- some events one after the other -/
theorem run_seq : ∀ (r T : Nat) (W : bw_W) (J K : bw_J), rel T W J K → T + r < 79000000 → ∃ (m : Nat) (Ws : Nat → bw_W) (Js Ks : Nat → bw_J) (rv : Nat → Nat), m ≤ r ∧ Ws 0 = W ∧ Js 0 = J ∧ Ks 0 = K ∧ (∀ k, rv k ≤ 3) ∧ (∀ k, k < m → (∀ (d : Nat) (K0 : bw_J) (g : Nat) (L : bw_L), 6 ≤ d → bm d (S0 n0) R0 61 [.ref 1, .int (Int32.ofNat 0), .long 0, .long 0] (Ws k) (jn (Js k) K0) g L (bR (some (.int (Int32.ofNat (rv k)))) (Ws (k + 1)) (jn (Js (k + 1)) K0) g L)) ∧ (∀ (d : Nat) (W0 : bw_W) (J0 : bw_J) (g : Nat) (L : bw_L), 10 ≤ d → bm d (S0 n0) R0 144 [.ref 130, .int (Int32.ofNat 0), .long 0, .long 0] W0 (jn J0 (Ks k)) g L (bR (some (.int (Int32.ofNat (rv k)))) W0 (jn J0 (Ks (k + 1))) g L)) ∧ Js k 1 8 = 0 ∧ Ks k 130 7 = Int32.ofNat 0) ∧ (m = r ∨ (¬ Js m 1 8 = 0 ∧ Ks m 130 7 = Int32.ofNat 1)) ∧ rel (T + m) (Ws m) (Js m) (Ks m) ∧ (∀ k, k ≤ m → Ks k 130 0 = K 130 0) ∧ Js m 0 = J 0
  | 0, T, W, J, K, h, _ => ⟨0, fun _ => W, fun _ => J, fun _ => K, fun _ => 0, Nat.le_refl _, rfl, rfl, rfl, fun _ => Nat.zero_le _, fun k hk => absurd hk (by omega), Or.inl rfl, h, fun _ _ => rfl, rfl⟩
  | r + 1, T, W, J, K, h, hT => by
    have hr := h
    obtain ⟨-, -, ev, ms, mc, dn, t1, t2, t3, t4, t5, t6, t7, -⟩ := h
    by_cases hd : dn = 0
    · subst hd
      obtain ⟨v, W', J', K', e1, e2, e3, e4, e5, e6⟩ := ev_sim (n0 := n0) (fa := 0) (up := 0) (dw := 0) hr (by omega) t5 (by decide)
      obtain ⟨m, Ws, Js, Ks, rv, a1, a2, a3, a4, a5, a6, a7, a8, a9, a10⟩ := run_seq r (T + 1) W' J' K' e4 (by omega)
      refine ⟨m + 1, fun k => match k with | 0 => W | k + 1 => Ws k, fun k => match k with | 0 => J | k + 1 => Js k, fun k => match k with | 0 => K | k + 1 => Ks k, fun k => match k with | 0 => v | k + 1 => rv k, by omega, rfl, rfl, rfl, fun k => match k with | 0 => e1 | k + 1 => a5 k, fun k hk => ?_, ?_, ?_, fun k hk => ?_, ?_⟩
      · match k, hk with
        | 0, _ =>
          refine ⟨fun d K0 g L hd => ?_, fun d W0 J0 g L hd => ?_, t5, t6⟩
          · show bm d (S0 n0) R0 61 _ W (jn J K0) g L (bR _ (Ws 0) (jn (Js 0) K0) g L)
            rw [a2, a3]; exact e2 d K0 g L hd
          · show bm d (S0 n0) R0 144 _ W0 (jn J0 K) g L (bR _ W0 (jn J0 (Ks 0)) g L)
            rw [a4]; exact e3 d W0 J0 g L hd
        | k + 1, hk => exact a6 k (by omega)
      · rcases a7 with q | q
        · exact Or.inl (by omega)
        · exact Or.inr q
      · have : T + (m + 1) = T + 1 + m := by omega
        rw [this]; exact a8
      · match k, hk with
        | 0, _ => rfl
        | k + 1, hk => exact (a9 k (by omega)).trans e5
      · exact a10.trans e6
    · have hd1 : dn = 1 := by omega
      subst hd1
      exact ⟨0, fun _ => W, fun _ => J, fun _ => K, fun _ => 0, by omega, rfl, rfl, rfl, fun _ => Nat.zero_le _, fun k hk => absurd hk (by omega), Or.inr ⟨by show ¬ J 1 8 = 0; rw [t5]; decide, t6⟩, hr, fun _ _ => rfl, rfl⟩
theorem sim_run {x : Int32} (h : rel T W J K) (hT : T < 70000000) : ∃ m, m ≤ 40 ∧ callR n0 T (T + m) W J K 110 [.ref 1, .int x] 171 [.int x] := by
  by_cases hx : x < Int32.ofNat 1 ∨ Int32.ofNat 40 < x
  · exact ⟨0, by decide, call_x (k := 1) h (Or.inl rfl) (fun d K0 g L hd => la_run_x1 hd (fun e he => al_run1 (n0 := n0) (W := W) (J := jn J K0) (g := g) (L := L) (by omega) hx)) (fun d W0 J0 g L hd => mo_run1 (n0 := n0) (W := W0) (J := jn J0 K) (g := g) (L := L) hd hx)⟩
  · have h0 : ¬ x < 0 := fun z => hx (Or.inl (Int32.lt_trans z (by decide)))
    obtain ⟨n, hn40, rfl⟩ := nat_of (by decide) ⟨h0, fun z => hx (Or.inr z)⟩
    have hn1 : 1 ≤ n := by
      have : ¬ Int32.ofNat n < Int32.ofNat 1 := fun z => hx (Or.inl z)
      rw [i_lt (by omega) (by decide)] at this
      omega
    obtain ⟨m, Ws, Js, Ks, rv, a1, a2, a3, a4, a5, a6, a7, a8, a9, a10⟩ := run_seq (n0 := n0) n T W J (am_u2 K 130 0 (Int32.ofNat 0)) (rel_0 h) (by omega)
    refine ⟨m, by omega, 0, 0, Int32.ofNat m, Int32.ofNat m, Ws m, Js m, Ks m, by decide, fun _ => rfl, fun d K0 g L hd => ?_, fun d W0 J0 g L hd => ?_, by rw [a9 m (Nat.le_refl _), u2_at], a8, a10⟩
    · rw [if_pos rfl]
      exact la_run hd (fun e he => al_run0 (n0 := n0) (W := W) (J := jn J K0) (g := g) (L := L) (Ws := Ws) (Js := fun k => jn (Js k) K0) (rv := fun k => Int32.ofNat (rv k)) he hn40 a1 (fun k hk e2 he2 => (a6 k hk).1 e2 K0 g L he2) (fun k hk => (a6 k hk).2.2.1) (a7.imp id (fun q => q.1)) hn1 a2 (by rw [a3]))
    · exact mo_run0 (n0 := n0) (W := W0) (J := jn J0 K) (g := g) (L := L) (Js := fun k => jn J0 (Ks k)) (rv := rv) hd hn40 a1 a5 (fun k hk e he => (a6 k hk).2.1 e W0 J0 g L he) (fun k hk => by show Ks k 130 0 = _; rw [a9 k hk, u2_at]) (fun k hk => (a6 k hk).2.2.2) (a7.imp id (fun q => q.2)) hn1 (by show jn J0 (Ks 0) = _; rw [a4, jn_u2r (by decide)])
theorem sim_outcome (h : rel T W J K) : callR n0 T T W J K 112 [.ref 1] 172 [] := by
  have hr := h
  obtain ⟨-, ⟨-, -, -, -, -, -, -, -, -, -, -, nt, cl, ⟨-, hs⟩, -⟩, -⟩ := h
  rcases hs with ⟨e1, e2, e3⟩ | ⟨op, oc, ⟨p1, p2, p3, p4, p5, p6, p7⟩, -⟩
  · refine call_x (k := 1) hr (Or.inl rfl) (fun d K0 g L hd => la_outcome_x1 hd (fun e he => al_outcome0 (n0 := n0) (W := W) (J := jn J K0) (g := g) (L := L) (by omega) e1)) (fun d W0 J0 g L hd => ?_) (b := 0)
    have := mo_outcome (n0 := n0) (W := W0) (J := jn J0 K) (g := g) (L := L) (d := d) (by omega)
    rw [if_pos (show (jn J0 K) 130 45 = 0 from e2), if_pos (show (jn J0 K) 130 45 = 0 from e2)] at this
    exact this
  · refine call_q (v := Int32.ofNat oc) hr (fun d K0 g L hd => la_outcome hd (fun e he => ?_)) (fun d W0 J0 g L hd => ?_)
    · have := al_outcome1 (n0 := n0) (W := W) (J := jn J K0) (g := g) (L := L) (d := e) (by omega) (fun z => by
        have z2 : J 67 8 = -1 := z
        rw [p6] at z2
        have q2 := congrArg Int32.toInt z2
        rw [i_ti (by omega), show (-1 : Int32).toInt = -1 from rfl] at q2
        omega)
      rw [show (jn J K0) 67 8 = Int32.ofNat oc from p6] at this
      exact this
    · have hne : ¬ (jn J0 K) 130 45 = 0 := fun z => by
        have z2 : K 130 45 = 0 := z
        rw [p4, z_eq (by omega)] at z2
        omega
      have := mo_outcome (n0 := n0) (W := W0) (J := jn J0 K) (g := g) (L := L) (d := d) (by omega)
      rw [if_neg hne, if_neg hne, show (jn J0 K) 130 47 = Int32.ofNat oc from p7] at this
      exact this
/-- a byte of a row, or its length, or neither -/
theorem int_cases (k : Int32) (n : Nat) (hn : n < 1000) : k = -1 ∨ (∃ q, q < n ∧ k = Int32.ofNat q) ∨ (¬ k = -1 ∧ ¬ (¬ k < 0 ∧ k < Int32.ofNat n)) := by
  by_cases h1 : k = -1
  · exact Or.inl h1
  · by_cases h2 : ¬ k < 0 ∧ k < Int32.ofNat n
    · obtain ⟨q, hq, rfl⟩ := i_of h2.1
      have := h2.2
      rw [i_lt hq (by omega)] at this
      exact Or.inr (Or.inl ⟨q, this, rfl⟩)
    · exact Or.inr (Or.inr ⟨h1, h2⟩)
theorem sim_data {k : Int32} (h : rel T W J K) : callR n0 T T W J K 115 [.ref 1, .int k] 174 [.int k] := by
  have hr := h
  obtain ⟨-, ⟨-, -, -, -, -, -, -, -, -, -, -, nt, cl, ⟨⟨-, -, -, -, -, -, b6, b7, b8, -⟩, -⟩, -⟩, -⟩ := h
  rcases int_cases k (W 78).length (by omega) with rfl | ⟨q, hq, rfl⟩ | ⟨h1, h2⟩
  · exact call_q (v := Int32.ofNat (W 78).length) hr (fun d K0 g L hd => la_data hd (fun e he => al_data_l (n0 := n0) (W := W) (J := jn J K0) (g := g) (L := L) (by omega))) (fun d W0 J0 g L hd => mo_data_l (n0 := n0) (W := W0) (J := jn J0 K) (g := g) (L := L) (by omega) b6 (by omega))
  · refine call_q (v := (W 78).getD q 0) hr (fun d K0 g L hd => la_data hd (fun e he => al_data_k (n0 := n0) (W := W) (J := jn J K0) (g := g) (L := L) (by omega) hq)) (fun d W0 J0 g L hd => ?_)
    have := mo_data_k (n0 := n0) (W := W0) (J := jn J0 K) (g := g) (L := L) (d := d) (by omega) b6 (by omega) hq
    have e8 := b8 q hq
    rw [Nat.zero_add] at e8
    rw [show (jn J0 K) 162 q = (W 78).getD q 0 from e8] at this
    exact this
  · exact call_x (k := 1) hr (Or.inl rfl) (fun d K0 g L hd => la_data_x1 hd (fun e he => al_data_x (n0 := n0) (W := W) (J := jn J K0) (g := g) (L := L) he h1 h2)) (fun d W0 J0 g L hd => mo_data_x (n0 := n0) (W := W0) (J := jn J0 K) (g := g) (L := L) (by omega) b6 (by omega) h1 h2)
theorem sim_note {n k : Int32} (h : rel T W J K) (hT : T < 70000000) : callR n0 T T W J K 119 [.ref 1, .int n, .int k] 175 [.int n, .int k] := by
  have hr := h
  obtain ⟨-, ⟨-, -, -, -, -, -, -, -, -, -, -, nt, cl, ⟨⟨⟨n1, n2, n3, n4⟩, -⟩, -⟩, hnt⟩, -⟩ := h
  by_cases hb : ¬ n < 0 ∧ n < Int32.ofNat (min 4 nt)
  · obtain ⟨b, hbl, rfl⟩ := i_of hb.1
    have hb2 := hb.2
    rw [i_lt hbl (by omega)] at hb2
    obtain ⟨m1, m2, m3⟩ := n4 ((nt - 1 - b) % 4) (Nat.mod_lt _ (by decide))
    have hrow : 70 + 2 * (((nt - 1 - b) % 4 + 1) % 4) = 70 + 2 * ((nt % 4 + 4 - b) % 4) := by omega
    rw [hrow] at m1 m2 m3
    rcases int_cases k (W (70 + 2 * ((nt % 4 + 4 - b) % 4))).length (by omega) with rfl | ⟨q, hq, rfl⟩ | ⟨h1, h2⟩
    · exact call_q (v := Int32.ofNat (W (70 + 2 * ((nt % 4 + 4 - b) % 4))).length) hr (fun d K0 g L hd => la_note hd (fun e he => al_note_l (n0 := n0) (W := W) (J := jn J K0) (g := g) (L := L) (by omega) n3 (by omega) n2 (by omega) hb2)) (fun d W0 J0 g L hd => mo_note_l (n0 := n0) (W := W0) (J := jn J0 K) (g := g) (L := L) (by omega) n1 (by omega) (by omega) (by omega) m1 (by omega))
    · refine call_q (v := (W (70 + 2 * ((nt % 4 + 4 - b) % 4))).getD q 0) hr (fun d K0 g L hd => la_note hd (fun e he => al_note_k (n0 := n0) (W := W) (J := jn J K0) (g := g) (L := L) (by omega) n3 (by omega) n2 (by omega) hb2 hq)) (fun d W0 J0 g L hd => ?_)
      have := mo_note_k (n0 := n0) (W := W0) (J := jn J0 K) (g := g) (L := L) (d := d) (by omega) n1 (by omega) (b := b) (by omega) (by omega) m1 (by omega) hq
      rw [show (jn J0 K) 165 (24 * ((nt - 1 - b) % 4) + q) = _ from m3 q hq] at this
      exact this
    · exact call_x (k := 2) hr (Or.inr rfl) (fun d K0 g L hd => la_note_x2 hd (fun e he => al_note_x (n0 := n0) (W := W) (J := jn J K0) (g := g) (L := L) he n3 (by omega) n2 (by omega) hb2 h1 h2)) (fun d W0 J0 g L hd => mo_note_x (n0 := n0) (W := W0) (J := jn J0 K) (g := g) (L := L) (by omega) n1 (by omega) (by omega) (by omega) m1 (by omega) h1 h2)
  · refine call_x (k := 1) hr (Or.inl rfl) (fun d K0 g L hd => la_note_x1 hd (fun e he => al_note0 (n0 := n0) (W := W) (J := jn J K0) (g := g) (L := L) (by omega) (by rw [show (jn J K0) 68 1 = J 68 1 from rfl, n2]; exact hb))) (fun d W0 J0 g L hd => mo_note0 (n0 := n0) (W := W0) (J := jn J0 K) (g := g) (L := L) (by omega) n1 ?_)
    by_cases q1 : n < 0
    · exact Or.inl q1
    · obtain ⟨b, hbl, rfl⟩ := i_of q1
      have : ¬ Int32.ofNat b < Int32.ofNat (min 4 nt) := fun z => hb ⟨q1, z⟩
      rw [i_lt hbl (by omega)] at this
      rw [i_lt (by decide) hbl, i_lt hbl (by omega)]
      omega
theorem sim_value {hh k : Int32} (h : rel T W J K) : callR n0 T T W J K 123 [.ref 1, .int hh, .int k] 177 [.int hh, .int k] := by
  have hr := h
  obtain ⟨-, ⟨-, -, -, -, -, -, -, -, -, -, ⟨cn, pn, sl, s⟩, -⟩, -⟩ := h
  obtain ⟨s1, s2, s3, s4, s5, s6, s7, s8, s9, s10, s11, s12, s13, s14, s15, s16⟩ := s
  by_cases hok : ¬ hh < Int32.ofNat 1 ∧ ¬ Int32.ofNat cn < hh
  · have h1 := hok.1
    obtain ⟨hx, hxl, rfl⟩ := i_of (k := hh) (fun z => h1 (Int32.lt_trans z (by decide)))
    have h2 := hok.2
    rw [i_lt hxl (by decide)] at h1
    rw [i_lt (by omega) hxl] at h2
    obtain ⟨i, rfl⟩ : ∃ i, hx = i + 1 := ⟨hx - 1, by omega⟩
    have hi : i < 10 := by omega
    have hic : i < cn := by omega
    obtain ⟨v1, v2, v3, v4⟩ := s5 i hi
    rcases int_cases k (W (89 + 3 * i)).length (by omega) with rfl | ⟨q, hq, rfl⟩ | ⟨g1, g2⟩
    · exact call_q (v := Int32.ofNat (W (89 + 3 * i)).length) hr (fun d K0 g L hd => la_value hd (fun e he => al_value_l (n0 := n0) (W := W) (J := jn J K0) (g := g) (L := L) (by omega) hi s1 s3 hic)) (fun d W0 J0 g L hd => mo_value_l (n0 := n0) (W := W0) (J := jn J0 K) (g := g) (L := L) (by omega) hi s2 s3 hic v1 v2)
    · refine call_q (v := (W (89 + 3 * i)).getD q 0) hr (fun d K0 g L hd => la_value hd (fun e he => al_value_k (n0 := n0) (W := W) (J := jn J K0) (g := g) (L := L) (by omega) hi s1 s3 hic hq)) (fun d W0 J0 g L hd => ?_)
      have := mo_value_k (n0 := n0) (W := W0) (J := jn J0 K) (g := g) (L := L) (d := d) (by omega) hi s2 s3 hic v1 v2 hq
      rw [show (jn J0 K) 155 (16 * i + q) = _ from v4 q hq] at this
      exact this
    · exact call_x (k := 2) hr (Or.inr rfl) (fun d K0 g L hd => la_value_x2 hd (fun e he => al_value_x (n0 := n0) (W := W) (J := jn J K0) (g := g) (L := L) he hi s1 s3 hic g1 g2)) (fun d W0 J0 g L hd => mo_value_x (n0 := n0) (W := W0) (J := jn J0 K) (g := g) (L := L) (by omega) hi s2 s3 hic v1 v2 g1 g2)
  · exact call_x (k := 1) hr (Or.inl rfl) (fun d K0 g L hd => la_value_x1 hd (fun e he => al_value0 (n0 := n0) (W := W) (J := jn J K0) (g := g) (L := L) (by omega) (by rw [show (jn J K0) 86 1 = J 86 1 from rfl, s1]; exact hok))) (fun d W0 J0 g L hd => mo_value0 (n0 := n0) (W := W0) (J := jn J0 K) (g := g) (L := L) (by omega) (by rw [show (jn J0 K) 130 31 = K 130 31 from rfl, s2]; exact hok))
theorem sim_air {b : Nat} {k : Int32} (hb1 : b ≤ 1) (h : rel T W J K) : callR n0 T T W J K 125 [.ref 1, .int (Int32.ofNat b), .int k] 178 [.int (Int32.ofNat b), .int k] := by
  have hr := h
  obtain ⟨-, ⟨-, -, -, ⟨a1, a2, a3, a4⟩, -, -, -, -, ⟨e1, e2, e3, e4⟩, -⟩, -⟩ := h
  rcases (show b = 0 ∨ b = 1 by omega) with rfl | rfl
  · by_cases h0 : (W 31).length = 0
    · rw [h0] at a1
      exact call_x (k := 1) hr (Or.inl rfl) (fun d K0 g L hd => la_air_x1 hd (fun e he => al_air0_0 (n0 := n0) (W := W) (J := jn J K0) (g := g) (L := L) (by omega) rfl (List.length_eq_zero_iff.mp h0))) (fun d W0 J0 g L hd => mo_air0_0 (n0 := n0) (W := W0) (J := jn J0 K) (g := g) (L := L) (by omega) rfl a1)
    · rcases int_cases k (W 31).length (by omega) with rfl | ⟨q, hq, rfl⟩ | ⟨g1, g2⟩
      · exact call_q (v := Int32.ofNat (W 31).length) hr (fun d K0 g L hd => la_air hd (fun e he => al_air0_l (n0 := n0) (W := W) (J := jn J K0) (g := g) (L := L) (by omega) rfl (by omega))) (fun d W0 J0 g L hd => mo_air0_l (n0 := n0) (W := W0) (J := jn J0 K) (g := g) (L := L) (by omega) rfl a1 (by omega) (by omega))
      · refine call_q (v := (W 31).getD q 0) hr (fun d K0 g L hd => la_air hd (fun e he => al_air0_k (n0 := n0) (W := W) (J := jn J K0) (g := g) (L := L) (by omega) rfl (by omega) hq)) (fun d W0 J0 g L hd => ?_)
        have := mo_air0_k (n0 := n0) (W := W0) (J := jn J0 K) (g := g) (L := L) (d := d) (b := Int32.ofNat 0) (by omega) rfl a1 (by omega) (by omega) hq
        rw [show (jn J0 K) 148 (16 * 0 + q) = _ from a4 q hq] at this
        exact this
      · exact call_x (k := 2) hr (Or.inr rfl) (fun d K0 g L hd => la_air_x2 hd (fun e he => al_air0_x (n0 := n0) (W := W) (J := jn J K0) (g := g) (L := L) he rfl (by omega) g1 g2)) (fun d W0 J0 g L hd => mo_air0_x (n0 := n0) (W := W0) (J := jn J0 K) (g := g) (L := L) (by omega) rfl a1 (by omega) (by omega) g1 g2)
  · by_cases h0 : (W 61).length = 0
    · rw [h0] at e1
      exact call_x (k := 1) hr (Or.inl rfl) (fun d K0 g L hd => la_air_x1 hd (fun e he => al_air1_0 (n0 := n0) (W := W) (J := jn J K0) (g := g) (L := L) (by omega) (by decide) (List.length_eq_zero_iff.mp h0))) (fun d W0 J0 g L hd => mo_air1_0 (n0 := n0) (W := W0) (J := jn J0 K) (g := g) (L := L) (by omega) (by decide) e1)
    · rcases int_cases k (W 61).length (by omega) with rfl | ⟨q, hq, rfl⟩ | ⟨g1, g2⟩
      · exact call_q (v := Int32.ofNat (W 61).length) hr (fun d K0 g L hd => la_air hd (fun e he => al_air1_l (n0 := n0) (W := W) (J := jn J K0) (g := g) (L := L) (by omega) (by decide) (by omega))) (fun d W0 J0 g L hd => mo_air1_l (n0 := n0) (W := W0) (J := jn J0 K) (g := g) (L := L) (by omega) (by decide) e1 (by omega) (by omega))
      · refine call_q (v := (W 61).getD q 0) hr (fun d K0 g L hd => la_air hd (fun e he => al_air1_k (n0 := n0) (W := W) (J := jn J K0) (g := g) (L := L) (by omega) (by decide) (by omega) hq)) (fun d W0 J0 g L hd => ?_)
        have := mo_air1_k (n0 := n0) (W := W0) (J := jn J0 K) (g := g) (L := L) (d := d) (b := Int32.ofNat 1) (by omega) (by decide) e1 (by omega) (by omega) hq
        rw [show (jn J0 K) 148 (16 * 1 + q) = _ from e4 q hq] at this
        exact this
      · exact call_x (k := 2) hr (Or.inr rfl) (fun d K0 g L hd => la_air_x2 hd (fun e he => al_air1_x (n0 := n0) (W := W) (J := jn J K0) (g := g) (L := L) he (by decide) (by omega) g1 g2)) (fun d W0 J0 g L hd => mo_air1_x (n0 := n0) (W := W0) (J := jn J0 K) (g := g) (L := L) (by omega) (by decide) e1 (by omega) (by omega) g1 g2)
/-- a question without a wrapper -/
def callQ (n0 T : Nat) (W : bw_W) (J K : bw_J) (cj : Nat) (ca : List Value) (mj : Nat) (ma : List Value) : Prop := ∃ (v : Int32) (K' : bw_J), (∀ (d : Nat) (K0 : bw_J) (g : Nat) (L : bw_L), 8 ≤ d → bm d (S0 n0) R0 cj ca W (jn J K0) g L (bR (some (.int v)) W (jn J K0) g L)) ∧ (∀ (d : Nat) (W0 : bw_W) (J0 : bw_J) (g : Nat) (L : bw_L), 11 ≤ d → bm d (S0 n0) R0 mj (.ref 130 :: ma) W0 (jn J0 K) g L (bR (some (.int v)) W0 (jn J0 K') g L)) ∧ rel T W J K'
theorem sim_error (h : rel T W J K) : callQ n0 T W J K 16 [.ref 1] 173 [] := by
  have hr := h
  obtain ⟨-, ⟨-, -, -, -, -, -, -, -, -, -, -, nt, cl, ⟨⟨-, -, -, -, -, -, -, -, -, b9, -⟩, -⟩, -⟩, -⟩ := h
  refine ⟨J 67 9, am_u2 K 130 0 0, fun d K0 g L hd => al_error (n0 := n0) (W := W) (J := jn J K0) (g := g) (L := L) (by omega), fun d W0 J0 g L hd => ?_, rel_0 hr⟩
  have := mo_error (n0 := n0) (W := W0) (J := jn J0 K) (g := g) (L := L) (d := d) (by omega)
  rw [jn_u2r (by decide), show (jn J0 K) 130 48 = J 67 9 from b9.symm] at this
  exact this
theorem sim_look {k : Int32} (h : rel T W J K) : callQ n0 T W J K 18 [.ref 1, .int k] 179 [.int k] := by
  have hr := h
  obtain ⟨-, ⟨-, -, -, -, -, -, -, -, -, -, ⟨cn, pn, sl, s⟩, nt, cl, ⟨⟨-, b1, b2, -⟩, -⟩, -⟩, ev, ms, mc, dn, t1, t2, t3, t4, t5, t6, t7, t8, t9, t10, t11, -⟩ := h
  obtain ⟨s1, s2, s3, s4, s5, s6, s7, s8, s9, s10, s11, s12, s13, s14, s15, s16⟩ := s
  have go : ∀ (v : Int32), (∀ (K0 : bw_J) (g : Nat) (L : bw_L) (d : Nat), 2 ≤ d → bm d (S0 n0) R0 18 [.ref 1, .int k] W (jn J K0) g L (bR (some (.int v)) W (jn J K0) g L)) → (∀ (W0 : bw_W) (J0 : bw_J) (g : Nat) (L : bw_L) (d : Nat), 1 ≤ d → bm d (S0 n0) R0 179 [.ref 130, .int k] W0 (jn J0 K) g L (bR (some (.int v)) W0 (am_u2 (jn J0 K) 130 0 (Int32.ofNat 0)) g L)) → callQ n0 T W J K 18 [.ref 1, .int k] 179 [.int k] := fun v a b => ⟨v, am_u2 K 130 0 (Int32.ofNat 0), fun d K0 g L hd => a K0 g L d (by omega), fun d W0 J0 g L hd => by
    have := b W0 J0 g L d (by omega)
    rw [jn_u2r (by decide)] at this
    exact this, rel_0 hr⟩
  by_cases hk : k < 0 ∨ Int32.ofNat 8 < k
  · exact go (-1) (fun K0 g L d hd => al_look9 hd hk) (fun W0 J0 g L d hd => mo_look9 hd hk)
  · obtain ⟨q, hq, rfl⟩ := nat_of (by decide) ⟨fun z => hk (Or.inl z), fun z => hk (Or.inr z)⟩
    rcases (show q = 0 ∨ q = 1 ∨ q = 2 ∨ q = 3 ∨ q = 4 ∨ q = 5 ∨ q = 6 ∨ q = 7 ∨ q = 8 by omega) with rfl | rfl | rfl | rfl | rfl | rfl | rfl | rfl | rfl
    · exact go (J 1 7) (fun K0 g L d hd => al_look0 hd) (fun W0 J0 g L d hd => by rw [t4]; exact mo_look0 hd)
    · exact go (Int32.ofNat ev) (fun K0 g L d hd => by rw [← t1]; exact al_look1 hd) (fun W0 J0 g L d hd => by rw [← t2]; exact mo_look1 hd)
    · exact go (Int32.ofNat mc) (fun K0 g L d hd => by rw [← t10]; exact al_look2 hd) (fun W0 J0 g L d hd => by rw [← t11]; exact mo_look2 hd)
    · exact go (Int32.ofNat ms) (fun K0 g L d hd => by rw [← t8]; exact al_look3 hd) (fun W0 J0 g L d hd => by rw [← t9]; exact mo_look3 hd)
    · exact go (Int32.ofNat cl) (fun K0 g L d hd => by rw [← b1]; exact al_look4 hd) (fun W0 J0 g L d hd => by rw [← b2]; exact mo_look4 hd)
    · exact go (Int32.ofNat sl) (fun K0 g L d hd => by rw [← s11]; exact al_look5 hd) (fun W0 J0 g L d hd => by rw [← s12]; exact mo_look5 hd)
    · exact go (Int32.ofNat pn) (fun K0 g L d hd => by rw [← s7]; exact al_look6 hd) (fun W0 J0 g L d hd => by rw [← s8]; exact mo_look6 hd)
    · refine go (if J 1 8 = 0 then 0 else 1) (fun K0 g L d hd => al_look7 hd) (fun W0 J0 g L d hd => ?_)
      rw [t5, ← t6]; exact mo_look7 hd
    · refine go (if J 86 7 = 0 then 0 else 1) (fun K0 g L d hd => al_look8 hd s16) (fun W0 J0 g L d hd => ?_)
      rw [s15]; exact mo_look8 hd
end R4
