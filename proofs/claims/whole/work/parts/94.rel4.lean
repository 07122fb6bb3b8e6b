/-! Part 94 (written by gen62.py): hearing, class and reference side by side -/
def rNum (D dv : Nat) (J K : bw_J) (tu nx : Nat) : Prop := J D 7 = Int32.ofNat tu ∧ K 133 dv = Int32.ofNat tu ∧ tu ≤ 1 ∧ J D 8 = Int32.ofNat nx ∧ K 134 dv = Int32.ofNat nx ∧ nx ≤ 1
/-- what hearing changes of the reference, at most -/
def kHr (od : Nat) (K' K : bw_J) : Prop := kEq od K' K ∧ (∀ c, ¬ c = 130 → ¬ c = 132 → ¬ c = 133 → ¬ c = 134 → ¬ c = 136 → ¬ c = 145 → ¬ c = 146 → ¬ c = 147 → ¬ c = 150 → K' c = K c) ∧ (∀ f, ¬ f = 27 → K' 130 f = K 130 f)
theorem kHr_tr {od : Nat} {K1 K2 K3 : bw_J} (h : kHr od K1 K2) (h' : kHr od K2 K3) : kHr od K1 K3 := ⟨kEq_tr h.1 h'.1, fun c a1 a2 a3 a4 a5 a6 a7 a8 a9 => (h.2.1 c a1 a2 a3 a4 a5 a6 a7 a8 a9).trans (h'.2.1 c a1 a2 a3 a4 a5 a6 a7 a8 a9), fun f hf => (h.2.2 f hf).trans (h'.2.2 f hf)⟩
theorem kHr_132 (od : Nat) (K : bw_J) (f : Nat → Int32) : kHr od (am_u1 K 132 f) K := ⟨kEq_of fun c c1 c2 => u1_ne _ _ (by omega), fun c _ a2 _ _ _ _ _ _ _ => u1_ne _ _ a2, fun f _ => by rw [u1_ne _ _ (by decide)]⟩
theorem kHr_2 {od dv x : Nat} {K : bw_J} {v : Int32} (hx : x = 133 ∨ x = 134 ∨ x = 136) (hne : ¬ od = dv) : kHr od (am_u2 K x dv v) K := by
  have e : ∀ c, ¬ c = x → am_u2 K x dv v c = K c := fun c hc => u2_a _ _ hc
  refine ⟨⟨fun y a b c d e2 f i => ?_, fun k hk => ?_, fun k hk => ?_, fun k hk => ?_, fun k hk => ?_, fun k hk => ?_⟩, fun c a1 a2 a3 a4 a5 a6 a7 a8 a9 => e c (by omega), fun f _ => by rw [e 130 (by omega)]⟩
  · by_cases h : y = x
    · subst h; rw [u2_k _ _ hne]
    · rw [e y h]
  · rw [e 139 (by omega)]
  · rw [e 141 (by omega)]
  · rw [e 140 (by omega)]
  · rw [e 145 (by omega)]
  · rw [e 148 (by omega)]
section HEc
variable {n0 : Nat} {W : bw_W} {J K : bw_J}
theorem hear_c {tu nx ch : Nat} {v : Int64} {a : List Int32} {f : Nat → Int32} (hI : rIn 26 29 0 W J K) (hH : rHold 7 35 0 W J K) (hN : rNum 7 0 J K tu nx) (ha : W 61 = a) (ha5 : 5 ≤ a.length) (ha12 : a.length ≤ 12) (hab : byl a) (h8 : K 130 8 = Int32.ofNat a.length) (h132 : K 132 = ovw 0 a f) (hm : ∀ k, k < 12 → J 6 k = mkf (64 + ch) k) (hc : K 130 5 = Int32.ofNat ch) (hc2 : ch < 64) : ∃ (b : Nat) (W' : bw_W) (J' : bw_J), b ≤ 1 ∧
    (∀ (d : Nat) (K0 : bw_J) (g : Nat) (L : bw_L), 5 ≤ d → bm d (S0 n0) R0 69 [.ref 7, .ref 61, .long v, .ref 5] W (jn J K0) g L (bR (some (.int (Int32.ofNat b))) W' (jn J' K0) g L)) ∧
    (∀ c, ¬ c = 33 → ¬ c = 29 → ¬ c = 27 → W' c = W c) ∧ (∀ c, ¬ c = 7 → ¬ c = 26 → J' c = J c) ∧ (∀ q, ¬ q = 6 → ¬ q = 7 → ¬ q = 8 → J' 7 q = J 7 q) ∧
    ((∃ K', (∀ (d : Nat) (W0 : bw_W) (J0 : bw_J) (g : Nat) (L : bw_L), 8 ≤ d → bm d (S0 n0) R0 151 [.ref 130, .int (Int32.ofNat 0)] W0 (jn J0 (am_u1 K 132 (sx v (min 8 a.length) (K 132)))) g L (bR (some (.int (Int32.ofNat b))) W0 (jn J0 K') g L)) ∧ J' 26 3 = 0 ∧ rIn 26 29 0 W' J' K' ∧ rHold 7 35 0 W' J' K' ∧ (∃ tu' nx', rNum 7 0 J' K' tu' nx') ∧ kHr 1 K' K) ∨
    (b = 1 ∧ ∃ Kd m, (∀ K1, (∀ (e : Nat) (W0 : bw_W) (J0 : bw_J) (g : Nat) (L : bw_L), 6 ≤ e → bm e (S0 n0) R0 153 [.ref 130] W0 (jn J0 Kd) g L (bR none W0 (jn J0 K1) g L)) → ∀ (d : Nat) (W0 : bw_W) (J0 : bw_J) (g : Nat) (L : bw_L), 8 ≤ d → bm d (S0 n0) R0 151 [.ref 130, .int (Int32.ofNat 0)] W0 (jn J0 (am_u1 K 132 (sx v (min 8 a.length) (K 132)))) g L (bR (some (.int (Int32.ofNat 1))) W0 (jn J0 K1) g L)) ∧ J' 26 3 = 1 ∧ W' 27 = m ∧ m.length ≤ 20 ∧ byl m ∧ Kd 130 27 = Int32.ofNat m.length ∧ eqL m (Kd 150) 0 ∧ rIn 26 29 0 W' J' Kd ∧ rHold 7 35 0 W' J' Kd ∧ (∃ tu' nx', rNum 7 0 J' Kd tu' nx') ∧ kHr 1 Kd K)) := by
  have hpl : (hz v (mkf (64 + ch)) 0 a).length = a.length := hz_len _ _ _ _
  have hpb : byl (hz v (mkf (64 + ch)) 0 a) := byl_hz _ _ _ _
  have hpc : ∀ K0 : bw_J, hz v ((jn J K0) 6) 0 (W 61) = hz v (mkf (64 + ch)) 0 a := fun K0 => by
    rw [ha]; exact hz_cg a 0 fun k hk => hm k (by omega)
  have hxz : xz (sx v (min 8 a.length) (K 132)) (64 + ch) a.length = ovw 0 (hz v (mkf (64 + ch)) 0 a) f := by
    rw [h132]; exact sx_ovw hab f v (64 + ch) rfl
  generalize hz v (mkf (64 + ch)) 0 a = p at hpl hpb hpc hxz
  obtain ⟨s, hs2, hs⟩ := byl_n hpb 1
  obtain ⟨f0, hf2, hf0⟩ := byl_n hpb 0
  obtain ⟨n1, n2, n3, n4, n5, n6⟩ := hN
  have hmx : ∀ J0 : bw_J, xz ((jn J0 (am_u1 K 132 (sx v (min 8 a.length) (K 132)))) 132) (64 + ch) p.length = ovw 0 p f := fun J0 => by
    rw [jn_ge (by decide), u1_at, hpl]; exact hxz
  have k2f : ∀ q, (am_u1 K 132 (sx v (min 8 a.length) (K 132))) 130 q = K 130 q := fun q => rfl
  have j132 : ∀ J0 : bw_J, am_u1 (jn J0 (am_u1 K 132 (sx v (min 8 a.length) (K 132)))) 132 (ovw 0 p f) = jn J0 (am_u1 K 132 (ovw 0 p f)) := fun J0 => by
    rw [jn_u1r (by decide), u1_u1]
  cases hg : de_ok p s with
  | false =>
    refine ⟨0, am_u1 W 33 p, am_u2 J 26 3 0, by decide, fun d K0 g L hd => ?_, fun c c1 c2 c3 => u1_ne _ _ c1, fun c c1 c2 => u2_a _ _ c2, fun q _ _ _ => by rw [u2_a _ _ (by decide)], Or.inl ⟨am_u1 K 132 (ovw 0 p f), fun d W0 J0 g L hd => ?_, u2_at _ _ _ _, ?_, ?_, ⟨tu, nx, ?_⟩, kHr_132 _ _ _⟩⟩
    · have := de_hear0_c (n0 := n0) (W := W) (J := jn J K0) (g := g) (L := L) (v := v) (p := p) (s := s) hd (hpc K0).symm (by rw [ha]; exact ha5) hs hs2 hg
      rw [jn_u2l (by decide)] at this
      exact this
    · have := mo_hear0 (n0 := n0) (W := W0) (J := jn J0 (am_u1 K 132 (sx v (min 8 a.length) (K 132)))) (g := g) (L := L) (dv := 0) (p := p) (s := s) (f := f0) (ch := ch) (f0 := f) hd (by decide) (by omega) (by omega) hpb hc hc2 (by rw [hpl]; exact h8) (hmx J0) hs hs2 hg
      rw [j132] at this
      exact this
    · exact rIn_fr hI (by rw [u2_k _ _ (by decide)]) (by rw [u1_ne _ _ (by decide)]) (kHr_132 _ _ _ : kHr 0 _ _).1
    · exact rHold_fr hH rfl rfl (by rw [u1_ne _ _ (by decide)]) (kHr_132 _ _ _ : kHr 0 _ _).1
    · exact ⟨n1, n2, n3, n4, n5, n6⟩
  | true =>
    obtain ⟨hs7, hs5, -⟩ : s ≤ 7 ∧ s + 5 = p.length ∧ _ := of_decide_eq_true hg
    -- turn
    have st : ∃ (J0 KJ0 : bw_J) (tu' : Nat), (J0 = if f0 / 4 % 2 = tu then am_u2 J 26 3 0 else am_u2 (am_u2 (am_u2 J 26 3 0) 7 7 (Int32.ofNat (1 - tu))) 7 6 0) ∧ (KJ0 = if f0 / 4 % 2 = tu then am_u1 K 132 (ovw 0 p f) else am_u2 (am_u2 (am_u1 K 132 (ovw 0 p f)) 133 0 (Int32.ofNat (1 - tu))) 136 0 (Int32.ofNat 0)) ∧ rNum 7 0 J0 KJ0 tu' nx ∧ rHold 7 35 0 (am_u1 W 33 p) J0 KJ0 ∧ (∀ c, ¬ c = 7 → ¬ c = 26 → J0 c = J c) ∧ (∀ q, ¬ q = 6 → ¬ q = 7 → J0 7 q = J 7 q) ∧ J0 26 3 = 0 ∧ J0 26 2 = J 26 2 ∧ kHr 1 KJ0 K ∧ (∀ c, ¬ c = 132 → ¬ c = 133 → ¬ c = 136 → KJ0 c = K c) ∧ KJ0 132 = ovw 0 p f := by
      by_cases ht : f0 / 4 % 2 = tu
      · refine ⟨am_u2 J 26 3 0, am_u1 K 132 (ovw 0 p f), tu, by rw [if_pos ht], by rw [if_pos ht], ⟨n1, n2, n3, n4, n5, n6⟩, ?_, fun c _ c2 => u2_a _ _ c2, fun q _ _ => by rw [u2_a _ _ (by decide)], u2_at _ _ _ _, by rw [u2_k _ _ (by decide)], kHr_132 _ _ _, fun c c1 _ _ => u1_ne _ _ c1, u1_at _ _ _⟩
        exact rHold_fr hH rfl rfl (by rw [u1_ne _ _ (by decide)]) (kHr_132 _ _ _ : kHr 0 _ _).1
      · refine ⟨am_u2 (am_u2 (am_u2 J 26 3 0) 7 7 (Int32.ofNat (1 - tu))) 7 6 0, am_u2 (am_u2 (am_u1 K 132 (ovw 0 p f)) 133 0 (Int32.ofNat (1 - tu))) 136 0 (Int32.ofNat 0), 1 - tu, by rw [if_neg ht], by rw [if_neg ht], ⟨?_, ?_, by omega, ?_, ?_, n6⟩, Or.inl ⟨u2_at _ _ _ _, u2_at _ _ _ _⟩, fun c c1 c2 => ?_, fun q q1 q2 => ?_, ?_, ?_, ?_, fun c c1 c2 c3 => ?_, ?_⟩
        · rw [u2_k _ _ (by decide), u2_at]
        · rw [u2_a _ _ (by decide), u2_at]
        · rw [u2_k _ _ (by decide), u2_k _ _ (by decide), u2_a _ _ (by decide)]; exact n4
        · rw [u2_a _ _ (by decide), u2_a _ _ (by decide), u1_ne _ _ (by decide)]; exact n5
        · rw [u2_a _ _ c1, u2_a _ _ c1, u2_a _ _ c2]
        · rw [u2_k _ _ q1, u2_k _ _ q2, u2_a _ _ (by decide)]
        · rw [u2_a _ _ (by decide), u2_a _ _ (by decide), u2_at]
        · rw [u2_a _ _ (by decide), u2_a _ _ (by decide), u2_k _ _ (by decide)]
        · exact kHr_tr (kHr_2 (by decide) (by decide)) (kHr_tr (kHr_2 (by decide) (by decide)) (kHr_132 _ _ _))
        · rw [u2_a _ _ c3, u2_a _ _ c2, u1_ne _ _ c1]
        · rw [u2_a _ _ (by decide), u2_a _ _ (by decide), u1_at]
    obtain ⟨J0, KJ0, tu', hJ0, hKJ0, t1, t2, t3, t4, t5, t6, t7, t8, t9⟩ := st
    obtain ⟨u1, u2, u3, u4, u5, u6⟩ := t1
    have hW1 : (am_u1 W 33 p) 33 = p := u1_at _ _ _
    -- the class, once accept is known
    have cls : ∀ (W' : bw_W) (J' : bw_J), (f0 / 8 % 2 = nx → 0 < s → ∀ (K0 : bw_J) (g : Nat) (L : bw_L) e, 3 ≤ e → bm e (S0 n0) R0 74 [.ref 26, .int (Int32.ofNat (f0 % 4)), .ref 33] (am_u1 W 33 p) (jn (am_u2 J0 7 8 (Int32.ofNat (1 - nx))) K0) g L (bR none W' (jn J' K0) g L)) → (f0 / 8 % 2 = nx → s = 0 → W' = am_u1 W 33 p ∧ J' = am_u2 J0 7 8 (Int32.ofNat (1 - nx))) → (¬ f0 / 8 % 2 = nx → W' = am_u1 W 33 p ∧ J' = J0) → ∀ (d : Nat) (K0 : bw_J) (g : Nat) (L : bw_L), 5 ≤ d → bm d (S0 n0) R0 69 [.ref 7, .ref 61, .long v, .ref 5] W (jn J K0) g L (bR (some (.int (Int32.ofNat 1))) W' (jn J' K0) g L) := by
      intro W' J' a1 a2 a3 d K0 g L hd
      refine de_hear1_c (n0 := n0) (W := W) (J := jn J K0) (g := g) (L := L) (v := v) (p := p) (s := s) hd (hpc K0).symm (by rw [ha]; exact ha5) hs hs2 hg (fun e he => ?_)
      rw [jn_u2l (by decide)]
      refine de_accept_c (n0 := n0) (W := am_u1 W 33 p) (J := jn (am_u2 J 26 3 0) K0) (g := g) (L := L) (J0 := jn J0 K0) he hW1 hf0 hs hs2 hf2 (nx := nx) (tu := tu) ?_ n6 ?_ n3 ?_ (fun z1 z2 e2 he2 => ?_) (fun z1 z2 => ?_) (fun z1 => ?_)
      · exact n4
      · exact n1
      · rw [hJ0]
        by_cases ht : f0 / 4 % 2 = tu
        · rw [if_pos ht, if_pos ht]
        · rw [if_neg ht, if_neg ht, jn_u2l (by decide), jn_u2l (by decide)]
      · have := a1 z1 z2 K0 g L e2 he2
        rw [← jn_u2l (by decide)] at this
        exact this
      · obtain ⟨b1, b2⟩ := a2 z1 z2
        exact ⟨b1, by rw [b2, jn_u2l (by decide)]⟩
      · obtain ⟨b1, b2⟩ := a3 z1
        exact ⟨b1, by rw [b2]⟩
    -- the reference, once collect is known
    have mod : ∀ (K1 : bw_J), (f0 / 8 % 2 = nx → 0 < s → ∀ (e : Nat) (W0 : bw_W) (J9 : bw_J) (g : Nat) (L : bw_L), 7 ≤ e → bm e (S0 n0) R0 152 [.ref 130, .int (Int32.ofNat 0), .int (Int32.ofNat (f0 % 4))] W0 (jn J9 (am_u2 KJ0 134 0 (Int32.ofNat (1 - nx)))) g L (bR none W0 (jn J9 K1) g L)) → (f0 / 8 % 2 = nx → s = 0 → K1 = am_u2 KJ0 134 0 (Int32.ofNat (1 - nx))) → (¬ f0 / 8 % 2 = nx → K1 = KJ0) → ∀ (d : Nat) (W0 : bw_W) (J9 : bw_J) (g : Nat) (L : bw_L), 8 ≤ d → bm d (S0 n0) R0 151 [.ref 130, .int (Int32.ofNat 0)] W0 (jn J9 (am_u1 K 132 (sx v (min 8 a.length) (K 132)))) g L (bR (some (.int (Int32.ofNat 1))) W0 (jn J9 K1) g L) := by
      intro K1 a1 a2 a3 d W0 J9 g L hd
      refine mo_hear1 (n0 := n0) (W := W0) (J := jn J9 (am_u1 K 132 (sx v (min 8 a.length) (K 132)))) (g := g) (L := L) (dv := 0) (p := p) (s := s) (f := f0) (ch := ch) (f0 := f) (nx := nx) (tu := tu) (J0 := jn J9 KJ0) hd (by decide) (by omega) (by omega) hpb hc hc2 (by rw [hpl]; exact h8) (hmx J9) hs hs2 hg hf0 hf2 n5 n6 n2 n3 ?_ (fun z1 z2 e he => ?_) (fun z1 z2 => ?_) (fun z1 => ?_)
      · rw [hKJ0, j132]
        by_cases ht : f0 / 4 % 2 = tu
        · rw [if_pos ht, if_pos ht]
        · rw [if_neg ht, if_neg ht, jn_u2r (by decide), jn_u2r (by decide)]
      · have := a1 z1 z2 e W0 J9 g L he
        rw [← jn_u2r (by decide)] at this
        exact this
      · rw [a2 z1 z2, jn_u2r (by decide)]
      · rw [a3 z1]
    have hI0 : rIn 26 29 0 (am_u1 W 33 p) J0 KJ0 := by
      unfold rIn at hI ⊢
      rw [t6, u1_ne _ _ (by decide), t8 145 (by decide) (by decide) (by decide), t8 146 (by decide) (by decide) (by decide), t8 147 (by decide) (by decide) (by decide)]
      exact hI
    by_cases hnx : f0 / 8 % 2 = nx
    · have h8' : kHr 1 (am_u2 KJ0 134 0 (Int32.ofNat (1 - nx))) KJ0 := kHr_2 (by decide) (by decide)
      have hN1 : rNum 7 0 (am_u2 J0 7 8 (Int32.ofNat (1 - nx))) (am_u2 KJ0 134 0 (Int32.ofNat (1 - nx))) tu' (1 - nx) := ⟨by rw [u2_k _ _ (by decide)]; exact u1, by rw [u2_a _ _ (by decide)]; exact u2, u3, u2_at _ _ _ _, u2_at _ _ _ _, by omega⟩
      have hH1 : rHold 7 35 0 (am_u1 W 33 p) (am_u2 J0 7 8 (Int32.ofNat (1 - nx))) (am_u2 KJ0 134 0 (Int32.ofNat (1 - nx))) := t2
      have hI1 : rIn 26 29 0 (am_u1 W 33 p) (am_u2 J0 7 8 (Int32.ofNat (1 - nx))) (am_u2 KJ0 134 0 (Int32.ofNat (1 - nx))) := hI0
      have jf : ∀ c, ¬ c = 7 → ¬ c = 26 → (am_u2 J0 7 8 (Int32.ofNat (1 - nx))) c = J c := fun c c1 c2 => by rw [u2_a _ _ c1]; exact t3 c c1 c2
      have jd : ∀ q, ¬ q = 6 → ¬ q = 7 → ¬ q = 8 → (am_u2 J0 7 8 (Int32.ofNat (1 - nx))) 7 q = J 7 q := fun q q1 q2 q3 => by rw [u2_k _ _ q3]; exact t4 q q1 q2
      by_cases hs0 : s = 0
      · refine ⟨1, am_u1 W 33 p, am_u2 J0 7 8 (Int32.ofNat (1 - nx)), by decide, cls _ _ (fun _ z => absurd z (by omega)) (fun _ _ => ⟨rfl, rfl⟩) (fun z => absurd hnx z), fun c c1 _ _ => u1_ne _ _ c1, jf, jd, Or.inl ⟨am_u2 KJ0 134 0 (Int32.ofNat (1 - nx)), mod _ (fun _ z => absurd z (by omega)) (fun _ _ => rfl) (fun z => absurd hnx z), ?_, hI1, hH1, ⟨_, _, hN1⟩, kHr_tr h8' t7⟩⟩
        rw [u2_a _ _ (by decide)]; exact t5
      · obtain ⟨W', J', c1, c2, c3, c4⟩ := col_c (n0 := n0) (W := am_u1 W 33 p) (J := am_u2 J0 7 8 (Int32.ofNat (1 - nx))) (K := am_u2 KJ0 134 0 (Int32.ofNat (1 - nx))) (kd := f0 % 4) (s := s) (p := p) hI1 hW1 (by omega) hs (by omega) hs7 hs5 hpb (fun k hk => by rw [u2_a _ _ (by decide), t9, ovw_0 hk]) (by rw [u2_a _ _ (by decide)]; exact t5)
        have hcl := cls W' J' (fun _ _ K0 g L e he => c1 e K0 g L he) (fun _ z => absurd z hs0) (fun z => absurd hnx z)
        have hWf : ∀ c, ¬ c = 33 → ¬ c = 29 → ¬ c = 27 → W' c = W c := fun c d1 d2 d3 => by rw [c2 c d2 d3, u1_ne _ _ d1]
        have hJf : ∀ c, ¬ c = 7 → ¬ c = 26 → J' c = J c := fun c d1 d2 => by rw [c3 c d2]; exact jf c d1 d2
        have hJd : ∀ q, ¬ q = 6 → ¬ q = 7 → ¬ q = 8 → J' 7 q = J 7 q := fun q d1 d2 d3 => by rw [c3 7 (by decide)]; exact jd q d1 d2 d3
        rcases c4 with ⟨K', m1, m2, m3, m4, m5⟩ | ⟨Kd, m, m1, m2, m3, m4, m5, m6, m7, m8, m9, m10, m11⟩
        · have hk : kHr 1 K' (am_u2 KJ0 134 0 (Int32.ofNat (1 - nx))) := ⟨m4, fun c a1 a2 a3 a4 a5 a6 a7 a8 a9 => m5 c (by omega), fun q _ => by rw [m5 130 (by decide)]⟩
          refine ⟨1, W', J', by decide, hcl, hWf, hJf, hJd, Or.inl ⟨K', mod K' (fun _ _ e W0 J9 g L he => m1 e W0 J9 g L he) (fun _ z => absurd z hs0) (fun z => absurd hnx z), m2, m3, ?_, ⟨tu', 1 - nx, ?_⟩, kHr_tr hk (kHr_tr h8' t7)⟩⟩
          · unfold rHold at hH1 ⊢
            rw [c3 7 (by decide), c2 35 (by decide) (by decide), m5 136 (by decide), m5 137 (by decide), m5 138 (by decide), m5 139 (by decide)]
            exact hH1
          · unfold rNum at hN1 ⊢
            rw [c3 7 (by decide), m5 133 (by decide), m5 134 (by decide)]
            exact hN1
        · have hk : kHr 1 Kd (am_u2 KJ0 134 0 (Int32.ofNat (1 - nx))) := ⟨m9, fun c a1 a2 a3 a4 a5 a6 a7 a8 a9 => m10 c a1 a9 (by omega), m11⟩
          refine ⟨1, W', J', by decide, hcl, hWf, hJf, hJd, Or.inr ⟨rfl, Kd, m, fun K1 hH9 => mod K1 (fun _ _ e W0 J9 g L he => m1 K1 hH9 e W0 J9 g L he) (fun _ z => absurd z hs0) (fun z => absurd hnx z), m2, m3, m4, m5, m6, m7, m8, ?_, ⟨tu', 1 - nx, ?_⟩, kHr_tr hk (kHr_tr h8' t7)⟩⟩
          · unfold rHold at hH1 ⊢
            rw [c3 7 (by decide), c2 35 (by decide) (by decide), m10 136 (by decide) (by decide) (by decide), m10 137 (by decide) (by decide) (by decide), m10 138 (by decide) (by decide) (by decide), m10 139 (by decide) (by decide) (by decide)]
            exact hH1
          · unfold rNum at hN1 ⊢
            rw [c3 7 (by decide), m10 133 (by decide) (by decide) (by decide), m10 134 (by decide) (by decide) (by decide)]
            exact hN1
    · exact ⟨1, am_u1 W 33 p, J0, by decide, cls _ _ (fun z => absurd z hnx) (fun z => absurd z hnx) (fun _ => ⟨rfl, rfl⟩), fun c c1 _ _ => u1_ne _ _ c1, t3, fun q q1 q2 _ => t4 q q1 q2, Or.inl ⟨KJ0, mod _ (fun z => absurd z hnx) (fun z => absurd z hnx) (fun _ => rfl), t5, hI0, t2, ⟨tu', nx, u1, u2, u3, u4, u5, u6⟩, t7⟩⟩
end HEc
section HEs
variable {n0 : Nat} {W : bw_W} {J K : bw_J}
theorem hear_s {tu nx ch : Nat} {v : Int64} {a : List Int32} {f : Nat → Int32} (hI : rIn 56 59 1 W J K) (hH : rHold 37 65 1 W J K) (hN : rNum 37 1 J K tu nx) (ha : W 31 = a) (ha5 : 5 ≤ a.length) (ha12 : a.length ≤ 12) (hab : byl a) (h8 : K 130 8 = Int32.ofNat a.length) (h132 : K 132 = ovw 0 a f) (hm : ∀ k, k < 12 → J 6 k = mkf (64 + ch) k) (hc : K 130 5 = Int32.ofNat ch) (hc2 : ch < 64) : ∃ (b : Nat) (W' : bw_W) (J' : bw_J), b ≤ 1 ∧
    (∀ (d : Nat) (K0 : bw_J) (g : Nat) (L : bw_L), 5 ≤ d → bm d (S0 n0) R0 69 [.ref 37, .ref 31, .long v, .ref 5] W (jn J K0) g L (bR (some (.int (Int32.ofNat b))) W' (jn J' K0) g L)) ∧
    (∀ c, ¬ c = 63 → ¬ c = 59 → ¬ c = 57 → W' c = W c) ∧ (∀ c, ¬ c = 37 → ¬ c = 56 → J' c = J c) ∧ (∀ q, ¬ q = 6 → ¬ q = 7 → ¬ q = 8 → J' 37 q = J 37 q) ∧
    ((∃ K', (∀ (d : Nat) (W0 : bw_W) (J0 : bw_J) (g : Nat) (L : bw_L), 8 ≤ d → bm d (S0 n0) R0 151 [.ref 130, .int (Int32.ofNat 1)] W0 (jn J0 (am_u1 K 132 (sx v (min 8 a.length) (K 132)))) g L (bR (some (.int (Int32.ofNat b))) W0 (jn J0 K') g L)) ∧ J' 56 3 = 0 ∧ rIn 56 59 1 W' J' K' ∧ rHold 37 65 1 W' J' K' ∧ (∃ tu' nx', rNum 37 1 J' K' tu' nx') ∧ kHr 0 K' K) ∨
    (b = 1 ∧ ∃ Kd m, (∀ K1, (∀ (e : Nat) (W0 : bw_W) (J0 : bw_J) (g : Nat) (L : bw_L), 5 ≤ e → bm e (S0 n0) R0 160 [.ref 130] W0 (jn J0 Kd) g L (bR none W0 (jn J0 K1) g L)) → ∀ (d : Nat) (W0 : bw_W) (J0 : bw_J) (g : Nat) (L : bw_L), 8 ≤ d → bm d (S0 n0) R0 151 [.ref 130, .int (Int32.ofNat 1)] W0 (jn J0 (am_u1 K 132 (sx v (min 8 a.length) (K 132)))) g L (bR (some (.int (Int32.ofNat 1))) W0 (jn J0 K1) g L)) ∧ J' 56 3 = 1 ∧ W' 57 = m ∧ m.length ≤ 20 ∧ byl m ∧ Kd 130 27 = Int32.ofNat m.length ∧ eqL m (Kd 150) 0 ∧ rIn 56 59 1 W' J' Kd ∧ rHold 37 65 1 W' J' Kd ∧ (∃ tu' nx', rNum 37 1 J' Kd tu' nx') ∧ kHr 0 Kd K)) := by
  have hpl : (hz v (mkf (64 + ch)) 0 a).length = a.length := hz_len _ _ _ _
  have hpb : byl (hz v (mkf (64 + ch)) 0 a) := byl_hz _ _ _ _
  have hpc : ∀ K0 : bw_J, hz v ((jn J K0) 6) 0 (W 31) = hz v (mkf (64 + ch)) 0 a := fun K0 => by
    rw [ha]; exact hz_cg a 0 fun k hk => hm k (by omega)
  have hxz : xz (sx v (min 8 a.length) (K 132)) (64 + ch) a.length = ovw 0 (hz v (mkf (64 + ch)) 0 a) f := by
    rw [h132]; exact sx_ovw hab f v (64 + ch) rfl
  generalize hz v (mkf (64 + ch)) 0 a = p at hpl hpb hpc hxz
  obtain ⟨s, hs2, hs⟩ := byl_n hpb 1
  obtain ⟨f0, hf2, hf0⟩ := byl_n hpb 0
  obtain ⟨n1, n2, n3, n4, n5, n6⟩ := hN
  have hmx : ∀ J0 : bw_J, xz ((jn J0 (am_u1 K 132 (sx v (min 8 a.length) (K 132)))) 132) (64 + ch) p.length = ovw 0 p f := fun J0 => by
    rw [jn_ge (by decide), u1_at, hpl]; exact hxz
  have k2f : ∀ q, (am_u1 K 132 (sx v (min 8 a.length) (K 132))) 130 q = K 130 q := fun q => rfl
  have j132 : ∀ J0 : bw_J, am_u1 (jn J0 (am_u1 K 132 (sx v (min 8 a.length) (K 132)))) 132 (ovw 0 p f) = jn J0 (am_u1 K 132 (ovw 0 p f)) := fun J0 => by
    rw [jn_u1r (by decide), u1_u1]
  cases hg : de_ok p s with
  | false =>
    refine ⟨0, am_u1 W 63 p, am_u2 J 56 3 0, by decide, fun d K0 g L hd => ?_, fun c c1 c2 c3 => u1_ne _ _ c1, fun c c1 c2 => u2_a _ _ c2, fun q _ _ _ => by rw [u2_a _ _ (by decide)], Or.inl ⟨am_u1 K 132 (ovw 0 p f), fun d W0 J0 g L hd => ?_, u2_at _ _ _ _, ?_, ?_, ⟨tu, nx, ?_⟩, kHr_132 _ _ _⟩⟩
    · have := de_hear0_s (n0 := n0) (W := W) (J := jn J K0) (g := g) (L := L) (v := v) (p := p) (s := s) hd (hpc K0).symm (by rw [ha]; exact ha5) hs hs2 hg
      rw [jn_u2l (by decide)] at this
      exact this
    · have := mo_hear0 (n0 := n0) (W := W0) (J := jn J0 (am_u1 K 132 (sx v (min 8 a.length) (K 132)))) (g := g) (L := L) (dv := 1) (p := p) (s := s) (f := f0) (ch := ch) (f0 := f) hd (by decide) (by omega) (by omega) hpb hc hc2 (by rw [hpl]; exact h8) (hmx J0) hs hs2 hg
      rw [j132] at this
      exact this
    · exact rIn_fr hI (by rw [u2_k _ _ (by decide)]) (by rw [u1_ne _ _ (by decide)]) (kHr_132 _ _ _ : kHr 1 _ _).1
    · exact rHold_fr hH rfl rfl (by rw [u1_ne _ _ (by decide)]) (kHr_132 _ _ _ : kHr 1 _ _).1
    · exact ⟨n1, n2, n3, n4, n5, n6⟩
  | true =>
    obtain ⟨hs7, hs5, -⟩ : s ≤ 7 ∧ s + 5 = p.length ∧ _ := of_decide_eq_true hg
    -- turn
    have st : ∃ (J0 KJ0 : bw_J) (tu' : Nat), (J0 = if f0 / 4 % 2 = tu then am_u2 J 56 3 0 else am_u2 (am_u2 (am_u2 J 56 3 0) 37 7 (Int32.ofNat (1 - tu))) 37 6 0) ∧ (KJ0 = if f0 / 4 % 2 = tu then am_u1 K 132 (ovw 0 p f) else am_u2 (am_u2 (am_u1 K 132 (ovw 0 p f)) 133 1 (Int32.ofNat (1 - tu))) 136 1 (Int32.ofNat 0)) ∧ rNum 37 1 J0 KJ0 tu' nx ∧ rHold 37 65 1 (am_u1 W 63 p) J0 KJ0 ∧ (∀ c, ¬ c = 37 → ¬ c = 56 → J0 c = J c) ∧ (∀ q, ¬ q = 6 → ¬ q = 7 → J0 37 q = J 37 q) ∧ J0 56 3 = 0 ∧ J0 56 2 = J 56 2 ∧ kHr 0 KJ0 K ∧ (∀ c, ¬ c = 132 → ¬ c = 133 → ¬ c = 136 → KJ0 c = K c) ∧ KJ0 132 = ovw 0 p f := by
      by_cases ht : f0 / 4 % 2 = tu
      · refine ⟨am_u2 J 56 3 0, am_u1 K 132 (ovw 0 p f), tu, by rw [if_pos ht], by rw [if_pos ht], ⟨n1, n2, n3, n4, n5, n6⟩, ?_, fun c _ c2 => u2_a _ _ c2, fun q _ _ => by rw [u2_a _ _ (by decide)], u2_at _ _ _ _, by rw [u2_k _ _ (by decide)], kHr_132 _ _ _, fun c c1 _ _ => u1_ne _ _ c1, u1_at _ _ _⟩
        exact rHold_fr hH rfl rfl (by rw [u1_ne _ _ (by decide)]) (kHr_132 _ _ _ : kHr 1 _ _).1
      · refine ⟨am_u2 (am_u2 (am_u2 J 56 3 0) 37 7 (Int32.ofNat (1 - tu))) 37 6 0, am_u2 (am_u2 (am_u1 K 132 (ovw 0 p f)) 133 1 (Int32.ofNat (1 - tu))) 136 1 (Int32.ofNat 0), 1 - tu, by rw [if_neg ht], by rw [if_neg ht], ⟨?_, ?_, by omega, ?_, ?_, n6⟩, Or.inl ⟨u2_at _ _ _ _, u2_at _ _ _ _⟩, fun c c1 c2 => ?_, fun q q1 q2 => ?_, ?_, ?_, ?_, fun c c1 c2 c3 => ?_, ?_⟩
        · rw [u2_k _ _ (by decide), u2_at]
        · rw [u2_a _ _ (by decide), u2_at]
        · rw [u2_k _ _ (by decide), u2_k _ _ (by decide), u2_a _ _ (by decide)]; exact n4
        · rw [u2_a _ _ (by decide), u2_a _ _ (by decide), u1_ne _ _ (by decide)]; exact n5
        · rw [u2_a _ _ c1, u2_a _ _ c1, u2_a _ _ c2]
        · rw [u2_k _ _ q1, u2_k _ _ q2, u2_a _ _ (by decide)]
        · rw [u2_a _ _ (by decide), u2_a _ _ (by decide), u2_at]
        · rw [u2_a _ _ (by decide), u2_a _ _ (by decide), u2_k _ _ (by decide)]
        · exact kHr_tr (kHr_2 (by decide) (by decide)) (kHr_tr (kHr_2 (by decide) (by decide)) (kHr_132 _ _ _))
        · rw [u2_a _ _ c3, u2_a _ _ c2, u1_ne _ _ c1]
        · rw [u2_a _ _ (by decide), u2_a _ _ (by decide), u1_at]
    obtain ⟨J0, KJ0, tu', hJ0, hKJ0, t1, t2, t3, t4, t5, t6, t7, t8, t9⟩ := st
    obtain ⟨u1, u2, u3, u4, u5, u6⟩ := t1
    have hW1 : (am_u1 W 63 p) 63 = p := u1_at _ _ _
    -- the class, once accept is known
    have cls : ∀ (W' : bw_W) (J' : bw_J), (f0 / 8 % 2 = nx → 0 < s → ∀ (K0 : bw_J) (g : Nat) (L : bw_L) e, 3 ≤ e → bm e (S0 n0) R0 74 [.ref 56, .int (Int32.ofNat (f0 % 4)), .ref 63] (am_u1 W 63 p) (jn (am_u2 J0 37 8 (Int32.ofNat (1 - nx))) K0) g L (bR none W' (jn J' K0) g L)) → (f0 / 8 % 2 = nx → s = 0 → W' = am_u1 W 63 p ∧ J' = am_u2 J0 37 8 (Int32.ofNat (1 - nx))) → (¬ f0 / 8 % 2 = nx → W' = am_u1 W 63 p ∧ J' = J0) → ∀ (d : Nat) (K0 : bw_J) (g : Nat) (L : bw_L), 5 ≤ d → bm d (S0 n0) R0 69 [.ref 37, .ref 31, .long v, .ref 5] W (jn J K0) g L (bR (some (.int (Int32.ofNat 1))) W' (jn J' K0) g L) := by
      intro W' J' a1 a2 a3 d K0 g L hd
      refine de_hear1_s (n0 := n0) (W := W) (J := jn J K0) (g := g) (L := L) (v := v) (p := p) (s := s) hd (hpc K0).symm (by rw [ha]; exact ha5) hs hs2 hg (fun e he => ?_)
      rw [jn_u2l (by decide)]
      refine de_accept_s (n0 := n0) (W := am_u1 W 63 p) (J := jn (am_u2 J 56 3 0) K0) (g := g) (L := L) (J0 := jn J0 K0) he hW1 hf0 hs hs2 hf2 (nx := nx) (tu := tu) ?_ n6 ?_ n3 ?_ (fun z1 z2 e2 he2 => ?_) (fun z1 z2 => ?_) (fun z1 => ?_)
      · exact n4
      · exact n1
      · rw [hJ0]
        by_cases ht : f0 / 4 % 2 = tu
        · rw [if_pos ht, if_pos ht]
        · rw [if_neg ht, if_neg ht, jn_u2l (by decide), jn_u2l (by decide)]
      · have := a1 z1 z2 K0 g L e2 he2
        rw [← jn_u2l (by decide)] at this
        exact this
      · obtain ⟨b1, b2⟩ := a2 z1 z2
        exact ⟨b1, by rw [b2, jn_u2l (by decide)]⟩
      · obtain ⟨b1, b2⟩ := a3 z1
        exact ⟨b1, by rw [b2]⟩
    -- the reference, once collect is known
    have mod : ∀ (K1 : bw_J), (f0 / 8 % 2 = nx → 0 < s → ∀ (e : Nat) (W0 : bw_W) (J9 : bw_J) (g : Nat) (L : bw_L), 7 ≤ e → bm e (S0 n0) R0 152 [.ref 130, .int (Int32.ofNat 1), .int (Int32.ofNat (f0 % 4))] W0 (jn J9 (am_u2 KJ0 134 1 (Int32.ofNat (1 - nx)))) g L (bR none W0 (jn J9 K1) g L)) → (f0 / 8 % 2 = nx → s = 0 → K1 = am_u2 KJ0 134 1 (Int32.ofNat (1 - nx))) → (¬ f0 / 8 % 2 = nx → K1 = KJ0) → ∀ (d : Nat) (W0 : bw_W) (J9 : bw_J) (g : Nat) (L : bw_L), 8 ≤ d → bm d (S0 n0) R0 151 [.ref 130, .int (Int32.ofNat 1)] W0 (jn J9 (am_u1 K 132 (sx v (min 8 a.length) (K 132)))) g L (bR (some (.int (Int32.ofNat 1))) W0 (jn J9 K1) g L) := by
      intro K1 a1 a2 a3 d W0 J9 g L hd
      refine mo_hear1 (n0 := n0) (W := W0) (J := jn J9 (am_u1 K 132 (sx v (min 8 a.length) (K 132)))) (g := g) (L := L) (dv := 1) (p := p) (s := s) (f := f0) (ch := ch) (f0 := f) (nx := nx) (tu := tu) (J0 := jn J9 KJ0) hd (by decide) (by omega) (by omega) hpb hc hc2 (by rw [hpl]; exact h8) (hmx J9) hs hs2 hg hf0 hf2 n5 n6 n2 n3 ?_ (fun z1 z2 e he => ?_) (fun z1 z2 => ?_) (fun z1 => ?_)
      · rw [hKJ0, j132]
        by_cases ht : f0 / 4 % 2 = tu
        · rw [if_pos ht, if_pos ht]
        · rw [if_neg ht, if_neg ht, jn_u2r (by decide), jn_u2r (by decide)]
      · have := a1 z1 z2 e W0 J9 g L he
        rw [← jn_u2r (by decide)] at this
        exact this
      · rw [a2 z1 z2, jn_u2r (by decide)]
      · rw [a3 z1]
    have hI0 : rIn 56 59 1 (am_u1 W 63 p) J0 KJ0 := by
      unfold rIn at hI ⊢
      rw [t6, u1_ne _ _ (by decide), t8 145 (by decide) (by decide) (by decide), t8 146 (by decide) (by decide) (by decide), t8 147 (by decide) (by decide) (by decide)]
      exact hI
    by_cases hnx : f0 / 8 % 2 = nx
    · have h8' : kHr 0 (am_u2 KJ0 134 1 (Int32.ofNat (1 - nx))) KJ0 := kHr_2 (by decide) (by decide)
      have hN1 : rNum 37 1 (am_u2 J0 37 8 (Int32.ofNat (1 - nx))) (am_u2 KJ0 134 1 (Int32.ofNat (1 - nx))) tu' (1 - nx) := ⟨by rw [u2_k _ _ (by decide)]; exact u1, by rw [u2_a _ _ (by decide)]; exact u2, u3, u2_at _ _ _ _, u2_at _ _ _ _, by omega⟩
      have hH1 : rHold 37 65 1 (am_u1 W 63 p) (am_u2 J0 37 8 (Int32.ofNat (1 - nx))) (am_u2 KJ0 134 1 (Int32.ofNat (1 - nx))) := t2
      have hI1 : rIn 56 59 1 (am_u1 W 63 p) (am_u2 J0 37 8 (Int32.ofNat (1 - nx))) (am_u2 KJ0 134 1 (Int32.ofNat (1 - nx))) := hI0
      have jf : ∀ c, ¬ c = 37 → ¬ c = 56 → (am_u2 J0 37 8 (Int32.ofNat (1 - nx))) c = J c := fun c c1 c2 => by rw [u2_a _ _ c1]; exact t3 c c1 c2
      have jd : ∀ q, ¬ q = 6 → ¬ q = 7 → ¬ q = 8 → (am_u2 J0 37 8 (Int32.ofNat (1 - nx))) 37 q = J 37 q := fun q q1 q2 q3 => by rw [u2_k _ _ q3]; exact t4 q q1 q2
      by_cases hs0 : s = 0
      · refine ⟨1, am_u1 W 63 p, am_u2 J0 37 8 (Int32.ofNat (1 - nx)), by decide, cls _ _ (fun _ z => absurd z (by omega)) (fun _ _ => ⟨rfl, rfl⟩) (fun z => absurd hnx z), fun c c1 _ _ => u1_ne _ _ c1, jf, jd, Or.inl ⟨am_u2 KJ0 134 1 (Int32.ofNat (1 - nx)), mod _ (fun _ z => absurd z (by omega)) (fun _ _ => rfl) (fun z => absurd hnx z), ?_, hI1, hH1, ⟨_, _, hN1⟩, kHr_tr h8' t7⟩⟩
        rw [u2_a _ _ (by decide)]; exact t5
      · obtain ⟨W', J', c1, c2, c3, c4⟩ := col_s (n0 := n0) (W := am_u1 W 63 p) (J := am_u2 J0 37 8 (Int32.ofNat (1 - nx))) (K := am_u2 KJ0 134 1 (Int32.ofNat (1 - nx))) (kd := f0 % 4) (s := s) (p := p) hI1 hW1 (by omega) hs (by omega) hs7 hs5 hpb (fun k hk => by rw [u2_a _ _ (by decide), t9, ovw_0 hk]) (by rw [u2_a _ _ (by decide)]; exact t5)
        have hcl := cls W' J' (fun _ _ K0 g L e he => c1 e K0 g L he) (fun _ z => absurd z hs0) (fun z => absurd hnx z)
        have hWf : ∀ c, ¬ c = 63 → ¬ c = 59 → ¬ c = 57 → W' c = W c := fun c d1 d2 d3 => by rw [c2 c d2 d3, u1_ne _ _ d1]
        have hJf : ∀ c, ¬ c = 37 → ¬ c = 56 → J' c = J c := fun c d1 d2 => by rw [c3 c d2]; exact jf c d1 d2
        have hJd : ∀ q, ¬ q = 6 → ¬ q = 7 → ¬ q = 8 → J' 37 q = J 37 q := fun q d1 d2 d3 => by rw [c3 37 (by decide)]; exact jd q d1 d2 d3
        rcases c4 with ⟨K', m1, m2, m3, m4, m5⟩ | ⟨Kd, m, m1, m2, m3, m4, m5, m6, m7, m8, m9, m10, m11⟩
        · have hk : kHr 0 K' (am_u2 KJ0 134 1 (Int32.ofNat (1 - nx))) := ⟨m4, fun c a1 a2 a3 a4 a5 a6 a7 a8 a9 => m5 c (by omega), fun q _ => by rw [m5 130 (by decide)]⟩
          refine ⟨1, W', J', by decide, hcl, hWf, hJf, hJd, Or.inl ⟨K', mod K' (fun _ _ e W0 J9 g L he => m1 e W0 J9 g L he) (fun _ z => absurd z hs0) (fun z => absurd hnx z), m2, m3, ?_, ⟨tu', 1 - nx, ?_⟩, kHr_tr hk (kHr_tr h8' t7)⟩⟩
          · unfold rHold at hH1 ⊢
            rw [c3 37 (by decide), c2 65 (by decide) (by decide), m5 136 (by decide), m5 137 (by decide), m5 138 (by decide), m5 139 (by decide)]
            exact hH1
          · unfold rNum at hN1 ⊢
            rw [c3 37 (by decide), m5 133 (by decide), m5 134 (by decide)]
            exact hN1
        · have hk : kHr 0 Kd (am_u2 KJ0 134 1 (Int32.ofNat (1 - nx))) := ⟨m9, fun c a1 a2 a3 a4 a5 a6 a7 a8 a9 => m10 c a1 a9 (by omega), m11⟩
          refine ⟨1, W', J', by decide, hcl, hWf, hJf, hJd, Or.inr ⟨rfl, Kd, m, fun K1 hH9 => mod K1 (fun _ _ e W0 J9 g L he => m1 K1 hH9 e W0 J9 g L he) (fun _ z => absurd z hs0) (fun z => absurd hnx z), m2, m3, m4, m5, m6, m7, m8, ?_, ⟨tu', 1 - nx, ?_⟩, kHr_tr hk (kHr_tr h8' t7)⟩⟩
          · unfold rHold at hH1 ⊢
            rw [c3 37 (by decide), c2 65 (by decide) (by decide), m10 136 (by decide) (by decide) (by decide), m10 137 (by decide) (by decide) (by decide), m10 138 (by decide) (by decide) (by decide), m10 139 (by decide) (by decide) (by decide)]
            exact hH1
          · unfold rNum at hN1 ⊢
            rw [c3 37 (by decide), m10 133 (by decide) (by decide) (by decide), m10 134 (by decide) (by decide) (by decide)]
            exact hN1
    · exact ⟨1, am_u1 W 63 p, J0, by decide, cls _ _ (fun z => absurd z hnx) (fun z => absurd z hnx) (fun _ => ⟨rfl, rfl⟩), fun c c1 _ _ => u1_ne _ _ c1, t3, fun q q1 q2 _ => t4 q q1 q2, Or.inl ⟨KJ0, mod _ (fun z => absurd z hnx) (fun z => absurd z hnx) (fun _ => rfl), t5, hI0, t2, ⟨tu', nx, u1, u2, u3, u4, u5, u6⟩, t7⟩⟩
end HEs
