/-! Part 97 (written by gen65.py): sending and hearing, all cells -/
def core (T : Nat) (W : bw_W) (J K : bw_J) : Prop := (∃ fr w ct, rOut 8 10 0 W J K fr w ct) ∧ rHold 7 35 0 W J K ∧ (∃ tu nx, rNum 7 0 J K tu nx) ∧ rAir 31 0 W K ∧ rIn 26 29 0 W J K ∧ (∃ fr w ct, rOut 38 40 1 W J K fr w ct) ∧ rHold 37 65 1 W J K ∧ (∃ tu nx, rNum 37 1 J K tu nx) ∧ rAir 61 1 W K ∧ rIn 56 59 1 W J K ∧ (∃ cn pn sl, rSrv W J K cn pn sl) ∧ ∃ nt cl, rCli W J K nt cl ∧ nt ≤ T
def keep (J' K' J K : bw_J) : Prop := J' 0 = J 0 ∧ J' 1 = J 1 ∧ J' 2 = J 2 ∧ J' 3 = J 3 ∧ J' 4 = J 4 ∧ J' 6 = J 6 ∧ J' 7 9 = J 7 9 ∧ J' 37 9 = J 37 9 ∧ K' 131 = K 131 ∧ K' 135 = K 135 ∧ ∀ f, f ≤ 7 → K' 130 f = K 130 f
theorem keep_tr {J1 K1 J2 K2 J3 K3 : bw_J} (h : keep J1 K1 J2 K2) (h' : keep J2 K2 J3 K3) : keep J1 K1 J3 K3 := by
  obtain ⟨a1, a2, a3, a4, a5, a6, a7, a8, a9, a10, a11⟩ := h
  obtain ⟨b1, b2, b3, b4, b5, b6, b7, b8, b9, b10, b11⟩ := h'
  exact ⟨a1.trans b1, a2.trans b2, a3.trans b3, a4.trans b4, a5.trans b5, a6.trans b6, a7.trans b7, a8.trans b8, a9.trans b9, a10.trans b10, fun f hf => (a11 f hf).trans (b11 f hf)⟩
theorem keep_rf (J K : bw_J) : keep J K J K := ⟨rfl, rfl, rfl, rfl, rfl, rfl, rfl, rfl, rfl, rfl, fun _ _ => rfl⟩
theorem rNum_fr {D dv : Nat} {J J' K K' : bw_J} {tu nx : Nat} (h : rNum D dv J K tu nx) (a7 : J' D 7 = J D 7) (a8 : J' D 8 = J D 8) (b : K' 133 dv = K 133 dv) (c : K' 134 dv = K 134 dv) : rNum D dv J' K' tu nx := by
  unfold rNum at h ⊢
  rw [a7, a8, b, c]; exact h
theorem rIn_fc {ib rw dv : Nat} {W W' : bw_W} {J J' K K' : bw_J} (h : rIn ib rw dv W J K) (a : J' ib = J ib) (b : W' rw = W rw) (c : ∀ c, 145 ≤ c → c ≤ 147 → K' c = K c) : rIn ib rw dv W' J' K' := by
  unfold rIn at h ⊢
  rw [a, b, c 145 (by decide) (by decide), c 146 (by decide) (by decide), c 147 (by decide) (by decide)]
  exact h
theorem rAir_fc {sn dv : Nat} {W W' : bw_W} {K K' : bw_J} (h : rAir sn dv W K) (b : W' sn = W sn) (c : ∀ c, 148 ≤ c → c ≤ 149 → K' c = K c) : rAir sn dv W' K' := by
  unfold rAir at h ⊢
  rw [b, c 148 (by decide) (by decide), c 149 (by decide) (by decide)]
  exact h
theorem rHold_fc {D hd dv : Nat} {W W' : bw_W} {J J' K K' : bw_J} (h : rHold D hd dv W J K) (a : J' D = J D) (b : W' hd = W hd) (c : ∀ c, 136 ≤ c → c ≤ 139 → K' c = K c) : rHold D hd dv W' J' K' := by
  unfold rHold at h ⊢
  rw [a, b, c 136 (by decide) (by decide), c 137 (by decide) (by decide), c 138 (by decide) (by decide), c 139 (by decide) (by decide)]
  exact h
section E1c
variable {n0 : Nat} {T : Nat} {W : bw_W} {J K : bw_J}
theorem sendK_c {ch : Nat} (h : core T W J K) (hm : ∀ k, k < 12 → J 6 k = mkf (64 + ch) k) (hc : K 130 5 = Int32.ofNat ch) (hc2 : ch < 64) : ∃ (a : List Int32) (f : Nat → Int32) (W' : bw_W) (J' K' : bw_J),
    (∀ (d : Nat) (K0 : bw_J) (g : Nat) (L : bw_L), 3 ≤ d → bm d (S0 n0) R0 64 [.ref 7, .ref 5] W (jn J K0) g L (bR none W' (jn J' K0) g L)) ∧
    (∀ (d : Nat) (W0 : bw_W) (J0 : bw_J) (g : Nat) (L : bw_L), 2 ≤ d → bm d (S0 n0) R0 147 [.ref 130, .int (Int32.ofNat 0)] W0 (jn J0 K) g L (bR none W0 (jn J0 K') g L)) ∧
    W' 31 = a ∧ 5 ≤ a.length ∧ a.length ≤ 12 ∧ byl a ∧ K' 130 8 = Int32.ofNat a.length ∧ K' 132 = ovw 0 a f ∧ core T W' J' K' ∧ keep J' K' J K := by
  obtain ⟨⟨fr, w, ct, c1⟩, c2, ⟨tu, nx, c3⟩, c4, c5, ⟨fr2, w2, ct2, d1⟩, d2, ⟨tu2, nx2, d3⟩, d4, d5, ⟨cn, pn, sl, s1⟩, nt, cl, l1, l2⟩ := h
  have hNN := c3
  obtain ⟨n1, n2, n3, n4, n5, n6⟩ := c3
  obtain ⟨a, f, fr', w', ct', W', J', K', e1, e2, e3, e4, e5, e6, e7, e8, e9, e10, e11, e12, e13, e14, e15, e16, e17, e18⟩ := send_c (n0 := n0) c1 c2 n4 n5 n6 n1 n2 n3 hm hc hc2
  have fW : ∀ c, ¬ c = 31 → ¬ c = 33 → ¬ c = 35 → W' c = W c := e12
  refine ⟨a, f, W', J', K', e1, e2, e3, e4, e5, e6, e7, e8, ?_, ⟨e13 0 (by decide) (by decide), e13 1 (by decide) (by decide), e13 2 (by decide) (by decide), e13 3 (by decide) (by decide), e13 4 (by decide) (by decide), e13 6 (by decide) (by decide), e14 9 (by decide) (by decide), by rw [e13 37 (by decide) (by decide)], e16 131 (by decide) (by decide) (by decide), e16 135 (by decide) (by decide) (by decide), fun q hq => e17 q (by omega)⟩⟩
  have oS : rSrv W' J' K' cn pn sl := rSrv_fr s1 (fun c c1 c2 => e13 c (by omega) (by omega)) (fun c c1 c2 => fW c (by omega) (by omega) (by omega)) (fun c c1 c2 _ => e16 c (by omega) (by omega) (by omega)) (fun q hq => e17 q (by omega))
  have oL : rCli W' J' K' nt cl := rCli_fr l1 (e13 67 (by decide) (by decide)) (e13 68 (by decide) (by decide)) (fun c c1 c2 => fW c (by omega) (by omega) (by omega)) (fun c c1 c2 => e16 c (by omega) (by omega) (by omega)) (fun q hq => e17 q (by omega))
  have mI : rIn 26 29 0 W' J' K' := rIn_fc c5 (e13 26 (by decide) (by decide)) (fW 29 (by decide) (by decide) (by decide)) e18
  have mN : rNum 7 0 J' K' tu nx := rNum_fr hNN (e14 7 (by decide) (by decide)) (e14 8 (by decide) (by decide)) (by rw [e16 133 (by decide) (by decide) (by decide)]) (by rw [e16 134 (by decide) (by decide) (by decide)])
  have yO : rOut 38 40 1 W' J' K' fr2 w2 ct2 = rOut 38 40 1 W' J' K' fr2 w2 ct2 := rfl
  exact ⟨⟨fr', w', ct', e10⟩, e11, ⟨tu, nx, mN⟩, e9, mI, ⟨fr2, w2, ct2, rOut_fr d1 (e13 38 (by decide) (by decide)) (fun i hi => fW _ (by omega) (by omega) (by omega)) e15⟩, rHold_fr d2 (by rw [e13 37 (by decide) (by decide)]) (by rw [e13 37 (by decide) (by decide)]) (fW 65 (by decide) (by decide) (by decide)) e15, ⟨tu2, nx2, rNum_fr d3 (by rw [e13 37 (by decide) (by decide)]) (by rw [e13 37 (by decide) (by decide)]) (by rw [e16 133 (by decide) (by decide) (by decide)]) (by rw [e16 134 (by decide) (by decide) (by decide)])⟩, rAir_fr d4 (fW 61 (by decide) (by decide) (by decide)) e15, rIn_fc d5 (e13 56 (by decide) (by decide)) (fW 59 (by decide) (by decide) (by decide)) e18, ⟨cn, pn, sl, oS⟩, nt, cl, oL, l2⟩
end E1c
section E1s
variable {n0 : Nat} {T : Nat} {W : bw_W} {J K : bw_J}
theorem sendK_s {ch : Nat} (h : core T W J K) (hm : ∀ k, k < 12 → J 6 k = mkf (64 + ch) k) (hc : K 130 5 = Int32.ofNat ch) (hc2 : ch < 64) : ∃ (a : List Int32) (f : Nat → Int32) (W' : bw_W) (J' K' : bw_J),
    (∀ (d : Nat) (K0 : bw_J) (g : Nat) (L : bw_L), 3 ≤ d → bm d (S0 n0) R0 64 [.ref 37, .ref 5] W (jn J K0) g L (bR none W' (jn J' K0) g L)) ∧
    (∀ (d : Nat) (W0 : bw_W) (J0 : bw_J) (g : Nat) (L : bw_L), 2 ≤ d → bm d (S0 n0) R0 147 [.ref 130, .int (Int32.ofNat 1)] W0 (jn J0 K) g L (bR none W0 (jn J0 K') g L)) ∧
    W' 61 = a ∧ 5 ≤ a.length ∧ a.length ≤ 12 ∧ byl a ∧ K' 130 8 = Int32.ofNat a.length ∧ K' 132 = ovw 0 a f ∧ core T W' J' K' ∧ keep J' K' J K := by
  obtain ⟨⟨fr, w, ct, c1⟩, c2, ⟨tu, nx, c3⟩, c4, c5, ⟨fr2, w2, ct2, d1⟩, d2, ⟨tu2, nx2, d3⟩, d4, d5, ⟨cn, pn, sl, s1⟩, nt, cl, l1, l2⟩ := h
  have hNN := d3
  obtain ⟨n1, n2, n3, n4, n5, n6⟩ := d3
  obtain ⟨a, f, fr', w', ct', W', J', K', e1, e2, e3, e4, e5, e6, e7, e8, e9, e10, e11, e12, e13, e14, e15, e16, e17, e18⟩ := send_s (n0 := n0) d1 d2 n4 n5 n6 n1 n2 n3 hm hc hc2
  have fW : ∀ c, ¬ c = 61 → ¬ c = 63 → ¬ c = 65 → W' c = W c := e12
  refine ⟨a, f, W', J', K', e1, e2, e3, e4, e5, e6, e7, e8, ?_, ⟨e13 0 (by decide) (by decide), e13 1 (by decide) (by decide), e13 2 (by decide) (by decide), e13 3 (by decide) (by decide), e13 4 (by decide) (by decide), e13 6 (by decide) (by decide), by rw [e13 7 (by decide) (by decide)], e14 9 (by decide) (by decide), e16 131 (by decide) (by decide) (by decide), e16 135 (by decide) (by decide) (by decide), fun q hq => e17 q (by omega)⟩⟩
  have oS : rSrv W' J' K' cn pn sl := rSrv_fr s1 (fun c c1 c2 => e13 c (by omega) (by omega)) (fun c c1 c2 => fW c (by omega) (by omega) (by omega)) (fun c c1 c2 _ => e16 c (by omega) (by omega) (by omega)) (fun q hq => e17 q (by omega))
  have oL : rCli W' J' K' nt cl := rCli_fr l1 (e13 67 (by decide) (by decide)) (e13 68 (by decide) (by decide)) (fun c c1 c2 => fW c (by omega) (by omega) (by omega)) (fun c c1 c2 => e16 c (by omega) (by omega) (by omega)) (fun q hq => e17 q (by omega))
  have mI : rIn 56 59 1 W' J' K' := rIn_fc d5 (e13 56 (by decide) (by decide)) (fW 59 (by decide) (by decide) (by decide)) e18
  have mN : rNum 37 1 J' K' tu2 nx2 := rNum_fr hNN (e14 7 (by decide) (by decide)) (e14 8 (by decide) (by decide)) (by rw [e16 133 (by decide) (by decide) (by decide)]) (by rw [e16 134 (by decide) (by decide) (by decide)])
  have yO : rOut 8 10 0 W' J' K' fr w ct = rOut 8 10 0 W' J' K' fr w ct := rfl
  exact ⟨⟨fr, w, ct, rOut_fr c1 (e13 8 (by decide) (by decide)) (fun i hi => fW _ (by omega) (by omega) (by omega)) e15⟩, rHold_fr c2 (by rw [e13 7 (by decide) (by decide)]) (by rw [e13 7 (by decide) (by decide)]) (fW 35 (by decide) (by decide) (by decide)) e15, ⟨tu, nx, rNum_fr c3 (by rw [e13 7 (by decide) (by decide)]) (by rw [e13 7 (by decide) (by decide)]) (by rw [e16 133 (by decide) (by decide) (by decide)]) (by rw [e16 134 (by decide) (by decide) (by decide)])⟩, rAir_fr c4 (fW 31 (by decide) (by decide) (by decide)) e15, rIn_fc c5 (e13 26 (by decide) (by decide)) (fW 29 (by decide) (by decide) (by decide)) e18, ⟨fr', w', ct', e10⟩, e11, ⟨tu2, nx2, mN⟩, e9, mI, ⟨cn, pn, sl, oS⟩, nt, cl, oL, l2⟩
end E1s
section E2c
variable {n0 : Nat} {T : Nat} {W : bw_W} {J K : bw_J}
/-- the packet is heard, and what it brought is handled -/
theorem hearK_c {ch : Nat} {v : Int64} {a : List Int32} {f : Nat → Int32} (h : core T W J K) (hT : T < 80000000) (ha : W 61 = a) (ha5 : 5 ≤ a.length) (ha12 : a.length ≤ 12) (hab : byl a) (h8 : K 130 8 = Int32.ofNat a.length) (h132 : K 132 = ovw 0 a f) (hm : ∀ k, k < 12 → J 6 k = mkf (64 + ch) k) (hc : K 130 5 = Int32.ofNat ch) (hc2 : ch < 64) : ∃ (b : Nat) (W1 W' : bw_W) (J1 J' K' : bw_J), b ≤ 1 ∧
    (∀ (d : Nat) (K0 : bw_J) (g : Nat) (L : bw_L), 5 ≤ d → bm d (S0 n0) R0 69 [.ref 7, .ref 61, .long v, .ref 5] W (jn J K0) g L (bR (some (.int (Int32.ofNat b))) W1 (jn J1 K0) g L)) ∧
    (∀ (d : Nat) (W0 : bw_W) (J0 : bw_J) (g : Nat) (L : bw_L), 8 ≤ d → bm d (S0 n0) R0 151 [.ref 130, .int (Int32.ofNat 0)] W0 (jn J0 (am_u1 K 132 (sx v (min 8 a.length) (K 132)))) g L (bR (some (.int (Int32.ofNat b))) W0 (jn J0 K') g L)) ∧
    ((J1 26 3 = 0 ∧ W' = W1 ∧ J' = J1) ∨ (b = 1 ∧ J1 26 3 = 1 ∧ ∀ (d : Nat) (K0 : bw_J) (g : Nat) (L : bw_L), 5 ≤ d → bm d (S0 n0) R0 93 [.ref 67, .ref 27, .ref 8] W1 (jn J1 K0) g L (bR none W' (jn J' K0) g L))) ∧
    core (T + 1) W' J' K' ∧ keep J' K' J K := by
  obtain ⟨⟨fr, w, ct, c1⟩, c2, ⟨tu, nx, c3⟩, c4, c5, ⟨fr2, w2, ct2, d1⟩, d2, ⟨tu2, nx2, d3⟩, d4, d5, ⟨cn, pn, sl, s1⟩, nt, cl, l1, l2⟩ := h
  obtain ⟨b, W1, J1, b1, e1, e2, e3, e4, e5⟩ := hear_c (n0 := n0) (v := v) c5 c2 c3 ha ha5 ha12 hab h8 h132 hm hc hc2
  have fJ : ∀ c, ¬ c = 7 → ¬ c = 26 → J1 c = J c := e3
  have fin : ∀ (K' : bw_J), rIn 26 29 0 W1 J1 K' → rHold 7 35 0 W1 J1 K' → (∃ tu' nx', rNum 7 0 J1 K' tu' nx') → kHr 1 K' K → core T W1 J1 K' ∧ keep J1 K' J K := by
    intro K' r1 r2 r3 k
    have kc := k.2.1
    have kf := k.2.2
    have oS : rSrv W1 J1 K' cn pn sl := rSrv_fr s1 (fun c c1 c2 => fJ c (by omega) (by omega)) (fun c c1 c2 => e2 c (by omega) (by omega) (by omega)) (fun c c1 c2 _ => kc c (by omega) (by omega) (by omega) (by omega) (by omega) (by omega) (by omega) (by omega) (by omega)) (fun q hq => kf q (by omega))
    have oL : rCli W1 J1 K' nt cl := rCli_fr l1 (fJ 67 (by decide) (by decide)) (fJ 68 (by decide) (by decide)) (fun c c1 c2 => e2 c (by omega) (by omega) (by omega)) (fun c c1 c2 => kc c (by omega) (by omega) (by omega) (by omega) (by omega) (by omega) (by omega) (by omega) (by omega)) (fun q hq => kf q (by omega))
    have mO := rOut_fc c1 (fJ 8 (by decide) (by decide)) (W' := W1) (K' := K') (fun i hi => e2 _ (by omega) (by omega) (by omega)) (fun c c1 c2 => kc c (by omega) (by omega) (by omega) (by omega) (by omega) (by omega) (by omega) (by omega) (by omega))
    have mA := rAir_fc (W' := W1) (K' := K') c4 (e2 31 (by decide) (by decide) (by decide)) (fun c c1 c2 => kc c (by omega) (by omega) (by omega) (by omega) (by omega) (by omega) (by omega) (by omega) (by omega))
    refine ⟨⟨⟨fr, w, ct, mO⟩, r2, r3, mA, r1, ⟨fr2, w2, ct2, rOut_fr d1 (fJ 38 (by decide) (by decide)) (fun i hi => e2 _ (by omega) (by omega) (by omega)) k.1⟩, rHold_fr d2 (by rw [fJ 37 (by decide) (by decide)]) (by rw [fJ 37 (by decide) (by decide)]) (e2 65 (by decide) (by decide) (by decide)) k.1, ⟨tu2, nx2, rNum_fr d3 (by rw [fJ 37 (by decide) (by decide)]) (by rw [fJ 37 (by decide) (by decide)]) (kE k.1 (by decide)) (kE k.1 (by decide))⟩, rAir_fr d4 (e2 61 (by decide) (by decide) (by decide)) k.1, rIn_fr d5 (by rw [fJ 56 (by decide) (by decide)]) (e2 59 (by decide) (by decide) (by decide)) k.1, ⟨cn, pn, sl, oS⟩, nt, cl, oL, l2⟩, fJ 0 (by decide) (by decide), fJ 1 (by decide) (by decide), fJ 2 (by decide) (by decide), fJ 3 (by decide) (by decide), fJ 4 (by decide) (by decide), fJ 6 (by decide) (by decide), e4 9 (by decide) (by decide) (by decide), by rw [fJ 37 (by decide) (by decide)], kc 131 (by decide) (by decide) (by decide) (by decide) (by decide) (by decide) (by decide) (by decide) (by decide), kc 135 (by decide) (by decide) (by decide) (by decide) (by decide) (by decide) (by decide) (by decide) (by decide), fun q hq => kf q (by omega)⟩
  rcases e5 with ⟨K', m1, m2, m3, m4, m5, m6⟩ | ⟨hb1, Kd, m, m1, m2, m3, m4, m5, m6, m7, m8, m9, m10, m11⟩
  · obtain ⟨q1, q2⟩ := fin K' m3 m4 m5 m6
    refine ⟨b, W1, W1, J1, J1, K', b1, e1, m1, Or.inl ⟨m2, rfl, rfl⟩, ?_, q2⟩
    obtain ⟨x1, x2, x3, x4, x5, x6, x7, x8, x9, x10, x11, znt, zcl, z1, z2⟩ := q1
    exact ⟨x1, x2, x3, x4, x5, x6, x7, x8, x9, x10, x11, znt, zcl, z1, by omega⟩
  · subst hb1
    obtain ⟨q1, q2⟩ := fin Kd m8 m9 m10 m11
    have q1' := q1
    obtain ⟨⟨xfr, xw, xct, x1⟩, x2, ⟨xtu, xnx, x3⟩, x4, x5, ⟨yfr, yw, yct, y1⟩, y2, ⟨ytu, ynx, y3⟩, y4, y5, ⟨zcn, zpn, zsl, z1⟩, znt, zcl, z2, z3⟩ := q1
    obtain ⟨W', J', K', fr', w', ct', nt', cl', h1, h2, h3, h3b, h4, f1, f2, f3, f4, f5⟩ := cli_all (n0 := n0) (W := W1) (J := J1) (K := Kd) ⟨z2, x1, by rw [m3]; exact m4, by rw [m3]; exact m5, by rw [m3]; exact m6, by rw [m3]; exact m7, by omega⟩
    refine ⟨1, W1, W', J1, J', K', by decide, e1, fun d W0 J0 g L hd => m1 K' (fun e W0 J0 g L he => h2 e W0 J0 g L he) d W0 J0 g L hd, Or.inr ⟨rfl, m2, h1⟩, ?_, keep_tr ⟨f2 0 (by decide) (by decide) (by decide), f2 1 (by decide) (by decide) (by decide), f2 2 (by decide) (by decide) (by decide), f2 3 (by decide) (by decide) (by decide), f2 4 (by decide) (by decide) (by decide), f2 6 (by decide) (by decide) (by decide), by rw [f2 7 (by decide) (by decide) (by decide)], by rw [f2 37 (by decide) (by decide) (by decide)], f4 131 (by decide) (by decide) (by decide) (by decide) (by decide) (by decide), f4 135 (by decide) (by decide) (by decide) (by decide) (by decide) (by decide), fun q hq => f5 q (by omega) (by omega)⟩ q2⟩
    exact ⟨⟨fr', w', ct', h4⟩, rHold_fc x2 (f2 7 (by decide) (by decide) (by decide)) (f1 35 (by decide) (by decide)) (fun c c1 c2 => f4 c (by omega) (by omega) (by omega) (by omega) (by omega) (by omega)), ⟨xtu, xnx, rNum_fr x3 (by rw [f2 7 (by decide) (by decide) (by decide)]) (by rw [f2 7 (by decide) (by decide) (by decide)]) (by rw [f4 133 (by decide) (by decide) (by decide) (by decide) (by decide) (by decide)]) (by rw [f4 134 (by decide) (by decide) (by decide) (by decide) (by decide) (by decide)])⟩, rAir_fc x4 (f1 31 (by decide) (by decide)) (fun c c1 c2 => f4 c (by omega) (by omega) (by omega) (by omega) (by omega) (by omega)), rIn_fc x5 (f2 26 (by decide) (by decide) (by decide)) (f1 29 (by decide) (by decide)) (fun c c1 c2 => f4 c (by omega) (by omega) (by omega) (by omega) (by omega) (by omega)), ⟨yfr, yw, yct, rOut_fr y1 (f2 38 (by decide) (by decide) (by decide)) (fun i hi => f1 _ (by omega) (by omega)) f3⟩, rHold_fr y2 (by rw [f2 37 (by decide) (by decide) (by decide)]) (by rw [f2 37 (by decide) (by decide) (by decide)]) (f1 65 (by decide) (by decide)) f3, ⟨ytu, ynx, rNum_fr y3 (by rw [f2 37 (by decide) (by decide) (by decide)]) (by rw [f2 37 (by decide) (by decide) (by decide)]) (by rw [f4 133 (by decide) (by decide) (by decide) (by decide) (by decide) (by decide)]) (by rw [f4 134 (by decide) (by decide) (by decide) (by decide) (by decide) (by decide)])⟩, rAir_fr y4 (f1 61 (by decide) (by decide)) f3, rIn_fr y5 (by rw [f2 56 (by decide) (by decide) (by decide)]) (f1 59 (by decide) (by decide)) f3, ⟨zcn, zpn, zsl, rSrv_fr z1 (fun c c1 c2 => f2 c (by omega) (by omega) (by omega)) (fun c c1 c2 => f1 c (by omega) (by omega)) (fun c c1 c2 _ => f4 c (by omega) (by omega) (by omega) (by omega) (by omega) (by omega)) (fun q hq => f5 q (by omega) (by omega))⟩, nt', cl', h3, by omega⟩
end E2c
section E2s
variable {n0 : Nat} {T : Nat} {W : bw_W} {J K : bw_J}
/-- the packet is heard, and what it brought is handled -/
theorem hearK_s {ch : Nat} {v : Int64} {a : List Int32} {f : Nat → Int32} (h : core T W J K) (hT : T < 80000000) (ha : W 31 = a) (ha5 : 5 ≤ a.length) (ha12 : a.length ≤ 12) (hab : byl a) (h8 : K 130 8 = Int32.ofNat a.length) (h132 : K 132 = ovw 0 a f) (hm : ∀ k, k < 12 → J 6 k = mkf (64 + ch) k) (hc : K 130 5 = Int32.ofNat ch) (hc2 : ch < 64) : ∃ (b : Nat) (W1 W' : bw_W) (J1 J' K' : bw_J), b ≤ 1 ∧
    (∀ (d : Nat) (K0 : bw_J) (g : Nat) (L : bw_L), 5 ≤ d → bm d (S0 n0) R0 69 [.ref 37, .ref 31, .long v, .ref 5] W (jn J K0) g L (bR (some (.int (Int32.ofNat b))) W1 (jn J1 K0) g L)) ∧
    (∀ (d : Nat) (W0 : bw_W) (J0 : bw_J) (g : Nat) (L : bw_L), 8 ≤ d → bm d (S0 n0) R0 151 [.ref 130, .int (Int32.ofNat 1)] W0 (jn J0 (am_u1 K 132 (sx v (min 8 a.length) (K 132)))) g L (bR (some (.int (Int32.ofNat b))) W0 (jn J0 K') g L)) ∧
    ((J1 56 3 = 0 ∧ W' = W1 ∧ J' = J1) ∨ (b = 1 ∧ J1 56 3 = 1 ∧ ∀ (d : Nat) (K0 : bw_J) (g : Nat) (L : bw_L), 5 ≤ d → bm d (S0 n0) R0 77 [.ref 86, .ref 57, .ref 38] W1 (jn J1 K0) g L (bR none W' (jn J' K0) g L))) ∧
    core (T + 0) W' J' K' ∧ keep J' K' J K := by
  obtain ⟨⟨fr, w, ct, c1⟩, c2, ⟨tu, nx, c3⟩, c4, c5, ⟨fr2, w2, ct2, d1⟩, d2, ⟨tu2, nx2, d3⟩, d4, d5, ⟨cn, pn, sl, s1⟩, nt, cl, l1, l2⟩ := h
  obtain ⟨b, W1, J1, b1, e1, e2, e3, e4, e5⟩ := hear_s (n0 := n0) (v := v) d5 d2 d3 ha ha5 ha12 hab h8 h132 hm hc hc2
  have fJ : ∀ c, ¬ c = 37 → ¬ c = 56 → J1 c = J c := e3
  have fin : ∀ (K' : bw_J), rIn 56 59 1 W1 J1 K' → rHold 37 65 1 W1 J1 K' → (∃ tu' nx', rNum 37 1 J1 K' tu' nx') → kHr 0 K' K → core T W1 J1 K' ∧ keep J1 K' J K := by
    intro K' r1 r2 r3 k
    have kc := k.2.1
    have kf := k.2.2
    have oS : rSrv W1 J1 K' cn pn sl := rSrv_fr s1 (fun c c1 c2 => fJ c (by omega) (by omega)) (fun c c1 c2 => e2 c (by omega) (by omega) (by omega)) (fun c c1 c2 _ => kc c (by omega) (by omega) (by omega) (by omega) (by omega) (by omega) (by omega) (by omega) (by omega)) (fun q hq => kf q (by omega))
    have oL : rCli W1 J1 K' nt cl := rCli_fr l1 (fJ 67 (by decide) (by decide)) (fJ 68 (by decide) (by decide)) (fun c c1 c2 => e2 c (by omega) (by omega) (by omega)) (fun c c1 c2 => kc c (by omega) (by omega) (by omega) (by omega) (by omega) (by omega) (by omega) (by omega) (by omega)) (fun q hq => kf q (by omega))
    have mO := rOut_fc d1 (fJ 38 (by decide) (by decide)) (W' := W1) (K' := K') (fun i hi => e2 _ (by omega) (by omega) (by omega)) (fun c c1 c2 => kc c (by omega) (by omega) (by omega) (by omega) (by omega) (by omega) (by omega) (by omega) (by omega))
    have mA := rAir_fc (W' := W1) (K' := K') d4 (e2 61 (by decide) (by decide) (by decide)) (fun c c1 c2 => kc c (by omega) (by omega) (by omega) (by omega) (by omega) (by omega) (by omega) (by omega) (by omega))
    refine ⟨⟨⟨fr, w, ct, rOut_fr c1 (fJ 8 (by decide) (by decide)) (fun i hi => e2 _ (by omega) (by omega) (by omega)) k.1⟩, rHold_fr c2 (by rw [fJ 7 (by decide) (by decide)]) (by rw [fJ 7 (by decide) (by decide)]) (e2 35 (by decide) (by decide) (by decide)) k.1, ⟨tu, nx, rNum_fr c3 (by rw [fJ 7 (by decide) (by decide)]) (by rw [fJ 7 (by decide) (by decide)]) (kE k.1 (by decide)) (kE k.1 (by decide))⟩, rAir_fr c4 (e2 31 (by decide) (by decide) (by decide)) k.1, rIn_fr c5 (by rw [fJ 26 (by decide) (by decide)]) (e2 29 (by decide) (by decide) (by decide)) k.1, ⟨fr2, w2, ct2, mO⟩, r2, r3, mA, r1, ⟨cn, pn, sl, oS⟩, nt, cl, oL, l2⟩, fJ 0 (by decide) (by decide), fJ 1 (by decide) (by decide), fJ 2 (by decide) (by decide), fJ 3 (by decide) (by decide), fJ 4 (by decide) (by decide), fJ 6 (by decide) (by decide), by rw [fJ 7 (by decide) (by decide)], e4 9 (by decide) (by decide) (by decide), kc 131 (by decide) (by decide) (by decide) (by decide) (by decide) (by decide) (by decide) (by decide) (by decide), kc 135 (by decide) (by decide) (by decide) (by decide) (by decide) (by decide) (by decide) (by decide) (by decide), fun q hq => kf q (by omega)⟩
  rcases e5 with ⟨K', m1, m2, m3, m4, m5, m6⟩ | ⟨hb1, Kd, m, m1, m2, m3, m4, m5, m6, m7, m8, m9, m10, m11⟩
  · obtain ⟨q1, q2⟩ := fin K' m3 m4 m5 m6
    refine ⟨b, W1, W1, J1, J1, K', b1, e1, m1, Or.inl ⟨m2, rfl, rfl⟩, ?_, q2⟩
    obtain ⟨x1, x2, x3, x4, x5, x6, x7, x8, x9, x10, x11, znt, zcl, z1, z2⟩ := q1
    exact ⟨x1, x2, x3, x4, x5, x6, x7, x8, x9, x10, x11, znt, zcl, z1, by omega⟩
  · subst hb1
    obtain ⟨q1, q2⟩ := fin Kd m8 m9 m10 m11
    have q1' := q1
    obtain ⟨⟨xfr, xw, xct, x1⟩, x2, ⟨xtu, xnx, x3⟩, x4, x5, ⟨yfr, yw, yct, y1⟩, y2, ⟨ytu, ynx, y3⟩, y4, y5, ⟨zcn, zpn, zsl, z1⟩, znt, zcl, z2, z3⟩ := q1
    obtain ⟨W', J', K', fr', w', ct', cn', pn', sl', h1, h2, h3, h4, f1, f2, f3, f4, f5⟩ := srv_all (n0 := n0) (W := W1) (J := J1) (K := Kd) ⟨z1, y1, by rw [m3]; exact m4, by rw [m3]; exact m5, by rw [m3]; exact m6, by rw [m3]; exact m7⟩
    refine ⟨1, W1, W', J1, J', K', by decide, e1, fun d W0 J0 g L hd => m1 K' (fun e W0 J0 g L he => h2 e W0 J0 g L he) d W0 J0 g L hd, Or.inr ⟨rfl, m2, h1⟩, ?_, keep_tr ⟨f2 0 (by decide) (by decide) (by decide), f2 1 (by decide) (by decide) (by decide), f2 2 (by decide) (by decide) (by decide), f2 3 (by decide) (by decide) (by decide), f2 4 (by decide) (by decide) (by decide), f2 6 (by decide) (by decide) (by decide), by rw [f2 7 (by decide) (by decide) (by decide)], by rw [f2 37 (by decide) (by decide) (by decide)], f4 131 (by decide) (by decide) (by decide) (by decide) (by decide) (by decide), f4 135 (by decide) (by decide) (by decide) (by decide) (by decide) (by decide), fun q hq => f5 q (by omega) (by omega) (by omega) (by omega)⟩ q2⟩
    exact ⟨⟨xfr, xw, xct, rOut_fr x1 (f2 8 (by decide) (by decide) (by decide)) (fun i hi => f1 _ (by omega) (by omega) (by omega)) f3⟩, rHold_fr x2 (by rw [f2 7 (by decide) (by decide) (by decide)]) (by rw [f2 7 (by decide) (by decide) (by decide)]) (f1 35 (by decide) (by decide) (by decide)) f3, ⟨xtu, xnx, rNum_fr x3 (by rw [f2 7 (by decide) (by decide) (by decide)]) (by rw [f2 7 (by decide) (by decide) (by decide)]) (by rw [f4 133 (by decide) (by decide) (by decide) (by decide) (by decide) (by decide)]) (by rw [f4 134 (by decide) (by decide) (by decide) (by decide) (by decide) (by decide)])⟩, rAir_fr x4 (f1 31 (by decide) (by decide) (by decide)) f3, rIn_fr x5 (by rw [f2 26 (by decide) (by decide) (by decide)]) (f1 29 (by decide) (by decide) (by decide)) f3, ⟨fr', w', ct', h4⟩, rHold_fc y2 (f2 37 (by decide) (by decide) (by decide)) (f1 65 (by decide) (by decide) (by decide)) (fun c c1 c2 => f4 c (by omega) (by omega) (by omega) (by omega) (by omega) (by omega)), ⟨ytu, ynx, rNum_fr y3 (by rw [f2 37 (by decide) (by decide) (by decide)]) (by rw [f2 37 (by decide) (by decide) (by decide)]) (by rw [f4 133 (by decide) (by decide) (by decide) (by decide) (by decide) (by decide)]) (by rw [f4 134 (by decide) (by decide) (by decide) (by decide) (by decide) (by decide)])⟩, rAir_fc y4 (f1 61 (by decide) (by decide) (by decide)) (fun c c1 c2 => f4 c (by omega) (by omega) (by omega) (by omega) (by omega) (by omega)), rIn_fc y5 (f2 56 (by decide) (by decide) (by decide)) (f1 59 (by decide) (by decide) (by decide)) (fun c c1 c2 => f4 c (by omega) (by omega) (by omega) (by omega) (by omega) (by omega)), ⟨cn', pn', sl', h3⟩, znt, zcl, rCli_fr z2 (f2 67 (by decide) (by decide) (by decide)) (f2 68 (by decide) (by decide) (by decide)) (fun c c1 c2 => f1 c (by omega) (by omega) (by omega)) (fun c c1 c2 => f4 c (by omega) (by omega) (by omega) (by omega) (by omega) (by omega)) (fun q hq => f5 q (by omega) (by omega) (by omega) (by omega)), z3⟩
end E2s
