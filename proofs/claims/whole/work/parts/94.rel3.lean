/-! Part 94 (written by gen61.py): putting together and hearing, class and reference side by side -/
theorem eqL_app {l p : List Int32} {f : Nat → Int32} {o : Nat} (h : eqL l f o) : eqL (l ++ p) (ovw (o + l.length) p f) o := fun k hk => by
  rw [List.length_append] at hk
  by_cases h1 : k < l.length
  · rw [ovw_ou (by omega), h k h1, List.getD_eq_getElem?_getD, List.getD_eq_getElem?_getD, List.getElem?_append_left h1]
  · rw [show o + k = o + l.length + (k - l.length) by omega, ovw_in (by omega), List.getD_eq_getElem?_getD, List.getD_eq_getElem?_getD, List.getElem?_append_right (by omega)]
/-- what is put together: ib the class's Inbox, rw its row -/
def rIn (ib rw dv : Nat) (W : bw_W) (J K : bw_J) : Prop := (J ib 2 = 0 ∧ K 147 dv = Int32.ofNat 0) ∨ (J ib 2 = 1 ∧ K 147 dv = Int32.ofNat 1 ∧ K 146 dv = Int32.ofNat (W rw).length ∧ (W rw).length ≤ 23 ∧ byl (W rw) ∧ eqL (W rw) (K 145) (48 * dv)) ∨ (J ib 2 = 0 ∧ K 147 dv = Int32.ofNat 1 ∧ ∃ (l : List Int32) (nn : Nat), K 146 dv = Int32.ofNat l.length ∧ 1 ≤ l.length ∧ l.length < 4 ∧ byl l ∧ eqL l (K 145) (48 * dv) ∧ l.getD 0 0 = Int32.ofNat nn ∧ 20 < nn ∧ nn < 256)
theorem rIn_fr {ib rw dv : Nat} {W W' : bw_W} {J J' K K' : bw_J} (h : rIn ib rw dv W J K) (a : J' ib 2 = J ib 2) (b : W' rw = W rw) (c : kEq dv K' K) : rIn ib rw dv W' J' K' := by
  unfold rIn at h ⊢
  rw [a, b, kE c (x := 146) (by decide), kE c (x := 147) (by decide)]
  rcases h with h | ⟨h1, h2, h3, h4, h5, h6⟩ | ⟨h1, h2, l, nn, h3, h4, h5, h6, h7, h8⟩
  · exact Or.inl h
  · exact Or.inr (Or.inl ⟨h1, h2, h3, h4, h5, eqL_cg h6 fun k hk => c.2.2.2.2.1 k (by omega)⟩)
  · exact Or.inr (Or.inr ⟨h1, h2, l, nn, h3, h4, h5, h6, eqL_cg h7 fun k hk => c.2.2.2.2.1 k (by omega), h8⟩)
theorem ib_t {l : List Int32} {nn : Nat} (h : nn ≤ 20 ∧ l.length ≤ nn + 4 ∧ (l.length < 4 ∨ (l.getD 1 0 = 0 ∧ l.getD 2 0 = 4 ∧ l.getD 3 0 = 0))) : ib_ok l nn = true := decide_eq_true h
theorem ib_f {l : List Int32} {nn : Nat} (h : ¬ (nn ≤ 20 ∧ l.length ≤ nn + 4 ∧ (l.length < 4 ∨ (l.getD 1 0 = 0 ∧ l.getD 2 0 = 4 ∧ l.getD 3 0 = 0)))) : ¬ ib_ok l nn = true := fun z => h (of_decide_eq_true z)
section COc
variable {n0 : Nat} {W : bw_W} {J K : bw_J}
/-- behind the bytes: l the row as it is now -/
theorem app_c {l : List Int32} {nn : Nat} (hl1 : 1 ≤ l.length) (hl : l.length ≤ 30) (hb : byl l) (hn : l.getD 0 0 = Int32.ofNat nn) (hn2 : nn < 256) (hJ2 : J 26 2 = 1) (hJ3 : J 26 3 = 0) (k6 : K 146 0 = Int32.ofNat l.length) (k5 : eqL l (K 145) (48 * 0)) (k7 : K 147 0 = Int32.ofNat 1) :
    (∃ K', (∀ (e : Nat) (W0 : bw_W) (J0 : bw_J) (g : Nat) (L : bw_L), 6 ≤ e → bT e (S0 n0) R0 mt_Mo_collect (bR none W0 (jn J0 K') g L) 90 [(0, .ref 130), (1, .int (Int32.ofNat 0))] [] W0 (jn J0 K) g L 0 0) ∧ (in_J 26 J l nn) 26 3 = 0 ∧ rIn 26 29 0 (in_W 26 W l nn) (in_J 26 J l nn) K' ∧ kEq 1 K' K ∧ (∀ c, ¬ c = 147 → K' c = K c)) ∨
    (∃ Kd m, (∀ K1, (∀ (e : Nat) (W0 : bw_W) (J0 : bw_J) (g : Nat) (L : bw_L), 6 ≤ e → bm e (S0 n0) R0 153 [.ref 130] W0 (jn J0 Kd) g L (bR none W0 (jn J0 K1) g L)) → ∀ (e : Nat) (W0 : bw_W) (J0 : bw_J) (g : Nat) (L : bw_L), 6 ≤ e → bT e (S0 n0) R0 mt_Mo_collect (bR none W0 (jn J0 K1) g L) 90 [(0, .ref 130), (1, .int (Int32.ofNat 0))] [] W0 (jn J0 K) g L 0 0) ∧ (in_J 26 J l nn) 26 3 = 1 ∧ (in_W 26 W l nn) 27 = m ∧ m.length ≤ 20 ∧ byl m ∧ Kd 130 27 = Int32.ofNat m.length ∧ eqL m (Kd 150) 0 ∧ rIn 26 29 0 (in_W 26 W l nn) (in_J 26 J l nn) Kd ∧ kEq 1 Kd K ∧ (∀ c, ¬ c = 130 → ¬ c = 147 → ¬ c = 150 → Kd c = K c) ∧ (∀ f, ¬ f = 27 → Kd 130 f = K 130 f)) := by
  have hk9 : ∀ J0 : bw_J, ∀ k, k < l.length → (jn J0 K) 145 (48 * 0 + k) = l.getD k 0 := fun J0 => k5
  have kq : ∀ x, kEq 1 (am_u2 K 147 0 x) K := fun x => ⟨fun y a b c d e f i => by
    by_cases h : y = 147
    · subst h; rfl
    · rw [u2_a _ _ h], fun k hk => rfl, fun k hk => rfl, fun k hk => rfl, fun k hk => rfl, fun k hk => rfl⟩
  by_cases h4 : l.length < 4
  · refine Or.inl ⟨K, fun e W0 J0 g L he => c90_s (by decide) (by omega) (hk9 J0) k6 h4, ?_, ?_, kEq_rf _ _, fun _ _ => rfl⟩
    · unfold in_J
      by_cases hok : ib_ok l nn = true
      · rw [if_pos hok, if_neg (by omega)]; exact hJ3
      · rw [if_neg hok, u2_k _ _ (by decide)]; exact hJ3
    · unfold in_J in_W
      by_cases h20 : nn ≤ 20
      · have hok : ib_ok l nn = true := ib_t ⟨h20, by omega, Or.inl h4⟩
        rw [if_pos hok, if_neg (show ¬ l.length = nn + 4 by omega), if_neg (show ¬ (ib_ok l nn = true ∧ l.length = nn + 4) from fun z => absurd z.2 (by omega))]
        refine Or.inr (Or.inl ⟨hJ2, k7, ?_⟩)
        show K 146 0 = Int32.ofNat (am_u1 W 29 l 29).length ∧ (am_u1 W 29 l 29).length ≤ 23 ∧ byl (am_u1 W 29 l 29) ∧ eqL (am_u1 W 29 l 29) (K 145) (48 * 0)
        rw [u1_at]
        exact ⟨k6, by omega, hb, k5⟩
      · have hok : ¬ ib_ok l nn = true := ib_f fun z => h20 z.1
        rw [if_neg hok]
        refine Or.inr (Or.inr ⟨by rw [u2_at], k7, l, nn, k6, hl1, h4, hb, k5, hn, by omega, hn2⟩)
  · by_cases hF : nn ≤ 20 ∧ l.getD 1 0 = 0 ∧ l.getD 2 0 = 4 ∧ l.getD 3 0 = 0 ∧ l.length ≤ nn + 4
    · obtain ⟨f1, f2, f3, f4, f5⟩ := hF
      have hok : ib_ok l nn = true := ib_t ⟨f1, f5, Or.inr ⟨f2, f3, f4⟩⟩
      by_cases hx : l.length < nn + 4
      · refine Or.inl ⟨K, fun e W0 J0 g L he => c90_g (by decide) (by omega) (hk9 J0) k6 (by omega) hn hn2 f1 f2 f3 f4 f5 hx, ?_, ?_, kEq_rf _ _, fun _ _ => rfl⟩
        · unfold in_J
          rw [if_pos hok, if_neg (by omega)]; exact hJ3
        · unfold in_J in_W
          rw [if_pos hok, if_neg (show ¬ l.length = nn + 4 by omega), if_neg (show ¬ (ib_ok l nn = true ∧ l.length = nn + 4) from fun z => absurd z.2 (by omega))]
          refine Or.inr (Or.inl ⟨hJ2, k7, ?_⟩)
          show K 146 0 = Int32.ofNat (am_u1 W 29 l 29).length ∧ (am_u1 W 29 l 29).length ≤ 23 ∧ byl (am_u1 W 29 l 29) ∧ eqL (am_u1 W 29 l 29) (K 145) (48 * 0)
          rw [u1_at]
          exact ⟨k6, by omega, hb, k5⟩
      · have hx2 : l.length = nn + 4 := by omega
        refine Or.inr ⟨am_u1 (am_u2 (am_u2 K 147 0 (Int32.ofNat 0)) 130 27 (Int32.ofNat nn)) 150 (ovw 0 (l.drop 4) (K 150)), l.drop 4, fun K1 hH e W0 J0 g L he => ?_, ?_, ?_, ?_, byl_drop 4 hb, ?_, ?_, ?_, ?_, ?_, ?_⟩
        · refine c90_dc (n0 := n0) (W := W0) (J := jn J0 K) (J1 := jn J0 K1) (by decide) (by omega) (hk9 J0) k6 (by omega) hn hn2 f1 f2 f3 f4 f5 hx2 he rfl (fun e2 he2 => ?_)
          have := hH e2 W0 J0 g L he2
          rw [← jn_u1r (by decide), ← jn_u2r (by decide), ← jn_u2r (by decide)] at this
          exact this
        · unfold in_J
          rw [if_pos hok, if_pos hx2, u2_at]
        · unfold in_W
          rw [if_pos ⟨hok, hx2⟩]
          show am_u1 (am_u1 W 29 l) 27 ((l.drop 4).take nn) 27 = _
          rw [u1_at, List.take_of_length_le (by rw [List.length_drop]; omega)]
        · rw [List.length_drop]; omega
        · rw [u1_ne _ _ (by decide), u2_at, List.length_drop, show l.length - 4 = nn by omega]
        · rw [u1_at]; exact eqL_ovw _ _ _
        · unfold in_J
          rw [if_pos hok, if_pos hx2]
          refine Or.inl ⟨by rw [u2_k _ _ (by decide), u2_at], ?_⟩
          rw [u1_ne _ _ (by decide), u2_a _ _ (by decide), u2_at]
        · exact kEq_tr (kEq_of fun c c1 c2 => by rw [u1_ne _ _ (by omega), u2_a _ _ (by omega)]) (kq _)
        · intro c c1 c2 c3
          rw [u1_ne _ _ c3, u2_a _ _ c1, u2_a _ _ c2]
        · intro f hf
          rw [u1_ne _ _ (by decide), u2_k _ _ hf, u2_a _ _ (by decide)]
    · have hok : ¬ ib_ok l nn = true := ib_f fun z => hF ⟨z.1, (z.2.2.resolve_left h4).1, (z.2.2.resolve_left h4).2.1, (z.2.2.resolve_left h4).2.2, z.2.1⟩
      refine Or.inl ⟨am_u2 K 147 0 (Int32.ofNat 0), fun e W0 J0 g L he => ?_, ?_, ?_, kq _, fun c hc => u2_a _ _ hc⟩
      · have := c90_x (n0 := n0) (W := W0) (J := jn J0 K) (g := g) (L := L) (e := e) (dv := 0) (l := l) (nn := nn) (by decide) (by omega) (hk9 J0) k6 (by omega) hn hn2 hF
        rw [jn_u2r (by decide)] at this
        exact this
      · unfold in_J
        rw [if_neg hok, u2_k _ _ (by decide)]; exact hJ3
      · unfold in_J
        rw [if_neg hok]
        exact Or.inl ⟨by rw [u2_at], by rw [u2_at]⟩
theorem in_W_fr_c {l : List Int32} {nn c : Nat} (h1 : ¬ c = 29) (h2 : ¬ c = 27) : in_W 26 W l nn c = W c := by
  unfold in_W
  by_cases h : ib_ok l nn = true ∧ l.length = nn + 4
  · rw [if_pos h]
    show am_u1 (am_u1 W 29 l) 27 _ c = _
    rw [u1_ne _ _ h2, u1_ne _ _ h1]
  · rw [if_neg h]
    show am_u1 W 29 l c = _
    rw [u1_ne _ _ h1]
theorem in_J_fr_c {l : List Int32} {nn c : Nat} (h1 : ¬ c = 26) : in_J 26 J l nn c = J c := by
  unfold in_J
  by_cases h : ib_ok l nn = true
  · rw [if_pos h]
    by_cases h2 : l.length = nn + 4
    · rw [if_pos h2, u2_a _ _ h1, u2_a _ _ h1]
    · rw [if_neg h2]
  · rw [if_neg h, u2_a _ _ h1]
theorem jn_in_c {K0 : bw_J} {l : List Int32} {nn : Nat} : in_J 26 (jn J K0) l nn = jn (in_J 26 J l nn) K0 := by
  unfold in_J
  by_cases h : ib_ok l nn = true
  · rw [if_pos h, if_pos h]
    by_cases h2 : l.length = nn + 4
    · rw [if_pos h2, if_pos h2, jn_u2l (by decide), jn_u2l (by decide)]
    · rw [if_neg h2, if_neg h2]
  · rw [if_neg h, if_neg h, jn_u2l (by decide)]
theorem col_c {kd s : Nat} {p : List Int32} (hI : rIn 26 29 0 W J K) (hp : W 33 = p) (hkd : kd < 4) (hs : p.getD 1 0 = Int32.ofNat s) (hs1 : 1 ≤ s) (hs7 : s ≤ 7) (hpl : s + 5 = p.length) (hb : byl p) (hK : ∀ k, k < p.length → K 132 k = p.getD k 0) (hdn : J 26 3 = 0) : ∃ (W' : bw_W) (J' : bw_J),
    (∀ (d : Nat) (K0 : bw_J) (g : Nat) (L : bw_L), 3 ≤ d → bm d (S0 n0) R0 74 [.ref 26, .int (Int32.ofNat kd), .ref 33] W (jn J K0) g L (bR none W' (jn J' K0) g L)) ∧ (∀ c, ¬ c = 29 → ¬ c = 27 → W' c = W c) ∧ (∀ c, ¬ c = 26 → J' c = J c) ∧
    ((∃ K', (∀ (d : Nat) (W0 : bw_W) (J0 : bw_J) (g : Nat) (L : bw_L), 7 ≤ d → bm d (S0 n0) R0 152 [.ref 130, .int (Int32.ofNat 0), .int (Int32.ofNat kd)] W0 (jn J0 K) g L (bR none W0 (jn J0 K') g L)) ∧ J' 26 3 = 0 ∧ rIn 26 29 0 W' J' K' ∧ kEq 1 K' K ∧ (∀ c, c < 145 ∨ 147 < c → K' c = K c)) ∨
    (∃ Kd m, (∀ K1, (∀ (e : Nat) (W0 : bw_W) (J0 : bw_J) (g : Nat) (L : bw_L), 6 ≤ e → bm e (S0 n0) R0 153 [.ref 130] W0 (jn J0 Kd) g L (bR none W0 (jn J0 K1) g L)) → ∀ (d : Nat) (W0 : bw_W) (J0 : bw_J) (g : Nat) (L : bw_L), 7 ≤ d → bm d (S0 n0) R0 152 [.ref 130, .int (Int32.ofNat 0), .int (Int32.ofNat kd)] W0 (jn J0 K) g L (bR none W0 (jn J0 K1) g L)) ∧ J' 26 3 = 1 ∧ W' 27 = m ∧ m.length ≤ 20 ∧ byl m ∧ Kd 130 27 = Int32.ofNat m.length ∧ eqL m (Kd 150) 0 ∧ rIn 26 29 0 W' J' Kd ∧ kEq 1 Kd K ∧ (∀ c, ¬ c = 130 → ¬ c = 150 → c < 145 ∨ 147 < c → Kd c = K c) ∧ (∀ f, ¬ f = 27 → Kd 130 f = K 130 f))) := by
  have hpb : byl ((p.drop 2).take s) := byl_take s (byl_drop 2 hb)
  have hpn : ((p.drop 2).take s).length = s := by rw [List.length_take, List.length_drop]; omega
  -- a row goes on in both
  have go : ∀ (W2 : bw_W) (J2 K2 Kc : bw_J) (l : List Int32), J2 26 2 = 1 → J2 26 3 = 0 → 1 ≤ l.length → l.length ≤ 30 → byl l → Kc 146 0 = Int32.ofNat l.length → eqL l (Kc 145) (48 * 0) → Kc 147 0 = Int32.ofNat 1 → kEq 1 Kc K → (∀ c, c < 145 ∨ 147 < c → Kc c = K c) → (∀ (K' : bw_J), (∀ (e : Nat) (W0 : bw_W) (J0 : bw_J) (g : Nat) (L : bw_L), 6 ≤ e → bT e (S0 n0) R0 mt_Mo_collect (bR none W0 (jn J0 K') g L) 90 [(0, .ref 130), (1, .int (Int32.ofNat 0))] [] W0 (jn J0 Kc) g L 0 0) → ∀ (d : Nat) (W0 : bw_W) (J0 : bw_J) (g : Nat) (L : bw_L), 7 ≤ d → bm d (S0 n0) R0 152 [.ref 130, .int (Int32.ofNat 0), .int (Int32.ofNat kd)] W0 (jn J0 K) g L (bR none W0 (jn J0 K') g L)) → (∀ nn, l.getD 0 0 = Int32.ofNat nn → nn < 256 → ∀ (d : Nat) (K0 : bw_J) (g : Nat) (L : bw_L), 3 ≤ d → bm d (S0 n0) R0 74 [.ref 26, .int (Int32.ofNat kd), .ref 33] W (jn J K0) g L (bR none (in_W 26 W2 l nn) (jn (in_J 26 J2 l nn) K0) g L)) → (∀ c, ¬ c = 29 → ¬ c = 27 → W2 c = W c) → (∀ c, ¬ c = 26 → J2 c = J c) → ∃ (W' : bw_W) (J' : bw_J),
      (∀ (d : Nat) (K0 : bw_J) (g : Nat) (L : bw_L), 3 ≤ d → bm d (S0 n0) R0 74 [.ref 26, .int (Int32.ofNat kd), .ref 33] W (jn J K0) g L (bR none W' (jn J' K0) g L)) ∧ (∀ c, ¬ c = 29 → ¬ c = 27 → W' c = W c) ∧ (∀ c, ¬ c = 26 → J' c = J c) ∧
      ((∃ K', (∀ (d : Nat) (W0 : bw_W) (J0 : bw_J) (g : Nat) (L : bw_L), 7 ≤ d → bm d (S0 n0) R0 152 [.ref 130, .int (Int32.ofNat 0), .int (Int32.ofNat kd)] W0 (jn J0 K) g L (bR none W0 (jn J0 K') g L)) ∧ J' 26 3 = 0 ∧ rIn 26 29 0 W' J' K' ∧ kEq 1 K' K ∧ (∀ c, c < 145 ∨ 147 < c → K' c = K c)) ∨
      (∃ Kd m, (∀ K1, (∀ (e : Nat) (W0 : bw_W) (J0 : bw_J) (g : Nat) (L : bw_L), 6 ≤ e → bm e (S0 n0) R0 153 [.ref 130] W0 (jn J0 Kd) g L (bR none W0 (jn J0 K1) g L)) → ∀ (d : Nat) (W0 : bw_W) (J0 : bw_J) (g : Nat) (L : bw_L), 7 ≤ d → bm d (S0 n0) R0 152 [.ref 130, .int (Int32.ofNat 0), .int (Int32.ofNat kd)] W0 (jn J0 K) g L (bR none W0 (jn J0 K1) g L)) ∧ J' 26 3 = 1 ∧ W' 27 = m ∧ m.length ≤ 20 ∧ byl m ∧ Kd 130 27 = Int32.ofNat m.length ∧ eqL m (Kd 150) 0 ∧ rIn 26 29 0 W' J' Kd ∧ kEq 1 Kd K ∧ (∀ c, ¬ c = 130 → ¬ c = 150 → c < 145 ∨ 147 < c → Kd c = K c) ∧ (∀ f, ¬ f = 27 → Kd 130 f = K 130 f))) := by
    intro W2 J2 K2 Kc l a1 a2 a3 a4 a5 a6 a7 a8 a9 a10 a11 a12 a13 a14
    obtain ⟨nn, hn2, hn⟩ := byl_n a5 0
    refine ⟨in_W 26 W2 l nn, in_J 26 J2 l nn, a12 nn hn hn2, fun c c1 c2 => by rw [in_W_fr_c c1 c2]; exact a13 c c1 c2, fun c c1 => by rw [in_J_fr_c c1]; exact a14 c c1, ?_⟩
    rcases app_c (n0 := n0) (W := W2) (J := J2) (K := Kc) a3 a4 a5 hn hn2 a1 a2 a6 a7 a8 with ⟨K', b1, b2, b3, b4, b5⟩ | ⟨Kd, m, b1, b2, b3, b4, b5, b6, b7, b8, b9, b10, b11⟩
    · exact Or.inl ⟨K', a11 K' b1, b2, b3, kEq_tr b4 a9, fun c hc => by rw [b5 c (by omega)]; exact a10 c hc⟩
    · refine Or.inr ⟨Kd, m, fun K1 hH => a11 K1 (b1 K1 hH), b2, b3, b4, b5, b6, b7, b8, kEq_tr b9 a9, fun c c1 c2 c3 => ?_, fun f hf => ?_⟩
      · rw [b10 c c1 (by omega) c2]; exact a10 c c3
      · rw [b11 f hf, a10 130 (by decide)]
  have kq : ∀ (K2 : bw_J), (∀ x, ¬ x = 145 → K2 x 1 = K x 1) → (∀ k, k < 48 → K2 145 (48 * 1 + k) = K 145 (48 * 1 + k)) → (∀ x, x = 139 ∨ x = 140 ∨ x = 141 ∨ x = 148 → K2 x = K x) → kEq 1 K2 K := fun K2 a0 a1 a2 => ⟨fun x a b c d e f i => a0 x f, fun k _ => by rw [a2 139 (by decide)], fun k _ => by rw [a2 141 (by decide)], fun k _ => by rw [a2 140 (by decide)], a1, fun k _ => by rw [a2 148 (by decide)]⟩
  by_cases hk2 : kd = 2
  · subst hk2
    refine go (am_u1 W 29 []) (am_u2 J 26 2 1) K (am_u2 (am_u1 (am_u2 (am_u2 K 146 0 (Int32.ofNat 0)) 147 0 (Int32.ofNat 1)) 145 (ovw (48 * 0 + 0) ((p.drop 2).take s) (K 145))) 146 0 (Int32.ofNat (0 + s))) ((p.drop 2).take s) (u2_at _ _ _ _) (by rw [u2_k _ _ (by decide)]; exact hdn) (by omega) (by omega) hpb ?_ ?_ rfl ?_ ?_ ?_ ?_ ?_ ?_
    · rw [u2_at, hpn, Nat.zero_add]
    · rw [u2_a _ _ (by decide), u1_at]; exact eqL_ovw _ _ _
    · refine kq _ (fun x hx => ?_) (fun k hk => ?_) (fun x hx => ?_)
      · by_cases g1 : x = 146 ∨ x = 147
        · rcases g1 with rfl | rfl <;> rfl
        · rw [u2_a _ _ (by omega), u1_ne _ _ hx, u2_a _ _ (by omega), u2_a _ _ (by omega)]
      · rw [u2_a _ _ (by decide), u1_at, ovw_ou (by rw [hpn]; omega)]
      · rw [u2_a _ _ (by omega), u1_ne _ _ (by omega), u2_a _ _ (by omega), u2_a _ _ (by omega)]
    · intro c hc
      rw [u2_a _ _ (by omega), u1_ne _ _ (by omega), u2_a _ _ (by omega), u2_a _ _ (by omega)]
    · intro K' hK' d W0 J0 g L hd
      refine mo_col2 (n0 := n0) (W := W0) (J := jn J0 K) (J1 := jn J0 K') (dv := 0) (p := p) (s := s) hd (by decide) hK hs hs7 hpl (fun e he => ?_)
      have := hK' e W0 J0 g L he
      rw [← jn_u2r (by decide), ← jn_u1r (by decide), ← jn_u2r (by decide), ← jn_u2r (by decide)] at this
      exact this
    · intro nn hn hn2 d K0 g L hd
      have := in_take2_c (n0 := n0) (W := W) (J := jn J K0) (g := g) (L := L) (s := s) (nn := nn) hd (by rw [hp]; exact hs) hs7 (l := (p.drop 2).take s) (by rw [hp]) hn hn2
      rw [jn_u2l (by decide), jn_in_c] at this
      exact this
    · intro c c1 c2; rw [u1_ne _ _ c1]
    · intro c c1; rw [u2_a _ _ c1]
  · rcases hI with ⟨e1, e2⟩ | ⟨e1, e2, e3, e4, e5, e6⟩ | ⟨e1, e2, l, nn, e3, e4, e5, e6, e7, e8, e9, e10⟩
    · refine ⟨W, J, fun d K0 g L hd => in_take0_c (n0 := n0) (W := W) (J := jn J K0) (g := g) (L := L) hd hkd hk2 (fun _ => e1), fun _ _ _ => rfl, fun _ _ => rfl, Or.inl ⟨K, fun d W0 J0 g L hd => mo_col0 (n0 := n0) (W := W0) (J := jn J0 K) (g := g) (L := L) (dv := 0) hd (by decide) hkd hk2 (bg := 0) e2 (by decide) (fun _ => rfl), hdn, Or.inl ⟨e1, e2⟩, kEq_rf _ _, fun _ _ => rfl⟩⟩
    · by_cases hk1 : kd = 1
      · subst hk1
        have hll : (W 29 ++ (p.drop 2).take s).length = (W 29).length + s := by rw [List.length_append, hpn]
        refine go W J K (am_u2 (am_u1 K 145 (ovw (48 * 0 + (W 29).length) ((p.drop 2).take s) (K 145))) 146 0 (Int32.ofNat ((W 29).length + s))) (W 29 ++ (p.drop 2).take s) e1 hdn (by omega) (by omega) (byl_app e5 hpb) ?_ ?_ e2 ?_ ?_ ?_ ?_ (fun _ _ _ => rfl) (fun _ _ => rfl)
        · rw [u2_at, hll]
        · rw [u2_a _ _ (by decide), u1_at]; exact eqL_app e6
        · refine kq _ (fun x hx => ?_) (fun k hk => ?_) (fun x hx => ?_)
          · by_cases g1 : x = 146
            · subst g1; rfl
            · rw [u2_a _ _ (by omega), u1_ne _ _ hx]
          · rw [u2_a _ _ (by decide), u1_at, ovw_ou (by rw [hpn]; omega)]
          · rw [u2_a _ _ (by omega), u1_ne _ _ (by omega)]
        · intro c hc
          rw [u2_a _ _ (by omega), u1_ne _ _ (by omega)]
        · intro K' hK' d W0 J0 g L hd
          refine mo_col1 (n0 := n0) (W := W0) (J := jn J0 K) (J1 := jn J0 K') (dv := 0) (p := p) (s := s) (cm := (W 29).length) hd (by decide) e2 hK hs hs7 hpl (by omega) e3 (fun e he => ?_)
          have := hK' e W0 J0 g L he
          rw [← jn_u2r (by decide), ← jn_u1r (by decide)] at this
          exact this
        · intro nn hn hn2 d K0 g L hd
          have := in_take1_c (n0 := n0) (W := W) (J := jn J K0) (g := g) (L := L) (s := s) (nn := nn) hd (by rw [hp]; exact hs) hs7 (l := W 29 ++ (p.drop 2).take s) (by omega) e1 (by rw [hp]) hn hn2
          rw [jn_in_c] at this
          exact this
      · exact ⟨W, J, fun d K0 g L hd => in_take0_c (n0 := n0) (W := W) (J := jn J K0) (g := g) (L := L) hd hkd hk2 (fun z => absurd z hk1), fun _ _ _ => rfl, fun _ _ => rfl, Or.inl ⟨K, fun d W0 J0 g L hd => mo_col0 (n0 := n0) (W := W0) (J := jn J0 K) (g := g) (L := L) (dv := 0) hd (by decide) hkd hk2 (bg := 1) e2 (by decide) (fun z => absurd z hk1), hdn, Or.inr (Or.inl ⟨e1, e2, e3, e4, e5, e6⟩), kEq_rf _ _, fun _ _ => rfl⟩⟩
    · by_cases hk1 : kd = 1
      · subst hk1
        have hll : (l ++ (p.drop 2).take s).length = l.length + s := by rw [List.length_append, hpn]
        have hg0 : (l ++ (p.drop 2).take s).getD 0 0 = Int32.ofNat nn := by rw [List.getD_eq_getElem?_getD, List.getElem?_append_left (by omega), ← List.getD_eq_getElem?_getD]; exact e8
        refine ⟨W, J, fun d K0 g L hd => in_take0_c (n0 := n0) (W := W) (J := jn J K0) (g := g) (L := L) hd hkd hk2 (fun _ => e1), fun _ _ _ => rfl, fun _ _ => rfl, Or.inl ?_⟩
        have hq : ∀ J0 : bw_J, eqL (l ++ (p.drop 2).take s) ((jn J0 (am_u2 (am_u1 K 145 (ovw (48 * 0 + l.length) ((p.drop 2).take s) (K 145))) 146 0 (Int32.ofNat (l.length + s)))) 145) (48 * 0) := fun J0 => by
          rw [jn_ge (by decide), u2_a _ _ (by decide), u1_at]; exact eqL_app e7
        have hkk : kEq 1 (am_u2 (am_u1 K 145 (ovw (48 * 0 + l.length) ((p.drop 2).take s) (K 145))) 146 0 (Int32.ofNat (l.length + s))) K := by
          refine kq _ (fun x hx => ?_) (fun k hk => ?_) (fun x hx => ?_)
          · by_cases g1 : x = 146
            · subst g1; rfl
            · rw [u2_a _ _ (by omega), u1_ne _ _ hx]
          · rw [u2_a _ _ (by decide), u1_at, ovw_ou (by rw [hpn]; omega)]
          · rw [u2_a _ _ (by omega), u1_ne _ _ (by omega)]
        by_cases h4 : l.length + s < 4
        · refine ⟨am_u2 (am_u1 K 145 (ovw (48 * 0 + l.length) ((p.drop 2).take s) (K 145))) 146 0 (Int32.ofNat (l.length + s)), fun d W0 J0 g L hd => ?_, hdn, Or.inr (Or.inr ⟨e1, ?_, l ++ (p.drop 2).take s, nn, ?_, by omega, by omega, byl_app e6 hpb, (by rw [u2_a _ _ (by decide), u1_at]; exact eqL_app e7), hg0, e9, e10⟩), hkk, fun c hc => by rw [u2_a _ _ (by omega), u1_ne _ _ (by omega)]⟩
          · refine mo_col1 (n0 := n0) (W := W0) (J := jn J0 K) (dv := 0) (p := p) (s := s) (cm := l.length) hd (by decide) e2 hK hs hs7 hpl (by omega) e3 (fun e he => ?_)
            rw [jn_ge (c := 145) (by decide), jn_u1r (by decide), jn_u2r (by decide)]
            exact c90_s (by decide) (by omega) (hq J0) (by rw [hll]; rfl) (by omega)
          · rw [u2_a _ _ (by decide), u1_ne _ _ (by decide)]; exact e2
          · rw [u2_at, hll]
        · refine ⟨am_u2 (am_u2 (am_u1 K 145 (ovw (48 * 0 + l.length) ((p.drop 2).take s) (K 145))) 146 0 (Int32.ofNat (l.length + s))) 147 0 (Int32.ofNat 0), fun d W0 J0 g L hd => ?_, hdn, Or.inl ⟨e1, u2_at _ _ _ _⟩, ?_, fun c hc => by rw [u2_a _ _ (by omega), u2_a _ _ (by omega), u1_ne _ _ (by omega)]⟩
          · refine mo_col1 (n0 := n0) (W := W0) (J := jn J0 K) (dv := 0) (p := p) (s := s) (cm := l.length) hd (by decide) e2 hK hs hs7 hpl (by omega) e3 (fun e he => ?_)
            rw [jn_ge (c := 145) (by decide), jn_u1r (by decide), jn_u2r (by decide), ← jn_u2r (by decide)]
            exact c90_x (nn := nn) (by decide) (by omega) (hq J0) (by rw [hll]; rfl) (by omega) hg0 e10 (fun z => absurd z.1 (by omega))
          · refine kEq_tr ?_ hkk
            exact ⟨fun y a b c d e f i => by
              by_cases h : y = 147
              · subst h; rfl
              · rw [u2_a _ _ h], fun k hk => rfl, fun k hk => rfl, fun k hk => rfl, fun k hk => rfl, fun k hk => rfl⟩
      · exact ⟨W, J, fun d K0 g L hd => in_take0_c (n0 := n0) (W := W) (J := jn J K0) (g := g) (L := L) hd hkd hk2 (fun z => absurd z hk1), fun _ _ _ => rfl, fun _ _ => rfl, Or.inl ⟨K, fun d W0 J0 g L hd => mo_col0 (n0 := n0) (W := W0) (J := jn J0 K) (g := g) (L := L) (dv := 0) hd (by decide) hkd hk2 (bg := 1) e2 (by decide) (fun z => absurd z hk1), hdn, Or.inr (Or.inr ⟨e1, e2, l, nn, e3, e4, e5, e6, e7, e8, e9, e10⟩), kEq_rf _ _, fun _ _ => rfl⟩⟩
end COc
section COs
variable {n0 : Nat} {W : bw_W} {J K : bw_J}
/-- behind the bytes: l the row as it is now -/
theorem app_s {l : List Int32} {nn : Nat} (hl1 : 1 ≤ l.length) (hl : l.length ≤ 30) (hb : byl l) (hn : l.getD 0 0 = Int32.ofNat nn) (hn2 : nn < 256) (hJ2 : J 56 2 = 1) (hJ3 : J 56 3 = 0) (k6 : K 146 1 = Int32.ofNat l.length) (k5 : eqL l (K 145) (48 * 1)) (k7 : K 147 1 = Int32.ofNat 1) :
    (∃ K', (∀ (e : Nat) (W0 : bw_W) (J0 : bw_J) (g : Nat) (L : bw_L), 6 ≤ e → bT e (S0 n0) R0 mt_Mo_collect (bR none W0 (jn J0 K') g L) 90 [(0, .ref 130), (1, .int (Int32.ofNat 1))] [] W0 (jn J0 K) g L 0 0) ∧ (in_J 56 J l nn) 56 3 = 0 ∧ rIn 56 59 1 (in_W 56 W l nn) (in_J 56 J l nn) K' ∧ kEq 0 K' K ∧ (∀ c, ¬ c = 147 → K' c = K c)) ∨
    (∃ Kd m, (∀ K1, (∀ (e : Nat) (W0 : bw_W) (J0 : bw_J) (g : Nat) (L : bw_L), 5 ≤ e → bm e (S0 n0) R0 160 [.ref 130] W0 (jn J0 Kd) g L (bR none W0 (jn J0 K1) g L)) → ∀ (e : Nat) (W0 : bw_W) (J0 : bw_J) (g : Nat) (L : bw_L), 6 ≤ e → bT e (S0 n0) R0 mt_Mo_collect (bR none W0 (jn J0 K1) g L) 90 [(0, .ref 130), (1, .int (Int32.ofNat 1))] [] W0 (jn J0 K) g L 0 0) ∧ (in_J 56 J l nn) 56 3 = 1 ∧ (in_W 56 W l nn) 57 = m ∧ m.length ≤ 20 ∧ byl m ∧ Kd 130 27 = Int32.ofNat m.length ∧ eqL m (Kd 150) 0 ∧ rIn 56 59 1 (in_W 56 W l nn) (in_J 56 J l nn) Kd ∧ kEq 0 Kd K ∧ (∀ c, ¬ c = 130 → ¬ c = 147 → ¬ c = 150 → Kd c = K c) ∧ (∀ f, ¬ f = 27 → Kd 130 f = K 130 f)) := by
  have hk9 : ∀ J0 : bw_J, ∀ k, k < l.length → (jn J0 K) 145 (48 * 1 + k) = l.getD k 0 := fun J0 => k5
  have kq : ∀ x, kEq 0 (am_u2 K 147 1 x) K := fun x => ⟨fun y a b c d e f i => by
    by_cases h : y = 147
    · subst h; rfl
    · rw [u2_a _ _ h], fun k hk => rfl, fun k hk => rfl, fun k hk => rfl, fun k hk => rfl, fun k hk => rfl⟩
  by_cases h4 : l.length < 4
  · refine Or.inl ⟨K, fun e W0 J0 g L he => c90_s (by decide) (by omega) (hk9 J0) k6 h4, ?_, ?_, kEq_rf _ _, fun _ _ => rfl⟩
    · unfold in_J
      by_cases hok : ib_ok l nn = true
      · rw [if_pos hok, if_neg (by omega)]; exact hJ3
      · rw [if_neg hok, u2_k _ _ (by decide)]; exact hJ3
    · unfold in_J in_W
      by_cases h20 : nn ≤ 20
      · have hok : ib_ok l nn = true := ib_t ⟨h20, by omega, Or.inl h4⟩
        rw [if_pos hok, if_neg (show ¬ l.length = nn + 4 by omega), if_neg (show ¬ (ib_ok l nn = true ∧ l.length = nn + 4) from fun z => absurd z.2 (by omega))]
        refine Or.inr (Or.inl ⟨hJ2, k7, ?_⟩)
        show K 146 1 = Int32.ofNat (am_u1 W 59 l 59).length ∧ (am_u1 W 59 l 59).length ≤ 23 ∧ byl (am_u1 W 59 l 59) ∧ eqL (am_u1 W 59 l 59) (K 145) (48 * 1)
        rw [u1_at]
        exact ⟨k6, by omega, hb, k5⟩
      · have hok : ¬ ib_ok l nn = true := ib_f fun z => h20 z.1
        rw [if_neg hok]
        refine Or.inr (Or.inr ⟨by rw [u2_at], k7, l, nn, k6, hl1, h4, hb, k5, hn, by omega, hn2⟩)
  · by_cases hF : nn ≤ 20 ∧ l.getD 1 0 = 0 ∧ l.getD 2 0 = 4 ∧ l.getD 3 0 = 0 ∧ l.length ≤ nn + 4
    · obtain ⟨f1, f2, f3, f4, f5⟩ := hF
      have hok : ib_ok l nn = true := ib_t ⟨f1, f5, Or.inr ⟨f2, f3, f4⟩⟩
      by_cases hx : l.length < nn + 4
      · refine Or.inl ⟨K, fun e W0 J0 g L he => c90_g (by decide) (by omega) (hk9 J0) k6 (by omega) hn hn2 f1 f2 f3 f4 f5 hx, ?_, ?_, kEq_rf _ _, fun _ _ => rfl⟩
        · unfold in_J
          rw [if_pos hok, if_neg (by omega)]; exact hJ3
        · unfold in_J in_W
          rw [if_pos hok, if_neg (show ¬ l.length = nn + 4 by omega), if_neg (show ¬ (ib_ok l nn = true ∧ l.length = nn + 4) from fun z => absurd z.2 (by omega))]
          refine Or.inr (Or.inl ⟨hJ2, k7, ?_⟩)
          show K 146 1 = Int32.ofNat (am_u1 W 59 l 59).length ∧ (am_u1 W 59 l 59).length ≤ 23 ∧ byl (am_u1 W 59 l 59) ∧ eqL (am_u1 W 59 l 59) (K 145) (48 * 1)
          rw [u1_at]
          exact ⟨k6, by omega, hb, k5⟩
      · have hx2 : l.length = nn + 4 := by omega
        refine Or.inr ⟨am_u1 (am_u2 (am_u2 K 147 1 (Int32.ofNat 0)) 130 27 (Int32.ofNat nn)) 150 (ovw 0 (l.drop 4) (K 150)), l.drop 4, fun K1 hH e W0 J0 g L he => ?_, ?_, ?_, ?_, byl_drop 4 hb, ?_, ?_, ?_, ?_, ?_, ?_⟩
        · refine c90_ds (n0 := n0) (W := W0) (J := jn J0 K) (J1 := jn J0 K1) (by decide) (by omega) (hk9 J0) k6 (by omega) hn hn2 f1 f2 f3 f4 f5 hx2 he rfl (fun e2 he2 => ?_)
          have := hH e2 W0 J0 g L he2
          rw [← jn_u1r (by decide), ← jn_u2r (by decide), ← jn_u2r (by decide)] at this
          exact this
        · unfold in_J
          rw [if_pos hok, if_pos hx2, u2_at]
        · unfold in_W
          rw [if_pos ⟨hok, hx2⟩]
          show am_u1 (am_u1 W 59 l) 57 ((l.drop 4).take nn) 57 = _
          rw [u1_at, List.take_of_length_le (by rw [List.length_drop]; omega)]
        · rw [List.length_drop]; omega
        · rw [u1_ne _ _ (by decide), u2_at, List.length_drop, show l.length - 4 = nn by omega]
        · rw [u1_at]; exact eqL_ovw _ _ _
        · unfold in_J
          rw [if_pos hok, if_pos hx2]
          refine Or.inl ⟨by rw [u2_k _ _ (by decide), u2_at], ?_⟩
          rw [u1_ne _ _ (by decide), u2_a _ _ (by decide), u2_at]
        · exact kEq_tr (kEq_of fun c c1 c2 => by rw [u1_ne _ _ (by omega), u2_a _ _ (by omega)]) (kq _)
        · intro c c1 c2 c3
          rw [u1_ne _ _ c3, u2_a _ _ c1, u2_a _ _ c2]
        · intro f hf
          rw [u1_ne _ _ (by decide), u2_k _ _ hf, u2_a _ _ (by decide)]
    · have hok : ¬ ib_ok l nn = true := ib_f fun z => hF ⟨z.1, (z.2.2.resolve_left h4).1, (z.2.2.resolve_left h4).2.1, (z.2.2.resolve_left h4).2.2, z.2.1⟩
      refine Or.inl ⟨am_u2 K 147 1 (Int32.ofNat 0), fun e W0 J0 g L he => ?_, ?_, ?_, kq _, fun c hc => u2_a _ _ hc⟩
      · have := c90_x (n0 := n0) (W := W0) (J := jn J0 K) (g := g) (L := L) (e := e) (dv := 1) (l := l) (nn := nn) (by decide) (by omega) (hk9 J0) k6 (by omega) hn hn2 hF
        rw [jn_u2r (by decide)] at this
        exact this
      · unfold in_J
        rw [if_neg hok, u2_k _ _ (by decide)]; exact hJ3
      · unfold in_J
        rw [if_neg hok]
        exact Or.inl ⟨by rw [u2_at], by rw [u2_at]⟩
theorem in_W_fr_s {l : List Int32} {nn c : Nat} (h1 : ¬ c = 59) (h2 : ¬ c = 57) : in_W 56 W l nn c = W c := by
  unfold in_W
  by_cases h : ib_ok l nn = true ∧ l.length = nn + 4
  · rw [if_pos h]
    show am_u1 (am_u1 W 59 l) 57 _ c = _
    rw [u1_ne _ _ h2, u1_ne _ _ h1]
  · rw [if_neg h]
    show am_u1 W 59 l c = _
    rw [u1_ne _ _ h1]
theorem in_J_fr_s {l : List Int32} {nn c : Nat} (h1 : ¬ c = 56) : in_J 56 J l nn c = J c := by
  unfold in_J
  by_cases h : ib_ok l nn = true
  · rw [if_pos h]
    by_cases h2 : l.length = nn + 4
    · rw [if_pos h2, u2_a _ _ h1, u2_a _ _ h1]
    · rw [if_neg h2]
  · rw [if_neg h, u2_a _ _ h1]
theorem jn_in_s {K0 : bw_J} {l : List Int32} {nn : Nat} : in_J 56 (jn J K0) l nn = jn (in_J 56 J l nn) K0 := by
  unfold in_J
  by_cases h : ib_ok l nn = true
  · rw [if_pos h, if_pos h]
    by_cases h2 : l.length = nn + 4
    · rw [if_pos h2, if_pos h2, jn_u2l (by decide), jn_u2l (by decide)]
    · rw [if_neg h2, if_neg h2]
  · rw [if_neg h, if_neg h, jn_u2l (by decide)]
theorem col_s {kd s : Nat} {p : List Int32} (hI : rIn 56 59 1 W J K) (hp : W 63 = p) (hkd : kd < 4) (hs : p.getD 1 0 = Int32.ofNat s) (hs1 : 1 ≤ s) (hs7 : s ≤ 7) (hpl : s + 5 = p.length) (hb : byl p) (hK : ∀ k, k < p.length → K 132 k = p.getD k 0) (hdn : J 56 3 = 0) : ∃ (W' : bw_W) (J' : bw_J),
    (∀ (d : Nat) (K0 : bw_J) (g : Nat) (L : bw_L), 3 ≤ d → bm d (S0 n0) R0 74 [.ref 56, .int (Int32.ofNat kd), .ref 63] W (jn J K0) g L (bR none W' (jn J' K0) g L)) ∧ (∀ c, ¬ c = 59 → ¬ c = 57 → W' c = W c) ∧ (∀ c, ¬ c = 56 → J' c = J c) ∧
    ((∃ K', (∀ (d : Nat) (W0 : bw_W) (J0 : bw_J) (g : Nat) (L : bw_L), 7 ≤ d → bm d (S0 n0) R0 152 [.ref 130, .int (Int32.ofNat 1), .int (Int32.ofNat kd)] W0 (jn J0 K) g L (bR none W0 (jn J0 K') g L)) ∧ J' 56 3 = 0 ∧ rIn 56 59 1 W' J' K' ∧ kEq 0 K' K ∧ (∀ c, c < 145 ∨ 147 < c → K' c = K c)) ∨
    (∃ Kd m, (∀ K1, (∀ (e : Nat) (W0 : bw_W) (J0 : bw_J) (g : Nat) (L : bw_L), 5 ≤ e → bm e (S0 n0) R0 160 [.ref 130] W0 (jn J0 Kd) g L (bR none W0 (jn J0 K1) g L)) → ∀ (d : Nat) (W0 : bw_W) (J0 : bw_J) (g : Nat) (L : bw_L), 7 ≤ d → bm d (S0 n0) R0 152 [.ref 130, .int (Int32.ofNat 1), .int (Int32.ofNat kd)] W0 (jn J0 K) g L (bR none W0 (jn J0 K1) g L)) ∧ J' 56 3 = 1 ∧ W' 57 = m ∧ m.length ≤ 20 ∧ byl m ∧ Kd 130 27 = Int32.ofNat m.length ∧ eqL m (Kd 150) 0 ∧ rIn 56 59 1 W' J' Kd ∧ kEq 0 Kd K ∧ (∀ c, ¬ c = 130 → ¬ c = 150 → c < 145 ∨ 147 < c → Kd c = K c) ∧ (∀ f, ¬ f = 27 → Kd 130 f = K 130 f))) := by
  have hpb : byl ((p.drop 2).take s) := byl_take s (byl_drop 2 hb)
  have hpn : ((p.drop 2).take s).length = s := by rw [List.length_take, List.length_drop]; omega
  -- a row goes on in both
  have go : ∀ (W2 : bw_W) (J2 K2 Kc : bw_J) (l : List Int32), J2 56 2 = 1 → J2 56 3 = 0 → 1 ≤ l.length → l.length ≤ 30 → byl l → Kc 146 1 = Int32.ofNat l.length → eqL l (Kc 145) (48 * 1) → Kc 147 1 = Int32.ofNat 1 → kEq 0 Kc K → (∀ c, c < 145 ∨ 147 < c → Kc c = K c) → (∀ (K' : bw_J), (∀ (e : Nat) (W0 : bw_W) (J0 : bw_J) (g : Nat) (L : bw_L), 6 ≤ e → bT e (S0 n0) R0 mt_Mo_collect (bR none W0 (jn J0 K') g L) 90 [(0, .ref 130), (1, .int (Int32.ofNat 1))] [] W0 (jn J0 Kc) g L 0 0) → ∀ (d : Nat) (W0 : bw_W) (J0 : bw_J) (g : Nat) (L : bw_L), 7 ≤ d → bm d (S0 n0) R0 152 [.ref 130, .int (Int32.ofNat 1), .int (Int32.ofNat kd)] W0 (jn J0 K) g L (bR none W0 (jn J0 K') g L)) → (∀ nn, l.getD 0 0 = Int32.ofNat nn → nn < 256 → ∀ (d : Nat) (K0 : bw_J) (g : Nat) (L : bw_L), 3 ≤ d → bm d (S0 n0) R0 74 [.ref 56, .int (Int32.ofNat kd), .ref 63] W (jn J K0) g L (bR none (in_W 56 W2 l nn) (jn (in_J 56 J2 l nn) K0) g L)) → (∀ c, ¬ c = 59 → ¬ c = 57 → W2 c = W c) → (∀ c, ¬ c = 56 → J2 c = J c) → ∃ (W' : bw_W) (J' : bw_J),
      (∀ (d : Nat) (K0 : bw_J) (g : Nat) (L : bw_L), 3 ≤ d → bm d (S0 n0) R0 74 [.ref 56, .int (Int32.ofNat kd), .ref 63] W (jn J K0) g L (bR none W' (jn J' K0) g L)) ∧ (∀ c, ¬ c = 59 → ¬ c = 57 → W' c = W c) ∧ (∀ c, ¬ c = 56 → J' c = J c) ∧
      ((∃ K', (∀ (d : Nat) (W0 : bw_W) (J0 : bw_J) (g : Nat) (L : bw_L), 7 ≤ d → bm d (S0 n0) R0 152 [.ref 130, .int (Int32.ofNat 1), .int (Int32.ofNat kd)] W0 (jn J0 K) g L (bR none W0 (jn J0 K') g L)) ∧ J' 56 3 = 0 ∧ rIn 56 59 1 W' J' K' ∧ kEq 0 K' K ∧ (∀ c, c < 145 ∨ 147 < c → K' c = K c)) ∨
      (∃ Kd m, (∀ K1, (∀ (e : Nat) (W0 : bw_W) (J0 : bw_J) (g : Nat) (L : bw_L), 5 ≤ e → bm e (S0 n0) R0 160 [.ref 130] W0 (jn J0 Kd) g L (bR none W0 (jn J0 K1) g L)) → ∀ (d : Nat) (W0 : bw_W) (J0 : bw_J) (g : Nat) (L : bw_L), 7 ≤ d → bm d (S0 n0) R0 152 [.ref 130, .int (Int32.ofNat 1), .int (Int32.ofNat kd)] W0 (jn J0 K) g L (bR none W0 (jn J0 K1) g L)) ∧ J' 56 3 = 1 ∧ W' 57 = m ∧ m.length ≤ 20 ∧ byl m ∧ Kd 130 27 = Int32.ofNat m.length ∧ eqL m (Kd 150) 0 ∧ rIn 56 59 1 W' J' Kd ∧ kEq 0 Kd K ∧ (∀ c, ¬ c = 130 → ¬ c = 150 → c < 145 ∨ 147 < c → Kd c = K c) ∧ (∀ f, ¬ f = 27 → Kd 130 f = K 130 f))) := by
    intro W2 J2 K2 Kc l a1 a2 a3 a4 a5 a6 a7 a8 a9 a10 a11 a12 a13 a14
    obtain ⟨nn, hn2, hn⟩ := byl_n a5 0
    refine ⟨in_W 56 W2 l nn, in_J 56 J2 l nn, a12 nn hn hn2, fun c c1 c2 => by rw [in_W_fr_s c1 c2]; exact a13 c c1 c2, fun c c1 => by rw [in_J_fr_s c1]; exact a14 c c1, ?_⟩
    rcases app_s (n0 := n0) (W := W2) (J := J2) (K := Kc) a3 a4 a5 hn hn2 a1 a2 a6 a7 a8 with ⟨K', b1, b2, b3, b4, b5⟩ | ⟨Kd, m, b1, b2, b3, b4, b5, b6, b7, b8, b9, b10, b11⟩
    · exact Or.inl ⟨K', a11 K' b1, b2, b3, kEq_tr b4 a9, fun c hc => by rw [b5 c (by omega)]; exact a10 c hc⟩
    · refine Or.inr ⟨Kd, m, fun K1 hH => a11 K1 (b1 K1 hH), b2, b3, b4, b5, b6, b7, b8, kEq_tr b9 a9, fun c c1 c2 c3 => ?_, fun f hf => ?_⟩
      · rw [b10 c c1 (by omega) c2]; exact a10 c c3
      · rw [b11 f hf, a10 130 (by decide)]
  have kq : ∀ (K2 : bw_J), (∀ x, ¬ x = 145 → K2 x 0 = K x 0) → (∀ k, k < 48 → K2 145 (48 * 0 + k) = K 145 (48 * 0 + k)) → (∀ x, x = 139 ∨ x = 140 ∨ x = 141 ∨ x = 148 → K2 x = K x) → kEq 0 K2 K := fun K2 a0 a1 a2 => ⟨fun x a b c d e f i => a0 x f, fun k _ => by rw [a2 139 (by decide)], fun k _ => by rw [a2 141 (by decide)], fun k _ => by rw [a2 140 (by decide)], a1, fun k _ => by rw [a2 148 (by decide)]⟩
  by_cases hk2 : kd = 2
  · subst hk2
    refine go (am_u1 W 59 []) (am_u2 J 56 2 1) K (am_u2 (am_u1 (am_u2 (am_u2 K 146 1 (Int32.ofNat 0)) 147 1 (Int32.ofNat 1)) 145 (ovw (48 * 1 + 0) ((p.drop 2).take s) (K 145))) 146 1 (Int32.ofNat (0 + s))) ((p.drop 2).take s) (u2_at _ _ _ _) (by rw [u2_k _ _ (by decide)]; exact hdn) (by omega) (by omega) hpb ?_ ?_ rfl ?_ ?_ ?_ ?_ ?_ ?_
    · rw [u2_at, hpn, Nat.zero_add]
    · rw [u2_a _ _ (by decide), u1_at]; exact eqL_ovw _ _ _
    · refine kq _ (fun x hx => ?_) (fun k hk => ?_) (fun x hx => ?_)
      · by_cases g1 : x = 146 ∨ x = 147
        · rcases g1 with rfl | rfl <;> rfl
        · rw [u2_a _ _ (by omega), u1_ne _ _ hx, u2_a _ _ (by omega), u2_a _ _ (by omega)]
      · rw [u2_a _ _ (by decide), u1_at, ovw_ou (by rw [hpn]; omega)]
      · rw [u2_a _ _ (by omega), u1_ne _ _ (by omega), u2_a _ _ (by omega), u2_a _ _ (by omega)]
    · intro c hc
      rw [u2_a _ _ (by omega), u1_ne _ _ (by omega), u2_a _ _ (by omega), u2_a _ _ (by omega)]
    · intro K' hK' d W0 J0 g L hd
      refine mo_col2 (n0 := n0) (W := W0) (J := jn J0 K) (J1 := jn J0 K') (dv := 1) (p := p) (s := s) hd (by decide) hK hs hs7 hpl (fun e he => ?_)
      have := hK' e W0 J0 g L he
      rw [← jn_u2r (by decide), ← jn_u1r (by decide), ← jn_u2r (by decide), ← jn_u2r (by decide)] at this
      exact this
    · intro nn hn hn2 d K0 g L hd
      have := in_take2_s (n0 := n0) (W := W) (J := jn J K0) (g := g) (L := L) (s := s) (nn := nn) hd (by rw [hp]; exact hs) hs7 (l := (p.drop 2).take s) (by rw [hp]) hn hn2
      rw [jn_u2l (by decide), jn_in_s] at this
      exact this
    · intro c c1 c2; rw [u1_ne _ _ c1]
    · intro c c1; rw [u2_a _ _ c1]
  · rcases hI with ⟨e1, e2⟩ | ⟨e1, e2, e3, e4, e5, e6⟩ | ⟨e1, e2, l, nn, e3, e4, e5, e6, e7, e8, e9, e10⟩
    · refine ⟨W, J, fun d K0 g L hd => in_take0_s (n0 := n0) (W := W) (J := jn J K0) (g := g) (L := L) hd hkd hk2 (fun _ => e1), fun _ _ _ => rfl, fun _ _ => rfl, Or.inl ⟨K, fun d W0 J0 g L hd => mo_col0 (n0 := n0) (W := W0) (J := jn J0 K) (g := g) (L := L) (dv := 1) hd (by decide) hkd hk2 (bg := 0) e2 (by decide) (fun _ => rfl), hdn, Or.inl ⟨e1, e2⟩, kEq_rf _ _, fun _ _ => rfl⟩⟩
    · by_cases hk1 : kd = 1
      · subst hk1
        have hll : (W 59 ++ (p.drop 2).take s).length = (W 59).length + s := by rw [List.length_append, hpn]
        refine go W J K (am_u2 (am_u1 K 145 (ovw (48 * 1 + (W 59).length) ((p.drop 2).take s) (K 145))) 146 1 (Int32.ofNat ((W 59).length + s))) (W 59 ++ (p.drop 2).take s) e1 hdn (by omega) (by omega) (byl_app e5 hpb) ?_ ?_ e2 ?_ ?_ ?_ ?_ (fun _ _ _ => rfl) (fun _ _ => rfl)
        · rw [u2_at, hll]
        · rw [u2_a _ _ (by decide), u1_at]; exact eqL_app e6
        · refine kq _ (fun x hx => ?_) (fun k hk => ?_) (fun x hx => ?_)
          · by_cases g1 : x = 146
            · subst g1; rfl
            · rw [u2_a _ _ (by omega), u1_ne _ _ hx]
          · rw [u2_a _ _ (by decide), u1_at, ovw_ou (by rw [hpn]; omega)]
          · rw [u2_a _ _ (by omega), u1_ne _ _ (by omega)]
        · intro c hc
          rw [u2_a _ _ (by omega), u1_ne _ _ (by omega)]
        · intro K' hK' d W0 J0 g L hd
          refine mo_col1 (n0 := n0) (W := W0) (J := jn J0 K) (J1 := jn J0 K') (dv := 1) (p := p) (s := s) (cm := (W 59).length) hd (by decide) e2 hK hs hs7 hpl (by omega) e3 (fun e he => ?_)
          have := hK' e W0 J0 g L he
          rw [← jn_u2r (by decide), ← jn_u1r (by decide)] at this
          exact this
        · intro nn hn hn2 d K0 g L hd
          have := in_take1_s (n0 := n0) (W := W) (J := jn J K0) (g := g) (L := L) (s := s) (nn := nn) hd (by rw [hp]; exact hs) hs7 (l := W 59 ++ (p.drop 2).take s) (by omega) e1 (by rw [hp]) hn hn2
          rw [jn_in_s] at this
          exact this
      · exact ⟨W, J, fun d K0 g L hd => in_take0_s (n0 := n0) (W := W) (J := jn J K0) (g := g) (L := L) hd hkd hk2 (fun z => absurd z hk1), fun _ _ _ => rfl, fun _ _ => rfl, Or.inl ⟨K, fun d W0 J0 g L hd => mo_col0 (n0 := n0) (W := W0) (J := jn J0 K) (g := g) (L := L) (dv := 1) hd (by decide) hkd hk2 (bg := 1) e2 (by decide) (fun z => absurd z hk1), hdn, Or.inr (Or.inl ⟨e1, e2, e3, e4, e5, e6⟩), kEq_rf _ _, fun _ _ => rfl⟩⟩
    · by_cases hk1 : kd = 1
      · subst hk1
        have hll : (l ++ (p.drop 2).take s).length = l.length + s := by rw [List.length_append, hpn]
        have hg0 : (l ++ (p.drop 2).take s).getD 0 0 = Int32.ofNat nn := by rw [List.getD_eq_getElem?_getD, List.getElem?_append_left (by omega), ← List.getD_eq_getElem?_getD]; exact e8
        refine ⟨W, J, fun d K0 g L hd => in_take0_s (n0 := n0) (W := W) (J := jn J K0) (g := g) (L := L) hd hkd hk2 (fun _ => e1), fun _ _ _ => rfl, fun _ _ => rfl, Or.inl ?_⟩
        have hq : ∀ J0 : bw_J, eqL (l ++ (p.drop 2).take s) ((jn J0 (am_u2 (am_u1 K 145 (ovw (48 * 1 + l.length) ((p.drop 2).take s) (K 145))) 146 1 (Int32.ofNat (l.length + s)))) 145) (48 * 1) := fun J0 => by
          rw [jn_ge (by decide), u2_a _ _ (by decide), u1_at]; exact eqL_app e7
        have hkk : kEq 0 (am_u2 (am_u1 K 145 (ovw (48 * 1 + l.length) ((p.drop 2).take s) (K 145))) 146 1 (Int32.ofNat (l.length + s))) K := by
          refine kq _ (fun x hx => ?_) (fun k hk => ?_) (fun x hx => ?_)
          · by_cases g1 : x = 146
            · subst g1; rfl
            · rw [u2_a _ _ (by omega), u1_ne _ _ hx]
          · rw [u2_a _ _ (by decide), u1_at, ovw_ou (by rw [hpn]; omega)]
          · rw [u2_a _ _ (by omega), u1_ne _ _ (by omega)]
        by_cases h4 : l.length + s < 4
        · refine ⟨am_u2 (am_u1 K 145 (ovw (48 * 1 + l.length) ((p.drop 2).take s) (K 145))) 146 1 (Int32.ofNat (l.length + s)), fun d W0 J0 g L hd => ?_, hdn, Or.inr (Or.inr ⟨e1, ?_, l ++ (p.drop 2).take s, nn, ?_, by omega, by omega, byl_app e6 hpb, (by rw [u2_a _ _ (by decide), u1_at]; exact eqL_app e7), hg0, e9, e10⟩), hkk, fun c hc => by rw [u2_a _ _ (by omega), u1_ne _ _ (by omega)]⟩
          · refine mo_col1 (n0 := n0) (W := W0) (J := jn J0 K) (dv := 1) (p := p) (s := s) (cm := l.length) hd (by decide) e2 hK hs hs7 hpl (by omega) e3 (fun e he => ?_)
            rw [jn_ge (c := 145) (by decide), jn_u1r (by decide), jn_u2r (by decide)]
            exact c90_s (by decide) (by omega) (hq J0) (by rw [hll]; rfl) (by omega)
          · rw [u2_a _ _ (by decide), u1_ne _ _ (by decide)]; exact e2
          · rw [u2_at, hll]
        · refine ⟨am_u2 (am_u2 (am_u1 K 145 (ovw (48 * 1 + l.length) ((p.drop 2).take s) (K 145))) 146 1 (Int32.ofNat (l.length + s))) 147 1 (Int32.ofNat 0), fun d W0 J0 g L hd => ?_, hdn, Or.inl ⟨e1, u2_at _ _ _ _⟩, ?_, fun c hc => by rw [u2_a _ _ (by omega), u2_a _ _ (by omega), u1_ne _ _ (by omega)]⟩
          · refine mo_col1 (n0 := n0) (W := W0) (J := jn J0 K) (dv := 1) (p := p) (s := s) (cm := l.length) hd (by decide) e2 hK hs hs7 hpl (by omega) e3 (fun e he => ?_)
            rw [jn_ge (c := 145) (by decide), jn_u1r (by decide), jn_u2r (by decide), ← jn_u2r (by decide)]
            exact c90_x (nn := nn) (by decide) (by omega) (hq J0) (by rw [hll]; rfl) (by omega) hg0 e10 (fun z => absurd z.1 (by omega))
          · refine kEq_tr ?_ hkk
            exact ⟨fun y a b c d e f i => by
              by_cases h : y = 147
              · subst h; rfl
              · rw [u2_a _ _ h], fun k hk => rfl, fun k hk => rfl, fun k hk => rfl, fun k hk => rfl, fun k hk => rfl⟩
      · exact ⟨W, J, fun d K0 g L hd => in_take0_s (n0 := n0) (W := W) (J := jn J K0) (g := g) (L := L) hd hkd hk2 (fun z => absurd z hk1), fun _ _ _ => rfl, fun _ _ => rfl, Or.inl ⟨K, fun d W0 J0 g L hd => mo_col0 (n0 := n0) (W := W0) (J := jn J0 K) (g := g) (L := L) (dv := 1) hd (by decide) hkd hk2 (bg := 1) e2 (by decide) (fun z => absurd z hk1), hdn, Or.inr (Or.inr ⟨e1, e2, l, nn, e3, e4, e5, e6, e7, e8, e9, e10⟩), kEq_rf _ _, fun _ _ => rfl⟩⟩
end COs
