/-! Part 94 (written by gen60.py): sending, class and reference side by side -/
/-- the piece in the hand: D the class's Device, hd the row of its hand -/
def rHold (D hd dv : Nat) (W : bw_W) (J K : bw_J) : Prop := (J D 6 = 0 ∧ K 136 dv = Int32.ofNat 0) ∨ (J D 6 = 1 ∧ K 136 dv = Int32.ofNat 1 ∧ ∃ kd, kd ≤ 2 ∧ J D 5 = Int32.ofNat kd ∧ K 137 dv = Int32.ofNat kd ∧ K 138 dv = Int32.ofNat (W hd).length ∧ (W hd).length ≤ 7 ∧ byl (W hd) ∧ eqL (W hd) (K 139) (8 * dv))
theorem kE {dv : Nat} {K' K : bw_J} (h : kEq dv K' K) {x : Nat} (a : 133 ≤ x ∧ x ≤ 149 ∧ ¬ x = 139 ∧ ¬ x = 140 ∧ ¬ x = 141 ∧ ¬ x = 145 ∧ ¬ x = 148) : K' x dv = K x dv := h.1 x a.1 a.2.1 a.2.2.1 a.2.2.2.1 a.2.2.2.2.1 a.2.2.2.2.2.1 a.2.2.2.2.2.2
theorem rHold_fr {D hd dv : Nat} {W W' : bw_W} {J J' K K' : bw_J} (h : rHold D hd dv W J K) (a5 : J' D 5 = J D 5) (a6 : J' D 6 = J D 6) (b : W' hd = W hd) (c : kEq dv K' K) : rHold D hd dv W' J' K' := by
  unfold rHold at h ⊢
  rw [a5, a6, b, kE c (x := 136) (by decide), kE c (x := 137) (by decide), kE c (x := 138) (by decide)]
  rcases h with h | ⟨h1, h2, kd, h3, h4, h5, h6, h7, h8, h9⟩
  · exact Or.inl h
  · exact Or.inr ⟨h1, h2, kd, h3, h4, h5, h6, h7, h8, eqL_cg h9 fun k hk => c.2.1 k (by omega)⟩
/-- what lies on the air -/
def rAir (sn dv : Nat) (W : bw_W) (K : bw_J) : Prop := K 149 dv = Int32.ofNat (W sn).length ∧ (W sn).length ≤ 12 ∧ byl (W sn) ∧ eqL (W sn) (K 148) (16 * dv)
theorem rAir_fr {sn dv : Nat} {W W' : bw_W} {K K' : bw_J} (h : rAir sn dv W K) (b : W' sn = W sn) (c : kEq dv K' K) : rAir sn dv W' K' := by
  unfold rAir at h ⊢
  rw [b, kE c (x := 149) (by decide)]
  exact ⟨h.1, h.2.1, h.2.2.1, eqL_cg h.2.2.2 fun k hk => c.2.2.2.2.2 k (by have := h.2.1; omega)⟩
theorem if21 {p : Prop} {dp : Decidable p} : (@ite Int32 p dp 2 1) = Int32.ofNat (@ite Nat p dp 2 1) := by
  by_cases h : p
  · rw [if_pos h, if_pos h]; rfl
  · rw [if_neg h, if_neg h]; rfl
/-- an array of two, the other place -/
theorem sdJ_c {J : bw_J} {dv n : Nat} {P A : Nat → Int32} {c : Nat} (h0 : ¬ c = 130) (h1 : ¬ c = 132) (h2 : ¬ c = 148) (h3 : ¬ c = 149) : sdJ J dv n P A c = J c := by
  unfold sdJ
  rw [u1_ne _ _ h2, u2_a _ _ h3, u2_a _ _ h0, u1_ne _ _ h1]
theorem sdJ_f {J : bw_J} {dv n : Nat} {P A : Nat → Int32} {f : Nat} (h : ¬ f = 8) : sdJ J dv n P A 130 f = J 130 f := by
  unfold sdJ
  rw [u1_ne _ _ (by decide), u2_a _ _ (by decide), u2_k _ _ h, u1_ne _ _ (by decide)]
theorem sdJ_kEq {J : bw_J} {dv dv' n : Nat} {P : Nat → Int32} {a : List Int32} (hne : ¬ dv' = dv) (h2 : dv < 2) (h2' : dv' < 2) (ha : a.length ≤ 16) : kEq dv' (sdJ J dv n P (ovw (16 * dv) a (J 148))) J := by
  refine ⟨fun x a b c d e f i => ?_, fun k hk => ?_, fun k hk => ?_, fun k hk => ?_, fun k hk => ?_, fun k hk => ?_⟩
  · by_cases h3 : x = 149
    · subst h3; unfold sdJ; rw [u1_ne _ _ (by decide), u2_k _ _ hne, u2_a _ _ (by decide), u1_ne _ _ (by decide)]
    · rw [sdJ_c (by omega) (by omega) i h3]
  · rw [sdJ_c (by decide) (by decide) (by decide) (by decide)]
  · rw [sdJ_c (by decide) (by decide) (by decide) (by decide)]
  · rw [sdJ_c (by decide) (by decide) (by decide) (by decide)]
  · rw [sdJ_c (by decide) (by decide) (by decide) (by decide)]
  · unfold sdJ
    rw [u1_at, ovw_ou (by omega)]
theorem rOut_fc {o r dv : Nat} {W W' : bw_W} {J J' K K' : bw_J} {fr w ct : Nat} (h : rOut o r dv W J K fr w ct) (a : J' o = J o) (b : ∀ i, i < 8 → W' (r + 2 * i) = W (r + 2 * i)) (c : ∀ c, 140 ≤ c → c ≤ 144 → K' c = K c) : rOut o r dv W' J' K' fr w ct := by
  obtain ⟨h1, h2, h3, h4, h5, h6, h7, h8, h9, h10, h11⟩ := h
  unfold rOut
  rw [a, c 140 (by decide) (by decide), c 141 (by decide) (by decide), c 142 (by decide) (by decide), c 143 (by decide) (by decide), c 144 (by decide) (by decide), b fr h3]
  exact ⟨h1, h2, h3, h4, h5, h6, h7, h8, h9, h10, fun i hi => by rw [b i hi]; exact h11 i hi⟩
theorem jn_sd {J K : bw_J} {dv n : Nat} {P A : Nat → Int32} : sdJ (jn J K) dv n P A = jn J (sdJ K dv n P A) := by
  unfold sdJ
  rw [jn_u1r (by decide), jn_u2r (by decide), jn_u2r (by decide), jn_u1r (by decide)]
section TKc
variable {n0 : Nat} {W : bw_W} {J K : bw_J} {fr w ct : Nat}
theorem take_c (hO : rOut 8 10 0 W J K fr w ct) (hK0 : K 136 0 = Int32.ofNat 0) : ∃ (h : List Int32) (kd fr' w' ct' : Nat) (J1 K1 : bw_J),
    (∀ (d : Nat) (K0 : bw_J) (g : Nat) (L : bw_L), 2 ≤ d → bm d (S0 n0) R0 65 [.ref 8, .ref 35] W (jn J K0) g L (bR (some (.int (Int32.ofNat kd))) (am_u1 W 35 h) (jn J1 K0) g L)) ∧
    (∀ (d : Nat) (W0 : bw_W) (J0 : bw_J) (g : Nat) (L : bw_L), 1 ≤ d → bm d (S0 n0) R0 148 [.ref 130, .int (Int32.ofNat 0)] W0 (jn J0 K) g L (bR none W0 (jn J0 K1) g L)) ∧
    kd ≤ 2 ∧ h.length ≤ 7 ∧ byl h ∧ K1 138 0 = Int32.ofNat h.length ∧ eqL h (K1 139) (8 * 0) ∧ K1 137 0 = Int32.ofNat kd ∧ K1 136 0 = Int32.ofNat 1 ∧ rOut 8 10 0 (am_u1 W 35 h) J1 K1 fr' w' ct' ∧ (∀ c, ¬ c = 8 → J1 c = J c) ∧ kEq 1 K1 K ∧ (∀ c, c < 136 ∨ 144 < c → K1 c = K c) := by
  have hO' := hO
  obtain ⟨h1, h2, h3, h4, h5, h6, h7, h8, h9, h10, h11⟩ := hO
  by_cases hw : w = 0
  · subst hw
    refine ⟨[], 1, fr, 0, ct, J, am_u2 (am_u2 (am_u2 K 136 0 (Int32.ofNat 1)) 138 0 (Int32.ofNat 0)) 137 0 (Int32.ofNat 1), ?_, ?_, by decide, by decide, byl_nil, ?_, eqL_nil _ _, ?_, ?_, ?_, fun c _ => rfl, ?_, ?_⟩
    · intro d K0 g L hd
      exact ou_take0_c (n0 := n0) (W := W) (J := jn J K0) (g := g) (L := L) hd h4
    · intro d W0 J0 g L hd
      have := mo_take_0 (n0 := n0) (W := W0) (J := jn J0 K) (g := g) (L := L) (dv := 0) hd (by decide) hK0 h5
      rw [jn_u2r (by decide), jn_u2r (by decide), jn_u2r (by decide)] at this
      exact this
    · rw [u2_a _ _ (by decide), u2_at]; rfl
    · rw [u2_at]
    · rw [u2_a _ _ (by decide), u2_a _ _ (by decide), u2_at]
    · refine ⟨h1, ?_, h3, h4, ?_, h6, h7, ?_, ?_, h10, fun i hi => ?_⟩
      · exact h2
      · exact h5
      · exact h8
      · rw [u1_ne _ _ (by omega)]; exact h9
      · rw [u1_ne _ _ (by omega)]; exact h11 i hi
    · refine ⟨fun x a b c d e f i => ?_, fun k hk => rfl, fun k hk => rfl, fun k hk => rfl, fun k hk => rfl, fun k hk => rfl⟩
      by_cases g1 : x = 136
      · subst g1; rfl
      · by_cases g2 : x = 137
        · subst g2; rfl
        · by_cases g3 : x = 138
          · subst g3; rfl
          · rw [u2_a _ _ g2, u2_a _ _ g3, u2_a _ _ g1]
    · intro c hc
      rw [u2_a _ _ (by omega), u2_a _ _ (by omega), u2_a _ _ (by omega)]
  · obtain ⟨i1, i2, i3, i4⟩ := h11 fr h3
    generalize hrs : (W (10 + 2 * fr)).length = rs at h9 i1 i2
    have hq : (((W (10 + 2 * fr)).drop ct).take 7).length = min 7 (rs - ct) := by rw [List.length_take, List.length_drop, hrs]
    have hls : lst (K 140) (24 * (8 * 0 + fr) + ct) (min 7 (rs - ct)) = ((W (10 + 2 * fr)).drop ct).take 7 := by
      rw [eqL_lst i4 _ _ (by omega), ← hq]
      conv => rhs; rw [← List.take_length (l := ((W (10 + 2 * fr)).drop ct).take 7)]
      rw [List.take_take]
      congr 1
      rw [hq]; omega
    have hcls := fun (d : Nat) (K0 : bw_J) (g : Nat) (L : bw_L) (hd : 2 ≤ d) => ou_take_c (n0 := n0) (W := W) (J := jn J K0) (g := g) (L := L) hd (o := fr) (w := w) (t := ct) h1 h3 h4 (by omega) h6 h7 (by omega) (by rw [hrs]; exact i2)
    have hkd : ∃ kd, kd = (if ct = 0 then 2 else 1) ∧ kd ≤ 2 := ⟨_, rfl, by split <;> decide⟩
    obtain ⟨kd, hkd, hkd2⟩ := hkd
    simp only [if21, ← hkd, hrs, hq] at hcls
    generalize hh : ((W (10 + 2 * fr)).drop ct).take 7 = h at hq hls hcls
    have hby : byl h := by rw [← hh]; exact byl_take 7 (byl_drop ct i3)
    have hkq : ∀ (K2 : bw_J), (∀ x, ¬ x = 139 → K2 x 1 = K x 1) → (∀ k, k < 8 → K2 139 (8 * 1 + k) = K 139 (8 * 1 + k)) → K2 141 = K 141 → K2 140 = K 140 → K2 145 = K 145 → K2 148 = K 148 → kEq 1 K2 K := fun K2 a0 a1 a2 a3 a4 a5 => ⟨fun x a b c d e f i => a0 x c, a1, fun k _ => by rw [a2], fun k _ => by rw [a3], fun k _ => by rw [a4], fun k _ => by rw [a5]⟩
    by_cases hx : ct + min 7 (rs - ct) = rs
    · simp only [if_pos (show rs ≤ ct + min 7 (rs - ct) by omega)] at hcls
      refine ⟨h, kd, (fr + 1) % 8, w - 1, 0, am_u2 (am_u2 (am_u2 (am_u2 J 8 3 (Int32.ofNat (ct + min 7 (rs - ct)))) 8 1 (Int32.ofNat ((fr + 1) % 8))) 8 2 (Int32.ofNat (w - 1))) 8 3 (Int32.ofNat 0), am_u2 (am_u2 (am_u2 (am_u2 (am_u2 (am_u1 (am_u2 (am_u2 (am_u2 (am_u2 K 136 0 (Int32.ofNat 1)) 138 0 (Int32.ofNat 0)) 137 0 (Int32.ofNat 1)) 137 0 (Int32.ofNat kd)) 139 (ovw (8 * 0) h (K 139))) 138 0 (Int32.ofNat (min 7 (rs - ct)))) 144 0 (Int32.ofNat (ct + min 7 (rs - ct)))) 144 0 (Int32.ofNat 0)) 142 0 (Int32.ofNat ((fr + 1) % 8))) 143 0 (Int32.ofNat (w - 1)), ?_, ?_, hkd2, by omega, hby, ?_, ?_, ?_, ?_, ?_, ?_, ?_, ?_⟩
      · intro d K0 g L hd
        have := hcls d K0 g L hd
        rw [jn_u2l (by decide), jn_u2l (by decide), jn_u2l (by decide), jn_u2l (by decide)] at this
        exact this
      · intro d W0 J0 g L hd
        have := mo_take_2 (n0 := n0) (W := W0) (J := jn J0 K) (g := g) (L := L) (dv := 0) hd (by decide) hK0 h2 h3 h5 (by omega) h6 h8 i1 i2 h9 hkd hx
        rw [show lst ((jn J0 K) 140) (24 * (8 * 0 + fr) + ct) (min 7 (rs - ct)) = h from hls, jn_ge (c := 139) (by decide)] at this
        simp only [jn_u2r (show ¬ 136 < 130 by decide), jn_u2r (show ¬ 137 < 130 by decide), jn_u2r (show ¬ 138 < 130 by decide), jn_u1r (show ¬ 139 < 130 by decide), jn_u2r (show ¬ 144 < 130 by decide), jn_u2r (show ¬ 142 < 130 by decide), jn_u2r (show ¬ 143 < 130 by decide)] at this
        exact this
      · rw [u2_a _ _ (by decide), u2_a _ _ (by decide), u2_a _ _ (by decide), u2_a _ _ (by decide), u2_at, hq]
      · exact eqL_ovw _ _ _
      · rfl
      · rfl
      · refine ⟨?_, ?_, Nat.mod_lt _ (by decide), ?_, ?_, by omega, ?_, ?_, Nat.zero_le _, fun _ => rfl, fun i hi => ?_⟩
        · rw [u2_k _ _ (by decide), u2_k _ _ (by decide), u2_at]
        · rw [u2_a _ _ (by decide), u2_at]
        · rw [u2_k _ _ (by decide), u2_at]
        · rw [u2_at]
        · rw [u2_at]
        · rw [u2_a _ _ (by decide), u2_a _ _ (by decide), u2_at]
        · rw [u1_ne _ _ (by omega)]; exact h11 i hi
      · intro c hc
        rw [u2_a _ _ hc, u2_a _ _ hc, u2_a _ _ hc, u2_a _ _ hc]
      · refine hkq _ (fun x hx9 => ?_) (fun k hk => ?_) rfl rfl rfl rfl
        · by_cases g1 : x = 136 ∨ x = 137 ∨ x = 138 ∨ x = 142 ∨ x = 143 ∨ x = 144
          · rcases g1 with rfl | rfl | rfl | rfl | rfl | rfl <;> rfl
          · rw [u2_a _ _ (by omega), u2_a _ _ (by omega), u2_a _ _ (by omega), u2_a _ _ (by omega), u2_a _ _ (by omega), u1_ne _ _ hx9, u2_a _ _ (by omega), u2_a _ _ (by omega), u2_a _ _ (by omega), u2_a _ _ (by omega)]
        · show ovw (8 * 0) h (K 139) (8 * 1 + k) = _
          rw [ovw_ou (by omega)]
      · intro c hc
        rw [u2_a _ _ (by omega), u2_a _ _ (by omega), u2_a _ _ (by omega), u2_a _ _ (by omega), u2_a _ _ (by omega), u1_ne _ _ (by omega), u2_a _ _ (by omega), u2_a _ _ (by omega), u2_a _ _ (by omega), u2_a _ _ (by omega)]
    · simp only [if_neg (show ¬ rs ≤ ct + min 7 (rs - ct) by omega)] at hcls
      refine ⟨h, kd, fr, w, ct + min 7 (rs - ct), am_u2 J 8 3 (Int32.ofNat (ct + min 7 (rs - ct))), am_u2 (am_u2 (am_u1 (am_u2 (am_u2 (am_u2 (am_u2 K 136 0 (Int32.ofNat 1)) 138 0 (Int32.ofNat 0)) 137 0 (Int32.ofNat 1)) 137 0 (Int32.ofNat kd)) 139 (ovw (8 * 0) h (K 139))) 138 0 (Int32.ofNat (min 7 (rs - ct)))) 144 0 (Int32.ofNat (ct + min 7 (rs - ct))), ?_, ?_, hkd2, by omega, hby, ?_, ?_, ?_, ?_, ?_, ?_, ?_, ?_⟩
      · intro d K0 g L hd
        have := hcls d K0 g L hd
        rw [jn_u2l (by decide)] at this
        exact this
      · intro d W0 J0 g L hd
        have := mo_take_1 (n0 := n0) (W := W0) (J := jn J0 K) (g := g) (L := L) (dv := 0) hd (by decide) hK0 h2 h3 h5 (by omega) h6 h8 i1 i2 h9 hkd hx
        rw [show lst ((jn J0 K) 140) (24 * (8 * 0 + fr) + ct) (min 7 (rs - ct)) = h from hls, jn_ge (c := 139) (by decide)] at this
        simp only [jn_u2r (show ¬ 136 < 130 by decide), jn_u2r (show ¬ 137 < 130 by decide), jn_u2r (show ¬ 138 < 130 by decide), jn_u1r (show ¬ 139 < 130 by decide), jn_u2r (show ¬ 144 < 130 by decide)] at this
        exact this
      · rw [u2_a _ _ (by decide), u2_at, hq]
      · exact eqL_ovw _ _ _
      · rfl
      · rfl
      · refine ⟨?_, h2, h3, ?_, h5, h6, ?_, ?_, ?_, fun z => absurd z hw, fun i hi => ?_⟩
        · rw [u2_k _ _ (by decide)]; exact h1
        · rw [u2_k _ _ (by decide)]; exact h4
        · rw [u2_at]
        · rw [u2_at]
        · rw [u1_ne _ _ (by omega), hrs]; omega
        · rw [u1_ne _ _ (by omega)]; exact h11 i hi
      · intro c hc
        rw [u2_a _ _ hc]
      · refine hkq _ (fun x hx9 => ?_) (fun k hk => ?_) rfl rfl rfl rfl
        · by_cases g1 : x = 136 ∨ x = 137 ∨ x = 138 ∨ x = 144
          · rcases g1 with rfl | rfl | rfl | rfl <;> rfl
          · rw [u2_a _ _ (by omega), u2_a _ _ (by omega), u1_ne _ _ hx9, u2_a _ _ (by omega), u2_a _ _ (by omega), u2_a _ _ (by omega), u2_a _ _ (by omega)]
        · show ovw (8 * 0) h (K 139) (8 * 1 + k) = _
          rw [ovw_ou (by omega)]
      · intro c hc
        rw [u2_a _ _ (by omega), u2_a _ _ (by omega), u1_ne _ _ (by omega), u2_a _ _ (by omega), u2_a _ _ (by omega), u2_a _ _ (by omega), u2_a _ _ (by omega)]
theorem send_c {nx tu ch : Nat} (hO : rOut 8 10 0 W J K fr w ct) (hH : rHold 7 35 0 W J K) (hx : J 7 8 = Int32.ofNat nx) (hx' : K 134 0 = Int32.ofNat nx) (hx2 : nx ≤ 1) (hu : J 7 7 = Int32.ofNat tu) (hu' : K 133 0 = Int32.ofNat tu) (hu2 : tu ≤ 1) (hm : ∀ k, k < 12 → J 6 k = mkf (64 + ch) k) (hc : K 130 5 = Int32.ofNat ch) (hc2 : ch < 64) : ∃ (a : List Int32) (f : Nat → Int32) (fr' w' ct' : Nat) (W' : bw_W) (J' K' : bw_J),
    (∀ (d : Nat) (K0 : bw_J) (g : Nat) (L : bw_L), 3 ≤ d → bm d (S0 n0) R0 64 [.ref 7, .ref 5] W (jn J K0) g L (bR none W' (jn J' K0) g L)) ∧
    (∀ (d : Nat) (W0 : bw_W) (J0 : bw_J) (g : Nat) (L : bw_L), 2 ≤ d → bm d (S0 n0) R0 147 [.ref 130, .int (Int32.ofNat 0)] W0 (jn J0 K) g L (bR none W0 (jn J0 K') g L)) ∧
    W' 31 = a ∧ 5 ≤ a.length ∧ a.length ≤ 12 ∧ byl a ∧ K' 130 8 = Int32.ofNat a.length ∧ K' 132 = ovw 0 a f ∧ rAir 31 0 W' K' ∧ rOut 8 10 0 W' J' K' fr' w' ct' ∧ rHold 7 35 0 W' J' K' ∧
    (∀ c, ¬ c = 31 → ¬ c = 33 → ¬ c = 35 → W' c = W c) ∧ (∀ c, ¬ c = 7 → ¬ c = 8 → J' c = J c) ∧ (∀ f, ¬ f = 5 → ¬ f = 6 → J' 7 f = J 7 f) ∧ kEq 1 K' K ∧ (∀ c, ¬ c = 130 → ¬ c = 132 → c < 136 ∨ 149 < c → K' c = K c) ∧ (∀ f, ¬ f = 8 → K' 130 f = K 130 f) ∧ (∀ x, 145 ≤ x → x ≤ 147 → K' x = K x) := by
  -- what the reference's send leaves, and its relations
  have key : ∀ (h : List Int32) (kd fr' w' ct' : Nat) (W1 : bw_W) (J1 J2 K1 : bw_J), kd ≤ 2 → h.length ≤ 7 → byl h → K1 138 0 = Int32.ofNat h.length → eqL h (K1 139) (8 * 0) → K1 137 0 = Int32.ofNat kd → K1 136 0 = Int32.ofNat 1 → rOut 8 10 0 W1 J1 K1 fr' w' ct' → W1 35 = h → J2 7 6 = 1 → J2 7 5 = Int32.ofNat kd → J2 8 = J1 8 → kEq 1 K1 K → (∀ c, c < 136 ∨ 144 < c → K1 c = K c) → (∀ (d : Nat) (W0 : bw_W) (J0 : bw_J) (g : Nat) (L : bw_L), 1 ≤ d → bm d (S0 n0) R0 148 [.ref 130, .int (Int32.ofNat 0)] W0 (jn J0 K) g L (bR none W0 (jn J0 K1) g L)) →
      ∃ (K' : bw_J) (f : Nat → Int32), (∀ (d : Nat) (W0 : bw_W) (J0 : bw_J) (g : Nat) (L : bw_L), 2 ≤ d → bm d (S0 n0) R0 147 [.ref 130, .int (Int32.ofNat 0)] W0 (jn J0 K) g L (bR none W0 (jn J0 K') g L)) ∧ K' 130 8 = Int32.ofNat (h.length + 5) ∧ K' 132 = ovw 0 (wz (mkf (64 + ch)) 0 (pkt kd nx tu h)) f ∧ rAir 31 0 (am_u1 (am_u1 W1 33 (pkt kd nx tu h)) 31 (wz (mkf (64 + ch)) 0 (pkt kd nx tu h))) K' ∧ rOut 8 10 0 (am_u1 (am_u1 W1 33 (pkt kd nx tu h)) 31 (wz (mkf (64 + ch)) 0 (pkt kd nx tu h))) J2 K' fr' w' ct' ∧ rHold 7 35 0 (am_u1 (am_u1 W1 33 (pkt kd nx tu h)) 31 (wz (mkf (64 + ch)) 0 (pkt kd nx tu h))) J2 K' ∧ kEq 1 K' K ∧ (∀ c, ¬ c = 130 → ¬ c = 132 → c < 136 ∨ 149 < c → K' c = K c) ∧ (∀ f, ¬ f = 8 → K' 130 f = K 130 f) ∧ (∀ x, 145 ≤ x → x ≤ 147 → K' x = K x) := by
    intro h kd fr' w' ct' W1 J1 J2 K1 q1 q2 q3 q4 q5 q6 q7 q8 q9 q10 q11 q12 q13 q14 q15
    have hal : (wz (mkf (64 + ch)) 0 (pkt kd nx tu h)).length = h.length + 5 := by rw [wz_len, pkt_len]
    generalize ha : wz (mkf (64 + ch)) 0 (pkt kd nx tu h) = a at hal
    have hab : byl a := by rw [← ha]; exact byl_wz _ _ _
    refine ⟨sdJ K1 0 (h.length + 5) (ovw 0 a (K1 132)) (ovw (16 * 0) a (K1 148)), K1 132, ?_, ?_, ?_, ?_, ?_, ?_, ?_, ?_, ?_, ?_⟩
    · intro d W0 J0 g L hd
      have := mo_send (n0 := n0) (W := W0) (J := jn J0 K) (g := g) (L := L) (dv := 0) (J1 := jn J0 K1) (h := h) (kd := kd) (nx := nx) (tu := tu) (ch := ch) hd (by decide) (fun e he => q15 e W0 J0 g L he) q2 q3 q4 q5 q6 q1 (by rw [jn_ge (by decide), q14 134 (by decide)]; exact hx') hx2 (by rw [jn_ge (by decide), q14 133 (by decide)]; exact hu') hu2 (by rw [jn_ge (by decide), q14 130 (by decide)]; exact hc) hc2
      rw [ha, jn_sd, jn_ge (c := 132) (by decide), jn_ge (c := 148) (by decide)] at this
      exact this
    · unfold sdJ; rw [u1_ne _ _ (by decide), u2_a _ _ (by decide), u2_at]
    · unfold sdJ; rw [u1_ne _ _ (by decide), u2_a _ _ (by decide), u2_a _ _ (by decide), u1_at]
    · unfold rAir
      rw [u1_at]
      refine ⟨?_, by omega, hab, ?_⟩
      · unfold sdJ; rw [u1_ne _ _ (by decide), u2_at, hal]
      · unfold sdJ; rw [u1_at]; exact eqL_ovw _ _ _
    · refine rOut_fc q8 q12 (fun i hi => by rw [u1_ne _ _ (by omega), u1_ne _ _ (by omega)]) (fun c c1 c2 => sdJ_c (by omega) (by omega) (by omega) (by omega))
    · refine Or.inr ⟨q10, ?_, kd, q1, q11, ?_, ?_, ?_, ?_, ?_⟩
      · rw [sdJ_c (by decide) (by decide) (by decide) (by decide)]; exact q7
      · rw [sdJ_c (by decide) (by decide) (by decide) (by decide)]; exact q6
      · rw [sdJ_c (by decide) (by decide) (by decide) (by decide), u1_ne _ _ (by decide), u1_ne _ _ (by decide), q9]; exact q4
      · rw [u1_ne _ _ (by decide), u1_ne _ _ (by decide), q9]; exact q2
      · rw [u1_ne _ _ (by decide), u1_ne _ _ (by decide), q9]; exact q3
      · rw [sdJ_c (by decide) (by decide) (by decide) (by decide), u1_ne _ _ (by decide), u1_ne _ _ (by decide), q9]; exact q5
    · exact kEq_tr (sdJ_kEq (by decide) (by decide) (by decide) (by omega)) q13
    · intro c c1 c2 c3
      rw [sdJ_c c1 c2 (by omega) (by omega)]; exact q14 c (by omega)
    · intro f hf
      rw [sdJ_f hf, q14 130 (by decide)]
    · intro x x1 x2
      rw [sdJ_c (by omega) (by omega) (by omega) (by omega)]; exact q14 x (by omega)
  have hwz : ∀ (J3 : bw_J), (∀ k, k < 12 → J3 6 k = J 6 k) → ∀ (p : List Int32), p.length ≤ 12 → wz (J3 6) 0 p = wz (mkf (64 + ch)) 0 p := fun J3 e p hp => wz_cg p 0 fun k hk => by rw [e k (by omega), hm k (by omega)]
  rcases hH with ⟨e1, e2⟩ | ⟨e1, e2, kd, e3, e4, e5, e6, e7, e8, e9⟩
  · obtain ⟨h, kd, fr', w', ct', J1, K1, c1, c2, c3, c4, c5, c6, c7, c8, c9, c10, c11, c12, c13⟩ := take_c (n0 := n0) hO e2
    obtain ⟨K', f, m1, m2, m3, m4, m5, m6, m7, m8, m9, m10⟩ := key h kd fr' w' ct' (am_u1 W 35 h) J1 (am_u2 (am_u2 J1 7 5 (Int32.ofNat kd)) 7 6 1) K1 c3 c4 c5 c6 c7 c8 c9 c10 (u1_at _ _ _) (u2_at _ _ _ _) (by rw [u2_k _ _ (by decide), u2_at]) (by rw [u2_a _ _ (by decide), u2_a _ _ (by decide)]) c12 c13 c2
    have hpl := pkt_len kd nx tu h
    refine ⟨wz (mkf (64 + ch)) 0 (pkt kd nx tu h), f, fr', w', ct', am_u1 (am_u1 (am_u1 W 35 h) 33 (pkt kd nx tu h)) 31 (wz (mkf (64 + ch)) 0 (pkt kd nx tu h)), am_u2 (am_u2 J1 7 5 (Int32.ofNat kd)) 7 6 1, K', ?_, m1, u1_at _ _ _, ?_, ?_, byl_wz _ _ _, ?_, m3, m4, m5, m6, ?_, ?_, ?_, m7, m8, m9, m10⟩
    · intro d K0 g L hd
      have := de_send0_c (n0 := n0) (W := W) (J := jn J K0) (g := g) (L := L) (W1 := am_u1 W 35 h) (J1 := jn J1 K0) (kd := kd) (nx := nx) (tu := tu) (h := h) hd c3 hx hx2 hu hu2 c4 e1 (fun e he => c1 e K0 g L he) (by rw [jn_lt (by decide), c11 7 (by decide)]; exact hx) (by rw [jn_lt (by decide), c11 7 (by decide)]; exact hu) (by rw [jn_lt (by decide), jn_lt (by decide), c11 6 (by decide)]) (u1_at _ _ _)
      rw [show wz ((jn J K0) 6) 0 (pkt kd nx tu h) = wz (mkf (64 + ch)) 0 (pkt kd nx tu h) from hwz J (fun _ _ => rfl) _ (by omega), jn_u2l (by decide), jn_u2l (by decide)] at this
      exact this
    · rw [wz_len]; omega
    · rw [wz_len]; omega
    · rw [wz_len, hpl]; exact m2
    · intro c n1 n2 n3
      rw [u1_ne _ _ n1, u1_ne _ _ n2, u1_ne _ _ n3]
    · intro c n1 n2
      rw [u2_a _ _ n1, u2_a _ _ n1]; exact c11 c n2
    · intro q n1 n2
      rw [u2_k _ _ n2, u2_k _ _ n1, c11 7 (by decide)]
  · have hkc := fun (d : Nat) (W0 : bw_W) (J0 : bw_J) (g : Nat) (L : bw_L) (hd : 1 ≤ d) => mo_take_h (n0 := n0) (W := W0) (J := jn J0 K) (g := g) (L := L) (dv := 0) hd (by decide) e2
    obtain ⟨K', f, m1, m2, m3, m4, m5, m6, m7, m8, m9, m10⟩ := key (W 35) kd fr w ct W J J K e3 e7 e8 e6 e9 e5 e2 hO rfl e1 e4 rfl (kEq_rf _ _) (fun _ _ => rfl) hkc
    have hpl := pkt_len kd nx tu (W 35)
    refine ⟨wz (mkf (64 + ch)) 0 (pkt kd nx tu (W 35)), f, fr, w, ct, am_u1 (am_u1 W 33 (pkt kd nx tu (W 35))) 31 (wz (mkf (64 + ch)) 0 (pkt kd nx tu (W 35))), J, K', ?_, m1, u1_at _ _ _, ?_, ?_, byl_wz _ _ _, ?_, m3, m4, m5, m6, ?_, fun _ _ _ => rfl, fun _ _ _ => rfl, m7, m8, m9, m10⟩
    · intro d K0 g L hd
      have := de_send1_c (n0 := n0) (W := W) (J := jn J K0) (g := g) (L := L) (kd := kd) (nx := nx) (tu := tu) (h := W 35) hd e3 hx hx2 hu hu2 e7 e4 e1 rfl
      rw [show wz ((jn J K0) 6) 0 (pkt kd nx tu (W 35)) = wz (mkf (64 + ch)) 0 (pkt kd nx tu (W 35)) from hwz J (fun _ _ => rfl) _ (by omega)] at this
      exact this
    · rw [wz_len]; omega
    · rw [wz_len]; omega
    · rw [wz_len, hpl]; exact m2
    · intro c n1 n2 n3
      rw [u1_ne _ _ n1, u1_ne _ _ n2]
end TKc
section TKs
variable {n0 : Nat} {W : bw_W} {J K : bw_J} {fr w ct : Nat}
theorem take_s (hO : rOut 38 40 1 W J K fr w ct) (hK0 : K 136 1 = Int32.ofNat 0) : ∃ (h : List Int32) (kd fr' w' ct' : Nat) (J1 K1 : bw_J),
    (∀ (d : Nat) (K0 : bw_J) (g : Nat) (L : bw_L), 2 ≤ d → bm d (S0 n0) R0 65 [.ref 38, .ref 65] W (jn J K0) g L (bR (some (.int (Int32.ofNat kd))) (am_u1 W 65 h) (jn J1 K0) g L)) ∧
    (∀ (d : Nat) (W0 : bw_W) (J0 : bw_J) (g : Nat) (L : bw_L), 1 ≤ d → bm d (S0 n0) R0 148 [.ref 130, .int (Int32.ofNat 1)] W0 (jn J0 K) g L (bR none W0 (jn J0 K1) g L)) ∧
    kd ≤ 2 ∧ h.length ≤ 7 ∧ byl h ∧ K1 138 1 = Int32.ofNat h.length ∧ eqL h (K1 139) (8 * 1) ∧ K1 137 1 = Int32.ofNat kd ∧ K1 136 1 = Int32.ofNat 1 ∧ rOut 38 40 1 (am_u1 W 65 h) J1 K1 fr' w' ct' ∧ (∀ c, ¬ c = 38 → J1 c = J c) ∧ kEq 0 K1 K ∧ (∀ c, c < 136 ∨ 144 < c → K1 c = K c) := by
  have hO' := hO
  obtain ⟨h1, h2, h3, h4, h5, h6, h7, h8, h9, h10, h11⟩ := hO
  by_cases hw : w = 0
  · subst hw
    refine ⟨[], 1, fr, 0, ct, J, am_u2 (am_u2 (am_u2 K 136 1 (Int32.ofNat 1)) 138 1 (Int32.ofNat 0)) 137 1 (Int32.ofNat 1), ?_, ?_, by decide, by decide, byl_nil, ?_, eqL_nil _ _, ?_, ?_, ?_, fun c _ => rfl, ?_, ?_⟩
    · intro d K0 g L hd
      exact ou_take0_s (n0 := n0) (W := W) (J := jn J K0) (g := g) (L := L) hd h4
    · intro d W0 J0 g L hd
      have := mo_take_0 (n0 := n0) (W := W0) (J := jn J0 K) (g := g) (L := L) (dv := 1) hd (by decide) hK0 h5
      rw [jn_u2r (by decide), jn_u2r (by decide), jn_u2r (by decide)] at this
      exact this
    · rw [u2_a _ _ (by decide), u2_at]; rfl
    · rw [u2_at]
    · rw [u2_a _ _ (by decide), u2_a _ _ (by decide), u2_at]
    · refine ⟨h1, ?_, h3, h4, ?_, h6, h7, ?_, ?_, h10, fun i hi => ?_⟩
      · exact h2
      · exact h5
      · exact h8
      · rw [u1_ne _ _ (by omega)]; exact h9
      · rw [u1_ne _ _ (by omega)]; exact h11 i hi
    · refine ⟨fun x a b c d e f i => ?_, fun k hk => rfl, fun k hk => rfl, fun k hk => rfl, fun k hk => rfl, fun k hk => rfl⟩
      by_cases g1 : x = 136
      · subst g1; rfl
      · by_cases g2 : x = 137
        · subst g2; rfl
        · by_cases g3 : x = 138
          · subst g3; rfl
          · rw [u2_a _ _ g2, u2_a _ _ g3, u2_a _ _ g1]
    · intro c hc
      rw [u2_a _ _ (by omega), u2_a _ _ (by omega), u2_a _ _ (by omega)]
  · obtain ⟨i1, i2, i3, i4⟩ := h11 fr h3
    generalize hrs : (W (40 + 2 * fr)).length = rs at h9 i1 i2
    have hq : (((W (40 + 2 * fr)).drop ct).take 7).length = min 7 (rs - ct) := by rw [List.length_take, List.length_drop, hrs]
    have hls : lst (K 140) (24 * (8 * 1 + fr) + ct) (min 7 (rs - ct)) = ((W (40 + 2 * fr)).drop ct).take 7 := by
      rw [eqL_lst i4 _ _ (by omega), ← hq]
      conv => rhs; rw [← List.take_length (l := ((W (40 + 2 * fr)).drop ct).take 7)]
      rw [List.take_take]
      congr 1
      rw [hq]; omega
    have hcls := fun (d : Nat) (K0 : bw_J) (g : Nat) (L : bw_L) (hd : 2 ≤ d) => ou_take_s (n0 := n0) (W := W) (J := jn J K0) (g := g) (L := L) hd (o := fr) (w := w) (t := ct) h1 h3 h4 (by omega) h6 h7 (by omega) (by rw [hrs]; exact i2)
    have hkd : ∃ kd, kd = (if ct = 0 then 2 else 1) ∧ kd ≤ 2 := ⟨_, rfl, by split <;> decide⟩
    obtain ⟨kd, hkd, hkd2⟩ := hkd
    simp only [if21, ← hkd, hrs, hq] at hcls
    generalize hh : ((W (40 + 2 * fr)).drop ct).take 7 = h at hq hls hcls
    have hby : byl h := by rw [← hh]; exact byl_take 7 (byl_drop ct i3)
    have hkq : ∀ (K2 : bw_J), (∀ x, ¬ x = 139 → K2 x 0 = K x 0) → (∀ k, k < 8 → K2 139 (8 * 0 + k) = K 139 (8 * 0 + k)) → K2 141 = K 141 → K2 140 = K 140 → K2 145 = K 145 → K2 148 = K 148 → kEq 0 K2 K := fun K2 a0 a1 a2 a3 a4 a5 => ⟨fun x a b c d e f i => a0 x c, a1, fun k _ => by rw [a2], fun k _ => by rw [a3], fun k _ => by rw [a4], fun k _ => by rw [a5]⟩
    by_cases hx : ct + min 7 (rs - ct) = rs
    · simp only [if_pos (show rs ≤ ct + min 7 (rs - ct) by omega)] at hcls
      refine ⟨h, kd, (fr + 1) % 8, w - 1, 0, am_u2 (am_u2 (am_u2 (am_u2 J 38 3 (Int32.ofNat (ct + min 7 (rs - ct)))) 38 1 (Int32.ofNat ((fr + 1) % 8))) 38 2 (Int32.ofNat (w - 1))) 38 3 (Int32.ofNat 0), am_u2 (am_u2 (am_u2 (am_u2 (am_u2 (am_u1 (am_u2 (am_u2 (am_u2 (am_u2 K 136 1 (Int32.ofNat 1)) 138 1 (Int32.ofNat 0)) 137 1 (Int32.ofNat 1)) 137 1 (Int32.ofNat kd)) 139 (ovw (8 * 1) h (K 139))) 138 1 (Int32.ofNat (min 7 (rs - ct)))) 144 1 (Int32.ofNat (ct + min 7 (rs - ct)))) 144 1 (Int32.ofNat 0)) 142 1 (Int32.ofNat ((fr + 1) % 8))) 143 1 (Int32.ofNat (w - 1)), ?_, ?_, hkd2, by omega, hby, ?_, ?_, ?_, ?_, ?_, ?_, ?_, ?_⟩
      · intro d K0 g L hd
        have := hcls d K0 g L hd
        rw [jn_u2l (by decide), jn_u2l (by decide), jn_u2l (by decide), jn_u2l (by decide)] at this
        exact this
      · intro d W0 J0 g L hd
        have := mo_take_2 (n0 := n0) (W := W0) (J := jn J0 K) (g := g) (L := L) (dv := 1) hd (by decide) hK0 h2 h3 h5 (by omega) h6 h8 i1 i2 h9 hkd hx
        rw [show lst ((jn J0 K) 140) (24 * (8 * 1 + fr) + ct) (min 7 (rs - ct)) = h from hls, jn_ge (c := 139) (by decide)] at this
        simp only [jn_u2r (show ¬ 136 < 130 by decide), jn_u2r (show ¬ 137 < 130 by decide), jn_u2r (show ¬ 138 < 130 by decide), jn_u1r (show ¬ 139 < 130 by decide), jn_u2r (show ¬ 144 < 130 by decide), jn_u2r (show ¬ 142 < 130 by decide), jn_u2r (show ¬ 143 < 130 by decide)] at this
        exact this
      · rw [u2_a _ _ (by decide), u2_a _ _ (by decide), u2_a _ _ (by decide), u2_a _ _ (by decide), u2_at, hq]
      · exact eqL_ovw _ _ _
      · rfl
      · rfl
      · refine ⟨?_, ?_, Nat.mod_lt _ (by decide), ?_, ?_, by omega, ?_, ?_, Nat.zero_le _, fun _ => rfl, fun i hi => ?_⟩
        · rw [u2_k _ _ (by decide), u2_k _ _ (by decide), u2_at]
        · rw [u2_a _ _ (by decide), u2_at]
        · rw [u2_k _ _ (by decide), u2_at]
        · rw [u2_at]
        · rw [u2_at]
        · rw [u2_a _ _ (by decide), u2_a _ _ (by decide), u2_at]
        · rw [u1_ne _ _ (by omega)]; exact h11 i hi
      · intro c hc
        rw [u2_a _ _ hc, u2_a _ _ hc, u2_a _ _ hc, u2_a _ _ hc]
      · refine hkq _ (fun x hx9 => ?_) (fun k hk => ?_) rfl rfl rfl rfl
        · by_cases g1 : x = 136 ∨ x = 137 ∨ x = 138 ∨ x = 142 ∨ x = 143 ∨ x = 144
          · rcases g1 with rfl | rfl | rfl | rfl | rfl | rfl <;> rfl
          · rw [u2_a _ _ (by omega), u2_a _ _ (by omega), u2_a _ _ (by omega), u2_a _ _ (by omega), u2_a _ _ (by omega), u1_ne _ _ hx9, u2_a _ _ (by omega), u2_a _ _ (by omega), u2_a _ _ (by omega), u2_a _ _ (by omega)]
        · show ovw (8 * 1) h (K 139) (8 * 0 + k) = _
          rw [ovw_ou (by omega)]
      · intro c hc
        rw [u2_a _ _ (by omega), u2_a _ _ (by omega), u2_a _ _ (by omega), u2_a _ _ (by omega), u2_a _ _ (by omega), u1_ne _ _ (by omega), u2_a _ _ (by omega), u2_a _ _ (by omega), u2_a _ _ (by omega), u2_a _ _ (by omega)]
    · simp only [if_neg (show ¬ rs ≤ ct + min 7 (rs - ct) by omega)] at hcls
      refine ⟨h, kd, fr, w, ct + min 7 (rs - ct), am_u2 J 38 3 (Int32.ofNat (ct + min 7 (rs - ct))), am_u2 (am_u2 (am_u1 (am_u2 (am_u2 (am_u2 (am_u2 K 136 1 (Int32.ofNat 1)) 138 1 (Int32.ofNat 0)) 137 1 (Int32.ofNat 1)) 137 1 (Int32.ofNat kd)) 139 (ovw (8 * 1) h (K 139))) 138 1 (Int32.ofNat (min 7 (rs - ct)))) 144 1 (Int32.ofNat (ct + min 7 (rs - ct))), ?_, ?_, hkd2, by omega, hby, ?_, ?_, ?_, ?_, ?_, ?_, ?_, ?_⟩
      · intro d K0 g L hd
        have := hcls d K0 g L hd
        rw [jn_u2l (by decide)] at this
        exact this
      · intro d W0 J0 g L hd
        have := mo_take_1 (n0 := n0) (W := W0) (J := jn J0 K) (g := g) (L := L) (dv := 1) hd (by decide) hK0 h2 h3 h5 (by omega) h6 h8 i1 i2 h9 hkd hx
        rw [show lst ((jn J0 K) 140) (24 * (8 * 1 + fr) + ct) (min 7 (rs - ct)) = h from hls, jn_ge (c := 139) (by decide)] at this
        simp only [jn_u2r (show ¬ 136 < 130 by decide), jn_u2r (show ¬ 137 < 130 by decide), jn_u2r (show ¬ 138 < 130 by decide), jn_u1r (show ¬ 139 < 130 by decide), jn_u2r (show ¬ 144 < 130 by decide)] at this
        exact this
      · rw [u2_a _ _ (by decide), u2_at, hq]
      · exact eqL_ovw _ _ _
      · rfl
      · rfl
      · refine ⟨?_, h2, h3, ?_, h5, h6, ?_, ?_, ?_, fun z => absurd z hw, fun i hi => ?_⟩
        · rw [u2_k _ _ (by decide)]; exact h1
        · rw [u2_k _ _ (by decide)]; exact h4
        · rw [u2_at]
        · rw [u2_at]
        · rw [u1_ne _ _ (by omega), hrs]; omega
        · rw [u1_ne _ _ (by omega)]; exact h11 i hi
      · intro c hc
        rw [u2_a _ _ hc]
      · refine hkq _ (fun x hx9 => ?_) (fun k hk => ?_) rfl rfl rfl rfl
        · by_cases g1 : x = 136 ∨ x = 137 ∨ x = 138 ∨ x = 144
          · rcases g1 with rfl | rfl | rfl | rfl <;> rfl
          · rw [u2_a _ _ (by omega), u2_a _ _ (by omega), u1_ne _ _ hx9, u2_a _ _ (by omega), u2_a _ _ (by omega), u2_a _ _ (by omega), u2_a _ _ (by omega)]
        · show ovw (8 * 1) h (K 139) (8 * 0 + k) = _
          rw [ovw_ou (by omega)]
      · intro c hc
        rw [u2_a _ _ (by omega), u2_a _ _ (by omega), u1_ne _ _ (by omega), u2_a _ _ (by omega), u2_a _ _ (by omega), u2_a _ _ (by omega), u2_a _ _ (by omega)]
theorem send_s {nx tu ch : Nat} (hO : rOut 38 40 1 W J K fr w ct) (hH : rHold 37 65 1 W J K) (hx : J 37 8 = Int32.ofNat nx) (hx' : K 134 1 = Int32.ofNat nx) (hx2 : nx ≤ 1) (hu : J 37 7 = Int32.ofNat tu) (hu' : K 133 1 = Int32.ofNat tu) (hu2 : tu ≤ 1) (hm : ∀ k, k < 12 → J 6 k = mkf (64 + ch) k) (hc : K 130 5 = Int32.ofNat ch) (hc2 : ch < 64) : ∃ (a : List Int32) (f : Nat → Int32) (fr' w' ct' : Nat) (W' : bw_W) (J' K' : bw_J),
    (∀ (d : Nat) (K0 : bw_J) (g : Nat) (L : bw_L), 3 ≤ d → bm d (S0 n0) R0 64 [.ref 37, .ref 5] W (jn J K0) g L (bR none W' (jn J' K0) g L)) ∧
    (∀ (d : Nat) (W0 : bw_W) (J0 : bw_J) (g : Nat) (L : bw_L), 2 ≤ d → bm d (S0 n0) R0 147 [.ref 130, .int (Int32.ofNat 1)] W0 (jn J0 K) g L (bR none W0 (jn J0 K') g L)) ∧
    W' 61 = a ∧ 5 ≤ a.length ∧ a.length ≤ 12 ∧ byl a ∧ K' 130 8 = Int32.ofNat a.length ∧ K' 132 = ovw 0 a f ∧ rAir 61 1 W' K' ∧ rOut 38 40 1 W' J' K' fr' w' ct' ∧ rHold 37 65 1 W' J' K' ∧
    (∀ c, ¬ c = 61 → ¬ c = 63 → ¬ c = 65 → W' c = W c) ∧ (∀ c, ¬ c = 37 → ¬ c = 38 → J' c = J c) ∧ (∀ f, ¬ f = 5 → ¬ f = 6 → J' 37 f = J 37 f) ∧ kEq 0 K' K ∧ (∀ c, ¬ c = 130 → ¬ c = 132 → c < 136 ∨ 149 < c → K' c = K c) ∧ (∀ f, ¬ f = 8 → K' 130 f = K 130 f) ∧ (∀ x, 145 ≤ x → x ≤ 147 → K' x = K x) := by
  -- what the reference's send leaves, and its relations
  have key : ∀ (h : List Int32) (kd fr' w' ct' : Nat) (W1 : bw_W) (J1 J2 K1 : bw_J), kd ≤ 2 → h.length ≤ 7 → byl h → K1 138 1 = Int32.ofNat h.length → eqL h (K1 139) (8 * 1) → K1 137 1 = Int32.ofNat kd → K1 136 1 = Int32.ofNat 1 → rOut 38 40 1 W1 J1 K1 fr' w' ct' → W1 65 = h → J2 37 6 = 1 → J2 37 5 = Int32.ofNat kd → J2 38 = J1 38 → kEq 0 K1 K → (∀ c, c < 136 ∨ 144 < c → K1 c = K c) → (∀ (d : Nat) (W0 : bw_W) (J0 : bw_J) (g : Nat) (L : bw_L), 1 ≤ d → bm d (S0 n0) R0 148 [.ref 130, .int (Int32.ofNat 1)] W0 (jn J0 K) g L (bR none W0 (jn J0 K1) g L)) →
      ∃ (K' : bw_J) (f : Nat → Int32), (∀ (d : Nat) (W0 : bw_W) (J0 : bw_J) (g : Nat) (L : bw_L), 2 ≤ d → bm d (S0 n0) R0 147 [.ref 130, .int (Int32.ofNat 1)] W0 (jn J0 K) g L (bR none W0 (jn J0 K') g L)) ∧ K' 130 8 = Int32.ofNat (h.length + 5) ∧ K' 132 = ovw 0 (wz (mkf (64 + ch)) 0 (pkt kd nx tu h)) f ∧ rAir 61 1 (am_u1 (am_u1 W1 63 (pkt kd nx tu h)) 61 (wz (mkf (64 + ch)) 0 (pkt kd nx tu h))) K' ∧ rOut 38 40 1 (am_u1 (am_u1 W1 63 (pkt kd nx tu h)) 61 (wz (mkf (64 + ch)) 0 (pkt kd nx tu h))) J2 K' fr' w' ct' ∧ rHold 37 65 1 (am_u1 (am_u1 W1 63 (pkt kd nx tu h)) 61 (wz (mkf (64 + ch)) 0 (pkt kd nx tu h))) J2 K' ∧ kEq 0 K' K ∧ (∀ c, ¬ c = 130 → ¬ c = 132 → c < 136 ∨ 149 < c → K' c = K c) ∧ (∀ f, ¬ f = 8 → K' 130 f = K 130 f) ∧ (∀ x, 145 ≤ x → x ≤ 147 → K' x = K x) := by
    intro h kd fr' w' ct' W1 J1 J2 K1 q1 q2 q3 q4 q5 q6 q7 q8 q9 q10 q11 q12 q13 q14 q15
    have hal : (wz (mkf (64 + ch)) 0 (pkt kd nx tu h)).length = h.length + 5 := by rw [wz_len, pkt_len]
    generalize ha : wz (mkf (64 + ch)) 0 (pkt kd nx tu h) = a at hal
    have hab : byl a := by rw [← ha]; exact byl_wz _ _ _
    refine ⟨sdJ K1 1 (h.length + 5) (ovw 0 a (K1 132)) (ovw (16 * 1) a (K1 148)), K1 132, ?_, ?_, ?_, ?_, ?_, ?_, ?_, ?_, ?_, ?_⟩
    · intro d W0 J0 g L hd
      have := mo_send (n0 := n0) (W := W0) (J := jn J0 K) (g := g) (L := L) (dv := 1) (J1 := jn J0 K1) (h := h) (kd := kd) (nx := nx) (tu := tu) (ch := ch) hd (by decide) (fun e he => q15 e W0 J0 g L he) q2 q3 q4 q5 q6 q1 (by rw [jn_ge (by decide), q14 134 (by decide)]; exact hx') hx2 (by rw [jn_ge (by decide), q14 133 (by decide)]; exact hu') hu2 (by rw [jn_ge (by decide), q14 130 (by decide)]; exact hc) hc2
      rw [ha, jn_sd, jn_ge (c := 132) (by decide), jn_ge (c := 148) (by decide)] at this
      exact this
    · unfold sdJ; rw [u1_ne _ _ (by decide), u2_a _ _ (by decide), u2_at]
    · unfold sdJ; rw [u1_ne _ _ (by decide), u2_a _ _ (by decide), u2_a _ _ (by decide), u1_at]
    · unfold rAir
      rw [u1_at]
      refine ⟨?_, by omega, hab, ?_⟩
      · unfold sdJ; rw [u1_ne _ _ (by decide), u2_at, hal]
      · unfold sdJ; rw [u1_at]; exact eqL_ovw _ _ _
    · refine rOut_fc q8 q12 (fun i hi => by rw [u1_ne _ _ (by omega), u1_ne _ _ (by omega)]) (fun c c1 c2 => sdJ_c (by omega) (by omega) (by omega) (by omega))
    · refine Or.inr ⟨q10, ?_, kd, q1, q11, ?_, ?_, ?_, ?_, ?_⟩
      · rw [sdJ_c (by decide) (by decide) (by decide) (by decide)]; exact q7
      · rw [sdJ_c (by decide) (by decide) (by decide) (by decide)]; exact q6
      · rw [sdJ_c (by decide) (by decide) (by decide) (by decide), u1_ne _ _ (by decide), u1_ne _ _ (by decide), q9]; exact q4
      · rw [u1_ne _ _ (by decide), u1_ne _ _ (by decide), q9]; exact q2
      · rw [u1_ne _ _ (by decide), u1_ne _ _ (by decide), q9]; exact q3
      · rw [sdJ_c (by decide) (by decide) (by decide) (by decide), u1_ne _ _ (by decide), u1_ne _ _ (by decide), q9]; exact q5
    · exact kEq_tr (sdJ_kEq (by decide) (by decide) (by decide) (by omega)) q13
    · intro c c1 c2 c3
      rw [sdJ_c c1 c2 (by omega) (by omega)]; exact q14 c (by omega)
    · intro f hf
      rw [sdJ_f hf, q14 130 (by decide)]
    · intro x x1 x2
      rw [sdJ_c (by omega) (by omega) (by omega) (by omega)]; exact q14 x (by omega)
  have hwz : ∀ (J3 : bw_J), (∀ k, k < 12 → J3 6 k = J 6 k) → ∀ (p : List Int32), p.length ≤ 12 → wz (J3 6) 0 p = wz (mkf (64 + ch)) 0 p := fun J3 e p hp => wz_cg p 0 fun k hk => by rw [e k (by omega), hm k (by omega)]
  rcases hH with ⟨e1, e2⟩ | ⟨e1, e2, kd, e3, e4, e5, e6, e7, e8, e9⟩
  · obtain ⟨h, kd, fr', w', ct', J1, K1, c1, c2, c3, c4, c5, c6, c7, c8, c9, c10, c11, c12, c13⟩ := take_s (n0 := n0) hO e2
    obtain ⟨K', f, m1, m2, m3, m4, m5, m6, m7, m8, m9, m10⟩ := key h kd fr' w' ct' (am_u1 W 65 h) J1 (am_u2 (am_u2 J1 37 5 (Int32.ofNat kd)) 37 6 1) K1 c3 c4 c5 c6 c7 c8 c9 c10 (u1_at _ _ _) (u2_at _ _ _ _) (by rw [u2_k _ _ (by decide), u2_at]) (by rw [u2_a _ _ (by decide), u2_a _ _ (by decide)]) c12 c13 c2
    have hpl := pkt_len kd nx tu h
    refine ⟨wz (mkf (64 + ch)) 0 (pkt kd nx tu h), f, fr', w', ct', am_u1 (am_u1 (am_u1 W 65 h) 63 (pkt kd nx tu h)) 61 (wz (mkf (64 + ch)) 0 (pkt kd nx tu h)), am_u2 (am_u2 J1 37 5 (Int32.ofNat kd)) 37 6 1, K', ?_, m1, u1_at _ _ _, ?_, ?_, byl_wz _ _ _, ?_, m3, m4, m5, m6, ?_, ?_, ?_, m7, m8, m9, m10⟩
    · intro d K0 g L hd
      have := de_send0_s (n0 := n0) (W := W) (J := jn J K0) (g := g) (L := L) (W1 := am_u1 W 65 h) (J1 := jn J1 K0) (kd := kd) (nx := nx) (tu := tu) (h := h) hd c3 hx hx2 hu hu2 c4 e1 (fun e he => c1 e K0 g L he) (by rw [jn_lt (by decide), c11 37 (by decide)]; exact hx) (by rw [jn_lt (by decide), c11 37 (by decide)]; exact hu) (by rw [jn_lt (by decide), jn_lt (by decide), c11 6 (by decide)]) (u1_at _ _ _)
      rw [show wz ((jn J K0) 6) 0 (pkt kd nx tu h) = wz (mkf (64 + ch)) 0 (pkt kd nx tu h) from hwz J (fun _ _ => rfl) _ (by omega), jn_u2l (by decide), jn_u2l (by decide)] at this
      exact this
    · rw [wz_len]; omega
    · rw [wz_len]; omega
    · rw [wz_len, hpl]; exact m2
    · intro c n1 n2 n3
      rw [u1_ne _ _ n1, u1_ne _ _ n2, u1_ne _ _ n3]
    · intro c n1 n2
      rw [u2_a _ _ n1, u2_a _ _ n1]; exact c11 c n2
    · intro q n1 n2
      rw [u2_k _ _ n2, u2_k _ _ n1, c11 37 (by decide)]
  · have hkc := fun (d : Nat) (W0 : bw_W) (J0 : bw_J) (g : Nat) (L : bw_L) (hd : 1 ≤ d) => mo_take_h (n0 := n0) (W := W0) (J := jn J0 K) (g := g) (L := L) (dv := 1) hd (by decide) e2
    obtain ⟨K', f, m1, m2, m3, m4, m5, m6, m7, m8, m9, m10⟩ := key (W 65) kd fr w ct W J J K e3 e7 e8 e6 e9 e5 e2 hO rfl e1 e4 rfl (kEq_rf _ _) (fun _ _ => rfl) hkc
    have hpl := pkt_len kd nx tu (W 65)
    refine ⟨wz (mkf (64 + ch)) 0 (pkt kd nx tu (W 65)), f, fr, w, ct, am_u1 (am_u1 W 63 (pkt kd nx tu (W 65))) 61 (wz (mkf (64 + ch)) 0 (pkt kd nx tu (W 65))), J, K', ?_, m1, u1_at _ _ _, ?_, ?_, byl_wz _ _ _, ?_, m3, m4, m5, m6, ?_, fun _ _ _ => rfl, fun _ _ _ => rfl, m7, m8, m9, m10⟩
    · intro d K0 g L hd
      have := de_send1_s (n0 := n0) (W := W) (J := jn J K0) (g := g) (L := L) (kd := kd) (nx := nx) (tu := tu) (h := W 65) hd e3 hx hx2 hu hu2 e7 e4 e1 rfl
      rw [show wz ((jn J K0) 6) 0 (pkt kd nx tu (W 65)) = wz (mkf (64 + ch)) 0 (pkt kd nx tu (W 65)) from hwz J (fun _ _ => rfl) _ (by omega)] at this
      exact this
    · rw [wz_len]; omega
    · rw [wz_len]; omega
    · rw [wz_len, hpl]; exact m2
    · intro c n1 n2 n3
      rw [u1_ne _ _ n1, u1_ne _ _ n2]
end TKs
