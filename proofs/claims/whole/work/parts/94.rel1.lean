/-! Part 94: class and reference side by side: J the class's cells, K the reference's -/
def jn (J K : bw_J) : bw_J := fun c => if c < 130 then J c else K c
theorem jn_lt {J K : bw_J} {c : Nat} (h : c < 130) : jn J K c = J c := if_pos h
theorem jn_ge {J K : bw_J} {c : Nat} (h : ¬ c < 130) : jn J K c = K c := if_neg h
theorem jn_same (J : bw_J) : jn J J = J := funext fun c => by unfold jn; split <;> rfl
theorem jn_u1l {J K : bw_J} {c : Nat} {f : Nat → Int32} (h : c < 130) : am_u1 (jn J K) c f = jn (am_u1 J c f) K := by
  funext q
  by_cases hq : q = c
  · subst hq; rw [u1_at, jn_lt h, u1_at]
  · rw [u1_ne _ _ hq]
    unfold jn
    rw [u1_ne _ _ hq]
theorem jn_u1r {J K : bw_J} {c : Nat} {f : Nat → Int32} (h : ¬ c < 130) : am_u1 (jn J K) c f = jn J (am_u1 K c f) := by
  funext q
  by_cases hq : q = c
  · subst hq; rw [u1_at, jn_ge h, u1_at]
  · rw [u1_ne _ _ hq]
    unfold jn
    rw [u1_ne _ _ hq]
theorem jn_u2l {J K : bw_J} {c i : Nat} {x : Int32} (h : c < 130) : am_u2 (jn J K) c i x = jn (am_u2 J c i x) K := by
  rw [u2_u1, jn_u1l h, jn_lt h, ← u2_u1]
theorem jn_u2r {J K : bw_J} {c i : Nat} {x : Int32} (h : ¬ c < 130) : am_u2 (jn J K) c i x = jn J (am_u2 K c i x) := by
  rw [u2_u1, jn_u1r h, jn_ge h, ← u2_u1]
theorem jn_mk {J K : bw_J} {l : List Int32} : mkJ (jn J K) l = jn J (mkJ K l) := by
  unfold mkJ
  rw [jn_ge (by decide), jn_u1r (by decide), jn_u2r (by decide)]
theorem jn_gv {J K : bw_J} {d a w : Nat} {l : List Int32} : gvJ d a w l (jn J K) = jn J (gvJ d a w l K) := by
  unfold gvJ
  rw [jn_ge (by decide), jn_u1r (by decide), jn_u2r (by decide), jn_u2r (by decide)]
theorem jn_ak {J K : bw_J} {l : List Int32} : akJ (jn J K) l = jn J (akJ K l) := by
  unfold akJ
  rw [jn_ge (by decide), jn_u2r (by decide), jn_u2r (by decide), jn_u1r (by decide)]
/-- the row's bytes lie at o -/
def eqL (l : List Int32) (f : Nat → Int32) (o : Nat) : Prop := ∀ k, k < l.length → f (o + k) = l.getD k 0
theorem eqL_nil (f : Nat → Int32) (o : Nat) : eqL [] f o := fun k h => absurd h (by simp)
theorem eqL_ovw (l : List Int32) (f : Nat → Int32) (o : Nat) : eqL l (ovw o l f) o := fun k h => ovw_in h
theorem eqL_ou {l m : List Int32} {f : Nat → Int32} {o p : Nat} (h : eqL l f o) (hd : p + m.length ≤ o ∨ o + l.length ≤ p) : eqL l (ovw p m f) o := fun k hk => by
  rw [ovw_ou (by omega)]
  exact h k hk
theorem eqL_lst {l : List Int32} {f : Nat → Int32} {o : Nat} (h : eqL l f o) : ∀ (m i : Nat), i + m ≤ l.length → lst f (o + i) m = (l.drop i).take m
  | 0, _, _ => by rw [List.take_zero]; rfl
  | m + 1, i, hi => by
    rw [l_dt (by omega)]
    show f (o + i) :: lst f (o + (i + 1)) m = _
    rw [h i (by omega), eqL_lst h m (i + 1) (by omega)]
theorem eqL_all {l : List Int32} {f : Nat → Int32} {o n : Nat} (h : eqL l f o) (hn : n = l.length) : lst f o n = l := by
  have := eqL_lst h n 0 (by omega)
  rw [Nat.add_zero, List.drop_zero, List.take_of_length_le (by omega)] at this
  exact this
theorem eqL_z {l : List Int32} {f : Nat → Int32} {o : Nat} (h : eqL l f o) (hn : 0 < l.length) : f o = l.getD 0 0 := by
  have := h 0 hn
  rwa [Nat.add_zero] at this
/-- the rows that wait: o the class's Outbox, r its first row, dv the reference's device -/
def rOut (o r dv : Nat) (W : bw_W) (J K : bw_J) (fr w ct : Nat) : Prop :=
  J o 1 = Int32.ofNat fr ∧ K 142 dv = Int32.ofNat fr ∧ fr < 8 ∧ J o 2 = Int32.ofNat w ∧ K 143 dv = Int32.ofNat w ∧ w ≤ 8 ∧ J o 3 = Int32.ofNat ct ∧ K 144 dv = Int32.ofNat ct ∧
  ct ≤ (W (r + 2 * fr)).length ∧ (w = 0 → ct = 0) ∧
  ∀ i, i < 8 → K 141 (8 * dv + i) = Int32.ofNat (W (r + 2 * i)).length ∧ (W (r + 2 * i)).length ≤ 24 ∧ byl (W (r + 2 * i)) ∧ eqL (W (r + 2 * i)) (K 140) (24 * (8 * dv + i))
/-- device dv is the same in both -/
def kEq (dv : Nat) (K' K : bw_J) : Prop := (∀ x, 133 ≤ x → x ≤ 149 → ¬ x = 139 → ¬ x = 140 → ¬ x = 141 → ¬ x = 145 → ¬ x = 148 → K' x dv = K x dv) ∧ (∀ k, k < 8 → K' 139 (8 * dv + k) = K 139 (8 * dv + k)) ∧ (∀ k, k < 8 → K' 141 (8 * dv + k) = K 141 (8 * dv + k)) ∧ (∀ k, k < 192 → K' 140 (192 * dv + k) = K 140 (192 * dv + k)) ∧ (∀ k, k < 48 → K' 145 (48 * dv + k) = K 145 (48 * dv + k)) ∧ (∀ k, k < 16 → K' 148 (16 * dv + k) = K 148 (16 * dv + k))
theorem kEq_of {dv : Nat} {K' K : bw_J} (h : ∀ c, 133 ≤ c → c ≤ 149 → K' c = K c) : kEq dv K' K := ⟨fun x a b _ _ _ _ _ => by rw [h x a b], fun k _ => by rw [h 139 (by decide) (by decide)], fun k _ => by rw [h 141 (by decide) (by decide)], fun k _ => by rw [h 140 (by decide) (by decide)], fun k _ => by rw [h 145 (by decide) (by decide)], fun k _ => by rw [h 148 (by decide) (by decide)]⟩
theorem kEq_tr {dv : Nat} {K1 K2 K3 : bw_J} (h : kEq dv K1 K2) (h' : kEq dv K2 K3) : kEq dv K1 K3 := ⟨fun x a b c d e f i => (h.1 x a b c d e f i).trans (h'.1 x a b c d e f i), fun k q => (h.2.1 k q).trans (h'.2.1 k q), fun k q => (h.2.2.1 k q).trans (h'.2.2.1 k q), fun k q => (h.2.2.2.1 k q).trans (h'.2.2.2.1 k q), fun k q => (h.2.2.2.2.1 k q).trans (h'.2.2.2.2.1 k q), fun k q => (h.2.2.2.2.2 k q).trans (h'.2.2.2.2.2 k q)⟩
theorem kEq_rf (dv : Nat) (K : bw_J) : kEq dv K K := kEq_of fun _ _ _ => rfl
theorem eqL_cg {l : List Int32} {f f' : Nat → Int32} {o : Nat} (h : eqL l f o) (e : ∀ k, k < l.length → f' (o + k) = f (o + k)) : eqL l f' o := fun k hk => (e k hk).trans (h k hk)
theorem rOut_fr {o r dv : Nat} {W W' : bw_W} {J J' K K' : bw_J} {fr w ct : Nat} (h : rOut o r dv W J K fr w ct) (a : J' o = J o) (b : ∀ i, i < 8 → W' (r + 2 * i) = W (r + 2 * i)) (c : kEq dv K' K) : rOut o r dv W' J' K' fr w ct := by
  obtain ⟨h1, h2, h3, h4, h5, h6, h7, h8, h9, h10, h11⟩ := h
  unfold rOut
  rw [a, c.1 142 (by decide) (by decide) (by decide) (by decide) (by decide) (by decide) (by decide), c.1 143 (by decide) (by decide) (by decide) (by decide) (by decide) (by decide) (by decide), c.1 144 (by decide) (by decide) (by decide) (by decide) (by decide) (by decide) (by decide), b fr h3]
  refine ⟨h1, h2, h3, h4, h5, h6, h7, h8, h9, h10, fun i hi => ?_⟩
  rw [b i hi, c.2.2.1 i hi]
  obtain ⟨g1, g2, g3, g4⟩ := h11 i hi
  refine ⟨g1, g2, g3, eqL_cg g4 fun k hk => ?_⟩
  have := c.2.2.2.1 (24 * i + k) (by omega)
  rw [show 24 * (8 * dv + i) + k = 192 * dv + (24 * i + k) by omega]
  exact this
/-- what give leaves -/
def gvW (r fr w : Nat) (m : List Int32) (W : bw_W) : bw_W := if w < 8 then am_u1 W (r + 2 * ((fr + w) % 8)) (gvL m) else W
def gvC (o w : Nat) (J : bw_J) : bw_J := if w < 8 then am_u2 J o 2 (Int32.ofNat (w + 1)) else J
def gvM (dv fr w : Nat) (m : List Int32) (K : bw_J) : bw_J := if w < 8 then gvJ dv (8 * dv + (fr + w) % 8) w m K else K
theorem gvW_fr {r fr w : Nat} {m : List Int32} {W : bw_W} {c : Nat} (h : ∀ i, i < 8 → ¬ c = r + 2 * i) : gvW r fr w m W c = W c := by
  unfold gvW
  by_cases hw : w < 8
  · rw [if_pos hw, u1_ne _ _ (h _ (Nat.mod_lt _ (by decide)))]
  · rw [if_neg hw]
theorem gvC_fr {o w : Nat} {J : bw_J} {c : Nat} (h : ¬ c = o) : gvC o w J c = J c := by
  unfold gvC
  by_cases hw : w < 8
  · rw [if_pos hw, u2_a _ _ h]
  · rw [if_neg hw]
theorem gvM_fr {dv fr w : Nat} {m : List Int32} {K : bw_J} {c : Nat} (h0 : ¬ c = 140) (h1 : ¬ c = 141) (h3 : ¬ c = 143) : gvM dv fr w m K c = K c := by
  unfold gvM
  by_cases hw : w < 8
  · rw [if_pos hw]
    unfold gvJ
    rw [u2_a _ _ h3, u2_a _ _ h1, u1_ne _ _ h0]
  · rw [if_neg hw]
theorem gvM_kEq {dv dv' fr w : Nat} {m : List Int32} {K : bw_J} (hm : m.length ≤ 20) (hne : ¬ dv' = dv) (h2 : dv < 2) (h2' : dv' < 2) : kEq dv' (gvM dv fr w m K) K := by
  unfold gvM
  by_cases hw : w < 8
  · rw [if_pos hw]
    have hq : (fr + w) % 8 < 8 := Nat.mod_lt _ (by decide)
    generalize (fr + w) % 8 = q at hq
    have hl : (gvL m).length = m.length + 4 := by unfold gvL; rw [List.length_append]; show 4 + m.length = _; omega
    unfold gvJ
    refine ⟨fun x a b c d e f i => ?_, fun k hk => ?_, fun k hk => ?_, fun k hk => ?_, fun k hk => ?_, fun k hk => ?_⟩
    · by_cases h3 : x = 143
      · subst h3; rw [u2_k _ _ hne, u2_a _ _ (by decide), u1_ne _ _ (by decide)]
      · rw [u2_a _ _ h3, u2_a _ _ e, u1_ne _ _ d]
    · rw [u2_a _ _ (by decide), u2_a _ _ (by decide), u1_ne _ _ (by decide)]
    · rw [u2_a _ _ (by decide), u2_k _ _ (by omega), u1_ne _ _ (by decide)]
    · rw [u2_a _ _ (by decide), u2_a _ _ (by decide), u1_at, ovw_ou (by rw [hl]; omega)]
    · rw [u2_a _ _ (by decide), u2_a _ _ (by decide), u1_ne _ _ (by decide)]
    · rw [u2_a _ _ (by decide), u2_a _ _ (by decide), u1_ne _ _ (by decide)]
  · rw [if_neg hw]; exact kEq_rf _ _
theorem gvL_len (m : List Int32) : (gvL m).length = m.length + 4 := by
  unfold gvL
  rw [List.length_append]
  show 4 + m.length = _
  omega
theorem gvL_b {m : List Int32} (hb : byl m) (hm : m.length ≤ 20) : byl (gvL m) := byl_app (byl_cons (b255 (by omega)) (byl_cons rfl (byl_cons rfl (byl_cons rfl byl_nil)))) hb
theorem rOut_give {o r dv : Nat} {W : bw_W} {J K : bw_J} {fr w ct : Nat} {m : List Int32} (h : rOut o r dv W J K fr w ct) (hb : byl m) (hm : m.length ≤ 20) : rOut o r dv (gvW r fr w m W) (gvC o w J) (gvM dv fr w m K) fr (min 8 (w + 1)) ct := by
  by_cases hw : w < 8
  · obtain ⟨h1, h2, h3, h4, h5, h6, h7, h8, h9, h10, h11⟩ := h
    unfold gvW gvC gvM gvJ
    rw [if_pos hw, if_pos hw, if_pos hw, show min 8 (w + 1) = w + 1 by omega]
    have hq : (fr + w) % 8 < 8 := Nat.mod_lt _ (by decide)
    generalize hqe : (fr + w) % 8 = q at hq
    refine ⟨by rw [u2_k _ _ (by decide)]; exact h1, by rw [u2_a _ _ (by decide), u2_a _ _ (by decide), u1_ne _ _ (by decide)]; exact h2, h3, u2_at _ _ _ _, u2_at _ _ _ _, by omega, by rw [u2_k _ _ (by decide)]; exact h7, by rw [u2_a _ _ (by decide), u2_a _ _ (by decide), u1_ne _ _ (by decide)]; exact h8, ?_, fun z => absurd z (by omega), ?_⟩
    · by_cases hf : q = fr
      · rw [h10 (by omega)]; exact Nat.zero_le _
      · rw [u1_ne _ _ (by omega)]; exact h9
    · intro i hi
      obtain ⟨g1, g2, g3, g4⟩ := h11 i hi
      rw [u2_a (b := 141) _ _ (by decide), u2_a (b := 140) _ _ (by decide), u2_a (b := 140) _ _ (by decide), u1_at]
      by_cases hiq : i = q
      · subst hiq
        rw [u1_at, u2_at, gvL_len]
        exact ⟨rfl, by omega, gvL_b hb hm, eqL_ovw _ _ _⟩
      · rw [u1_ne _ _ (by omega), u2_k _ _ (by omega), u1_ne _ _ (by decide)]
        exact ⟨g1, g2, g3, eqL_ou g4 (by rw [gvL_len]; omega)⟩
  · unfold gvW gvC gvM
    rw [if_neg hw, if_neg hw, if_neg hw]
    have hw8 : w = 8 := by have := h.2.2.2.2.2.1; omega
    rw [show min 8 (w + 1) = w by omega]
    exact h
section GV
variable {n0 : Nat} {W W0 : bw_W} {J K K0 J0 : bw_J} {g : Nat} {L : bw_L} {fr w ct : Nat}
/-- the class's give -/
theorem gv_c {d mr Nm : Nat} (hd : 2 ≤ d) (h : rOut 8 10 0 W J K fr w ct) (hm : R0 mr = some Nm) (hml : (W mr).length ≤ 20) (hne : ∀ i, i < 8 → ¬ mr = 10 + 2 * i) : bm d (S0 n0) R0 44 [.ref 8, .ref mr] W (jn J K0) g L (bR none (gvW 10 fr w (W mr) W) (jn (gvC 8 w J) K0) g L) := by
  obtain ⟨h1, h2, h3, h4, h5, h6, h7, h8, h9, h10, h11⟩ := h
  have := ou_give_c (n0 := n0) (W := W) (J := jn J K0) (g := g) (L := L) hd hm hml hne (o := fr) (w := w) h1 h3 h4 h6
  unfold gvW gvC
  by_cases hw : w < 8
  · rw [if_pos hw, if_pos hw] at this ⊢
    rw [jn_u2l (by decide)] at this
    exact this
  · rw [if_neg hw, if_neg hw] at this ⊢
    exact this
theorem gv_s {d mr Nm : Nat} (hd : 2 ≤ d) (h : rOut 38 40 1 W J K fr w ct) (hm : R0 mr = some Nm) (hml : (W mr).length ≤ 20) (hne : ∀ i, i < 8 → ¬ mr = 40 + 2 * i) : bm d (S0 n0) R0 44 [.ref 38, .ref mr] W (jn J K0) g L (bR none (gvW 40 fr w (W mr) W) (jn (gvC 38 w J) K0) g L) := by
  obtain ⟨h1, h2, h3, h4, h5, h6, h7, h8, h9, h10, h11⟩ := h
  have := ou_give_s (n0 := n0) (W := W) (J := jn J K0) (g := g) (L := L) hd hm hml hne (o := fr) (w := w) h1 h3 h4 h6
  unfold gvW gvC
  by_cases hw : w < 8
  · rw [if_pos hw, if_pos hw] at this ⊢
    rw [jn_u2l (by decide)] at this
    exact this
  · rw [if_neg hw, if_neg hw] at this ⊢
    exact this
/-- the reference's give -/
theorem gv_m {d dv : Nat} {m : List Int32} (hd : 1 ≤ d) (hdv : dv < 2) {o r : Nat} (h : rOut o r dv W J K fr w ct) (hm : m.length ≤ 20) (h29 : K 130 29 = Int32.ofNat m.length) (h151 : ∀ k, k < m.length → K 151 k = m.getD k 0) : bm d (S0 n0) R0 135 [.ref 130, .int (Int32.ofNat dv)] W0 (jn J0 K) g L (bR none W0 (jn J0 (gvM dv fr w m K)) g L) := by
  obtain ⟨h1, h2, h3, h4, h5, h6, h7, h8, h9, h10, h11⟩ := h
  unfold gvM
  by_cases hw : w < 8
  · rw [if_pos hw, ← jn_gv]
    rcases (show dv = 0 ∨ dv = 1 by omega) with rfl | rfl
    · exact mo_give0 (n0 := n0) (W := W0) (J := jn J0 K) (g := g) (L := L) hd (l := m) (fr := fr) (w := w) h29 h151 hm h2 h3 h5 hw rfl
    · exact mo_give1 (n0 := n0) (W := W0) (J := jn J0 K) (g := g) (L := L) hd (l := m) (fr := fr) (w := w) h29 h151 hm h2 h3 h5 hw rfl
  · rw [if_neg hw]
    have hw8 : w = 8 := by omega
    subst hw8
    rcases (show dv = 0 ∨ dv = 1 by omega) with rfl | rfl
    · exact mo_give0_full (n0 := n0) (W := W0) (J := jn J0 K) (g := g) (L := L) hd h5
    · exact mo_give1_full (n0 := n0) (W := W0) (J := jn J0 K) (g := g) (L := L) hd h5
end GV
