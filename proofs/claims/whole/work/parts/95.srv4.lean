/-! Part 95: the end of a long writing, class and reference side by side -/
theorem plan_eq {W : bw_W} {cn : Nat} : ∀ (r k : Nat) (p p' : Nat → Int32), (∀ q, q < cn → p q = p' q) → (∀ j, k ≤ j → j < k + r → ps W j < cn ∧ 2 ≤ (W (119 + 2 * j)).length) → (plan W r k p).1 = (mplan (ps W) (pp W) (fun k => (W (119 + 2 * k)).length - 2) r k p').1 ∧ ∀ q, q < cn → (plan W r k p).2 q = (mplan (ps W) (pp W) (fun k => (W (119 + 2 * k)).length - 2) r k p').2 q
  | 0, _, _, _, hp, _ => ⟨rfl, hp⟩
  | r + 1, k, p, p', hp, hs => by
    obtain ⟨h1, h2⟩ := hs k (by omega) (by omega)
    have he : pe W k = pp W k + ((W (119 + 2 * k)).length - 2) := by unfold pe; omega
    unfold plan mplan
    rw [he, hp _ h1]
    by_cases c1 : p' (ps W k) < Int32.ofNat (pp W k)
    · rw [if_pos c1, if_pos c1]; exact ⟨rfl, hp⟩
    · rw [if_neg c1, if_neg c1]
      by_cases c2 : 16 < pp W k + ((W (119 + 2 * k)).length - 2)
      · rw [if_pos c2, if_pos c2]; exact ⟨rfl, hp⟩
      · rw [if_neg c2, if_neg c2]
        refine plan_eq r (k + 1) _ _ (fun q hq => ?_) (fun j j1 j2 => hs j (by omega) (by omega))
        by_cases hqe : q = ps W k
        · subst hqe; rw [u1_at, u1_at]
        · rw [u1_ne _ _ hqe, u1_ne _ _ hqe]; exact hp q hq
theorem plan_le (H P Z : Nat → Nat) : ∀ (r k : Nat) (p : Nat → Int32), (mplan H P Z r k p).1 ≤ 13
  | 0, _, _ => Nat.zero_le _
  | r + 1, k, p => by
    unfold mplan
    by_cases c1 : p (H k) < Int32.ofNat (P k)
    · rw [if_pos c1]; show 7 ≤ 13; decide
    · rw [if_neg c1]
      by_cases c2 : 16 < P k + Z k
      · rw [if_pos c2]; show 13 ≤ 13; decide
      · rw [if_neg c2]; exact plan_le H P Z r (k + 1) _
/-- bytes laid over a row -/
theorem lay_len {x d : List Int32} {P Z : Nat} (hd : d.length = Z) (hP : P ≤ x.length) : (x.take P ++ d ++ x.drop (P + Z)).length = max x.length (P + Z) := by
  rw [List.length_append, List.length_append, List.length_take, List.length_drop, hd]; omega
theorem lay_get {x d : List Int32} {P Z : Nat} (hd : d.length = Z) (hP : P ≤ x.length) (j : Nat) : (x.take P ++ d ++ x.drop (P + Z)).getD j 0 = if j < P then x.getD j 0 else if j < P + Z then d.getD (j - P) 0 else x.getD j 0 := by
  have h1 : (x.take P).length = P := by rw [List.length_take]; omega
  rw [List.getD_eq_getElem?_getD, List.getD_eq_getElem?_getD, List.getD_eq_getElem?_getD]
  by_cases c1 : j < P
  · rw [if_pos c1, List.append_assoc, List.getElem?_append_left (by omega), List.getElem?_take_of_lt c1]
  · rw [if_neg c1]
    by_cases c2 : j < P + Z
    · rw [if_pos c2, List.append_assoc, List.getElem?_append_right (by omega), h1, List.getElem?_append_left (by omega)]
    · rw [if_neg c2, List.getElem?_append_right (by rw [List.length_append]; omega), List.length_append, h1, hd, List.getElem?_drop, show P + Z + (j - (P + Z)) = j by omega]
theorem lay_b {x d : List Int32} {P Z : Nat} (hx : byl x) (hd : byl d) : byl (x.take P ++ d ++ x.drop (P + Z)) := byl_app (byl_app (byl_take _ hx) hd) (byl_drop _ hx)
theorem lay_eq {x d : List Int32} {P Z o : Nat} {v : Nat → Int32} (hd : d.length = Z) (hP : P ≤ x.length) (h : eqL x v o) : eqL (x.take P ++ d ++ x.drop (P + Z)) (ovw (o + P) d v) o := fun j hj => by
  rw [lay_len hd hP] at hj
  rw [lay_get hd hP]
  by_cases c1 : j < P
  · rw [if_pos c1, ovw_ou (by omega)]; exact h j (by omega)
  · rw [if_neg c1]
    by_cases c2 : j < P + Z
    · rw [if_pos c2, show o + j = o + P + (j - P) by omega, ovw_in (by omega)]
    · rw [if_neg c2, ovw_ou (by omega)]; exact h j (by omega)
/-- the parts laid over the values, on both sides -/
theorem parts_sim {W0 : bw_W} {K : bw_J} {cn pn : Nat} (hcn : cn ≤ 10) (hpn : pn ≤ 4) (hp : ∀ k, k < pn → rPrt W0 K cn k) : ∀ (r k : Nat) (W : bw_W) (p v : Nat → Int32), k + r = pn → (∀ j, j < pn → W (119 + 2 * j) = W0 (119 + 2 * j)) → (∀ i, i < cn → p i = Int32.ofNat (W (89 + 3 * i)).length) → (∀ i, i < 10 → (W (89 + 3 * i)).length ≤ 16 ∧ byl (W (89 + 3 * i)) ∧ eqL (W (89 + 3 * i)) v (16 * i)) → (mplan (ps W0) (pp W0) (fun k => (W0 (119 + 2 * k)).length - 2) r k p).1 = 0 →
    ov_ok r k W ∧ (∀ i, i < cn → (mplan (ps W0) (pp W0) (fun k => (W0 (119 + 2 * k)).length - 2) r k p).2 i = Int32.ofNat (ovl r k W (89 + 3 * i)).length) ∧ (∀ i, i < 10 → (ovl r k W (89 + 3 * i)).length ≤ 16 ∧ byl (ovl r k W (89 + 3 * i)) ∧ eqL (ovl r k W (89 + 3 * i)) (mfv (ps W0) (pp W0) (fun k => (W0 (119 + 2 * k)).length - 2) (K 160) r k v) (16 * i)) ∧ (∀ c, (∀ i, i < cn → ¬ c = 89 + 3 * i) → ovl r k W c = W c) ∧ (∀ j, k ≤ j → j < pn → pp W0 j + ((W0 (119 + 2 * j)).length - 2) ≤ 16)
  | 0, k, W, p, v, hk, hW, hq, hv, h0 => ⟨trivial, hq, hv, fun _ _ => rfl, fun j j1 j2 => absurd j2 (by omega)⟩
  | r + 1, k, W, p, v, hk, hW, hq, hv, h0 => by
    obtain ⟨q1, q2, q3, q4, q5, q6⟩ := hp k (by omega)
    obtain ⟨w1, w2⟩ := ps_cg (hW k (by omega))
    have hlen2 := q1.2.2.2.2
    unfold mplan at h0 ⊢
    have hZ : ((W0 (119 + 2 * k)).drop 2).length = (W0 (119 + 2 * k)).length - 2 := List.length_drop
    by_cases c1 : p (ps W0 k) < Int32.ofNat (pp W0 k)
    · rw [if_pos c1] at h0; exact absurd (show 7 = 0 from h0) (by decide)
    · rw [if_neg c1] at h0 ⊢
      by_cases c2 : 16 < pp W0 k + ((W0 (119 + 2 * k)).length - 2)
      · rw [if_pos c2] at h0; exact absurd (show 13 = 0 from h0) (by decide)
      · rw [if_neg c2] at h0 ⊢
        obtain ⟨v1, v2, v3⟩ := hv (ps W0 k) (by omega)
        have hpl : pp W0 k ≤ (W (89 + 3 * ps W0 k)).length := by
          rw [hq _ q2, i_lt (by omega) (by have := q1.2.2.2.1; omega)] at c1
          omega
        have hox : ovs W k = am_u1 W (89 + 3 * ps W0 k) ((W (89 + 3 * ps W0 k)).take (pp W0 k) ++ (W0 (119 + 2 * k)).drop 2 ++ (W (89 + 3 * ps W0 k)).drop (pp W0 k + ((W0 (119 + 2 * k)).length - 2))) := by
          unfold ovs; rw [w1, w2, hW k (by omega)]
        have hpv : (if p (ps W0 k) < Int32.ofNat (pp W0 k + ((W0 (119 + 2 * k)).length - 2)) then Int32.ofNat (pp W0 k + ((W0 (119 + 2 * k)).length - 2)) else p (ps W0 k)) = Int32.ofNat (max (W (89 + 3 * ps W0 k)).length (pp W0 k + ((W0 (119 + 2 * k)).length - 2))) := by
          rw [hq _ q2]
          by_cases c3 : (W (89 + 3 * ps W0 k)).length < pp W0 k + ((W0 (119 + 2 * k)).length - 2)
          · rw [if_pos ((i_lt (by omega) (by omega)).mpr c3), show max (W (89 + 3 * ps W0 k)).length (pp W0 k + ((W0 (119 + 2 * k)).length - 2)) = pp W0 k + ((W0 (119 + 2 * k)).length - 2) by omega]
          · rw [if_neg (fun z => c3 ((i_lt (by omega) (by omega)).mp z)), show max (W (89 + 3 * ps W0 k)).length (pp W0 k + ((W0 (119 + 2 * k)).length - 2)) = (W (89 + 3 * ps W0 k)).length by omega]
        rw [hpv] at h0 ⊢
        have hls : lst (K 160) (20 * k) ((W0 (119 + 2 * k)).length - 2) = (W0 (119 + 2 * k)).drop 2 := eqL_all q6 hZ.symm
        have ih := parts_sim hcn hpn hp r (k + 1) (ovs W k) (am_u1 p (ps W0 k) (Int32.ofNat (max (W (89 + 3 * ps W0 k)).length (pp W0 k + ((W0 (119 + 2 * k)).length - 2))))) (ovw (16 * ps W0 k + pp W0 k) (lst (K 160) (20 * k) ((W0 (119 + 2 * k)).length - 2)) v) (by omega) (fun j hj => by rw [hox, u1_ne _ _ (by omega)]; exact hW j hj) (fun i hi => ?_) (fun i hi => ?_) h0
        · obtain ⟨i1, i2, i3, i4, i5⟩ := ih
          refine ⟨⟨?_, ?_, ?_, i1⟩, i2, i3, fun c hc => ?_, fun j j1 j2 => ?_⟩
          · unfold p_ok at q1 ⊢
            rw [w1, w2, hW k (by omega)]; exact q1
          · rw [w1, w2]; exact hpl
          · rw [w2, hW k (by omega)]; omega
          · have := i4 c hc
            show ovl r (k + 1) (ovs W k) c = _
            rw [this, hox, u1_ne _ _ (hc _ q2)]
          · by_cases hjk : j = k
            · subst hjk; omega
            · exact i5 j (by omega) j2
        · rw [hox]
          by_cases hie : i = ps W0 k
          · subst hie
            rw [u1_at, u1_at, lay_len hZ hpl]
          · rw [u1_ne _ _ hie, u1_ne _ _ (by omega)]; exact hq i hi
        · rw [hox, hls]
          by_cases hie : i = ps W0 k
          · subst hie
            rw [u1_at, lay_len hZ hpl]
            exact ⟨by omega, lay_b v2 (byl_drop 2 q3), lay_eq hZ hpl v3⟩
          · rw [u1_ne _ _ (by omega)]
            obtain ⟨g1, g2, g3⟩ := hv i hi
            exact ⟨g1, g2, eqL_ou g3 (by rw [hZ]; omega)⟩
theorem mfs_at (H : Nat → Nat) (tr : Nat → Int32) (i : Nat) : ∀ (r k : Nat) (s : Nat → Int32), s i = tr i → mfs H tr r k s i = tr i
  | 0, _, _, h => h
  | r + 1, k, s, h => mfs_at H tr i r (k + 1) _ (by
    by_cases hi : i = H k
    · subst hi; rw [u1_at]
    · rw [u1_ne _ _ hi]; exact h)
theorem mfs_ge (H : Nat → Nat) (tr : Nat → Int32) (i : Nat) : ∀ (r k : Nat) (s : Nat → Int32), (∀ j, k ≤ j → j < k + r → ¬ i = H j) → mfs H tr r k s i = s i
  | 0, _, _, _ => rfl
  | r + 1, k, s, h => (mfs_ge H tr i r (k + 1) _ (fun j j1 j2 => h j (by omega) (by omega))).trans (u1_ne _ _ (h k (by omega) (by omega)))
/-- where a place of the plan is touched it is the plan's -/
theorem mfs_in (H : Nat → Nat) (tr : Nat → Int32) (i : Nat) : ∀ (r k : Nat) (s : Nat → Int32), (∃ j, k ≤ j ∧ j < k + r ∧ i = H j) → mfs H tr r k s i = tr i
  | 0, _, _, ⟨j, h1, h2, _⟩ => absurd h2 (by omega)
  | r + 1, k, s, ⟨j, h1, h2, h3⟩ => by
    by_cases hj : i = H k
    · refine mfs_at H tr i r (k + 1) _ ?_
      subst hj; rw [u1_at]
    · refine mfs_in H tr i r (k + 1) _ ⟨j, ?_, by omega, h3⟩
      by_cases hjk : j = k
      · subst hjk; exact absurd h3 hj
      · omega
/-- a row that no part names stays -/
theorem ovl_no {W0 : bw_W} {pn c : Nat} (h : ∀ j, 0 ≤ j → j < 0 + pn → ¬ c = 89 + 3 * ps W0 j) : ∀ (r k : Nat) (W : bw_W), k + r = pn → (∀ j, j < pn → W (119 + 2 * j) = W0 (119 + 2 * j)) → pn ≤ 4 → (∀ j, j < pn → ps W0 j < 10) → ovl r k W c = W c
  | 0, _, _, _, _, _, _ => rfl
  | r + 1, k, W, hk, hW, hb, hq => by
    show ovl r (k + 1) (ovs W k) c = W c
    have w1 := (ps_cg (hW k (by omega))).1
    have hx : ∀ q, ¬ q = 89 + 3 * ps W0 k → ovs W k q = W q := fun q hq2 => by unfold ovs; rw [w1, u1_ne _ _ hq2]
    rw [ovl_no h r (k + 1) (ovs W k) (by omega) (fun j hj => by rw [hx _ (by have := hq k (by omega); omega)]; exact hW j hj) hb hq, hx c (h k (by omega) (by omega))]
section SZ
variable {n0 : Nat} {W : bw_W} {J K : bw_J} {fr w ct cn pn sl : Nat}
theorem shp_24 {b1 : Nat} (hop : (W 57).getD 0 0 = Int32.ofNat 24) (hb : (W 57).getD 1 0 = Int32.ofNat b1) (hb1 : b1 ≤ 1) (hp : (W 57).length = 2) : ∀ (e : Nat) (K0 : bw_J) (g : Nat) (L : bw_L), 2 ≤ e → bm e (S0 n0) R0 78 [.ref 57] (am_u1 W 128 []) (jn J K0) g L (bR (some (.int (Int32.ofNat 0))) (am_u1 W 128 []) (jn J K0) g L) := fun e K0 g L he => by
  have := se_shape24 (n0 := n0) (W := am_u1 W 128 []) (J := jn J K0) (g := g) (L := L) he hop hb (by omega)
  rw [show am_u1 W 128 [] 57 = W 57 from rfl, if_pos ⟨hp, hb1⟩] at this
  exact this
theorem szd_24 {b1 : Nat} (h : srvIn W J K fr w ct cn pn sl) (h150 : K 150 0 = Int32.ofNat 24) (hk1 : K 150 1 = Int32.ofNat b1) (hb1 : b1 ≤ 1) (hp : (W 57).length = 2) : ∀ (W0 : bw_W) (J0 : bw_J) (g : Nat) (L : bw_L) (e : Nat), 1 ≤ e → bm e (S0 n0) R0 162 [.ref 130] W0 (jn J0 K) g L (bR (some (.int 1)) W0 (jn J0 K) g L) := fun W0 J0 g L e he => by
  have := mo_sized24 (n0 := n0) (W := W0) (J := jn J0 K) (g := g) (L := L) he h150 (n := (W 57).length) h.2.2.2.2.1 h.2.2.1 hk1 (by omega)
  rw [if_pos ⟨hp, by omega⟩] at this
  exact this
/-- no part is kept any more -/
theorem rSrv_p0 {W1 : bw_W} {J1 K1 : bw_J} (h : rSrv W J K cn pn sl) (a1 : ∀ c, 86 ≤ c → c < 118 → ¬ c = 86 → J1 c = J c) (a2 : ∀ f, ¬ f = 3 → J1 86 f = J 86 f) (a3 : J1 86 3 = Int32.ofNat 0) (b : ∀ i, i < 10 → rVal W1 K1 i) (b2 : ∀ i, i < 10 → cn ≤ i → W1 (89 + 3 * i) = []) (c : ∀ c, 152 ≤ c → c ≤ 153 → K1 c = K c) (d : ∀ f, f = 31 ∨ f = 37 ∨ f = 38 → K1 130 f = K 130 f) (d2 : K1 130 39 = Int32.ofNat 0) : rSrv W1 J1 K1 cn 0 sl := by
  obtain ⟨s1, s2, s3, s4, s5, s6, s7, s8, s9, s10, s11, s12, s13, s14, s15, s16⟩ := h
  unfold rSrv
  rw [a2 1 (by decide), a2 6 (by decide), a2 7 (by decide), d 31 (by decide), d 37 (by decide), d 38 (by decide)]
  refine ⟨s1, s2, s3, fun i hi => ?_, b, b2, a3, d2, by decide, fun k hk => absurd hk (by omega), s11, s12, s13, s14, s15, s16⟩
  rw [a1 _ (by omega) (by omega) (by omega), c 152 (by decide) (by decide), c 153 (by decide) (by decide)]
  exact s4 i hi
theorem srv_24_0 (h : srvIn W J K fr w ct cn pn sl) (hne : 0 < (W 57).length) (hop : (W 57).getD 0 0 = Int32.ofNat 24) (hp : (W 57).length = 2) (hb : (W 57).getD 1 0 = Int32.ofNat 0) : srvEnd n0 W J K := by
  have h150 := in150 h hne
  rw [hop] at h150
  have hk1 := in150 h (show 1 < (W 57).length by omega)
  rw [hb] at hk1
  have hI := h
  obtain ⟨h1, h2, h3, h4, h5, h6⟩ := h
  have hS0 := h1
  obtain ⟨s1, s2, s3, s4, s5, s6, s7, s8, s9, s10, s11, s12, s13, s14, s15, s16⟩ := h1
  refine srv_a (W1 := W) (J1 := am_u2 J 86 3 0) (K1 := am_u2 K 130 39 (Int32.ofNat 0)) (l := [Int32.ofNat 25]) (cn1 := cn) (pn1 := 0) (sl1 := sl) hI hne hop (by decide) (by decide) (shp_24 hop hb (by decide) hp) (fun e K0 g L he => ?_) (fun K2 W0 J0 g L hG d hd => ?_) (by show 1 ≤ 20; decide) (byl_cons rfl byl_nil) (rSrv_p0 hS0 (fun c _ _ c3 => u2_a _ _ c3) (fun f hf => u2_k _ _ hf) (u2_at _ _ _ _) (fun i hi => rVal_fr (s5 i hi) rfl rfl rfl) s6 (fun c c1 c2 => u2_a _ _ (by omega)) (fun f hf => u2_k _ _ (by omega)) (u2_at _ _ _ _)) (rOut_fc h2 rfl (fun _ _ => rfl) (fun c c1 c2 => u2_a _ _ (by omega))) ⟨fun _ _ _ _ => rfl, fun c _ c2 _ => u2_a _ _ c2, kEq_of fun c c1 c2 => u2_a _ _ (by omega), fun c c1 _ _ _ _ _ => u2_a _ _ c1, fun f _ _ _ f4 => u2_k _ _ f4⟩
  · refine se_to_24_0 (n0 := n0) (W := am_u1 W 128 []) (J := jn J K0) he hop hb (fun e2 he2 => ?_)
    have := se_end0 (n0 := n0) (W := am_u1 W 128 []) (J := jn J K0) (g := g) (L := L) he2 (u1_at _ _ _)
    rw [u1_u1, jn_u2l (by decide)] at this
    exact this
  · refine mo_sh_24 hd h5 h3 hne h150 (fun e he => szd_24 hI h150 hk1 (by decide) hp W0 J0 g L e he) (fun e he => mo_fin0 (n0 := n0) (J := jn J0 K) (by omega) hk1 s8 s9 (fun e2 he2 => ?_))
    rw [jn_u2r (by decide), jn_mk]
    exact hG e2 he2
theorem srv_24_1 (h : srvIn W J K fr w ct cn pn sl) (hne : 0 < (W 57).length) (hop : (W 57).getD 0 0 = Int32.ofNat 24) (hp : (W 57).length = 2) (hb : (W 57).getD 1 0 = Int32.ofNat 1) : srvEnd n0 W J K := by
  have h150 := in150 h hne
  rw [hop] at h150
  have hk1 := in150 h (show 1 < (W 57).length by omega)
  rw [hb] at hk1
  have hI := h
  obtain ⟨h1, h2, h3, h4, h5, h6⟩ := h
  have hS0 := h1
  obtain ⟨s1, s2, s3, s4, s5, s6, s7, s8, s9, s10, s11, s12, s13, s14, s15, s16⟩ := h1
  have hps : ∀ k, ps (am_u1 W 128 []) k = ps W k := fun k => (ps_cg (u1_ne _ _ (by omega))).1
  have hwp : ∀ k, k < 4 → (am_u1 W 128 []) (119 + 2 * k) = W (119 + 2 * k) := fun k hk => u1_ne _ _ (by omega)
  have hwa : ∀ i, i < 10 → (am_u1 W 128 []) (89 + 3 * i) = W (89 + 3 * i) := fun i hi => u1_ne _ _ (by omega)
  have hpr : ∀ k, k < pn → rPrt (am_u1 W 128 []) K cn k := fun k hk => rPrt_fr (s10 k hk) (by omega) (hwp k (by omega)) (fun _ _ _ => rfl)
  generalize hH : ps (am_u1 W 128 []) = H at *
  generalize hP : pp (am_u1 W 128 []) = P at *
  generalize hZ : (fun k => ((am_u1 W 128 []) (119 + 2 * k)).length - 2) = Z at *
  have hmo : ∀ k, k < pn → mp_ok K H P Z k := fun k hk => by
    have := (hpr k hk).2.2.2.2.1
    rw [hH, hP, hZ] at this
    exact this
  have hpo : ∀ k, k < pn → p_ok (am_u1 W 128 []) k := fun k hk => (hpr k hk).1
  have hpe := plan_eq (W := am_u1 W 128 []) (cn := cn) pn 0 (pl1 (am_u1 W 128 []) J cn) (tl1 K cn) (fun q hq => by
    unfold pl1 tl1
    rw [if_pos hq, if_pos hq, hwa q (by omega)]; exact ((s5 q (by omega)).1).symm) (fun j _ j2 => ⟨(hpr j (by omega)).2.1, (hpo j (by omega)).2.2.2.2⟩)
  rw [hH, hP, hZ] at hpe
  obtain ⟨e1, e2⟩ := hpe
  have hle := plan_le H P Z pn 0 (tl1 K cn)
  have hmp : ∃ cd pf, mplan H P Z pn 0 (tl1 K cn) = (cd, pf) := ⟨_, _, rfl⟩
  obtain ⟨cd, pf, hmp⟩ := hmp
  have hcp : ∃ pc, plan (am_u1 W 128 []) pn 0 (pl1 (am_u1 W 128 []) J cn) = (cd, pc) := ⟨(plan (am_u1 W 128 []) pn 0 (pl1 (am_u1 W 128 []) J cn)).2, by
    rw [hmp] at e1
    exact Prod.ext e1 rfl⟩
  obtain ⟨pc, hcp⟩ := hcp
  rw [hmp] at hle
  have hpj : ∀ K0 : bw_J, pl1 (am_u1 W 128 []) (jn J K0) cn = pl1 (am_u1 W 128 []) J cn := fun K0 => rfl
  by_cases hcd : cd = 0
  · subst hcd
    have hsim := parts_sim (W0 := am_u1 W 128 []) (K := K) (cn := cn) (pn := pn) s3 s9 hpr pn 0 (am_u1 W 128 []) (tl1 K cn) (K 155) (by omega) (fun _ _ => rfl) (fun i hi => by
      unfold tl1; rw [if_pos hi, hwa i (by omega)]; exact (s5 i (by omega)).1) (fun i hi => by
      rw [hwa i hi]; exact (s5 i hi).2) (by rw [hH, hP, hZ, hmp])
    rw [hH, hP, hZ, hmp] at hsim
    obtain ⟨i1, i2, i3, i4, i5⟩ := hsim
    have hzz : ∀ k, k < pn → P k + Z k ≤ 16 := fun k hk => by
      have := i5 k (by omega) hk
      rw [← hZ]; exact this
    have hnat : ∀ c, (∀ i, i < 10 → ¬ c = 89 + 3 * i) → ovl pn 0 (am_u1 W 128 []) c = (am_u1 W 128 []) c := fun c hc => i4 c (fun i hi => hc i (by omega))
    refine srv_a (W1 := ovl pn 0 (am_u1 W 128 [])) (J1 := am_u2 (am_u1 J 127 pc) 86 3 0) (K1 := am_u2 (am_u1 (am_u1 (am_u1 K 156 pf) 154 (mfs H pf pn 0 (K 154))) 155 (mfv H P Z (K 160) pn 0 (K 155))) 130 39 (Int32.ofNat 0)) (l := [Int32.ofNat 25]) (cn1 := cn) (pn1 := 0) (sl1 := sl) hI hne hop (by decide) (by decide) (shp_24 hop hb (by decide) hp) (fun e K0 g L he => ?_) (fun K2 W0 J0 g L hG d hd => ?_) (by show 1 ≤ 20; decide) (byl_cons rfl byl_nil) (rSrv_p0 hS0 (fun c c1 c2 c3 => by rw [u2_a _ _ c3, u1_ne _ _ (by omega)]) (fun f hf => by rw [u2_k _ _ hf, u1_ne _ _ (by decide)]) (u2_at _ _ _ _) (fun i hi => ?_) (fun i hi hic => ?_) (fun c c1 c2 => by rw [u2_a _ _ (by omega), u1_ne _ _ (by omega), u1_ne _ _ (by omega), u1_ne _ _ (by omega)]) (fun f hf => by rw [u2_k _ _ (by omega), u1_ne _ _ (by decide), u1_ne _ _ (by decide), u1_ne _ _ (by decide)]) (u2_at _ _ _ _)) (rOut_fc h2 (by rw [u2_a _ _ (by decide), u1_ne _ _ (by decide)]) (fun i hi => by rw [hnat _ (fun j hj => by omega), u1_ne _ _ (by omega)]) (fun c c1 c2 => by rw [u2_a _ _ (by omega), u1_ne _ _ (by omega), u1_ne _ _ (by omega), u1_ne _ _ (by omega)])) ⟨fun c c1 c2 c3 => by rw [hnat _ (fun j hj => by omega), u1_ne _ _ c1], fun c c1 c2 c3 => by rw [u2_a _ _ c2, u1_ne _ _ c3], kEq_of fun c c1 c2 => by rw [u2_a _ _ (by omega), u1_ne _ _ (by omega), u1_ne _ _ (by omega), u1_ne _ _ (by omega)], fun c c1 c2 c3 c4 c5 c6 => by rw [u2_a _ _ c1, u1_ne _ _ (by omega), u1_ne _ _ (by omega), u1_ne _ _ (by omega)], fun f _ _ _ f4 => by rw [u2_k _ _ f4, u1_ne _ _ (by decide), u1_ne _ _ (by decide), u1_ne _ _ (by decide)]⟩
    · refine se_to_24_1 (n0 := n0) (W := am_u1 W 128 []) (J := jn J K0) he hop hb (fun e2 he2 => ?_)
      have := se_end2 (n0 := n0) (W := am_u1 W 128 []) (J := jn J K0) (g := g) (L := L) he2 s1 s3 s7 s9 hpo hcp rfl i1 (by rw [hnat _ (fun j hj => by omega), u1_at])
      rw [jn_u1l (by decide), jn_u2l (by decide)] at this
      exact this
    · refine mo_sh_24 hd h5 h3 hne h150 (fun e he => szd_24 hI h150 hk1 (by decide) hp W0 J0 g L e he) (fun e he => mo_fin2 (n0 := n0) (J := jn J0 K) (H := H) (P := P) (Z := Z) (by omega) hk1 s2 s3 s8 s9 hmo hzz (pf := pf) hmp (fun e2 he2 => ?_))
      rw [jn_ge (c := 154) (by decide), jn_ge (c := 160) (by decide), jn_ge (c := 155) (by decide), jn_u1r (by decide), jn_u1r (by decide), jn_u1r (by decide), jn_u2r (by decide), jn_mk]
      exact hG e2 he2
    · obtain ⟨g1, g2, g3⟩ := i3 i hi
      unfold rVal
      rw [u2_a _ _ (by decide), u1_ne _ _ (by decide), u1_at, u2_a _ _ (by decide), u1_at]
      refine ⟨?_, g1, g2, g3⟩
      by_cases hic : i < cn
      · have hpi : pf i = Int32.ofNat (ovl pn 0 (am_u1 W 128 []) (89 + 3 * i)).length := i2 i hic
        by_cases hex : ∃ j, 0 ≤ j ∧ j < 0 + pn ∧ i = H j
        · rw [mfs_in H pf i pn 0 _ hex]; exact hpi
        · have hno : ∀ j, 0 ≤ j → j < 0 + pn → ¬ i = H j := fun j j1 j2 z => hex ⟨j, j1, j2, z⟩
          rw [mfs_ge H pf i pn 0 _ hno]
          have : ovl pn 0 (am_u1 W 128 []) (89 + 3 * i) = W (89 + 3 * i) := by
            rw [← hwa i hi]
            exact ovl_no (fun j j1 j2 => by rw [hH]; exact fun z => hno j j1 j2 (by omega)) pn 0 _ (by omega) (fun _ _ => rfl) s9 (fun j hj => by have := (hpr j hj).2.1; omega)
          rw [this]; exact (s5 i hi).1
      · have hno : ∀ j, 0 ≤ j → j < 0 + pn → ¬ i = H j := fun j j1 j2 z => by
          have := (hpr j (by omega)).2.1
          rw [hH] at this
          omega
        rw [mfs_ge H pf i pn 0 _ hno, i4 _ (fun j hj => by omega), hwa i hi]
        exact (s5 i hi).1
    · rw [i4 _ (fun j hj => by omega), hwa i hi]; exact s6 i hi hic
  · refine srv_r (W1 := W) (J1 := am_u2 (am_u1 J 127 pc) 86 3 0) (K1 := am_u2 (am_u1 K 156 pf) 130 39 (Int32.ofNat 0)) (c := cd) (hn := 1) (cn1 := cn) (pn1 := 0) (sl1 := sl) hI hne hop (by decide) (by decide) (shp_24 hop hb (by decide) hp) (by omega) (by omega) hb (by decide) [Int32.ofNat 25] (fun e K0 g L he => ?_) (fun K2 W0 J0 g L hG d hd => ?_) (rSrv_p0 hS0 (fun c c1 c2 c3 => by rw [u2_a _ _ c3, u1_ne _ _ (by omega)]) (fun f hf => by rw [u2_k _ _ hf, u1_ne _ _ (by decide)]) (u2_at _ _ _ _) (fun i hi => rVal_fr (s5 i hi) rfl rfl rfl) s6 (fun c c1 c2 => by rw [u2_a _ _ (by omega), u1_ne _ _ (by omega)]) (fun f hf => by rw [u2_k _ _ (by omega), u1_ne _ _ (by decide)]) (u2_at _ _ _ _)) (rOut_fc h2 (by rw [u2_a _ _ (by decide), u1_ne _ _ (by decide)]) (fun _ _ => rfl) (fun c c1 c2 => by rw [u2_a _ _ (by omega), u1_ne _ _ (by omega)])) ⟨fun _ _ _ _ => rfl, fun c c1 c2 c3 => by rw [u2_a _ _ c2, u1_ne _ _ c3], kEq_of fun c c1 c2 => by rw [u2_a _ _ (by omega), u1_ne _ _ (by omega)], fun c c1 c2 c3 c4 c5 c6 => by rw [u2_a _ _ c1, u1_ne _ _ (by omega)], fun f _ _ _ f4 => by rw [u2_k _ _ f4, u1_ne _ _ (by decide)]⟩ rfl rfl
    · refine se_to_24_1 (n0 := n0) (W := am_u1 W 128 []) (J := jn J K0) he hop hb (fun e2 he2 => ?_)
      have := se_end1 (n0 := n0) (W := am_u1 W 128 []) (J := jn J K0) (g := g) (L := L) he2 s1 s3 s7 s9 hpo hcp (by omega) (by omega) (u1_at _ _ _)
      rw [u1_u1, jn_u1l (by decide), jn_u2l (by decide)] at this
      exact this
    · refine mo_sh_24 hd h5 h3 hne h150 (fun e he => szd_24 hI h150 hk1 (by decide) hp W0 J0 g L e he) (fun e he => mo_fin1 (n0 := n0) (J := jn J0 K) (H := H) (P := P) (Z := Z) (by omega) hk1 s2 s3 s8 s9 hmo hmp (by omega) (by omega) (fun e2 he2 => ?_))
      rw [jn_u1r (by decide), jn_u2r (by decide)]
      exact hG e2 he2
/-- the server handles what it got -/
theorem srv_all (h : srvIn W J K fr w ct cn pn sl) : srvEnd n0 W J K := by
  by_cases hne : 0 < (W 57).length
  · obtain ⟨op, ho2, hop⟩ := byl_n h.2.2.2.1 0
    by_cases h30 : op = 30
    · subst h30; exact srv_30 h hne hop
    · by_cases h2 : op = 2
      · subst h2
        by_cases hp : (W 57).length = 2
        · exact srv_2 h hne hop hp
        · exact srv_b2 h hne hop hp
      · by_cases h10 : op = 10
        · subst h10
          by_cases hp : (W 57).length = 2
          · exact srv_10 h hne hop hp
          · exact srv_b10 h hne hop hp
        · by_cases h12 : op = 12
          · subst h12
            by_cases hp : (W 57).length = 3
            · exact srv_12 h hne hop hp
            · exact srv_b12 h hne hop hp
          · by_cases h16 : op = 16
            · subst h16
              by_cases hp : (W 57).length = 3
              · exact srv_16 h hne hop hp
              · exact srv_b16 h hne hop hp
            · by_cases h18 : op = 18
              · subst h18
                by_cases hp : 2 ≤ (W 57).length
                · exact srv_18 h hne hop hp
                · exact srv_b18 h hne hop hp
              · by_cases h22 : op = 22
                · subst h22
                  by_cases hp : 3 ≤ (W 57).length
                  · exact srv_22 h hne hop hp
                  · exact srv_b22 h hne hop hp
                · by_cases h24 : op = 24
                  · subst h24
                    by_cases hp0 : (W 57).length = 2 ∧ (W 57).getD 1 0 = Int32.ofNat 0
                    · exact srv_24_0 h hne hop hp0.1 hp0.2
                    · by_cases hp1 : (W 57).length = 2 ∧ (W 57).getD 1 0 = Int32.ofNat 1
                      · exact srv_24_1 h hne hop hp1.1 hp1.2
                      · exact srv_b24 h hne hop (fun z => z.elim hp0 hp1)
                  · exact srv_u h hne hop ho2 h30 (by omega)
  · exact srv_e h (List.length_eq_zero_iff.mp (by omega))
end SZ
