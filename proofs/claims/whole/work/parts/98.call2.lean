/-! Part 98: the calls, class and reference side by side: attribute, put, tell -/
/-- an answer goes out, with all that it leaves -/
theorem ans_ex {n0 : Nat} {W1 : bw_W} {J1 K1 : bw_J} {fr w ct cn pn sl : Nat} {l : List Int32} (hS : rSrv W1 J1 K1 cn pn sl) (hO : rOut 38 40 1 W1 J1 K1 fr w ct) (hl : l.length ≤ 20) (hb : byl l) : ∃ (W' : bw_W) (J' K' : bw_J), (∀ (d : Nat) (K0 : bw_J) (g : Nat) (L : bw_L), 2 ≤ d → bm d (S0 n0) R0 44 [.ref 38, .ref 128] (am_u1 W1 128 l) (jn J1 K0) g L (bR none W' (jn J' K0) g L)) ∧ (∀ (d : Nat) (W0 : bw_W) (J0 : bw_J) (g : Nat) (L : bw_L), 1 ≤ d → bm d (S0 n0) R0 135 [.ref 130, .int (Int32.ofNat 1)] W0 (jn J0 (mkJ K1 l)) g L (bR none W0 (jn J0 K') g L)) ∧ rSrv W' J' K' cn pn sl ∧ rOut 38 40 1 W' J' K' fr (min 8 (w + 1)) ct ∧ (∀ c, ¬ c = 128 → ¬ (40 ≤ c ∧ c < 56) → W' c = W1 c) ∧ (∀ c, ¬ c = 38 → J' c = J1 c) ∧ kEq 0 K' K1 ∧ (∀ c, ¬ c = 130 → ¬ c = 140 → ¬ c = 141 → ¬ c = 143 → ¬ c = 151 → K' c = K1 c) ∧ (∀ f, ¬ f = 29 → K' 130 f = K1 130 f) := by
  have hO1 : rOut 38 40 1 (am_u1 W1 128 l) J1 (mkJ K1 l) fr w ct := rOut_fc hO rfl (fun i hi => by rw [u1_ne _ _ (by omega)]) (fun c c1 c2 => mkJ_c _ _ (by omega) (by omega))
  have h128 : (am_u1 W1 128 l) 128 = l := u1_at _ _ _
  have hW : ∀ c, ¬ c = 128 → ¬ (40 ≤ c ∧ c < 56) → gvW 40 fr w l (am_u1 W1 128 l) c = W1 c := fun c c1 c2 => by rw [gvW_fr (fun i hi => by omega), u1_ne _ _ c1]
  have hK : ∀ c, ¬ c = 130 → ¬ c = 140 → ¬ c = 141 → ¬ c = 143 → ¬ c = 151 → gvM 1 fr w l (mkJ K1 l) c = K1 c := fun c c0 c1 c2 c3 c4 => by rw [gvM_fr c1 c2 c3, mkJ_c _ _ c4 c0]
  have hK3 : ∀ f, ¬ f = 29 → gvM 1 fr w l (mkJ K1 l) 130 f = K1 130 f := fun f hf => by rw [gvM_fr (by decide) (by decide) (by decide), mkJ_f _ _ hf]
  refine ⟨gvW 40 fr w l (am_u1 W1 128 l), gvC 38 w J1, gvM 1 fr w l (mkJ K1 l), fun d K0 g L hd => ?_, fun d W0 J0 g L hd => ?_, ?_, rOut_give hO1 hb hl, hW, fun c c1 => gvC_fr c1, ?_, hK, hK3⟩
  · have := gv_s (n0 := n0) (K0 := K0) (g := g) (L := L) (mr := 128) hd hO1 R_128 (by rw [h128]; exact hl) (fun i hi => by omega)
    rw [h128] at this
    exact this
  · exact gv_m hd (by decide) hO1 hl (by unfold mkJ; rw [u2_at]) (fun k hk => by unfold mkJ; rw [u2_a _ _ (by decide), u1_at, ovw_0 hk])
  · exact rSrv_fr hS (fun c c1 c2 => gvC_fr (by omega)) (fun c c1 c2 => hW c (by omega) (by omega)) (fun c c1 c2 _ => hK c (by omega) (by omega) (by omega) (by omega) (by omega)) (fun f hf => hK3 f (by omega))
  · exact kEq_tr (gvM_kEq hl (by decide) (by decide) (by decide)) (kEq_of fun c c1 c2 => mkJ_c _ _ (by omega) (by omega))
section R2
variable {n0 : Nat} {T : Nat} {W : bw_W} {J K : bw_J}
theorem sim_attribute {ty pm n : Int32} {v : Int64} (h : rel T W J K) : callR n0 T T W J K 25 [.ref 1, .int ty, .int pm, .long v, .int n] 129 [.int ty, .int pm, .long v, .int n] := by
  by_cases hok : ((¬ ty < 0 ∧ ¬ Int32.ofNat 255 < ty) ∧ ¬ pm < 0 ∧ ¬ Int32.ofNat 3 < pm ∧ (¬ n < 0 ∧ ¬ Int32.ofNat 8 < n))
  · obtain ⟨nn, hn8, rfl⟩ := nat_of (by decide) hok.2.2.2
    have hr := h
    obtain ⟨a1, hc, -⟩ := h
    have hc' := hc
    obtain ⟨-, -, -, -, -, ⟨fr, w, ct, o1⟩, -, -, -, -, ⟨cn, pn, sl, s⟩, -⟩ := hc
    obtain ⟨s1, s2, s3, s4, s5, s6, s7, s8, s9, s10, s11, s12, s13, s14, s15, s16⟩ := s
    by_cases hf : cn = 10
    · subst hf
      exact call_x (k := 2) hr (Or.inr rfl) (fun d K0 g L hd => la_attribute_x2 hd (fun e he => al_attr1 (by omega) hok s1)) (fun d W0 J0 g L hd => mo_attr1 (n0 := n0) (W := W0) (J := jn J0 K) (g := g) (L := L) (by omega) hok s2)
    · have hi : cn < 10 := by omega
      have hw := s6 cn hi (Nat.le_refl _)
      have hl8 : (by8 v nn).length = nn := by8_len v nn
      refine ⟨0, 0, Int32.ofNat (cn + 1), Int32.ofNat (cn + 1), am_u1 W (89 + 3 * cn) (by8 v nn), am_u2 (am_u2 (am_u2 J (88 + 3 * cn) 1 ty) (88 + 3 * cn) 2 pm) 86 1 (Int32.ofNat (cn + 1)), am_u2 (am_u1 (am_u2 (am_u2 (am_u2 (am_u2 K 130 0 (Int32.ofNat 0)) 152 cn ty) 153 cn pm) 154 cn (Int32.ofNat nn)) 155 (ovw (16 * cn) (by8 v nn) (K 155))) 130 31 (Int32.ofNat (cn + 1)), by decide, fun _ => rfl, fun d K0 g L hd => ?_, fun d W0 J0 g L hd => ?_, ?_, ?_, ?_⟩
      · rw [if_pos rfl]
        refine la_attribute hd (fun e he => ?_)
        have := al_attr2 (n0 := n0) (W := W) (J := jn J K0) (g := g) (L := L) (v := v) (i := cn) (d := e) (by omega) hok hn8 hi s1 hw
        rw [jn_u2l (by omega), jn_u2l (by omega), jn_u2l (by decide)] at this
        exact this
      · have := mo_attr2 (n0 := n0) (W := W0) (J := jn J0 K) (g := g) (L := L) (v := v) (d := d) (by omega) hok hn8 hi s2
        rw [jn_ge (c := 155) (by decide), jn_u2r (by decide), jn_u2r (by decide), jn_u2r (by decide), jn_u2r (by decide), jn_u1r (by decide), jn_u2r (by decide)] at this
        exact this
      · rw [u2_k _ _ (by decide), u1_ne _ _ (by decide), u2_a _ _ (by decide), u2_a _ _ (by decide), u2_a _ _ (by decide), u2_at]
      · have fJ : ∀ c, ¬ c = 86 → ¬ c = 88 + 3 * cn → (am_u2 (am_u2 (am_u2 J (88 + 3 * cn) 1 ty) (88 + 3 * cn) 2 pm) 86 1 (Int32.ofNat (cn + 1))) c = J c := fun c c1 c2 => by rw [u2_a _ _ c1, u2_a _ _ c2, u2_a _ _ c2]
        have fJ6 : ∀ f, ¬ f = 1 → (am_u2 (am_u2 (am_u2 J (88 + 3 * cn) 1 ty) (88 + 3 * cn) 2 pm) 86 1 (Int32.ofNat (cn + 1))) 86 f = J 86 f := fun f hf => by rw [u2_k _ _ hf, u2_a _ _ (by omega), u2_a _ _ (by omega)]
        have fK : ∀ c, ¬ c = 130 → ¬ (152 ≤ c ∧ c ≤ 155) → (am_u2 (am_u1 (am_u2 (am_u2 (am_u2 (am_u2 K 130 0 (Int32.ofNat 0)) 152 cn ty) 153 cn pm) 154 cn (Int32.ofNat nn)) 155 (ovw (16 * cn) (by8 v nn) (K 155))) 130 31 (Int32.ofNat (cn + 1))) c = K c := fun c c0 c1 => by rw [u2_a _ _ c0, u1_ne _ _ (by omega), u2_a _ _ (by omega), u2_a _ _ (by omega), u2_a _ _ (by omega), u2_a _ _ c0]
        have fK3 : ∀ f, ¬ f = 0 → ¬ f = 31 → (am_u2 (am_u1 (am_u2 (am_u2 (am_u2 (am_u2 K 130 0 (Int32.ofNat 0)) 152 cn ty) 153 cn pm) 154 cn (Int32.ofNat nn)) 155 (ovw (16 * cn) (by8 v nn) (K 155))) 130 31 (Int32.ofNat (cn + 1))) 130 f = K 130 f := fun f f0 f1 => by rw [u2_k _ _ f1, u1_ne _ _ (by decide), u2_a _ _ (by decide), u2_a _ _ (by decide), u2_a _ _ (by decide), u2_k _ _ f0]
        refine rel_core hr (Nat.le_refl _) (core_S hc' (fun c _ c2 => u1_ne _ _ (by omega)) (fun c c1 _ => fJ c (by omega) (by omega)) (kEq_of fun c c1 c2 => fK c (by omega) (by omega)) (fun c c0 _ _ _ c5 => fK c c0 (by omega)) (fun f hf => fK3 f (by omega) (by omega)) ⟨fr, w, ct, rOut_fc o1 (fJ 38 (by decide) (by omega)) (fun i hi => u1_ne _ _ (by omega)) (fun c c1 c2 => fK c (by omega) (by omega))⟩ ⟨cn + 1, pn, sl, u2_at _ _ _ _, u2_at _ _ _ _, by omega, fun j hj => ?_, fun j hj => ?_, fun j hj hjc => ?_, ?_, ?_, s9, fun k hk => ?_, ?_, ?_, s13, s14, ?_, ?_⟩) (fJ 1 (by decide) (by omega)) (fJ 2 (by decide) (by omega)) (fJ 3 (by decide) (by omega)) (fJ 4 (by decide) (by omega)) (by rw [fJ 7 (by decide) (by omega)]) (by rw [fJ 37 (by decide) (by omega)]) (fK 131 (by decide) (by decide)) (fK 135 (by decide) (by decide)) (fun f f1 f2 => fK3 f (by omega) (by omega))
        · by_cases hje : j = cn
          · subst hje
            rw [u2_a _ _ (by omega), u2_k _ _ (by decide), u2_at, u2_at, u2_a _ _ (by decide), u1_ne _ _ (by decide), u2_a _ _ (by decide), u2_a _ _ (by decide), u2_at, u2_a _ _ (by decide), u1_ne _ _ (by decide), u2_a _ _ (by decide), u2_at]
            exact ⟨rfl, rfl⟩
          · rw [fJ _ (by omega) (by omega), u2_a _ _ (by decide), u1_ne _ _ (by decide), u2_a _ _ (by decide), u2_a _ _ (by decide), u2_k _ _ hje, u2_a _ _ (by decide), u2_a _ _ (by decide), u1_ne _ _ (by decide), u2_a _ _ (by decide), u2_k _ _ hje, u2_a _ _ (by decide), u2_a _ _ (by decide)]
            exact s4 j hj
        · unfold rVal
          by_cases hje : j = cn
          · subst hje
            rw [u1_at, u2_a _ _ (by decide), u1_ne _ _ (by decide), u2_at, u2_a _ _ (by decide), u1_at, hl8]
            exact ⟨rfl, by omega, byl_by8 v nn, eqL_ovw _ _ _⟩
          · obtain ⟨g1, g2, g3, g4⟩ := s5 j hj
            rw [u1_ne (b := 89 + 3 * j) _ _ (by omega), u2_a _ _ (by decide), u1_ne (b := 154) _ _ (by decide), u2_k _ _ hje, u2_a _ _ (by decide), u2_a _ _ (by decide), u2_a _ _ (by decide), u2_a _ _ (by decide), u1_at]
            exact ⟨g1, g2, g3, eqL_ou g4 (by rw [hl8]; omega)⟩
        · rw [u1_ne _ _ (by omega)]; exact s6 j hj (by omega)
        · rw [fJ6 3 (by decide)]; exact s7
        · rw [fK3 39 (by decide) (by decide)]; exact s8
        · obtain ⟨g1, g2, g3, g4, g5, g6⟩ := rPrt_fr (W' := am_u1 W (89 + 3 * cn) (by8 v nn)) (s10 k hk) (by omega) (by rw [u1_ne _ _ (by omega)]) (fun c c1 c2 => fK c (by omega) (by omega))
          exact ⟨g1, by omega, g3, g4, g5, g6⟩
        · rw [fJ6 6 (by decide)]; exact s11
        · rw [fK3 37 (by decide) (by decide)]; exact s12
        · rw [fJ6 7 (by decide), fK3 38 (by decide) (by decide)]; exact s15
        · rw [fJ6 7 (by decide)]; exact s16
      · rw [u2_a _ _ (by decide), u2_a _ _ (by omega), u2_a _ _ (by omega)]
  · exact call_x (k := 1) h (Or.inl rfl) (fun d K0 g L hd => la_attribute_x1 hd (fun e he => al_attr0 (by omega) hok)) (fun d W0 J0 g L hd => mo_attr0 (n0 := n0) (W := W0) (J := jn J0 K) (g := g) (L := L) (by omega) hok)
/-- one value is another -/
theorem rel_val {i : Nat} {l : List Int32} {V : Nat → Int32} (h : rel T W J K) (hi : i < 10) (hl : l.length ≤ 16) (hb : byl l) (he : eqL l V (16 * i)) (hV : ∀ q, ¬ (16 * i ≤ q ∧ q < 16 * i + 16) → V q = K 155 q) (hcn : ∃ cn, J 86 1 = Int32.ofNat cn ∧ cn ≤ 10 ∧ i < cn) : rel T (am_u1 W (89 + 3 * i) l) J (am_u2 (am_u1 (am_u2 K 130 0 (Int32.ofNat 0)) 155 V) 154 i (Int32.ofNat l.length)) := by
  have hr := h
  obtain ⟨-, hc, -⟩ := h
  have hc' := hc
  obtain ⟨-, -, -, -, -, ⟨fr, w, ct, o1⟩, -, -, -, -, ⟨cn, pn, sl, s⟩, -⟩ := hc
  obtain ⟨s1, s2, s3, s4, s5, s6, s7, s8, s9, s10, s11, s12, s13, s14, s15, s16⟩ := s
  obtain ⟨cn', q1, q2, q3⟩ := hcn
  have hcc : cn' = cn := by rw [s1, i_eq (by omega) (by omega)] at q1; exact q1.symm
  subst hcc
  have fK : ∀ c, ¬ c = 130 → ¬ c = 154 → ¬ c = 155 → (am_u2 (am_u1 (am_u2 K 130 0 (Int32.ofNat 0)) 155 V) 154 i (Int32.ofNat l.length)) c = K c := fun c c0 c1 c2 => by rw [u2_a _ _ c1, u1_ne _ _ c2, u2_a _ _ c0]
  have fK3 : ∀ f, ¬ f = 0 → (am_u2 (am_u1 (am_u2 K 130 0 (Int32.ofNat 0)) 155 V) 154 i (Int32.ofNat l.length)) 130 f = K 130 f := fun f f0 => by rw [u2_a _ _ (by decide), u1_ne _ _ (by decide), u2_k _ _ f0]
  refine rel_core hr (Nat.le_refl _) (core_S hc' (fun c _ c2 => u1_ne _ _ (by omega)) (fun _ _ _ => rfl) (kEq_of fun c c1 c2 => fK c (by omega) (by omega) (by omega)) (fun c c0 _ _ _ c5 => fK c c0 (by omega) (by omega)) (fun f hf => fK3 f (by omega)) ⟨fr, w, ct, rOut_fc o1 rfl (fun q hq => u1_ne _ _ (by omega)) (fun c c1 c2 => fK c (by omega) (by omega) (by omega))⟩ ⟨cn', pn, sl, s1, ?_, s3, s4, fun j hj => ?_, fun j hj hjc => ?_, s7, ?_, s9, fun k hk => ?_, s11, ?_, s13, s14, ?_, s16⟩) rfl rfl rfl rfl rfl rfl (fK 131 (by decide) (by decide) (by decide)) (fK 135 (by decide) (by decide) (by decide)) (fun f f1 f2 => fK3 f (by omega))
  · rw [fK3 31 (by decide)]; exact s2
  · unfold rVal
    by_cases hje : j = i
    · subst hje
      rw [u1_at, u2_at, u2_a _ _ (by decide), u1_at]
      exact ⟨rfl, hl, hb, he⟩
    · obtain ⟨g1, g2, g3, g4⟩ := s5 j hj
      rw [u1_ne (b := 89 + 3 * j) _ _ (by omega), u2_k _ _ hje, u1_ne (b := 154) _ _ (by decide), u2_a _ _ (by decide), u2_a _ _ (by decide), u1_at]
      exact ⟨g1, g2, g3, eqL_cg g4 fun k hk => hV _ (by omega)⟩
  · rw [u1_ne _ _ (by omega)]; exact s6 j hj hjc
  · rw [fK3 39 (by decide)]; exact s8
  · exact rPrt_fr (s10 k hk) (by omega) (by rw [u1_ne _ _ (by omega)]) (fun c c1 c2 => fK c (by omega) (by omega) (by omega))
  · rw [fK3 37 (by decide)]; exact s12
  · rw [fK3 38 (by decide)]; exact s15
theorem sim_put {hh b n : Int32} {v : Int64} (h : rel T W J K) : callR n0 T T W J K 33 [.ref 1, .int hh, .int b, .long v, .int n] 131 [.int hh, .int b, .long v, .int n] := by
  have hr := h
  obtain ⟨-, hc, -⟩ := h
  obtain ⟨-, -, -, -, -, -, -, -, -, -, ⟨cn, pn, sl, s⟩, -⟩ := hc
  obtain ⟨s1, s2, s3, s4, s5, s6, s7, s8, s9, s10, s11, s12, s13, s14, s15, s16⟩ := s
  by_cases hok : (¬ hh < Int32.ofNat 1 ∧ ¬ Int32.ofNat cn < hh) ∧ (¬ n < 0 ∧ ¬ Int32.ofNat 8 < n)
  · obtain ⟨nn, hn8, rfl⟩ := nat_of (by decide) hok.2
    have h1 := hok.1.1
    obtain ⟨hx, hxl, rfl⟩ := i_of (k := hh) (fun z => h1 (Int32.lt_trans z (by decide)))
    have h2 := hok.1.2
    rw [i_lt hxl (by decide)] at h1
    rw [i_lt (by omega) hxl] at h2
    obtain ⟨i, rfl⟩ : ∃ i, hx = i + 1 := ⟨hx - 1, by omega⟩
    have hi : i < 10 := by omega
    have hic : i < cn := by omega
    obtain ⟨v1, v2, v3, v4⟩ := s5 i hi
    have hl8 : (by8 v nn).length = nn := by8_len v nn
    by_cases hb : b = 0
    · by_cases hf : (W (89 + 3 * i)).length + nn ≤ 16
      · refine ⟨0, 0, Int32.ofNat ((W (89 + 3 * i)).length + nn), Int32.ofNat ((W (89 + 3 * i)).length + nn), am_u1 W (89 + 3 * i) (W (89 + 3 * i) ++ by8 v nn), J, am_u2 (am_u1 (am_u2 K 130 0 (Int32.ofNat 0)) 155 (ovw (16 * i + (W (89 + 3 * i)).length) (by8 v nn) (K 155))) 154 i (Int32.ofNat (W (89 + 3 * i) ++ by8 v nn).length), by decide, fun _ => rfl, fun d K0 g L hd => ?_, fun d W0 J0 g L hd => ?_, ?_, ?_, rfl⟩
        · rw [if_pos rfl]
          exact la_put hd (fun e he => al_put2 (n0 := n0) (W := W) (J := jn J K0) (g := g) (L := L) (by omega) hi s1 s3 hic hn8 hb hf)
        · have := mo_put2 (n0 := n0) (W := W0) (J := jn J0 K) (g := g) (L := L) (v := v) (d := d) (by omega) hi s2 s3 hic hn8 v1 v2 hb hf
          rw [jn_ge (c := 155) (by decide), jn_u2r (by decide), jn_u1r (by decide), jn_u2r (by decide)] at this
          rw [List.length_append, hl8]
          exact this
        · rw [u2_a _ _ (by decide), u1_ne _ _ (by decide), u2_at]
        · exact rel_val hr hi (by rw [List.length_append, hl8]; exact hf) (byl_app v3 (byl_by8 v nn)) (eqL_app v4) (fun q hq => ovw_ou (by rw [hl8]; omega)) ⟨cn, s1, s3, hic⟩
      · exact call_x (k := 2) hr (Or.inr rfl) (fun d K0 g L hd => la_put_x2 hd (fun e he => al_put1 (n0 := n0) (W := W) (J := jn J K0) (g := g) (L := L) (by omega) hi s1 s3 hic hn8 hb (by omega))) (fun d W0 J0 g L hd => mo_put1 (n0 := n0) (W := W0) (J := jn J0 K) (g := g) (L := L) (by omega) hi s2 s3 hic hn8 v1 v2 hb (by omega))
    · refine ⟨0, 0, Int32.ofNat nn, Int32.ofNat nn, am_u1 W (89 + 3 * i) (by8 v nn), J, am_u2 (am_u1 (am_u2 K 130 0 (Int32.ofNat 0)) 155 (ovw (16 * i) (by8 v nn) (K 155))) 154 i (Int32.ofNat (by8 v nn).length), by decide, fun _ => rfl, fun d K0 g L hd => ?_, fun d W0 J0 g L hd => ?_, ?_, ?_, rfl⟩
      · rw [if_pos rfl]
        exact la_put hd (fun e he => al_put3 (n0 := n0) (W := W) (J := jn J K0) (g := g) (L := L) (by omega) hi s1 s3 hic hn8 hb)
      · have := mo_put3 (n0 := n0) (W := W0) (J := jn J0 K) (g := g) (L := L) (v := v) (d := d) (by omega) hi s2 s3 hic hn8 hb
        rw [jn_ge (c := 155) (by decide), jn_u2r (by decide), jn_u1r (by decide), jn_u2r (by decide), Nat.zero_add, Nat.add_zero] at this
        rw [hl8]
        exact this
      · rw [u2_a _ _ (by decide), u1_ne _ _ (by decide), u2_at]
      · exact rel_val hr hi (by omega) (byl_by8 v nn) (eqL_ovw _ _ _) (fun q hq => ovw_ou (by rw [hl8]; omega)) ⟨cn, s1, s3, hic⟩
  · exact call_x (k := 1) hr (Or.inl rfl) (fun d K0 g L hd => la_put_x1 hd (fun e he => al_put0 (n0 := n0) (W := W) (J := jn J K0) (g := g) (L := L) (by omega) (by rw [show (jn J K0) 86 1 = J 86 1 from rfl, s1]; exact hok))) (fun d W0 J0 g L hd => mo_put0 (n0 := n0) (W := W0) (J := jn J0 K) (g := g) (L := L) (by omega) (by rw [show (jn J0 K) 130 31 = K 130 31 from rfl, s2]; exact hok))
theorem sim_tell {hh : Int32} {b : Nat} (hb1 : b ≤ 1) (h : rel T W J K) : callU n0 T T W J K 39 [.ref 1, .int hh, .int (Int32.ofNat b)] 132 [.int hh, .int (Int32.ofNat b)] := by
  have hr := h
  obtain ⟨-, hc, ev, ms, mc, dn, t1, t2, t3, t4, t5, t6, t7, -⟩ := h
  have hc' := hc
  obtain ⟨-, -, -, -, -, ⟨fr, w, ct, o1⟩, -, -, -, -, ⟨cn, pn, sl, s⟩, -⟩ := hc
  have hS0 := s
  obtain ⟨s1, s2, s3, s4, s5, s6, s7, s8, s9, s10, s11, s12, s13, s14, s15, s16⟩ := s
  by_cases hok : ¬ hh < Int32.ofNat 1 ∧ ¬ Int32.ofNat cn < hh
  · have hokc : ∀ K0 : bw_J, ¬ hh < Int32.ofNat 1 ∧ ¬ (jn J K0) 86 1 < hh := fun K0 => by rw [show (jn J K0) 86 1 = J 86 1 from rfl, s1]; exact hok
    have hokm : ∀ J0 : bw_J, ¬ hh < Int32.ofNat 1 ∧ ¬ (jn J0 K) 130 31 < hh := fun J0 => by rw [show (jn J0 K) 130 31 = K 130 31 from rfl, s2]; exact hok
    have hw1 := o1.2.2.2.1
    have hw2 := o1.2.2.2.2.1
    have hw8 := o1.2.2.2.2.2.1
    by_cases hx : dn = 0 ∧ w < 4 ∧ (b = 0 ∨ K 130 38 = 0)
    · obtain ⟨rfl, hw4, hin⟩ := hx
      have h1 := hok.1
      obtain ⟨hx, hxl, rfl⟩ := i_of (k := hh) (fun z => h1 (Int32.lt_trans z (by decide)))
      have h2 := hok.2
      rw [i_lt hxl (by decide)] at h1
      rw [i_lt (by omega) hxl] at h2
      obtain ⟨i, rfl⟩ : ∃ i, hx = i + 1 := ⟨hx - 1, by omega⟩
      have hi : i < 10 := by omega
      have hic : i < cn := by omega
      obtain ⟨v1, v2, v3, v4⟩ := s5 i hi
      have hw4c : ∀ K0 : bw_J, (jn J K0) 38 2 < Int32.ofNat 4 := fun K0 => by rw [show (jn J K0) 38 2 = J 38 2 from rfl, hw1, i_lt (by omega) (by decide)]; exact hw4
      have hls : lst (K 155) (16 * i) (min (W (89 + 3 * i)).length (sl - 2)) = (W (89 + 3 * i)).take (sl - 2) := by
        have := eqL_lst v4 (min (W (89 + 3 * i)).length (sl - 2)) 0 (by omega)
        rw [Nat.add_zero, List.drop_zero] at this
        rw [this]
        by_cases hq : sl - 2 ≤ (W (89 + 3 * i)).length
        · rw [show min (W (89 + 3 * i)).length (sl - 2) = sl - 2 by omega]
        · rw [List.take_of_length_le (by omega), List.take_of_length_le (by omega)]
      have hK0 : rSrv W J (am_u2 K 130 0 (Int32.ofNat 0)) cn pn sl := rSrv_fr hS0 (fun _ _ _ => rfl) (fun _ _ _ => rfl) (fun c c1 _ _ => u2_a _ _ (by omega)) (fun f hf => u2_k _ _ (by omega))
      have hO0 : rOut 38 40 1 W J (am_u2 K 130 0 (Int32.ofNat 0)) fr w ct := rOut_fc o1 rfl (fun _ _ => rfl) (fun c c1 c2 => u2_a _ _ (by omega))
      obtain ⟨W', J', K', p1, p2, p3, p4, f1, f2, f3, f4, f5⟩ := ans_ex (n0 := n0) (l := Int32.ofNat (27 + 2 * b) :: Int32.ofNat (i + 1) :: (W (89 + 3 * i)).take (sl - 2)) hK0 hO0 (by rw [List.length_cons, List.length_cons, List.length_take]; omega) (byl_cons (b255 (by omega)) (byl_cons (b255 (by omega)) (byl_take _ v3)))
      have k38 : K' 130 38 = K 130 38 := by rw [f5 38 (by decide), u2_k _ _ (by decide)]
      have hbv : ∀ J0 : bw_J, ∀ k, k < (W (89 + 3 * i)).length → (jn J0 K) 155 (16 * i + k) &&& 255 = (jn J0 K) 155 (16 * i + k) := fun J0 k hk => by
        rw [jn_ge (c := 155) (by decide), v4 k hk]; exact v3 k
      have hG : ∀ (W0 : bw_W) (J0 : bw_J) (g : Nat) (L : bw_L) (e : Nat), 1 ≤ e → bm e (S0 n0) R0 135 [.ref 130, .int (Int32.ofNat 1)] W0 (mkJ (am_u2 (jn J0 K) 130 0 (Int32.ofNat 0)) (Int32.ofNat (27 + 2 * b) :: Int32.ofNat (i + 1) :: lst ((jn J0 K) 155) (16 * i) (min (W (89 + 3 * i)).length (sl - 2)))) g L (bR none W0 (jn J0 K') g L) := fun W0 J0 g L e he => by
        rw [jn_ge (c := 155) (by decide), hls, jn_u2r (by decide), jn_mk]
        exact p2 e W0 J0 g L he
      have hrel : ∀ (J2 K2 : bw_J), (∀ c, ¬ c = 38 → ¬ c = 86 → J2 c = J c) → J2 38 = J' 38 → (∀ c, ¬ c = 130 → K2 c = K' c) → (∀ f, ¬ f = 0 → ¬ f = 29 → ¬ f = 38 → K2 130 f = K 130 f) → rSrv W' J2 K2 cn pn sl → rel T W' J2 K2 := fun J2 K2 e1 e2 e3 e4 e5 => by
        have fk : ∀ c, ¬ c = 130 → ¬ c = 140 → ¬ c = 141 → ¬ c = 143 → ¬ c = 151 → K2 c = K c := fun c c0 c1 c2 c3 c4 => by rw [e3 c c0, f4 c c0 c1 c2 c3 c4, u2_a _ _ c0]
        refine rel_core hr (Nat.le_refl _) (core_S hc' (fun c c1 c2 => f1 c (by omega) c1) (fun c c1 c2 => e1 c c2 (by omega)) (kEq_tr (kEq_of fun c c1 c2 => e3 c (by omega)) (kEq_tr f3 (kEq_of fun c c1 c2 => u2_a _ _ (by omega)))) (fun c c0 c1 c2 c3 c4 => fk c c0 c1 c2 c3 (by omega)) (fun f hf => e4 f (by omega) (by omega) (by omega)) ⟨fr, _, ct, rOut_fc p4 e2 (fun _ _ => rfl) (fun c c1 c2 => e3 c (by omega))⟩ ⟨cn, pn, sl, e5⟩) (e1 1 (by decide) (by decide)) (e1 2 (by decide) (by decide)) (e1 3 (by decide) (by decide)) (e1 4 (by decide) (by decide)) (by rw [e1 7 (by decide) (by decide)]) (by rw [e1 37 (by decide) (by decide)]) (fk 131 (by decide) (by decide) (by decide) (by decide) (by decide)) (fk 135 (by decide) (by decide) (by decide) (by decide) (by decide)) (fun f q1 q2 => e4 f (by omega) (by omega) (by omega))
      rcases (show b = 0 ∨ b = 1 by omega) with rfl | rfl
      · obtain ⟨ind, hind, hind1⟩ : ∃ ind, K 130 38 = Int32.ofNat ind ∧ ind ≤ 1 := by
          rcases s16 with z | z
          · exact ⟨0, by rw [← s15, z]; rfl, by decide⟩
          · exact ⟨1, by rw [← s15, z]; rfl, by decide⟩
        refine ⟨0, 0, W', J', am_u2 K' 130 38 (Int32.ofNat ind), by decide, fun d K0 g L hd => la_tell hd (fun e he => al_tell2_0 (n0 := n0) (W := W) (J := jn J K0) (g := g) (L := L) (by omega) hi s1 s3 hic t5 (hw4c K0) (fun e2 he2 => se_say0 he2 hi s11 s13 s14 (fun e3 he3 => p1 e3 K0 g L he3))), fun d W0 J0 g L hd => ?_, ?_, ?_, f2 0 (by decide)⟩
        · have := mo_tell2_0 (n0 := n0) (W := W0) (J := jn J0 K) (g := g) (L := L) (J1 := jn J0 K') (i := i) (vs := (W (89 + 3 * i)).length) (lm := sl) (ct := cn) (w := w) (d := d) (by omega) s2 s3 hic t6 hw2 hw4 hi v1 v2 s12 s13 s14 (hbv J0) (ind := ind) (by rw [jn_ge (by decide), k38]; exact hind) hind1 (fun e he => hG W0 J0 g L e he)
          rw [jn_u2r (by decide)] at this
          exact this
        · rw [u2_k _ _ (by decide), f5 0 (by decide), u2_at]
        · rw [u2_idq (by rw [k38]; exact hind)]
          exact hrel J' K' (fun c c1 c2 => f2 c c1) rfl (fun _ _ => rfl) (fun f q0 q1 _ => by rw [f5 f q1, u2_k _ _ q0]) p3
      · have hin0 : K 130 38 = 0 := hin.resolve_left (by decide)
        refine ⟨0, 0, W', am_u2 J' 86 7 1, am_u2 K' 130 38 (Int32.ofNat 1), by decide, fun d K0 g L hd => la_tell hd (fun e he => al_tell2_1 (n0 := n0) (W := W) (J := jn J K0) (g := g) (L := L) (by omega) hi s1 s3 hic t5 (hw4c K0) (by rw [show (jn J K0) 86 7 = J 86 7 from rfl, s15]; exact hin0) (fun e2 he2 => ?_)), fun d W0 J0 g L hd => ?_, ?_, ?_, ?_⟩
        · have := se_say1 (n0 := n0) (W := W) (J := jn J K0) (g := g) (L := L) he2 hi s11 s13 s14 (fun e3 he3 => p1 e3 K0 g L he3)
          rw [jn_u2l (by decide)] at this
          exact this
        · have := mo_tell2_1 (n0 := n0) (W := W0) (J := jn J0 K) (g := g) (L := L) (J1 := jn J0 K') (i := i) (vs := (W (89 + 3 * i)).length) (lm := sl) (ct := cn) (w := w) (d := d) (by omega) s2 s3 hic t6 hw2 hw4 hin0 hi v1 v2 s12 s13 s14 (hbv J0) (by rw [jn_ge (by decide), k38]; exact hin0) (fun e he => hG W0 J0 g L e he)
          rw [jn_u2r (by decide)] at this
          exact this
        · rw [u2_k _ _ (by decide), f5 0 (by decide), u2_at]
        · refine hrel (am_u2 J' 86 7 1) (am_u2 K' 130 38 (Int32.ofNat 1)) (fun c c1 c2 => by rw [u2_a _ _ c2]; exact f2 c c1) (u2_a _ _ (by decide)) (fun c c0 => u2_a _ _ c0) (fun f q0 q1 q2 => by rw [u2_k _ _ q2, f5 f q1, u2_k _ _ q0]) ?_
          obtain ⟨y1, y2, y3, y4, y5, y6, y7, y8, y9, y10, y11, y12, y13, y14, y15, y16⟩ := p3
          refine ⟨?_, ?_, y3, fun j hj => ?_, y5, y6, ?_, ?_, y9, y10, ?_, ?_, y13, y14, ?_, ?_⟩
          · rw [u2_k _ _ (by decide)]; exact y1
          · rw [u2_k _ _ (by decide)]; exact y2
          · rw [u2_a _ _ (by omega)]; exact y4 j hj
          · rw [u2_k _ _ (by decide)]; exact y7
          · rw [u2_k _ _ (by decide)]; exact y8
          · rw [u2_k _ _ (by decide)]; exact y11
          · rw [u2_k _ _ (by decide)]; exact y12
          · rw [u2_at, u2_at]; rfl
          · rw [u2_at]; exact Or.inr rfl
        · rw [u2_a _ _ (by decide)]; exact f2 0 (by decide)
    · have hxc : ∀ K0 : bw_J, ¬ ((jn J K0) 1 8 = 0 ∧ (jn J K0) 38 2 < Int32.ofNat 4 ∧ (Int32.ofNat b = 0 ∨ (jn J K0) 86 7 = 0)) := fun K0 z => hx ⟨by
          have z1 : J 1 8 = 0 := z.1
          rw [t5, z_eq (by omega)] at z1; exact z1, by
          have z2 : J 38 2 < Int32.ofNat 4 := z.2.1
          rw [hw1, i_lt (by omega) (by decide)] at z2; exact z2, z.2.2.elim (fun q => Or.inl (by rw [z_eq (by omega)] at q; exact q)) (fun q => Or.inr (by rw [← s15]; exact q))⟩
      have hxm : ∀ J0 : bw_J, ¬ ((jn J0 K) 130 7 = 0 ∧ (jn J0 K) 143 1 < Int32.ofNat 4 ∧ (Int32.ofNat b = 0 ∨ (jn J0 K) 130 38 = 0)) := fun J0 z => hx ⟨by
          have z1 : K 130 7 = 0 := z.1
          rw [t6, z_eq (by omega)] at z1; exact z1, by
          have z2 : K 143 1 < Int32.ofNat 4 := z.2.1
          rw [hw2, i_lt (by omega) (by decide)] at z2; exact z2, z.2.2.elim (fun q => Or.inl (by rw [z_eq (by omega)] at q; exact q)) (fun q => Or.inr q)⟩
      exact callU_x (k := 2) hr (Or.inr rfl) (fun d K0 g L hd => la_tell_x2 hd (fun e he => al_tell1 (n0 := n0) (W := W) (J := jn J K0) (g := g) (L := L) (by omega) (hokc K0) s16 (hxc K0))) (fun d W0 J0 g L hd => mo_tell1 (n0 := n0) (W := W0) (J := jn J0 K) (g := g) (L := L) (by omega) (hokm J0) (hxm J0))
  · exact callU_x (k := 1) hr (Or.inl rfl) (fun d K0 g L hd => la_tell_x1 hd (fun e he => al_tell0 (n0 := n0) (W := W) (J := jn J K0) (g := g) (L := L) (by omega) (by rw [show (jn J K0) 86 1 = J 86 1 from rfl, s1]; exact hok))) (fun d W0 J0 g L hd => mo_tell0 (n0 := n0) (W := W0) (J := jn J0 K) (g := g) (L := L) (by omega) (by rw [show (jn J0 K) 130 31 = K 130 31 from rfl, s2]; exact hok))
end R2
