/-! Part 95: the server, class and reference side by side -/
def rVal (W : bw_W) (K : bw_J) (i : Nat) : Prop := K 154 i = Int32.ofNat (W (89 + 3 * i)).length ∧ (W (89 + 3 * i)).length ≤ 16 ∧ byl (W (89 + 3 * i)) ∧ eqL (W (89 + 3 * i)) (K 155) (16 * i)
def rPrt (W : bw_W) (K : bw_J) (ct k : Nat) : Prop := p_ok W k ∧ ps W k < ct ∧ byl (W (119 + 2 * k)) ∧ (W (119 + 2 * k)).length ≤ 19 ∧ mp_ok K (ps W) (pp W) (fun k => (W (119 + 2 * k)).length - 2) k ∧ eqL ((W (119 + 2 * k)).drop 2) (K 160) (20 * k)
def rSrv (W : bw_W) (J K : bw_J) (ct pn sl : Nat) : Prop := J 86 1 = Int32.ofNat ct ∧ K 130 31 = Int32.ofNat ct ∧ ct ≤ 10 ∧ (∀ i, i < 10 → J (88 + 3 * i) 1 = K 152 i ∧ J (88 + 3 * i) 2 = K 153 i) ∧ (∀ i, i < 10 → rVal W K i) ∧ (∀ i, i < 10 → ct ≤ i → W (89 + 3 * i) = []) ∧ J 86 3 = Int32.ofNat pn ∧ K 130 39 = Int32.ofNat pn ∧ pn ≤ 4 ∧ (∀ k, k < pn → rPrt W K ct k) ∧ J 86 6 = Int32.ofNat sl ∧ K 130 37 = Int32.ofNat sl ∧ 8 ≤ sl ∧ sl ≤ 20 ∧ J 86 7 = K 130 38 ∧ (J 86 7 = 0 ∨ J 86 7 = 1)
theorem ps_cg {W W' : bw_W} {k : Nat} (h : W' (119 + 2 * k) = W (119 + 2 * k)) : ps W' k = ps W k ∧ pp W' k = pp W k := by
  unfold ps pp; rw [h]; exact ⟨rfl, rfl⟩
theorem rPrt_fr {W W' : bw_W} {K K' : bw_J} {ct k : Nat} (h : rPrt W K ct k) (hk : k < 4) (b : W' (119 + 2 * k) = W (119 + 2 * k)) (c : ∀ c, 157 ≤ c → c ≤ 160 → K' c = K c) : rPrt W' K' ct k := by
  obtain ⟨h1, h2, h3, h4, h5, h6⟩ := h
  obtain ⟨e1, e2⟩ := ps_cg b
  unfold rPrt p_ok mp_ok
  unfold p_ok at h1
  unfold mp_ok at h5
  dsimp only at h5 ⊢
  rw [e1, e2, b, c 157 (by decide) (by decide), c 158 (by decide) (by decide), c 159 (by decide) (by decide), c 160 (by decide) (by decide)]
  exact ⟨h1, h2, h3, h4, h5, h6⟩
theorem rVal_fr {W W' : bw_W} {K K' : bw_J} {i : Nat} (h : rVal W K i) (b : W' (89 + 3 * i) = W (89 + 3 * i)) (c : K' 154 = K 154) (d : K' 155 = K 155) : rVal W' K' i := by
  unfold rVal at h ⊢
  rw [b, c, d]; exact h
theorem rSrv_fr {W W' : bw_W} {J J' K K' : bw_J} {ct pn sl : Nat} (h : rSrv W J K ct pn sl) (a : ∀ c, 86 ≤ c → c < 118 → J' c = J c) (b : ∀ c, 88 ≤ c → c < 127 → W' c = W c) (c : ∀ c, 152 ≤ c → c ≤ 160 → ¬ c = 156 → K' c = K c) (d : ∀ f, f = 31 ∨ f = 37 ∨ f = 38 ∨ f = 39 → K' 130 f = K 130 f) : rSrv W' J' K' ct pn sl := by
  obtain ⟨h1, h2, h3, h4, h5, h6, h7, h8, h9, h10, h11, h12, h13, h14, h15, h16⟩ := h
  unfold rSrv
  rw [a 86 (by decide) (by decide), d 31 (by decide), d 37 (by decide), d 38 (by decide), d 39 (by decide)]
  refine ⟨h1, h2, h3, fun i hi => ?_, fun i hi => ?_, fun i hi hc => ?_, h7, h8, h9, fun k hk => ?_, h11, h12, h13, h14, h15, h16⟩
  · rw [a _ (by omega) (by omega), c 152 (by decide) (by decide) (by decide), c 153 (by decide) (by decide) (by decide)]; exact h4 i hi
  · exact rVal_fr (h5 i hi) (b _ (by omega) (by omega)) (c 154 (by decide) (by decide) (by decide)) (c 155 (by decide) (by decide) (by decide))
  · rw [b _ (by omega) (by omega)]; exact h6 i hi hc
  · exact rPrt_fr (h10 k hk) (by omega) (b _ (by omega) (by omega)) (fun q c1 c2 => c q (by omega) (by omega) (by omega))
/-- what the server's handling changes, at most -/
def fS (W' : bw_W) (J' K' : bw_J) (W : bw_W) (J K : bw_J) : Prop := (∀ c, ¬ c = 128 → ¬ (40 ≤ c ∧ c < 56) → ¬ (88 ≤ c ∧ c < 128) → W' c = W c) ∧ (∀ c, ¬ c = 38 → ¬ c = 86 → ¬ c = 127 → J' c = J c) ∧ kEq 0 K' K ∧ (∀ c, ¬ c = 130 → ¬ c = 140 → ¬ c = 141 → ¬ c = 143 → ¬ c = 151 → ¬ (154 ≤ c ∧ c ≤ 160) → K' c = K c) ∧ (∀ f, ¬ f = 29 → ¬ f = 37 → ¬ f = 38 → ¬ f = 39 → K' 130 f = K 130 f)
theorem fS_rf (W : bw_W) (J K : bw_J) : fS W J K W J K := ⟨fun _ _ _ _ => rfl, fun _ _ _ _ => rfl, kEq_rf _ _, fun _ _ _ _ _ _ _ => rfl, fun _ _ _ _ _ => rfl⟩
theorem fS_tr {W1 W2 W3 : bw_W} {J1 J2 J3 K1 K2 K3 : bw_J} (h : fS W1 J1 K1 W2 J2 K2) (h' : fS W2 J2 K2 W3 J3 K3) : fS W1 J1 K1 W3 J3 K3 := ⟨fun c a1 a2 a3 => (h.1 c a1 a2 a3).trans (h'.1 c a1 a2 a3), fun c a1 a2 a3 => (h.2.1 c a1 a2 a3).trans (h'.2.1 c a1 a2 a3), kEq_tr h.2.2.1 h'.2.2.1, fun c a1 a2 a3 a4 a5 a6 => (h.2.2.2.1 c a1 a2 a3 a4 a5 a6).trans (h'.2.2.2.1 c a1 a2 a3 a4 a5 a6), fun f a1 a2 a3 a4 => (h.2.2.2.2 f a1 a2 a3 a4).trans (h'.2.2.2.2 f a1 a2 a3 a4)⟩
/-- the server has handled W 57 -/
def srvEnd (n0 : Nat) (W : bw_W) (J K : bw_J) : Prop := ∃ (W' : bw_W) (J' K' : bw_J) (fr' w' ct' cn pn sl : Nat), (∀ (d : Nat) (K0 : bw_J) (g : Nat) (L : bw_L), 5 ≤ d → bm d (S0 n0) R0 77 [.ref 86, .ref 57, .ref 38] W (jn J K0) g L (bR none W' (jn J' K0) g L)) ∧ (∀ (d : Nat) (W0 : bw_W) (J0 : bw_J) (g : Nat) (L : bw_L), 5 ≤ d → bm d (S0 n0) R0 160 [.ref 130] W0 (jn J0 K) g L (bR none W0 (jn J0 K') g L)) ∧ rSrv W' J' K' cn pn sl ∧ rOut 38 40 1 W' J' K' fr' w' ct' ∧ fS W' J' K' W J K
section SV
variable {n0 : Nat} {W W1 : bw_W} {J J1 K K1 : bw_J} {fr w ct cn pn sl : Nat}
/-- an answer goes out -/
theorem ans_sim {l : List Int32} (hS : rSrv W1 J1 K1 cn pn sl) (hO : rOut 38 40 1 W1 J1 K1 fr w ct) (hl : l.length ≤ 20) (hb : byl l) : ∃ (W' : bw_W) (J' K' : bw_J), (∀ (d : Nat) (K0 : bw_J) (g : Nat) (L : bw_L), 2 ≤ d → bm d (S0 n0) R0 44 [.ref 38, .ref 128] (am_u1 W1 128 l) (jn J1 K0) g L (bR none W' (jn J' K0) g L)) ∧ (∀ (d : Nat) (W0 : bw_W) (J0 : bw_J) (g : Nat) (L : bw_L), 1 ≤ d → bm d (S0 n0) R0 135 [.ref 130, .int (Int32.ofNat 1)] W0 (jn J0 (mkJ K1 l)) g L (bR none W0 (jn J0 K') g L)) ∧ rSrv W' J' K' cn pn sl ∧ rOut 38 40 1 W' J' K' fr (min 8 (w + 1)) ct ∧ fS W' J' K' W1 J1 K1 ∧ K' 150 = K1 150 := by
  have hO1 : rOut 38 40 1 (am_u1 W1 128 l) J1 (mkJ K1 l) fr w ct := rOut_fc hO rfl (fun i hi => by rw [u1_ne _ _ (by omega)]) (fun c c1 c2 => mkJ_c _ _ (by omega) (by omega))
  have h128 : (am_u1 W1 128 l) 128 = l := u1_at _ _ _
  have hW : ∀ c, ¬ c = 128 → ¬ (40 ≤ c ∧ c < 56) → gvW 40 fr w l (am_u1 W1 128 l) c = W1 c := fun c c1 c2 => by rw [gvW_fr (fun i hi => by omega), u1_ne _ _ c1]
  have hK : ∀ c, ¬ c = 130 → ¬ c = 140 → ¬ c = 141 → ¬ c = 143 → ¬ c = 151 → gvM 1 fr w l (mkJ K1 l) c = K1 c := fun c c0 c1 c2 c3 c4 => by rw [gvM_fr c1 c2 c3, mkJ_c _ _ c4 c0]
  have hK3 : ∀ f, ¬ f = 29 → gvM 1 fr w l (mkJ K1 l) 130 f = K1 130 f := fun f hf => by rw [gvM_fr (by decide) (by decide) (by decide), mkJ_f _ _ hf]
  refine ⟨gvW 40 fr w l (am_u1 W1 128 l), gvC 38 w J1, gvM 1 fr w l (mkJ K1 l), fun d K0 g L hd => ?_, fun d W0 J0 g L hd => ?_, ?_, rOut_give hO1 hb hl, ⟨?_, ?_, ?_, ?_, ?_⟩, ?_⟩
  · have := gv_s (n0 := n0) (K0 := K0) (g := g) (L := L) (mr := 128) hd hO1 R_128 (by rw [h128]; exact hl) (fun i hi => by omega)
    rw [h128] at this
    exact this
  · exact gv_m hd (by decide) hO1 hl (by unfold mkJ; rw [u2_at]) (fun k hk => by unfold mkJ; rw [u2_a _ _ (by decide), u1_at, ovw_0 hk])
  · exact rSrv_fr hS (fun c c1 c2 => gvC_fr (by omega)) (fun c c1 c2 => hW c (by omega) (by omega)) (fun c c1 c2 _ => hK c (by omega) (by omega) (by omega) (by omega) (by omega)) (fun f hf => hK3 f (by omega))
  · exact fun c c1 c2 _ => hW c c1 c2
  · exact fun c c1 _ _ => gvC_fr c1
  · exact kEq_tr (gvM_kEq hl (by decide) (by decide) (by decide)) (kEq_of fun c c1 c2 => mkJ_c _ _ (by omega) (by omega))
  · exact fun c c0 c1 c2 c3 c4 _ => hK c c0 c1 c2 c3 c4
  · exact fun f f1 _ _ _ => hK3 f f1
  · exact hK 150 (by decide) (by decide) (by decide) (by decide) (by decide)
/-- an error's answer -/
theorem ref_sim {op h c : Nat} (hop : op < 256) (hh : h < 256) (hc : c < 256) (h150 : K1 150 0 = Int32.ofNat op) (hS : rSrv W1 J1 K1 cn pn sl) (hO : rOut 38 40 1 W1 J1 K1 fr w ct) : ∃ (W' : bw_W) (J' K' : bw_J), (∀ (d : Nat) (K0 : bw_J) (g : Nat) (L : bw_L), 2 ≤ d → bm d (S0 n0) R0 44 [.ref 38, .ref 128] (am_u1 W1 128 [Int32.ofNat 1, Int32.ofNat op, Int32.ofNat h, Int32.ofNat c]) (jn J1 K0) g L (bR none W' (jn J' K0) g L)) ∧ (∀ (d : Nat) (W0 : bw_W) (J0 : bw_J) (g : Nat) (L : bw_L), 2 ≤ d → bm d (S0 n0) R0 161 [.ref 130, .int (Int32.ofNat h), .int (Int32.ofNat c)] W0 (jn J0 K1) g L (bR none W0 (jn J0 K') g L)) ∧ rSrv W' J' K' cn pn sl ∧ rOut 38 40 1 W' J' K' fr (min 8 (w + 1)) ct ∧ fS W' J' K' W1 J1 K1 := by
  obtain ⟨W', J', K', a1, a2, a3, a4, a5, -⟩ := ans_sim (n0 := n0) (l := [Int32.ofNat 1, Int32.ofNat op, Int32.ofNat h, Int32.ofNat c]) hS hO (by show 4 ≤ 20; decide) (byl_cons rfl (byl_cons (b255 hop) (byl_cons (b255 hh) (byl_cons (b255 hc) byl_nil))))
  refine ⟨W', J', K', a1, fun d W0 J0 g L hd => ?_, a3, a4, a5⟩
  refine mo_refuse (n0 := n0) (W := W0) (J := jn J0 K1) (J1 := jn J0 K') hd (fun e he => ?_)
  rw [jn_ge (c := 150) (by decide), h150, b255 hop, b255 hh, b255 hc, jn_mk]
  exact a2 e W0 J0 g L he
/-- what stands in front of the handling -/
def srvIn (W : bw_W) (J K : bw_J) (fr w ct cn pn sl : Nat) : Prop := rSrv W J K cn pn sl ∧ rOut 38 40 1 W J K fr w ct ∧ (W 57).length ≤ 20 ∧ byl (W 57) ∧ K 130 27 = Int32.ofNat (W 57).length ∧ eqL (W 57) (K 150) 0
theorem in150 {W : bw_W} {J K : bw_J} {fr w ct cn pn sl k : Nat} (h : srvIn W J K fr w ct cn pn sl) (hk : k < (W 57).length) : K 150 k = (W 57).getD k 0 := by
  have := h.2.2.2.2.2 k hk
  rwa [Nat.zero_add] at this
theorem rSrv_128 {l : List Int32} (h : rSrv W J K cn pn sl) : rSrv (am_u1 W 128 l) J K cn pn sl := rSrv_fr h (fun _ _ _ => rfl) (fun c _ c2 => u1_ne _ _ (by omega)) (fun _ _ _ _ => rfl) (fun _ _ => rfl)
/-- no handling: an empty message -/
theorem srv_e (h : srvIn W J K fr w ct cn pn sl) (he : W 57 = []) : srvEnd n0 W J K := by
  obtain ⟨h1, h2, h3, h4, h5, h6⟩ := h
  rw [he] at h5
  exact ⟨W, J, K, fr, w, ct, cn, pn, sl, fun d K0 g L hd => se_serve_e hd he, fun d W0 J0 g L hd => mo_sh_e hd h5, h1, h2, fS_rf _ _ _⟩
theorem srv_30 (h : srvIn W J K fr w ct cn pn sl) (hne : 0 < (W 57).length) (hop : (W 57).getD 0 0 = Int32.ofNat 30) : srvEnd n0 W J K := by
  have h150 := in150 h hne
  rw [hop] at h150
  obtain ⟨h1, h2, h3, h4, h5, h6⟩ := h
  obtain ⟨s1, s2, s3, s4, s5, s6, s7, s8, s9, s10, s11, s12, s13, s14, s15, s16⟩ := h1
  refine ⟨W, am_u2 J 86 7 (if ¬ J 86 7 = 0 ∧ 1 < (W 57).length then 1 else 0), am_u2 K 130 38 (if ¬ K 130 38 = 0 ∧ 1 < (W 57).length then 1 else 0), fr, w, ct, cn, pn, sl, fun d K0 g L hd => ?_, fun d W0 J0 g L hd => ?_, ?_, ?_, ⟨fun _ _ _ _ => rfl, fun c _ c2 _ => u2_a _ _ c2, kEq_of fun c c1 c2 => u2_a _ _ (by omega), fun c c1 _ _ _ _ _ => u2_a _ _ c1, fun f _ _ f3 _ => u2_k _ _ f3⟩⟩
  · have := se_serve_c (n0 := n0) (W := W) (J := jn J K0) (g := g) (L := L) hd hne hop
    rw [jn_u2l (by decide)] at this
    exact this
  · have := mo_sh_30 (n0 := n0) (W := W0) (J := jn J0 K) (g := g) (L := L) hd (n := (W 57).length) h5 h3 hne h150
    rw [jn_u2r (by decide)] at this
    exact this
  · have hif : (if ¬ J 86 7 = 0 ∧ 1 < (W 57).length then (1 : Int32) else 0) = 0 ∨ (if ¬ J 86 7 = 0 ∧ 1 < (W 57).length then (1 : Int32) else 0) = 1 := by
      split
      · exact Or.inr rfl
      · exact Or.inl rfl
    refine ⟨?_, ?_, s3, fun i hi => ?_, s5, s6, ?_, ?_, s9, s10, ?_, ?_, s13, s14, ?_, ?_⟩
    · rw [u2_k _ _ (by decide)]; exact s1
    · rw [u2_k _ _ (by decide)]; exact s2
    · rw [u2_a _ _ (by omega)]; exact s4 i hi
    · rw [u2_k _ _ (by decide)]; exact s7
    · rw [u2_k _ _ (by decide)]; exact s8
    · rw [u2_k _ _ (by decide)]; exact s11
    · rw [u2_k _ _ (by decide)]; exact s12
    · rw [u2_at, u2_at, s15]
    · rw [u2_at]; exact hif
  · exact rOut_fc h2 rfl (fun _ _ => rfl) (fun c c1 c2 => u2_a _ _ (by omega))
/-- an error of the shape -/
theorem srv_x {op c : Nat} (h : srvIn W J K fr w ct cn pn sl) (hne : 0 < (W 57).length) (hop : (W 57).getD 0 0 = Int32.ofNat op) (ho2 : op < 256) (ho30 : ¬ op = 30) (hc : 0 < c) (hc2 : c < 256) (hS : ∀ (e : Nat) (K0 : bw_J) (g : Nat) (L : bw_L), 2 ≤ e → bm e (S0 n0) R0 78 [.ref 57] (am_u1 W 128 []) (jn J K0) g L (bR (some (.int (Int32.ofNat c))) (am_u1 W 128 []) (jn J K0) g L)) (hM : ∀ (K1 : bw_J) (W0 : bw_W) (J0 : bw_J) (g : Nat) (L : bw_L), (∀ e, 2 ≤ e → bm e (S0 n0) R0 161 [.ref 130, .int (Int32.ofNat 0), .int (Int32.ofNat c)] W0 (jn J0 K) g L (bR none W0 (jn J0 K1) g L)) → ∀ d, 5 ≤ d → bm d (S0 n0) R0 160 [.ref 130] W0 (jn J0 K) g L (bR none W0 (jn J0 K1) g L)) : srvEnd n0 W J K := by
  have h150 := in150 h hne
  rw [hop] at h150
  obtain ⟨h1, h2, h3, h4, h5, h6⟩ := h
  obtain ⟨W', J', K', a1, a2, a3, a4, a5⟩ := ref_sim (n0 := n0) (h := 0) ho2 (by decide) hc2 h150 h1 h2
  exact ⟨W', J', K', fr, _, ct, cn, pn, sl, fun d K0 g L hd => se_serve_x (n0 := n0) (W := W) (J := jn J K0) hd hne hop ho2 ho30 hc hc2 (fun e he => hS e K0 g L he) (fun e he => a1 e K0 g L he), fun d W0 J0 g L hd => hM K' W0 J0 g L (fun e he => a2 e W0 J0 g L he) d hd, a3, a4, a5⟩
/-- a good answer -/
theorem srv_a {op : Nat} {l : List Int32} {cn1 pn1 sl1 : Nat} (h : srvIn W J K fr w ct cn pn sl) (hne : 0 < (W 57).length) (hop : (W 57).getD 0 0 = Int32.ofNat op) (ho2 : op < 256) (ho30 : ¬ op = 30) (hS : ∀ (e : Nat) (K0 : bw_J) (g : Nat) (L : bw_L), 2 ≤ e → bm e (S0 n0) R0 78 [.ref 57] (am_u1 W 128 []) (jn J K0) g L (bR (some (.int (Int32.ofNat 0))) (am_u1 W 128 []) (jn J K0) g L)) (hT : ∀ (e : Nat) (K0 : bw_J) (g : Nat) (L : bw_L), 4 ≤ e → bm e (S0 n0) R0 79 [.ref 86, .ref 57] (am_u1 W 128 []) (jn J K0) g L (bR (some (.int (Int32.ofNat 0))) (am_u1 W1 128 l) (jn J1 K0) g L)) (hM : ∀ (K2 : bw_J) (W0 : bw_W) (J0 : bw_J) (g : Nat) (L : bw_L), (∀ e, 1 ≤ e → bm e (S0 n0) R0 135 [.ref 130, .int (Int32.ofNat 1)] W0 (jn J0 (mkJ K1 l)) g L (bR none W0 (jn J0 K2) g L)) → ∀ d, 5 ≤ d → bm d (S0 n0) R0 160 [.ref 130] W0 (jn J0 K) g L (bR none W0 (jn J0 K2) g L)) (hl : l.length ≤ 20) (hb : byl l) (hS1 : rSrv W1 J1 K1 cn1 pn1 sl1) (hO1 : rOut 38 40 1 W1 J1 K1 fr w ct) (hf : fS W1 J1 K1 W J K) : srvEnd n0 W J K := by
  obtain ⟨W', J', K', a1, a2, a3, a4, a5, -⟩ := ans_sim (n0 := n0) (l := l) hS1 hO1 hl hb
  exact ⟨W', J', K', fr, _, ct, cn1, pn1, sl1, fun d K0 g L hd => se_serve_a (n0 := n0) (W := W) (J := jn J K0) hd hne hop ho2 ho30 (fun e he => hS e K0 g L he) (fun e he => hT e K0 g L he) (fun e he => a1 e K0 g L he), fun d W0 J0 g L hd => hM K' W0 J0 g L (fun e he => a2 e W0 J0 g L he) d hd, a3, a4, fS_tr a5 hf⟩
/-- a refused request -/
theorem srv_r {op c hn : Nat} {cn1 pn1 sl1 : Nat} (h : srvIn W J K fr w ct cn pn sl) (hne : 0 < (W 57).length) (hop : (W 57).getD 0 0 = Int32.ofNat op) (ho2 : op < 256) (ho30 : ¬ op = 30) (hS : ∀ (e : Nat) (K0 : bw_J) (g : Nat) (L : bw_L), 2 ≤ e → bm e (S0 n0) R0 78 [.ref 57] (am_u1 W 128 []) (jn J K0) g L (bR (some (.int (Int32.ofNat 0))) (am_u1 W 128 []) (jn J K0) g L)) (hc : 0 < c) (hc2 : c < 256) (hh : (W 57).getD 1 0 = Int32.ofNat hn) (hh2 : hn < 256) (l0 : List Int32) (hT : ∀ (e : Nat) (K0 : bw_J) (g : Nat) (L : bw_L), 4 ≤ e → bm e (S0 n0) R0 79 [.ref 86, .ref 57] (am_u1 W 128 []) (jn J K0) g L (bR (some (.int (Int32.ofNat c))) (am_u1 W1 128 l0) (jn J1 K0) g L)) (hM : ∀ (K2 : bw_J) (W0 : bw_W) (J0 : bw_J) (g : Nat) (L : bw_L), (∀ e, 2 ≤ e → bm e (S0 n0) R0 161 [.ref 130, .int (Int32.ofNat (if op = 2 ∨ op = 24 then 0 else hn)), .int (Int32.ofNat c)] W0 (jn J0 K1) g L (bR none W0 (jn J0 K2) g L)) → ∀ d, 5 ≤ d → bm d (S0 n0) R0 160 [.ref 130] W0 (jn J0 K) g L (bR none W0 (jn J0 K2) g L)) (hS1 : rSrv W1 J1 K1 cn1 pn1 sl1) (hO1 : rOut 38 40 1 W1 J1 K1 fr w ct) (hf : fS W1 J1 K1 W J K) (h57 : W1 57 = W 57) (h150' : K1 150 0 = K 150 0) : srvEnd n0 W J K := by
  have h150 := in150 h hne
  rw [hop] at h150
  obtain ⟨W', J', K', a1, a2, a3, a4, a5⟩ := ref_sim (n0 := n0) (h := if op = 2 ∨ op = 24 then 0 else hn) ho2 (by split <;> omega) hc2 (h150'.trans h150) hS1 hO1
  refine ⟨W', J', K', fr, _, ct, cn1, pn1, sl1, fun d K0 g L hd => se_serve_r (n0 := n0) (W := W) (J := jn J K0) (W1 := am_u1 W1 128 l0) (J1 := jn J1 K0) (hn := hn) hd hne hop ho2 ho30 (fun e he => hS e K0 g L he) hc hc2 (by rw [u1_ne _ _ (by decide), h57]; exact hh) hh2 (fun e he => hT e K0 g L he) (fun e he => ?_), fun d W0 J0 g L hd => hM K' W0 J0 g L (fun e he => a2 e W0 J0 g L he) d hd, a3, a4, fS_tr a5 hf⟩
  rw [u1_u1]
  exact a1 e K0 g L he
end SV
