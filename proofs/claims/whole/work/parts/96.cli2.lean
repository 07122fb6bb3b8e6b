/-! Part 96: what the client hears, class and reference side by side -/
def cliIn (W : bw_W) (J K : bw_J) (fr w ct nt cl : Nat) : Prop := rCli W J K nt cl ∧ rOut 8 10 0 W J K fr w ct ∧ (W 27).length ≤ 20 ∧ byl (W 27) ∧ K 130 27 = Int32.ofNat (W 27).length ∧ eqL (W 27) (K 150) 0 ∧ nt < 90000000
def cliEnd (n0 : Nat) (W : bw_W) (J K : bw_J) (nt : Nat) : Prop := ∃ (W' : bw_W) (J' K' : bw_J) (fr' w' ct' nt' cl' : Nat), (∀ (d : Nat) (K0 : bw_J) (g : Nat) (L : bw_L), 5 ≤ d → bm d (S0 n0) R0 93 [.ref 67, .ref 27, .ref 8] W (jn J K0) g L (bR none W' (jn J' K0) g L)) ∧ (∀ (d : Nat) (W0 : bw_W) (J0 : bw_J) (g : Nat) (L : bw_L), 6 ≤ d → bm d (S0 n0) R0 153 [.ref 130] W0 (jn J0 K) g L (bR none W0 (jn J0 K') g L)) ∧ rCli W' J' K' nt' cl' ∧ nt' ≤ nt + 1 ∧ rOut 8 10 0 W' J' K' fr' w' ct' ∧ fC W' J' K' W J K
theorem cin150 {W : bw_W} {J K : bw_J} {fr w ct nt cl k : Nat} (h : cliIn W J K fr w ct nt cl) (hk : k < (W 27).length) : K 150 k = (W 27).getD k 0 := by
  have := h.2.2.2.2.2.1 k hk
  rwa [Nat.zero_add] at this
theorem rNote_fr {W W' : bw_W} {J J' K K' : bw_J} {nt : Nat} (h : rNote W J K nt) (a : J' 68 = J 68) (b : ∀ c, 70 ≤ c → c < 78 → W' c = W c) (c : K' 164 = K 164) (d : K' 165 = K 165) (e : K' 130 59 = K 130 59) : rNote W' J' K' nt := by
  unfold rNote at h ⊢
  rw [a, c, d, e]
  refine ⟨h.1, h.2.1, h.2.2.1, fun q hq => ?_⟩
  rw [b _ (by omega) (by omega)]
  exact h.2.2.2 q hq
section CM
variable {n0 : Nat} {W W1 : bw_W} {J J1 K K1 : bw_J} {fr w ct nt cl op ab m0 : Nat}
/-- nothing is given -/
theorem fin_cli {W' : bw_W} {J' K' : bw_J} {cl' : Nat} (hO : rOut 8 10 0 W J K fr w ct) (hc : ∀ (d : Nat) (K0 : bw_J) (g : Nat) (L : bw_L), 5 ≤ d → bm d (S0 n0) R0 93 [.ref 67, .ref 27, .ref 8] W (jn J K0) g L (bR none W' (jn J' K0) g L)) (hm : ∀ (d : Nat) (W0 : bw_W) (J0 : bw_J) (g : Nat) (L : bw_L), 6 ≤ d → bm d (S0 n0) R0 153 [.ref 130] W0 (jn J0 K) g L (bR none W0 (jn J0 K') g L)) (hr : rCli W' J' K' nt cl') (a : ∀ c, ¬ (70 ≤ c ∧ c < 86) → W' c = W c) (b : ∀ c, ¬ c = 67 → J' c = J c) (c : ∀ c, ¬ c = 130 → ¬ (161 ≤ c ∧ c ≤ 165) → K' c = K c) (d : ∀ f, f < 44 → K' 130 f = K 130 f) : cliEnd n0 W J K nt :=
  ⟨W', J', K', fr, w, ct, nt, cl', hc, hm, hr, by omega, rOut_fc hO (b 8 (by decide)) (fun i hi => a _ (by omega)) (fun q q1 q2 => c q (by omega) (by omega)), fun q _ q2 => a q q2, fun q _ q2 _ => b q q2, kEq_of fun q q1 q2 => c q (by omega) (by omega), fun q q0 _ _ _ _ q5 => c q q0 q5, fun f _ f2 => d f f2⟩
/-- the next request goes out -/
theorem ask_cli (hO : rOut 8 10 0 W J K fr w ct) (hB : rCliB W1 J1 K1 nt cl) (hp : rOp W1 J1 K1 op 0) (hg : gopP W1 J1 K1 op ab) (hc : ∀ (W2 : bw_W) (J2 K0 : bw_J) (g : Nat) (L : bw_L), (∀ e, 3 ≤ e → bm e (S0 n0) R0 54 [.ref 67, .ref 8] W1 (jn J1 K0) g L (bR none W2 (jn J2 K0) g L)) → ∀ d, 5 ≤ d → bm d (S0 n0) R0 93 [.ref 67, .ref 27, .ref 8] W (jn J K0) g L (bR none W2 (jn J2 K0) g L)) (hm : ∀ (K2 : bw_J) (W0 : bw_W) (J0 : bw_J) (g : Nat) (L : bw_L), (∀ e, 2 ≤ e → bm e (S0 n0) R0 139 [.ref 130] W0 (jn J0 (mkJ K1 (W1 80))) g L (bR none W0 (jn J0 K2) g L)) → ∀ d, 6 ≤ d → bm d (S0 n0) R0 153 [.ref 130] W0 (jn J0 K) g L (bR none W0 (jn J0 K2) g L)) (a : ∀ c, ¬ (70 ≤ c ∧ c < 86) → W1 c = W c) (b : ∀ c, ¬ c = 67 → J1 c = J c) (c : ∀ c, ¬ c = 130 → ¬ (161 ≤ c ∧ c ≤ 165) → K1 c = K c) (d : ∀ f, f < 44 → K1 130 f = K 130 f) : cliEnd n0 W J K nt := by
  have hO1 : rOut 8 10 0 W1 J1 K1 fr w ct := rOut_fc hO (b 8 (by decide)) (fun i hi => a _ (by omega)) (fun q q1 q2 => c q (by omega) (by omega))
  obtain ⟨W', J', K', h1, h2, h3, h4, h5⟩ := ask_sim (n0 := n0) hO1 hB hp hg
  refine ⟨W', J', K', fr, _, ct, nt, cl, fun d K0 g L hd => hc W' J' K0 g L (fun e he => h1 e K0 g L he) d hd, fun d W0 J0 g L hd => hm K' W0 J0 g L (fun e he => h2 e W0 J0 g L he) d hd, h3, by omega, h4, fC_tr h5 ⟨fun q _ q2 => a q q2, fun q _ q2 _ => b q q2, kEq_of fun q q1 q2 => c q (by omega) (by omega), fun q q0 _ _ _ _ q5 => c q q0 q5, fun f _ f2 => d f f2⟩⟩
/-- nothing happens -/
theorem cli_skip (h : cliIn W J K fr w ct nt cl) (hm0 : (W 27).getD 0 0 = Int32.ofNat m0) (hm2 : m0 < 256) (hn : ¬ (m0 = 27 ∨ m0 = 29)) (hsk : ¬ m0 % 2 = 1 ∨ ¬ J 67 8 = 0) (hm : ∀ (d : Nat) (W0 : bw_W) (J0 : bw_J) (g : Nat) (L : bw_L), 6 ≤ d → bm d (S0 n0) R0 153 [.ref 130] W0 (jn J0 K) g L (bR none W0 (jn J0 K) g L)) : cliEnd n0 W J K nt :=
  fin_cli h.2.1 (fun d K0 g L hd => cl_lis_skip hd hm0 hm2 hn hsk) hm h.1 (fun _ _ => rfl) (fun _ _ => rfl) (fun _ _ _ => rfl) (fun _ _ => rfl)
theorem cli_n (h : cliIn W J K fr w ct nt cl) (hl : 2 ≤ (W 27).length) (hm0 : (W 27).getD 0 0 = Int32.ofNat m0) (hn : m0 = 27 ∨ m0 = 29) : cliEnd n0 W J K nt := by
  have h150 := cin150 h (show 0 < (W 27).length by omega)
  rw [hm0] at h150
  obtain ⟨h1, h2, h3, h4, h5, h6, h7⟩ := h
  obtain ⟨⟨hN, hB⟩, hS⟩ := h1
  obtain ⟨b1, b2, b3, b4, b5, b6, b7, b8, b9, b10⟩ := hB
  obtain ⟨n1, n2, n3, n4⟩ := hN
  have hml : ((W 27).drop 1).length = (W 27).length - 1 := List.length_drop
  have hls : lst (K 150) 1 ((W 27).length - 1) = (W 27).drop 1 := by
    have := eqL_lst h6 ((W 27).length - 1) 1 (by omega)
    rw [Nat.zero_add, List.take_of_length_le (by omega)] at this
    exact this
  have hkc : ∀ (e : Nat) (K0 : bw_J) (g : Nat) (L : bw_L), 2 ≤ e → bm e (S0 n0) R0 95 [.ref 68, .ref 27] W (jn J K0) g L (bR none (am_u1 W (70 + 2 * ((nt + 1) % 4)) ((W 27).drop 1)) (jn (am_u2 (am_u2 J 68 2 (Int32.ofNat ((nt + 1) % 4))) 68 1 (Int32.ofNat (min 4 (nt + 1)))) K0) g L) := fun e K0 g L he => by
    have := no_keep (n0 := n0) (W := W) (J := jn J K0) (g := g) (L := L) he (a := nt % 4) (c := min 4 nt) n3 (by omega) n2 (by omega) h3 (by omega)
    rw [show (nt % 4 + 1) % 4 = (nt + 1) % 4 by omega, show min 4 (min 4 nt + 1) = min 4 (nt + 1) by omega, jn_u2l (by decide), jn_u2l (by decide)] at this
    exact this
  generalize hW1 : am_u1 W (70 + 2 * ((nt + 1) % 4)) ((W 27).drop 1) = W1 at hkc
  generalize hJ1 : am_u2 (am_u2 J 68 2 (Int32.ofNat ((nt + 1) % 4))) 68 1 (Int32.ofNat (min 4 (nt + 1))) = J1 at hkc
  have hK1 : ∃ K1, K1 = am_u2 (am_u1 (am_u2 K 164 (nt % 4) (Int32.ofNat ((W 27).length - 1))) 165 (ovw (24 * (nt % 4)) ((W 27).drop 1) (K 165))) 130 59 (Int32.ofNat (nt + 1)) := ⟨_, rfl⟩
  obtain ⟨K1, hK1⟩ := hK1
  have fW : ∀ c, ¬ (70 ≤ c ∧ c < 78) → W1 c = W c := fun c hc => by rw [← hW1, u1_ne _ _ (by omega)]
  have fJ : ∀ c, ¬ c = 68 → J1 c = J c := fun c hc => by rw [← hJ1, u2_a _ _ hc, u2_a _ _ hc]
  have fK : ∀ c, ¬ c = 130 → ¬ c = 164 → ¬ c = 165 → K1 c = K c := fun c c0 c1 c2 => by rw [hK1, u2_a _ _ c0, u1_ne _ _ c2, u2_a _ _ c1]
  have fK3 : ∀ f, ¬ f = 59 → K1 130 f = K 130 f := fun f hf => by rw [hK1, u2_k _ _ hf, u1_ne _ _ (by decide), u2_a _ _ (by decide)]
  have hN1 : rNote W1 J1 K1 (nt + 1) := by
    refine ⟨by rw [hK1, u2_at], by rw [← hJ1, u2_at], by rw [← hJ1, u2_k _ _ (by decide), u2_at], fun q hq => ?_⟩
    obtain ⟨g1, g2, g3⟩ := n4 q hq
    rw [hK1, u2_a _ _ (by decide), u2_a _ _ (by decide), u1_ne (b := 164) _ _ (by decide), u1_at, ← hW1]
    by_cases hqe : q = nt % 4
    · subst hqe
      rw [show (nt % 4 + 1) % 4 = (nt + 1) % 4 by omega, u1_at, u2_at, hml]
      exact ⟨rfl, by omega, eqL_ovw _ _ _⟩
    · rw [u1_ne _ _ (by omega), u2_k _ _ hqe]
      exact ⟨g1, g2, eqL_ou g3 (by rw [hml]; omega)⟩
  have hR1 : rCli W1 J1 K1 (nt + 1) cl := by
    refine ⟨⟨hN1, ?_⟩, ?_⟩
    · rw [fJ 67 (by decide), fW 82 (by decide), fW 78 (by decide), fK 162 (by decide) (by decide) (by decide), fK3 44 (by decide), fK3 52 (by decide), fK3 48 (by decide), fK3 57 (by decide)]
      exact ⟨b1, b2, b3, b4, b5, b6, b7, b8, b9, b10⟩
    · unfold rSt rOp gopP gopQ at hS ⊢
      rw [fJ 67 (by decide), fW 80 (by decide), fW 78 (by decide), fW 84 (by decide), fK 161 (by decide) (by decide) (by decide), fK 163 (by decide) (by decide) (by decide), fK3 45 (by decide), fK3 46 (by decide), fK3 47 (by decide), fK3 49 (by decide), fK3 50 (by decide), fK3 54 (by decide), fK3 55 (by decide), fK3 57 (by decide), fK3 58 (by decide)]
      exact hS
  have hO1 : rOut 8 10 0 W1 J1 K1 fr w ct := rOut_fc h2 (fJ 8 (by decide)) (fun i hi => fW _ (by omega)) (fun c c1 c2 => fK c (by omega) (by omega) (by omega))
  have hF1 : fC W1 J1 K1 W J K := ⟨fun c _ c2 => fW c (by omega), fun c _ _ c3 => fJ c c3, kEq_of fun c c1 c2 => fK c (by omega) (by omega) (by omega), fun c c0 _ _ _ _ c5 => fK c c0 (by omega) (by omega), fun f _ f2 => fK3 f (by omega)⟩
  have hm27 : (W1 27).getD 0 0 = Int32.ofNat m0 := by rw [fW 27 (by decide)]; exact hm0
  rcases hn with rfl | rfl
  · refine ⟨W1, J1, K1, fr, w, ct, nt + 1, cl, fun d K0 g L hd => cl_lis_note hd hm0 (by decide) (Or.inl rfl) (fun e he => cl_note1 he hl hm27 (by decide) (fun e2 he2 => hkc e2 K0 g L he2) (by decide)), fun d W0 J0 g L hd => ?_, hR1, by omega, hO1, hF1⟩
    have := mo_ch_n27 (n0 := n0) (W := W0) (J := jn J0 K) (g := g) (L := L) hd h5 h3 hl h150 n1 (by omega)
    rw [jn_ge (c := 165) (by decide), jn_ge (c := 150) (by decide), hls, jn_u2r (by decide), jn_u1r (by decide), jn_u2r (by decide), ← hK1] at this
    exact this
  · have h82 : W1 82 = [Int32.ofNat 30] := by rw [fW 82 (by decide)]; exact b5
    have hO2 : rOut 8 10 0 W1 J1 (mkJ K1 [Int32.ofNat 30]) fr w ct := rOut_fc hO1 rfl (fun _ _ => rfl) (fun c c1 c2 => mkJ_c _ _ (by omega) (by omega))
    have hb30 : byl [Int32.ofNat 30] := byl_cons rfl byl_nil
    have gW : ∀ c, ¬ (10 ≤ c ∧ c < 26) → gvW 10 fr w [Int32.ofNat 30] W1 c = W1 c := fun c hc => gvW_fr (fun i hi => by omega)
    have gK : ∀ c, ¬ c = 130 → ¬ c = 140 → ¬ c = 141 → ¬ c = 143 → ¬ c = 151 → gvM 0 fr w [Int32.ofNat 30] (mkJ K1 [Int32.ofNat 30]) c = K1 c := fun c c0 c1 c2 c3 c4 => by rw [gvM_fr c1 c2 c3, mkJ_c _ _ c4 c0]
    have gK3 : ∀ f, ¬ f = 29 → gvM 0 fr w [Int32.ofNat 30] (mkJ K1 [Int32.ofNat 30]) 130 f = K1 130 f := fun f hf => by rw [gvM_fr (by decide) (by decide) (by decide), mkJ_f _ _ hf]
    refine ⟨gvW 10 fr w [Int32.ofNat 30] W1, gvC 8 w J1, gvM 0 fr w [Int32.ofNat 30] (mkJ K1 [Int32.ofNat 30]), fr, _, ct, nt + 1, cl, fun d K0 g L hd => cl_lis_note hd hm0 (by decide) (Or.inr rfl) (fun e he => cl_note2 he hl hm27 (by decide) (fun e2 he2 => hkc e2 K0 g L he2) rfl (fun e2 he2 => ?_)), fun d W0 J0 g L hd => mo_ch_n29 (n0 := n0) (W := W0) (J := jn J0 K) (g := g) (L := L) hd h5 h3 hl h150 n1 (by omega) (fun e he => ?_), ?_, by omega, rOut_give hO2 hb30 (by decide), fC_tr ⟨fun c c1 _ => gW c c1, fun c c1 _ _ => gvC_fr c1, kEq_tr (gvM_kEq (by decide) (by decide) (by decide) (by decide)) (kEq_of fun c c1 c2 => mkJ_c _ _ (by omega) (by omega)), fun c c0 c1 c2 c3 c4 _ => gK c c0 c1 c2 c3 c4, fun f f1 _ => gK3 f f1⟩ hF1⟩
    · have := gv_c (n0 := n0) (K0 := K0) (g := g) (L := L) (mr := 82) he2 hO1 R_82 (by rw [h82]; decide) (fun i hi => by omega)
      rw [h82] at this
      exact this
    · rw [jn_ge (c := 165) (by decide), jn_ge (c := 150) (by decide), hls, jn_u2r (by decide), jn_u1r (by decide), jn_u2r (by decide), ← hK1, jn_mk]
      exact gv_m he (by decide) hO2 (by decide) (by unfold mkJ; rw [u2_at]) (fun k hk => by unfold mkJ; rw [u2_a _ _ (by decide), u1_at, ovw_0 hk])
    · exact rCli_fr hR1 (gvC_fr (by decide)) (gvC_fr (by decide)) (fun c c1 c2 => gW c (by omega)) (fun c c1 c2 => gK c (by omega) (by omega) (by omega) (by omega) (by omega)) (fun f hf => gK3 f (by omega))
theorem cli_s (h : cliIn W J K fr w ct nt cl) (hl : (W 27).length < 2) (hne : 0 < (W 27).length) (hm0 : (W 27).getD 0 0 = Int32.ofNat m0) (hn : m0 = 27 ∨ m0 = 29) : cliEnd n0 W J K nt := by
  have h150 := cin150 h hne
  rw [hm0] at h150
  refine fin_cli h.2.1 (fun d K0 g L hd => cl_lis_note hd hm0 (by omega) hn (fun e he => cl_note0 he hl)) (fun d W0 J0 g L hd => ?_) h.1 (fun _ _ => rfl) (fun _ _ => rfl) (fun _ _ _ => rfl) (fun _ _ => rfl)
  rcases hn with rfl | rfl
  · exact mo_ch_s27 hd h.2.2.2.2.1 h.2.2.1 hne hl h150
  · exact mo_ch_s29 hd h.2.2.2.2.1 h.2.2.1 hne hl h150
end CM
