/-! Part 96: the client, class and reference side by side -/
def rNote (W : bw_W) (J K : bw_J) (nt : Nat) : Prop := K 130 59 = Int32.ofNat nt ∧ J 68 1 = Int32.ofNat (min 4 nt) ∧ J 68 2 = Int32.ofNat (nt % 4) ∧ ∀ q, q < 4 → K 164 q = Int32.ofNat (W (70 + 2 * ((q + 1) % 4))).length ∧ (W (70 + 2 * ((q + 1) % 4))).length ≤ 20 ∧ eqL (W (70 + 2 * ((q + 1) % 4))) (K 165) (24 * q)
def rCliB (W : bw_W) (J K : bw_J) (nt cl : Nat) : Prop := rNote W J K nt ∧ J 67 5 = Int32.ofNat cl ∧ K 130 44 = Int32.ofNat cl ∧ 8 ≤ cl ∧ cl ≤ 20 ∧ W 82 = [Int32.ofNat 30] ∧ K 130 52 = Int32.ofNat (W 78).length ∧ (W 78).length ≤ 20 ∧ eqL (W 78) (K 162) 0 ∧ J 67 9 = K 130 48 ∧ ∃ sp, K 130 57 = Int32.ofNat sp ∧ sp ≤ 1
/-- what an operation keeps besides its latest request -/
def gopP (W : bw_W) (J K : bw_J) (op ab : Nat) : Prop := J 67 9 = 0 ∧ ab < 256 ∧ J 67 7 = Int32.ofNat ab ∧ K 130 46 = Int32.ofNat ab ∧ 1 ≤ (W 80).length ∧ (W 80).length ≤ 20 ∧ byl (W 80) ∧ J 67 12 = (if op = 6 then K 130 57 else 0) ∧ (op = 2 ∨ op = 7 → W 78 = []) ∧ (op = 3 → (W 78).length < 16) ∧ (op = 4 → (W 78).length < 10) ∧ (op = 6 → K 130 54 = Int32.ofNat (W 84).length ∧ (W 84).length ≤ 8 ∧ byl (W 84) ∧ eqL (W 84) (K 163) 0 ∧ ∃ wp, wp ≤ 60 ∧ J 67 11 = Int32.ofNat wp ∧ K 130 55 = Int32.ofNat wp ∧ (¬ (W 80).getD 0 0 = Int32.ofNat 24 → wp ≤ 8) ∧ (K 130 57 = Int32.ofNat 0 → K 130 58 = if (W 80).getD 0 0 = Int32.ofNat 24 then Int32.ofNat 1 else Int32.ofNat 0))
def gopQ (W : bw_W) (J K : bw_J) (wt : Nat) : Prop := wt < 30 ∧ J 67 10 = Int32.ofNat wt ∧ K 130 49 = Int32.ofNat wt ∧ K 130 50 = Int32.ofNat (W 80).length ∧ eqL (W 80) (K 161) 0
/-- an operation op that goes on, or has ended as oc says -/
def rOp (W : bw_W) (J K : bw_J) (op oc : Nat) : Prop := 1 ≤ op ∧ op ≤ 7 ∧ oc ≤ 4 ∧ K 130 45 = Int32.ofNat op ∧ J 67 6 = Int32.ofNat (op - 1) ∧ J 67 8 = Int32.ofNat oc ∧ K 130 47 = Int32.ofNat oc
def rSt (W : bw_W) (J K : bw_J) : Prop := (J 67 8 = -1 ∧ K 130 45 = Int32.ofNat 0 ∧ K 130 47 = Int32.ofNat 1) ∨ ∃ op oc, rOp W J K op oc ∧ (oc = 0 → (∃ ab, gopP W J K op ab) ∧ ∃ wt, gopQ W J K wt)
def rCli (W : bw_W) (J K : bw_J) (nt cl : Nat) : Prop := rCliB W J K nt cl ∧ rSt W J K
theorem rCli_fr {W W' : bw_W} {J J' K K' : bw_J} {nt cl : Nat} (h : rCli W J K nt cl) (a1 : J' 67 = J 67) (a2 : J' 68 = J 68) (b : ∀ c, 70 ≤ c → c < 86 → W' c = W c) (c : ∀ c, 161 ≤ c → c ≤ 165 → K' c = K c) (d : ∀ f, 44 ≤ f → K' 130 f = K 130 f) : rCli W' J' K' nt cl := by
  have b78 := b 78 (by decide) (by decide)
  have b80 := b 80 (by decide) (by decide)
  have b82 := b 82 (by decide) (by decide)
  have b84 := b 84 (by decide) (by decide)
  have c1 := c 161 (by decide) (by decide)
  have c2 := c 162 (by decide) (by decide)
  have c3 := c 163 (by decide) (by decide)
  have c4 := c 164 (by decide) (by decide)
  have c5 := c 165 (by decide) (by decide)
  unfold rCli rCliB rNote rSt rOp gopP gopQ at h ⊢
  simp only [a1, a2, b78, b80, b82, b84, c1, c2, c3, c4, c5, d 44 (by decide), d 45 (by decide), d 46 (by decide), d 47 (by decide), d 48 (by decide), d 49 (by decide), d 50 (by decide), d 52 (by decide), d 54 (by decide), d 55 (by decide), d 57 (by decide), d 58 (by decide), d 59 (by decide)]
  refine ⟨⟨⟨h.1.1.1, h.1.1.2.1, h.1.1.2.2.1, fun q hq => ?_⟩, h.1.2⟩, h.2⟩
  rw [b _ (by omega) (by omega)]
  exact h.1.1.2.2.2 q hq
/-- what the client's handling changes, at most -/
def fC (W' : bw_W) (J' K' : bw_J) (W : bw_W) (J K : bw_J) : Prop := (∀ c, ¬ (10 ≤ c ∧ c < 26) → ¬ (70 ≤ c ∧ c < 86) → W' c = W c) ∧ (∀ c, ¬ c = 8 → ¬ c = 67 → ¬ c = 68 → J' c = J c) ∧ kEq 1 K' K ∧ (∀ c, ¬ c = 130 → ¬ c = 140 → ¬ c = 141 → ¬ c = 143 → ¬ c = 151 → ¬ (161 ≤ c ∧ c ≤ 165) → K' c = K c) ∧ (∀ f, ¬ f = 29 → f < 44 → K' 130 f = K 130 f)
theorem fC_rf (W : bw_W) (J K : bw_J) : fC W J K W J K := ⟨fun _ _ _ => rfl, fun _ _ _ _ => rfl, kEq_rf _ _, fun _ _ _ _ _ _ _ => rfl, fun _ _ _ => rfl⟩
theorem fC_tr {W1 W2 W3 : bw_W} {J1 J2 J3 K1 K2 K3 : bw_J} (h : fC W1 J1 K1 W2 J2 K2) (h' : fC W2 J2 K2 W3 J3 K3) : fC W1 J1 K1 W3 J3 K3 := ⟨fun c a1 a2 => (h.1 c a1 a2).trans (h'.1 c a1 a2), fun c a1 a2 a3 => (h.2.1 c a1 a2 a3).trans (h'.2.1 c a1 a2 a3), kEq_tr h.2.2.1 h'.2.2.1, fun c a1 a2 a3 a4 a5 a6 => (h.2.2.2.1 c a1 a2 a3 a4 a5 a6).trans (h'.2.2.2.1 c a1 a2 a3 a4 a5 a6), fun f a1 a2 => (h.2.2.2.2 f a1 a2).trans (h'.2.2.2.2 f a1 a2)⟩
section CL
variable {n0 : Nat} {W W1 : bw_W} {J J1 K K1 : bw_J} {fr w ct nt cl op ab : Nat}
/-- a request goes out: W1 80 -/
theorem ask_sim (hO : rOut 8 10 0 W1 J1 K1 fr w ct) (hB : rCliB W1 J1 K1 nt cl) (hp : rOp W1 J1 K1 op 0) (hg : gopP W1 J1 K1 op ab) : ∃ (W' : bw_W) (J' K' : bw_J), (∀ (d : Nat) (K0 : bw_J) (g : Nat) (L : bw_L), 3 ≤ d → bm d (S0 n0) R0 54 [.ref 67, .ref 8] W1 (jn J1 K0) g L (bR none W' (jn J' K0) g L)) ∧ (∀ (d : Nat) (W0 : bw_W) (J0 : bw_J) (g : Nat) (L : bw_L), 2 ≤ d → bm d (S0 n0) R0 139 [.ref 130] W0 (jn J0 (mkJ K1 (W1 80))) g L (bR none W0 (jn J0 K') g L)) ∧ rCli W' J' K' nt cl ∧ rOut 8 10 0 W' J' K' fr (min 8 (w + 1)) ct ∧ fC W' J' K' W1 J1 K1 := by
  obtain ⟨g1, g2, g3, g4, g5, g6, g7, g8, g9, g10, g11, g12⟩ := hg
  have hA : ∀ c, ¬ c = 130 → ¬ c = 151 → ¬ c = 161 → akJ (mkJ K1 (W1 80)) (W1 80) c = K1 c := fun c c0 c1 c2 => by
    unfold akJ
    rw [u1_ne _ _ c2, u2_a _ _ c0, u2_a _ _ c0, mkJ_c _ _ c1 c0]
  have hA3 : ∀ f, ¬ f = 29 → ¬ f = 49 → ¬ f = 50 → akJ (mkJ K1 (W1 80)) (W1 80) 130 f = K1 130 f := fun f f1 f2 f3 => by
    unfold akJ
    rw [u1_ne _ _ (by decide), u2_k _ _ f3, u2_k _ _ f2, mkJ_f _ _ f1]
  have hO1 : rOut 8 10 0 W1 J1 (akJ (mkJ K1 (W1 80)) (W1 80)) fr w ct := rOut_fc hO rfl (fun _ _ => rfl) (fun c c1 c2 => hA c (by omega) (by omega) (by omega))
  have hW : ∀ c, ¬ (10 ≤ c ∧ c < 26) → gvW 10 fr w (W1 80) W1 c = W1 c := fun c c1 => gvW_fr (fun i hi => by omega)
  have hK : ∀ c, ¬ c = 130 → ¬ c = 140 → ¬ c = 141 → ¬ c = 143 → ¬ c = 151 → ¬ c = 161 → gvM 0 fr w (W1 80) (akJ (mkJ K1 (W1 80)) (W1 80)) c = K1 c := fun c c0 c1 c2 c3 c4 c5 => by rw [gvM_fr c1 c2 c3]; exact hA c c0 c4 c5
  have hKa : ∀ c, ¬ c = 140 → ¬ c = 141 → ¬ c = 143 → gvM 0 fr w (W1 80) (akJ (mkJ K1 (W1 80)) (W1 80)) c = akJ (mkJ K1 (W1 80)) (W1 80) c := fun c c1 c2 c3 => gvM_fr c1 c2 c3
  have hK3 : ∀ f, ¬ f = 29 → ¬ f = 49 → ¬ f = 50 → gvM 0 fr w (W1 80) (akJ (mkJ K1 (W1 80)) (W1 80)) 130 f = K1 130 f := fun f f1 f2 f3 => by rw [hKa 130 (by decide) (by decide) (by decide)]; exact hA3 f f1 f2 f3
  have hJ : ∀ c, ¬ c = 8 → ¬ c = 67 → (am_u2 (gvC 8 w J1) 67 10 0) c = J1 c := fun c c1 c2 => by rw [u2_a _ _ c2, gvC_fr c1]
  have hJ7 : ∀ f, ¬ f = 10 → (am_u2 (gvC 8 w J1) 67 10 0) 67 f = J1 67 f := fun f hf => by rw [u2_k _ _ hf, gvC_fr (by decide)]
  refine ⟨gvW 10 fr w (W1 80) W1, am_u2 (gvC 8 w J1) 67 10 0, gvM 0 fr w (W1 80) (akJ (mkJ K1 (W1 80)) (W1 80)), fun d K0 g L hd => ?_, fun d W0 J0 g L hd => ?_, ⟨?_, ?_⟩, ?_, ⟨fun c c1 _ => hW c c1, fun c c1 c2 _ => hJ c c1 c2, ?_, fun c c0 c1 c2 c3 c4 c5 => hK c c0 c1 c2 c3 c4 (by omega), fun f f1 f2 => hK3 f f1 (by omega) (by omega)⟩⟩
  · have := cl_ask (n0 := n0) (W := W1) (J := jn J1 K0) (g := g) (L := L) hd (fun e he => gv_c (n0 := n0) (K0 := K0) (g := g) (L := L) (mr := 80) he hO R_80 g6 (fun i hi => by omega))
    rw [jn_u2l (by decide)] at this
    exact this
  · refine mo_ask (n0 := n0) (W := W0) (J := jn J0 (mkJ K1 (W1 80))) (l := W1 80) hd (by rw [jn_ge (by decide)]; unfold mkJ; rw [u2_at]) (fun k hk => by rw [jn_ge (by decide)]; unfold mkJ; rw [u2_a _ _ (by decide), u1_at, ovw_0 hk]) g6 (fun e he => ?_)
    rw [jn_ak]
    exact gv_m he (by decide) hO1 g6 (by unfold akJ mkJ; rw [u1_ne _ _ (by decide), u2_k _ _ (by decide), u2_k _ _ (by decide), u2_at]) (fun k hk => by unfold akJ mkJ; rw [u1_ne _ _ (by decide), u2_a _ _ (by decide), u2_a _ _ (by decide), u2_a _ _ (by decide), u1_at, ovw_0 hk])
  · unfold rCliB rNote at hB ⊢
    rw [hJ7 5 (by decide), hJ7 9 (by decide), hJ 68 (by decide) (by decide), hW 78 (by decide), hW 82 (by decide), hK 162 (by decide) (by decide) (by decide) (by decide) (by decide) (by decide), hK 164 (by decide) (by decide) (by decide) (by decide) (by decide) (by decide), hK 165 (by decide) (by decide) (by decide) (by decide) (by decide) (by decide), hK3 44 (by decide) (by decide) (by decide), hK3 52 (by decide) (by decide) (by decide), hK3 48 (by decide) (by decide) (by decide), hK3 57 (by decide) (by decide) (by decide), hK3 59 (by decide) (by decide) (by decide)]
    refine ⟨⟨hB.1.1, hB.1.2.1, hB.1.2.2.1, fun q hq => ?_⟩, hB.2⟩
    rw [hW _ (by omega)]
    exact hB.1.2.2.2 q hq
  · refine Or.inr ⟨op, 0, ?_, fun _ => ⟨⟨ab, ?_⟩, ⟨0, by decide, u2_at _ _ _ _, ?_, ?_, ?_⟩⟩⟩
    · unfold rOp at hp ⊢
      rw [hJ7 6 (by decide), hJ7 8 (by decide), hK3 45 (by decide) (by decide) (by decide), hK3 47 (by decide) (by decide) (by decide)]
      exact hp
    · unfold gopP
      rw [hJ7 9 (by decide), hJ7 7 (by decide), hJ7 12 (by decide), hJ7 11 (by decide), hW 80 (by decide), hW 78 (by decide), hW 84 (by decide), hK3 46 (by decide) (by decide) (by decide), hK3 57 (by decide) (by decide) (by decide), hK3 54 (by decide) (by decide) (by decide), hK3 55 (by decide) (by decide) (by decide), hK3 58 (by decide) (by decide) (by decide), hK 163 (by decide) (by decide) (by decide) (by decide) (by decide) (by decide)]
      exact ⟨g1, g2, g3, g4, g5, g6, g7, g8, g9, g10, g11, g12⟩
    · rw [hKa 130 (by decide) (by decide) (by decide)]
      unfold akJ
      rw [u1_ne _ _ (by decide), u2_k _ _ (by decide), u2_at]; rfl
    · rw [hKa 130 (by decide) (by decide) (by decide), hW 80 (by decide)]
      unfold akJ
      rw [u1_ne _ _ (by decide), u2_at]
    · rw [hKa 161 (by decide) (by decide) (by decide), hW 80 (by decide)]
      unfold akJ
      rw [u1_at]
      exact eqL_ovw _ _ _
  · refine rOut_fc (rOut_give hO1 g7 g6) (u2_a _ _ (by decide)) (fun _ _ => rfl) (fun _ _ _ => rfl)
  · exact kEq_tr (gvM_kEq g6 (by decide) (by decide) (by decide)) (kEq_of fun c c1 c2 => hA c (by omega) (by omega) (by omega))
end CL
