/-! Part 96: long writing, and all that the client hears, class and reference side by side -/
theorem sameV_1 {f h : Nat → Int32} : ∀ (r k : Nat), lst f k r = lst h k r → sameV f h k r = 1
  | 0, _, _ => rfl
  | r + 1, k, e => by
    have e2 : f k :: lst f (k + 1) r = h k :: lst h (k + 1) r := e
    obtain ⟨e3, e4⟩ := List.cons.inj e2
    unfold sameV
    rw [if_pos e3]
    exact sameV_1 r (k + 1) e4
theorem sameV_0 {f h : Nat → Int32} : ∀ (r k : Nat), ¬ lst f k r = lst h k r → sameV f h k r = 0
  | 0, _, e => absurd rfl e
  | r + 1, k, e => by
    unfold sameV
    by_cases e3 : f k = h k
    · rw [if_pos e3]
      refine sameV_0 r (k + 1) (fun z => e ?_)
      show f k :: lst f (k + 1) r = h k :: lst h (k + 1) r
      rw [e3, z]
    · rw [if_neg e3]
section CP
variable {n0 : Nat} {W : bw_W} {J K : bw_J} {fr w ct nt cl op ab m0 wt r0 sp : Nat}
theorem an_6 (h : cliIn W J K fr w ct nt cl) (a : cA W J K m0 6 ab wt r0 0) (he : ¬ (m0 = 1 ∧ (W 27).length = 4)) (hw : m0 = r0 + 1) : cliEnd n0 W J K nt := by
  obtain ⟨h150, hr0, hs0⟩ := an_ctx h a
  have a' := a
  obtain ⟨a1, a2, a3, a4, a5, hp, hg, a8, a9, a10, a11, a12⟩ := a
  have hB := h.1.1
  obtain ⟨hN, b1, b2, b3, b4, b5, b6, b7, b8, b9, b10⟩ := hB
  have hg' := hg
  obtain ⟨g1, g2, g3, g4, g5, g6, g7, g8, g9, g10, g11, g12⟩ := hg
  obtain ⟨k1, k2, k3, k4, wp, k5, k6, k7, k8, k9⟩ := g12 rfl
  have k58 := k9 a11
  obtain ⟨q1, q2, q3, q4, q5⟩ := a8
  have h12 : J 67 12 = 0 := an_12 a' (fun _ => rfl)
  have hno := an_no (n0 := n0) h a' (by decide) (fun _ => rfl) he hw (by rw [if_neg (by decide)]; omega)
  have hl20 := h.2.2.1
  by_cases h24 : r0 = 24
  · subst h24
    rw [if_pos a9] at k58
    refine cli_good (W2 := W) (J2 := J) (K2 := K) (cl2 := cl) h a' h.1.1 hp g1 (fun K0 g L d hd => ?_) (fun W0 J0 g L e hee => ?_) (fun _ _ => rfl) (fun _ _ => rfl) (fun _ _ _ => rfl) (fun _ _ => rfl)
    · refine cl_lis_done (n0 := n0) (W := W) (J := jn J K0) (J1 := jn (am_u2 J 67 8 1) K0) (g := g) (L := L) hd a2 a3 a4 a5 hs0 (fun e hee => hno K0 g L e hee) (fun e hee => cl_go5 (n0 := n0) (W := W) (J := jn J K0) (g := g) (L := L) hee hp.2.2.2.2.1 (fun e2 he2 => ?_)) (fun z => absurd (show (1 : Int32) = 0 from z) (by decide))
      have := cl_gw0 (n0 := n0) (W := W) (J := jn J K0) (g := g) (L := L) he2 a9
      rw [jn_u2l (by decide)] at this
      exact this
    · have := mo_an_6 (n0 := n0) (W := W0) (J := jn J0 K) (g := g) (L := L) hee hp.2.2.2.1 a11 h.2.2.2.2.1 h.2.2.1 h150 a3 hr0 a10 he hw (fun e2 he2 => mo_wr_f (n0 := n0) (W := W0) (J := jn J0 K) (g := g) (L := L) he2 a11 k58)
      rw [jn_u2r (by decide), jn_u2r (by decide)] at this
      exact this
  · have hne24 : ¬ (W 80).getD 0 0 = Int32.ofNat 24 := fun z => by
      rw [a9, i_eq (by omega) (by decide)] at z
      exact h24 z
    rw [if_neg hne24] at k58
    have hwp8 := k8 hne24
    have hsv : ∃ sv, sv = if (W 27).length = (W 80).length then sameV (K 150) (K 161) 1 ((W 27).length - 1) else 0 := ⟨_, rfl⟩
    obtain ⟨sv, hsv⟩ := hsv
    have hsv1 : ((W 27).length = (W 80).length ∧ (W 27).drop 1 = (W 80).drop 1) → sv = 1 := fun z => by
      rw [hsv, if_pos z.1]
      refine sameV_1 _ _ ?_
      have e1 := eqL_lst h.2.2.2.2.2.1 ((W 27).length - 1) 1 (by omega)
      have e2 := eqL_lst q5 ((W 27).length - 1) 1 (by omega)
      rw [Nat.zero_add] at e1 e2
      rw [e1, e2, z.2]
    have hsv0 : ¬ ((W 27).length = (W 80).length ∧ (W 27).drop 1 = (W 80).drop 1) → sv = 0 := fun z => by
      by_cases z1 : (W 27).length = (W 80).length
      · rw [hsv, if_pos z1]
        refine sameV_0 _ _ (fun z2 => z ⟨z1, ?_⟩)
        have e1 := eqL_lst h.2.2.2.2.2.1 ((W 27).length - 1) 1 (by omega)
        have e2 := eqL_lst q5 ((W 27).length - 1) 1 (by omega)
        rw [Nat.zero_add] at e1 e2
        rw [e1, e2, List.take_of_length_le (by rw [List.length_drop]; omega), List.take_of_length_le (by rw [List.length_drop]; omega)] at z2
        exact z2
      · rw [hsv, if_neg z1]
    have hbp : ∀ (l : List Int32) (J1 K1 : bw_J), (∀ f, ¬ f = 11 → ¬ f = 12 → J1 67 f = J 67 f) → (∀ c, ¬ c = 67 → J1 c = J c) → (∀ f, ¬ f = 55 → ¬ f = 57 → ¬ f = 58 → K1 130 f = K 130 f) → (∀ c, ¬ c = 130 → K1 c = K c) → (∃ sp, K1 130 57 = Int32.ofNat sp ∧ sp ≤ 1) → rCliB (am_u1 W 80 l) J1 K1 nt cl ∧ rOp (am_u1 W 80 l) J1 K1 6 0 := fun l J1 K1 e1 e2 e3 e4 e5 => by
      refine ⟨⟨rNote_fr hN (e2 68 (by decide)) (fun c c1 c2 => u1_ne _ _ (by omega)) (e4 164 (by decide)) (e4 165 (by decide)) (e3 59 (by decide) (by decide) (by decide)), ?_⟩, ?_⟩
      · rw [e1 5 (by decide) (by decide), e1 9 (by decide) (by decide), e3 44 (by decide) (by decide) (by decide), e3 52 (by decide) (by decide) (by decide), e3 48 (by decide) (by decide) (by decide), e4 162 (by decide), u1_ne _ _ (by decide), u1_ne _ _ (by decide)]
        exact ⟨b1, b2, b3, b4, b5, b6, b7, b8, b9, e5⟩
      · unfold rOp at hp ⊢
        rw [e1 6 (by decide) (by decide), e1 8 (by decide) (by decide), e3 45 (by decide) (by decide) (by decide), e3 47 (by decide) (by decide) (by decide)]
        exact hp
    have hgo := fun (W2 : bw_W) (J2 K0 : bw_J) (g : Nat) (L : bw_L) (e : Nat) (hee : 4 ≤ e) (q : ∀ e, 3 ≤ e → bm e (S0 n0) R0 105 [.ref 67, .ref 27] W (jn J K0) g L (bR none W2 (jn J2 K0) g L)) => cl_go5 (n0 := n0) (W := W) (J := jn J K0) (g := g) (L := L) hee hp.2.2.2.2.1 q
    by_cases hsm : (W 27).length = (W 80).length ∧ (W 27).drop 1 = (W 80).drop 1
    · have hs1 := hsv1 hsm
      by_cases hpl : wp + cl - 3 < (W 84).length
      · have hmin : ((W 84).drop (wp + cl - 3)).take (cl - 3) = lst (K 163) (wp + cl - 3) (min (cl - 3) ((W 84).length - (wp + cl - 3))) := by
          have := eqL_lst k4 (min (cl - 3) ((W 84).length - (wp + cl - 3))) (wp + cl - 3) (by omega)
          rw [Nat.zero_add] at this
          rw [this]
          by_cases hq : cl - 3 ≤ (W 84).length - (wp + cl - 3)
          · rw [show min (cl - 3) ((W 84).length - (wp + cl - 3)) = cl - 3 by omega]
          · rw [List.take_of_length_le (by rw [List.length_drop]; omega), List.take_of_length_le (by rw [List.length_drop]; omega)]
        obtain ⟨r1, r2⟩ := hbp (Int32.ofNat 22 :: Int32.ofNat ab :: Int32.ofNat (wp + cl - 3) :: ((W 84).drop (wp + cl - 3)).take (cl - 3)) (am_u2 (am_u2 J 67 12 0) 67 11 (Int32.ofNat (wp + cl - 3))) (am_u2 K 130 55 (Int32.ofNat (wp + cl - 3))) (fun f f1 f2 => by rw [u2_k _ _ f1, u2_k _ _ f2]) (fun c hc => by rw [u2_a _ _ hc, u2_a _ _ hc]) (fun f f1 _ _ => u2_k _ _ f1) (fun c hc => u2_a _ _ hc) ⟨0, a11, by decide⟩
        refine ask_cli (W1 := am_u1 W 80 (Int32.ofNat 22 :: Int32.ofNat ab :: Int32.ofNat (wp + cl - 3) :: ((W 84).drop (wp + cl - 3)).take (cl - 3))) (J1 := am_u2 (am_u2 J 67 12 0) 67 11 (Int32.ofNat (wp + cl - 3))) (K1 := am_u2 K 130 55 (Int32.ofNat (wp + cl - 3))) (cl := cl) (op := 6) (ab := ab) h.2.1 r1 r2 ⟨g1, g2, g3, g4, ?_, ?_, ?_, ?_, fun z => absurd z (by decide), fun z => absurd z (by decide), fun z => absurd z (by decide), fun _ => ⟨k1, k2, k3, k4, wp + cl - 3, by omega, u2_at _ _ _ _, u2_at _ _ _ _, fun _ => by omega, fun _ => ?_⟩⟩ (fun W2 J2 K0 g L hA d hd => ?_) (fun K2 W0 J0 g L hA d hd => an_mod h a' K2 W0 J0 g L (fun e hee => ?_) d hd) (fun c hc => u1_ne _ _ (by omega)) (fun c hc => by rw [u2_a _ _ hc, u2_a _ _ hc]) (fun c c1 _ => u2_a _ _ c1) (fun f hf => u2_k _ _ (by omega))
        · rw [u1_at, List.length_cons]; omega
        · rw [u1_at, List.length_cons, List.length_cons, List.length_cons, List.length_take]; omega
        · rw [u1_at]; exact byl_cons rfl (byl_cons (b255 g2) (byl_cons (b255 (by omega)) (byl_take _ (byl_drop _ k3))))
        · rw [u2_k _ _ (by decide), u2_at, u2_k _ _ (by decide), if_pos rfl, a11]; rfl
        · rw [u1_at, u2_k _ _ (by decide), if_neg (by show ¬ Int32.ofNat 22 = Int32.ofNat 24; decide)]; exact k58
        · refine cl_lis_ask (n0 := n0) (W := W) (J := jn J K0) (J1 := jn (am_u2 (am_u2 J 67 12 0) 67 11 (Int32.ofNat (wp + cl - 3))) K0) (g := g) (L := L) hd a2 a3 a4 a5 hs0 (fun e hee => hno K0 g L e hee) (fun e hee => hgo _ _ K0 g L e hee (fun e2 he2 => ?_)) hs0 hA
          have := cl_gw2 (n0 := n0) (W := W) (J := jn J K0) (g := g) (L := L) he2 a9 a10 h24 k6 (by omega) b1 b3 b4 a1 hsm hpl g3 g2
          rw [jn_u2l (by decide), jn_u2l (by decide)] at this
          exact this
        · refine mo_an_6 (n0 := n0) (W := W0) (J := jn J0 K) (g := g) (L := L) hee hp.2.2.2.1 a11 h.2.2.2.2.1 h.2.2.1 h150 a3 hr0 a10 he hw (fun e2 he2 => mo_wr_w (n0 := n0) (W := W0) (J := jn J0 K) (g := g) (L := L) he2 a11 k58 h.2.2.2.2.1 h.2.2.1 a1 q4 g6 hsv k7 (by omega) k1 k2 b2 b3 b4 hs1 hpl (fun e3 he3 => ?_))
          rw [jn_u2r (by decide)]
          refine mo_writeOn (n0 := n0) (W := W0) (J := jn J0 (am_u2 K 130 55 (Int32.ofNat (wp + cl - 3)))) (g := g) (L := L) he3 (wp := wp + cl - 3) (ws := (W 84).length) (lm := cl) (by rw [jn_ge (by decide), u2_at]) (by omega) k1 k2 b2 b3 b4 (fun k hk => ?_) g4 g2 (fun e4 he4 => ?_)
          · have := k4 k hk
            rw [Nat.zero_add] at this
            show K 163 k &&& 255 = K 163 k
            rw [this]; exact k3 k
          · rw [jn_ge (c := 163) (by decide), u2_a _ _ (by decide), ← hmin, jn_mk]
            have := hA e4 he4
            rw [u1_at] at this
            exact this
      · obtain ⟨r1, r2⟩ := hbp [Int32.ofNat 24, Int32.ofNat 1] (am_u2 (am_u2 J 67 12 0) 67 11 (Int32.ofNat (wp + cl - 3))) (am_u2 (am_u2 (am_u2 K 130 55 (Int32.ofNat (wp + cl - 3))) 130 57 (Int32.ofNat 0)) 130 58 (Int32.ofNat 1)) (fun f f1 f2 => by rw [u2_k _ _ f1, u2_k _ _ f2]) (fun c hc => by rw [u2_a _ _ hc, u2_a _ _ hc]) (fun f f1 f2 f3 => by rw [u2_k _ _ f3, u2_k _ _ f2, u2_k _ _ f1]) (fun c hc => by rw [u2_a _ _ hc, u2_a _ _ hc, u2_a _ _ hc]) ⟨0, rfl, by decide⟩
        refine ask_cli (W1 := am_u1 W 80 [Int32.ofNat 24, Int32.ofNat 1]) (J1 := am_u2 (am_u2 J 67 12 0) 67 11 (Int32.ofNat (wp + cl - 3))) (K1 := am_u2 (am_u2 (am_u2 K 130 55 (Int32.ofNat (wp + cl - 3))) 130 57 (Int32.ofNat 0)) 130 58 (Int32.ofNat 1)) (cl := cl) (op := 6) (ab := ab) h.2.1 r1 r2 ⟨g1, g2, g3, g4, ?_, ?_, ?_, ?_, fun z => absurd z (by decide), fun z => absurd z (by decide), fun z => absurd z (by decide), fun _ => ⟨k1, k2, k3, k4, wp + cl - 3, by omega, u2_at _ _ _ _, rfl, fun z => absurd (show (am_u1 W 80 [Int32.ofNat 24, Int32.ofNat 1] 80).getD 0 0 = Int32.ofNat 24 by rw [u1_at]; rfl) z, fun _ => ?_⟩⟩ (fun W2 J2 K0 g L hA d hd => ?_) (fun K2 W0 J0 g L hA d hd => an_mod h a' K2 W0 J0 g L (fun e hee => ?_) d hd) (fun c hc => u1_ne _ _ (by omega)) (fun c hc => by rw [u2_a _ _ hc, u2_a _ _ hc]) (fun c c1 _ => by rw [u2_a _ _ c1, u2_a _ _ c1, u2_a _ _ c1]) (fun f hf => by rw [u2_k _ _ (by omega), u2_k _ _ (by omega), u2_k _ _ (by omega)])
        · rw [u1_at]; decide
        · rw [u1_at]; decide
        · rw [u1_at]; exact byl_cons rfl (byl_cons rfl byl_nil)
        · rfl
        · rw [u1_at]; rfl
        · refine cl_lis_ask (n0 := n0) (W := W) (J := jn J K0) (J1 := jn (am_u2 (am_u2 J 67 12 0) 67 11 (Int32.ofNat (wp + cl - 3))) K0) (g := g) (L := L) hd a2 a3 a4 a5 hs0 (fun e hee => hno K0 g L e hee) (fun e hee => hgo _ _ K0 g L e hee (fun e2 he2 => ?_)) hs0 hA
          have := cl_gw3 (n0 := n0) (W := W) (J := jn J K0) (g := g) (L := L) he2 a9 a10 h24 k6 (by omega) b1 b3 b4 a1 hsm hpl
          rw [jn_u2l (by decide), jn_u2l (by decide)] at this
          exact this
        · refine mo_an_6 (n0 := n0) (W := W0) (J := jn J0 K) (g := g) (L := L) hee hp.2.2.2.1 a11 h.2.2.2.2.1 h.2.2.1 h150 a3 hr0 a10 he hw (fun e2 he2 => mo_wr_e (n0 := n0) (W := W0) (J := jn J0 K) (g := g) (L := L) he2 a11 k58 h.2.2.2.2.1 h.2.2.1 a1 q4 g6 hsv k7 (by omega) k1 k2 b2 b3 b4 hs1 (by omega) (fun e3 he3 => ?_))
          rw [jn_u2r (by decide), jn_u2r (by decide), jn_u2r (by decide), jn_mk]
          have := hA e3 he3
          rw [u1_at] at this
          exact this
    · have hs1 := hsv0 hsm
      obtain ⟨r1, r2⟩ := hbp [Int32.ofNat 24, Int32.ofNat 0] (am_u2 (am_u2 J 67 12 1) 67 11 (Int32.ofNat (wp + cl - 3))) (am_u2 (am_u2 (am_u2 K 130 55 (Int32.ofNat (wp + cl - 3))) 130 57 (Int32.ofNat 1)) 130 58 (Int32.ofNat 0)) (fun f f1 f2 => by rw [u2_k _ _ f1, u2_k _ _ f2]) (fun c hc => by rw [u2_a _ _ hc, u2_a _ _ hc]) (fun f f1 f2 f3 => by rw [u2_k _ _ f3, u2_k _ _ f2, u2_k _ _ f1]) (fun c hc => by rw [u2_a _ _ hc, u2_a _ _ hc, u2_a _ _ hc]) ⟨1, rfl, by decide⟩
      refine ask_cli (W1 := am_u1 W 80 [Int32.ofNat 24, Int32.ofNat 0]) (J1 := am_u2 (am_u2 J 67 12 1) 67 11 (Int32.ofNat (wp + cl - 3))) (K1 := am_u2 (am_u2 (am_u2 K 130 55 (Int32.ofNat (wp + cl - 3))) 130 57 (Int32.ofNat 1)) 130 58 (Int32.ofNat 0)) (cl := cl) (op := 6) (ab := ab) h.2.1 r1 r2 ⟨g1, g2, g3, g4, ?_, ?_, ?_, ?_, fun z => absurd z (by decide), fun z => absurd z (by decide), fun z => absurd z (by decide), fun _ => ⟨k1, k2, k3, k4, wp + cl - 3, by omega, u2_at _ _ _ _, rfl, fun z => absurd (show (am_u1 W 80 [Int32.ofNat 24, Int32.ofNat 0] 80).getD 0 0 = Int32.ofNat 24 by rw [u1_at]; rfl) z, fun z => ?_⟩⟩ (fun W2 J2 K0 g L hA d hd => ?_) (fun K2 W0 J0 g L hA d hd => an_mod h a' K2 W0 J0 g L (fun e hee => ?_) d hd) (fun c hc => u1_ne _ _ (by omega)) (fun c hc => by rw [u2_a _ _ hc, u2_a _ _ hc]) (fun c c1 _ => by rw [u2_a _ _ c1, u2_a _ _ c1, u2_a _ _ c1]) (fun f hf => by rw [u2_k _ _ (by omega), u2_k _ _ (by omega), u2_k _ _ (by omega)])
      · rw [u1_at]; decide
      · rw [u1_at]; decide
      · rw [u1_at]; exact byl_cons rfl (byl_cons rfl byl_nil)
      · rfl
      · have z2 : Int32.ofNat 1 = Int32.ofNat 0 := z
        exact absurd z2 (by decide)
      · refine cl_lis_ask (n0 := n0) (W := W) (J := jn J K0) (J1 := jn (am_u2 (am_u2 J 67 12 1) 67 11 (Int32.ofNat (wp + cl - 3))) K0) (g := g) (L := L) hd a2 a3 a4 a5 hs0 (fun e hee => hno K0 g L e hee) (fun e hee => hgo _ _ K0 g L e hee (fun e2 he2 => ?_)) hs0 hA
        have := cl_gw1 (n0 := n0) (W := W) (J := jn J K0) (g := g) (L := L) he2 a9 a10 h24 k6 (by omega) b1 b3 b4 a1 hsm
        rw [jn_u2l (by decide), jn_u2l (by decide)] at this
        exact this
      · refine mo_an_6 (n0 := n0) (W := W0) (J := jn J0 K) (g := g) (L := L) hee hp.2.2.2.1 a11 h.2.2.2.2.1 h.2.2.1 h150 a3 hr0 a10 he hw (fun e2 he2 => mo_wr_b (n0 := n0) (W := W0) (J := jn J0 K) (g := g) (L := L) he2 a11 k58 h.2.2.2.2.1 h.2.2.1 a1 q4 g6 hsv k7 (by omega) k1 k2 b2 b3 b4 hs1 (fun e3 he3 => ?_))
        rw [jn_u2r (by decide), jn_u2r (by decide), jn_u2r (by decide), jn_mk]
        have := hA e3 he3
        rw [u1_at] at this
        exact this
/-- the client hears W 27 -/
theorem cli_all (h : cliIn W J K fr w ct nt cl) : cliEnd n0 W J K nt := by
  by_cases hne : 0 < (W 27).length
  · obtain ⟨m0, hm2, hm0⟩ := byl_n h.2.2.2.1 0
    have h150 : K 150 0 = Int32.ofNat m0 := by rw [cin150 h hne]; exact hm0
    by_cases hn : m0 = 27 ∨ m0 = 29
    · by_cases hl : 2 ≤ (W 27).length
      · exact cli_n h hl hm0 hn
      · exact cli_s h (by omega) hne hm0 hn
    · by_cases hod : m0 % 2 = 1
      · have hn27 : ¬ m0 = 27 := fun z => hn (Or.inl z)
        have hn29 : ¬ m0 = 29 := fun z => hn (Or.inr z)
        rcases h.1.2 with ⟨e1, e2, e3⟩ | ⟨op, oc, hp, hgo⟩
        · exact cli_skip h hm0 hm2 hn (Or.inr (fun z => by rw [e1] at z; exact absurd z (by decide))) (fun d W0 J0 g L hd => mo_ch_i0 (n0 := n0) (W := W0) (J := jn J0 K) (g := g) (L := L) hd h.2.2.2.2.1 h.2.2.1 hne h150 hm2 hod hn27 hn29 e2)
        · by_cases hoc : oc = 0
          · subst hoc
            obtain ⟨⟨ab, hg⟩, ⟨wt, hq⟩⟩ := hgo rfl
            obtain ⟨r0, hr2, hr0⟩ := byl_n hg.2.2.2.2.2.2.1 0
            obtain ⟨sp, hsp, hsp2⟩ := h.1.1.2.2.2.2.2.2.2.2.2.2
            have a : cA W J K m0 op ab wt r0 sp := ⟨hne, hm0, hm2, hn, hod, hp, hg, hq, hr0, hr2, hsp, hsp2⟩
            have hp1 := hp.1
            have hp2 := hp.2.1
            by_cases h7 : op = 7
            · subst h7; exact an_raw h a
            · by_cases h6s : op = 6 ∧ sp = 1
              · obtain ⟨rfl, rfl⟩ := h6s; exact an_back h a
              · have hs : op = 6 → sp = 0 := fun z => by omega
                by_cases he : m0 = 1 ∧ (W 27).length = 4
                · exact an_err h a (by omega) hs he
                · by_cases hw : m0 = r0 + 1
                  · by_cases h1 : op = 1
                    · subst h1; exact an_1 h a he hw
                    · by_cases h2 : op = 2
                      · subst h2; exact an_2 h a he hw
                      · by_cases h3 : op = 3
                        · subst h3; exact an_3 h a he hw
                        · by_cases h4 : op = 4
                          · subst h4; exact an_4 h a he hw
                          · by_cases h5 : op = 5
                            · subst h5; exact an_5 h a he hw
                            · have h6 : op = 6 := by omega
                              subst h6
                              have h0 := hs rfl
                              subst h0
                              exact an_6 h a he hw
                  · exact an_wrong h a (by omega) hs he hw
          · obtain ⟨p1, p2, p3, p4, p5, p6, p7⟩ := hp
            exact cli_skip h hm0 hm2 hn (Or.inr (fun z => by rw [p6, z_eq (by omega)] at z; exact hoc z)) (fun d W0 J0 g L hd => mo_ch_i1 (n0 := n0) (W := W0) (J := jn J0 K) (g := g) (L := L) hd h.2.2.2.2.1 h.2.2.1 hne h150 hm2 hod hn27 hn29 p4 p1 p2 p7 (by omega) p3)
      · exact cli_skip h hm0 hm2 hn (Or.inl hod) (fun d W0 J0 g L hd => mo_ch_0 (n0 := n0) (W := W0) (J := jn J0 K) (g := g) (L := L) hd h.2.2.2.2.1 h.2.2.1 hne h150 hm2 (by omega))
  · have h0 : W 27 = [] := List.length_eq_zero_iff.mp (by omega)
    have h5 := h.2.2.2.2.1
    rw [h0] at h5
    exact cli_skip (m0 := 0) h (by rw [h0]; rfl) (by decide) (by decide) (Or.inl (by decide)) (fun d W0 J0 g L hd => mo_ch_e (n0 := n0) (W := W0) (J := jn J0 K) (g := g) (L := L) hd h5)
end CP
