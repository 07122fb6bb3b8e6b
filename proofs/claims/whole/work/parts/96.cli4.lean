/-! Part 96: the client goes on, class and reference side by side -/
section CO
variable {n0 : Nat} {W : bw_W} {J K : bw_J} {fr w ct nt cl op ab m0 wt r0 sp : Nat}
/-- the pieces of the context that all need -/
theorem an_ctx (h : cliIn W J K fr w ct nt cl) (a : cA W J K m0 op ab wt r0 sp) : K 150 0 = Int32.ofNat m0 ∧ K 161 0 = Int32.ofNat r0 ∧ J 67 8 = 0 := ⟨by rw [cin150 h a.1]; exact a.2.1, an_r0 a, a.2.2.2.2.2.1.2.2.2.2.2.1⟩
theorem an_1 (h : cliIn W J K fr w ct nt cl) (a : cA W J K m0 1 ab wt r0 sp) (he : ¬ (m0 = 1 ∧ (W 27).length = 4)) (hw : m0 = r0 + 1) : cliEnd n0 W J K nt := by
  obtain ⟨h150, hr0, hs0⟩ := an_ctx h a
  have a' := a
  obtain ⟨a1, a2, a3, a4, a5, hp, hg, a8, a9, a10, a11, a12⟩ := a
  by_cases hl : (W 27).length < 2
  · exact cli_bad (c := 14) h a' (fun K0 g L e hee => cl_ends_bad (n0 := n0) (W := W) (J := jn J K0) (g := g) (L := L) (op := 0) hee hp.2.2.2.2.1 (by decide) (an_12 a' (fun z => absurd z (by decide))) a2 a3 a9 a10 he (Or.inr (by rw [if_pos (Or.inl rfl)]; exact hl))) (fun W0 J0 g L e hee => mo_an_1 (n0 := n0) (W := W0) (J := jn J0 K) (g := g) (L := L) hee hp.2.2.2.1 h.2.2.2.2.1 h.2.2.1 h150 a3 hr0 a10 he hw (fun e2 he2 => mo_limits0 (n0 := n0) (W := W0) (J := jn J0 K) (g := g) (L := L) he2 h.2.2.2.2.1 h.2.2.1 hl))
  · obtain ⟨b1, hb2, hb⟩ := byl_n h.2.2.2.1 1
    have h151 := cin150 h (show 1 < (W 27).length by omega)
    rw [hb] at h151
    obtain ⟨g1, g2, g3, g4, g5⟩ := hg
    obtain ⟨hN, b1', b2, b3, b4, b5, b6, b7, b8, b9, b10⟩ := h.1.1
    refine cli_good (W2 := W) (J2 := am_u2 J 67 5 (Int32.ofNat (max 8 (min 20 (min ab b1))))) (K2 := am_u2 K 130 44 (Int32.ofNat (max 8 (min 20 (min ab b1))))) (cl2 := max 8 (min 20 (min ab b1))) h a' ⟨rNote_fr hN rfl (fun _ _ _ => rfl) rfl rfl rfl, u2_at _ _ _ _, u2_at _ _ _ _, by omega, by omega, b5, b6, b7, b8, b9, b10⟩ hp g1 (fun K0 g L d hd => ?_) (fun W0 J0 g L e hee => ?_) (fun _ _ => rfl) (fun c hc => u2_a _ _ hc) (fun c c1 _ => u2_a _ _ c1) (fun f hf => u2_k _ _ (by omega))
    · refine cl_lis_done (J1 := jn (am_u2 (am_u2 J 67 5 (Int32.ofNat (max 8 (min 20 (min ab b1))))) 67 8 1) K0) hd a2 a3 a4 a5 hs0 (fun e hee => an_no h a' (by decide) (fun z => absurd z (by decide)) he hw (by rw [if_pos (Or.inl rfl)]; omega) K0 g L e hee) (fun e hee => ?_) (fun z => absurd (show (1 : Int32) = 0 from z) (by decide))
      have := cl_go0 (n0 := n0) (W := W) (J := jn J K0) (g := g) (L := L) hee hp.2.2.2.2.1 g3 g2 hb hb2
      rw [jn_u2l (by decide), jn_u2l (by decide)] at this
      exact this
    · have := mo_an_1 (n0 := n0) (W := W0) (J := jn J0 K) (g := g) (L := L) hee hp.2.2.2.1 h.2.2.2.2.1 h.2.2.1 h150 a3 hr0 a10 he hw (fun e2 he2 => mo_limits1 (n0 := n0) (W := W0) (J := jn J0 K) (g := g) (L := L) he2 h.2.2.2.2.1 h.2.2.1 (by omega) g4 g2 h151 hb2 rfl)
      rw [jn_u2r (by decide), jn_u2r (by decide), jn_u2r (by decide)] at this
      exact this
theorem an_2 (h : cliIn W J K fr w ct nt cl) (a : cA W J K m0 2 ab wt r0 sp) (he : ¬ (m0 = 1 ∧ (W 27).length = 4)) (hw : m0 = r0 + 1) : cliEnd n0 W J K nt := by
  obtain ⟨h150, hr0, hs0⟩ := an_ctx h a
  have a' := a
  obtain ⟨a1, a2, a3, a4, a5, hp, hg, a8, a9, a10, a11, a12⟩ := a
  have hF : W 78 = [] := hg.2.2.2.2.2.2.2.2.1 (Or.inl rfl)
  have h52 : K 130 52 = Int32.ofNat 0 := by rw [h.1.1.2.2.2.2.2.2.1, hF]; rfl
  have hml : ((W 27).drop 1).length = (W 27).length - 1 := List.length_drop
  have hls : lst (K 150) 1 ((W 27).length - 1) = (W 27).drop 1 := by
    have := eqL_lst h.2.2.2.2.2.1 ((W 27).length - 1) 1 (by omega)
    rw [Nat.zero_add, List.take_of_length_le (by omega)] at this
    exact this
  have hl20 := h.2.2.1
  refine cli_good (W2 := am_u1 W 78 ((W 27).drop 1)) (J2 := J) (K2 := am_u2 (am_u1 K 162 (ovw 0 ((W 27).drop 1) (K 162))) 130 52 (Int32.ofNat ((W 27).drop 1).length)) (cl2 := cl) h a' (rCliB_d h.1.1 (by omega) (eqL_ovw _ _ _)) hp hg.1 (fun K0 g L d hd => ?_) (fun W0 J0 g L e hee => ?_) (fun c hc => u1_ne _ _ (by omega)) (fun _ _ => rfl) (fun c c1 c2 => by rw [u2_a _ _ c1, u1_ne _ _ (by omega)]) (fun f hf => by rw [u2_k _ _ (by omega), u1_ne _ _ (by decide)])
  · refine cl_lis_done (J1 := jn (am_u2 J 67 8 1) K0) hd a2 a3 a4 a5 hs0 (fun e hee => an_no h a' (by decide) (fun z => absurd z (by decide)) he hw (by rw [if_neg (by decide)]; omega) K0 g L e hee) (fun e hee => ?_) (fun z => absurd (show (1 : Int32) = 0 from z) (by decide))
    have := cl_go1 (n0 := n0) (W := W) (J := jn J K0) (g := g) (L := L) hee hp.2.2.2.2.1 hF
    rw [jn_u2l (by decide)] at this
    exact this
  · have := mo_an_2 (n0 := n0) (W := W0) (J := jn J0 K) (g := g) (L := L) hee hp.2.2.2.1 h.2.2.2.2.1 h.2.2.1 h150 a3 hr0 a10 he hw (fun e2 he2 => mo_read_r (n0 := n0) (W := W0) (J := jn J0 K) (g := g) (L := L) he2 h.2.2.2.2.1 h.2.2.1 a1 h52 (by omega) hp.2.2.2.1)
    rw [jn_ge (c := 150) (by decide), jn_ge (c := 162) (by decide), hls, jn_u1r (by decide), jn_u2r (by decide), jn_u2r (by decide), jn_u2r (by decide), Nat.zero_add, ← hml] at this
    exact this
theorem an_5 (h : cliIn W J K fr w ct nt cl) (a : cA W J K m0 5 ab wt r0 sp) (he : ¬ (m0 = 1 ∧ (W 27).length = 4)) (hw : m0 = r0 + 1) : cliEnd n0 W J K nt := by
  obtain ⟨h150, hr0, hs0⟩ := an_ctx h a
  have a' := a
  obtain ⟨a1, a2, a3, a4, a5, hp, hg, a8, a9, a10, a11, a12⟩ := a
  refine cli_good (W2 := W) (J2 := J) (K2 := K) (cl2 := cl) h a' h.1.1 hp hg.1 (fun K0 g L d hd => ?_) (fun W0 J0 g L e hee => ?_) (fun _ _ => rfl) (fun _ _ => rfl) (fun _ _ _ => rfl) (fun _ _ => rfl)
  · refine cl_lis_done (J1 := jn (am_u2 J 67 8 1) K0) hd a2 a3 a4 a5 hs0 (fun e hee => an_no h a' (by decide) (fun z => absurd z (by decide)) he hw (by rw [if_neg (by decide)]; omega) K0 g L e hee) (fun e hee => ?_) (fun z => absurd (show (1 : Int32) = 0 from z) (by decide))
    have := cl_go4 (n0 := n0) (W := W) (J := jn J K0) (g := g) (L := L) hee hp.2.2.2.2.1
    rw [jn_u2l (by decide)] at this
    exact this
  · have := mo_an_5 (n0 := n0) (W := W0) (J := jn J0 K) (g := g) (L := L) hee hp.2.2.2.1 h.2.2.2.2.1 h.2.2.1 h150 a3 hr0 a10 he hw
    rw [jn_u2r (by decide), jn_u2r (by decide)] at this
    exact this
theorem an_4 (h : cliIn W J K fr w ct nt cl) (a : cA W J K m0 4 ab wt r0 sp) (he : ¬ (m0 = 1 ∧ (W 27).length = 4)) (hw : m0 = r0 + 1) : cliEnd n0 W J K nt := by
  obtain ⟨h150, hr0, hs0⟩ := an_ctx h a
  have a' := a
  obtain ⟨a1, a2, a3, a4, a5, hp, hg, a8, a9, a10, a11, a12⟩ := a
  by_cases hl : (W 27).length < 2
  · exact cli_bad (c := 14) h a' (fun K0 g L e hee => cl_ends_bad (n0 := n0) (W := W) (J := jn J K0) (g := g) (L := L) (op := 3) hee hp.2.2.2.2.1 (by decide) (an_12 a' (fun z => absurd z (by decide))) a2 a3 a9 a10 he (Or.inr (by rw [if_pos (Or.inr rfl)]; exact hl))) (fun W0 J0 g L e hee => mo_an_4 (n0 := n0) (W := W0) (J := jn J0 K) (g := g) (L := L) hee hp.2.2.2.1 h.2.2.2.2.1 h.2.2.1 h150 a3 hr0 a10 he hw (fun e2 he2 => mo_found0 (n0 := n0) (W := W0) (J := jn J0 K) (g := g) (L := L) (by omega) h.2.2.2.2.1 h.2.2.1 hl))
  · obtain ⟨b1, hb2, hb⟩ := byl_n h.2.2.2.1 1
    have h151 := cin150 h (show 1 < (W 27).length by omega)
    rw [hb] at h151
    have hB := h.1.1
    have h52 := hB.2.2.2.2.2.2.1
    have hd8 := hB.2.2.2.2.2.2.2.2.1
    have hF : (W 78).length < 10 := hg.2.2.2.2.2.2.2.2.2.2.1 rfl
    have hnl : (W 78 ++ [Int32.ofNat b1]).length = (W 78).length + 1 := by rw [List.length_append]; rfl
    have heq : eqL (W 78 ++ [Int32.ofNat b1]) (am_u1 (K 162) (W 78).length (Int32.ofNat b1)) 0 := fun k hk => by
      rw [hnl] at hk
      rw [Nat.zero_add, List.getD_eq_getElem?_getD]
      by_cases hk2 : k = (W 78).length
      · subst hk2; rw [u1_at, List.getElem?_append_right (Nat.le_refl _), Nat.sub_self]; rfl
      · rw [u1_ne _ _ hk2, List.getElem?_append_left (by omega), ← List.getD_eq_getElem?_getD]
        have := hd8 k (by omega)
        rwa [Nat.zero_add] at this
    have hno := an_no (n0 := n0) h a' (by decide) (fun z => absurd z (by decide)) he hw (by rw [if_pos (Or.inr rfl)]; omega)
    have hK2 : ∀ J0 : bw_J, am_u2 (am_u2 (jn J0 K) 162 (W 78).length (Int32.ofNat b1)) 130 52 (Int32.ofNat ((W 78).length + 1)) = jn J0 (am_u2 (am_u1 K 162 (am_u1 (K 162) (W 78).length (Int32.ofNat b1))) 130 52 (Int32.ofNat (W 78 ++ [Int32.ofNat b1]).length)) := fun J0 => by
      rw [jn_u2r (by decide), jn_u2r (by decide), hnl, u2_u1 K 162]
    have hgo := fun (W2 : bw_W) (J2 K0 : bw_J) (g : Nat) (L : bw_L) (e : Nat) (hee : 4 ≤ e) (q : ∀ e, 3 ≤ e → bm e (S0 n0) R0 104 [.ref 67, .int (Int32.ofNat b1)] W (jn J K0) g L (bR none W2 (jn J2 K0) g L)) => cl_go3 (n0 := n0) (W := W) (J := jn J K0) (g := g) (L := L) hee hp.2.2.2.2.1 (fun e2 he2 => by rw [hb]; exact q e2 he2)
    by_cases h9 : (W 78).length + 1 = 10
    · refine cli_good (W2 := am_u1 W 78 (W 78 ++ [Int32.ofNat b1])) (J2 := J) (K2 := am_u2 (am_u1 K 162 (am_u1 (K 162) (W 78).length (Int32.ofNat b1))) 130 52 (Int32.ofNat (W 78 ++ [Int32.ofNat b1]).length)) (cl2 := cl) h a' (rCliB_d hB (by omega) heq) hp hg.1 (fun K0 g L d hd => ?_) (fun W0 J0 g L e hee => ?_) (fun c hc => u1_ne _ _ (by omega)) (fun _ _ => rfl) (fun c c1 c2 => by rw [u2_a _ _ c1, u1_ne _ _ (by omega)]) (fun f hf => by rw [u2_k _ _ (by omega), u1_ne _ _ (by decide)])
      · refine cl_lis_done (J1 := jn (am_u2 J 67 8 1) K0) hd a2 a3 a4 a5 hs0 (fun e hee => hno K0 g L e hee) (fun e hee => hgo _ _ K0 g L e hee (fun e2 he2 => ?_)) (fun z => absurd (show (1 : Int32) = 0 from z) (by decide))
        have := cl_gf2 (n0 := n0) (W := W) (J := jn J K0) (g := g) (L := L) he2 hb2 hg.2.2.1 hg.2.1 hF (by omega)
        rw [jn_u2l (by decide)] at this
        exact this
      · have := mo_an_4 (n0 := n0) (W := W0) (J := jn J0 K) (g := g) (L := L) hee hp.2.2.2.1 h.2.2.2.2.1 h.2.2.1 h150 a3 hr0 a10 he hw (fun e2 he2 => mo_found1 (n0 := n0) (W := W0) (J := jn J0 K) (g := g) (L := L) he2 h.2.2.2.2.1 h.2.2.1 (by omega) h52 hF h151 hb2 h9)
        rw [hK2, jn_u2r (by decide), jn_u2r (by decide)] at this
        exact this
    · have hg' := hg
      obtain ⟨g1, g2, g3, g4, g5, g6, g7, g8, g9, g10, g11, g12⟩ := hg
      refine ask_cli (W1 := am_u1 (am_u1 W 78 (W 78 ++ [Int32.ofNat b1])) 80 [Int32.ofNat 16, Int32.ofNat ((b1 + 1) % 256), Int32.ofNat ab]) (J1 := J) (K1 := am_u2 (am_u1 K 162 (am_u1 (K 162) (W 78).length (Int32.ofNat b1))) 130 52 (Int32.ofNat (W 78 ++ [Int32.ofNat b1]).length)) (cl := cl) (op := 4) (ab := ab) h.2.1 ?_ hp ⟨g1, g2, g3, g4, ?_, ?_, ?_, g8, fun z => absurd z (by decide), fun z => absurd z (by decide), fun _ => ?_, fun z => absurd z (by decide)⟩ (fun W2 J2 K0 g L hA d hd => ?_) (fun K2 W0 J0 g L hA d hd => an_mod h a' K2 W0 J0 g L (fun e hee => ?_) d hd) (fun c hc => by rw [u1_ne _ _ (by omega), u1_ne _ _ (by omega)]) (fun _ _ => rfl) (fun c c1 c2 => by rw [u2_a _ _ c1, u1_ne _ _ (by omega)]) (fun f hf => by rw [u2_k _ _ (by omega), u1_ne _ _ (by decide)])
      · obtain ⟨hN, q1, q2, q3, q4, q5, q6, q7, q8, q9, q10⟩ := rCliB_d (f := W 78 ++ [Int32.ofNat b1]) hB (by omega) heq
        exact ⟨rNote_fr hN rfl (fun c c1 c2 => u1_ne _ _ (by omega)) rfl rfl rfl, q1, q2, q3, q4, q5, q6, q7, q8, q9, q10⟩
      · rw [u1_at]; show 1 ≤ 3; decide
      · rw [u1_at]; show 3 ≤ 20; decide
      · rw [u1_at]; exact byl_cons rfl (byl_cons (b255 (by omega)) (byl_cons (b255 g2) byl_nil))
      · rw [u1_ne _ _ (by decide), u1_at, hnl]; omega
      · exact cl_lis_ask (n0 := n0) (W := W) (J := jn J K0) (J1 := jn J K0) (g := g) (L := L) hd a2 a3 a4 a5 hs0 (fun e hee => hno K0 g L e hee) (fun e hee => hgo _ _ K0 g L e hee (fun e2 he2 => cl_gf1 (n0 := n0) (W := W) (J := jn J K0) (g := g) (L := L) he2 hb2 g3 g2 hF (by omega))) hs0 hA
      · refine mo_an_4 (n0 := n0) (W := W0) (J := jn J0 K) (g := g) (L := L) hee hp.2.2.2.1 h.2.2.2.2.1 h.2.2.1 h150 a3 hr0 a10 he hw (fun e2 he2 => mo_found2 (n0 := n0) (W := W0) (J := jn J0 K) (g := g) (L := L) he2 h.2.2.2.2.1 h.2.2.1 (by omega) h52 hF h151 hb2 h9 g4 g2 (fun e3 he3 => ?_))
        rw [hK2, jn_mk]
        have := hA e3 he3
        rw [u1_at] at this
        exact this
theorem an_3 (h : cliIn W J K fr w ct nt cl) (a : cA W J K m0 3 ab wt r0 sp) (he : ¬ (m0 = 1 ∧ (W 27).length = 4)) (hw : m0 = r0 + 1) : cliEnd n0 W J K nt := by
  obtain ⟨h150, hr0, hs0⟩ := an_ctx h a
  have a' := a
  obtain ⟨a1, a2, a3, a4, a5, hp, hg, a8, a9, a10, a11, a12⟩ := a
  have hB := h.1.1
  have h52 := hB.2.2.2.2.2.2.1
  have hd8 := hB.2.2.2.2.2.2.2.2.1
  have hcl5 := hB.2.1
  have hcl4 := hB.2.2.1
  have hcl20 := hB.2.2.2.2.1
  have hF : (W 78).length < 16 := hg.2.2.2.2.2.2.2.2.2.1 rfl
  have hl20 := h.2.2.1
  have hml : ((W 27).drop 1).length = (W 27).length - 1 := List.length_drop
  generalize hmm : min ((W 27).length - 1) (16 - (W 78).length) = mm
  have hfe : (W 78 ++ (W 27).drop 1).take 16 = W 78 ++ ((W 27).drop 1).take mm := by
    rw [List.take_append, List.take_of_length_le (by omega)]
    congr 1
    by_cases hq : (W 27).length - 1 ≤ 16 - (W 78).length
    · rw [List.take_of_length_le (by omega), List.take_of_length_le (by omega)]
    · rw [show mm = 16 - (W 78).length by omega]
  have hls : lst (K 150) 1 mm = ((W 27).drop 1).take mm := by
    have := eqL_lst h.2.2.2.2.2.1 mm 1 (by omega)
    rwa [Nat.zero_add] at this
  have htl : (((W 27).drop 1).take mm).length = mm := by rw [List.length_take]; omega
  generalize hf : W 78 ++ ((W 27).drop 1).take mm = f at hfe
  have hfl : f.length = (W 78).length + mm := by rw [← hf, List.length_append, htl]
  have heq : eqL f (ovw (W 78).length (((W 27).drop 1).take mm) (K 162)) 0 := by
    rw [← hf]
    have := eqL_app (p := ((W 27).drop 1).take mm) hd8
    rwa [Nat.zero_add] at this
  have hno := an_no (n0 := n0) h a' (by decide) (fun z => absurd z (by decide)) he hw (by rw [if_neg (by decide)]; omega)
  have hK2 : ∀ J0 : bw_J, am_u2 (am_u1 (jn J0 K) 162 (ovw (W 78).length (lst ((jn J0 K) 150) 1 mm) ((jn J0 K) 162))) 130 52 (Int32.ofNat ((W 78).length + mm)) = jn J0 (am_u2 (am_u1 K 162 (ovw (W 78).length (((W 27).drop 1).take mm) (K 162))) 130 52 (Int32.ofNat f.length)) := fun J0 => by
    rw [jn_ge (c := 150) (by decide), jn_ge (c := 162) (by decide), hls, jn_u1r (by decide), jn_u2r (by decide), hfl]
  by_cases hx : (W 27).length = cl ∧ f.length < 16
  · have hg' := hg
    obtain ⟨g1, g2, g3, g4, g5, g6, g7, g8, g9, g10, g11, g12⟩ := hg
    refine ask_cli (W1 := am_u1 (am_u1 W 78 f) 80 [Int32.ofNat 12, Int32.ofNat ab, Int32.ofNat f.length]) (J1 := J) (K1 := am_u2 (am_u1 K 162 (ovw (W 78).length (((W 27).drop 1).take mm) (K 162))) 130 52 (Int32.ofNat f.length)) (cl := cl) (op := 3) (ab := ab) h.2.1 ?_ hp ⟨g1, g2, g3, g4, ?_, ?_, ?_, g8, fun z => absurd z (by decide), fun _ => ?_, fun z => absurd z (by decide), fun z => absurd z (by decide)⟩ (fun W2 J2 K0 g L hA d hd => ?_) (fun K2 W0 J0 g L hA d hd => an_mod h a' K2 W0 J0 g L (fun e hee => ?_) d hd) (fun c hc => by rw [u1_ne _ _ (by omega), u1_ne _ _ (by omega)]) (fun _ _ => rfl) (fun c c1 c2 => by rw [u2_a _ _ c1, u1_ne _ _ (by omega)]) (fun q hq => by rw [u2_k _ _ (by omega), u1_ne _ _ (by decide)])
    · obtain ⟨hN, q1, q2, q3, q4, q5, q6, q7, q8, q9, q10⟩ := rCliB_d (f := f) hB (by omega) heq
      exact ⟨rNote_fr hN rfl (fun c c1 c2 => u1_ne _ _ (by omega)) rfl rfl rfl, q1, q2, q3, q4, q5, q6, q7, q8, q9, q10⟩
    · rw [u1_at]; show 1 ≤ 3; decide
    · rw [u1_at]; show 3 ≤ 20; decide
    · rw [u1_at]; exact byl_cons rfl (byl_cons (b255 g2) (byl_cons (b255 (by omega)) byl_nil))
    · rw [u1_ne _ _ (by decide), u1_at]; exact hx.2
    · exact cl_lis_ask (n0 := n0) (W := W) (J := jn J K0) (J1 := jn J K0) (g := g) (L := L) hd a2 a3 a4 a5 hs0 (fun e hee => hno K0 g L e hee) (fun e hee => cl_go2 (n0 := n0) (W := W) (J := jn J K0) (g := g) (L := L) hee hp.2.2.2.2.1 (fun e2 he2 => cl_gr1 (n0 := n0) (W := W) (J := jn J K0) (g := g) (L := L) he2 hcl5 hcl20 g3 g2 (by omega) hfe.symm hx)) hs0 hA
    · refine mo_an_3 (n0 := n0) (W := W0) (J := jn J0 K) (g := g) (L := L) hee hp.2.2.2.1 h.2.2.2.2.1 h.2.2.1 h150 a3 hr0 a10 he hw (fun e2 he2 => mo_read_g (n0 := n0) (W := W0) (J := jn J0 K) (g := g) (L := L) he2 h.2.2.2.2.1 h.2.2.1 a1 h52 (by omega) hp.2.2.2.1 hcl4 hcl20 hx.1 (by omega) g4 g2 (fun e3 he3 => ?_))
      rw [hmm, hK2, jn_mk, ← hfl]
      have := hA e3 he3
      rw [u1_at] at this
      exact this
  · refine cli_good (W2 := am_u1 W 78 f) (J2 := J) (K2 := am_u2 (am_u1 K 162 (ovw (W 78).length (((W 27).drop 1).take mm) (K 162))) 130 52 (Int32.ofNat f.length)) (cl2 := cl) h a' (rCliB_d hB (by omega) heq) hp hg.1 (fun K0 g L d hd => ?_) (fun W0 J0 g L e hee => ?_) (fun c hc => u1_ne _ _ (by omega)) (fun _ _ => rfl) (fun c c1 c2 => by rw [u2_a _ _ c1, u1_ne _ _ (by omega)]) (fun q hq => by rw [u2_k _ _ (by omega), u1_ne _ _ (by decide)])
    · refine cl_lis_done (J1 := jn (am_u2 J 67 8 1) K0) hd a2 a3 a4 a5 hs0 (fun e hee => hno K0 g L e hee) (fun e hee => cl_go2 (n0 := n0) (W := W) (J := jn J K0) (g := g) (L := L) hee hp.2.2.2.2.1 (fun e2 he2 => ?_)) (fun z => absurd (show (1 : Int32) = 0 from z) (by decide))
      have := cl_gr2 (n0 := n0) (W := W) (J := jn J K0) (g := g) (L := L) he2 hcl5 hcl20 hg.2.2.1 hg.2.1 (by omega) hfe.symm hx
      rw [jn_u2l (by decide)] at this
      exact this
    · have := mo_an_3 (n0 := n0) (W := W0) (J := jn J0 K) (g := g) (L := L) hee hp.2.2.2.1 h.2.2.2.2.1 h.2.2.1 h150 a3 hr0 a10 he hw (fun e2 he2 => mo_read_e (n0 := n0) (W := W0) (J := jn J0 K) (g := g) (L := L) he2 h.2.2.2.2.1 h.2.2.1 a1 h52 (by omega) hp.2.2.2.1 hcl4 hcl20 (by omega))
      rw [hmm, hK2, jn_u2r (by decide), jn_u2r (by decide)] at this
      exact this
end CO
