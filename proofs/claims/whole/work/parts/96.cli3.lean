/-! Part 96: answers to the client's requests, class and reference side by side -/
def cA (W : bw_W) (J K : bw_J) (m0 op ab wt r0 sp : Nat) : Prop := 0 < (W 27).length ∧ (W 27).getD 0 0 = Int32.ofNat m0 ∧ m0 < 256 ∧ ¬ (m0 = 27 ∨ m0 = 29) ∧ m0 % 2 = 1 ∧ rOp W J K op 0 ∧ gopP W J K op ab ∧ gopQ W J K wt ∧ (W 80).getD 0 0 = Int32.ofNat r0 ∧ r0 < 256 ∧ K 130 57 = Int32.ofNat sp ∧ sp ≤ 1
section CN
variable {n0 : Nat} {W W1 : bw_W} {J J1 K K1 : bw_J} {fr w ct nt cl op ab m0 wt r0 sp : Nat}
theorem an_mod (h : cliIn W J K fr w ct nt cl) (a : cA W J K m0 op ab wt r0 sp) : ∀ (K2 : bw_J) (W0 : bw_W) (J0 : bw_J) (g : Nat) (L : bw_L), (∀ e, 5 ≤ e → bm e (S0 n0) R0 154 [.ref 130] W0 (jn J0 K) g L (bR none W0 (jn J0 K2) g L)) → ∀ d, 6 ≤ d → bm d (S0 n0) R0 153 [.ref 130] W0 (jn J0 K) g L (bR none W0 (jn J0 K2) g L) := by
  intro K2 W0 J0 g L hA d hd
  obtain ⟨a1, a2, a3, a4, a5, ⟨p1, p2, p3, p4, p5, p6, p7⟩, a7, a8, a9, a10, a11, a12⟩ := a
  have h150 := cin150 h a1
  rw [a2] at h150
  exact mo_ch_a hd h.2.2.2.2.1 h.2.2.1 a1 h150 a3 a5 (fun z => a4 (Or.inl z)) (fun z => a4 (Or.inr z)) p4 p1 p2 p7 hA
theorem rCli_ok (hB : rCliB W J K nt cl) (hp : rOp W J K op 0) (g1 : J 67 9 = 0) : rCli W (am_u2 J 67 8 1) (am_u2 (am_u2 K 130 47 (Int32.ofNat 1)) 130 48 (Int32.ofNat 0)) nt cl := by
  obtain ⟨hN, b1, b2, b3, b4, b5, b6, b7, b8, b9, b10⟩ := hB
  obtain ⟨p1, p2, p3, p4, p5, p6, p7⟩ := hp
  exact ⟨⟨rNote_fr hN rfl (fun _ _ _ => rfl) rfl rfl rfl, b1, b2, b3, b4, b5, b6, b7, b8, g1, b10⟩, Or.inr ⟨op, 1, ⟨p1, p2, by decide, p4, p5, rfl, rfl⟩, fun z => absurd z (by decide)⟩⟩
theorem rCli_no {c : Nat} (hB : rCliB W J K nt cl) (hp : rOp W J K op 0) : rCli W (am_u2 (am_u2 J 67 8 2) 67 9 (Int32.ofNat c)) (am_u2 (am_u2 K 130 47 (Int32.ofNat 2)) 130 48 (Int32.ofNat c)) nt cl := by
  obtain ⟨hN, b1, b2, b3, b4, b5, b6, b7, b8, b9, b10⟩ := hB
  obtain ⟨p1, p2, p3, p4, p5, p6, p7⟩ := hp
  exact ⟨⟨rNote_fr hN rfl (fun _ _ _ => rfl) rfl rfl rfl, b1, b2, b3, b4, b5, b6, b7, b8, rfl, b10⟩, Or.inr ⟨op, 2, ⟨p1, p2, by decide, p4, p5, rfl, rfl⟩, fun z => absurd z (by decide)⟩⟩
theorem rCliB_d {f : List Int32} {F : Nat → Int32} (hB : rCliB W J K nt cl) (hl : f.length ≤ 20) (he : eqL f F 0) : rCliB (am_u1 W 78 f) J (am_u2 (am_u1 K 162 F) 130 52 (Int32.ofNat f.length)) nt cl := by
  obtain ⟨hN, b1, b2, b3, b4, b5, b6, b7, b8, b9, b10⟩ := hB
  exact ⟨rNote_fr hN rfl (fun c c1 c2 => u1_ne _ _ (by omega)) rfl rfl rfl, b1, b2, b3, b4, b5, rfl, hl, he, b9, b10⟩
/-- ends well: how both say it -/
theorem cli_good (h : cliIn W J K fr w ct nt cl) (a : cA W J K m0 op ab wt r0 sp) {W2 : bw_W} {J2 K2 : bw_J} {cl2 : Nat} (hB : rCliB W2 J2 K2 nt cl2) (hp : rOp W2 J2 K2 op 0) (g1 : J2 67 9 = 0) (hc : ∀ (K0 : bw_J) (g : Nat) (L : bw_L) (d : Nat), 5 ≤ d → bm d (S0 n0) R0 93 [.ref 67, .ref 27, .ref 8] W (jn J K0) g L (bR none W2 (jn (am_u2 J2 67 8 1) K0) g L)) (hm : ∀ (W0 : bw_W) (J0 : bw_J) (g : Nat) (L : bw_L) (e : Nat), 5 ≤ e → bm e (S0 n0) R0 154 [.ref 130] W0 (jn J0 K) g L (bR none W0 (jn J0 (am_u2 (am_u2 K2 130 47 (Int32.ofNat 1)) 130 48 (Int32.ofNat 0))) g L)) (f1 : ∀ c, ¬ (70 ≤ c ∧ c < 86) → W2 c = W c) (f2 : ∀ c, ¬ c = 67 → J2 c = J c) (f3 : ∀ c, ¬ c = 130 → ¬ (161 ≤ c ∧ c ≤ 165) → K2 c = K c) (f4 : ∀ f, f < 44 → K2 130 f = K 130 f) : cliEnd n0 W J K nt :=
  fin_cli h.2.1 (fun d K0 g L hd => hc K0 g L d hd) (fun d W0 J0 g L hd => an_mod h a _ W0 J0 g L (fun e he => hm W0 J0 g L e he) d hd) (rCli_ok hB hp g1) f1 (fun c hc => by rw [u2_a _ _ hc]; exact f2 c hc) (fun c c1 c2 => by rw [u2_a _ _ c1, u2_a _ _ c1]; exact f3 c c1 c2) (fun f hf => by rw [u2_k _ _ (by omega), u2_k _ _ (by omega)]; exact f4 f hf)
/-- fails -/
theorem cli_bad {c : Nat} (h : cliIn W J K fr w ct nt cl) (a : cA W J K m0 op ab wt r0 sp) (hc : ∀ (K0 : bw_J) (g : Nat) (L : bw_L) (e : Nat), 3 ≤ e → bm e (S0 n0) R0 96 [.ref 67, .ref 27] W (jn J K0) g L (bR (some (.int 1)) W (am_u2 (am_u2 (jn J K0) 67 8 2) 67 9 (Int32.ofNat c)) g L)) (hm : ∀ (W0 : bw_W) (J0 : bw_J) (g : Nat) (L : bw_L) (e : Nat), 5 ≤ e → bm e (S0 n0) R0 154 [.ref 130] W0 (jn J0 K) g L (bR none W0 (am_u2 (am_u2 (jn J0 K) 130 47 (Int32.ofNat 2)) 130 48 (Int32.ofNat c)) g L)) : cliEnd n0 W J K nt := by
  have hs : J 67 8 = 0 := a.2.2.2.2.2.1.2.2.2.2.2.1
  refine fin_cli h.2.1 (fun d K0 g L hd => cl_lis_end hd a.2.1 a.2.2.1 a.2.2.2.1 a.2.2.2.2.1 hs (fun e he => ?_)) (fun d W0 J0 g L hd => an_mod h a _ W0 J0 g L (fun e he => ?_) d hd) (rCli_no (c := c) h.1.1 a.2.2.2.2.2.1) (fun _ _ => rfl) (fun c hc => by rw [u2_a _ _ hc, u2_a _ _ hc]) (fun c c1 c2 => by rw [u2_a _ _ c1, u2_a _ _ c1]) (fun f hf => by rw [u2_k _ _ (by omega), u2_k _ _ (by omega)])
  · have := hc K0 g L e he
    rw [jn_u2l (by decide), jn_u2l (by decide)] at this
    exact this
  · have := hm W0 J0 g L e he
    rw [jn_u2r (by decide), jn_u2r (by decide)] at this
    exact this
theorem an_raw (h : cliIn W J K fr w ct nt cl) (a : cA W J K m0 7 ab wt r0 sp) : cliEnd n0 W J K nt := by
  have a' := a
  obtain ⟨a1, a2, a3, a4, a5, hp, hg, a8, a9, a10, a11, a12⟩ := a
  have hF : W 78 = [] := hg.2.2.2.2.2.2.2.2.1 (Or.inr rfl)
  have hls : lst (K 150) 0 (W 27).length = W 27 := eqL_all h.2.2.2.2.2.1 rfl
  refine cli_good (W2 := am_u1 W 78 (W 27)) (J2 := J) (K2 := am_u2 (am_u1 K 162 (ovw 0 (W 27) (K 162))) 130 52 (Int32.ofNat (W 27).length)) (cl2 := cl) h a' (rCliB_d h.1.1 h.2.2.1 (eqL_ovw _ _ _)) hp hg.1 (fun K0 g L d hd => ?_) (fun W0 J0 g L e he => ?_) (fun c hc => u1_ne _ _ (by omega)) (fun _ _ => rfl) (fun c c1 c2 => by rw [u2_a _ _ c1, u1_ne _ _ (by omega)]) (fun f hf => by rw [u2_k _ _ (by omega), u1_ne _ _ (by decide)])
  · refine cl_lis_end hd a2 a3 a4 a5 hp.2.2.2.2.2.1 (fun e he => ?_)
    have := cl_ends_raw (n0 := n0) (W := W) (J := jn J K0) (g := g) (L := L) he hp.2.2.2.2.1 hF
    rw [jn_u2l (by decide)] at this
    exact this
  · have := mo_an_7 (n0 := n0) (W := W0) (J := jn J0 K) (g := g) (L := L) he hp.2.2.2.1 h.2.2.2.2.1 h.2.2.1
    rw [jn_ge (c := 150) (by decide), jn_ge (c := 162) (by decide), hls, jn_u1r (by decide), jn_u2r (by decide), jn_u2r (by decide), jn_u2r (by decide)] at this
    exact this
theorem an_back (h : cliIn W J K fr w ct nt cl) (a : cA W J K m0 6 ab wt r0 1) : cliEnd n0 W J K nt := by
  have a' := a
  obtain ⟨a1, a2, a3, a4, a5, hp, hg, a8, a9, a10, a11, a12⟩ := a
  have hb : J 67 12 = Int32.ofNat 1 := by rw [hg.2.2.2.2.2.2.2.1, if_pos rfl]; exact a11
  refine cli_bad (c := 14) h a' (fun K0 g L e he => cl_ends_back (op := 5) he hp.2.2.2.2.1 (by decide) (fun z => ?_)) (fun W0 J0 g L e he => mo_an_6s he hp.2.2.2.1 a11 (fun e2 he2 => mo_wr_s he2 a11))
  have z2 : J 67 12 = 0 := z
  rw [hb] at z2
  exact absurd z2 (by decide)
/-- nothing is taken back: what both look at first -/
theorem an_12 (a : cA W J K m0 op ab wt r0 sp) (hs : op = 6 → sp = 0) : J 67 12 = 0 := by
  obtain ⟨a1, a2, a3, a4, a5, hp, hg, a8, a9, a10, a11, a12⟩ := a
  rw [hg.2.2.2.2.2.2.2.1]
  by_cases h6 : op = 6
  · rw [if_pos h6, a11, hs h6]; rfl
  · rw [if_neg h6]
theorem an_err (h : cliIn W J K fr w ct nt cl) (a : cA W J K m0 op ab wt r0 sp) (h7 : op ≤ 6) (hs : op = 6 → sp = 0) (he : m0 = 1 ∧ (W 27).length = 4) : cliEnd n0 W J K nt := by
  have a' := a
  have h12 := an_12 a hs
  have h150 := cin150 h a.1
  rw [a.2.1] at h150
  have h153 := cin150 h (show 3 < (W 27).length by omega)
  obtain ⟨b3, hb32, hb3⟩ := byl_n h.2.2.2.1 3
  rw [hb3] at h153
  obtain ⟨a1, a2, a3, a4, a5, hp, hg, a8, a9, a10, a11, a12⟩ := a
  obtain ⟨rfl, hl4⟩ := he
  have hn4 : K 130 27 = Int32.ofNat 4 := by rw [h.2.2.2.2.1, hl4]
  have hce := fun (K0 : bw_J) (g : Nat) (L : bw_L) (e : Nat) (he : 3 ≤ e) => cl_ends_err (n0 := n0) (W := W) (J := jn J K0) (g := g) (L := L) (op := op - 1) he hp.2.2.2.2.1 (by omega) h12 a2 hl4 hb3 hb32
  by_cases hx : op = 4 ∧ b3 = 10
  · simp only [if_pos (show op - 1 = 3 ∧ b3 = 10 by omega)] at hce
    refine cli_good (W2 := W) (J2 := J) (K2 := K) (cl2 := cl) h a' h.1.1 hp hg.1 (fun K0 g L d hd => cl_lis_end hd a2 a3 a4 a5 hp.2.2.2.2.2.1 (fun e he => ?_)) (fun W0 J0 g L e he => ?_) (fun _ _ => rfl) (fun _ _ => rfl) (fun _ _ _ => rfl) (fun _ _ => rfl)
    · have := hce K0 g L e he
      rw [jn_u2l (by decide)] at this
      exact this
    · have := mo_an_f (n0 := n0) (W := W0) (J := jn J0 K) (g := g) (L := L) he hp.2.2.2.1 h7 a11 hs a12 h150 hn4 h153 hb32 hx.1 hx.2
      rw [jn_u2r (by decide), jn_u2r (by decide)] at this
      exact this
  · simp only [if_neg (show ¬ (op - 1 = 3 ∧ b3 = 10) from fun z => hx ⟨by have := hp.1; omega, z.2⟩)] at hce
    exact cli_bad (c := b3) h a' hce (fun W0 J0 g L e he => mo_an_x (n0 := n0) (W := W0) (J := jn J0 K) (g := g) (L := L) he hp.2.2.2.1 h7 a11 hs a12 h150 hn4 h153 hb32 hx)
theorem an_r0 (a : cA W J K m0 op ab wt r0 sp) : K 161 0 = Int32.ofNat r0 := by
  obtain ⟨a1, a2, a3, a4, a5, hp, hg, a8, a9, a10, a11, a12⟩ := a
  rw [eqL_z a8.2.2.2.2 hg.2.2.2.2.1]; exact a9
theorem an_wrong (h : cliIn W J K fr w ct nt cl) (a : cA W J K m0 op ab wt r0 sp) (h7 : op ≤ 6) (hs : op = 6 → sp = 0) (he : ¬ (m0 = 1 ∧ (W 27).length = 4)) (hw : ¬ m0 = r0 + 1) : cliEnd n0 W J K nt := by
  have a' := a
  have h12 := an_12 a hs
  have hr0 := an_r0 a
  have h150 := cin150 h a.1
  rw [a.2.1] at h150
  obtain ⟨a1, a2, a3, a4, a5, hp, hg, a8, a9, a10, a11, a12⟩ := a
  exact cli_bad (c := 14) h a' (fun K0 g L e hee => cl_ends_bad (op := op - 1) hee hp.2.2.2.2.1 (by omega) h12 a2 a3 a9 a10 he (Or.inl hw)) (fun W0 J0 g L e hee => mo_an_w (n0 := n0) (W := W0) (J := jn J0 K) (g := g) (L := L) hee hp.2.2.2.1 h7 a11 hs a12 h.2.2.2.2.1 h.2.2.1 h150 a3 hr0 a10 he hw)
/-- the answer fits: what both do next -/
theorem an_no (h : cliIn W J K fr w ct nt cl) (a : cA W J K m0 op ab wt r0 sp) (h7 : op ≤ 6) (hs : op = 6 → sp = 0) (he : ¬ (m0 = 1 ∧ (W 27).length = 4)) (hw : m0 = r0 + 1) (hl : (if op - 1 = 0 ∨ op - 1 = 3 then 2 else 1) ≤ (W 27).length) : ∀ (K0 : bw_J) (g : Nat) (L : bw_L) (e : Nat), 3 ≤ e → bm e (S0 n0) R0 96 [.ref 67, .ref 27] W (jn J K0) g L (bR (some (.int 0)) W (jn J K0) g L) := by
  intro K0 g L e hee
  have h12 := an_12 a hs
  obtain ⟨a1, a2, a3, a4, a5, hp, hg, a8, a9, a10, a11, a12⟩ := a
  exact cl_ends_no (op := op - 1) hee hp.2.2.2.2.1 (by omega) h12 a2 a3 a9 a10 he hp.2.2.2.2.2.1 hw hl
end CN
