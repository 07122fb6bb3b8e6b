/-! Part 97 (written by gen66.py): the channel, and the end of an event -/
def rChs (J K : bw_J) : Prop := ∃ st hp uo, J 2 4 = Int32.ofNat st ∧ K 130 4 = Int32.ofNat st ∧ st < 37 ∧ J 2 0 = Int32.ofNat hp ∧ K 130 1 = Int32.ofNat hp ∧ hp ≤ 16 ∧ J 2 3 = Int32.ofNat uo ∧ K 130 3 = Int32.ofNat uo ∧ 1 ≤ uo ∧ uo ≤ 37 ∧ (∀ k, k < 37 → (J 4 k = 0 ↔ K 131 k = 0)) ∧ ∀ i, i < uo → ∃ c, c < 37 ∧ J 3 i = Int32.ofNat c ∧ ¬ K 131 c = 0 ∧ cnt (K 131) c = i
theorem rChs_fr {J J' K K' : bw_J} (h : rChs J K) (a2 : J' 2 = J 2) (a3 : J' 3 = J 3) (a4 : J' 4 = J 4) (b : K' 131 = K 131) (c : ∀ f, f = 1 ∨ f = 3 ∨ f = 4 → K' 130 f = K 130 f) : rChs J' K' := by
  unfold rChs at h ⊢
  rw [a2, a3, a4, b, c 1 (by decide), c 3 (by decide), c 4 (by decide)]
  exact h
section E3
variable {n0 : Nat} {T : Nat} {W : bw_W} {J K : bw_J}
theorem chs_sim (h : rChs J K) : ∃ (ch : Nat) (J' K' : bw_J), ch < 37 ∧ (∀ (d : Nat) (W : bw_W) (K0 : bw_J) (g : Nat) (L : bw_L), 1 ≤ d → bm d (S0 n0) R0 62 [.ref 2] W (jn J K0) g L (bR (some (.int (Int32.ofNat ch))) W (jn J' K0) g L)) ∧ (∀ (d : Nat) (W0 : bw_W) (J0 : bw_J) (g : Nat) (L : bw_L), 1 ≤ d → bm d (S0 n0) R0 145 [.ref 130] W0 (jn J0 K) g L (bR none W0 (jn J0 K') g L)) ∧ K' 130 5 = Int32.ofNat ch ∧ rChs J' K' ∧ (∀ c, ¬ c = 2 → J' c = J c) ∧ (∀ c, ¬ c = 130 → K' c = K c) ∧ (∀ f, ¬ f = 4 → ¬ f = 5 → K' 130 f = K 130 f) := by
  obtain ⟨st, hp, uo, h1, h2, h3, h4, h5, h6, h7, h8, h9, h10, h11, h12⟩ := h
  have hs37 : (st + hp) % 37 < 37 := Nat.mod_lt _ (by decide)
  by_cases hu : K 131 ((st + hp) % 37) = 0
  · have huc : J 4 ((st + hp) % 37) = 0 := (h11 _ hs37).mpr hu
    obtain ⟨c, c1, c2, c3, c4⟩ := h12 ((st + hp) % 37 % uo) (Nat.mod_lt _ (by omega))
    refine ⟨c, am_u2 J 2 4 (Int32.ofNat ((st + hp) % 37)), am_u2 (am_u2 (am_u2 K 130 4 (Int32.ofNat ((st + hp) % 37))) 130 5 (Int32.ofNat ((st + hp) % 37))) 130 5 (Int32.ofNat c), c1, fun d W K0 g L hd => ?_, fun d W0 J0 g L hd => ?_, u2_at _ _ _ _, ⟨(st + hp) % 37, hp, uo, u2_at _ _ _ _, ?_, hs37, ?_, ?_, h6, ?_, ?_, h9, h10, h11, h12⟩, fun q hq => u2_a _ _ hq, fun q hq => by rw [u2_a _ _ hq, u2_a _ _ hq, u2_a _ _ hq], fun f f1 f2 => by rw [u2_k _ _ f2, u2_k _ _ f2, u2_k _ _ f1]⟩
    · have := ch_adv0 (n0 := n0) (W := W) (J := jn J K0) (g := g) (L := L) hd h1 h3 h4 h6 h7 h9 h10 huc
      rw [jn_u2l (by decide), show (jn J K0) 3 ((st + hp) % 37 % uo) = Int32.ofNat c from c2] at this
      exact this
    · have := mo_choose2 (n0 := n0) (W := W0) (J := jn J0 K) (g := g) (L := L) hd h2 h3 h5 (by omega) h8 h9 h10 hu c1 c3 c4
      rw [jn_u2r (by decide), jn_u2r (by decide), jn_u2r (by decide)] at this
      exact this
    · rw [u2_k _ _ (by decide), u2_k _ _ (by decide), u2_at]
    · rw [u2_k _ _ (by decide)]; exact h4
    · rw [u2_k _ _ (by decide), u2_k _ _ (by decide), u2_k _ _ (by decide)]; exact h5
    · rw [u2_k _ _ (by decide)]; exact h7
    · rw [u2_k _ _ (by decide), u2_k _ _ (by decide), u2_k _ _ (by decide)]; exact h8
  · have huc : ¬ J 4 ((st + hp) % 37) = 0 := fun z => hu ((h11 _ hs37).mp z)
    refine ⟨(st + hp) % 37, am_u2 J 2 4 (Int32.ofNat ((st + hp) % 37)), am_u2 (am_u2 K 130 4 (Int32.ofNat ((st + hp) % 37))) 130 5 (Int32.ofNat ((st + hp) % 37)), hs37, fun d W K0 g L hd => ?_, fun d W0 J0 g L hd => ?_, u2_at _ _ _ _, ⟨(st + hp) % 37, hp, uo, u2_at _ _ _ _, ?_, hs37, ?_, ?_, h6, ?_, ?_, h9, h10, h11, h12⟩, fun q hq => u2_a _ _ hq, fun q hq => by rw [u2_a _ _ hq, u2_a _ _ hq], fun f f1 f2 => by rw [u2_k _ _ f2, u2_k _ _ f1]⟩
    · have := ch_adv1 (n0 := n0) (W := W) (J := jn J K0) (g := g) (L := L) hd h1 h3 h4 h6 h7 h9 h10 huc
      rw [jn_u2l (by decide)] at this
      exact this
    · have := mo_choose1 (n0 := n0) (W := W0) (J := jn J0 K) (g := g) (L := L) hd h2 h3 h5 (by omega) hu
      rw [jn_u2r (by decide), jn_u2r (by decide)] at this
      exact this
    · rw [u2_k _ _ (by decide), u2_at]
    · rw [u2_k _ _ (by decide)]; exact h4
    · rw [u2_k _ _ (by decide), u2_k _ _ (by decide)]; exact h5
    · rw [u2_k _ _ (by decide)]; exact h7
    · rw [u2_k _ _ (by decide), u2_k _ _ (by decide)]; exact h8
/-- what stands outside of the devices may change -/
theorem core_fr {T' : Nat} {J' K' : bw_J} (h : core T W J K) (hT : T ≤ T') (a : ∀ c, ¬ c = 0 → ¬ c = 1 → ¬ c = 2 → ¬ c = 3 → ¬ c = 4 → ¬ c = 6 → ¬ c = 7 → ¬ c = 37 → J' c = J c) (a7 : ∀ f, ¬ f = 9 → J' 7 f = J 7 f) (a37 : ∀ f, ¬ f = 9 → J' 37 f = J 37 f) (b : ∀ c, ¬ c = 130 → ¬ c = 131 → ¬ c = 132 → ¬ c = 135 → K' c = K c) (c : ∀ f, 30 < f → K' 130 f = K 130 f) : core T' W J' K' := by
  obtain ⟨⟨fr, w, ct, c1⟩, c2, ⟨tu, nx, c3⟩, c4, c5, ⟨fr2, w2, ct2, d1⟩, d2, ⟨tu2, nx2, d3⟩, d4, d5, ⟨cn, pn, sl, s1⟩, nt, cl, l1, l2⟩ := h
  have aj := fun c (hc : 7 < c ∧ ¬ c = 37) => a c (by omega) (by omega) (by omega) (by omega) (by omega) (by omega) (by omega) hc.2
  have bk := fun c (hc : 135 < c) => b c (by omega) (by omega) (by omega) (by omega)
  refine ⟨⟨fr, w, ct, rOut_fc c1 (aj 8 (by decide)) (fun _ _ => rfl) (fun q q1 _ => bk q (by omega))⟩, ?_, ⟨tu, nx, rNum_fr c3 (a7 7 (by decide)) (a7 8 (by decide)) (by rw [b 133 (by decide) (by decide) (by decide) (by decide)]) (by rw [b 134 (by decide) (by decide) (by decide) (by decide)])⟩, rAir_fc c4 rfl (fun q q1 _ => bk q (by omega)), rIn_fc c5 (aj 26 (by decide)) rfl (fun q q1 _ => bk q (by omega)), ⟨fr2, w2, ct2, rOut_fc d1 (aj 38 (by decide)) (fun _ _ => rfl) (fun q q1 _ => bk q (by omega))⟩, ?_, ⟨tu2, nx2, rNum_fr d3 (a37 7 (by decide)) (a37 8 (by decide)) (by rw [b 133 (by decide) (by decide) (by decide) (by decide)]) (by rw [b 134 (by decide) (by decide) (by decide) (by decide)])⟩, rAir_fc d4 rfl (fun q q1 _ => bk q (by omega)), rIn_fc d5 (aj 56 (by decide)) rfl (fun q q1 _ => bk q (by omega)), ⟨cn, pn, sl, rSrv_fr s1 (fun q q1 q2 => aj q (by omega)) (fun _ _ _ => rfl) (fun q q1 _ _ => bk q (by omega)) (fun f hf => c f (by omega))⟩, nt, cl, rCli_fr l1 (aj 67 (by decide)) (aj 68 (by decide)) (fun _ _ _ => rfl) (fun q q1 _ => bk q (by omega)) (fun f hf => c f (by omega)), by omega⟩
  · unfold rHold at c2 ⊢
    rw [a7 5 (by decide), a7 6 (by decide), bk 136 (by decide), bk 137 (by decide), bk 138 (by decide), bk 139 (by decide)]; exact c2
  · unfold rHold at d2 ⊢
    rw [a37 5 (by decide), a37 6 (by decide), bk 136 (by decide), bk 137 (by decide), bk 138 (by decide), bk 139 (by decide)]; exact d2
/-- the client's clock -/
theorem clock_sim {dn : Nat} (hd : dn ≤ 1) {nt cl : Nat} (h : rCli W J K nt cl) : ∃ (J' K' : bw_J), (∀ (d : Nat) (K0 : bw_J) (g : Nat) (L : bw_L), 1 ≤ d → bm d (S0 n0) R0 109 [.ref 67, .int (Int32.ofNat dn)] W (jn J K0) g L (bR none W (jn J' K0) g L)) ∧ rCli W J' K' nt cl ∧ (∀ c, ¬ c = 67 → J' c = J c) ∧ (∀ c, ¬ c = 130 → K' c = K c) ∧ (∀ f, ¬ f = 47 → ¬ f = 49 → K' 130 f = K 130 f) ∧ ((K' = K ∧ ∃ op oc, K 130 45 = Int32.ofNat op ∧ op ≤ 7 ∧ K 130 47 = Int32.ofNat oc ∧ oc ≤ 4 ∧ (op = 0 ∨ ¬ oc = 0)) ∨ ∃ op wt, K 130 45 = Int32.ofNat op ∧ 1 ≤ op ∧ op ≤ 7 ∧ K 130 47 = Int32.ofNat 0 ∧ K 130 49 = Int32.ofNat wt ∧ wt < 30 ∧ K' = am_u2 (am_u2 K 130 49 (Int32.ofNat (wt + 1))) 130 47 (Int32.ofNat (if dn = 1 then 4 else if wt + 1 = 30 then 3 else 0))) := by
  rcases h.2 with ⟨e1, e2, e3⟩ | ⟨op, oc, hp, hgo⟩
  · exact ⟨J, K, fun d K0 g L hd => cl_endEvent0 hd (fun z => by rw [show (jn J K0) 67 8 = J 67 8 from rfl, e1] at z; exact absurd z (by decide)), h, fun _ _ => rfl, fun _ _ => rfl, fun _ _ _ => rfl, Or.inl ⟨rfl, 0, 1, e2, by decide, e3, by decide, Or.inl rfl⟩⟩
  · by_cases hoc : oc = 0
    · subst hoc
      obtain ⟨⟨ab, hg⟩, ⟨wt, hq⟩⟩ := hgo rfl
      obtain ⟨q1, q2, q3, q4, q5⟩ := hq
      have hoe : ∃ oe, oe = (if dn = 1 then 4 else if wt + 1 = 30 then 3 else 0) ∧ oe ≤ 4 ∧ (oe = 0 → dn = 0 ∧ wt + 1 < 30) := by
        by_cases z1 : dn = 1
        · exact ⟨4, by rw [if_pos z1], by decide, fun z => absurd z (by decide)⟩
        · by_cases z2 : wt + 1 = 30
          · exact ⟨3, by rw [if_neg z1, if_pos z2], by decide, fun z => absurd z (by decide)⟩
          · exact ⟨0, by rw [if_neg z1, if_neg z2], by decide, fun _ => ⟨by omega, by omega⟩⟩
      obtain ⟨oe, hoe, hoe4, hoe0⟩ := hoe
      refine ⟨am_u2 (am_u2 J 67 10 (Int32.ofNat (wt + 1))) 67 8 (Int32.ofNat oe), am_u2 (am_u2 K 130 49 (Int32.ofNat (wt + 1))) 130 47 (Int32.ofNat oe), fun d K0 g L hd1 => ?_, ?_, fun c hc => by rw [u2_a _ _ hc, u2_a _ _ hc], fun c hc => by rw [u2_a _ _ hc, u2_a _ _ hc], fun f f1 f2 => by rw [u2_k _ _ f1, u2_k _ _ f2], Or.inr ⟨op, wt, hp.2.2.2.1, hp.1, hp.2.1, hp.2.2.2.2.2.2, q3, q1, by rw [hoe]⟩⟩
      · have := cl_endEvent1 (n0 := n0) (W := W) (J := jn J K0) (g := g) (L := L) (b := Int32.ofNat dn) hd1 hp.2.2.2.2.2.1 q2 (by omega)
        by_cases hd0 : dn = 0
        · subst hd0
          rw [if_pos (show Int32.ofNat 0 = 0 from rfl)] at this
          by_cases hw : wt + 1 < 30
          · rw [if_pos hw, jn_u2l (by decide)] at this
            have hz : oe = 0 := by rw [hoe, if_neg (by decide), if_neg (by omega)]
            rw [hz, u2_idq (by rw [u2_k _ _ (by decide)]; exact hp.2.2.2.2.2.1)]
            exact this
          · rw [if_neg hw, jn_u2l (by decide), jn_u2l (by decide)] at this
            have hz : oe = 3 := by rw [hoe, if_neg (by decide), if_pos (by omega)]
            rw [hz]; exact this
        · have hd1' : dn = 1 := by omega
          subst hd1'
          rw [if_neg (show ¬ Int32.ofNat 1 = 0 by decide), jn_u2l (by decide), jn_u2l (by decide)] at this
          have hz : oe = 4 := by rw [hoe, if_pos rfl]
          rw [hz]; exact this
      · obtain ⟨⟨hN, b1, b2, b3, b4, b5, b6, b7, b8, b9, b10⟩, -⟩ := h
        refine ⟨⟨rNote_fr hN rfl (fun _ _ _ => rfl) rfl rfl rfl, b1, b2, b3, b4, b5, b6, b7, b8, b9, b10⟩, Or.inr ⟨op, oe, ⟨hp.1, hp.2.1, hoe4, hp.2.2.2.1, hp.2.2.2.2.1, u2_at _ _ _ _, u2_at _ _ _ _⟩, fun z => ⟨⟨ab, hg⟩, ⟨wt + 1, (hoe0 z).2, ?_, ?_, q4, q5⟩⟩⟩⟩
        · rw [u2_k _ _ (by decide), u2_at]
        · rw [u2_k _ _ (by decide), u2_at]
    · obtain ⟨p1, p2, p3, p4, p5, p6, p7⟩ := hp
      exact ⟨J, K, fun d K0 g L hd => cl_endEvent0 hd (fun z => by rw [show (jn J K0) 67 8 = J 67 8 from rfl, p6, z_eq (by omega)] at z; exact hoc z), h, fun _ _ => rfl, fun _ _ => rfl, fun _ _ _ => rfl, Or.inl ⟨rfl, op, oc, p4, p2, p7, p3, Or.inr hoc⟩⟩
theorem fin_00 {ev ms mc : Nat} (h : core T W J K) (he : J 1 6 = Int32.ofNat ev) (h1 : J 37 9 = Int32.ofNat ms) (h1' : K 135 1 = Int32.ofNat ms) (hms : ms < 6) (h0 : J 7 9 = Int32.ofNat mc) (h0' : K 135 0 = Int32.ofNat mc) (hmc : mc < 6) : ∃ (dn : Nat) (J' K' : bw_J), dn ≤ 1 ∧ (∀ (d : Nat) (K0 : bw_J) (g : Nat) (L : bw_L), 2 ≤ d → bm d (S0 n0) R0 107 [.ref 1, .int (Int32.ofNat 0), .int (Int32.ofNat 0)] W (jn J K0) g L (bR none W (jn J' K0) g L)) ∧ (∀ (e : Nat) (W0 : bw_W) (J0 : bw_J) (g : Nat) (L : bw_L), 1 ≤ e → bT e (S0 n0) R0 mt_Mo_happen (bR (some (.int (Int32.ofNat 0))) W0 (jn J0 K') g L) 114 [(0, .ref 130), (6, .int (Int32.ofNat 0)), (7, .int (Int32.ofNat 0))] [] W0 (jn J0 (am_u2 (am_u2 K 135 1 (Int32.ofNat (ms + 1))) 135 0 (Int32.ofNat (mc + 1)))) g L 0 0) ∧ core T W J' K' ∧ J' 1 6 = Int32.ofNat (ev + 1) ∧ J' 1 8 = Int32.ofNat dn ∧ J' 1 7 = J 1 7 ∧ J' 37 9 = Int32.ofNat (ms + 1) ∧ J' 7 9 = Int32.ofNat (mc + 1) ∧ (dn = 0 → ms + 1 < 6 ∧ mc + 1 < 6) ∧ K' 130 7 = Int32.ofNat dn ∧ K' 135 0 = Int32.ofNat (mc + 1) ∧ K' 135 1 = Int32.ofNat (ms + 1) ∧ J' 0 = J 0 ∧ J' 2 = J 2 ∧ J' 3 = J 3 ∧ J' 4 = J 4 ∧ K' 131 = K 131 ∧ ∀ f, f ≤ 6 → K' 130 f = K 130 f := by
  have hdn : ∃ dn, dn = (if mc + 1 = 6 ∨ ms + 1 = 6 then 1 else 0) ∧ dn ≤ 1 := ⟨_, rfl, by split <;> decide⟩
  obtain ⟨dn, hdn, hdn1⟩ := hdn
  have hdn0 : dn = 0 → ms + 1 < 6 ∧ mc + 1 < 6 := fun z => by
    rw [hdn] at z
    by_cases q : mc + 1 = 6 ∨ ms + 1 = 6
    · rw [if_pos q] at z; exact absurd z (by decide)
    · omega
  have hc0 : core T W (am_u2 (am_u2 (am_u2 (am_u2 J 1 6 (Int32.ofNat (ev + 1))) 37 9 (Int32.ofNat (ms + 1))) 7 9 (Int32.ofNat (mc + 1))) 1 8 (Int32.ofNat dn)) (am_u2 (am_u2 (am_u2 K 135 1 (Int32.ofNat (ms + 1))) 135 0 (Int32.ofNat (mc + 1))) 130 7 (Int32.ofNat dn)) := core_fr h (Nat.le_refl _) (fun c _ c1 _ _ _ _ c7 c37 => by rw [u2_a _ _ c1, u2_a _ _ c7, u2_a _ _ c37, u2_a _ _ c1]) (fun f hf => by rw [u2_a _ _ (by decide), u2_k _ _ hf, u2_a _ _ (by decide), u2_a _ _ (by decide)]) (fun f hf => by rw [u2_a _ _ (by decide), u2_a _ _ (by decide), u2_k _ _ hf, u2_a _ _ (by decide)]) (fun c c0 _ _ c5 => by rw [u2_a _ _ c0, u2_a _ _ c5, u2_a _ _ c5]) (fun f hf => by rw [u2_k _ _ (by omega), u2_a _ _ (by decide), u2_a _ _ (by decide)])
  obtain ⟨x1, x2, x3, x4, x5, x6, x7, x8, x9, x10, x11, nt, cl, l1, l2⟩ := hc0
  obtain ⟨J', K', e1, e2, e3, e4, e5, e6⟩ := clock_sim (n0 := n0) (dn := dn) hdn1 l1
  have hgen : ∀ (J1 K1 : bw_J), J1 = (am_u2 (am_u2 (am_u2 (am_u2 J 1 6 (Int32.ofNat (ev + 1))) 37 9 (Int32.ofNat (ms + 1))) 7 9 (Int32.ofNat (mc + 1))) 1 8 (Int32.ofNat dn)) → K1 = (am_u2 (am_u2 (am_u2 K 135 1 (Int32.ofNat (ms + 1))) 135 0 (Int32.ofNat (mc + 1))) 130 7 (Int32.ofNat dn)) → True := fun _ _ _ _ => trivial
  refine ⟨dn, J', K', hdn1, fun d K0 g L hd => ?_, fun e W0 J0 g L he2 => ?_, ?_, ?_, ?_, ?_, ?_, ?_, hdn0, ?_, ?_, ?_, ?_, ?_, ?_, ?_, ?_, ?_⟩
  · refine al_finish (n0 := n0) (W := W) (J := jn J K0) (g := g) (L := L) (sg := Int32.ofNat 0) (cg := Int32.ofNat 0) (dn := Int32.ofNat dn) (ev := ev) (ms := ms) (mc := mc) hd he h1 (by omega) h0 (by omega) ?_ (fun e he2 => ?_)
    · rw [show (if Int32.ofNat 0 = 0 then ms + 1 else 0) = ms + 1 from if_pos rfl, show (if Int32.ofNat 0 = 0 then mc + 1 else 0) = mc + 1 from if_pos rfl, hdn]
      by_cases q : mc + 1 = 6 ∨ ms + 1 = 6
      · rw [if_pos q, if_pos (by omega)]; rfl
      · rw [if_neg q, if_neg (by omega)]; rfl
    · rw [show (if Int32.ofNat 0 = 0 then ms + 1 else 0) = ms + 1 from if_pos rfl, show (if Int32.ofNat 0 = 0 then mc + 1 else 0) = mc + 1 from if_pos rfl, jn_u2l (by decide), jn_u2l (by decide), jn_u2l (by decide), jn_u2l (by decide)]
      exact e1 e K0 g L he2
  · rcases e6 with ⟨rfl, op, oc, y1, y2, y3, y4, y5⟩ | ⟨op, wt, y1, y2, y3, y4, y5, y6, rfl⟩
    · have := hp_i0 (n0 := n0) (W := W0) (J := jn J0 (am_u2 (am_u2 K 135 1 (Int32.ofNat (ms + 1))) 135 0 (Int32.ofNat (mc + 1)))) (g := g) (L := L) (e := e) (m0 := mc + 1) (m1 := ms + 1) (dn := dn) (by rw [jn_ge (by decide), u2_at]) (by omega) (by rw [jn_ge (by decide), u2_k _ _ (by decide), u2_at]) (by omega) hdn (op := op) (oc := oc) y1 y2 y3 y4 y5
      rw [jn_u2r (by decide)] at this
      exact this
    · have := hp_b0 (n0 := n0) (W := W0) (J := jn J0 (am_u2 (am_u2 K 135 1 (Int32.ofNat (ms + 1))) 135 0 (Int32.ofNat (mc + 1)))) (g := g) (L := L) (e := e) (m0 := mc + 1) (m1 := ms + 1) (dn := dn) (by rw [jn_ge (by decide), u2_at]) (by omega) (by rw [jn_ge (by decide), u2_k _ _ (by decide), u2_at]) (by omega) hdn (op := op) (wt := wt) y1 y2 y3 y4 y5 (by omega) rfl
      rw [jn_u2r (by decide), jn_u2r (by decide), jn_u2r (by decide)] at this
      exact this
  · obtain ⟨fr, w, ct, c1⟩ := x1
    obtain ⟨tu, nx, c3⟩ := x3
    obtain ⟨fr2, w2, ct2, d1⟩ := x6
    obtain ⟨tu2, nx2, d3⟩ := x8
    obtain ⟨cn, pn, sl, s1⟩ := x11
    have ej := fun c (hc : ¬ c = 67) => e3 c hc
    have ek := fun c (hc : ¬ c = 130) => e4 c hc
    exact ⟨⟨fr, w, ct, rOut_fc c1 (ej 8 (by decide)) (fun _ _ => rfl) (fun q q1 _ => ek q (by omega))⟩, rHold_fc x2 (ej 7 (by decide)) rfl (fun q q1 _ => ek q (by omega)), ⟨tu, nx, rNum_fr c3 (by rw [ej 7 (by decide)]) (by rw [ej 7 (by decide)]) (by rw [ek 133 (by decide)]) (by rw [ek 134 (by decide)])⟩, rAir_fc x4 rfl (fun q q1 _ => ek q (by omega)), rIn_fc x5 (ej 26 (by decide)) rfl (fun q q1 _ => ek q (by omega)), ⟨fr2, w2, ct2, rOut_fc d1 (ej 38 (by decide)) (fun _ _ => rfl) (fun q q1 _ => ek q (by omega))⟩, rHold_fc x7 (ej 37 (by decide)) rfl (fun q q1 _ => ek q (by omega)), ⟨tu2, nx2, rNum_fr d3 (by rw [ej 37 (by decide)]) (by rw [ej 37 (by decide)]) (by rw [ek 133 (by decide)]) (by rw [ek 134 (by decide)])⟩, rAir_fc x9 rfl (fun q q1 _ => ek q (by omega)), rIn_fc x10 (ej 56 (by decide)) rfl (fun q q1 _ => ek q (by omega)), ⟨cn, pn, sl, rSrv_fr s1 (fun q q1 q2 => ej q (by omega)) (fun _ _ _ => rfl) (fun q q1 _ _ => ek q (by omega)) (fun f hf => e5 f (by omega) (by omega))⟩, nt, cl, e2, l2⟩
  · rw [e3 1 (by decide), u2_k _ _ (by decide), u2_a _ _ (by decide), u2_a _ _ (by decide), u2_at]
  · rw [e3 1 (by decide), u2_at]
  · rw [e3 1 (by decide), u2_k _ _ (by decide), u2_a _ _ (by decide), u2_a _ _ (by decide), u2_k _ _ (by decide)]
  · rw [e3 37 (by decide), u2_a _ _ (by decide), u2_a _ _ (by decide), u2_at]
  · rw [e3 7 (by decide), u2_a _ _ (by decide), u2_at]
  · rw [e5 7 (by decide) (by decide), u2_at]
  · rw [e4 135 (by decide), u2_a _ _ (by decide), u2_at]
  · rw [e4 135 (by decide), u2_a _ _ (by decide), u2_k _ _ (by decide), u2_at]
  · rw [e3 0 (by decide)]; rfl
  · rw [e3 2 (by decide)]; rfl
  · rw [e3 3 (by decide)]; rfl
  · rw [e3 4 (by decide)]; rfl
  · rw [e4 131 (by decide)]; rfl
  · intro f hf
    rw [e5 f (by omega) (by omega), u2_k _ _ (by omega), u2_a _ _ (by decide), u2_a _ _ (by decide)]
theorem fin_10 {ev ms mc : Nat} (h : core T W J K) (he : J 1 6 = Int32.ofNat ev) (h1 : J 37 9 = Int32.ofNat ms) (h1' : K 135 1 = Int32.ofNat ms) (hms : ms < 6) (h0 : J 7 9 = Int32.ofNat mc) (h0' : K 135 0 = Int32.ofNat mc) (hmc : mc < 6) : ∃ (dn : Nat) (J' K' : bw_J), dn ≤ 1 ∧ (∀ (d : Nat) (K0 : bw_J) (g : Nat) (L : bw_L), 2 ≤ d → bm d (S0 n0) R0 107 [.ref 1, .int (Int32.ofNat 1), .int (Int32.ofNat 0)] W (jn J K0) g L (bR none W (jn J' K0) g L)) ∧ (∀ (e : Nat) (W0 : bw_W) (J0 : bw_J) (g : Nat) (L : bw_L), 1 ≤ e → bT e (S0 n0) R0 mt_Mo_happen (bR (some (.int (Int32.ofNat 1))) W0 (jn J0 K') g L) 114 [(0, .ref 130), (6, .int (Int32.ofNat 1)), (7, .int (Int32.ofNat 0))] [] W0 (jn J0 (am_u2 (am_u2 K 135 1 (Int32.ofNat (0))) 135 0 (Int32.ofNat (mc + 1)))) g L 0 0) ∧ core T W J' K' ∧ J' 1 6 = Int32.ofNat (ev + 1) ∧ J' 1 8 = Int32.ofNat dn ∧ J' 1 7 = J 1 7 ∧ J' 37 9 = Int32.ofNat (0) ∧ J' 7 9 = Int32.ofNat (mc + 1) ∧ (dn = 0 → 0 < 6 ∧ mc + 1 < 6) ∧ K' 130 7 = Int32.ofNat dn ∧ K' 135 0 = Int32.ofNat (mc + 1) ∧ K' 135 1 = Int32.ofNat (0) ∧ J' 0 = J 0 ∧ J' 2 = J 2 ∧ J' 3 = J 3 ∧ J' 4 = J 4 ∧ K' 131 = K 131 ∧ ∀ f, f ≤ 6 → K' 130 f = K 130 f := by
  have hdn : ∃ dn, dn = (if mc + 1 = 6 ∨ 0 = 6 then 1 else 0) ∧ dn ≤ 1 := ⟨_, rfl, by split <;> decide⟩
  obtain ⟨dn, hdn, hdn1⟩ := hdn
  have hdn0 : dn = 0 → 0 < 6 ∧ mc + 1 < 6 := fun z => by
    rw [hdn] at z
    by_cases q : mc + 1 = 6 ∨ 0 = 6
    · rw [if_pos q] at z; exact absurd z (by decide)
    · omega
  have hc0 : core T W (am_u2 (am_u2 (am_u2 (am_u2 J 1 6 (Int32.ofNat (ev + 1))) 37 9 (Int32.ofNat (0))) 7 9 (Int32.ofNat (mc + 1))) 1 8 (Int32.ofNat dn)) (am_u2 (am_u2 (am_u2 K 135 1 (Int32.ofNat (0))) 135 0 (Int32.ofNat (mc + 1))) 130 7 (Int32.ofNat dn)) := core_fr h (Nat.le_refl _) (fun c _ c1 _ _ _ _ c7 c37 => by rw [u2_a _ _ c1, u2_a _ _ c7, u2_a _ _ c37, u2_a _ _ c1]) (fun f hf => by rw [u2_a _ _ (by decide), u2_k _ _ hf, u2_a _ _ (by decide), u2_a _ _ (by decide)]) (fun f hf => by rw [u2_a _ _ (by decide), u2_a _ _ (by decide), u2_k _ _ hf, u2_a _ _ (by decide)]) (fun c c0 _ _ c5 => by rw [u2_a _ _ c0, u2_a _ _ c5, u2_a _ _ c5]) (fun f hf => by rw [u2_k _ _ (by omega), u2_a _ _ (by decide), u2_a _ _ (by decide)])
  obtain ⟨x1, x2, x3, x4, x5, x6, x7, x8, x9, x10, x11, nt, cl, l1, l2⟩ := hc0
  obtain ⟨J', K', e1, e2, e3, e4, e5, e6⟩ := clock_sim (n0 := n0) (dn := dn) hdn1 l1
  have hgen : ∀ (J1 K1 : bw_J), J1 = (am_u2 (am_u2 (am_u2 (am_u2 J 1 6 (Int32.ofNat (ev + 1))) 37 9 (Int32.ofNat (0))) 7 9 (Int32.ofNat (mc + 1))) 1 8 (Int32.ofNat dn)) → K1 = (am_u2 (am_u2 (am_u2 K 135 1 (Int32.ofNat (0))) 135 0 (Int32.ofNat (mc + 1))) 130 7 (Int32.ofNat dn)) → True := fun _ _ _ _ => trivial
  refine ⟨dn, J', K', hdn1, fun d K0 g L hd => ?_, fun e W0 J0 g L he2 => ?_, ?_, ?_, ?_, ?_, ?_, ?_, hdn0, ?_, ?_, ?_, ?_, ?_, ?_, ?_, ?_, ?_⟩
  · refine al_finish (n0 := n0) (W := W) (J := jn J K0) (g := g) (L := L) (sg := Int32.ofNat 1) (cg := Int32.ofNat 0) (dn := Int32.ofNat dn) (ev := ev) (ms := ms) (mc := mc) hd he h1 (by omega) h0 (by omega) ?_ (fun e he2 => ?_)
    · rw [show (if Int32.ofNat 1 = 0 then ms + 1 else 0) = 0 from if_neg (by decide), show (if Int32.ofNat 0 = 0 then mc + 1 else 0) = mc + 1 from if_pos rfl, hdn]
      by_cases q : mc + 1 = 6 ∨ 0 = 6
      · rw [if_pos q, if_pos (by omega)]; rfl
      · rw [if_neg q, if_neg (by omega)]; rfl
    · rw [show (if Int32.ofNat 1 = 0 then ms + 1 else 0) = 0 from if_neg (by decide), show (if Int32.ofNat 0 = 0 then mc + 1 else 0) = mc + 1 from if_pos rfl, jn_u2l (by decide), jn_u2l (by decide), jn_u2l (by decide), jn_u2l (by decide)]
      exact e1 e K0 g L he2
  · rcases e6 with ⟨rfl, op, oc, y1, y2, y3, y4, y5⟩ | ⟨op, wt, y1, y2, y3, y4, y5, y6, rfl⟩
    · have := hp_i1 (n0 := n0) (W := W0) (J := jn J0 (am_u2 (am_u2 K 135 1 (Int32.ofNat (0))) 135 0 (Int32.ofNat (mc + 1)))) (g := g) (L := L) (e := e) (m0 := mc + 1) (m1 := 0) (dn := dn) (by rw [jn_ge (by decide), u2_at]) (by omega) (by rw [jn_ge (by decide), u2_k _ _ (by decide), u2_at]) (by omega) hdn (op := op) (oc := oc) y1 y2 y3 y4 y5
      rw [jn_u2r (by decide)] at this
      exact this
    · have := hp_b1 (n0 := n0) (W := W0) (J := jn J0 (am_u2 (am_u2 K 135 1 (Int32.ofNat (0))) 135 0 (Int32.ofNat (mc + 1)))) (g := g) (L := L) (e := e) (m0 := mc + 1) (m1 := 0) (dn := dn) (by rw [jn_ge (by decide), u2_at]) (by omega) (by rw [jn_ge (by decide), u2_k _ _ (by decide), u2_at]) (by omega) hdn (op := op) (wt := wt) y1 y2 y3 y4 y5 (by omega) rfl
      rw [jn_u2r (by decide), jn_u2r (by decide), jn_u2r (by decide)] at this
      exact this
  · obtain ⟨fr, w, ct, c1⟩ := x1
    obtain ⟨tu, nx, c3⟩ := x3
    obtain ⟨fr2, w2, ct2, d1⟩ := x6
    obtain ⟨tu2, nx2, d3⟩ := x8
    obtain ⟨cn, pn, sl, s1⟩ := x11
    have ej := fun c (hc : ¬ c = 67) => e3 c hc
    have ek := fun c (hc : ¬ c = 130) => e4 c hc
    exact ⟨⟨fr, w, ct, rOut_fc c1 (ej 8 (by decide)) (fun _ _ => rfl) (fun q q1 _ => ek q (by omega))⟩, rHold_fc x2 (ej 7 (by decide)) rfl (fun q q1 _ => ek q (by omega)), ⟨tu, nx, rNum_fr c3 (by rw [ej 7 (by decide)]) (by rw [ej 7 (by decide)]) (by rw [ek 133 (by decide)]) (by rw [ek 134 (by decide)])⟩, rAir_fc x4 rfl (fun q q1 _ => ek q (by omega)), rIn_fc x5 (ej 26 (by decide)) rfl (fun q q1 _ => ek q (by omega)), ⟨fr2, w2, ct2, rOut_fc d1 (ej 38 (by decide)) (fun _ _ => rfl) (fun q q1 _ => ek q (by omega))⟩, rHold_fc x7 (ej 37 (by decide)) rfl (fun q q1 _ => ek q (by omega)), ⟨tu2, nx2, rNum_fr d3 (by rw [ej 37 (by decide)]) (by rw [ej 37 (by decide)]) (by rw [ek 133 (by decide)]) (by rw [ek 134 (by decide)])⟩, rAir_fc x9 rfl (fun q q1 _ => ek q (by omega)), rIn_fc x10 (ej 56 (by decide)) rfl (fun q q1 _ => ek q (by omega)), ⟨cn, pn, sl, rSrv_fr s1 (fun q q1 q2 => ej q (by omega)) (fun _ _ _ => rfl) (fun q q1 _ _ => ek q (by omega)) (fun f hf => e5 f (by omega) (by omega))⟩, nt, cl, e2, l2⟩
  · rw [e3 1 (by decide), u2_k _ _ (by decide), u2_a _ _ (by decide), u2_a _ _ (by decide), u2_at]
  · rw [e3 1 (by decide), u2_at]
  · rw [e3 1 (by decide), u2_k _ _ (by decide), u2_a _ _ (by decide), u2_a _ _ (by decide), u2_k _ _ (by decide)]
  · rw [e3 37 (by decide), u2_a _ _ (by decide), u2_a _ _ (by decide), u2_at]
  · rw [e3 7 (by decide), u2_a _ _ (by decide), u2_at]
  · rw [e5 7 (by decide) (by decide), u2_at]
  · rw [e4 135 (by decide), u2_a _ _ (by decide), u2_at]
  · rw [e4 135 (by decide), u2_a _ _ (by decide), u2_k _ _ (by decide), u2_at]
  · rw [e3 0 (by decide)]; rfl
  · rw [e3 2 (by decide)]; rfl
  · rw [e3 3 (by decide)]; rfl
  · rw [e3 4 (by decide)]; rfl
  · rw [e4 131 (by decide)]; rfl
  · intro f hf
    rw [e5 f (by omega) (by omega), u2_k _ _ (by omega), u2_a _ _ (by decide), u2_a _ _ (by decide)]
theorem fin_11 {ev ms mc : Nat} (h : core T W J K) (he : J 1 6 = Int32.ofNat ev) (h1 : J 37 9 = Int32.ofNat ms) (h1' : K 135 1 = Int32.ofNat ms) (hms : ms < 6) (h0 : J 7 9 = Int32.ofNat mc) (h0' : K 135 0 = Int32.ofNat mc) (hmc : mc < 6) : ∃ (dn : Nat) (J' K' : bw_J), dn ≤ 1 ∧ (∀ (d : Nat) (K0 : bw_J) (g : Nat) (L : bw_L), 2 ≤ d → bm d (S0 n0) R0 107 [.ref 1, .int (Int32.ofNat 1), .int (Int32.ofNat 1)] W (jn J K0) g L (bR none W (jn J' K0) g L)) ∧ (∀ (e : Nat) (W0 : bw_W) (J0 : bw_J) (g : Nat) (L : bw_L), 1 ≤ e → bT e (S0 n0) R0 mt_Mo_happen (bR (some (.int (Int32.ofNat 3))) W0 (jn J0 K') g L) 114 [(0, .ref 130), (6, .int (Int32.ofNat 1)), (7, .int (Int32.ofNat 1))] [] W0 (jn J0 (am_u2 (am_u2 K 135 1 (Int32.ofNat (0))) 135 0 (Int32.ofNat (0)))) g L 0 0) ∧ core T W J' K' ∧ J' 1 6 = Int32.ofNat (ev + 1) ∧ J' 1 8 = Int32.ofNat dn ∧ J' 1 7 = J 1 7 ∧ J' 37 9 = Int32.ofNat (0) ∧ J' 7 9 = Int32.ofNat (0) ∧ (dn = 0 → 0 < 6 ∧ 0 < 6) ∧ K' 130 7 = Int32.ofNat dn ∧ K' 135 0 = Int32.ofNat (0) ∧ K' 135 1 = Int32.ofNat (0) ∧ J' 0 = J 0 ∧ J' 2 = J 2 ∧ J' 3 = J 3 ∧ J' 4 = J 4 ∧ K' 131 = K 131 ∧ ∀ f, f ≤ 6 → K' 130 f = K 130 f := by
  have hdn : ∃ dn, dn = (if 0 = 6 ∨ 0 = 6 then 1 else 0) ∧ dn ≤ 1 := ⟨_, rfl, by split <;> decide⟩
  obtain ⟨dn, hdn, hdn1⟩ := hdn
  have hdn0 : dn = 0 → 0 < 6 ∧ 0 < 6 := fun z => by
    rw [hdn] at z
    by_cases q : 0 = 6 ∨ 0 = 6
    · rw [if_pos q] at z; exact absurd z (by decide)
    · omega
  have hc0 : core T W (am_u2 (am_u2 (am_u2 (am_u2 J 1 6 (Int32.ofNat (ev + 1))) 37 9 (Int32.ofNat (0))) 7 9 (Int32.ofNat (0))) 1 8 (Int32.ofNat dn)) (am_u2 (am_u2 (am_u2 K 135 1 (Int32.ofNat (0))) 135 0 (Int32.ofNat (0))) 130 7 (Int32.ofNat dn)) := core_fr h (Nat.le_refl _) (fun c _ c1 _ _ _ _ c7 c37 => by rw [u2_a _ _ c1, u2_a _ _ c7, u2_a _ _ c37, u2_a _ _ c1]) (fun f hf => by rw [u2_a _ _ (by decide), u2_k _ _ hf, u2_a _ _ (by decide), u2_a _ _ (by decide)]) (fun f hf => by rw [u2_a _ _ (by decide), u2_a _ _ (by decide), u2_k _ _ hf, u2_a _ _ (by decide)]) (fun c c0 _ _ c5 => by rw [u2_a _ _ c0, u2_a _ _ c5, u2_a _ _ c5]) (fun f hf => by rw [u2_k _ _ (by omega), u2_a _ _ (by decide), u2_a _ _ (by decide)])
  obtain ⟨x1, x2, x3, x4, x5, x6, x7, x8, x9, x10, x11, nt, cl, l1, l2⟩ := hc0
  obtain ⟨J', K', e1, e2, e3, e4, e5, e6⟩ := clock_sim (n0 := n0) (dn := dn) hdn1 l1
  have hgen : ∀ (J1 K1 : bw_J), J1 = (am_u2 (am_u2 (am_u2 (am_u2 J 1 6 (Int32.ofNat (ev + 1))) 37 9 (Int32.ofNat (0))) 7 9 (Int32.ofNat (0))) 1 8 (Int32.ofNat dn)) → K1 = (am_u2 (am_u2 (am_u2 K 135 1 (Int32.ofNat (0))) 135 0 (Int32.ofNat (0))) 130 7 (Int32.ofNat dn)) → True := fun _ _ _ _ => trivial
  refine ⟨dn, J', K', hdn1, fun d K0 g L hd => ?_, fun e W0 J0 g L he2 => ?_, ?_, ?_, ?_, ?_, ?_, ?_, hdn0, ?_, ?_, ?_, ?_, ?_, ?_, ?_, ?_, ?_⟩
  · refine al_finish (n0 := n0) (W := W) (J := jn J K0) (g := g) (L := L) (sg := Int32.ofNat 1) (cg := Int32.ofNat 1) (dn := Int32.ofNat dn) (ev := ev) (ms := ms) (mc := mc) hd he h1 (by omega) h0 (by omega) ?_ (fun e he2 => ?_)
    · rw [show (if Int32.ofNat 1 = 0 then ms + 1 else 0) = 0 from if_neg (by decide), show (if Int32.ofNat 1 = 0 then mc + 1 else 0) = 0 from if_neg (by decide), hdn]
      by_cases q : 0 = 6 ∨ 0 = 6
      · rw [if_pos q, if_pos (by omega)]; rfl
      · rw [if_neg q, if_neg (by omega)]; rfl
    · rw [show (if Int32.ofNat 1 = 0 then ms + 1 else 0) = 0 from if_neg (by decide), show (if Int32.ofNat 1 = 0 then mc + 1 else 0) = 0 from if_neg (by decide), jn_u2l (by decide), jn_u2l (by decide), jn_u2l (by decide), jn_u2l (by decide)]
      exact e1 e K0 g L he2
  · rcases e6 with ⟨rfl, op, oc, y1, y2, y3, y4, y5⟩ | ⟨op, wt, y1, y2, y3, y4, y5, y6, rfl⟩
    · have := hp_i3 (n0 := n0) (W := W0) (J := jn J0 (am_u2 (am_u2 K 135 1 (Int32.ofNat (0))) 135 0 (Int32.ofNat (0)))) (g := g) (L := L) (e := e) (m0 := 0) (m1 := 0) (dn := dn) (by rw [jn_ge (by decide), u2_at]) (by omega) (by rw [jn_ge (by decide), u2_k _ _ (by decide), u2_at]) (by omega) hdn (op := op) (oc := oc) y1 y2 y3 y4 y5
      rw [jn_u2r (by decide)] at this
      exact this
    · have := hp_b3 (n0 := n0) (W := W0) (J := jn J0 (am_u2 (am_u2 K 135 1 (Int32.ofNat (0))) 135 0 (Int32.ofNat (0)))) (g := g) (L := L) (e := e) (m0 := 0) (m1 := 0) (dn := dn) (by rw [jn_ge (by decide), u2_at]) (by omega) (by rw [jn_ge (by decide), u2_k _ _ (by decide), u2_at]) (by omega) hdn (op := op) (wt := wt) y1 y2 y3 y4 y5 (by omega) rfl
      rw [jn_u2r (by decide), jn_u2r (by decide), jn_u2r (by decide)] at this
      exact this
  · obtain ⟨fr, w, ct, c1⟩ := x1
    obtain ⟨tu, nx, c3⟩ := x3
    obtain ⟨fr2, w2, ct2, d1⟩ := x6
    obtain ⟨tu2, nx2, d3⟩ := x8
    obtain ⟨cn, pn, sl, s1⟩ := x11
    have ej := fun c (hc : ¬ c = 67) => e3 c hc
    have ek := fun c (hc : ¬ c = 130) => e4 c hc
    exact ⟨⟨fr, w, ct, rOut_fc c1 (ej 8 (by decide)) (fun _ _ => rfl) (fun q q1 _ => ek q (by omega))⟩, rHold_fc x2 (ej 7 (by decide)) rfl (fun q q1 _ => ek q (by omega)), ⟨tu, nx, rNum_fr c3 (by rw [ej 7 (by decide)]) (by rw [ej 7 (by decide)]) (by rw [ek 133 (by decide)]) (by rw [ek 134 (by decide)])⟩, rAir_fc x4 rfl (fun q q1 _ => ek q (by omega)), rIn_fc x5 (ej 26 (by decide)) rfl (fun q q1 _ => ek q (by omega)), ⟨fr2, w2, ct2, rOut_fc d1 (ej 38 (by decide)) (fun _ _ => rfl) (fun q q1 _ => ek q (by omega))⟩, rHold_fc x7 (ej 37 (by decide)) rfl (fun q q1 _ => ek q (by omega)), ⟨tu2, nx2, rNum_fr d3 (by rw [ej 37 (by decide)]) (by rw [ej 37 (by decide)]) (by rw [ek 133 (by decide)]) (by rw [ek 134 (by decide)])⟩, rAir_fc x9 rfl (fun q q1 _ => ek q (by omega)), rIn_fc x10 (ej 56 (by decide)) rfl (fun q q1 _ => ek q (by omega)), ⟨cn, pn, sl, rSrv_fr s1 (fun q q1 q2 => ej q (by omega)) (fun _ _ _ => rfl) (fun q q1 _ _ => ek q (by omega)) (fun f hf => e5 f (by omega) (by omega))⟩, nt, cl, e2, l2⟩
  · rw [e3 1 (by decide), u2_k _ _ (by decide), u2_a _ _ (by decide), u2_a _ _ (by decide), u2_at]
  · rw [e3 1 (by decide), u2_at]
  · rw [e3 1 (by decide), u2_k _ _ (by decide), u2_a _ _ (by decide), u2_a _ _ (by decide), u2_k _ _ (by decide)]
  · rw [e3 37 (by decide), u2_a _ _ (by decide), u2_a _ _ (by decide), u2_at]
  · rw [e3 7 (by decide), u2_a _ _ (by decide), u2_at]
  · rw [e5 7 (by decide) (by decide), u2_at]
  · rw [e4 135 (by decide), u2_a _ _ (by decide), u2_at]
  · rw [e4 135 (by decide), u2_a _ _ (by decide), u2_k _ _ (by decide), u2_at]
  · rw [e3 0 (by decide)]; rfl
  · rw [e3 2 (by decide)]; rfl
  · rw [e3 3 (by decide)]; rfl
  · rw [e3 4 (by decide)]; rfl
  · rw [e4 131 (by decide)]; rfl
  · intro f hf
    rw [e5 f (by omega) (by omega), u2_k _ _ (by omega), u2_a _ _ (by decide), u2_a _ _ (by decide)]
end E3
