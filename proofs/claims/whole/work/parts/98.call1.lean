/-! Part 98: the calls, class and reference side by side: frames; attribute, put -/
section R1
variable {n0 : Nat} {T T' : Nat} {W W' : bw_W} {J J' K K' : bw_J}
theorem core_S (h : core T W J K) (w : ∀ c, ¬ (40 ≤ c ∧ c < 56) → c < 86 → W' c = W c) (j : ∀ c, c < 86 → ¬ c = 38 → J' c = J c) (k0 : kEq 0 K' K) (k : ∀ c, ¬ c = 130 → ¬ c = 140 → ¬ c = 141 → ¬ c = 143 → c < 150 ∨ 160 < c → K' c = K c) (kf : ∀ f, 43 < f → K' 130 f = K 130 f) (hO : ∃ fr w ct, rOut 38 40 1 W' J' K' fr w ct) (hS : ∃ cn pn sl, rSrv W' J' K' cn pn sl) : core T W' J' K' := by
  obtain ⟨⟨fr, w0, ct, c1⟩, c2, ⟨tu, nx, c3⟩, c4, c5, -, d2, ⟨tu2, nx2, d3⟩, d4, d5, -, nt, cl, l1, l2⟩ := h
  have k3 := k 133 (by decide) (by decide) (by decide) (by decide) (by decide)
  have k4 := k 134 (by decide) (by decide) (by decide) (by decide) (by decide)
  exact ⟨⟨fr, w0, ct, rOut_fr c1 (j 8 (by decide) (by decide)) (fun i hi => w _ (by omega) (by omega)) k0⟩, rHold_fr c2 (by rw [j 7 (by decide) (by decide)]) (by rw [j 7 (by decide) (by decide)]) (w 35 (by decide) (by decide)) k0, ⟨tu, nx, rNum_fr c3 (by rw [j 7 (by decide) (by decide)]) (by rw [j 7 (by decide) (by decide)]) (by rw [k3]) (by rw [k4])⟩, rAir_fr c4 (w 31 (by decide) (by decide)) k0, rIn_fr c5 (by rw [j 26 (by decide) (by decide)]) (w 29 (by decide) (by decide)) k0, hO, rHold_fc d2 (j 37 (by decide) (by decide)) (w 65 (by decide) (by decide)) (fun c c1 c2 => k c (by omega) (by omega) (by omega) (by omega) (by omega)), ⟨tu2, nx2, rNum_fr d3 (by rw [j 37 (by decide) (by decide)]) (by rw [j 37 (by decide) (by decide)]) (by rw [k3]) (by rw [k4])⟩, rAir_fc d4 (w 61 (by decide) (by decide)) (fun c c1 c2 => k c (by omega) (by omega) (by omega) (by omega) (by omega)), rIn_fc d5 (j 56 (by decide) (by decide)) (w 59 (by decide) (by decide)) (fun c c1 c2 => k c (by omega) (by omega) (by omega) (by omega) (by omega)), hS, nt, cl, rCli_fr l1 (j 67 (by decide) (by decide)) (j 68 (by decide) (by decide)) (fun c c1 c2 => w c (by omega) (by omega)) (fun c c1 c2 => k c (by omega) (by omega) (by omega) (by omega) (by omega)) (fun f hf => kf f (by omega)), l2⟩
theorem core_C (h : core T W J K) (hT : T ≤ T') (w : ∀ c, ¬ (10 ≤ c ∧ c < 26) → ¬ (70 ≤ c ∧ c < 86) → W' c = W c) (j : ∀ c, c < 130 → ¬ c = 8 → ¬ c = 67 → ¬ c = 68 → J' c = J c) (k0 : kEq 1 K' K) (k : ∀ c, ¬ c = 130 → ¬ c = 140 → ¬ c = 141 → ¬ c = 143 → ¬ c = 151 → c < 161 → K' c = K c) (kf : ∀ f, 30 < f → f < 44 → K' 130 f = K 130 f) (hO : ∃ fr w ct, rOut 8 10 0 W' J' K' fr w ct) (hL : ∃ nt cl, rCli W' J' K' nt cl ∧ nt ≤ T') : core T' W' J' K' := by
  obtain ⟨-, c2, ⟨tu, nx, c3⟩, c4, c5, ⟨fr2, w2, ct2, d1⟩, d2, ⟨tu2, nx2, d3⟩, d4, d5, ⟨cn, pn, sl, s1⟩, -⟩ := h
  have k3 := k 133 (by decide) (by decide) (by decide) (by decide) (by decide) (by decide)
  have k4 := k 134 (by decide) (by decide) (by decide) (by decide) (by decide) (by decide)
  have j7 := j 7 (by decide) (by decide) (by decide) (by decide)
  have j37 := j 37 (by decide) (by decide) (by decide) (by decide)
  exact ⟨hO, rHold_fc c2 j7 (w 35 (by decide) (by decide)) (fun c c1 c2 => k c (by omega) (by omega) (by omega) (by omega) (by omega) (by omega)), ⟨tu, nx, rNum_fr c3 (by rw [j7]) (by rw [j7]) (by rw [k3]) (by rw [k4])⟩, rAir_fc c4 (w 31 (by decide) (by decide)) (fun c c1 c2 => k c (by omega) (by omega) (by omega) (by omega) (by omega) (by omega)), rIn_fc c5 (j 26 (by decide) (by decide) (by decide) (by decide)) (w 29 (by decide) (by decide)) (fun c c1 c2 => k c (by omega) (by omega) (by omega) (by omega) (by omega) (by omega)), ⟨fr2, w2, ct2, rOut_fr d1 (j 38 (by decide) (by decide) (by decide) (by decide)) (fun i hi => w _ (by omega) (by omega)) k0⟩, rHold_fr d2 (by rw [j37]) (by rw [j37]) (w 65 (by decide) (by decide)) k0, ⟨tu2, nx2, rNum_fr d3 (by rw [j37]) (by rw [j37]) (by rw [k3]) (by rw [k4])⟩, rAir_fr d4 (w 61 (by decide) (by decide)) k0, rIn_fr d5 (by rw [j 56 (by decide) (by decide) (by decide) (by decide)]) (w 59 (by decide) (by decide)) k0, ⟨cn, pn, sl, rSrv_fr s1 (fun c c1 c2 => j c (by omega) (by omega) (by omega) (by omega)) (fun c c1 c2 => w c (by omega) (by omega)) (fun c c1 c2 _ => k c (by omega) (by omega) (by omega) (by omega) (by omega) (by omega)) (fun f hf => kf f (by omega) (by omega))⟩, hL⟩
theorem rel_core (h : rel T W J K) (hT : T ≤ T') (hc : core T' W' J' K') (j1 : J' 1 = J 1) (j2 : J' 2 = J 2) (j3 : J' 3 = J 3) (j4 : J' 4 = J 4) (j7 : J' 7 9 = J 7 9) (j37 : J' 37 9 = J 37 9) (k1 : K' 131 = K 131) (k5 : K' 135 = K 135) (kf : ∀ f, 1 ≤ f → f ≤ 7 → K' 130 f = K 130 f) : rel T' W' J' K' := by
  obtain ⟨a1, -, ev, ms, mc, dn, t⟩ := h
  refine ⟨rChs_fr a1 j2 j3 j4 k1 (fun f hf => kf f (by omega) (by omega)), hc, ev, ms, mc, dn, ?_⟩
  rw [j1, j7, j37, k5, kf 5 (by decide) (by decide), kf 6 (by decide) (by decide), kf 7 (by decide) (by decide)]
  exact ⟨t.1, t.2.1, by have := t.2.2.1; omega, t.2.2.2⟩
theorem rel_0 {x : Int32} (h : rel T W J K) : rel T W J (am_u2 K 130 0 x) := by
  refine rel_core h (Nat.le_refl _) ?_ rfl rfl rfl rfl rfl rfl (u2_a _ _ (by decide)) (u2_a _ _ (by decide)) (fun f f1 f2 => u2_k _ _ (by omega))
  exact core_fr h.2.1 (Nat.le_refl _) (fun _ _ _ _ _ _ _ _ _ => rfl) (fun _ _ => rfl) (fun _ _ => rfl) (fun c c0 _ _ _ => u2_a _ _ c0) (fun f hf => u2_k _ _ (by omega))
/-- only the cells of each half matter -/
theorem rel_cg (h : rel T W J K) (a : ∀ c, c < 130 → J' c = J c) (b : ∀ c, ¬ c < 130 → K' c = K c) : rel T W J' K' := by
  obtain ⟨a1, ⟨⟨fr, w0, ct, c1⟩, c2, ⟨tu, nx, c3⟩, c4, c5, ⟨fr2, w2, ct2, d1⟩, d2, ⟨tu2, nx2, d3⟩, d4, d5, ⟨cn, pn, sl, s1⟩, nt, cl, l1, l2⟩, ev, ms, mc, dn, t⟩ := h
  refine ⟨rChs_fr a1 (a 2 (by decide)) (a 3 (by decide)) (a 4 (by decide)) (b 131 (by decide)) (fun f _ => by rw [b 130 (by decide)]), ⟨⟨fr, w0, ct, rOut_fc c1 (a 8 (by decide)) (fun _ _ => rfl) (fun c c1 _ => b c (by omega))⟩, rHold_fc c2 (a 7 (by decide)) rfl (fun c c1 _ => b c (by omega)), ⟨tu, nx, rNum_fr c3 (by rw [a 7 (by decide)]) (by rw [a 7 (by decide)]) (by rw [b 133 (by decide)]) (by rw [b 134 (by decide)])⟩, rAir_fc c4 rfl (fun c c1 _ => b c (by omega)), rIn_fc c5 (a 26 (by decide)) rfl (fun c c1 _ => b c (by omega)), ⟨fr2, w2, ct2, rOut_fc d1 (a 38 (by decide)) (fun _ _ => rfl) (fun c c1 _ => b c (by omega))⟩, rHold_fc d2 (a 37 (by decide)) rfl (fun c c1 _ => b c (by omega)), ⟨tu2, nx2, rNum_fr d3 (by rw [a 37 (by decide)]) (by rw [a 37 (by decide)]) (by rw [b 133 (by decide)]) (by rw [b 134 (by decide)])⟩, rAir_fc d4 rfl (fun c c1 _ => b c (by omega)), rIn_fc d5 (a 56 (by decide)) rfl (fun c c1 _ => b c (by omega)), ⟨cn, pn, sl, rSrv_fr s1 (fun c _ c2 => a c (by omega)) (fun _ _ _ => rfl) (fun c c1 _ _ => b c (by omega)) (fun f _ => by rw [b 130 (by decide)])⟩, nt, cl, rCli_fr l1 (a 67 (by decide)) (a 68 (by decide)) (fun _ _ _ => rfl) (fun c c1 _ => b c (by omega)) (fun f _ => by rw [b 130 (by decide)]), l2⟩, ev, ms, mc, dn, ?_⟩
  rw [a 1 (by decide), a 7 (by decide), a 37 (by decide), b 130 (by decide), b 135 (by decide)]
  exact t
theorem rel_jn (h : rel T W J K) : rel T W (jn J K) (jn J K) := rel_cg h (fun c hc => jn_lt hc) (fun c hc => jn_ge hc)
/-- a call with an answer: cj the class's wrapper, ca its arguments, mj the reference's method, ma its arguments -/
def callR (n0 T T' : Nat) (W : bw_W) (J K : bw_J) (cj : Nat) (ca : List Value) (mj : Nat) (ma : List Value) : Prop := ∃ (k kg : Nat) (v b : Int32) (W' : bw_W) (J' K' : bw_J), k ≤ 2 ∧ (k = 0 → b = v) ∧ (∀ (d : Nat) (K0 : bw_J) (g : Nat) (L : bw_L), 8 ≤ d → bm d (S0 n0) R0 cj (ca ++ [.ref 166]) W (jn J K0) g L (bR (some (.int (Int32.ofNat k))) W' (jn J' K0) (g + kg) (if k = 0 then am_u2 L 166 0 v.toInt64 else L))) ∧ (∀ (d : Nat) (W0 : bw_W) (J0 : bw_J) (g : Nat) (L : bw_L), 11 ≤ d → bm d (S0 n0) R0 mj (.ref 130 :: ma) W0 (jn J0 K) g L (bR (some (.int b)) W0 (jn J0 K') g L)) ∧ K' 130 0 = Int32.ofNat k ∧ rel T' W' J' K' ∧ J' 0 = J 0
/-- a call without -/
def callU (n0 T T' : Nat) (W : bw_W) (J K : bw_J) (cj : Nat) (ca : List Value) (mj : Nat) (ma : List Value) : Prop := ∃ (k kg : Nat) (W' : bw_W) (J' K' : bw_J), k ≤ 2 ∧ (∀ (d : Nat) (K0 : bw_J) (g : Nat) (L : bw_L), 8 ≤ d → bm d (S0 n0) R0 cj ca W (jn J K0) g L (bR (some (.int (Int32.ofNat k))) W' (jn J' K0) (g + kg) L)) ∧ (∀ (d : Nat) (W0 : bw_W) (J0 : bw_J) (g : Nat) (L : bw_L), 11 ≤ d → bm d (S0 n0) R0 mj (.ref 130 :: ma) W0 (jn J0 K) g L (bR none W0 (jn J0 K') g L)) ∧ K' 130 0 = Int32.ofNat k ∧ rel T' W' J' K' ∧ J' 0 = J 0
theorem nat_of {n : Int32} {m : Nat} (hm : m < 2147483648) (h : ¬ n < 0 ∧ ¬ Int32.ofNat m < n) : ∃ k, k ≤ m ∧ n = Int32.ofNat k := by
  obtain ⟨k, hk, rfl⟩ := i_of h.1
  refine ⟨k, ?_, rfl⟩
  have := h.2
  rw [i_lt hm hk] at this
  omega
/-- of a thrown call nothing but the number stays -/
theorem call_x {k : Nat} {cj : Nat} {ca : List Value} {mj : Nat} {ma : List Value} {b : Int32} (h : rel T W J K) (hk : k = 1 ∨ k = 2) (hc : ∀ (d : Nat) (K0 : bw_J) (g : Nat) (L : bw_L), 8 ≤ d → bm d (S0 n0) R0 cj (ca ++ [.ref 166]) W (jn J K0) g L (bR (some (.int (Int32.ofNat k))) W (jn J K0) (g + 1) L)) (hm : ∀ (d : Nat) (W0 : bw_W) (J0 : bw_J) (g : Nat) (L : bw_L), 11 ≤ d → bm d (S0 n0) R0 mj (.ref 130 :: ma) W0 (jn J0 K) g L (bR (some (.int b)) W0 (am_u2 (jn J0 K) 130 0 (Int32.ofNat k)) g L)) : callR n0 T T W J K cj ca mj ma := by
  refine ⟨k, 1, b, b, W, J, am_u2 K 130 0 (Int32.ofNat k), by omega, fun _ => rfl, fun d K0 g L hd => ?_, fun d W0 J0 g L hd => ?_, u2_at _ _ _ _, rel_0 h, rfl⟩
  · rw [if_neg (by omega)]; exact hc d K0 g L hd
  · have := hm d W0 J0 g L hd
    rw [jn_u2r (by decide)] at this
    exact this
theorem callU_x {k : Nat} {cj : Nat} {ca : List Value} {mj : Nat} {ma : List Value} (h : rel T W J K) (hk : k = 1 ∨ k = 2) (hc : ∀ (d : Nat) (K0 : bw_J) (g : Nat) (L : bw_L), 8 ≤ d → bm d (S0 n0) R0 cj ca W (jn J K0) g L (bR (some (.int (Int32.ofNat k))) W (jn J K0) (g + 1) L)) (hm : ∀ (d : Nat) (W0 : bw_W) (J0 : bw_J) (g : Nat) (L : bw_L), 11 ≤ d → bm d (S0 n0) R0 mj (.ref 130 :: ma) W0 (jn J0 K) g L (bR none W0 (am_u2 (jn J0 K) 130 0 (Int32.ofNat k)) g L)) : callU n0 T T W J K cj ca mj ma := by
  refine ⟨k, 1, W, J, am_u2 K 130 0 (Int32.ofNat k), by omega, hc, fun d W0 J0 g L hd => ?_, u2_at _ _ _ _, rel_0 h, rfl⟩
  have := hm d W0 J0 g L hd
  rw [jn_u2r (by decide)] at this
  exact this
/-- a question: nothing changes -/
theorem call_q {cj : Nat} {ca : List Value} {mj : Nat} {ma : List Value} {v : Int32} (h : rel T W J K) (hc : ∀ (d : Nat) (K0 : bw_J) (g : Nat) (L : bw_L), 8 ≤ d → bm d (S0 n0) R0 cj (ca ++ [.ref 166]) W (jn J K0) g L (bR (some (.int (Int32.ofNat 0))) W (jn J K0) g (am_u2 L 166 0 v.toInt64))) (hm : ∀ (d : Nat) (W0 : bw_W) (J0 : bw_J) (g : Nat) (L : bw_L), 11 ≤ d → bm d (S0 n0) R0 mj (.ref 130 :: ma) W0 (jn J0 K) g L (bR (some (.int v)) W0 (am_u2 (jn J0 K) 130 0 (Int32.ofNat 0)) g L)) : callR n0 T T W J K cj ca mj ma := by
  refine ⟨0, 0, v, v, W, J, am_u2 K 130 0 (Int32.ofNat 0), by decide, fun _ => rfl, fun d K0 g L hd => ?_, fun d W0 J0 g L hd => ?_, u2_at _ _ _ _, rel_0 h, rfl⟩
  · rw [if_pos rfl]; exact hc d K0 g L hd
  · have := hm d W0 J0 g L hd
    rw [jn_u2r (by decide)] at this
    exact this
end R1
