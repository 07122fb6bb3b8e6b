/-! Part 98: the calls, class and reference side by side: begin, write, raw -/
section R3
variable {n0 : Nat} {T : Nat} {W : bw_W} {J K : bw_J}
/-- may an operation begin -/
theorem free_eq (h : rel T W J K) : (J 1 8 = 0 ∧ (J 67 8 = -1 ∨ J 67 8 = Int32.ofNat 1 ∨ J 67 8 = Int32.ofNat 2)) ↔ (K 130 7 = 0 ∧ (K 130 47 = Int32.ofNat 1 ∨ K 130 47 = Int32.ofNat 2)) := by
  obtain ⟨-, hc, ev, ms, mc, dn, t1, t2, t3, t4, t5, t6, t7, -⟩ := h
  obtain ⟨-, -, -, -, -, -, -, -, -, -, -, nt, cl, ⟨-, hs⟩, -⟩ := hc
  rw [t5, t6]
  rcases hs with ⟨e1, e2, e3⟩ | ⟨op, oc, ⟨p1, p2, p3, p4, p5, p6, p7⟩, -⟩
  · rw [e1, e3]
    exact ⟨fun z => ⟨z.1, Or.inl rfl⟩, fun z => ⟨z.1, Or.inl rfl⟩⟩
  · rw [p6, p7]
    refine ⟨fun z => ⟨z.1, z.2.resolve_left (fun q => ?_)⟩, fun z => ⟨z.1, Or.inr z.2⟩⟩
    have := nm1 (n := oc) (by omega)
    have q2 := congrArg Int32.toInt q
    rw [i_ti (by omega), show (-1 : Int32).toInt = -1 from rfl] at q2
    omega
theorem start_sim {op ab : Nat} {req t : List Int32} {K1 : bw_J} (h : rel T W J K) (hop : 1 ≤ op) (hop7 : op ≤ 7) (hab : ab < 256) (hr1 : 1 ≤ req.length) (hr2 : req.length ≤ 20) (hrb : byl req) (k1 : ∀ c, ¬ c = 130 → ¬ c = 163 → K1 c = K c) (k2 : ∀ f, ¬ f = 0 → ¬ (45 ≤ f ∧ f ≤ 48) → ¬ f = 52 → ¬ f = 54 → ¬ f = 55 → ¬ f = 57 → ¬ f = 58 → K1 130 f = K 130 f) (k45 : K1 130 45 = Int32.ofNat op) (k46 : K1 130 46 = Int32.ofNat ab) (k47 : K1 130 47 = 0) (k48 : K1 130 48 = 0) (k52 : K1 130 52 = 0) (k57 : ∃ sp, K1 130 57 = Int32.ofNat sp ∧ sp ≤ 1) (k6 : op = 6 → K1 130 57 = 0 ∧ K1 130 54 = Int32.ofNat t.length ∧ t.length ≤ 8 ∧ byl t ∧ eqL t (K1 163) 0 ∧ K1 130 55 = 0 ∧ K1 130 58 = 0 ∧ ¬ req.getD 0 0 = Int32.ofNat 24) : ∃ (W' : bw_W) (J' K' : bw_J), (∀ (d : Nat) (K0 : bw_J) (g : Nat) (L : bw_L), 3 ≤ d → bm d (S0 n0) R0 54 [.ref 67, .ref 8] (am_u1 (am_u1 (am_u1 W 78 []) 84 t) 80 req) (jn (stJ J (Int32.ofNat (op - 1)) (Int32.ofNat ab)) K0) g L (bR none W' (jn J' K0) g L)) ∧ (∀ (d : Nat) (W0 : bw_W) (J0 : bw_J) (g : Nat) (L : bw_L), 2 ≤ d → bm d (S0 n0) R0 139 [.ref 130] W0 (jn J0 (mkJ K1 req)) g L (bR none W0 (jn J0 K') g L)) ∧ rel T W' J' K' ∧ K' 130 0 = K1 130 0 ∧ J' 0 = J 0 := by
  have hr := h
  obtain ⟨-, hc, -⟩ := h
  have hc' := hc
  obtain ⟨⟨fr, w, ct, o1⟩, -, -, -, -, -, -, -, -, -, -, nt, cl, ⟨hB, -⟩, hnt⟩ := hc
  obtain ⟨hN, b1, b2, b3, b4, b5, b6, b7, b8, b9, b10⟩ := hB
  have fJ : ∀ c, ¬ c = 67 → (stJ J (Int32.ofNat (op - 1)) (Int32.ofNat ab)) c = J c := fun c hc => by
    unfold stJ
    rw [u2_a _ _ hc, u2_a _ _ hc, u2_a _ _ hc, u2_a _ _ hc, u2_a _ _ hc, u2_a _ _ hc]
  have fW : ∀ c, ¬ c = 78 → ¬ c = 80 → ¬ c = 84 → (am_u1 (am_u1 (am_u1 W 78 []) 84 t) 80 req) c = W c := fun c c1 c2 c3 => by rw [u1_ne _ _ c2, u1_ne _ _ c3, u1_ne _ _ c1]
  have w78 : (am_u1 (am_u1 (am_u1 W 78 []) 84 t) 80 req) 78 = [] := by rw [u1_ne _ _ (by decide), u1_ne _ _ (by decide), u1_at]
  have w80 : (am_u1 (am_u1 (am_u1 W 78 []) 84 t) 80 req) 80 = req := u1_at _ _ _
  have w84 : (am_u1 (am_u1 (am_u1 W 78 []) 84 t) 80 req) 84 = t := by rw [u1_ne _ _ (by decide), u1_at]
  have hO1 : rOut 8 10 0 (am_u1 (am_u1 (am_u1 W 78 []) 84 t) 80 req) (stJ J (Int32.ofNat (op - 1)) (Int32.ofNat ab)) K1 fr w ct := rOut_fc o1 (fJ 8 (by decide)) (fun i hi => fW _ (by omega) (by omega) (by omega)) (fun c c1 c2 => k1 c (by omega) (by omega))
  have hB1 : rCliB (am_u1 (am_u1 (am_u1 W 78 []) 84 t) 80 req) (stJ J (Int32.ofNat (op - 1)) (Int32.ofNat ab)) K1 nt cl := by
    refine ⟨rNote_fr hN (fJ 68 (by decide)) (fun c c1 c2 => fW c (by omega) (by omega) (by omega)) (k1 164 (by decide) (by decide)) (k1 165 (by decide) (by decide)) (k2 59 (by decide) (by decide) (by decide) (by decide) (by decide) (by decide) (by decide)), b1, ?_, b3, b4, ?_, ?_, ?_, ?_, ?_, k57⟩
    · rw [k2 44 (by decide) (by decide) (by decide) (by decide) (by decide) (by decide) (by decide)]; exact b2
    · rw [fW 82 (by decide) (by decide) (by decide)]; exact b5
    · rw [k52, w78]; rfl
    · rw [w78]; exact Nat.zero_le _
    · rw [w78]; exact eqL_nil _ _
    · rw [k48]; rfl
  have hp1 : rOp (am_u1 (am_u1 (am_u1 W 78 []) 84 t) 80 req) (stJ J (Int32.ofNat (op - 1)) (Int32.ofNat ab)) K1 op 0 := ⟨hop, hop7, by decide, k45, rfl, rfl, k47⟩
  have hg1 : gopP (am_u1 (am_u1 (am_u1 W 78 []) 84 t) 80 req) (stJ J (Int32.ofNat (op - 1)) (Int32.ofNat ab)) K1 op ab := by
    refine ⟨rfl, hab, rfl, k46, by rw [w80]; exact hr1, by rw [w80]; exact hr2, by rw [w80]; exact hrb, ?_, fun _ => w78, fun _ => by rw [w78]; decide, fun _ => by rw [w78]; decide, fun z => ?_⟩
    · by_cases h6 : op = 6
      · rw [if_pos h6, (k6 h6).1]; rfl
      · rw [if_neg h6]; rfl
    · obtain ⟨q1, q2, q3, q4, q5, q6, q7, q8⟩ := k6 z
      rw [w84, w80]
      exact ⟨q2, q3, q4, q5, 0, by decide, rfl, q6, fun _ => by decide, fun _ => by rw [if_neg q8, q7]; rfl⟩
  obtain ⟨W', J', K', e1, e2, e3, e4, f1, f2, f3, f4, f5⟩ := ask_sim (n0 := n0) hO1 hB1 hp1 hg1
  rw [w80] at e2
  refine ⟨W', J', K', e1, e2, ?_, f5 0 (by decide) (by decide), by rw [f2 0 (by decide) (by decide) (by decide)]; exact fJ 0 (by decide)⟩
  have gJ : ∀ c, ¬ c = 8 → ¬ c = 67 → ¬ c = 68 → J' c = J c := fun c c1 c2 c3 => by rw [f2 c c1 c2 c3]; exact fJ c c2
  have gK : ∀ c, ¬ c = 130 → ¬ c = 140 → ¬ c = 141 → ¬ c = 143 → ¬ c = 151 → ¬ (161 ≤ c ∧ c ≤ 165) → K' c = K c := fun c c0 c1 c2 c3 c4 c5 => by rw [f4 c c0 c1 c2 c3 c4 c5]; exact k1 c c0 (by omega)
  have gK3 : ∀ f, ¬ f = 29 → ¬ f = 0 → f < 44 → K' 130 f = K 130 f := fun f q0 q1 q2 => by rw [f5 f q0 q2]; exact k2 f q1 (by omega) (by omega) (by omega) (by omega) (by omega) (by omega)
  exact rel_core hr (Nat.le_refl _) (core_C hc' (Nat.le_refl _) (fun c c1 c2 => by rw [f1 c c1 c2]; exact fW c (by omega) (by omega) (by omega)) (fun c _ c1 c2 c3 => gJ c c1 c2 c3) (kEq_tr f3 (kEq_of fun c c1 c2 => k1 c (by omega) (by omega))) (fun c c0 c1 c2 c3 c4 c5 => gK c c0 c1 c2 c3 c4 (by omega)) (fun f q1 q2 => gK3 f (by omega) (by omega) q2) ⟨fr, _, ct, e4⟩ ⟨nt, cl, e3, hnt⟩) (gJ 1 (by decide) (by decide) (by decide)) (gJ 2 (by decide) (by decide) (by decide)) (gJ 3 (by decide) (by decide) (by decide)) (gJ 4 (by decide) (by decide) (by decide)) (by rw [gJ 7 (by decide) (by decide) (by decide)]) (by rw [gJ 37 (by decide) (by decide) (by decide)]) (gK 131 (by decide) (by decide) (by decide) (by decide) (by decide) (by decide)) (gK 135 (by decide) (by decide) (by decide) (by decide) (by decide) (by decide)) (fun f q1 q2 => gK3 f (by omega) (by omega) (by omega))
/-- what open leaves -/
def opJ (K : bw_J) (op ab : Nat) : bw_J := am_u2 (am_u2 (am_u2 (am_u2 (am_u2 (am_u2 K 130 0 (Int32.ofNat 0)) 130 45 (Int32.ofNat op)) 130 46 (Int32.ofNat ab)) 130 47 0) 130 48 0) 130 52 0
theorem jn_op {J0 : bw_J} {op ab : Nat} : am_u2 (am_u2 (am_u2 (am_u2 (am_u2 (am_u2 (jn J0 K) 130 0 (Int32.ofNat 0)) 130 45 (Int32.ofNat op)) 130 46 (Int32.ofNat ab)) 130 47 0) 130 48 0) 130 52 0 = jn J0 (opJ K op ab) := by
  unfold opJ
  rw [jn_u2r (by decide), jn_u2r (by decide), jn_u2r (by decide), jn_u2r (by decide), jn_u2r (by decide), jn_u2r (by decide)]
theorem opJ_c {op ab c : Nat} (h : ¬ c = 130) : opJ K op ab c = K c := by
  unfold opJ
  rw [u2_a _ _ h, u2_a _ _ h, u2_a _ _ h, u2_a _ _ h, u2_a _ _ h, u2_a _ _ h]
theorem opJ_f {op ab f : Nat} (h0 : ¬ f = 0) (h1 : ¬ (45 ≤ f ∧ f ≤ 48)) (h2 : ¬ f = 52) : opJ K op ab 130 f = K 130 f := by
  unfold opJ
  rw [u2_k _ _ h2, u2_k _ _ (by omega), u2_k _ _ (by omega), u2_k _ _ (by omega), u2_k _ _ (by omega), u2_k _ _ h0]
theorem sp_of (h : rel T W J K) : ∃ sp, K 130 57 = Int32.ofNat sp ∧ sp ≤ 1 := by
  obtain ⟨-, ⟨-, -, -, -, -, -, -, -, -, -, -, nt, cl, ⟨⟨-, -, -, -, -, -, -, -, -, -, hsp⟩, -⟩, -⟩, -⟩ := h
  exact hsp
/-- all but op 6 -/
theorem start_o {op ab : Nat} {req t : List Int32} (h : rel T W J K) (hop : 1 ≤ op) (hop7 : op ≤ 7) (h6 : ¬ op = 6) (hab : ab < 256) (hr1 : 1 ≤ req.length) (hr2 : req.length ≤ 20) (hrb : byl req) : ∃ (W' : bw_W) (J' K' : bw_J), (∀ (d : Nat) (K0 : bw_J) (g : Nat) (L : bw_L), 3 ≤ d → bm d (S0 n0) R0 54 [.ref 67, .ref 8] (am_u1 (am_u1 (am_u1 W 78 []) 84 t) 80 req) (jn (stJ J (Int32.ofNat (op - 1)) (Int32.ofNat ab)) K0) g L (bR none W' (jn J' K0) g L)) ∧ (∀ (d : Nat) (W0 : bw_W) (J0 : bw_J) (g : Nat) (L : bw_L), 2 ≤ d → bm d (S0 n0) R0 139 [.ref 130] W0 (jn J0 (mkJ (opJ K op ab) req)) g L (bR none W0 (jn J0 K') g L)) ∧ rel T W' J' K' ∧ K' 130 0 = Int32.ofNat 0 ∧ J' 0 = J 0 := by
  obtain ⟨sp, hsp, hsp1⟩ := sp_of h
  obtain ⟨W', J', K', e1, e2, e3, e4, e5⟩ := start_sim (n0 := n0) (op := op) (ab := ab) (req := req) (t := t) (K1 := opJ K op ab) h hop hop7 hab hr1 hr2 hrb (fun c c0 _ => opJ_c c0) (fun f f0 f1 f2 _ _ _ _ => opJ_f f0 f1 f2) rfl rfl rfl rfl rfl ⟨sp, by rw [opJ_f (by decide) (by decide) (by decide)]; exact hsp, hsp1⟩ (fun z => absurd z h6)
  exact ⟨W', J', K', e1, e2, e3, e4, e5⟩
theorem jn_st {K0 : bw_J} {x y : Int32} : stJ (jn J K0) x y = jn (stJ J x y) K0 := by
  unfold stJ
  rw [jn_u2l (by decide), jn_u2l (by decide), jn_u2l (by decide), jn_u2l (by decide), jn_u2l (by decide), jn_u2l (by decide)]
theorem sim_begin {op a : Int32} (h : rel T W J K) : callU n0 T T W J K 45 [.ref 1, .int op, .int a] 136 [.int op, .int a] := by
  by_cases hok : (¬ op < 0 ∧ ¬ Int32.ofNat 3 < op ∧ (¬ a < 0 ∧ ¬ Int32.ofNat 255 < a))
  · by_cases hm : J 1 8 = 0 ∧ (J 67 8 = -1 ∨ J 67 8 = Int32.ofNat 1 ∨ J 67 8 = Int32.ofNat 2)
    · have hmm := (free_eq h).mp hm
      have hok' := hok
      obtain ⟨o, ho3, rfl⟩ := nat_of (by decide) ⟨hok.1, hok.2.1⟩
      obtain ⟨ab, hab, rfl⟩ := nat_of (by decide) hok.2.2
      have hab2 : ab < 256 := by omega
      have go : ∀ (req : List Int32), 1 ≤ req.length → req.length ≤ 20 → byl req → (∀ (W1 : bw_W) (J1 : bw_J) (K0 : bw_J) (g : Nat) (L : bw_L) e, 3 ≤ e → J1 67 6 = Int32.ofNat o → J1 67 7 = Int32.ofNat ab → bm e (S0 n0) R0 50 [.ref 67] W1 (jn J1 K0) g L (bR none (am_u1 W1 80 req) (jn J1 K0) g L)) → (∀ (K2 : bw_J) (W0 : bw_W) (J0 : bw_J) (g : Nat) (L : bw_L), (∀ e, 2 ≤ e → bm e (S0 n0) R0 139 [.ref 130] W0 (mkJ (jn J0 (opJ K (o + 1) ab)) req) g L (bR none W0 (jn J0 K2) g L)) → ∀ d, 11 ≤ d → bm d (S0 n0) R0 136 [.ref 130, .int (Int32.ofNat o), .int (Int32.ofNat ab)] W0 (jn J0 K) g L (bR none W0 (jn J0 K2) g L)) → callU n0 T T W J K 45 [.ref 1, .int (Int32.ofNat o), .int (Int32.ofNat ab)] 136 [.int (Int32.ofNat o), .int (Int32.ofNat ab)] := by
        intro req r1 r2 r3 hC hM
        obtain ⟨W', J', K', e1, e2, e3, e4, e5⟩ := start_o (n0 := n0) (op := o + 1) (ab := ab) (req := req) (t := []) h (by omega) (by omega) (by omega) hab2 r1 r2 r3
        refine ⟨0, 0, W', J', K', by decide, fun d K0 g L hd => la_begin hd (fun e he => al_begin2 (n0 := n0) (W := W) (J := jn J K0) (g := g) (L := L) (by omega) hok' hm (fun e2 he2 => ?_)), fun d W0 J0 g L hd => hM K' W0 J0 g L (fun e he => by rw [jn_mk]; exact e2 e W0 J0 g L he) d hd, e4, e3, e5⟩
        refine cl_start (n0 := n0) (W := W) (J := jn J K0) (g := g) (L := L) (n := 0) (W1 := am_u1 (am_u1 (am_u1 W 78 []) 84 []) 80 req) (J1 := jn (stJ J (Int32.ofNat o) (Int32.ofNat ab)) K0) he2 (by decide) (fun e3 he3 => ?_) (fun e3 he3 => e1 e3 K0 g L he3)
        rw [jn_st]
        exact hC _ (stJ J (Int32.ofNat o) (Int32.ofNat ab)) K0 g L e3 he3 rfl rfl
      rcases (show o = 0 ∨ o = 1 ∨ o = 2 ∨ o = 3 by omega) with rfl | rfl | rfl | rfl
      · exact go [Int32.ofNat 2, Int32.ofNat ab] (by show 1 ≤ 2; decide) (by show 2 ≤ 20; decide) (byl_cons rfl (byl_cons (b255 hab2) byl_nil)) (fun W1 J1 K0 g L e he h1 h2 => cl_first0 (n0 := n0) (W := W1) (J := jn J1 K0) (g := g) (L := L) he h1 h2 hab2) (fun K2 W0 J0 g L hA d hd => mo_begin2_0 (n0 := n0) (W := W0) (J := jn J0 K) (g := g) (L := L) (by omega) hab2 hmm (fun e he => by rw [jn_op]; exact hA e he))
      · exact go [Int32.ofNat 10, Int32.ofNat ab] (by show 1 ≤ 2; decide) (by show 2 ≤ 20; decide) (byl_cons rfl (byl_cons (b255 hab2) byl_nil)) (fun W1 J1 K0 g L e he h1 h2 => cl_first1 (n0 := n0) (W := W1) (J := jn J1 K0) (g := g) (L := L) he h1 h2 hab2) (fun K2 W0 J0 g L hA d hd => mo_begin2_1 (n0 := n0) (W := W0) (J := jn J0 K) (g := g) (L := L) (by omega) hab2 hmm (fun e he => by rw [jn_op]; exact hA e he))
      · exact go [Int32.ofNat 10, Int32.ofNat ab] (by show 1 ≤ 2; decide) (by show 2 ≤ 20; decide) (byl_cons rfl (byl_cons (b255 hab2) byl_nil)) (fun W1 J1 K0 g L e he h1 h2 => cl_first2 (n0 := n0) (W := W1) (J := jn J1 K0) (g := g) (L := L) he h1 h2 hab2) (fun K2 W0 J0 g L hA d hd => mo_begin2_2 (n0 := n0) (W := W0) (J := jn J0 K) (g := g) (L := L) (by omega) hab2 hmm (fun e he => by rw [jn_op]; exact hA e he))
      · exact go [Int32.ofNat 16, Int32.ofNat 1, Int32.ofNat ab] (by show 1 ≤ 3; decide) (by show 3 ≤ 20; decide) (byl_cons rfl (byl_cons rfl (byl_cons (b255 hab2) byl_nil))) (fun W1 J1 K0 g L e he h1 h2 => cl_first3 (n0 := n0) (W := W1) (J := jn J1 K0) (g := g) (L := L) he h1 h2 hab2) (fun K2 W0 J0 g L hA d hd => mo_begin2_3 (n0 := n0) (W := W0) (J := jn J0 K) (g := g) (L := L) (by omega) hab2 hmm (fun e he => by rw [jn_op]; exact hA e he))
    · exact callU_x (k := 2) h (Or.inr rfl) (fun d K0 g L hd => la_begin_x2 hd (fun e he => al_begin1 (n0 := n0) (W := W) (J := jn J K0) (g := g) (L := L) (by omega) hok hm)) (fun d W0 J0 g L hd => mo_begin1 (n0 := n0) (W := W0) (J := jn J0 K) (g := g) (L := L) (by omega) hok (fun z => hm ((free_eq h).mpr z)))
  · exact callU_x (k := 1) h (Or.inl rfl) (fun d K0 g L hd => la_begin_x1 hd (fun e he => al_begin0 (n0 := n0) (W := W) (J := jn J K0) (g := g) (L := L) (by omega) hok)) (fun d W0 J0 g L hd => mo_begin0 (n0 := n0) (W := W0) (J := jn J0 K) (g := g) (L := L) (by omega) hok)
theorem sim_raw {v : Int64} {n : Int32} (h : rel T W J K) : callU n0 T T W J K 57 [.ref 1, .long v, .int n] 142 [.long v, .int n] := by
  by_cases hok : (¬ n = 0 ∧ (¬ n < 0 ∧ ¬ Int32.ofNat 8 < n))
  · have hok' := hok
    obtain ⟨nn, hn8, rfl⟩ := nat_of (by decide) hok.2
    have hn1 : 1 ≤ nn := by
      have := hok.1
      rw [z_eq (by omega)] at this
      omega
    have hl8 := by8_len v nn
    by_cases hm : J 1 8 = 0 ∧ (J 67 8 = -1 ∨ J 67 8 = Int32.ofNat 1 ∨ J 67 8 = Int32.ofNat 2)
    · have hmm := (free_eq h).mp hm
      obtain ⟨W', J', K', e1, e2, e3, e4, e5⟩ := start_o (n0 := n0) (op := 7) (ab := 0) (req := by8 v nn) (t := by8 v nn) h (by decide) (by decide) (by decide) (by decide) (by omega) (by omega) (byl_by8 v nn)
      refine ⟨0, 0, W', J', K', by decide, fun d K0 g L hd => la_raw hd (fun e he => al_raw2 (n0 := n0) (W := W) (J := jn J K0) (g := g) (L := L) (by omega) hok' hm (fun e2 he2 => ?_)), fun d W0 J0 g L hd => mo_raw2 (n0 := n0) (W := W0) (J := jn J0 K) (g := g) (L := L) (by omega) hn1 hn8 hmm (fun e he => ?_), e4, e3, e5⟩
      · refine cl_start (n0 := n0) (W := W) (J := jn J K0) (g := g) (L := L) (n := nn) (W1 := am_u1 (am_u1 (am_u1 W 78 []) 84 (by8 v nn)) 80 (by8 v nn)) (J1 := jn (stJ J (Int32.ofNat 6) (Int32.ofNat 0)) K0) he2 hn8 (fun e3 he3 => ?_) (fun e3 he3 => e1 e3 K0 g L he3)
        rw [jn_st]
        have := cl_first6 (n0 := n0) (W := am_u1 (am_u1 W 78 []) 84 (by8 v nn)) (J := jn (stJ J (Int32.ofNat 6) (Int32.ofNat 0)) K0) (g := g) (L := L) he3 rfl (by rw [u1_at]; omega)
        rw [u1_at] at this
        exact this
      · rw [jn_op, jn_mk]; exact e2 e W0 J0 g L he
    · exact callU_x (k := 2) h (Or.inr rfl) (fun d K0 g L hd => la_raw_x2 hd (fun e he => al_raw1 (n0 := n0) (W := W) (J := jn J K0) (g := g) (L := L) (by omega) hok hm)) (fun d W0 J0 g L hd => mo_raw1 (n0 := n0) (W := W0) (J := jn J0 K) (g := g) (L := L) (by omega) hn1 hn8 (fun z => hm ((free_eq h).mpr z)))
  · exact callU_x (k := 1) h (Or.inl rfl) (fun d K0 g L hd => la_raw_x1 hd (fun e he => al_raw0 (n0 := n0) (W := W) (J := jn J K0) (g := g) (L := L) (by omega) hok)) (fun d W0 J0 g L hd => mo_raw0 (n0 := n0) (W := W0) (J := jn J0 K) (g := g) (L := L) (by omega) hok)
theorem sim_write {hh n : Int32} {v : Int64} {b : Nat} (hb1 : b ≤ 1) (h : rel T W J K) : callU n0 T T W J K 55 [.ref 1, .int hh, .long v, .int n, .int (Int32.ofNat b)] 140 [.int hh, .long v, .int n, .int (Int32.ofNat b)] := by
  have hr := h
  obtain ⟨-, ⟨-, -, -, -, -, -, -, -, -, -, -, nt, cl, ⟨⟨-, c5, c44, c8, c20, -⟩, -⟩, -⟩, -⟩ := h
  by_cases hok : ((¬ hh < 0 ∧ ¬ Int32.ofNat 255 < hh) ∧ (¬ n < 0 ∧ ¬ Int32.ofNat 8 < n) ∧ (¬ Int32.ofNat b = 0 ∨ n ≤ Int32.ofNat cl - Int32.ofNat 2))
  · have hokc : ∀ K0 : bw_J, ((¬ hh < 0 ∧ ¬ Int32.ofNat 255 < hh) ∧ (¬ n < 0 ∧ ¬ Int32.ofNat 8 < n) ∧ (¬ Int32.ofNat b = 0 ∨ n ≤ (jn J K0) 67 5 - Int32.ofNat 2)) := fun K0 => by rw [show (jn J K0) 67 5 = J 67 5 from rfl, c5]; exact hok
    have hokm : ∀ J0 : bw_J, ((¬ hh < 0 ∧ ¬ Int32.ofNat 255 < hh) ∧ (¬ n < 0 ∧ ¬ Int32.ofNat 8 < n) ∧ (¬ Int32.ofNat b = 0 ∨ n ≤ (jn J0 K) 130 44 - Int32.ofNat 2)) := fun J0 => by rw [show (jn J0 K) 130 44 = K 130 44 from rfl, c44]; exact hok
    by_cases hm : J 1 8 = 0 ∧ (J 67 8 = -1 ∨ J 67 8 = Int32.ofNat 1 ∨ J 67 8 = Int32.ofNat 2)
    · have hmm := (free_eq hr).mp hm
      obtain ⟨ab, hab, rfl⟩ := nat_of (by decide) hok.1
      obtain ⟨nn, hn8, rfl⟩ := nat_of (by decide) hok.2.1
      have hab2 : ab < 256 := by omega
      have hl8 := by8_len v nn
      rcases (show b = 0 ∨ b = 1 by omega) with rfl | rfl
      · have hnl : nn ≤ cl - 2 := by
          have := hok.2.2.resolve_left (fun z => z rfl)
          rw [i_sub (by omega), i_le (by omega) (by omega)] at this
          exact this
        obtain ⟨W', J', K', e1, e2, e3, e4, e5⟩ := start_o (n0 := n0) (op := 5) (ab := ab) (req := Int32.ofNat 18 :: Int32.ofNat ab :: by8 v nn) (t := by8 v nn) hr (by decide) (by decide) (by decide) hab2 (by rw [List.length_cons]; omega) (by rw [List.length_cons, List.length_cons]; omega) (byl_cons rfl (byl_cons (b255 hab2) (byl_by8 v nn)))
        refine ⟨0, 0, W', J', K', by decide, fun d K0 g L hd => la_write hd (fun e he => al_write2 (n0 := n0) (W := W) (J := jn J K0) (g := g) (L := L) (by omega) (hokc K0) hm rfl (fun e2 he2 => ?_)), fun d W0 J0 g L hd => mo_write2 (n0 := n0) (W := W0) (J := jn J0 K) (g := g) (L := L) (by omega) hab2 hn8 c44 c8 c20 hnl rfl hmm (fun e he => ?_), e4, e3, e5⟩
        · refine cl_start (n0 := n0) (W := W) (J := jn J K0) (g := g) (L := L) (n := nn) (W1 := am_u1 (am_u1 (am_u1 W 78 []) 84 (by8 v nn)) 80 (Int32.ofNat 18 :: Int32.ofNat ab :: by8 v nn)) (J1 := jn (stJ J (Int32.ofNat 4) (Int32.ofNat ab)) K0) he2 hn8 (fun e3 he3 => ?_) (fun e3 he3 => e1 e3 K0 g L he3)
          rw [jn_st]
          have := cl_first4 (n0 := n0) (W := am_u1 (am_u1 W 78 []) 84 (by8 v nn)) (J := jn (stJ J (Int32.ofNat 4) (Int32.ofNat ab)) K0) (g := g) (L := L) he3 rfl (sb := ab) rfl hab2 (by rw [u1_at]; omega)
          rw [u1_at] at this
          exact this
        · rw [jn_op, jn_mk]; exact e2 e W0 J0 g L he
      · have hK1 : ∃ K1, K1 = am_u2 (am_u2 (am_u2 (am_u2 (am_u1 (opJ K 6 ab) 163 (ovw 0 (by8 v nn) (K 163))) 130 54 (Int32.ofNat nn)) 130 55 (Int32.ofNat 0)) 130 57 (Int32.ofNat 0)) 130 58 (Int32.ofNat 0) := ⟨_, rfl⟩
        obtain ⟨K1, hK1⟩ := hK1
        have kf : ∀ f, ¬ f = 54 → ¬ f = 55 → ¬ f = 57 → ¬ f = 58 → K1 130 f = opJ K 6 ab 130 f := fun f f1 f2 f3 f4 => by rw [hK1, u2_k _ _ f4, u2_k _ _ f3, u2_k _ _ f2, u2_k _ _ f1, u1_ne _ _ (by decide)]
        have k163 : K1 163 = ovw 0 (by8 v nn) (K 163) := by rw [hK1, u2_a _ _ (by decide), u2_a _ _ (by decide), u2_a _ _ (by decide), u2_a _ _ (by decide), u1_at]
        have k55 : K1 130 55 = 0 := by rw [hK1, u2_k _ _ (by decide), u2_k _ _ (by decide), u2_at]; rfl
        have k54 : K1 130 54 = Int32.ofNat nn := by rw [hK1, u2_k _ _ (by decide), u2_k _ _ (by decide), u2_k _ _ (by decide), u2_at]
        have hreq : (by8 v nn).take (cl - 3) = lst (K1 163) 0 (min (cl - 3) (nn - 0)) := by
          have := eqL_lst (l := by8 v nn) (f := K1 163) (o := 0) (by rw [k163]; exact eqL_ovw _ _ _) (min (cl - 3) (nn - 0)) 0 (by omega)
          rw [Nat.add_zero, List.drop_zero] at this
          rw [this]
          by_cases hq : cl - 3 ≤ nn
          · rw [show min (cl - 3) (nn - 0) = cl - 3 by omega]
          · rw [List.take_of_length_le (by omega), List.take_of_length_le (by omega)]
        obtain ⟨W', J', K', e1, e2, e3, e4, e5⟩ := start_sim (n0 := n0) (op := 6) (ab := ab) (req := Int32.ofNat 22 :: Int32.ofNat ab :: Int32.ofNat 0 :: (by8 v nn).take (cl - 3)) (t := by8 v nn) (K1 := K1) hr (by decide) (by decide) hab2 (by rw [List.length_cons]; omega) (by rw [List.length_cons, List.length_cons, List.length_cons, List.length_take]; omega) (byl_cons rfl (byl_cons (b255 hab2) (byl_cons rfl (byl_take _ (byl_by8 v nn))))) (fun c c0 c1 => by rw [hK1, u2_a _ _ c0, u2_a _ _ c0, u2_a _ _ c0, u2_a _ _ c0, u1_ne _ _ c1, opJ_c c0]) (fun f f0 f1 f2 f3 f4 f5 f6 => by rw [kf f f3 f4 f5 f6, opJ_f f0 f1 f2]) (by rw [kf 45 (by decide) (by decide) (by decide) (by decide)]; rfl) (by rw [kf 46 (by decide) (by decide) (by decide) (by decide)]; rfl) (by rw [kf 47 (by decide) (by decide) (by decide) (by decide)]; rfl) (by rw [kf 48 (by decide) (by decide) (by decide) (by decide)]; rfl) (by rw [kf 52 (by decide) (by decide) (by decide) (by decide)]; rfl) ⟨0, by rw [hK1, u2_k _ _ (by decide), u2_at], by decide⟩ (fun _ => ⟨by rw [hK1, u2_k _ _ (by decide), u2_at]; rfl, by rw [k54, hl8], by omega, byl_by8 v nn, by rw [k163]; exact eqL_ovw _ _ _, k55, by rw [hK1, u2_at]; rfl, by show ¬ Int32.ofNat 22 = Int32.ofNat 24; decide⟩)
        refine ⟨0, 0, W', J', K', by decide, fun d K0 g L hd => la_write hd (fun e he => al_write3 (n0 := n0) (W := W) (J := jn J K0) (g := g) (L := L) (by omega) (hokc K0) hm (by decide) (fun e2 he2 => ?_)), fun d W0 J0 g L hd => mo_write3 (n0 := n0) (W := W0) (J := jn J0 K) (g := g) (L := L) (by omega) hab2 hn8 (by decide) hmm (fun e he => ?_), by rw [e4, kf 0 (by decide) (by decide) (by decide) (by decide)]; rfl, e3, e5⟩
        · refine cl_start (n0 := n0) (W := W) (J := jn J K0) (g := g) (L := L) (n := nn) (W1 := am_u1 (am_u1 (am_u1 W 78 []) 84 (by8 v nn)) 80 (Int32.ofNat 22 :: Int32.ofNat ab :: Int32.ofNat 0 :: (by8 v nn).take (cl - 3))) (J1 := jn (stJ J (Int32.ofNat 5) (Int32.ofNat ab)) K0) he2 hn8 (fun e3 he3 => ?_) (fun e3 he3 => e1 e3 K0 g L he3)
          rw [jn_st]
          have := cl_first5 (n0 := n0) (W := am_u1 (am_u1 W 78 []) 84 (by8 v nn)) (J := jn (stJ J (Int32.ofNat 5) (Int32.ofNat ab)) K0) (g := g) (L := L) he3 rfl (pl := 0) (sb := ab) (lm := cl) rfl (by decide) rfl hab2 c5 c8 c20
          rw [u1_at, List.drop_zero] at this
          exact this
        · rw [jn_op, jn_ge (c := 163) (by decide), jn_u1r (by decide), jn_u2r (by decide), jn_u2r (by decide), jn_u2r (by decide), jn_u2r (by decide), ← hK1]
          refine mo_writeOn (n0 := n0) (W := W0) (J := jn J0 K1) (g := g) (L := L) he (wp := 0) (ws := nn) (lm := cl) k55 (by decide) k54 hn8 (by rw [jn_ge (by decide), kf 44 (by decide) (by decide) (by decide) (by decide), opJ_f (by decide) (by decide) (by decide)]; exact c44) c8 c20 (fun k hk => ?_) (ab := ab) (by rw [jn_ge (by decide), kf 46 (by decide) (by decide) (by decide) (by decide)]; rfl) hab2 (fun e9 he9 => ?_)
          · rw [jn_ge (by decide), k163, ovw_0 (by omega)]; exact byl_by8 v nn k
          · rw [jn_ge (c := 163) (by decide), ← hreq, jn_mk]
            exact e2 e9 W0 J0 g L he9
    · exact callU_x (k := 2) hr (Or.inr rfl) (fun d K0 g L hd => la_write_x2 hd (fun e he => al_write1 (n0 := n0) (W := W) (J := jn J K0) (g := g) (L := L) (by omega) (hokc K0) hm)) (fun d W0 J0 g L hd => mo_write1 (n0 := n0) (W := W0) (J := jn J0 K) (g := g) (L := L) (by omega) (hokm J0) (fun z => hm ((free_eq hr).mpr z)))
  · exact callU_x (k := 1) hr (Or.inl rfl) (fun d K0 g L hd => la_write_x1 hd (fun e he => al_write0 (n0 := n0) (W := W) (J := jn J K0) (g := g) (L := L) (by omega) (by rw [show (jn J K0) 67 5 = J 67 5 from rfl, c5]; exact hok))) (fun d W0 J0 g L hd => mo_write0 (n0 := n0) (W := W0) (J := jn J0 K) (g := g) (L := L) (by omega) (by rw [show (jn J0 K) 130 44 = K 130 44 from rfl, c44]; exact hok))
end R3
