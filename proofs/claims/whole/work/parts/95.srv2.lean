/-! Part 95 (written by gen63.py): the server's requests, class and reference side by side -/
theorem u1_sh {α : Type} (f : Nat → α) {a b : Nat} (x y z : α) (h : ¬ a = b) : am_u1 (am_u1 (am_u1 f a x) b y) a z = am_u1 (am_u1 f b y) a z := by
  rw [u1_comm _ _ _ h, u1_u1]
theorem u2_cc {α : Type} (f : Nat → Nat → α) {a i j : Nat} (x y : α) (h : ¬ i = j) : am_u2 (am_u2 f a i x) a j y = am_u2 (am_u2 f a j y) a i x := by
  rw [u2_u1 f a i x, u21, u1_comm _ _ _ h, ← u21, ← u2_u1]
theorem mkJ_u130 (K : bw_J) (l : List Int32) {f : Nat} (x : Int32) (h : ¬ f = 29) : am_u2 (mkJ K l) 130 f x = mkJ (am_u2 K 130 f x) l := by
  unfold mkJ
  rw [u2_cc _ _ _ (fun z => h z.symm), u2_a _ _ (by decide), u12c _ _ _ (by decide)]
theorem mo_sz24n {n0 : Nat} {W : bw_W} {J : bw_J} {g : Nat} {L : bw_L} {d : Nat} (hd : 1 ≤ d) (hop : J 150 0 = Int32.ofNat 24) {n : Nat} (hn : J 130 27 = Int32.ofNat n) (hn20 : n ≤ 20) (hx : ¬ n = 2) : bm d (S0 n0) R0 162 [.ref 130] W J g L (bR (some (.int 0)) W J g L) := by
  obtain ⟨e, rfl⟩ : ∃ e, d = e + 1 := ⟨d - 1, by omega⟩
  refine bm_of (Nat.le_of_ble_eq_true rfl) (Or.inr bR_ret) ?_
  show bT e (S0 n0) R0 mt_Mo_sized _ 0 [(0, .ref 130)] [] W J g L 0 0
  refine b_aln (pc2 := 1) d_Mo_sized_0 rfl rfl ?_
  refine b_gr (pc2 := 4) d_Mo_sized_1 q_11_72 (sh_130 n0) (by decide) (by decide) (p_130_28 n0) rfl ?_
  refine b_ic (pc2 := 5) (x := Int32.ofNat 0) d_Mo_sized_4 rfl rfl ?_
  refine b_ia (pc2 := 6) (q := 0) d_Mo_sized_5 (sh_150 n0) (i_in (i := 0) (by decide) (by decide)) (rfl) (rc_150) rfl ?_
  rw [hop]
  refine b_isn (pc2 := 7) (al2 := [(1, _), (0, _)]) d_Mo_sized_6 (by decide) rfl rfl ?_
  refine b_iln (pc2 := 8) d_Mo_sized_7 rfl rfl ?_
  refine b_ic (pc2 := 9) (x := Int32.ofNat 2) d_Mo_sized_8 rfl rfl ?_
  refine b_ifd (pc2 := 18) d_Mo_sized_9 rfl rfl rfl rfl rfl (fun h9 => ?_) (fun h9 => ?_)
  · exact absurd h9 (by decide)
  refine b_iln (pc2 := 13) d_Mo_sized_12 rfl rfl ?_
  refine b_bp (pc2 := 15) (x := Int32.ofNat 10) d_Mo_sized_13 rfl rfl ?_
  refine b_ifd (pc2 := 32) d_Mo_sized_15 rfl rfl rfl rfl rfl (fun h15 => ?_) (fun h15 => ?_)
  rotate_left
  · exact absurd (by decide) h15
  refine b_iln (pc2 := 33) d_Mo_sized_32 rfl rfl ?_
  refine b_bp (pc2 := 35) (x := Int32.ofNat 12) d_Mo_sized_33 rfl rfl ?_
  refine b_ifd (pc2 := 44) d_Mo_sized_35 rfl rfl rfl rfl rfl (fun h35 => ?_) (fun h35 => ?_)
  · exact absurd h35 (by decide)
  refine b_iln (pc2 := 39) d_Mo_sized_38 rfl rfl ?_
  refine b_bp (pc2 := 41) (x := Int32.ofNat 16) d_Mo_sized_39 rfl rfl ?_
  refine b_ifd (pc2 := 58) d_Mo_sized_41 rfl rfl rfl rfl rfl (fun h41 => ?_) (fun h41 => ?_)
  rotate_left
  · exact absurd (by decide) h41
  refine b_iln (pc2 := 59) d_Mo_sized_58 rfl rfl ?_
  refine b_bp (pc2 := 61) (x := Int32.ofNat 24) d_Mo_sized_59 rfl rfl ?_
  refine b_ifd (pc2 := 88) d_Mo_sized_61 rfl rfl rfl rfl rfl (fun h61 => ?_) (fun h61 => ?_)
  · exact absurd h61 (by decide)
  refine b_aln (pc2 := 65) d_Mo_sized_64 rfl rfl ?_
  refine b_gi (pc2 := 68) d_Mo_sized_65 q_11_174 (sh_130 n0) (by decide) (by decide) (rc_130) rfl ?_
  rw [hn]
  refine b_ic (pc2 := 69) (x := Int32.ofNat 2) d_Mo_sized_68 rfl rfl ?_
  refine b_ifd (pc2 := 86) d_Mo_sized_69 rfl rfl rfl rfl rfl (fun h69 => ?_) (fun h69 => ?_)
  rotate_left
  · exact absurd (by rw [i_eq (by omega) (by omega)]; omega) h69
  refine b_ic (pc2 := 87) (x := Int32.ofNat 0) d_Mo_sized_86 rfl rfl ?_
  refine b_br d_Mo_sized_87 rfl (by decide) ?_
  exact ⟨rfl, rfl, rfl, rfl, rfl⟩
section SX
variable {n0 : Nat} {W : bw_W} {J K : bw_J} {fr w ct cn pn sl : Nat}
theorem srv_u {op : Nat} (h : srvIn W J K fr w ct cn pn sl) (hne : 0 < (W 57).length) (hop : (W 57).getD 0 0 = Int32.ofNat op) (ho2 : op < 256) (ho30 : ¬ op = 30) (ho : ¬ (op = 2 ∨ op = 10 ∨ op = 12 ∨ op = 16 ∨ op = 18 ∨ op = 22 ∨ op = 24)) : srvEnd n0 W J K := by
  have h150 := in150 h hne
  rw [hop] at h150
  exact srv_x h hne hop ho2 ho30 (by decide) (by decide) (fun e K0 g L he => se_shape0 he hop ho2 ho) (fun K1 W0 J0 g L hR d hd => mo_sh_0 hd h.2.2.2.2.1 h.2.2.1 hne h150 ho2 ho ho30 hR)
theorem shp_2 (hop : (W 57).getD 0 0 = Int32.ofNat 2) (hp : (W 57).length = 2) : ∀ (e : Nat) (K0 : bw_J) (g : Nat) (L : bw_L), 2 ≤ e → bm e (S0 n0) R0 78 [.ref 57] (am_u1 W 128 []) (jn J K0) g L (bR (some (.int (Int32.ofNat 0))) (am_u1 W 128 []) (jn J K0) g L) := fun e K0 g L he => by
  have := se_shape2 (n0 := n0) (W := am_u1 W 128 []) (J := jn J K0) (g := g) (L := L) he hop
  rw [show am_u1 W 128 [] 57 = W 57 from rfl, if_pos hp] at this
  exact this
theorem szd_2 (h : srvIn W J K fr w ct cn pn sl) (h150 : K 150 0 = Int32.ofNat 2) (hp : (W 57).length = 2) : ∀ (W0 : bw_W) (J0 : bw_J) (g : Nat) (L : bw_L) (e : Nat), 1 ≤ e → bm e (S0 n0) R0 162 [.ref 130] W0 (jn J0 K) g L (bR (some (.int 1)) W0 (jn J0 K) g L) := fun W0 J0 g L e he => by
  have := mo_sized2 (n0 := n0) (W := W0) (J := jn J0 K) (g := g) (L := L) he h150 (n := (W 57).length) h.2.2.2.2.1 h.2.2.1
  rw [if_pos hp] at this
  exact this
theorem srv_b2 (h : srvIn W J K fr w ct cn pn sl) (hne : 0 < (W 57).length) (hop : (W 57).getD 0 0 = Int32.ofNat 2) (hp : ¬ (W 57).length = 2) : srvEnd n0 W J K := by
  have h150 := in150 h hne
  rw [hop] at h150
  refine srv_x h hne hop (by decide) (by decide) (c := 4) (by decide) (by decide) (fun e K0 g L he => ?_) (fun K1 W0 J0 g L hR d hd => mo_sh_x2 hd h.2.2.2.2.1 h.2.2.1 hne h150 (fun e he => ?_) hR)
  · have := se_shape2 (n0 := n0) (W := am_u1 W 128 []) (J := jn J K0) (g := g) (L := L) he hop
    rw [show am_u1 W 128 [] 57 = W 57 from rfl, if_neg hp] at this
    exact this
  · have := mo_sized2 (n0 := n0) (W := W0) (J := jn J0 K) (g := g) (L := L) he h150 (n := (W 57).length) h.2.2.2.2.1 h.2.2.1
    rw [if_neg hp] at this
    exact this
theorem shp_10 (hop : (W 57).getD 0 0 = Int32.ofNat 10) (hp : (W 57).length = 2) : ∀ (e : Nat) (K0 : bw_J) (g : Nat) (L : bw_L), 2 ≤ e → bm e (S0 n0) R0 78 [.ref 57] (am_u1 W 128 []) (jn J K0) g L (bR (some (.int (Int32.ofNat 0))) (am_u1 W 128 []) (jn J K0) g L) := fun e K0 g L he => by
  have := se_shape10 (n0 := n0) (W := am_u1 W 128 []) (J := jn J K0) (g := g) (L := L) he hop
  rw [show am_u1 W 128 [] 57 = W 57 from rfl, if_pos hp] at this
  exact this
theorem szd_10 (h : srvIn W J K fr w ct cn pn sl) (h150 : K 150 0 = Int32.ofNat 10) (hp : (W 57).length = 2) : ∀ (W0 : bw_W) (J0 : bw_J) (g : Nat) (L : bw_L) (e : Nat), 1 ≤ e → bm e (S0 n0) R0 162 [.ref 130] W0 (jn J0 K) g L (bR (some (.int 1)) W0 (jn J0 K) g L) := fun W0 J0 g L e he => by
  have := mo_sized10 (n0 := n0) (W := W0) (J := jn J0 K) (g := g) (L := L) he h150 (n := (W 57).length) h.2.2.2.2.1 h.2.2.1
  rw [if_pos hp] at this
  exact this
theorem srv_b10 (h : srvIn W J K fr w ct cn pn sl) (hne : 0 < (W 57).length) (hop : (W 57).getD 0 0 = Int32.ofNat 10) (hp : ¬ (W 57).length = 2) : srvEnd n0 W J K := by
  have h150 := in150 h hne
  rw [hop] at h150
  refine srv_x h hne hop (by decide) (by decide) (c := 4) (by decide) (by decide) (fun e K0 g L he => ?_) (fun K1 W0 J0 g L hR d hd => mo_sh_x10 hd h.2.2.2.2.1 h.2.2.1 hne h150 (fun e he => ?_) hR)
  · have := se_shape10 (n0 := n0) (W := am_u1 W 128 []) (J := jn J K0) (g := g) (L := L) he hop
    rw [show am_u1 W 128 [] 57 = W 57 from rfl, if_neg hp] at this
    exact this
  · have := mo_sized10 (n0 := n0) (W := W0) (J := jn J0 K) (g := g) (L := L) he h150 (n := (W 57).length) h.2.2.2.2.1 h.2.2.1
    rw [if_neg hp] at this
    exact this
theorem shp_12 (hop : (W 57).getD 0 0 = Int32.ofNat 12) (hp : (W 57).length = 3) : ∀ (e : Nat) (K0 : bw_J) (g : Nat) (L : bw_L), 2 ≤ e → bm e (S0 n0) R0 78 [.ref 57] (am_u1 W 128 []) (jn J K0) g L (bR (some (.int (Int32.ofNat 0))) (am_u1 W 128 []) (jn J K0) g L) := fun e K0 g L he => by
  have := se_shape12 (n0 := n0) (W := am_u1 W 128 []) (J := jn J K0) (g := g) (L := L) he hop
  rw [show am_u1 W 128 [] 57 = W 57 from rfl, if_pos hp] at this
  exact this
theorem szd_12 (h : srvIn W J K fr w ct cn pn sl) (h150 : K 150 0 = Int32.ofNat 12) (hp : (W 57).length = 3) : ∀ (W0 : bw_W) (J0 : bw_J) (g : Nat) (L : bw_L) (e : Nat), 1 ≤ e → bm e (S0 n0) R0 162 [.ref 130] W0 (jn J0 K) g L (bR (some (.int 1)) W0 (jn J0 K) g L) := fun W0 J0 g L e he => by
  have := mo_sized12 (n0 := n0) (W := W0) (J := jn J0 K) (g := g) (L := L) he h150 (n := (W 57).length) h.2.2.2.2.1 h.2.2.1
  rw [if_pos hp] at this
  exact this
theorem srv_b12 (h : srvIn W J K fr w ct cn pn sl) (hne : 0 < (W 57).length) (hop : (W 57).getD 0 0 = Int32.ofNat 12) (hp : ¬ (W 57).length = 3) : srvEnd n0 W J K := by
  have h150 := in150 h hne
  rw [hop] at h150
  refine srv_x h hne hop (by decide) (by decide) (c := 4) (by decide) (by decide) (fun e K0 g L he => ?_) (fun K1 W0 J0 g L hR d hd => mo_sh_x12 hd h.2.2.2.2.1 h.2.2.1 hne h150 (fun e he => ?_) hR)
  · have := se_shape12 (n0 := n0) (W := am_u1 W 128 []) (J := jn J K0) (g := g) (L := L) he hop
    rw [show am_u1 W 128 [] 57 = W 57 from rfl, if_neg hp] at this
    exact this
  · have := mo_sized12 (n0 := n0) (W := W0) (J := jn J0 K) (g := g) (L := L) he h150 (n := (W 57).length) h.2.2.2.2.1 h.2.2.1
    rw [if_neg hp] at this
    exact this
theorem shp_16 (hop : (W 57).getD 0 0 = Int32.ofNat 16) (hp : (W 57).length = 3) : ∀ (e : Nat) (K0 : bw_J) (g : Nat) (L : bw_L), 2 ≤ e → bm e (S0 n0) R0 78 [.ref 57] (am_u1 W 128 []) (jn J K0) g L (bR (some (.int (Int32.ofNat 0))) (am_u1 W 128 []) (jn J K0) g L) := fun e K0 g L he => by
  have := se_shape16 (n0 := n0) (W := am_u1 W 128 []) (J := jn J K0) (g := g) (L := L) he hop
  rw [show am_u1 W 128 [] 57 = W 57 from rfl, if_pos hp] at this
  exact this
theorem szd_16 (h : srvIn W J K fr w ct cn pn sl) (h150 : K 150 0 = Int32.ofNat 16) (hp : (W 57).length = 3) : ∀ (W0 : bw_W) (J0 : bw_J) (g : Nat) (L : bw_L) (e : Nat), 1 ≤ e → bm e (S0 n0) R0 162 [.ref 130] W0 (jn J0 K) g L (bR (some (.int 1)) W0 (jn J0 K) g L) := fun W0 J0 g L e he => by
  have := mo_sized16 (n0 := n0) (W := W0) (J := jn J0 K) (g := g) (L := L) he h150 (n := (W 57).length) h.2.2.2.2.1 h.2.2.1
  rw [if_pos hp] at this
  exact this
theorem srv_b16 (h : srvIn W J K fr w ct cn pn sl) (hne : 0 < (W 57).length) (hop : (W 57).getD 0 0 = Int32.ofNat 16) (hp : ¬ (W 57).length = 3) : srvEnd n0 W J K := by
  have h150 := in150 h hne
  rw [hop] at h150
  refine srv_x h hne hop (by decide) (by decide) (c := 4) (by decide) (by decide) (fun e K0 g L he => ?_) (fun K1 W0 J0 g L hR d hd => mo_sh_x16 hd h.2.2.2.2.1 h.2.2.1 hne h150 (fun e he => ?_) hR)
  · have := se_shape16 (n0 := n0) (W := am_u1 W 128 []) (J := jn J K0) (g := g) (L := L) he hop
    rw [show am_u1 W 128 [] 57 = W 57 from rfl, if_neg hp] at this
    exact this
  · have := mo_sized16 (n0 := n0) (W := W0) (J := jn J0 K) (g := g) (L := L) he h150 (n := (W 57).length) h.2.2.2.2.1 h.2.2.1
    rw [if_neg hp] at this
    exact this
theorem shp_18 (hop : (W 57).getD 0 0 = Int32.ofNat 18) (hp : 2 ≤ (W 57).length) : ∀ (e : Nat) (K0 : bw_J) (g : Nat) (L : bw_L), 2 ≤ e → bm e (S0 n0) R0 78 [.ref 57] (am_u1 W 128 []) (jn J K0) g L (bR (some (.int (Int32.ofNat 0))) (am_u1 W 128 []) (jn J K0) g L) := fun e K0 g L he => by
  have := se_shape18 (n0 := n0) (W := am_u1 W 128 []) (J := jn J K0) (g := g) (L := L) he hop
  rw [show am_u1 W 128 [] 57 = W 57 from rfl, if_pos hp] at this
  exact this
theorem szd_18 (h : srvIn W J K fr w ct cn pn sl) (h150 : K 150 0 = Int32.ofNat 18) (hp : 2 ≤ (W 57).length) : ∀ (W0 : bw_W) (J0 : bw_J) (g : Nat) (L : bw_L) (e : Nat), 1 ≤ e → bm e (S0 n0) R0 162 [.ref 130] W0 (jn J0 K) g L (bR (some (.int 1)) W0 (jn J0 K) g L) := fun W0 J0 g L e he => by
  have := mo_sized18 (n0 := n0) (W := W0) (J := jn J0 K) (g := g) (L := L) he h150 (n := (W 57).length) h.2.2.2.2.1 h.2.2.1
  rw [if_pos hp] at this
  exact this
theorem srv_b18 (h : srvIn W J K fr w ct cn pn sl) (hne : 0 < (W 57).length) (hop : (W 57).getD 0 0 = Int32.ofNat 18) (hp : ¬ 2 ≤ (W 57).length) : srvEnd n0 W J K := by
  have h150 := in150 h hne
  rw [hop] at h150
  refine srv_x h hne hop (by decide) (by decide) (c := 4) (by decide) (by decide) (fun e K0 g L he => ?_) (fun K1 W0 J0 g L hR d hd => mo_sh_x18 hd h.2.2.2.2.1 h.2.2.1 hne h150 (fun e he => ?_) hR)
  · have := se_shape18 (n0 := n0) (W := am_u1 W 128 []) (J := jn J K0) (g := g) (L := L) he hop
    rw [show am_u1 W 128 [] 57 = W 57 from rfl, if_neg hp] at this
    exact this
  · have := mo_sized18 (n0 := n0) (W := W0) (J := jn J0 K) (g := g) (L := L) he h150 (n := (W 57).length) h.2.2.2.2.1 h.2.2.1
    rw [if_neg hp] at this
    exact this
theorem shp_22 (hop : (W 57).getD 0 0 = Int32.ofNat 22) (hp : 3 ≤ (W 57).length) : ∀ (e : Nat) (K0 : bw_J) (g : Nat) (L : bw_L), 2 ≤ e → bm e (S0 n0) R0 78 [.ref 57] (am_u1 W 128 []) (jn J K0) g L (bR (some (.int (Int32.ofNat 0))) (am_u1 W 128 []) (jn J K0) g L) := fun e K0 g L he => by
  have := se_shape22 (n0 := n0) (W := am_u1 W 128 []) (J := jn J K0) (g := g) (L := L) he hop
  rw [show am_u1 W 128 [] 57 = W 57 from rfl, if_pos hp] at this
  exact this
theorem szd_22 (h : srvIn W J K fr w ct cn pn sl) (h150 : K 150 0 = Int32.ofNat 22) (hp : 3 ≤ (W 57).length) : ∀ (W0 : bw_W) (J0 : bw_J) (g : Nat) (L : bw_L) (e : Nat), 1 ≤ e → bm e (S0 n0) R0 162 [.ref 130] W0 (jn J0 K) g L (bR (some (.int 1)) W0 (jn J0 K) g L) := fun W0 J0 g L e he => by
  have := mo_sized22 (n0 := n0) (W := W0) (J := jn J0 K) (g := g) (L := L) he h150 (n := (W 57).length) h.2.2.2.2.1 h.2.2.1
  rw [if_pos hp] at this
  exact this
theorem srv_b22 (h : srvIn W J K fr w ct cn pn sl) (hne : 0 < (W 57).length) (hop : (W 57).getD 0 0 = Int32.ofNat 22) (hp : ¬ 3 ≤ (W 57).length) : srvEnd n0 W J K := by
  have h150 := in150 h hne
  rw [hop] at h150
  refine srv_x h hne hop (by decide) (by decide) (c := 4) (by decide) (by decide) (fun e K0 g L he => ?_) (fun K1 W0 J0 g L hR d hd => mo_sh_x22 hd h.2.2.2.2.1 h.2.2.1 hne h150 (fun e he => ?_) hR)
  · have := se_shape22 (n0 := n0) (W := am_u1 W 128 []) (J := jn J K0) (g := g) (L := L) he hop
    rw [show am_u1 W 128 [] 57 = W 57 from rfl, if_neg hp] at this
    exact this
  · have := mo_sized22 (n0 := n0) (W := W0) (J := jn J0 K) (g := g) (L := L) he h150 (n := (W 57).length) h.2.2.2.2.1 h.2.2.1
    rw [if_neg hp] at this
    exact this
theorem srv_b24 (h : srvIn W J K fr w ct cn pn sl) (hne : 0 < (W 57).length) (hop : (W 57).getD 0 0 = Int32.ofNat 24) (hp : ¬ ((W 57).length = 2 ∧ (W 57).getD 1 0 = Int32.ofNat 0 ∨ (W 57).length = 2 ∧ (W 57).getD 1 0 = Int32.ofNat 1)) : srvEnd n0 W J K := by
  have h150 := in150 h hne
  rw [hop] at h150
  obtain ⟨b1, hb2, hb⟩ := byl_n h.2.2.2.1 1
  have hp1 : ¬ ((W 57).length = 2 ∧ b1 ≤ 1) := fun z => by
    rcases (show b1 = 0 ∨ b1 = 1 by omega) with q | q <;> subst q
    · exact hp (Or.inl ⟨z.1, hb⟩)
    · exact hp (Or.inr ⟨z.1, hb⟩)
  by_cases hl2 : (W 57).length = 2
  · refine srv_x h hne hop (by decide) (by decide) (c := 4) (by decide) (by decide) (fun e K0 g L he => ?_) (fun K1 W0 J0 g L hR d hd => mo_sh_x24 hd h.2.2.2.2.1 h.2.2.1 hne h150 (fun e he => ?_) hR)
    · have := se_shape24 (n0 := n0) (W := am_u1 W 128 []) (J := jn J K0) (g := g) (L := L) he hop hb hb2
      rw [show am_u1 W 128 [] 57 = W 57 from rfl, if_neg hp1] at this
      exact this
    · have hk := in150 h (show 1 < (W 57).length by omega)
      rw [hb] at hk
      have := mo_sized24 (n0 := n0) (W := W0) (J := jn J0 K) (g := g) (L := L) he h150 (n := (W 57).length) h.2.2.2.2.1 h.2.2.1 (b1 := b1) hk hb2
      rw [if_neg (fun z => hp1 ⟨z.1, by omega⟩)] at this
      exact this
  · refine srv_x h hne hop (by decide) (by decide) (c := 4) (by decide) (by decide) (fun e K0 g L he => ?_) (fun K1 W0 J0 g L hR d hd => mo_sh_x24 hd h.2.2.2.2.1 h.2.2.1 hne h150 (fun e he => ?_) hR)
    · have := se_shape24 (n0 := n0) (W := am_u1 W 128 []) (J := jn J K0) (g := g) (L := L) he hop hb hb2
      rw [show am_u1 W 128 [] 57 = W 57 from rfl, if_neg hp1] at this
      exact this
    · exact mo_sz24n he h150 h.2.2.2.2.1 h.2.2.1 hl2
theorem srv_2 (h : srvIn W J K fr w ct cn pn sl) (hne : 0 < (W 57).length) (hop : (W 57).getD 0 0 = Int32.ofNat 2) (hp : (W 57).length = 2) : srvEnd n0 W J K := by
  have h150 := in150 h hne
  rw [hop] at h150
  obtain ⟨b1, hb2, hb⟩ := byl_n h.2.2.2.1 1
  have hk1 := in150 h (show 1 < (W 57).length by omega)
  rw [hb] at hk1
  have hI := h
  obtain ⟨h1, h2, h3, h4, h5, h6⟩ := h
  obtain ⟨s1, s2, s3, s4, s5, s6, s7, s8, s9, s10, s11, s12, s13, s14, s15, s16⟩ := h1
  refine srv_a (W1 := W) (J1 := am_u2 J 86 6 (Int32.ofNat (max 8 (min 20 b1)))) (K1 := am_u2 K 130 37 (Int32.ofNat (max 8 (min 20 b1)))) (l := [Int32.ofNat 3, Int32.ofNat 20]) (cn1 := cn) (pn1 := pn) (sl1 := max 8 (min 20 b1)) hI hne hop (by decide) (by decide) (shp_2 hop hp) (fun e K0 g L he => ?_) (fun K2 W0 J0 g L hG d hd => ?_) (by decide) (byl_cons rfl (byl_cons rfl byl_nil)) ⟨?_, ?_, s3, fun i hi => ?_, s5, s6, ?_, ?_, s9, s10, ?_, ?_, by omega, by omega, ?_, ?_⟩ (rOut_fc h2 rfl (fun _ _ => rfl) (fun c c1 c2 => u2_a _ _ (by omega))) ⟨fun _ _ _ _ => rfl, fun c _ c2 _ => u2_a _ _ c2, kEq_of fun c c1 c2 => u2_a _ _ (by omega), fun c c1 _ _ _ _ _ => u2_a _ _ c1, fun f _ f2 _ _ => u2_k _ _ f2⟩
  · have := se_to_2 (n0 := n0) (W := am_u1 W 128 []) (J := jn J K0) (g := g) (L := L) he hop hb hb2 (u1_at _ _ _)
    rw [u1_u1, jn_u2l (by decide)] at this
    exact this
  · refine mo_sh_2 hd h5 h3 hne h150 (fun e he => szd_2 hI h150 hp W0 J0 g L e he) (fun e he => mo_agree (n0 := n0) (W := W0) (J := jn J0 K) (b1 := b1) (by omega) hk1 hb2 (fun e2 he2 => ?_))
    rw [jn_u2r (by decide), jn_mk]
    exact hG e2 he2
  · rw [u2_k _ _ (by decide)]; exact s1
  · rw [u2_k _ _ (by decide)]; exact s2
  · rw [u2_a _ _ (by omega)]; exact s4 i hi
  · rw [u2_k _ _ (by decide)]; exact s7
  · rw [u2_k _ _ (by decide)]; exact s8
  · rw [u2_at]
  · rw [u2_at]
  · rw [u2_k _ _ (by decide), u2_k _ _ (by decide)]; exact s15
  · rw [u2_k _ _ (by decide)]; exact s16
theorem fnd_eq {J K : bw_J} (h : ∀ i, i < 10 → J (88 + 3 * i) 1 = K 152 i) (x : Int32) : ∀ (k f : Nat), 1 ≤ f → k + f ≤ 11 → fnd J x k f = fndM (K 152) x k f
  | 0, _, _, _ => rfl
  | k + 1, f, h1, h2 => by
    show (if J (88 + 3 * (f - 1)) 1 = x then some f else fnd J x k (f + 1)) = (if K 152 (f - 1) = x then some f else fndM (K 152) x k (f + 1))
    rw [h (f - 1) (by omega), fnd_eq h x k (f + 1) (by omega) (by omega)]
theorem fndM_le (g : Nat → Int32) (x : Int32) : ∀ (k f q : Nat), fndM g x k f = some q → q < k + f
  | 0, _, _, h => nomatch h
  | k + 1, f, q, h => by
    have h' : (if g (f - 1) = x then some f else fndM g x k (f + 1)) = some q := h
    by_cases hx : g (f - 1) = x
    · rw [if_pos hx] at h'
      have := Option.some.inj h'
      omega
    · rw [if_neg hx] at h'
      have := fndM_le g x k (f + 1) q h'
      omega
theorem srv_16 (h : srvIn W J K fr w ct cn pn sl) (hne : 0 < (W 57).length) (hop : (W 57).getD 0 0 = Int32.ofNat 16) (hp : (W 57).length = 3) : srvEnd n0 W J K := by
  have h150 := in150 h hne
  rw [hop] at h150
  obtain ⟨f, hf2, hf⟩ := byl_n h.2.2.2.1 1
  have hk1 := in150 h (show 1 < (W 57).length by omega)
  rw [hf] at hk1
  have hk2 := in150 h (show 2 < (W 57).length by omega)
  have hI := h
  obtain ⟨h1, h2, h3, h4, h5, h6⟩ := h
  obtain ⟨s1, s2, s3, s4, s5, s6, s7, s8, s9, s10, s11, s12, s13, s14, s15, s16⟩ := h1
  have hfe : ∀ K0 : bw_J, fnd (jn J K0) ((W 57).getD 2 0) (cn + 1 - max f 1) (max f 1) = fndM (K 152) (K 150 2) (cn + 1 - max f 1) (max f 1) := fun K0 => by
    by_cases hz : max f 1 ≤ cn
    · rw [fnd_eq (J := jn J K0) (K := K) (fun i hi => by rw [jn_lt (by omega)]; exact (s4 i hi).1) _ _ _ (by omega) (by omega), hk2]
    · rw [show cn + 1 - max f 1 = 0 by omega]; rfl
  have hcl := fun (e : Nat) (K0 : bw_J) (g : Nat) (L : bw_L) (he : 2 ≤ e) => se_answerFind (n0 := n0) (W := am_u1 W 128 []) (J := jn J K0) (g := g) (L := L) he (ct := cn) (f := f) s1 s3 hf2 (x := (W 57).getD 2 0) (u1_at _ _ _)
  simp only [hfe] at hcl
  cases hq : fndM (K 152) (K 150 2) (cn + 1 - max f 1) (max f 1) with
  | some q =>
    have hq10 := fndM_le _ _ _ _ _ hq
    simp only [hq] at hcl
    refine srv_a (W1 := W) (J1 := J) (K1 := K) (l := [Int32.ofNat 17, Int32.ofNat q]) hI hne hop (by decide) (by decide) (shp_16 hop hp) (fun e K0 g L he => ?_) (fun K2 W0 J0 g L hG d hd => ?_) (by show 2 ≤ 20; decide) (byl_cons rfl (byl_cons (b255 (by omega)) byl_nil)) ⟨s1, s2, s3, s4, s5, s6, s7, s8, s9, s10, s11, s12, s13, s14, s15, s16⟩ h2 (fS_rf _ _ _)
    · refine se_to_16 (n0 := n0) (W := am_u1 W 128 []) (J := jn J K0) he hop (fun e2 he2 => ?_)
      have := hcl e2 K0 g L (by omega)
      rw [u1_u1] at this
      rw [show (am_u1 W 128 [] 57).getD 1 0 = Int32.ofNat f from hf]
      exact this
    · refine mo_sh_16 hd h5 h3 hne h150 (fun e he => szd_16 hI h150 hp W0 J0 g L e he) (fun e he => mo_seek (n0 := n0) (W := W0) (J := jn J0 K) (ct := cn) (f := f) (by omega) s2 s3 hk1 hf2 ?_)
      rw [jn_ge (c := 152) (by decide), jn_ge (c := 150) (by decide), hq]
      intro e2 he2
      rw [jn_mk]
      exact hG e2 he2
  | none =>
    simp only [hq] at hcl
    refine srv_r (W1 := W) (J1 := J) (K1 := K) (c := 10) (hn := f) hI hne hop (by decide) (by decide) (shp_16 hop hp) (by decide) (by decide) hf hf2 [] (fun e K0 g L he => ?_) (fun K2 W0 J0 g L hG d hd => ?_) ⟨s1, s2, s3, s4, s5, s6, s7, s8, s9, s10, s11, s12, s13, s14, s15, s16⟩ h2 (fS_rf _ _ _) rfl rfl
    · refine se_to_16 (n0 := n0) (W := am_u1 W 128 []) (J := jn J K0) he hop (fun e2 he2 => ?_)
      rw [show (am_u1 W 128 [] 57).getD 1 0 = Int32.ofNat f from hf]
      exact hcl e2 K0 g L (by omega)
    · refine mo_sh_16 hd h5 h3 hne h150 (fun e he => szd_16 hI h150 hp W0 J0 g L e he) (fun e he => mo_seek (n0 := n0) (W := W0) (J := jn J0 K) (ct := cn) (f := f) (by omega) s2 s3 hk1 hf2 ?_)
      rw [jn_ge (c := 152) (by decide), jn_ge (c := 150) (by decide), hq]
      intro e2 he2
      rw [hk1]
      exact hG e2 he2
end SX
