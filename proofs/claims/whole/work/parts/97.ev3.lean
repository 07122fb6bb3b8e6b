/-! Part 97 (written by gen67.py): an event, class and reference side by side -/
def rel (T : Nat) (W : bw_W) (J K : bw_J) : Prop := rChs J K ∧ core T W J K ∧ ∃ ev ms mc dn, J 1 6 = Int32.ofNat ev ∧ K 130 6 = Int32.ofNat ev ∧ ev ≤ T ∧ J 1 7 = K 130 5 ∧ J 1 8 = Int32.ofNat dn ∧ K 130 7 = Int32.ofNat dn ∧ dn ≤ 1 ∧ J 37 9 = Int32.ofNat ms ∧ K 135 1 = Int32.ofNat ms ∧ J 7 9 = Int32.ofNat mc ∧ K 135 0 = Int32.ofNat mc ∧ ms ≤ 6 ∧ mc ≤ 6 ∧ (dn = 0 → ms < 6 ∧ mc < 6)
def evEnd (n0 T : Nat) (W : bw_W) (J K : bw_J) (fa : Nat) (up dw : Int64) : Prop := ∃ (v : Nat) (W' : bw_W) (J' K' : bw_J), v ≤ 3 ∧ (∀ (d : Nat) (K0 : bw_J) (g : Nat) (L : bw_L), 6 ≤ d → bm d (S0 n0) R0 61 [.ref 1, .int (Int32.ofNat fa), .long up, .long dw] W (jn J K0) g L (bR (some (.int (Int32.ofNat v))) W' (jn J' K0) g L)) ∧ (∀ (d : Nat) (W0 : bw_W) (J0 : bw_J) (g : Nat) (L : bw_L), 10 ≤ d → bm d (S0 n0) R0 144 [.ref 130, .int (Int32.ofNat fa), .long up, .long dw] W0 (jn J0 K) g L (bR (some (.int (Int32.ofNat v))) W0 (jn J0 K') g L)) ∧ rel (T + 1) W' J' K' ∧ K' 130 0 = K 130 0 ∧ J' 0 = J 0
/-- the class has come to the end of the exchange -/
def C202 (n0 : Nat) (W : bw_W) (J : bw_J) (fa : Nat) (up dw : Int64) (t b : Nat) (W9 : bw_W) (J9 : bw_J) : Prop := ∀ (e : Nat) (K0 : bw_J) (g : Nat) (L : bw_L) (Qh : am_O → am_H → Prop), 5 ≤ e → bH e (S0 n0) R0 mt_Al_exchange Qh 202 [(0, .ref 1), (6, .int (Int32.ofNat t)), (7, .int (Int32.ofNat b))] [] W9 (jn J9 K0) g L 0 0 → bH e (S0 n0) R0 mt_Al_exchange Qh 0 [(0, .ref 1), (1, .int (Int32.ofNat fa)), (2, .long up), (4, .long dw)] [] W (jn J K0) g L 0 0
theorem jn_wJ {J K : bw_J} {c i : Nat} : wJ (jn J K) c i = jn (wJ J c i) K := by
  unfold wJ
  rw [jn_lt (by decide), jn_u1l (by decide)]
section E4
variable {n0 : Nat} {T : Nat} {W W9 : bw_W} {J K J4 K2 J9 K9 K8 : bw_J} {fa : Nat} {up dw : Int64} {ev ms mc ch : Nat}
theorem evf_00 (hc : core (T + 1) W9 J9 K9) (hk : keep J9 K9 J4 K2) (r4 : rChs J4 K2) (q0 : K 130 6 = Int32.ofNat ev) (q1 : J4 1 6 = Int32.ofNat ev) (q2 : K2 130 6 = Int32.ofNat (ev + 1)) (hev : ev ≤ T) (hT : T < 80000000) (q3 : J4 1 7 = Int32.ofNat ch) (q4 : K2 130 5 = Int32.ofNat ch) (q5 : J4 37 9 = Int32.ofNat ms) (q6 : K2 135 1 = Int32.ofNat ms) (hms : ms < 6) (q7 : J4 7 9 = Int32.ofNat mc) (q8 : K2 135 0 = Int32.ofNat mc) (hmc : mc < 6) (z0 : K2 130 0 = K 130 0) (z1 : J4 0 = J 0) (hfa : fa < 4) (hC : C202 n0 W J fa up dw 0 0 W9 J9) (hM : ∀ (e : Nat) (W0 : bw_W) (J0 : bw_J) (g : Nat) (L : bw_L), 1 ≤ e → bm e (S0 n0) R0 145 [.ref 130] W0 (jn J0 (am_u2 K 130 6 (Int32.ofNat (ev + 1)))) g L (bR none W0 (jn J0 K2) g L)) (hK0 : ∀ (e : Nat) (W0 : bw_W) (J0 : bw_J) (g : Nat) (L : bw_L), 9 ≤ e → bm e (S0 n0) R0 146 [.ref 130, .int (Int32.ofNat 0), .int (Int32.ofNat (fa % 2)), .long up] W0 (jn J0 K2) g L (bR (some (.int (Int32.ofNat 0))) W0 (jn J0 K9) g L)) : evEnd n0 T W J K fa up dw := by
  obtain ⟨p0, p1, p2, p3, p4, p6, p7, p37, p131, p135, pf⟩ := hk
  obtain ⟨dn, J', K', e0, e1, e2, e3, e4, e5, e6, e7, e8, e9, e10, e11, e12, e13, e14, e15, e16, e17, e18⟩ := fin_00 (n0 := n0) (ev := ev) (ms := ms) (mc := mc) hc (by rw [p1]; exact q1) (by rw [p37]; exact q5) (by rw [p135]; exact q6) hms (by rw [p7]; exact q7) (by rw [p135]; exact q8) hmc
  refine ⟨0, W9, J', K', by decide, fun d K0 g L hd => al_exch hd (fun e he => hC e K0 g L _ he (ex_f00 (by omega) (fun e2 he2 => e1 e2 K0 g L he2))), fun d W0 J0 g L hd => ?_, ⟨rChs_fr r4 (e14.trans p2) (e15.trans p3) (e16.trans p4) (e17.trans p131) (fun f hf => (e18 f (by omega)).trans (pf f (by omega))), e3, ev + 1, ms + 1, mc + 1, dn, e4, ?_, by omega, ?_, e5, e10, e0, e7, e12, e8, e11, by omega, by omega, e9⟩, ?_, ?_⟩
  · have := mo_happen0 (n0 := n0) (W := W0) (J := jn J0 K) (g := g) (L := L) (ev := ev) (fa := fa) (up := up) (dw := dw) (J1 := jn J0 K2) (J2 := jn J0 K9) (m0 := mc) (m1 := ms) (J4 := jn J0 K') (rv := Int32.ofNat 0) hd q0 (by omega) hfa (fun e he => by rw [jn_u2r (by decide)]; exact hM e W0 J0 g L he) (fun e he => hK0 e W0 J0 g L he) (by rw [jn_ge (by decide), p135]; exact q8) (by omega) (by rw [jn_ge (by decide), p135]; exact q6) (by omega) (fun e he => by rw [jn_u2r (by decide), jn_u2r (by decide)]; exact e2 e W0 J0 g L he)
    exact this
  · rw [e18 6 (by decide), pf 6 (by decide)]; exact q2
  · rw [e6, p1, q3, e18 5 (by decide), pf 5 (by decide)]; exact q4.symm
  · rw [e18 0 (by decide), pf 0 (by decide)]; exact z0
  · rw [e13, p0]; exact z1
theorem evf_10 (hc : core (T + 1) W9 J9 K9) (hk : keep J9 K9 J4 K2) (r4 : rChs J4 K2) (q0 : K 130 6 = Int32.ofNat ev) (q1 : J4 1 6 = Int32.ofNat ev) (q2 : K2 130 6 = Int32.ofNat (ev + 1)) (hev : ev ≤ T) (hT : T < 80000000) (q3 : J4 1 7 = Int32.ofNat ch) (q4 : K2 130 5 = Int32.ofNat ch) (q5 : J4 37 9 = Int32.ofNat ms) (q6 : K2 135 1 = Int32.ofNat ms) (hms : ms < 6) (q7 : J4 7 9 = Int32.ofNat mc) (q8 : K2 135 0 = Int32.ofNat mc) (hmc : mc < 6) (z0 : K2 130 0 = K 130 0) (z1 : J4 0 = J 0) (hfa : fa < 4) (hC : C202 n0 W J fa up dw 1 0 W9 J9) (hM : ∀ (e : Nat) (W0 : bw_W) (J0 : bw_J) (g : Nat) (L : bw_L), 1 ≤ e → bm e (S0 n0) R0 145 [.ref 130] W0 (jn J0 (am_u2 K 130 6 (Int32.ofNat (ev + 1)))) g L (bR none W0 (jn J0 K2) g L)) (hK0 : ∀ (e : Nat) (W0 : bw_W) (J0 : bw_J) (g : Nat) (L : bw_L), 9 ≤ e → bm e (S0 n0) R0 146 [.ref 130, .int (Int32.ofNat 0), .int (Int32.ofNat (fa % 2)), .long up] W0 (jn J0 K2) g L (bR (some (.int (Int32.ofNat 1))) W0 (jn J0 K8) g L)) (hK1 : ∀ (e : Nat) (W0 : bw_W) (J0 : bw_J) (g : Nat) (L : bw_L), 9 ≤ e → bm e (S0 n0) R0 146 [.ref 130, .int (Int32.ofNat 1), .int (Int32.ofNat (fa / 2 % 2)), .long dw] W0 (jn J0 K8) g L (bR (some (.int (Int32.ofNat 0))) W0 (jn J0 K9) g L)) : evEnd n0 T W J K fa up dw := by
  obtain ⟨p0, p1, p2, p3, p4, p6, p7, p37, p131, p135, pf⟩ := hk
  obtain ⟨dn, J', K', e0, e1, e2, e3, e4, e5, e6, e7, e8, e9, e10, e11, e12, e13, e14, e15, e16, e17, e18⟩ := fin_10 (n0 := n0) (ev := ev) (ms := ms) (mc := mc) hc (by rw [p1]; exact q1) (by rw [p37]; exact q5) (by rw [p135]; exact q6) hms (by rw [p7]; exact q7) (by rw [p135]; exact q8) hmc
  refine ⟨1, W9, J', K', by decide, fun d K0 g L hd => al_exch hd (fun e he => hC e K0 g L _ he (ex_f10 (by omega) (fun e2 he2 => e1 e2 K0 g L he2))), fun d W0 J0 g L hd => ?_, ⟨rChs_fr r4 (e14.trans p2) (e15.trans p3) (e16.trans p4) (e17.trans p131) (fun f hf => (e18 f (by omega)).trans (pf f (by omega))), e3, ev + 1, 0, mc + 1, dn, e4, ?_, by omega, ?_, e5, e10, e0, e7, e12, e8, e11, by omega, by omega, e9⟩, ?_, ?_⟩
  · have := mo_happen1 (n0 := n0) (W := W0) (J := jn J0 K) (g := g) (L := L) (ev := ev) (fa := fa) (up := up) (dw := dw) (J1 := jn J0 K2) (J2 := jn J0 K8) (J3 := jn J0 K9) (m0 := mc) (m1 := ms) (J4 := jn J0 K') (rv := Int32.ofNat 1) hd q0 (by omega) hfa (fun e he => by rw [jn_u2r (by decide)]; exact hM e W0 J0 g L he) (fun e he => hK0 e W0 J0 g L he) (fun e he => hK1 e W0 J0 g L he) (by rw [jn_ge (by decide), p135]; exact q8) (by omega) (by rw [jn_ge (by decide), p135]; exact q6) (by omega) (fun e he => by rw [jn_u2r (by decide), jn_u2r (by decide)]; exact e2 e W0 J0 g L he)
    exact this
  · rw [e18 6 (by decide), pf 6 (by decide)]; exact q2
  · rw [e6, p1, q3, e18 5 (by decide), pf 5 (by decide)]; exact q4.symm
  · rw [e18 0 (by decide), pf 0 (by decide)]; exact z0
  · rw [e13, p0]; exact z1
theorem evf_11 (hc : core (T + 1) W9 J9 K9) (hk : keep J9 K9 J4 K2) (r4 : rChs J4 K2) (q0 : K 130 6 = Int32.ofNat ev) (q1 : J4 1 6 = Int32.ofNat ev) (q2 : K2 130 6 = Int32.ofNat (ev + 1)) (hev : ev ≤ T) (hT : T < 80000000) (q3 : J4 1 7 = Int32.ofNat ch) (q4 : K2 130 5 = Int32.ofNat ch) (q5 : J4 37 9 = Int32.ofNat ms) (q6 : K2 135 1 = Int32.ofNat ms) (hms : ms < 6) (q7 : J4 7 9 = Int32.ofNat mc) (q8 : K2 135 0 = Int32.ofNat mc) (hmc : mc < 6) (z0 : K2 130 0 = K 130 0) (z1 : J4 0 = J 0) (hfa : fa < 4) (hC : C202 n0 W J fa up dw 1 1 W9 J9) (hM : ∀ (e : Nat) (W0 : bw_W) (J0 : bw_J) (g : Nat) (L : bw_L), 1 ≤ e → bm e (S0 n0) R0 145 [.ref 130] W0 (jn J0 (am_u2 K 130 6 (Int32.ofNat (ev + 1)))) g L (bR none W0 (jn J0 K2) g L)) (hK0 : ∀ (e : Nat) (W0 : bw_W) (J0 : bw_J) (g : Nat) (L : bw_L), 9 ≤ e → bm e (S0 n0) R0 146 [.ref 130, .int (Int32.ofNat 0), .int (Int32.ofNat (fa % 2)), .long up] W0 (jn J0 K2) g L (bR (some (.int (Int32.ofNat 1))) W0 (jn J0 K8) g L)) (hK1 : ∀ (e : Nat) (W0 : bw_W) (J0 : bw_J) (g : Nat) (L : bw_L), 9 ≤ e → bm e (S0 n0) R0 146 [.ref 130, .int (Int32.ofNat 1), .int (Int32.ofNat (fa / 2 % 2)), .long dw] W0 (jn J0 K8) g L (bR (some (.int (Int32.ofNat 1))) W0 (jn J0 K9) g L)) : evEnd n0 T W J K fa up dw := by
  obtain ⟨p0, p1, p2, p3, p4, p6, p7, p37, p131, p135, pf⟩ := hk
  obtain ⟨dn, J', K', e0, e1, e2, e3, e4, e5, e6, e7, e8, e9, e10, e11, e12, e13, e14, e15, e16, e17, e18⟩ := fin_11 (n0 := n0) (ev := ev) (ms := ms) (mc := mc) hc (by rw [p1]; exact q1) (by rw [p37]; exact q5) (by rw [p135]; exact q6) hms (by rw [p7]; exact q7) (by rw [p135]; exact q8) hmc
  refine ⟨3, W9, J', K', by decide, fun d K0 g L hd => al_exch hd (fun e he => hC e K0 g L _ he (ex_f11 (by omega) (fun e2 he2 => e1 e2 K0 g L he2))), fun d W0 J0 g L hd => ?_, ⟨rChs_fr r4 (e14.trans p2) (e15.trans p3) (e16.trans p4) (e17.trans p131) (fun f hf => (e18 f (by omega)).trans (pf f (by omega))), e3, ev + 1, 0, 0, dn, e4, ?_, by omega, ?_, e5, e10, e0, e7, e12, e8, e11, by omega, by omega, e9⟩, ?_, ?_⟩
  · have := mo_happen3 (n0 := n0) (W := W0) (J := jn J0 K) (g := g) (L := L) (ev := ev) (fa := fa) (up := up) (dw := dw) (J1 := jn J0 K2) (J2 := jn J0 K8) (J3 := jn J0 K9) (m0 := mc) (m1 := ms) (J4 := jn J0 K') (rv := Int32.ofNat 3) hd q0 (by omega) hfa (fun e he => by rw [jn_u2r (by decide)]; exact hM e W0 J0 g L he) (fun e he => hK0 e W0 J0 g L he) (fun e he => hK1 e W0 J0 g L he) (by rw [jn_ge (by decide), p135]; exact q8) (by omega) (by rw [jn_ge (by decide), p135]; exact q6) (by omega) (fun e he => by rw [jn_u2r (by decide), jn_u2r (by decide)]; exact e2 e W0 J0 g L he)
    exact this
  · rw [e18 6 (by decide), pf 6 (by decide)]; exact q2
  · rw [e6, p1, q3, e18 5 (by decide), pf 5 (by decide)]; exact q4.symm
  · rw [e18 0 (by decide), pf 0 (by decide)]; exact z0
  · rw [e13, p0]; exact z1
theorem c_and1 {fa : Nat} : Int32.ofNat fa &&& Int32.ofNat 1 = Int32.ofNat (fa % 2) := c1
theorem core_up {T T' : Nat} {W : bw_W} {J K : bw_J} (h : core T W J K) (hT : T ≤ T') : core T' W J K := core_fr h hT (fun _ _ _ _ _ _ _ _ _ => rfl) (fun _ _ => rfl) (fun _ _ => rfl) (fun _ _ _ _ _ => rfl) (fun _ _ => rfl)
theorem ev_sim (h : rel T W J K) (hT : T < 80000000) (hd0 : J 1 8 = 0) (hfa : fa < 4) : evEnd n0 T W J K fa up dw := by
  obtain ⟨hch, hcore, ev, ms, mc, dn, t1, t2, t3, t4, t5, t6, t7, t8, t9, t10, t11, t12, t13, t14⟩ := h
  have hdn : dn = 0 := by
    rw [t5, z_eq (by omega)] at hd0; exact hd0
  obtain ⟨hms, hmc⟩ := t14 hdn
  have hch1 : rChs J (am_u2 K 130 6 (Int32.ofNat (ev + 1))) := rChs_fr hch rfl rfl rfl rfl (fun f hf => u2_k _ _ (by omega))
  obtain ⟨ch, J2, K2, a1, a2, a3, a4, a5, a6, a7, a8⟩ := chs_sim (n0 := n0) hch1
  have hJ4 : ∃ J4, J4 = wJ (am_u2 J2 1 7 (Int32.ofNat ch)) (64 + ch) 12 := ⟨_, rfl⟩
  obtain ⟨J4, hJ4⟩ := hJ4
  have f4 : ∀ c, ¬ c = 1 → ¬ c = 2 → ¬ c = 6 → J4 c = J c := fun c c1 c2 c3 => by
    rw [hJ4]; unfold wJ; rw [u1_ne _ _ c3, u2_a _ _ c1]; exact a6 c c2
  have f41 : ∀ f, ¬ f = 7 → J4 1 f = J 1 f := fun f hf => by
    rw [hJ4]; unfold wJ; rw [u1_ne _ _ (by decide), u2_k _ _ hf, a6 1 (by decide)]
  have f417 : J4 1 7 = Int32.ofNat ch := by
    rw [hJ4]; unfold wJ; rw [u1_ne _ _ (by decide), u2_at]
  have f42 : J4 2 = J2 2 := by
    rw [hJ4]; unfold wJ; rw [u1_ne _ _ (by decide), u2_a _ _ (by decide)]
  have hm : ∀ k, k < 12 → J4 6 k = mkf (64 + ch) k := fun k hk => by
    rw [hJ4]; unfold wJ; rw [u1_at, if_pos hk]; rfl
  have g2 : ∀ c, ¬ c = 130 → K2 c = K c := fun c hc => by rw [a7 c hc, u2_a _ _ hc]
  have g2f : ∀ f, ¬ f = 4 → ¬ f = 5 → ¬ f = 6 → K2 130 f = K 130 f := fun f f1 f2 f3 => by rw [a8 f f1 f2, u2_k _ _ f3]
  have g26 : K2 130 6 = Int32.ofNat (ev + 1) := by rw [a8 6 (by decide) (by decide), u2_at]
  have r4 : rChs J4 K2 := rChs_fr a5 f42 (by rw [f4 3 (by decide) (by decide) (by decide), a6 3 (by decide)]) (by rw [f4 4 (by decide) (by decide) (by decide), a6 4 (by decide)]) rfl (fun _ _ => rfl)
  have hc4 : core T W J4 K2 := core_fr hcore (Nat.le_refl _) (fun c _ c1 c2 _ _ c6 _ _ => f4 c c1 c2 c6) (fun f _ => by rw [f4 7 (by decide) (by decide) (by decide)]) (fun f _ => by rw [f4 37 (by decide) (by decide) (by decide)]) (fun c c0 _ _ _ => g2 c c0) (fun f hf => g2f f (by omega) (by omega) (by omega))
  obtain ⟨a, f, W5, J5, K5, b1, b2, b3, b4, b5, b6, b7, b8, b9, b10⟩ := sendK_c (n0 := n0) hc4 hm a4 (by omega)
  have b6k : J5 6 = J4 6 := b10.2.2.2.2.2.1
  have b5k : K5 130 5 = Int32.ofNat ch := by rw [b10.2.2.2.2.2.2.2.2.2.2 5 (by decide)]; exact a4
  have hm5 : ∀ k, k < 12 → J5 6 k = mkf (64 + ch) k := fun k hk => by rw [b6k]; exact hm k hk
  -- the class up to the first sending
  have c33 : ∀ (e : Nat) (K0 : bw_J) (g : Nat) (L : bw_L) (Qh : am_O → am_H → Prop), 5 ≤ e → bH e (S0 n0) R0 mt_Al_exchange Qh 33 [(0, .ref 1), (1, .int (Int32.ofNat fa)), (2, .long up), (4, .long dw)] [] W5 (jn J5 K0) g L 0 0 → bH e (S0 n0) R0 mt_Al_exchange Qh 0 [(0, .ref 1), (1, .int (Int32.ofNat fa)), (2, .long up), (4, .long dw)] [] W (jn J K0) g L 0 0 := fun e K0 g L Qh he k => by
    refine ex_a (n0 := n0) (J1 := jn J2 K0) (J2 := jn J4 K0) (J3 := jn J5 K0) (W1 := W5) (by omega) (fun e2 he2 => a2 e2 W K0 g L he2) (fun e2 he2 => ?_) (fun e2 he2 => b1 e2 K0 g L he2) k
    have := wh_tune (n0 := n0) (W := W) (J := am_u2 (jn J2 K0) 1 7 (Int32.ofNat ch)) (g := g) (L := L) he2 (c := ch) (by omega)
    rw [jn_u2l (by decide), jn_wJ, ← hJ4] at this
    rw [jn_u2l (by decide)]
    exact this
  have hmax : ∀ (W9 : bw_W) (J9 K9 : bw_J), core T W9 J9 K9 → core (T + 1) W9 J9 K9 := fun W9 J9 K9 z => core_up z (by omega)
  have ke5 := b10
  have h0 : K2 130 0 = K 130 0 := g2f 0 (by decide) (by decide) (by decide)
  have h40 : J4 0 = J 0 := f4 0 (by decide) (by decide) (by decide)
  have q1 : J4 1 6 = Int32.ofNat ev := by rw [f41 6 (by decide)]; exact t1
  have q5 : J4 37 9 = Int32.ofNat ms := by rw [f4 37 (by decide) (by decide) (by decide)]; exact t8
  have q6 : K2 135 1 = Int32.ofNat ms := by rw [g2 135 (by decide)]; exact t9
  have q7 : J4 7 9 = Int32.ofNat mc := by rw [f4 7 (by decide) (by decide) (by decide)]; exact t10
  have q8 : K2 135 0 = Int32.ofNat mc := by rw [g2 135 (by decide)]; exact t11
  have k132 : ∀ (Kx : bw_J) (F : Nat → Int32) (Wx : bw_W) (Jx : bw_J), core T Wx Jx Kx → core T Wx Jx (am_u1 Kx 132 F) := fun Kx F Wx Jx z => core_fr z (Nat.le_refl _) (fun _ _ _ _ _ _ _ _ _ => rfl) (fun _ _ => rfl) (fun _ _ => rfl) (fun c _ _ c2 _ => u1_ne _ _ c2) (fun f _ => by rw [u1_ne _ _ (by decide)])
  have kk132 : ∀ (Jx Kx : bw_J) (F : Nat → Int32), keep Jx (am_u1 Kx 132 F) Jx Kx := fun Jx Kx F => ⟨rfl, rfl, rfl, rfl, rfl, rfl, rfl, rfl, rfl, rfl, fun _ _ => rfl⟩
  by_cases hl0 : fa % 2 = 1
  · -- lost on the way to the server
    refine evf_00 (J9 := J5) (K9 := am_u1 K5 132 (sx up (min 8 a.length) (K5 132))) (W9 := W5) (hmax _ _ _ (k132 _ _ _ _ b9)) (keep_tr (kk132 _ _ _) ke5) r4 t2 q1 g26 t3 hT f417 a4 q5 q6 hms q7 q8 hmc h0 h40 hfa (fun e K0 g L Qh he k => c33 e K0 g L Qh he (ex_b0 he (by rw [c_and1, hl0]; decide) k)) (fun e W0 J0 g L he => a3 e W0 J0 g L he) (fun e W0 J0 g L he => ?_)
    have := mo_carry0 (n0 := n0) (W := W0) (J := jn J0 K2) (J1 := jn J0 K5) (g := g) (L := L) (dv := 0) (v := up) (n := a.length) he (by decide) (fun e2 he2 => b2 e2 W0 J0 g L he2) b7 (by omega)
    rw [jn_ge (c := 132) (by decide), jn_u1r (by decide)] at this
    rw [hl0]
    exact this
  · have hl0' : fa % 2 = 0 := by omega
    have hand0 : Int32.ofNat fa &&& Int32.ofNat 1 = 0 := by rw [c_and1, hl0']; rfl
    obtain ⟨b, W6, W7, J6, J7, K7, d0, d1, d2, d3, d4, d5⟩ := hearK_s (n0 := n0) (v := up) b9 hT b3 b4 b5 b6 b7 b8 hm5 b5k (by omega)
    have hcar : ∀ (e : Nat) (W0 : bw_W) (J0 : bw_J) (g : Nat) (L : bw_L), 9 ≤ e → bm e (S0 n0) R0 146 [.ref 130, .int (Int32.ofNat 0), .int (Int32.ofNat (fa % 2)), .long up] W0 (jn J0 K2) g L (bR (some (.int (Int32.ofNat b))) W0 (jn J0 K7) g L) := fun e W0 J0 g L he => by
      rw [hl0']
      rcases (show b = 0 ∨ b = 1 by omega) with rfl | rfl
      · refine mo_carry1_0 (n0 := n0) (W := W0) (J := jn J0 K2) (J1 := jn J0 K5) (J2 := jn J0 K7) (g := g) (L := L) (dv := 0) (v := up) (n := a.length) he (by decide) (fun e2 he2 => b2 e2 W0 J0 g L he2) b7 (by omega) (fun e2 he2 => ?_)
        rw [jn_ge (c := 132) (by decide), jn_u1r (by decide)]
        exact d2 e2 W0 J0 g L he2
      · refine mo_carry1_1 (n0 := n0) (W := W0) (J := jn J0 K2) (J1 := jn J0 K5) (J2 := jn J0 K7) (g := g) (L := L) (dv := 0) (v := up) (n := a.length) he (by decide) (fun e2 he2 => b2 e2 W0 J0 g L he2) b7 (by omega) (fun e2 he2 => ?_)
        rw [jn_ge (c := 132) (by decide), jn_u1r (by decide)]
        exact d2 e2 W0 J0 g L he2
    by_cases hb : b = 0
    · subst hb
      rcases d3 with ⟨d3a, rfl, rfl⟩ | ⟨z, -⟩
      · exact evf_00 (hmax _ _ _ d4) (keep_tr d5 ke5) r4 t2 q1 g26 t3 hT f417 a4 q5 q6 hms q7 q8 hmc h0 h40 hfa (fun e K0 g L Qh he k => c33 e K0 g L Qh he (ex_b1 he hand0 (fun e2 he2 => d1 e2 K0 g L he2) k)) (fun e W0 J0 g L he => a3 e W0 J0 g L he) hcar
      · exact absurd z (by decide)
    · have hb1 : b = 1 := by omega
      subst hb1
      -- handled by the server
      have c113 : ∀ (e : Nat) (K0 : bw_J) (g : Nat) (L : bw_L) (Qh : am_O → am_H → Prop), 5 ≤ e → bH e (S0 n0) R0 mt_Al_exchange Qh 113 [(0, .ref 1), (1, .int (Int32.ofNat fa)), (4, .long dw), (6, .int (Int32.ofNat 1)), (7, .int (Int32.ofNat 0))] [] W7 (jn J7 K0) g L 0 0 → bH e (S0 n0) R0 mt_Al_exchange Qh 0 [(0, .ref 1), (1, .int (Int32.ofNat fa)), (2, .long up), (4, .long dw)] [] W (jn J K0) g L 0 0 := fun e K0 g L Qh he k => by
        refine c33 e K0 g L Qh he (ex_b2 he hand0 (fun e2 he2 => d1 e2 K0 g L he2) ?_)
        rcases d3 with ⟨d3a, rfl, rfl⟩ | ⟨-, d3a, d3b⟩
        · exact ex_c0 (up := up) he d3a k
        · exact ex_c1 (up := up) he d3a (fun e2 he2 => d3b e2 K0 g L he2) k
      have ke7 := keep_tr d5 ke5
      have hm7 : ∀ k, k < 12 → J7 6 k = mkf (64 + ch) k := fun k hk => by rw [ke7.2.2.2.2.2.1]; exact hm k hk
      have k75 : K7 130 5 = Int32.ofNat ch := by rw [ke7.2.2.2.2.2.2.2.2.2.2 5 (by decide)]; exact a4
      obtain ⟨a', f', W8, J8, K8, s1, s2, s3, s4, s5, s6, s7, s8, s9, s10⟩ := sendK_s (n0 := n0) d4 hm7 k75 (by omega)
      have ke8 := keep_tr s10 ke7
      by_cases hl1 : fa / 2 % 2 = 1
      · refine evf_10 (K8 := K7) (J9 := J8) (K9 := am_u1 K8 132 (sx dw (min 8 a'.length) (K8 132))) (W9 := W8) (hmax _ _ _ (k132 _ _ _ _ s9)) (keep_tr (kk132 _ _ _) ke8) r4 t2 q1 g26 t3 hT f417 a4 q5 q6 hms q7 q8 hmc h0 h40 hfa (fun e K0 g L Qh he k => c113 e K0 g L Qh he (ex_d0 (up := up) he (fun e2 he2 => s1 e2 K0 g L he2) (by rw [c2 hfa, hl1]; decide) k)) (fun e W0 J0 g L he => a3 e W0 J0 g L he) hcar (fun e W0 J0 g L he => ?_)
        have := mo_carry0 (n0 := n0) (W := W0) (J := jn J0 K7) (J1 := jn J0 K8) (g := g) (L := L) (dv := 1) (v := dw) (n := a'.length) he (by decide) (fun e2 he2 => s2 e2 W0 J0 g L he2) s7 (by omega)
        rw [jn_ge (c := 132) (by decide), jn_u1r (by decide)] at this
        rw [hl1]
        exact this
      · have hl1' : fa / 2 % 2 = 0 := by omega
        have hand1 : Int32.ofNat fa &&& Int32.ofNat 2 = 0 := by rw [c2 hfa, hl1']; rfl
        have hm8 : ∀ k, k < 12 → J8 6 k = mkf (64 + ch) k := fun k hk => by rw [ke8.2.2.2.2.2.1]; exact hm k hk
        have k85 : K8 130 5 = Int32.ofNat ch := by rw [ke8.2.2.2.2.2.2.2.2.2.2 5 (by decide)]; exact a4
        obtain ⟨bb, W9, WA, J9, JA, KA, u0, u1', u2', u3, u4, u5⟩ := hearK_c (n0 := n0) (v := dw) s9 (by omega) s3 s4 s5 s6 s7 s8 hm8 k85 (by omega)
        have hcar1 : ∀ (e : Nat) (W0 : bw_W) (J0 : bw_J) (g : Nat) (L : bw_L), 9 ≤ e → bm e (S0 n0) R0 146 [.ref 130, .int (Int32.ofNat 1), .int (Int32.ofNat (fa / 2 % 2)), .long dw] W0 (jn J0 K7) g L (bR (some (.int (Int32.ofNat bb))) W0 (jn J0 KA) g L) := fun e W0 J0 g L he => by
          rw [hl1']
          rcases (show bb = 0 ∨ bb = 1 by omega) with rfl | rfl
          · refine mo_carry1_0 (n0 := n0) (W := W0) (J := jn J0 K7) (J1 := jn J0 K8) (J2 := jn J0 KA) (g := g) (L := L) (dv := 1) (v := dw) (n := a'.length) he (by decide) (fun e2 he2 => s2 e2 W0 J0 g L he2) s7 (by omega) (fun e2 he2 => ?_)
            rw [jn_ge (c := 132) (by decide), jn_u1r (by decide)]
            exact u2' e2 W0 J0 g L he2
          · refine mo_carry1_1 (n0 := n0) (W := W0) (J := jn J0 K7) (J1 := jn J0 K8) (J2 := jn J0 KA) (g := g) (L := L) (dv := 1) (v := dw) (n := a'.length) he (by decide) (fun e2 he2 => s2 e2 W0 J0 g L he2) s7 (by omega) (fun e2 he2 => ?_)
            rw [jn_ge (c := 132) (by decide), jn_u1r (by decide)]
            exact u2' e2 W0 J0 g L he2
        have keA := keep_tr u5 ke8
        by_cases hbb : bb = 0
        · subst hbb
          rcases u3 with ⟨u3a, rfl, rfl⟩ | ⟨z, -⟩
          · exact evf_10 (K8 := K7) u4 keA r4 t2 q1 g26 t3 hT f417 a4 q5 q6 hms q7 q8 hmc h0 h40 hfa (fun e K0 g L Qh he k => c113 e K0 g L Qh he (ex_d1 (up := up) he (fun e2 he2 => s1 e2 K0 g L he2) hand1 (fun e2 he2 => u1' e2 K0 g L he2) k)) (fun e W0 J0 g L he => a3 e W0 J0 g L he) hcar hcar1
          · exact absurd z (by decide)
        · have hbb1 : bb = 1 := by omega
          subst hbb1
          refine evf_11 (K8 := K7) u4 keA r4 t2 q1 g26 t3 hT f417 a4 q5 q6 hms q7 q8 hmc h0 h40 hfa (fun e K0 g L Qh he k => c113 e K0 g L Qh he (ex_d2 (up := up) he (fun e2 he2 => s1 e2 K0 g L he2) hand1 (fun e2 he2 => u1' e2 K0 g L he2) ?_)) (fun e W0 J0 g L he => a3 e W0 J0 g L he) hcar hcar1
          rcases u3 with ⟨u3a, rfl, rfl⟩ | ⟨-, u3a, u3b⟩
          · exact ex_e0 (fl := Int32.ofNat fa) (up := up) (bk := dw) he u3a k
          · exact ex_e1 (fl := Int32.ofNat fa) (up := up) (bk := dw) he u3a (fun e2 he2 => u3b e2 K0 g L he2) k
end E4
