/-! Part 98: the law's begin -/
abbrev laH : List (Nat × Nat) := alH ++ moH
abbrev laP : List (List (Option Nat)) := alP 0 ++ moP 129
theorem la_S (L : Nat) : hLS L ([] ++ (laH ++ [(102, 1)])) ([] ++ (laP ++ [[]])) = S0 L := by
  have e1 : [] ++ (laH ++ [(102, 1)]) = s0_H := by decide +kernel
  have e2 : [] ++ (laP ++ [[]]) = s0_P := by decide +kernel
  rw [e1, e2]
  refine Prod.ext (funext fun k => ?_) (Prod.ext (funext fun k => funext fun j => ?_) ?_)
  · cases k <;> rfl
  · cases k <;> rfl
  · show s0_H.length = 166
    decide +kernel
theorem la_h0 (L : Nat) (xs : Nat → Int32) : am_h0 L xs = (hLS L ([] ++ []) ([] ++ []), 0, am_u1 (fun _ _ => 0) 0 xs, lz) := by
  unfold am_h0
  refine Prod.ext (Prod.ext (funext fun k => ?_) (Prod.ext (funext fun k => funext fun j => ?_) rfl)) rfl
  · cases k with
    | zero => rfl
    | succ k => 
      show am_u1 (fun _ => none) 0 (some (150, L)) (k + 1) = none
      rw [u1_ne _ _ (by omega)]
  · cases k with
    | zero => rfl
    | succ k =>
      show none = (([] : List (List (Option Nat))).getD k []).getD j none
      simp
theorem la_open (L : Nat) (xs : Nat → Int32) (hL : L ≤ 3075) : bH 12 (hLS L ([] ++ []) ([] ++ [])) r0 mt_La_law (fun o _ => o = .inl (some (.int 1))) 0 [(0, .ref 0)] [] (fun _ => []) (am_u1 (fun _ _ => 0) 0 xs) 0 lz 0 0 := by
  obtain ⟨v0, hv0⟩ : ∃ y, y = (if 0 < L then xs 0 else 0) := ⟨_, rfl⟩
  obtain ⟨U, hU, hv1⟩ : ∃ U, U < 4294967296 ∧ (if 1 < L then xs 1 else 0) = Int32.ofNat U := ⟨_, (if 1 < L then xs 1 else 0).toBitVec.isLt, x_of _⟩
  obtain ⟨A, hA, hv2⟩ : ∃ A, A < 4294967296 ∧ (if 2 < L then xs 2 else 0) = Int32.ofNat A := ⟨_, (if 2 < L then xs 2 else 0).toBitVec.isLt, x_of _⟩
  obtain ⟨hh, hp, h1, h2⟩ := hop12 v0
  have hz0 : zer (am_u1 (fun _ _ => 0) 0 xs) 0 := fun q hq => by rw [u1_ne _ _ (by omega)]
  refine c_new (pc2 := 3) (b := 0) (n := 0) (a := 1) d_La_law_0 q_12_8 (by decide) rfl rfl rfl rfl hz0 (Nat.le_of_ble_eq_true rfl) (Nat.le_of_ble_eq_true rfl) rfl rfl ?_
  refine b_pure (pc2 := 4) d_La_law_3 rfl rfl rfl ?_
  refine b_aln (pc2 := 5) d_La_law_4 rfl rfl ?_
  refine b_ic (pc2 := 6) (x := Int32.ofNat 0) d_La_law_5 rfl rfl ?_
  refine b_cs1 (pc2 := 9) (c2 := 1) (u2 := 9) (la_cell (n := L) (k := 0) (by decide) rfl (bw_rc0 _) (by omega) (by decide)) d_La_law_6 q_12_67 (Or.inl rfl) (Nat.le_of_ble_eq_true rfl) rfl rfl (Nat.le_of_ble_eq_true rfl) rfl rfl (Nat.le_of_ble_eq_true rfl) (Nat.le_of_ble_eq_true rfl) rfl ?_
  rw [u1_at, ← hv0]
  refine b_aln (pc2 := 10) d_La_law_9 rfl rfl ?_
  refine b_ic (pc2 := 11) (x := Int32.ofNat 1) d_La_law_10 rfl rfl ?_
  refine b_cs1 (pc2 := 14) (c2 := 1) (u2 := 9) (la_cell (n := L) (k := 1) (by decide) rfl (bw_rc0 _) (by omega) (by decide)) d_La_law_11 q_12_67 (Or.inl rfl) (Nat.le_of_ble_eq_true rfl) rfl rfl (Nat.le_of_ble_eq_true rfl) rfl rfl (Nat.le_of_ble_eq_true rfl) (Nat.le_of_ble_eq_true rfl) rfl ?_
  rw [u1_at, hv1]
  refine b_aln (pc2 := 15) d_La_law_14 rfl rfl ?_
  refine b_ic (pc2 := 16) (x := Int32.ofNat 2) d_La_law_15 rfl rfl ?_
  refine b_cs1 (pc2 := 19) (c2 := 1) (u2 := 9) (la_cell (n := L) (k := 2) (by decide) rfl (bw_rc0 _) (by omega) (by decide)) d_La_law_16 q_12_67 (Or.inl rfl) (Nat.le_of_ble_eq_true rfl) rfl rfl (Nat.le_of_ble_eq_true rfl) rfl rfl (Nat.le_of_ble_eq_true rfl) (Nat.le_of_ble_eq_true rfl) rfl ?_
  rw [u1_at, hv2]
  refine c_is (pc2 := 22) (b := 0) (n := 0) (a := 1) (c2 := 129) (u2 := 1852) (ci_Al_init (by decide) h1 hU hA) d_La_law_19 q_12_73 rfl rfl rfl rfl hz0 rfl (Nat.le_of_ble_eq_true rfl) rfl rfl (Nat.le_of_ble_eq_true rfl) rfl rfl (Nat.le_of_ble_eq_true rfl) (Nat.le_of_ble_eq_true rfl) rfl ?_
  refine c_cv (tH2 := alH) (tP2 := alP 0) rfl rfl ?_
  refine c_cJ (J2 := JA xs hh (mA U A)) rfl ?_
  have hz1 : zer (JA xs hh (mA U A)) 129 := fun q hq => JA_o (by omega) (by omega) (by omega) (by omega) (by omega) (by omega) (by omega) (by omega) (by omega) (by omega) (by omega)
  have hx0 : JA xs hh (mA U A) 0 = xs := rfl
  refine b_asn (pc2 := 23) (al2 := [(1, .ref 1), (0, .ref 0)]) d_La_law_22 (by decide) rfl rfl ?_
  refine c_new (pc2 := 26) (b := 0) (n := 129) (a := 130) d_La_law_23 q_12_76 (by decide) rfl rfl (by decide +kernel) (by decide +kernel) (fun q hq => hz1 q (by omega)) (Nat.le_of_ble_eq_true rfl) (Nat.le_of_ble_eq_true rfl) rfl rfl ?_
  refine b_pure (pc2 := 27) d_La_law_26 rfl rfl rfl ?_
  refine b_aln (pc2 := 28) d_La_law_27 rfl rfl ?_
  refine b_ic (pc2 := 29) (x := Int32.ofNat 0) d_La_law_28 rfl rfl ?_
  refine b_cs1 (pc2 := 32) (c2 := 130) (u2 := 1914) (la_cell (n := L) (k := 0) (by decide) rfl (bw_rc0 _) (by omega) (by decide)) d_La_law_29 q_12_67 (Or.inl rfl) (Nat.le_of_ble_eq_true rfl) rfl rfl (Nat.le_of_ble_eq_true rfl) rfl rfl (Nat.le_of_ble_eq_true rfl) (Nat.le_of_ble_eq_true rfl) rfl ?_
  rw [hx0, ← hv0]
  refine b_aln (pc2 := 33) d_La_law_32 rfl rfl ?_
  refine b_ic (pc2 := 34) (x := Int32.ofNat 1) d_La_law_33 rfl rfl ?_
  refine b_cs1 (pc2 := 37) (c2 := 130) (u2 := 1914) (la_cell (n := L) (k := 1) (by decide) rfl (bw_rc0 _) (by omega) (by decide)) d_La_law_34 q_12_67 (Or.inl rfl) (Nat.le_of_ble_eq_true rfl) rfl rfl (Nat.le_of_ble_eq_true rfl) rfl rfl (Nat.le_of_ble_eq_true rfl) (Nat.le_of_ble_eq_true rfl) rfl ?_
  rw [hx0, hv1]
  refine b_aln (pc2 := 38) d_La_law_37 rfl rfl ?_
  refine b_ic (pc2 := 39) (x := Int32.ofNat 2) d_La_law_38 rfl rfl ?_
  refine b_cs1 (pc2 := 42) (c2 := 130) (u2 := 1914) (la_cell (n := L) (k := 2) (by decide) rfl (bw_rc0 _) (by omega) (by decide)) d_La_law_39 q_12_67 (Or.inl rfl) (Nat.le_of_ble_eq_true rfl) rfl rfl (Nat.le_of_ble_eq_true rfl) rfl rfl (Nat.le_of_ble_eq_true rfl) (Nat.le_of_ble_eq_true rfl) rfl ?_
  rw [hx0, hv2]
  refine c_is (pc2 := 45) (b := 0) (n := 129) (a := 130) (c2 := 170) (u2 := 3914) (ci_Mo_init (by decide) h2) d_La_law_42 q_12_78 rfl rfl (by decide +kernel) (by decide +kernel) (fun q hq => hz1 q (by omega)) rfl (Nat.le_of_ble_eq_true rfl) rfl rfl (Nat.le_of_ble_eq_true rfl) rfl rfl (Nat.le_of_ble_eq_true rfl) (Nat.le_of_ble_eq_true rfl) rfl ?_
  refine c_cv (tH2 := laH) (tP2 := laP) rfl rfl ?_
  refine c_cJ (J2 := JB xs hh (mA U A)) rfl ?_
  have hz2 : zer (JB xs hh (mA U A)) 165 := fun q hq => JB_o (by omega) (by omega) (by omega) (by omega) (by omega) (by omega) (by omega) (by omega) (by omega) (by omega) (by omega) (by omega) (by omega)
  refine b_asn (pc2 := 46) (al2 := [(2, .ref 130), (1, .ref 1), (0, .ref 0)]) d_La_law_45 (by decide) rfl rfl ?_
  refine b_ic (pc2 := 47) (x := Int32.ofNat 1) d_La_law_46 rfl rfl ?_
  refine c_newa (pc2 := 49) (b := 0) (n := 165) (a := 166) (t := 102) (q := 1) d_La_law_47 (Or.inr (Or.inr ⟨rfl, rfl⟩)) (by decide) rfl rfl (by decide +kernel) (by decide +kernel) (fun q hq => hz2 q (by omega)) (Nat.le_of_ble_eq_true rfl) (Nat.le_of_ble_eq_true rfl) rfl rfl ?_
  rw [la_S]
  refine b_asn (pc2 := 50) (al2 := [(3, .ref 166), (2, .ref 130), (1, .ref 1), (0, .ref 0)]) d_La_law_49 (by decide) rfl rfl ?_
  refine b_ic (pc2 := 51) (x := Int32.ofNat 3) d_La_law_50 rfl rfl ?_
  refine b_is (pc2 := 53) (al2 := [(4, .int (Int32.ofNat 3)), (3, .ref 166), (2, .ref 130), (1, .ref 1), (0, .ref 0)]) d_La_law_51 (by decide) rfl rfl ?_
  refine b_nf (al := [(4, .int (Int32.ofNat 3)), (0, .ref 0), (1, .ref 1), (2, .ref 130), (3, .ref 166)]) (ks := [4, 0, 1, 2, 3]) (sub_c rfl (sub_c rfl (sub_c rfl (sub_c rfl (sub_c rfl sub_n))))) rfl (by decide) ?_
  have key := lw_loop (n0 := L) hL 600 0 0 W0 (JB xs hh (mA U A)) 0 lz 171 3915 rfl (z_rel hp (mA_1 U A)) (Nat.le_refl _) (by decide) (by decide)
  intro I hI
  have hII := hp0 hI
  subst hII
  refine am_T_mono (fun _ _ _ _ _ q => q) (fun o h q => ?_) (key _ z_hp)
  obtain ⟨_, _, _, _, _, _, _, q⟩ := q
  exact q
theorem la_goal : am_goal := fun L xs hL => by
  rw [la_h0]
  exact la_open L xs hL _ (hp0r _ _)
