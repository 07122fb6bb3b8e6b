/-! Part 98 (written by gen71.py): the simple constructors -/
theorem ci_Ro_init {d N : Nat} (hd : 1 ≤ d) {q : Nat} (hq : q ≤ 31) : cS d N 9 [.int (Int32.ofNat q)] (7, 2) [(7, 2), (100, q)] (fun b => [[some (b + 2)], []]) (fun b J => J) := by
  obtain ⟨d, rfl⟩ : ∃ e, d = e + 1 := ⟨d - 1, by omega⟩
  refine cS_of (fun _ => Nat.le_of_ble_eq_true rfl) (fun b H P J hb hp hz => ?_)
  show bH d (hLS N (H ++ [(7, 2)]) (P ++ [[]])) r0 mt_Ro_init _ 0 [(0, .ref (b + 1)), (1, .int (Int32.ofNat q))] [] _ J 0 lz 0 0
  refine b_aln (pc2 := 1) d_Ro_init_0 rfl rfl ?_
  refine c_sup (pc2 := 4) d_Ro_init_1 q_7_1 (Nat.le_of_ble_eq_true rfl) rfl ?_
  refine b_aln (pc2 := 5) d_Ro_init_4 rfl rfl ?_
  refine b_iln (pc2 := 6) d_Ro_init_5 rfl rfl ?_
  refine c_newa (pc2 := 8) (n := 1) (a := b + 2) (t := 100) (q := q) d_Ro_init_6 (Or.inl ⟨rfl, rfl⟩) (by omega) hb hp rfl rfl (fun q hq => hz q (by omega)) (by decide) (by show 0 + q ≤ 31; omega) rfl rfl ?_
  refine c_cv (tH2 := [(7, 2), (100, q)]) (tP2 := [[], []]) rfl rfl ?_
  refine c_putR (pc2 := 11) (q := 0) (a := b + 1) d_Ro_init_8 q_7_7 hb hp rfl (Nat.le_of_ble_eq_true rfl) (by decide) (Or.inr ⟨rfl, rfl⟩) rfl rfl rfl ?_
  refine c_cv (tH2 := [(7, 2), (100, q)]) (tP2 := [[some (b + 2)], []]) rfl rfl ?_
  refine b_aln (pc2 := 12) d_Ro_init_11 rfl rfl ?_
  refine b_ic (pc2 := 13) (x := Int32.ofNat 0) d_Ro_init_12 rfl rfl ?_
  refine b_pi (pc2 := 16) d_Ro_init_13 q_7_13 (show _ from hLS_sh (i := 0) hb rfl) (by decide) (Or.inl (by decide)) (Or.inl rfl) (bw_rc0 _) rfl ?_
  rw [u2_idq (f := J) (a := b + 1) (k := 1) (x := Int32.ofNat 0) (by rw [hz _ (by omega)]; rfl)]
  exact c_vr d_Ro_init_16 rfl
theorem ci_Wh_init {d N : Nat} (hd : 1 ≤ d) : cS d N 6 [] (9, 1) [(9, 1), (100, 12)] (fun b => [[some (b + 2)], []]) (fun b J => J) := by
  obtain ⟨d, rfl⟩ : ∃ e, d = e + 1 := ⟨d - 1, by omega⟩
  refine cS_of (fun _ => Nat.le_of_ble_eq_true rfl) (fun b H P J hb hp hz => ?_)
  show bH d (hLS N (H ++ [(9, 1)]) (P ++ [[]])) r0 mt_Wh_init _ 0 [(0, .ref (b + 1))] [] _ J 0 lz 0 0
  refine b_aln (pc2 := 1) d_Wh_init_0 rfl rfl ?_
  refine c_sup (pc2 := 4) d_Wh_init_1 q_9_3 (Nat.le_of_ble_eq_true rfl) rfl ?_
  refine b_aln (pc2 := 5) d_Wh_init_4 rfl rfl ?_
  refine b_bp (pc2 := 7) (x := Int32.ofNat 12) d_Wh_init_5 rfl rfl ?_
  refine c_newa (pc2 := 9) (n := 1) (a := b + 2) (t := 100) (q := 12) d_Wh_init_7 (Or.inl ⟨rfl, rfl⟩) (by decide) hb hp rfl rfl (fun q hq => hz q (by omega)) (by decide) (by decide) rfl rfl ?_
  refine c_cv (tH2 := [(9, 1), (100, 12)]) (tP2 := [[], []]) rfl rfl ?_
  refine c_putR (pc2 := 12) (q := 0) (a := b + 1) d_Wh_init_9 q_9_9 hb hp rfl (Nat.le_of_ble_eq_true rfl) (by decide) (Or.inr ⟨rfl, rfl⟩) rfl rfl rfl ?_
  refine c_cv (tH2 := [(9, 1), (100, 12)]) (tP2 := [[some (b + 2)], []]) rfl rfl ?_
  exact c_vr d_Wh_init_12 rfl
theorem ci_In_init {d N : Nat} (hd : 2 ≤ d) : cS d N 10 [] (4, 4) [(4, 4), (7, 2), (100, 20), (7, 2), (100, 31)] (fun b => [[some (b + 2), some (b + 4)], [some (b + 3)], [], [some (b + 5)], []]) (fun b J => J) := by
  obtain ⟨d, rfl⟩ : ∃ e, d = e + 1 := ⟨d - 1, by omega⟩
  refine cS_of (fun _ => Nat.le_of_ble_eq_true rfl) (fun b H P J hb hp hz => ?_)
  show bH d (hLS N (H ++ [(4, 4)]) (P ++ [[]])) r0 mt_In_init _ 0 [(0, .ref (b + 1))] [] _ J 0 lz 0 0
  refine b_aln (pc2 := 1) d_In_init_0 rfl rfl ?_
  refine c_sup (pc2 := 4) d_In_init_1 q_4_3 (Nat.le_of_ble_eq_true rfl) rfl ?_
  refine b_aln (pc2 := 5) d_In_init_4 rfl rfl ?_
  refine c_new (pc2 := 8) (n := 1) (a := b + 2) d_In_init_5 q_4_9 (by decide) hb hp rfl rfl (fun q hq => hz q (by omega)) (by decide) (by decide) rfl rfl ?_
  refine b_pure (pc2 := 9) d_In_init_8 rfl rfl rfl ?_
  refine b_bp (pc2 := 11) (x := Int32.ofNat 20) d_In_init_9 rfl rfl ?_
  refine c_is (pc2 := 14) (n := 1) (a := b + 2) (ci_Ro_init (q := 20) (by omega) (by decide)) d_In_init_11 q_4_11 hb hp rfl rfl (fun q hq => hz q (by omega)) rfl (Nat.le_of_ble_eq_true rfl) rfl rfl (Nat.le_of_ble_eq_true rfl) rfl rfl (by decide) (by decide) rfl ?_
  refine c_cv (tH2 := [(4, 4), (7, 2), (100, 20)]) (tP2 := [[], [some (b + 3)], []]) rfl rfl ?_
  refine c_putR (pc2 := 17) (q := 0) (a := b + 1) d_In_init_14 q_4_14 hb hp rfl (Nat.le_of_ble_eq_true rfl) (by decide) (Or.inr ⟨rfl, rfl⟩) rfl rfl rfl ?_
  refine c_cv (tH2 := [(4, 4), (7, 2), (100, 20)]) (tP2 := [[some (b + 2)], [some (b + 3)], []]) rfl rfl ?_
  refine b_aln (pc2 := 18) d_In_init_17 rfl rfl ?_
  refine c_new (pc2 := 21) (n := 3) (a := b + 4) d_In_init_18 q_4_9 (by decide) hb hp rfl rfl (fun q hq => hz q (by omega)) (by decide) (by decide) rfl rfl ?_
  refine b_pure (pc2 := 22) d_In_init_21 rfl rfl rfl ?_
  refine b_bp (pc2 := 24) (x := Int32.ofNat 31) d_In_init_22 rfl rfl ?_
  refine c_is (pc2 := 27) (n := 3) (a := b + 4) (ci_Ro_init (q := 31) (by omega) (by decide)) d_In_init_24 q_4_11 hb hp rfl rfl (fun q hq => hz q (by omega)) rfl (Nat.le_of_ble_eq_true rfl) rfl rfl (Nat.le_of_ble_eq_true rfl) rfl rfl (by decide) (by decide) rfl ?_
  refine c_cv (tH2 := [(4, 4), (7, 2), (100, 20), (7, 2), (100, 31)]) (tP2 := [[some (b + 2)], [some (b + 3)], [], [some (b + 5)], []]) rfl rfl ?_
  refine c_putR (pc2 := 30) (q := 0) (a := b + 1) d_In_init_27 q_4_20 hb hp rfl (Nat.le_of_ble_eq_true rfl) (by decide) (Or.inr ⟨rfl, rfl⟩) rfl rfl rfl ?_
  refine c_cv (tH2 := [(4, 4), (7, 2), (100, 20), (7, 2), (100, 31)]) (tP2 := [[some (b + 2), some (b + 4)], [some (b + 3)], [], [some (b + 5)], []]) rfl rfl ?_
  refine b_aln (pc2 := 31) d_In_init_30 rfl rfl ?_
  refine b_ic (pc2 := 32) (x := Int32.ofNat 0) d_In_init_31 rfl rfl ?_
  refine b_pi (pc2 := 35) d_In_init_32 q_4_23 (show _ from hLS_sh (i := 0) hb rfl) (by decide) (Or.inl (by decide)) (Or.inr ⟨rfl, by decide⟩) (bw_rc0 _) rfl ?_
  rw [u2_idq (f := J) (a := b + 1) (k := 2) (x := Int32.ofNat 0) (by rw [hz _ (by omega)]; rfl)]
  refine b_aln (pc2 := 36) d_In_init_35 rfl rfl ?_
  refine b_ic (pc2 := 37) (x := Int32.ofNat 0) d_In_init_36 rfl rfl ?_
  refine b_pi (pc2 := 40) d_In_init_37 q_4_27 (show _ from hLS_sh (i := 0) hb rfl) (by decide) (Or.inl (by decide)) (Or.inr ⟨rfl, by decide⟩) (bw_rc0 _) rfl ?_
  rw [u2_idq (f := J) (a := b + 1) (k := 3) (x := Int32.ofNat 0) (by rw [hz _ (by omega)]; rfl)]
  exact c_vr d_In_init_40 rfl
theorem ci_Ou_init {d N : Nat} (hd : 2 ≤ d) : cS d N 8 [] (6, 4) [(6, 4), (103, 8), (7, 2), (100, 24), (7, 2), (100, 24), (7, 2), (100, 24), (7, 2), (100, 24), (7, 2), (100, 24), (7, 2), (100, 24), (7, 2), (100, 24), (7, 2), (100, 24)] (fun b => [[some (b + 2)], [some (b + 3), some (b + 5), some (b + 7), some (b + 9), some (b + 11), some (b + 13), some (b + 15), some (b + 17)], [some (b + 4)], [], [some (b + 6)], [], [some (b + 8)], [], [some (b + 10)], [], [some (b + 12)], [], [some (b + 14)], [], [some (b + 16)], [], [some (b + 18)], []]) (fun b J => J) := by
  obtain ⟨d, rfl⟩ : ∃ e, d = e + 1 := ⟨d - 1, by omega⟩
  refine cS_of (fun _ => Nat.le_of_ble_eq_true rfl) (fun b H P J hb hp hz => ?_)
  show bH d (hLS N (H ++ [(6, 4)]) (P ++ [[]])) r0 mt_Ou_init _ 0 [(0, .ref (b + 1))] [] _ J 0 lz 0 0
  refine b_aln (pc2 := 1) d_Ou_init_0 rfl rfl ?_
  refine c_sup (pc2 := 4) d_Ou_init_1 q_6_3 (Nat.le_of_ble_eq_true rfl) rfl ?_
  refine b_aln (pc2 := 5) d_Ou_init_4 rfl rfl ?_
  refine b_bp (pc2 := 7) (x := Int32.ofNat 8) d_Ou_init_5 rfl rfl ?_
  refine c_anew (pc2 := 10) (n := 1) (a := b + 2) (q := 8) d_Ou_init_7 q_6_11 (by decide) (by decide) hb hp rfl rfl (fun q hq => hz q (by omega)) (by decide) (by decide) rfl rfl ?_
  refine c_cv (tH2 := [(6, 4), (103, 8)]) (tP2 := [[], []]) rfl rfl ?_
  refine c_putR (pc2 := 13) (q := 0) (a := b + 1) d_Ou_init_10 q_6_13 hb hp rfl (Nat.le_of_ble_eq_true rfl) (by decide) (Or.inr ⟨rfl, rfl⟩) rfl rfl rfl ?_
  refine c_cv (tH2 := [(6, 4), (103, 8)]) (tP2 := [[some (b + 2)], []]) rfl rfl ?_
  refine b_ic (pc2 := 14) (x := Int32.ofNat 0) d_Ou_init_13 rfl rfl ?_
  refine b_isn (pc2 := 15) (al2 := [(1, _), (0, _)]) d_Ou_init_14 (by decide) rfl rfl ?_
  refine b_iln (pc2 := 16) d_Ou_init_15 rfl rfl ?_
  refine b_bp (pc2 := 18) (x := Int32.ofNat 8) d_Ou_init_16 rfl rfl ?_
  refine b_ifd (pc2 := 42) d_Ou_init_18 rfl rfl rfl rfl rfl (fun h18 => ?_) (fun h18 => ?_)
  · exact absurd h18 (by decide)
  refine b_aln (pc2 := 22) d_Ou_init_21 rfl rfl ?_
  refine b_gr (pc2 := 25) d_Ou_init_22 q_6_13 (show _ from hLS_sh (i := 0) hb rfl) (by decide) (by decide) (show _ from hLS_p (i := 0) hp rfl) rfl ?_
  refine b_iln (pc2 := 26) d_Ou_init_25 rfl rfl ?_
  refine c_new (pc2 := 29) (n := 2) (a := b + 3) d_Ou_init_26 q_6_11 (by decide) hb hp rfl rfl (fun q hq => hz q (by omega)) (by decide) (by decide) rfl rfl ?_
  refine b_pure (pc2 := 30) d_Ou_init_29 rfl rfl rfl ?_
  refine b_bp (pc2 := 32) (x := Int32.ofNat 24) d_Ou_init_30 rfl rfl ?_
  refine c_is (pc2 := 35) (n := 2) (a := b + 3) (ci_Ro_init (q := 24) (by omega) (by decide)) d_Ou_init_32 q_6_17 hb hp rfl rfl (fun q hq => hz q (by omega)) rfl (Nat.le_of_ble_eq_true rfl) rfl rfl (Nat.le_of_ble_eq_true rfl) rfl rfl (by decide) (by decide) rfl ?_
  refine c_cv (tH2 := [(6, 4), (103, 8), (7, 2), (100, 24)]) (tP2 := [[some (b + 2)], [], [some (b + 4)], []]) rfl rfl ?_
  refine c_aast (pc2 := 36) (q := 1) (s := 2) (j := b + 3) (a := b + 2) (fi := 0) d_Ou_init_35 hb hp rfl (Nat.le_of_ble_eq_true rfl) (by decide) (by decide) (by decide) rfl (by decide) rfl rfl rfl ?_
  refine c_cv (tH2 := [(6, 4), (103, 8), (7, 2), (100, 24)]) (tP2 := [[some (b + 2)], [some (b + 3)], [some (b + 4)], []]) rfl rfl ?_
  refine b_inc (pc2 := 39) (al2 := [(1, _), (0, _)]) (y := Int32.ofNat 1) d_Ou_init_36 (by decide) rfl rfl rfl rfl ?_
  rw [show Int32.ofNat 0 + Int32.ofNat 1 = Int32.ofNat 1 from rfl]
  refine b_go (pc2 := 15) d_Ou_init_39 rfl ?_
  refine b_iln (pc2 := 16) d_Ou_init_15 rfl rfl ?_
  refine b_bp (pc2 := 18) (x := Int32.ofNat 8) d_Ou_init_16 rfl rfl ?_
  refine b_ifd (pc2 := 42) d_Ou_init_18 rfl rfl rfl rfl rfl (fun h18 => ?_) (fun h18 => ?_)
  · exact absurd h18 (by decide)
  refine b_aln (pc2 := 22) d_Ou_init_21 rfl rfl ?_
  refine b_gr (pc2 := 25) d_Ou_init_22 q_6_13 (show _ from hLS_sh (i := 0) hb rfl) (by decide) (by decide) (show _ from hLS_p (i := 0) hp rfl) rfl ?_
  refine b_iln (pc2 := 26) d_Ou_init_25 rfl rfl ?_
  refine c_new (pc2 := 29) (n := 4) (a := b + 5) d_Ou_init_26 q_6_11 (by decide) hb hp rfl rfl (fun q hq => hz q (by omega)) (by decide) (by decide) rfl rfl ?_
  refine b_pure (pc2 := 30) d_Ou_init_29 rfl rfl rfl ?_
  refine b_bp (pc2 := 32) (x := Int32.ofNat 24) d_Ou_init_30 rfl rfl ?_
  refine c_is (pc2 := 35) (n := 4) (a := b + 5) (ci_Ro_init (q := 24) (by omega) (by decide)) d_Ou_init_32 q_6_17 hb hp rfl rfl (fun q hq => hz q (by omega)) rfl (Nat.le_of_ble_eq_true rfl) rfl rfl (Nat.le_of_ble_eq_true rfl) rfl rfl (by decide) (by decide) rfl ?_
  refine c_cv (tH2 := [(6, 4), (103, 8), (7, 2), (100, 24), (7, 2), (100, 24)]) (tP2 := [[some (b + 2)], [some (b + 3)], [some (b + 4)], [], [some (b + 6)], []]) rfl rfl ?_
  refine c_aast (pc2 := 36) (q := 1) (s := 4) (j := b + 5) (a := b + 2) (fi := 1) d_Ou_init_35 hb hp rfl (Nat.le_of_ble_eq_true rfl) (by decide) (by decide) (by decide) rfl (by decide) rfl rfl rfl ?_
  refine c_cv (tH2 := [(6, 4), (103, 8), (7, 2), (100, 24), (7, 2), (100, 24)]) (tP2 := [[some (b + 2)], [some (b + 3), some (b + 5)], [some (b + 4)], [], [some (b + 6)], []]) rfl rfl ?_
  refine b_inc (pc2 := 39) (al2 := [(1, _), (0, _)]) (y := Int32.ofNat 1) d_Ou_init_36 (by decide) rfl rfl rfl rfl ?_
  rw [show Int32.ofNat 1 + Int32.ofNat 1 = Int32.ofNat 2 from rfl]
  refine b_go (pc2 := 15) d_Ou_init_39 rfl ?_
  refine b_iln (pc2 := 16) d_Ou_init_15 rfl rfl ?_
  refine b_bp (pc2 := 18) (x := Int32.ofNat 8) d_Ou_init_16 rfl rfl ?_
  refine b_ifd (pc2 := 42) d_Ou_init_18 rfl rfl rfl rfl rfl (fun h18 => ?_) (fun h18 => ?_)
  · exact absurd h18 (by decide)
  refine b_aln (pc2 := 22) d_Ou_init_21 rfl rfl ?_
  refine b_gr (pc2 := 25) d_Ou_init_22 q_6_13 (show _ from hLS_sh (i := 0) hb rfl) (by decide) (by decide) (show _ from hLS_p (i := 0) hp rfl) rfl ?_
  refine b_iln (pc2 := 26) d_Ou_init_25 rfl rfl ?_
  refine c_new (pc2 := 29) (n := 6) (a := b + 7) d_Ou_init_26 q_6_11 (by decide) hb hp rfl rfl (fun q hq => hz q (by omega)) (by decide) (by decide) rfl rfl ?_
  refine b_pure (pc2 := 30) d_Ou_init_29 rfl rfl rfl ?_
  refine b_bp (pc2 := 32) (x := Int32.ofNat 24) d_Ou_init_30 rfl rfl ?_
  refine c_is (pc2 := 35) (n := 6) (a := b + 7) (ci_Ro_init (q := 24) (by omega) (by decide)) d_Ou_init_32 q_6_17 hb hp rfl rfl (fun q hq => hz q (by omega)) rfl (Nat.le_of_ble_eq_true rfl) rfl rfl (Nat.le_of_ble_eq_true rfl) rfl rfl (by decide) (by decide) rfl ?_
  refine c_cv (tH2 := [(6, 4), (103, 8), (7, 2), (100, 24), (7, 2), (100, 24), (7, 2), (100, 24)]) (tP2 := [[some (b + 2)], [some (b + 3), some (b + 5)], [some (b + 4)], [], [some (b + 6)], [], [some (b + 8)], []]) rfl rfl ?_
  refine c_aast (pc2 := 36) (q := 1) (s := 6) (j := b + 7) (a := b + 2) (fi := 2) d_Ou_init_35 hb hp rfl (Nat.le_of_ble_eq_true rfl) (by decide) (by decide) (by decide) rfl (by decide) rfl rfl rfl ?_
  refine c_cv (tH2 := [(6, 4), (103, 8), (7, 2), (100, 24), (7, 2), (100, 24), (7, 2), (100, 24)]) (tP2 := [[some (b + 2)], [some (b + 3), some (b + 5), some (b + 7)], [some (b + 4)], [], [some (b + 6)], [], [some (b + 8)], []]) rfl rfl ?_
  refine b_inc (pc2 := 39) (al2 := [(1, _), (0, _)]) (y := Int32.ofNat 1) d_Ou_init_36 (by decide) rfl rfl rfl rfl ?_
  rw [show Int32.ofNat 2 + Int32.ofNat 1 = Int32.ofNat 3 from rfl]
  refine b_go (pc2 := 15) d_Ou_init_39 rfl ?_
  refine b_iln (pc2 := 16) d_Ou_init_15 rfl rfl ?_
  refine b_bp (pc2 := 18) (x := Int32.ofNat 8) d_Ou_init_16 rfl rfl ?_
  refine b_ifd (pc2 := 42) d_Ou_init_18 rfl rfl rfl rfl rfl (fun h18 => ?_) (fun h18 => ?_)
  · exact absurd h18 (by decide)
  refine b_aln (pc2 := 22) d_Ou_init_21 rfl rfl ?_
  refine b_gr (pc2 := 25) d_Ou_init_22 q_6_13 (show _ from hLS_sh (i := 0) hb rfl) (by decide) (by decide) (show _ from hLS_p (i := 0) hp rfl) rfl ?_
  refine b_iln (pc2 := 26) d_Ou_init_25 rfl rfl ?_
  refine c_new (pc2 := 29) (n := 8) (a := b + 9) d_Ou_init_26 q_6_11 (by decide) hb hp rfl rfl (fun q hq => hz q (by omega)) (by decide) (by decide) rfl rfl ?_
  refine b_pure (pc2 := 30) d_Ou_init_29 rfl rfl rfl ?_
  refine b_bp (pc2 := 32) (x := Int32.ofNat 24) d_Ou_init_30 rfl rfl ?_
  refine c_is (pc2 := 35) (n := 8) (a := b + 9) (ci_Ro_init (q := 24) (by omega) (by decide)) d_Ou_init_32 q_6_17 hb hp rfl rfl (fun q hq => hz q (by omega)) rfl (Nat.le_of_ble_eq_true rfl) rfl rfl (Nat.le_of_ble_eq_true rfl) rfl rfl (by decide) (by decide) rfl ?_
  refine c_cv (tH2 := [(6, 4), (103, 8), (7, 2), (100, 24), (7, 2), (100, 24), (7, 2), (100, 24), (7, 2), (100, 24)]) (tP2 := [[some (b + 2)], [some (b + 3), some (b + 5), some (b + 7)], [some (b + 4)], [], [some (b + 6)], [], [some (b + 8)], [], [some (b + 10)], []]) rfl rfl ?_
  refine c_aast (pc2 := 36) (q := 1) (s := 8) (j := b + 9) (a := b + 2) (fi := 3) d_Ou_init_35 hb hp rfl (Nat.le_of_ble_eq_true rfl) (by decide) (by decide) (by decide) rfl (by decide) rfl rfl rfl ?_
  refine c_cv (tH2 := [(6, 4), (103, 8), (7, 2), (100, 24), (7, 2), (100, 24), (7, 2), (100, 24), (7, 2), (100, 24)]) (tP2 := [[some (b + 2)], [some (b + 3), some (b + 5), some (b + 7), some (b + 9)], [some (b + 4)], [], [some (b + 6)], [], [some (b + 8)], [], [some (b + 10)], []]) rfl rfl ?_
  refine b_inc (pc2 := 39) (al2 := [(1, _), (0, _)]) (y := Int32.ofNat 1) d_Ou_init_36 (by decide) rfl rfl rfl rfl ?_
  rw [show Int32.ofNat 3 + Int32.ofNat 1 = Int32.ofNat 4 from rfl]
  refine b_go (pc2 := 15) d_Ou_init_39 rfl ?_
  refine b_iln (pc2 := 16) d_Ou_init_15 rfl rfl ?_
  refine b_bp (pc2 := 18) (x := Int32.ofNat 8) d_Ou_init_16 rfl rfl ?_
  refine b_ifd (pc2 := 42) d_Ou_init_18 rfl rfl rfl rfl rfl (fun h18 => ?_) (fun h18 => ?_)
  · exact absurd h18 (by decide)
  refine b_aln (pc2 := 22) d_Ou_init_21 rfl rfl ?_
  refine b_gr (pc2 := 25) d_Ou_init_22 q_6_13 (show _ from hLS_sh (i := 0) hb rfl) (by decide) (by decide) (show _ from hLS_p (i := 0) hp rfl) rfl ?_
  refine b_iln (pc2 := 26) d_Ou_init_25 rfl rfl ?_
  refine c_new (pc2 := 29) (n := 10) (a := b + 11) d_Ou_init_26 q_6_11 (by decide) hb hp rfl rfl (fun q hq => hz q (by omega)) (by decide) (by decide) rfl rfl ?_
  refine b_pure (pc2 := 30) d_Ou_init_29 rfl rfl rfl ?_
  refine b_bp (pc2 := 32) (x := Int32.ofNat 24) d_Ou_init_30 rfl rfl ?_
  refine c_is (pc2 := 35) (n := 10) (a := b + 11) (ci_Ro_init (q := 24) (by omega) (by decide)) d_Ou_init_32 q_6_17 hb hp rfl rfl (fun q hq => hz q (by omega)) rfl (Nat.le_of_ble_eq_true rfl) rfl rfl (Nat.le_of_ble_eq_true rfl) rfl rfl (by decide) (by decide) rfl ?_
  refine c_cv (tH2 := [(6, 4), (103, 8), (7, 2), (100, 24), (7, 2), (100, 24), (7, 2), (100, 24), (7, 2), (100, 24), (7, 2), (100, 24)]) (tP2 := [[some (b + 2)], [some (b + 3), some (b + 5), some (b + 7), some (b + 9)], [some (b + 4)], [], [some (b + 6)], [], [some (b + 8)], [], [some (b + 10)], [], [some (b + 12)], []]) rfl rfl ?_
  refine c_aast (pc2 := 36) (q := 1) (s := 10) (j := b + 11) (a := b + 2) (fi := 4) d_Ou_init_35 hb hp rfl (Nat.le_of_ble_eq_true rfl) (by decide) (by decide) (by decide) rfl (by decide) rfl rfl rfl ?_
  refine c_cv (tH2 := [(6, 4), (103, 8), (7, 2), (100, 24), (7, 2), (100, 24), (7, 2), (100, 24), (7, 2), (100, 24), (7, 2), (100, 24)]) (tP2 := [[some (b + 2)], [some (b + 3), some (b + 5), some (b + 7), some (b + 9), some (b + 11)], [some (b + 4)], [], [some (b + 6)], [], [some (b + 8)], [], [some (b + 10)], [], [some (b + 12)], []]) rfl rfl ?_
  refine b_inc (pc2 := 39) (al2 := [(1, _), (0, _)]) (y := Int32.ofNat 1) d_Ou_init_36 (by decide) rfl rfl rfl rfl ?_
  rw [show Int32.ofNat 4 + Int32.ofNat 1 = Int32.ofNat 5 from rfl]
  refine b_go (pc2 := 15) d_Ou_init_39 rfl ?_
  refine b_iln (pc2 := 16) d_Ou_init_15 rfl rfl ?_
  refine b_bp (pc2 := 18) (x := Int32.ofNat 8) d_Ou_init_16 rfl rfl ?_
  refine b_ifd (pc2 := 42) d_Ou_init_18 rfl rfl rfl rfl rfl (fun h18 => ?_) (fun h18 => ?_)
  · exact absurd h18 (by decide)
  refine b_aln (pc2 := 22) d_Ou_init_21 rfl rfl ?_
  refine b_gr (pc2 := 25) d_Ou_init_22 q_6_13 (show _ from hLS_sh (i := 0) hb rfl) (by decide) (by decide) (show _ from hLS_p (i := 0) hp rfl) rfl ?_
  refine b_iln (pc2 := 26) d_Ou_init_25 rfl rfl ?_
  refine c_new (pc2 := 29) (n := 12) (a := b + 13) d_Ou_init_26 q_6_11 (by decide) hb hp rfl rfl (fun q hq => hz q (by omega)) (by decide) (by decide) rfl rfl ?_
  refine b_pure (pc2 := 30) d_Ou_init_29 rfl rfl rfl ?_
  refine b_bp (pc2 := 32) (x := Int32.ofNat 24) d_Ou_init_30 rfl rfl ?_
  refine c_is (pc2 := 35) (n := 12) (a := b + 13) (ci_Ro_init (q := 24) (by omega) (by decide)) d_Ou_init_32 q_6_17 hb hp rfl rfl (fun q hq => hz q (by omega)) rfl (Nat.le_of_ble_eq_true rfl) rfl rfl (Nat.le_of_ble_eq_true rfl) rfl rfl (by decide) (by decide) rfl ?_
  refine c_cv (tH2 := [(6, 4), (103, 8), (7, 2), (100, 24), (7, 2), (100, 24), (7, 2), (100, 24), (7, 2), (100, 24), (7, 2), (100, 24), (7, 2), (100, 24)]) (tP2 := [[some (b + 2)], [some (b + 3), some (b + 5), some (b + 7), some (b + 9), some (b + 11)], [some (b + 4)], [], [some (b + 6)], [], [some (b + 8)], [], [some (b + 10)], [], [some (b + 12)], [], [some (b + 14)], []]) rfl rfl ?_
  refine c_aast (pc2 := 36) (q := 1) (s := 12) (j := b + 13) (a := b + 2) (fi := 5) d_Ou_init_35 hb hp rfl (Nat.le_of_ble_eq_true rfl) (by decide) (by decide) (by decide) rfl (by decide) rfl rfl rfl ?_
  refine c_cv (tH2 := [(6, 4), (103, 8), (7, 2), (100, 24), (7, 2), (100, 24), (7, 2), (100, 24), (7, 2), (100, 24), (7, 2), (100, 24), (7, 2), (100, 24)]) (tP2 := [[some (b + 2)], [some (b + 3), some (b + 5), some (b + 7), some (b + 9), some (b + 11), some (b + 13)], [some (b + 4)], [], [some (b + 6)], [], [some (b + 8)], [], [some (b + 10)], [], [some (b + 12)], [], [some (b + 14)], []]) rfl rfl ?_
  refine b_inc (pc2 := 39) (al2 := [(1, _), (0, _)]) (y := Int32.ofNat 1) d_Ou_init_36 (by decide) rfl rfl rfl rfl ?_
  rw [show Int32.ofNat 5 + Int32.ofNat 1 = Int32.ofNat 6 from rfl]
  refine b_go (pc2 := 15) d_Ou_init_39 rfl ?_
  refine b_iln (pc2 := 16) d_Ou_init_15 rfl rfl ?_
  refine b_bp (pc2 := 18) (x := Int32.ofNat 8) d_Ou_init_16 rfl rfl ?_
  refine b_ifd (pc2 := 42) d_Ou_init_18 rfl rfl rfl rfl rfl (fun h18 => ?_) (fun h18 => ?_)
  · exact absurd h18 (by decide)
  refine b_aln (pc2 := 22) d_Ou_init_21 rfl rfl ?_
  refine b_gr (pc2 := 25) d_Ou_init_22 q_6_13 (show _ from hLS_sh (i := 0) hb rfl) (by decide) (by decide) (show _ from hLS_p (i := 0) hp rfl) rfl ?_
  refine b_iln (pc2 := 26) d_Ou_init_25 rfl rfl ?_
  refine c_new (pc2 := 29) (n := 14) (a := b + 15) d_Ou_init_26 q_6_11 (by decide) hb hp rfl rfl (fun q hq => hz q (by omega)) (by decide) (by decide) rfl rfl ?_
  refine b_pure (pc2 := 30) d_Ou_init_29 rfl rfl rfl ?_
  refine b_bp (pc2 := 32) (x := Int32.ofNat 24) d_Ou_init_30 rfl rfl ?_
  refine c_is (pc2 := 35) (n := 14) (a := b + 15) (ci_Ro_init (q := 24) (by omega) (by decide)) d_Ou_init_32 q_6_17 hb hp rfl rfl (fun q hq => hz q (by omega)) rfl (Nat.le_of_ble_eq_true rfl) rfl rfl (Nat.le_of_ble_eq_true rfl) rfl rfl (by decide) (by decide) rfl ?_
  refine c_cv (tH2 := [(6, 4), (103, 8), (7, 2), (100, 24), (7, 2), (100, 24), (7, 2), (100, 24), (7, 2), (100, 24), (7, 2), (100, 24), (7, 2), (100, 24), (7, 2), (100, 24)]) (tP2 := [[some (b + 2)], [some (b + 3), some (b + 5), some (b + 7), some (b + 9), some (b + 11), some (b + 13)], [some (b + 4)], [], [some (b + 6)], [], [some (b + 8)], [], [some (b + 10)], [], [some (b + 12)], [], [some (b + 14)], [], [some (b + 16)], []]) rfl rfl ?_
  refine c_aast (pc2 := 36) (q := 1) (s := 14) (j := b + 15) (a := b + 2) (fi := 6) d_Ou_init_35 hb hp rfl (Nat.le_of_ble_eq_true rfl) (by decide) (by decide) (by decide) rfl (by decide) rfl rfl rfl ?_
  refine c_cv (tH2 := [(6, 4), (103, 8), (7, 2), (100, 24), (7, 2), (100, 24), (7, 2), (100, 24), (7, 2), (100, 24), (7, 2), (100, 24), (7, 2), (100, 24), (7, 2), (100, 24)]) (tP2 := [[some (b + 2)], [some (b + 3), some (b + 5), some (b + 7), some (b + 9), some (b + 11), some (b + 13), some (b + 15)], [some (b + 4)], [], [some (b + 6)], [], [some (b + 8)], [], [some (b + 10)], [], [some (b + 12)], [], [some (b + 14)], [], [some (b + 16)], []]) rfl rfl ?_
  refine b_inc (pc2 := 39) (al2 := [(1, _), (0, _)]) (y := Int32.ofNat 1) d_Ou_init_36 (by decide) rfl rfl rfl rfl ?_
  rw [show Int32.ofNat 6 + Int32.ofNat 1 = Int32.ofNat 7 from rfl]
  refine b_go (pc2 := 15) d_Ou_init_39 rfl ?_
  refine b_iln (pc2 := 16) d_Ou_init_15 rfl rfl ?_
  refine b_bp (pc2 := 18) (x := Int32.ofNat 8) d_Ou_init_16 rfl rfl ?_
  refine b_ifd (pc2 := 42) d_Ou_init_18 rfl rfl rfl rfl rfl (fun h18 => ?_) (fun h18 => ?_)
  · exact absurd h18 (by decide)
  refine b_aln (pc2 := 22) d_Ou_init_21 rfl rfl ?_
  refine b_gr (pc2 := 25) d_Ou_init_22 q_6_13 (show _ from hLS_sh (i := 0) hb rfl) (by decide) (by decide) (show _ from hLS_p (i := 0) hp rfl) rfl ?_
  refine b_iln (pc2 := 26) d_Ou_init_25 rfl rfl ?_
  refine c_new (pc2 := 29) (n := 16) (a := b + 17) d_Ou_init_26 q_6_11 (by decide) hb hp rfl rfl (fun q hq => hz q (by omega)) (by decide) (by decide) rfl rfl ?_
  refine b_pure (pc2 := 30) d_Ou_init_29 rfl rfl rfl ?_
  refine b_bp (pc2 := 32) (x := Int32.ofNat 24) d_Ou_init_30 rfl rfl ?_
  refine c_is (pc2 := 35) (n := 16) (a := b + 17) (ci_Ro_init (q := 24) (by omega) (by decide)) d_Ou_init_32 q_6_17 hb hp rfl rfl (fun q hq => hz q (by omega)) rfl (Nat.le_of_ble_eq_true rfl) rfl rfl (Nat.le_of_ble_eq_true rfl) rfl rfl (by decide) (by decide) rfl ?_
  refine c_cv (tH2 := [(6, 4), (103, 8), (7, 2), (100, 24), (7, 2), (100, 24), (7, 2), (100, 24), (7, 2), (100, 24), (7, 2), (100, 24), (7, 2), (100, 24), (7, 2), (100, 24), (7, 2), (100, 24)]) (tP2 := [[some (b + 2)], [some (b + 3), some (b + 5), some (b + 7), some (b + 9), some (b + 11), some (b + 13), some (b + 15)], [some (b + 4)], [], [some (b + 6)], [], [some (b + 8)], [], [some (b + 10)], [], [some (b + 12)], [], [some (b + 14)], [], [some (b + 16)], [], [some (b + 18)], []]) rfl rfl ?_
  refine c_aast (pc2 := 36) (q := 1) (s := 16) (j := b + 17) (a := b + 2) (fi := 7) d_Ou_init_35 hb hp rfl (Nat.le_of_ble_eq_true rfl) (by decide) (by decide) (by decide) rfl (by decide) rfl rfl rfl ?_
  refine c_cv (tH2 := [(6, 4), (103, 8), (7, 2), (100, 24), (7, 2), (100, 24), (7, 2), (100, 24), (7, 2), (100, 24), (7, 2), (100, 24), (7, 2), (100, 24), (7, 2), (100, 24), (7, 2), (100, 24)]) (tP2 := [[some (b + 2)], [some (b + 3), some (b + 5), some (b + 7), some (b + 9), some (b + 11), some (b + 13), some (b + 15), some (b + 17)], [some (b + 4)], [], [some (b + 6)], [], [some (b + 8)], [], [some (b + 10)], [], [some (b + 12)], [], [some (b + 14)], [], [some (b + 16)], [], [some (b + 18)], []]) rfl rfl ?_
  refine b_inc (pc2 := 39) (al2 := [(1, _), (0, _)]) (y := Int32.ofNat 1) d_Ou_init_36 (by decide) rfl rfl rfl rfl ?_
  rw [show Int32.ofNat 7 + Int32.ofNat 1 = Int32.ofNat 8 from rfl]
  refine b_go (pc2 := 15) d_Ou_init_39 rfl ?_
  refine b_iln (pc2 := 16) d_Ou_init_15 rfl rfl ?_
  refine b_bp (pc2 := 18) (x := Int32.ofNat 8) d_Ou_init_16 rfl rfl ?_
  refine b_ifd (pc2 := 42) d_Ou_init_18 rfl rfl rfl rfl rfl (fun h18 => ?_) (fun h18 => ?_)
  rotate_left
  · exact absurd (by decide) h18
  refine b_aln (pc2 := 43) d_Ou_init_42 rfl rfl ?_
  refine b_ic (pc2 := 44) (x := Int32.ofNat 0) d_Ou_init_43 rfl rfl ?_
  refine b_pi (pc2 := 47) d_Ou_init_44 q_6_20 (show _ from hLS_sh (i := 0) hb rfl) (by decide) (Or.inl (by decide)) (Or.inl rfl) (bw_rc0 _) rfl ?_
  rw [u2_idq (f := J) (a := b + 1) (k := 1) (x := Int32.ofNat 0) (by rw [hz _ (by omega)]; rfl)]
  refine b_aln (pc2 := 48) d_Ou_init_47 rfl rfl ?_
  refine b_ic (pc2 := 49) (x := Int32.ofNat 0) d_Ou_init_48 rfl rfl ?_
  refine b_pi (pc2 := 52) d_Ou_init_49 q_6_24 (show _ from hLS_sh (i := 0) hb rfl) (by decide) (Or.inl (by decide)) (Or.inl rfl) (bw_rc0 _) rfl ?_
  rw [u2_idq (f := J) (a := b + 1) (k := 2) (x := Int32.ofNat 0) (by rw [hz _ (by omega)]; rfl)]
  refine b_aln (pc2 := 53) d_Ou_init_52 rfl rfl ?_
  refine b_ic (pc2 := 54) (x := Int32.ofNat 0) d_Ou_init_53 rfl rfl ?_
  refine b_pi (pc2 := 57) d_Ou_init_54 q_6_27 (show _ from hLS_sh (i := 0) hb rfl) (by decide) (Or.inl (by decide)) (Or.inl rfl) (bw_rc0 _) rfl ?_
  rw [u2_idq (f := J) (a := b + 1) (k := 3) (x := Int32.ofNat 0) (by rw [hz _ (by omega)]; rfl)]
  exact c_vr d_Ou_init_57 rfl
theorem ci_At_init {d N : Nat} (hd : 2 ≤ d) : cS d N 15 [] (0, 3) [(0, 3), (7, 2), (100, 16)] (fun b => [[some (b + 2)], [some (b + 3)], []]) (fun b J => J) := by
  obtain ⟨d, rfl⟩ : ∃ e, d = e + 1 := ⟨d - 1, by omega⟩
  refine cS_of (fun _ => Nat.le_of_ble_eq_true rfl) (fun b H P J hb hp hz => ?_)
  show bH d (hLS N (H ++ [(0, 3)]) (P ++ [[]])) r0 mt_At_init _ 0 [(0, .ref (b + 1))] [] _ J 0 lz 0 0
  refine b_aln (pc2 := 1) d_At_init_0 rfl rfl ?_
  refine c_sup (pc2 := 4) d_At_init_1 q_0_3 (Nat.le_of_ble_eq_true rfl) rfl ?_
  refine b_aln (pc2 := 5) d_At_init_4 rfl rfl ?_
  refine c_new (pc2 := 8) (n := 1) (a := b + 2) d_At_init_5 q_0_9 (by decide) hb hp rfl rfl (fun q hq => hz q (by omega)) (by decide) (by decide) rfl rfl ?_
  refine b_pure (pc2 := 9) d_At_init_8 rfl rfl rfl ?_
  refine b_bp (pc2 := 11) (x := Int32.ofNat 16) d_At_init_9 rfl rfl ?_
  refine c_is (pc2 := 14) (n := 1) (a := b + 2) (ci_Ro_init (q := 16) (by omega) (by decide)) d_At_init_11 q_0_11 hb hp rfl rfl (fun q hq => hz q (by omega)) rfl (Nat.le_of_ble_eq_true rfl) rfl rfl (Nat.le_of_ble_eq_true rfl) rfl rfl (by decide) (by decide) rfl ?_
  refine c_cv (tH2 := [(0, 3), (7, 2), (100, 16)]) (tP2 := [[], [some (b + 3)], []]) rfl rfl ?_
  refine c_putR (pc2 := 17) (q := 0) (a := b + 1) d_At_init_14 q_0_14 hb hp rfl (Nat.le_of_ble_eq_true rfl) (by decide) (Or.inr ⟨rfl, rfl⟩) rfl rfl rfl ?_
  refine c_cv (tH2 := [(0, 3), (7, 2), (100, 16)]) (tP2 := [[some (b + 2)], [some (b + 3)], []]) rfl rfl ?_
  refine b_aln (pc2 := 18) d_At_init_17 rfl rfl ?_
  refine b_ic (pc2 := 19) (x := Int32.ofNat 0) d_At_init_18 rfl rfl ?_
  refine b_pi (pc2 := 22) d_At_init_19 q_0_20 (show _ from hLS_sh (i := 0) hb rfl) (by decide) (Or.inl (by decide)) (Or.inl rfl) (bw_rc0 _) rfl ?_
  rw [u2_idq (f := J) (a := b + 1) (k := 1) (x := Int32.ofNat 0) (by rw [hz _ (by omega)]; rfl)]
  refine b_aln (pc2 := 23) d_At_init_22 rfl rfl ?_
  refine b_ic (pc2 := 24) (x := Int32.ofNat 0) d_At_init_23 rfl rfl ?_
  refine b_pi (pc2 := 27) d_At_init_24 q_0_24 (show _ from hLS_sh (i := 0) hb rfl) (by decide) (Or.inl (by decide)) (Or.inl rfl) (bw_rc0 _) rfl ?_
  rw [u2_idq (f := J) (a := b + 1) (k := 2) (x := Int32.ofNat 0) (by rw [hz _ (by omega)]; rfl)]
  exact c_vr d_At_init_27 rfl
theorem ci_No_init {d N : Nat} (hd : 2 ≤ d) : cS d N 12 [] (5, 3) [(5, 3), (103, 4), (7, 2), (100, 20), (7, 2), (100, 20), (7, 2), (100, 20), (7, 2), (100, 20)] (fun b => [[some (b + 2)], [some (b + 3), some (b + 5), some (b + 7), some (b + 9)], [some (b + 4)], [], [some (b + 6)], [], [some (b + 8)], [], [some (b + 10)], []]) (fun b J => J) := by
  obtain ⟨d, rfl⟩ : ∃ e, d = e + 1 := ⟨d - 1, by omega⟩
  refine cS_of (fun _ => Nat.le_of_ble_eq_true rfl) (fun b H P J hb hp hz => ?_)
  show bH d (hLS N (H ++ [(5, 3)]) (P ++ [[]])) r0 mt_No_init _ 0 [(0, .ref (b + 1))] [] _ J 0 lz 0 0
  refine b_aln (pc2 := 1) d_No_init_0 rfl rfl ?_
  refine c_sup (pc2 := 4) d_No_init_1 q_5_3 (Nat.le_of_ble_eq_true rfl) rfl ?_
  refine b_aln (pc2 := 5) d_No_init_4 rfl rfl ?_
  refine b_ic (pc2 := 6) (x := Int32.ofNat 4) d_No_init_5 rfl rfl ?_
  refine c_anew (pc2 := 9) (n := 1) (a := b + 2) (q := 4) d_No_init_6 q_5_11 (by decide) (by decide) hb hp rfl rfl (fun q hq => hz q (by omega)) (by decide) (by decide) rfl rfl ?_
  refine c_cv (tH2 := [(5, 3), (103, 4)]) (tP2 := [[], []]) rfl rfl ?_
  refine c_putR (pc2 := 12) (q := 0) (a := b + 1) d_No_init_9 q_5_13 hb hp rfl (Nat.le_of_ble_eq_true rfl) (by decide) (Or.inr ⟨rfl, rfl⟩) rfl rfl rfl ?_
  refine c_cv (tH2 := [(5, 3), (103, 4)]) (tP2 := [[some (b + 2)], []]) rfl rfl ?_
  refine b_ic (pc2 := 13) (x := Int32.ofNat 0) d_No_init_12 rfl rfl ?_
  refine b_isn (pc2 := 14) (al2 := [(1, _), (0, _)]) d_No_init_13 (by decide) rfl rfl ?_
  refine b_iln (pc2 := 15) d_No_init_14 rfl rfl ?_
  refine b_ic (pc2 := 16) (x := Int32.ofNat 4) d_No_init_15 rfl rfl ?_
  refine b_ifd (pc2 := 40) d_No_init_16 rfl rfl rfl rfl rfl (fun h16 => ?_) (fun h16 => ?_)
  · exact absurd h16 (by decide)
  refine b_aln (pc2 := 20) d_No_init_19 rfl rfl ?_
  refine b_gr (pc2 := 23) d_No_init_20 q_5_13 (show _ from hLS_sh (i := 0) hb rfl) (by decide) (by decide) (show _ from hLS_p (i := 0) hp rfl) rfl ?_
  refine b_iln (pc2 := 24) d_No_init_23 rfl rfl ?_
  refine c_new (pc2 := 27) (n := 2) (a := b + 3) d_No_init_24 q_5_11 (by decide) hb hp rfl rfl (fun q hq => hz q (by omega)) (by decide) (by decide) rfl rfl ?_
  refine b_pure (pc2 := 28) d_No_init_27 rfl rfl rfl ?_
  refine b_bp (pc2 := 30) (x := Int32.ofNat 20) d_No_init_28 rfl rfl ?_
  refine c_is (pc2 := 33) (n := 2) (a := b + 3) (ci_Ro_init (q := 20) (by omega) (by decide)) d_No_init_30 q_5_17 hb hp rfl rfl (fun q hq => hz q (by omega)) rfl (Nat.le_of_ble_eq_true rfl) rfl rfl (Nat.le_of_ble_eq_true rfl) rfl rfl (by decide) (by decide) rfl ?_
  refine c_cv (tH2 := [(5, 3), (103, 4), (7, 2), (100, 20)]) (tP2 := [[some (b + 2)], [], [some (b + 4)], []]) rfl rfl ?_
  refine c_aast (pc2 := 34) (q := 1) (s := 2) (j := b + 3) (a := b + 2) (fi := 0) d_No_init_33 hb hp rfl (Nat.le_of_ble_eq_true rfl) (by decide) (by decide) (by decide) rfl (by decide) rfl rfl rfl ?_
  refine c_cv (tH2 := [(5, 3), (103, 4), (7, 2), (100, 20)]) (tP2 := [[some (b + 2)], [some (b + 3)], [some (b + 4)], []]) rfl rfl ?_
  refine b_inc (pc2 := 37) (al2 := [(1, _), (0, _)]) (y := Int32.ofNat 1) d_No_init_34 (by decide) rfl rfl rfl rfl ?_
  rw [show Int32.ofNat 0 + Int32.ofNat 1 = Int32.ofNat 1 from rfl]
  refine b_go (pc2 := 14) d_No_init_37 rfl ?_
  refine b_iln (pc2 := 15) d_No_init_14 rfl rfl ?_
  refine b_ic (pc2 := 16) (x := Int32.ofNat 4) d_No_init_15 rfl rfl ?_
  refine b_ifd (pc2 := 40) d_No_init_16 rfl rfl rfl rfl rfl (fun h16 => ?_) (fun h16 => ?_)
  · exact absurd h16 (by decide)
  refine b_aln (pc2 := 20) d_No_init_19 rfl rfl ?_
  refine b_gr (pc2 := 23) d_No_init_20 q_5_13 (show _ from hLS_sh (i := 0) hb rfl) (by decide) (by decide) (show _ from hLS_p (i := 0) hp rfl) rfl ?_
  refine b_iln (pc2 := 24) d_No_init_23 rfl rfl ?_
  refine c_new (pc2 := 27) (n := 4) (a := b + 5) d_No_init_24 q_5_11 (by decide) hb hp rfl rfl (fun q hq => hz q (by omega)) (by decide) (by decide) rfl rfl ?_
  refine b_pure (pc2 := 28) d_No_init_27 rfl rfl rfl ?_
  refine b_bp (pc2 := 30) (x := Int32.ofNat 20) d_No_init_28 rfl rfl ?_
  refine c_is (pc2 := 33) (n := 4) (a := b + 5) (ci_Ro_init (q := 20) (by omega) (by decide)) d_No_init_30 q_5_17 hb hp rfl rfl (fun q hq => hz q (by omega)) rfl (Nat.le_of_ble_eq_true rfl) rfl rfl (Nat.le_of_ble_eq_true rfl) rfl rfl (by decide) (by decide) rfl ?_
  refine c_cv (tH2 := [(5, 3), (103, 4), (7, 2), (100, 20), (7, 2), (100, 20)]) (tP2 := [[some (b + 2)], [some (b + 3)], [some (b + 4)], [], [some (b + 6)], []]) rfl rfl ?_
  refine c_aast (pc2 := 34) (q := 1) (s := 4) (j := b + 5) (a := b + 2) (fi := 1) d_No_init_33 hb hp rfl (Nat.le_of_ble_eq_true rfl) (by decide) (by decide) (by decide) rfl (by decide) rfl rfl rfl ?_
  refine c_cv (tH2 := [(5, 3), (103, 4), (7, 2), (100, 20), (7, 2), (100, 20)]) (tP2 := [[some (b + 2)], [some (b + 3), some (b + 5)], [some (b + 4)], [], [some (b + 6)], []]) rfl rfl ?_
  refine b_inc (pc2 := 37) (al2 := [(1, _), (0, _)]) (y := Int32.ofNat 1) d_No_init_34 (by decide) rfl rfl rfl rfl ?_
  rw [show Int32.ofNat 1 + Int32.ofNat 1 = Int32.ofNat 2 from rfl]
  refine b_go (pc2 := 14) d_No_init_37 rfl ?_
  refine b_iln (pc2 := 15) d_No_init_14 rfl rfl ?_
  refine b_ic (pc2 := 16) (x := Int32.ofNat 4) d_No_init_15 rfl rfl ?_
  refine b_ifd (pc2 := 40) d_No_init_16 rfl rfl rfl rfl rfl (fun h16 => ?_) (fun h16 => ?_)
  · exact absurd h16 (by decide)
  refine b_aln (pc2 := 20) d_No_init_19 rfl rfl ?_
  refine b_gr (pc2 := 23) d_No_init_20 q_5_13 (show _ from hLS_sh (i := 0) hb rfl) (by decide) (by decide) (show _ from hLS_p (i := 0) hp rfl) rfl ?_
  refine b_iln (pc2 := 24) d_No_init_23 rfl rfl ?_
  refine c_new (pc2 := 27) (n := 6) (a := b + 7) d_No_init_24 q_5_11 (by decide) hb hp rfl rfl (fun q hq => hz q (by omega)) (by decide) (by decide) rfl rfl ?_
  refine b_pure (pc2 := 28) d_No_init_27 rfl rfl rfl ?_
  refine b_bp (pc2 := 30) (x := Int32.ofNat 20) d_No_init_28 rfl rfl ?_
  refine c_is (pc2 := 33) (n := 6) (a := b + 7) (ci_Ro_init (q := 20) (by omega) (by decide)) d_No_init_30 q_5_17 hb hp rfl rfl (fun q hq => hz q (by omega)) rfl (Nat.le_of_ble_eq_true rfl) rfl rfl (Nat.le_of_ble_eq_true rfl) rfl rfl (by decide) (by decide) rfl ?_
  refine c_cv (tH2 := [(5, 3), (103, 4), (7, 2), (100, 20), (7, 2), (100, 20), (7, 2), (100, 20)]) (tP2 := [[some (b + 2)], [some (b + 3), some (b + 5)], [some (b + 4)], [], [some (b + 6)], [], [some (b + 8)], []]) rfl rfl ?_
  refine c_aast (pc2 := 34) (q := 1) (s := 6) (j := b + 7) (a := b + 2) (fi := 2) d_No_init_33 hb hp rfl (Nat.le_of_ble_eq_true rfl) (by decide) (by decide) (by decide) rfl (by decide) rfl rfl rfl ?_
  refine c_cv (tH2 := [(5, 3), (103, 4), (7, 2), (100, 20), (7, 2), (100, 20), (7, 2), (100, 20)]) (tP2 := [[some (b + 2)], [some (b + 3), some (b + 5), some (b + 7)], [some (b + 4)], [], [some (b + 6)], [], [some (b + 8)], []]) rfl rfl ?_
  refine b_inc (pc2 := 37) (al2 := [(1, _), (0, _)]) (y := Int32.ofNat 1) d_No_init_34 (by decide) rfl rfl rfl rfl ?_
  rw [show Int32.ofNat 2 + Int32.ofNat 1 = Int32.ofNat 3 from rfl]
  refine b_go (pc2 := 14) d_No_init_37 rfl ?_
  refine b_iln (pc2 := 15) d_No_init_14 rfl rfl ?_
  refine b_ic (pc2 := 16) (x := Int32.ofNat 4) d_No_init_15 rfl rfl ?_
  refine b_ifd (pc2 := 40) d_No_init_16 rfl rfl rfl rfl rfl (fun h16 => ?_) (fun h16 => ?_)
  · exact absurd h16 (by decide)
  refine b_aln (pc2 := 20) d_No_init_19 rfl rfl ?_
  refine b_gr (pc2 := 23) d_No_init_20 q_5_13 (show _ from hLS_sh (i := 0) hb rfl) (by decide) (by decide) (show _ from hLS_p (i := 0) hp rfl) rfl ?_
  refine b_iln (pc2 := 24) d_No_init_23 rfl rfl ?_
  refine c_new (pc2 := 27) (n := 8) (a := b + 9) d_No_init_24 q_5_11 (by decide) hb hp rfl rfl (fun q hq => hz q (by omega)) (by decide) (by decide) rfl rfl ?_
  refine b_pure (pc2 := 28) d_No_init_27 rfl rfl rfl ?_
  refine b_bp (pc2 := 30) (x := Int32.ofNat 20) d_No_init_28 rfl rfl ?_
  refine c_is (pc2 := 33) (n := 8) (a := b + 9) (ci_Ro_init (q := 20) (by omega) (by decide)) d_No_init_30 q_5_17 hb hp rfl rfl (fun q hq => hz q (by omega)) rfl (Nat.le_of_ble_eq_true rfl) rfl rfl (Nat.le_of_ble_eq_true rfl) rfl rfl (by decide) (by decide) rfl ?_
  refine c_cv (tH2 := [(5, 3), (103, 4), (7, 2), (100, 20), (7, 2), (100, 20), (7, 2), (100, 20), (7, 2), (100, 20)]) (tP2 := [[some (b + 2)], [some (b + 3), some (b + 5), some (b + 7)], [some (b + 4)], [], [some (b + 6)], [], [some (b + 8)], [], [some (b + 10)], []]) rfl rfl ?_
  refine c_aast (pc2 := 34) (q := 1) (s := 8) (j := b + 9) (a := b + 2) (fi := 3) d_No_init_33 hb hp rfl (Nat.le_of_ble_eq_true rfl) (by decide) (by decide) (by decide) rfl (by decide) rfl rfl rfl ?_
  refine c_cv (tH2 := [(5, 3), (103, 4), (7, 2), (100, 20), (7, 2), (100, 20), (7, 2), (100, 20), (7, 2), (100, 20)]) (tP2 := [[some (b + 2)], [some (b + 3), some (b + 5), some (b + 7), some (b + 9)], [some (b + 4)], [], [some (b + 6)], [], [some (b + 8)], [], [some (b + 10)], []]) rfl rfl ?_
  refine b_inc (pc2 := 37) (al2 := [(1, _), (0, _)]) (y := Int32.ofNat 1) d_No_init_34 (by decide) rfl rfl rfl rfl ?_
  rw [show Int32.ofNat 3 + Int32.ofNat 1 = Int32.ofNat 4 from rfl]
  refine b_go (pc2 := 14) d_No_init_37 rfl ?_
  refine b_iln (pc2 := 15) d_No_init_14 rfl rfl ?_
  refine b_ic (pc2 := 16) (x := Int32.ofNat 4) d_No_init_15 rfl rfl ?_
  refine b_ifd (pc2 := 40) d_No_init_16 rfl rfl rfl rfl rfl (fun h16 => ?_) (fun h16 => ?_)
  rotate_left
  · exact absurd (by decide) h16
  refine b_aln (pc2 := 41) d_No_init_40 rfl rfl ?_
  refine b_ic (pc2 := 42) (x := Int32.ofNat 0) d_No_init_41 rfl rfl ?_
  refine b_pi (pc2 := 45) d_No_init_42 q_5_20 (show _ from hLS_sh (i := 0) hb rfl) (by decide) (Or.inl (by decide)) (Or.inl rfl) (bw_rc0 _) rfl ?_
  rw [u2_idq (f := J) (a := b + 1) (k := 1) (x := Int32.ofNat 0) (by rw [hz _ (by omega)]; rfl)]
  refine b_aln (pc2 := 46) d_No_init_45 rfl rfl ?_
  refine b_ic (pc2 := 47) (x := Int32.ofNat 0) d_No_init_46 rfl rfl ?_
  refine b_pi (pc2 := 50) d_No_init_47 q_5_24 (show _ from hLS_sh (i := 0) hb rfl) (by decide) (Or.inl (by decide)) (Or.inl rfl) (bw_rc0 _) rfl ?_
  rw [u2_idq (f := J) (a := b + 1) (k := 2) (x := Int32.ofNat 0) (by rw [hz _ (by omega)]; rfl)]
  exact c_vr d_No_init_50 rfl
theorem ci_De_init {d N : Nat} (hd : 3 ≤ d) : cS d N 7 [] (3, 10) [(3, 10), (6, 4), (103, 8), (7, 2), (100, 24), (7, 2), (100, 24), (7, 2), (100, 24), (7, 2), (100, 24), (7, 2), (100, 24), (7, 2), (100, 24), (7, 2), (100, 24), (7, 2), (100, 24), (4, 4), (7, 2), (100, 20), (7, 2), (100, 31), (7, 2), (100, 12), (7, 2), (100, 12), (7, 2), (100, 7)] (fun b => [[some (b + 2), some (b + 20), some (b + 25), some (b + 27), some (b + 29)], [some (b + 3)], [some (b + 4), some (b + 6), some (b + 8), some (b + 10), some (b + 12), some (b + 14), some (b + 16), some (b + 18)], [some (b + 5)], [], [some (b + 7)], [], [some (b + 9)], [], [some (b + 11)], [], [some (b + 13)], [], [some (b + 15)], [], [some (b + 17)], [], [some (b + 19)], [], [some (b + 21), some (b + 23)], [some (b + 22)], [], [some (b + 24)], [], [some (b + 26)], [], [some (b + 28)], [], [some (b + 30)], []]) (fun b J => (am_u2 J (b + 1) 5 (Int32.ofNat 1))) := by
  obtain ⟨d, rfl⟩ : ∃ e, d = e + 1 := ⟨d - 1, by omega⟩
  refine cS_of (fun _ => Nat.le_of_ble_eq_true rfl) (fun b H P J hb hp hz => ?_)
  show bH d (hLS N (H ++ [(3, 10)]) (P ++ [[]])) r0 mt_De_init _ 0 [(0, .ref (b + 1))] [] _ J 0 lz 0 0
  refine b_aln (pc2 := 1) d_De_init_0 rfl rfl ?_
  refine c_sup (pc2 := 4) d_De_init_1 q_3_3 (Nat.le_of_ble_eq_true rfl) rfl ?_
  refine b_aln (pc2 := 5) d_De_init_4 rfl rfl ?_
  refine c_new (pc2 := 8) (n := 1) (a := b + 2) d_De_init_5 q_3_9 (by decide) hb hp rfl rfl (fun q hq => hz q (by omega)) (by decide) (by decide) rfl rfl ?_
  refine b_pure (pc2 := 9) d_De_init_8 rfl rfl rfl ?_
  refine c_is (pc2 := 12) (n := 1) (a := b + 2) (ci_Ou_init (by omega)) d_De_init_9 q_3_11 hb hp rfl rfl (fun q hq => hz q (by omega)) rfl (Nat.le_of_ble_eq_true rfl) rfl rfl (Nat.le_of_ble_eq_true rfl) rfl rfl (by decide) (by decide) rfl ?_
  refine c_cv (tH2 := [(3, 10), (6, 4), (103, 8), (7, 2), (100, 24), (7, 2), (100, 24), (7, 2), (100, 24), (7, 2), (100, 24), (7, 2), (100, 24), (7, 2), (100, 24), (7, 2), (100, 24), (7, 2), (100, 24)]) (tP2 := [[], [some (b + 3)], [some (b + 4), some (b + 6), some (b + 8), some (b + 10), some (b + 12), some (b + 14), some (b + 16), some (b + 18)], [some (b + 5)], [], [some (b + 7)], [], [some (b + 9)], [], [some (b + 11)], [], [some (b + 13)], [], [some (b + 15)], [], [some (b + 17)], [], [some (b + 19)], []]) rfl rfl ?_
  refine c_putR (pc2 := 15) (q := 0) (a := b + 1) d_De_init_12 q_3_12 hb hp rfl (Nat.le_of_ble_eq_true rfl) (by decide) (Or.inr ⟨rfl, rfl⟩) rfl rfl rfl ?_
  refine c_cv (tH2 := [(3, 10), (6, 4), (103, 8), (7, 2), (100, 24), (7, 2), (100, 24), (7, 2), (100, 24), (7, 2), (100, 24), (7, 2), (100, 24), (7, 2), (100, 24), (7, 2), (100, 24), (7, 2), (100, 24)]) (tP2 := [[some (b + 2)], [some (b + 3)], [some (b + 4), some (b + 6), some (b + 8), some (b + 10), some (b + 12), some (b + 14), some (b + 16), some (b + 18)], [some (b + 5)], [], [some (b + 7)], [], [some (b + 9)], [], [some (b + 11)], [], [some (b + 13)], [], [some (b + 15)], [], [some (b + 17)], [], [some (b + 19)], []]) rfl rfl ?_
  refine b_aln (pc2 := 16) d_De_init_15 rfl rfl ?_
  refine c_new (pc2 := 19) (n := 19) (a := b + 20) d_De_init_16 q_3_18 (by decide) hb hp rfl rfl (fun q hq => hz q (by omega)) (by decide) (by decide) rfl rfl ?_
  refine b_pure (pc2 := 20) d_De_init_19 rfl rfl rfl ?_
  refine c_is (pc2 := 23) (n := 19) (a := b + 20) (ci_In_init (by omega)) d_De_init_20 q_3_20 hb hp rfl rfl (fun q hq => hz q (by omega)) rfl (Nat.le_of_ble_eq_true rfl) rfl rfl (Nat.le_of_ble_eq_true rfl) rfl rfl (by decide) (by decide) rfl ?_
  refine c_cv (tH2 := [(3, 10), (6, 4), (103, 8), (7, 2), (100, 24), (7, 2), (100, 24), (7, 2), (100, 24), (7, 2), (100, 24), (7, 2), (100, 24), (7, 2), (100, 24), (7, 2), (100, 24), (7, 2), (100, 24), (4, 4), (7, 2), (100, 20), (7, 2), (100, 31)]) (tP2 := [[some (b + 2)], [some (b + 3)], [some (b + 4), some (b + 6), some (b + 8), some (b + 10), some (b + 12), some (b + 14), some (b + 16), some (b + 18)], [some (b + 5)], [], [some (b + 7)], [], [some (b + 9)], [], [some (b + 11)], [], [some (b + 13)], [], [some (b + 15)], [], [some (b + 17)], [], [some (b + 19)], [], [some (b + 21), some (b + 23)], [some (b + 22)], [], [some (b + 24)], []]) rfl rfl ?_
  refine c_putR (pc2 := 26) (q := 0) (a := b + 1) d_De_init_23 q_3_21 hb hp rfl (Nat.le_of_ble_eq_true rfl) (by decide) (Or.inr ⟨rfl, rfl⟩) rfl rfl rfl ?_
  refine c_cv (tH2 := [(3, 10), (6, 4), (103, 8), (7, 2), (100, 24), (7, 2), (100, 24), (7, 2), (100, 24), (7, 2), (100, 24), (7, 2), (100, 24), (7, 2), (100, 24), (7, 2), (100, 24), (7, 2), (100, 24), (4, 4), (7, 2), (100, 20), (7, 2), (100, 31)]) (tP2 := [[some (b + 2), some (b + 20)], [some (b + 3)], [some (b + 4), some (b + 6), some (b + 8), some (b + 10), some (b + 12), some (b + 14), some (b + 16), some (b + 18)], [some (b + 5)], [], [some (b + 7)], [], [some (b + 9)], [], [some (b + 11)], [], [some (b + 13)], [], [some (b + 15)], [], [some (b + 17)], [], [some (b + 19)], [], [some (b + 21), some (b + 23)], [some (b + 22)], [], [some (b + 24)], []]) rfl rfl ?_
  refine b_aln (pc2 := 27) d_De_init_26 rfl rfl ?_
  refine c_new (pc2 := 30) (n := 24) (a := b + 25) d_De_init_27 q_3_25 (by decide) hb hp rfl rfl (fun q hq => hz q (by omega)) (by decide) (by decide) rfl rfl ?_
  refine b_pure (pc2 := 31) d_De_init_30 rfl rfl rfl ?_
  refine b_bp (pc2 := 33) (x := Int32.ofNat 12) d_De_init_31 rfl rfl ?_
  refine c_is (pc2 := 36) (n := 24) (a := b + 25) (ci_Ro_init (q := 12) (by omega) (by decide)) d_De_init_33 q_3_27 hb hp rfl rfl (fun q hq => hz q (by omega)) rfl (Nat.le_of_ble_eq_true rfl) rfl rfl (Nat.le_of_ble_eq_true rfl) rfl rfl (by decide) (by decide) rfl ?_
  refine c_cv (tH2 := [(3, 10), (6, 4), (103, 8), (7, 2), (100, 24), (7, 2), (100, 24), (7, 2), (100, 24), (7, 2), (100, 24), (7, 2), (100, 24), (7, 2), (100, 24), (7, 2), (100, 24), (7, 2), (100, 24), (4, 4), (7, 2), (100, 20), (7, 2), (100, 31), (7, 2), (100, 12)]) (tP2 := [[some (b + 2), some (b + 20)], [some (b + 3)], [some (b + 4), some (b + 6), some (b + 8), some (b + 10), some (b + 12), some (b + 14), some (b + 16), some (b + 18)], [some (b + 5)], [], [some (b + 7)], [], [some (b + 9)], [], [some (b + 11)], [], [some (b + 13)], [], [some (b + 15)], [], [some (b + 17)], [], [some (b + 19)], [], [some (b + 21), some (b + 23)], [some (b + 22)], [], [some (b + 24)], [], [some (b + 26)], []]) rfl rfl ?_
  refine c_putR (pc2 := 39) (q := 0) (a := b + 1) d_De_init_36 q_3_30 hb hp rfl (Nat.le_of_ble_eq_true rfl) (by decide) (Or.inr ⟨rfl, rfl⟩) rfl rfl rfl ?_
  refine c_cv (tH2 := [(3, 10), (6, 4), (103, 8), (7, 2), (100, 24), (7, 2), (100, 24), (7, 2), (100, 24), (7, 2), (100, 24), (7, 2), (100, 24), (7, 2), (100, 24), (7, 2), (100, 24), (7, 2), (100, 24), (4, 4), (7, 2), (100, 20), (7, 2), (100, 31), (7, 2), (100, 12)]) (tP2 := [[some (b + 2), some (b + 20), some (b + 25)], [some (b + 3)], [some (b + 4), some (b + 6), some (b + 8), some (b + 10), some (b + 12), some (b + 14), some (b + 16), some (b + 18)], [some (b + 5)], [], [some (b + 7)], [], [some (b + 9)], [], [some (b + 11)], [], [some (b + 13)], [], [some (b + 15)], [], [some (b + 17)], [], [some (b + 19)], [], [some (b + 21), some (b + 23)], [some (b + 22)], [], [some (b + 24)], [], [some (b + 26)], []]) rfl rfl ?_
  refine b_aln (pc2 := 40) d_De_init_39 rfl rfl ?_
  refine c_new (pc2 := 43) (n := 26) (a := b + 27) d_De_init_40 q_3_25 (by decide) hb hp rfl rfl (fun q hq => hz q (by omega)) (by decide) (by decide) rfl rfl ?_
  refine b_pure (pc2 := 44) d_De_init_43 rfl rfl rfl ?_
  refine b_bp (pc2 := 46) (x := Int32.ofNat 12) d_De_init_44 rfl rfl ?_
  refine c_is (pc2 := 49) (n := 26) (a := b + 27) (ci_Ro_init (q := 12) (by omega) (by decide)) d_De_init_46 q_3_27 hb hp rfl rfl (fun q hq => hz q (by omega)) rfl (Nat.le_of_ble_eq_true rfl) rfl rfl (Nat.le_of_ble_eq_true rfl) rfl rfl (by decide) (by decide) rfl ?_
  refine c_cv (tH2 := [(3, 10), (6, 4), (103, 8), (7, 2), (100, 24), (7, 2), (100, 24), (7, 2), (100, 24), (7, 2), (100, 24), (7, 2), (100, 24), (7, 2), (100, 24), (7, 2), (100, 24), (7, 2), (100, 24), (4, 4), (7, 2), (100, 20), (7, 2), (100, 31), (7, 2), (100, 12), (7, 2), (100, 12)]) (tP2 := [[some (b + 2), some (b + 20), some (b + 25)], [some (b + 3)], [some (b + 4), some (b + 6), some (b + 8), some (b + 10), some (b + 12), some (b + 14), some (b + 16), some (b + 18)], [some (b + 5)], [], [some (b + 7)], [], [some (b + 9)], [], [some (b + 11)], [], [some (b + 13)], [], [some (b + 15)], [], [some (b + 17)], [], [some (b + 19)], [], [some (b + 21), some (b + 23)], [some (b + 22)], [], [some (b + 24)], [], [some (b + 26)], [], [some (b + 28)], []]) rfl rfl ?_
  refine c_putR (pc2 := 52) (q := 0) (a := b + 1) d_De_init_49 q_3_34 hb hp rfl (Nat.le_of_ble_eq_true rfl) (by decide) (Or.inr ⟨rfl, rfl⟩) rfl rfl rfl ?_
  refine c_cv (tH2 := [(3, 10), (6, 4), (103, 8), (7, 2), (100, 24), (7, 2), (100, 24), (7, 2), (100, 24), (7, 2), (100, 24), (7, 2), (100, 24), (7, 2), (100, 24), (7, 2), (100, 24), (7, 2), (100, 24), (4, 4), (7, 2), (100, 20), (7, 2), (100, 31), (7, 2), (100, 12), (7, 2), (100, 12)]) (tP2 := [[some (b + 2), some (b + 20), some (b + 25), some (b + 27)], [some (b + 3)], [some (b + 4), some (b + 6), some (b + 8), some (b + 10), some (b + 12), some (b + 14), some (b + 16), some (b + 18)], [some (b + 5)], [], [some (b + 7)], [], [some (b + 9)], [], [some (b + 11)], [], [some (b + 13)], [], [some (b + 15)], [], [some (b + 17)], [], [some (b + 19)], [], [some (b + 21), some (b + 23)], [some (b + 22)], [], [some (b + 24)], [], [some (b + 26)], [], [some (b + 28)], []]) rfl rfl ?_
  refine b_aln (pc2 := 53) d_De_init_52 rfl rfl ?_
  refine c_new (pc2 := 56) (n := 28) (a := b + 29) d_De_init_53 q_3_25 (by decide) hb hp rfl rfl (fun q hq => hz q (by omega)) (by decide) (by decide) rfl rfl ?_
  refine b_pure (pc2 := 57) d_De_init_56 rfl rfl rfl ?_
  refine b_bp (pc2 := 59) (x := Int32.ofNat 7) d_De_init_57 rfl rfl ?_
  refine c_is (pc2 := 62) (n := 28) (a := b + 29) (ci_Ro_init (q := 7) (by omega) (by decide)) d_De_init_59 q_3_27 hb hp rfl rfl (fun q hq => hz q (by omega)) rfl (Nat.le_of_ble_eq_true rfl) rfl rfl (Nat.le_of_ble_eq_true rfl) rfl rfl (by decide) (by decide) rfl ?_
  refine c_cv (tH2 := [(3, 10), (6, 4), (103, 8), (7, 2), (100, 24), (7, 2), (100, 24), (7, 2), (100, 24), (7, 2), (100, 24), (7, 2), (100, 24), (7, 2), (100, 24), (7, 2), (100, 24), (7, 2), (100, 24), (4, 4), (7, 2), (100, 20), (7, 2), (100, 31), (7, 2), (100, 12), (7, 2), (100, 12), (7, 2), (100, 7)]) (tP2 := [[some (b + 2), some (b + 20), some (b + 25), some (b + 27)], [some (b + 3)], [some (b + 4), some (b + 6), some (b + 8), some (b + 10), some (b + 12), some (b + 14), some (b + 16), some (b + 18)], [some (b + 5)], [], [some (b + 7)], [], [some (b + 9)], [], [some (b + 11)], [], [some (b + 13)], [], [some (b + 15)], [], [some (b + 17)], [], [some (b + 19)], [], [some (b + 21), some (b + 23)], [some (b + 22)], [], [some (b + 24)], [], [some (b + 26)], [], [some (b + 28)], [], [some (b + 30)], []]) rfl rfl ?_
  refine c_putR (pc2 := 65) (q := 0) (a := b + 1) d_De_init_62 q_3_37 hb hp rfl (Nat.le_of_ble_eq_true rfl) (by decide) (Or.inr ⟨rfl, rfl⟩) rfl rfl rfl ?_
  refine c_cv (tH2 := [(3, 10), (6, 4), (103, 8), (7, 2), (100, 24), (7, 2), (100, 24), (7, 2), (100, 24), (7, 2), (100, 24), (7, 2), (100, 24), (7, 2), (100, 24), (7, 2), (100, 24), (7, 2), (100, 24), (4, 4), (7, 2), (100, 20), (7, 2), (100, 31), (7, 2), (100, 12), (7, 2), (100, 12), (7, 2), (100, 7)]) (tP2 := [[some (b + 2), some (b + 20), some (b + 25), some (b + 27), some (b + 29)], [some (b + 3)], [some (b + 4), some (b + 6), some (b + 8), some (b + 10), some (b + 12), some (b + 14), some (b + 16), some (b + 18)], [some (b + 5)], [], [some (b + 7)], [], [some (b + 9)], [], [some (b + 11)], [], [some (b + 13)], [], [some (b + 15)], [], [some (b + 17)], [], [some (b + 19)], [], [some (b + 21), some (b + 23)], [some (b + 22)], [], [some (b + 24)], [], [some (b + 26)], [], [some (b + 28)], [], [some (b + 30)], []]) rfl rfl ?_
  refine b_aln (pc2 := 66) d_De_init_65 rfl rfl ?_
  refine b_ic (pc2 := 67) (x := Int32.ofNat 1) d_De_init_66 rfl rfl ?_
  refine b_pi (pc2 := 70) d_De_init_67 q_3_40 (show _ from hLS_sh (i := 0) hb rfl) (by decide) (Or.inl (by decide)) (Or.inl rfl) (bw_rc0 _) rfl ?_
  refine b_aln (pc2 := 71) d_De_init_70 rfl rfl ?_
  refine b_ic (pc2 := 72) (x := Int32.ofNat 0) d_De_init_71 rfl rfl ?_
  refine b_pi (pc2 := 75) d_De_init_72 q_3_44 (show _ from hLS_sh (i := 0) hb rfl) (by decide) (Or.inl (by decide)) (Or.inr ⟨rfl, by decide⟩) (bw_rc0 _) rfl ?_
  rw [u2_idq (f := (am_u2 J (b + 1) 5 (Int32.ofNat 1))) (a := b + 1) (k := 6) (x := Int32.ofNat 0) (by rw [u2_k _ _ (by decide), hz _ (by omega)]; rfl)]
  refine b_aln (pc2 := 76) d_De_init_75 rfl rfl ?_
  refine b_ic (pc2 := 77) (x := Int32.ofNat 0) d_De_init_76 rfl rfl ?_
  refine b_pi (pc2 := 80) d_De_init_77 q_3_48 (show _ from hLS_sh (i := 0) hb rfl) (by decide) (Or.inl (by decide)) (Or.inl rfl) (bw_rc0 _) rfl ?_
  rw [u2_idq (f := (am_u2 J (b + 1) 5 (Int32.ofNat 1))) (a := b + 1) (k := 7) (x := Int32.ofNat 0) (by rw [u2_k _ _ (by decide), hz _ (by omega)]; rfl)]
  refine b_aln (pc2 := 81) d_De_init_80 rfl rfl ?_
  refine b_ic (pc2 := 82) (x := Int32.ofNat 0) d_De_init_81 rfl rfl ?_
  refine b_pi (pc2 := 85) d_De_init_82 q_3_51 (show _ from hLS_sh (i := 0) hb rfl) (by decide) (Or.inl (by decide)) (Or.inl rfl) (bw_rc0 _) rfl ?_
  rw [u2_idq (f := (am_u2 J (b + 1) 5 (Int32.ofNat 1))) (a := b + 1) (k := 8) (x := Int32.ofNat 0) (by rw [u2_k _ _ (by decide), hz _ (by omega)]; rfl)]
  refine b_aln (pc2 := 86) d_De_init_85 rfl rfl ?_
  refine b_ic (pc2 := 87) (x := Int32.ofNat 0) d_De_init_86 rfl rfl ?_
  refine b_pi (pc2 := 90) d_De_init_87 q_3_54 (show _ from hLS_sh (i := 0) hb rfl) (by decide) (Or.inl (by decide)) (Or.inl rfl) (bw_rc0 _) rfl ?_
  rw [u2_idq (f := (am_u2 J (b + 1) 5 (Int32.ofNat 1))) (a := b + 1) (k := 9) (x := Int32.ofNat 0) (by rw [u2_k _ _ (by decide), hz _ (by omega)]; rfl)]
  exact c_vr d_De_init_90 rfl
theorem ci_Se_init {d N : Nat} (hd : 3 ≤ d) : cS d N 14 [] (8, 8) [(8, 8), (104, 10), (0, 3), (7, 2), (100, 16), (0, 3), (7, 2), (100, 16), (0, 3), (7, 2), (100, 16), (0, 3), (7, 2), (100, 16), (0, 3), (7, 2), (100, 16), (0, 3), (7, 2), (100, 16), (0, 3), (7, 2), (100, 16), (0, 3), (7, 2), (100, 16), (0, 3), (7, 2), (100, 16), (0, 3), (7, 2), (100, 16), (103, 4), (7, 2), (100, 20), (7, 2), (100, 20), (7, 2), (100, 20), (7, 2), (100, 20), (100, 10), (7, 2), (100, 20)] (fun b => [[some (b + 2), none, some (b + 33), none, some (b + 42), some (b + 43)], [some (b + 3), some (b + 6), some (b + 9), some (b + 12), some (b + 15), some (b + 18), some (b + 21), some (b + 24), some (b + 27), some (b + 30)], [some (b + 4)], [some (b + 5)], [], [some (b + 7)], [some (b + 8)], [], [some (b + 10)], [some (b + 11)], [], [some (b + 13)], [some (b + 14)], [], [some (b + 16)], [some (b + 17)], [], [some (b + 19)], [some (b + 20)], [], [some (b + 22)], [some (b + 23)], [], [some (b + 25)], [some (b + 26)], [], [some (b + 28)], [some (b + 29)], [], [some (b + 31)], [some (b + 32)], [], [some (b + 34), some (b + 36), some (b + 38), some (b + 40)], [some (b + 35)], [], [some (b + 37)], [], [some (b + 39)], [], [some (b + 41)], [], [], [some (b + 44)], []]) (fun b J => (am_u2 J (b + 1) 6 (Int32.ofNat 8))) := by
  obtain ⟨d, rfl⟩ : ∃ e, d = e + 1 := ⟨d - 1, by omega⟩
  refine cS_of (fun _ => Nat.le_of_ble_eq_true rfl) (fun b H P J hb hp hz => ?_)
  show bH d (hLS N (H ++ [(8, 8)]) (P ++ [[]])) r0 mt_Se_init _ 0 [(0, .ref (b + 1))] [] _ J 0 lz 0 0
  refine b_aln (pc2 := 1) d_Se_init_0 rfl rfl ?_
  refine c_sup (pc2 := 4) d_Se_init_1 q_8_3 (Nat.le_of_ble_eq_true rfl) rfl ?_
  refine b_aln (pc2 := 5) d_Se_init_4 rfl rfl ?_
  refine b_bp (pc2 := 7) (x := Int32.ofNat 10) d_Se_init_5 rfl rfl ?_
  refine c_anew (pc2 := 10) (n := 1) (a := b + 2) (q := 10) d_Se_init_7 q_8_11 (by decide) (by decide) hb hp rfl rfl (fun q hq => hz q (by omega)) (by decide) (by decide) rfl rfl ?_
  refine c_cv (tH2 := [(8, 8), (104, 10)]) (tP2 := [[], []]) rfl rfl ?_
  refine c_putR (pc2 := 13) (q := 0) (a := b + 1) d_Se_init_10 q_8_13 hb hp rfl (Nat.le_of_ble_eq_true rfl) (by decide) (Or.inr ⟨rfl, rfl⟩) rfl rfl rfl ?_
  refine c_cv (tH2 := [(8, 8), (104, 10)]) (tP2 := [[some (b + 2)], []]) rfl rfl ?_
  refine b_ic (pc2 := 14) (x := Int32.ofNat 0) d_Se_init_13 rfl rfl ?_
  refine b_isn (pc2 := 15) (al2 := [(1, _), (0, _)]) d_Se_init_14 (by decide) rfl rfl ?_
  refine b_iln (pc2 := 16) d_Se_init_15 rfl rfl ?_
  refine b_bp (pc2 := 18) (x := Int32.ofNat 10) d_Se_init_16 rfl rfl ?_
  refine b_ifd (pc2 := 40) d_Se_init_18 rfl rfl rfl rfl rfl (fun h18 => ?_) (fun h18 => ?_)
  · exact absurd h18 (by decide)
  refine b_aln (pc2 := 22) d_Se_init_21 rfl rfl ?_
  refine b_gr (pc2 := 25) d_Se_init_22 q_8_13 (show _ from hLS_sh (i := 0) hb rfl) (by decide) (by decide) (show _ from hLS_p (i := 0) hp rfl) rfl ?_
  refine b_iln (pc2 := 26) d_Se_init_25 rfl rfl ?_
  refine c_new (pc2 := 29) (n := 2) (a := b + 3) d_Se_init_26 q_8_11 (by decide) hb hp rfl rfl (fun q hq => hz q (by omega)) (by decide) (by decide) rfl rfl ?_
  refine b_pure (pc2 := 30) d_Se_init_29 rfl rfl rfl ?_
  refine c_is (pc2 := 33) (n := 2) (a := b + 3) (ci_At_init (by omega)) d_Se_init_30 q_8_17 hb hp rfl rfl (fun q hq => hz q (by omega)) rfl (Nat.le_of_ble_eq_true rfl) rfl rfl (Nat.le_of_ble_eq_true rfl) rfl rfl (by decide) (by decide) rfl ?_
  refine c_cv (tH2 := [(8, 8), (104, 10), (0, 3), (7, 2), (100, 16)]) (tP2 := [[some (b + 2)], [], [some (b + 4)], [some (b + 5)], []]) rfl rfl ?_
  refine c_aast (pc2 := 34) (q := 1) (s := 2) (j := b + 3) (a := b + 2) (fi := 0) d_Se_init_33 hb hp rfl (Nat.le_of_ble_eq_true rfl) (by decide) (by decide) (by decide) rfl (by decide) rfl rfl rfl ?_
  refine c_cv (tH2 := [(8, 8), (104, 10), (0, 3), (7, 2), (100, 16)]) (tP2 := [[some (b + 2)], [some (b + 3)], [some (b + 4)], [some (b + 5)], []]) rfl rfl ?_
  refine b_inc (pc2 := 37) (al2 := [(1, _), (0, _)]) (y := Int32.ofNat 1) d_Se_init_34 (by decide) rfl rfl rfl rfl ?_
  rw [show Int32.ofNat 0 + Int32.ofNat 1 = Int32.ofNat 1 from rfl]
  refine b_go (pc2 := 15) d_Se_init_37 rfl ?_
  refine b_iln (pc2 := 16) d_Se_init_15 rfl rfl ?_
  refine b_bp (pc2 := 18) (x := Int32.ofNat 10) d_Se_init_16 rfl rfl ?_
  refine b_ifd (pc2 := 40) d_Se_init_18 rfl rfl rfl rfl rfl (fun h18 => ?_) (fun h18 => ?_)
  · exact absurd h18 (by decide)
  refine b_aln (pc2 := 22) d_Se_init_21 rfl rfl ?_
  refine b_gr (pc2 := 25) d_Se_init_22 q_8_13 (show _ from hLS_sh (i := 0) hb rfl) (by decide) (by decide) (show _ from hLS_p (i := 0) hp rfl) rfl ?_
  refine b_iln (pc2 := 26) d_Se_init_25 rfl rfl ?_
  refine c_new (pc2 := 29) (n := 5) (a := b + 6) d_Se_init_26 q_8_11 (by decide) hb hp rfl rfl (fun q hq => hz q (by omega)) (by decide) (by decide) rfl rfl ?_
  refine b_pure (pc2 := 30) d_Se_init_29 rfl rfl rfl ?_
  refine c_is (pc2 := 33) (n := 5) (a := b + 6) (ci_At_init (by omega)) d_Se_init_30 q_8_17 hb hp rfl rfl (fun q hq => hz q (by omega)) rfl (Nat.le_of_ble_eq_true rfl) rfl rfl (Nat.le_of_ble_eq_true rfl) rfl rfl (by decide) (by decide) rfl ?_
  refine c_cv (tH2 := [(8, 8), (104, 10), (0, 3), (7, 2), (100, 16), (0, 3), (7, 2), (100, 16)]) (tP2 := [[some (b + 2)], [some (b + 3)], [some (b + 4)], [some (b + 5)], [], [some (b + 7)], [some (b + 8)], []]) rfl rfl ?_
  refine c_aast (pc2 := 34) (q := 1) (s := 5) (j := b + 6) (a := b + 2) (fi := 1) d_Se_init_33 hb hp rfl (Nat.le_of_ble_eq_true rfl) (by decide) (by decide) (by decide) rfl (by decide) rfl rfl rfl ?_
  refine c_cv (tH2 := [(8, 8), (104, 10), (0, 3), (7, 2), (100, 16), (0, 3), (7, 2), (100, 16)]) (tP2 := [[some (b + 2)], [some (b + 3), some (b + 6)], [some (b + 4)], [some (b + 5)], [], [some (b + 7)], [some (b + 8)], []]) rfl rfl ?_
  refine b_inc (pc2 := 37) (al2 := [(1, _), (0, _)]) (y := Int32.ofNat 1) d_Se_init_34 (by decide) rfl rfl rfl rfl ?_
  rw [show Int32.ofNat 1 + Int32.ofNat 1 = Int32.ofNat 2 from rfl]
  refine b_go (pc2 := 15) d_Se_init_37 rfl ?_
  refine b_iln (pc2 := 16) d_Se_init_15 rfl rfl ?_
  refine b_bp (pc2 := 18) (x := Int32.ofNat 10) d_Se_init_16 rfl rfl ?_
  refine b_ifd (pc2 := 40) d_Se_init_18 rfl rfl rfl rfl rfl (fun h18 => ?_) (fun h18 => ?_)
  · exact absurd h18 (by decide)
  refine b_aln (pc2 := 22) d_Se_init_21 rfl rfl ?_
  refine b_gr (pc2 := 25) d_Se_init_22 q_8_13 (show _ from hLS_sh (i := 0) hb rfl) (by decide) (by decide) (show _ from hLS_p (i := 0) hp rfl) rfl ?_
  refine b_iln (pc2 := 26) d_Se_init_25 rfl rfl ?_
  refine c_new (pc2 := 29) (n := 8) (a := b + 9) d_Se_init_26 q_8_11 (by decide) hb hp rfl rfl (fun q hq => hz q (by omega)) (by decide) (by decide) rfl rfl ?_
  refine b_pure (pc2 := 30) d_Se_init_29 rfl rfl rfl ?_
  refine c_is (pc2 := 33) (n := 8) (a := b + 9) (ci_At_init (by omega)) d_Se_init_30 q_8_17 hb hp rfl rfl (fun q hq => hz q (by omega)) rfl (Nat.le_of_ble_eq_true rfl) rfl rfl (Nat.le_of_ble_eq_true rfl) rfl rfl (by decide) (by decide) rfl ?_
  refine c_cv (tH2 := [(8, 8), (104, 10), (0, 3), (7, 2), (100, 16), (0, 3), (7, 2), (100, 16), (0, 3), (7, 2), (100, 16)]) (tP2 := [[some (b + 2)], [some (b + 3), some (b + 6)], [some (b + 4)], [some (b + 5)], [], [some (b + 7)], [some (b + 8)], [], [some (b + 10)], [some (b + 11)], []]) rfl rfl ?_
  refine c_aast (pc2 := 34) (q := 1) (s := 8) (j := b + 9) (a := b + 2) (fi := 2) d_Se_init_33 hb hp rfl (Nat.le_of_ble_eq_true rfl) (by decide) (by decide) (by decide) rfl (by decide) rfl rfl rfl ?_
  refine c_cv (tH2 := [(8, 8), (104, 10), (0, 3), (7, 2), (100, 16), (0, 3), (7, 2), (100, 16), (0, 3), (7, 2), (100, 16)]) (tP2 := [[some (b + 2)], [some (b + 3), some (b + 6), some (b + 9)], [some (b + 4)], [some (b + 5)], [], [some (b + 7)], [some (b + 8)], [], [some (b + 10)], [some (b + 11)], []]) rfl rfl ?_
  refine b_inc (pc2 := 37) (al2 := [(1, _), (0, _)]) (y := Int32.ofNat 1) d_Se_init_34 (by decide) rfl rfl rfl rfl ?_
  rw [show Int32.ofNat 2 + Int32.ofNat 1 = Int32.ofNat 3 from rfl]
  refine b_go (pc2 := 15) d_Se_init_37 rfl ?_
  refine b_iln (pc2 := 16) d_Se_init_15 rfl rfl ?_
  refine b_bp (pc2 := 18) (x := Int32.ofNat 10) d_Se_init_16 rfl rfl ?_
  refine b_ifd (pc2 := 40) d_Se_init_18 rfl rfl rfl rfl rfl (fun h18 => ?_) (fun h18 => ?_)
  · exact absurd h18 (by decide)
  refine b_aln (pc2 := 22) d_Se_init_21 rfl rfl ?_
  refine b_gr (pc2 := 25) d_Se_init_22 q_8_13 (show _ from hLS_sh (i := 0) hb rfl) (by decide) (by decide) (show _ from hLS_p (i := 0) hp rfl) rfl ?_
  refine b_iln (pc2 := 26) d_Se_init_25 rfl rfl ?_
  refine c_new (pc2 := 29) (n := 11) (a := b + 12) d_Se_init_26 q_8_11 (by decide) hb hp rfl rfl (fun q hq => hz q (by omega)) (by decide) (by decide) rfl rfl ?_
  refine b_pure (pc2 := 30) d_Se_init_29 rfl rfl rfl ?_
  refine c_is (pc2 := 33) (n := 11) (a := b + 12) (ci_At_init (by omega)) d_Se_init_30 q_8_17 hb hp rfl rfl (fun q hq => hz q (by omega)) rfl (Nat.le_of_ble_eq_true rfl) rfl rfl (Nat.le_of_ble_eq_true rfl) rfl rfl (by decide) (by decide) rfl ?_
  refine c_cv (tH2 := [(8, 8), (104, 10), (0, 3), (7, 2), (100, 16), (0, 3), (7, 2), (100, 16), (0, 3), (7, 2), (100, 16), (0, 3), (7, 2), (100, 16)]) (tP2 := [[some (b + 2)], [some (b + 3), some (b + 6), some (b + 9)], [some (b + 4)], [some (b + 5)], [], [some (b + 7)], [some (b + 8)], [], [some (b + 10)], [some (b + 11)], [], [some (b + 13)], [some (b + 14)], []]) rfl rfl ?_
  refine c_aast (pc2 := 34) (q := 1) (s := 11) (j := b + 12) (a := b + 2) (fi := 3) d_Se_init_33 hb hp rfl (Nat.le_of_ble_eq_true rfl) (by decide) (by decide) (by decide) rfl (by decide) rfl rfl rfl ?_
  refine c_cv (tH2 := [(8, 8), (104, 10), (0, 3), (7, 2), (100, 16), (0, 3), (7, 2), (100, 16), (0, 3), (7, 2), (100, 16), (0, 3), (7, 2), (100, 16)]) (tP2 := [[some (b + 2)], [some (b + 3), some (b + 6), some (b + 9), some (b + 12)], [some (b + 4)], [some (b + 5)], [], [some (b + 7)], [some (b + 8)], [], [some (b + 10)], [some (b + 11)], [], [some (b + 13)], [some (b + 14)], []]) rfl rfl ?_
  refine b_inc (pc2 := 37) (al2 := [(1, _), (0, _)]) (y := Int32.ofNat 1) d_Se_init_34 (by decide) rfl rfl rfl rfl ?_
  rw [show Int32.ofNat 3 + Int32.ofNat 1 = Int32.ofNat 4 from rfl]
  refine b_go (pc2 := 15) d_Se_init_37 rfl ?_
  refine b_iln (pc2 := 16) d_Se_init_15 rfl rfl ?_
  refine b_bp (pc2 := 18) (x := Int32.ofNat 10) d_Se_init_16 rfl rfl ?_
  refine b_ifd (pc2 := 40) d_Se_init_18 rfl rfl rfl rfl rfl (fun h18 => ?_) (fun h18 => ?_)
  · exact absurd h18 (by decide)
  refine b_aln (pc2 := 22) d_Se_init_21 rfl rfl ?_
  refine b_gr (pc2 := 25) d_Se_init_22 q_8_13 (show _ from hLS_sh (i := 0) hb rfl) (by decide) (by decide) (show _ from hLS_p (i := 0) hp rfl) rfl ?_
  refine b_iln (pc2 := 26) d_Se_init_25 rfl rfl ?_
  refine c_new (pc2 := 29) (n := 14) (a := b + 15) d_Se_init_26 q_8_11 (by decide) hb hp rfl rfl (fun q hq => hz q (by omega)) (by decide) (by decide) rfl rfl ?_
  refine b_pure (pc2 := 30) d_Se_init_29 rfl rfl rfl ?_
  refine c_is (pc2 := 33) (n := 14) (a := b + 15) (ci_At_init (by omega)) d_Se_init_30 q_8_17 hb hp rfl rfl (fun q hq => hz q (by omega)) rfl (Nat.le_of_ble_eq_true rfl) rfl rfl (Nat.le_of_ble_eq_true rfl) rfl rfl (by decide) (by decide) rfl ?_
  refine c_cv (tH2 := [(8, 8), (104, 10), (0, 3), (7, 2), (100, 16), (0, 3), (7, 2), (100, 16), (0, 3), (7, 2), (100, 16), (0, 3), (7, 2), (100, 16), (0, 3), (7, 2), (100, 16)]) (tP2 := [[some (b + 2)], [some (b + 3), some (b + 6), some (b + 9), some (b + 12)], [some (b + 4)], [some (b + 5)], [], [some (b + 7)], [some (b + 8)], [], [some (b + 10)], [some (b + 11)], [], [some (b + 13)], [some (b + 14)], [], [some (b + 16)], [some (b + 17)], []]) rfl rfl ?_
  refine c_aast (pc2 := 34) (q := 1) (s := 14) (j := b + 15) (a := b + 2) (fi := 4) d_Se_init_33 hb hp rfl (Nat.le_of_ble_eq_true rfl) (by decide) (by decide) (by decide) rfl (by decide) rfl rfl rfl ?_
  refine c_cv (tH2 := [(8, 8), (104, 10), (0, 3), (7, 2), (100, 16), (0, 3), (7, 2), (100, 16), (0, 3), (7, 2), (100, 16), (0, 3), (7, 2), (100, 16), (0, 3), (7, 2), (100, 16)]) (tP2 := [[some (b + 2)], [some (b + 3), some (b + 6), some (b + 9), some (b + 12), some (b + 15)], [some (b + 4)], [some (b + 5)], [], [some (b + 7)], [some (b + 8)], [], [some (b + 10)], [some (b + 11)], [], [some (b + 13)], [some (b + 14)], [], [some (b + 16)], [some (b + 17)], []]) rfl rfl ?_
  refine b_inc (pc2 := 37) (al2 := [(1, _), (0, _)]) (y := Int32.ofNat 1) d_Se_init_34 (by decide) rfl rfl rfl rfl ?_
  rw [show Int32.ofNat 4 + Int32.ofNat 1 = Int32.ofNat 5 from rfl]
  refine b_go (pc2 := 15) d_Se_init_37 rfl ?_
  refine b_iln (pc2 := 16) d_Se_init_15 rfl rfl ?_
  refine b_bp (pc2 := 18) (x := Int32.ofNat 10) d_Se_init_16 rfl rfl ?_
  refine b_ifd (pc2 := 40) d_Se_init_18 rfl rfl rfl rfl rfl (fun h18 => ?_) (fun h18 => ?_)
  · exact absurd h18 (by decide)
  refine b_aln (pc2 := 22) d_Se_init_21 rfl rfl ?_
  refine b_gr (pc2 := 25) d_Se_init_22 q_8_13 (show _ from hLS_sh (i := 0) hb rfl) (by decide) (by decide) (show _ from hLS_p (i := 0) hp rfl) rfl ?_
  refine b_iln (pc2 := 26) d_Se_init_25 rfl rfl ?_
  refine c_new (pc2 := 29) (n := 17) (a := b + 18) d_Se_init_26 q_8_11 (by decide) hb hp rfl rfl (fun q hq => hz q (by omega)) (by decide) (by decide) rfl rfl ?_
  refine b_pure (pc2 := 30) d_Se_init_29 rfl rfl rfl ?_
  refine c_is (pc2 := 33) (n := 17) (a := b + 18) (ci_At_init (by omega)) d_Se_init_30 q_8_17 hb hp rfl rfl (fun q hq => hz q (by omega)) rfl (Nat.le_of_ble_eq_true rfl) rfl rfl (Nat.le_of_ble_eq_true rfl) rfl rfl (by decide) (by decide) rfl ?_
  refine c_cv (tH2 := [(8, 8), (104, 10), (0, 3), (7, 2), (100, 16), (0, 3), (7, 2), (100, 16), (0, 3), (7, 2), (100, 16), (0, 3), (7, 2), (100, 16), (0, 3), (7, 2), (100, 16), (0, 3), (7, 2), (100, 16)]) (tP2 := [[some (b + 2)], [some (b + 3), some (b + 6), some (b + 9), some (b + 12), some (b + 15)], [some (b + 4)], [some (b + 5)], [], [some (b + 7)], [some (b + 8)], [], [some (b + 10)], [some (b + 11)], [], [some (b + 13)], [some (b + 14)], [], [some (b + 16)], [some (b + 17)], [], [some (b + 19)], [some (b + 20)], []]) rfl rfl ?_
  refine c_aast (pc2 := 34) (q := 1) (s := 17) (j := b + 18) (a := b + 2) (fi := 5) d_Se_init_33 hb hp rfl (Nat.le_of_ble_eq_true rfl) (by decide) (by decide) (by decide) rfl (by decide) rfl rfl rfl ?_
  refine c_cv (tH2 := [(8, 8), (104, 10), (0, 3), (7, 2), (100, 16), (0, 3), (7, 2), (100, 16), (0, 3), (7, 2), (100, 16), (0, 3), (7, 2), (100, 16), (0, 3), (7, 2), (100, 16), (0, 3), (7, 2), (100, 16)]) (tP2 := [[some (b + 2)], [some (b + 3), some (b + 6), some (b + 9), some (b + 12), some (b + 15), some (b + 18)], [some (b + 4)], [some (b + 5)], [], [some (b + 7)], [some (b + 8)], [], [some (b + 10)], [some (b + 11)], [], [some (b + 13)], [some (b + 14)], [], [some (b + 16)], [some (b + 17)], [], [some (b + 19)], [some (b + 20)], []]) rfl rfl ?_
  refine b_inc (pc2 := 37) (al2 := [(1, _), (0, _)]) (y := Int32.ofNat 1) d_Se_init_34 (by decide) rfl rfl rfl rfl ?_
  rw [show Int32.ofNat 5 + Int32.ofNat 1 = Int32.ofNat 6 from rfl]
  refine b_go (pc2 := 15) d_Se_init_37 rfl ?_
  refine b_iln (pc2 := 16) d_Se_init_15 rfl rfl ?_
  refine b_bp (pc2 := 18) (x := Int32.ofNat 10) d_Se_init_16 rfl rfl ?_
  refine b_ifd (pc2 := 40) d_Se_init_18 rfl rfl rfl rfl rfl (fun h18 => ?_) (fun h18 => ?_)
  · exact absurd h18 (by decide)
  refine b_aln (pc2 := 22) d_Se_init_21 rfl rfl ?_
  refine b_gr (pc2 := 25) d_Se_init_22 q_8_13 (show _ from hLS_sh (i := 0) hb rfl) (by decide) (by decide) (show _ from hLS_p (i := 0) hp rfl) rfl ?_
  refine b_iln (pc2 := 26) d_Se_init_25 rfl rfl ?_
  refine c_new (pc2 := 29) (n := 20) (a := b + 21) d_Se_init_26 q_8_11 (by decide) hb hp rfl rfl (fun q hq => hz q (by omega)) (by decide) (by decide) rfl rfl ?_
  refine b_pure (pc2 := 30) d_Se_init_29 rfl rfl rfl ?_
  refine c_is (pc2 := 33) (n := 20) (a := b + 21) (ci_At_init (by omega)) d_Se_init_30 q_8_17 hb hp rfl rfl (fun q hq => hz q (by omega)) rfl (Nat.le_of_ble_eq_true rfl) rfl rfl (Nat.le_of_ble_eq_true rfl) rfl rfl (by decide) (by decide) rfl ?_
  refine c_cv (tH2 := [(8, 8), (104, 10), (0, 3), (7, 2), (100, 16), (0, 3), (7, 2), (100, 16), (0, 3), (7, 2), (100, 16), (0, 3), (7, 2), (100, 16), (0, 3), (7, 2), (100, 16), (0, 3), (7, 2), (100, 16), (0, 3), (7, 2), (100, 16)]) (tP2 := [[some (b + 2)], [some (b + 3), some (b + 6), some (b + 9), some (b + 12), some (b + 15), some (b + 18)], [some (b + 4)], [some (b + 5)], [], [some (b + 7)], [some (b + 8)], [], [some (b + 10)], [some (b + 11)], [], [some (b + 13)], [some (b + 14)], [], [some (b + 16)], [some (b + 17)], [], [some (b + 19)], [some (b + 20)], [], [some (b + 22)], [some (b + 23)], []]) rfl rfl ?_
  refine c_aast (pc2 := 34) (q := 1) (s := 20) (j := b + 21) (a := b + 2) (fi := 6) d_Se_init_33 hb hp rfl (Nat.le_of_ble_eq_true rfl) (by decide) (by decide) (by decide) rfl (by decide) rfl rfl rfl ?_
  refine c_cv (tH2 := [(8, 8), (104, 10), (0, 3), (7, 2), (100, 16), (0, 3), (7, 2), (100, 16), (0, 3), (7, 2), (100, 16), (0, 3), (7, 2), (100, 16), (0, 3), (7, 2), (100, 16), (0, 3), (7, 2), (100, 16), (0, 3), (7, 2), (100, 16)]) (tP2 := [[some (b + 2)], [some (b + 3), some (b + 6), some (b + 9), some (b + 12), some (b + 15), some (b + 18), some (b + 21)], [some (b + 4)], [some (b + 5)], [], [some (b + 7)], [some (b + 8)], [], [some (b + 10)], [some (b + 11)], [], [some (b + 13)], [some (b + 14)], [], [some (b + 16)], [some (b + 17)], [], [some (b + 19)], [some (b + 20)], [], [some (b + 22)], [some (b + 23)], []]) rfl rfl ?_
  refine b_inc (pc2 := 37) (al2 := [(1, _), (0, _)]) (y := Int32.ofNat 1) d_Se_init_34 (by decide) rfl rfl rfl rfl ?_
  rw [show Int32.ofNat 6 + Int32.ofNat 1 = Int32.ofNat 7 from rfl]
  refine b_go (pc2 := 15) d_Se_init_37 rfl ?_
  refine b_iln (pc2 := 16) d_Se_init_15 rfl rfl ?_
  refine b_bp (pc2 := 18) (x := Int32.ofNat 10) d_Se_init_16 rfl rfl ?_
  refine b_ifd (pc2 := 40) d_Se_init_18 rfl rfl rfl rfl rfl (fun h18 => ?_) (fun h18 => ?_)
  · exact absurd h18 (by decide)
  refine b_aln (pc2 := 22) d_Se_init_21 rfl rfl ?_
  refine b_gr (pc2 := 25) d_Se_init_22 q_8_13 (show _ from hLS_sh (i := 0) hb rfl) (by decide) (by decide) (show _ from hLS_p (i := 0) hp rfl) rfl ?_
  refine b_iln (pc2 := 26) d_Se_init_25 rfl rfl ?_
  refine c_new (pc2 := 29) (n := 23) (a := b + 24) d_Se_init_26 q_8_11 (by decide) hb hp rfl rfl (fun q hq => hz q (by omega)) (by decide) (by decide) rfl rfl ?_
  refine b_pure (pc2 := 30) d_Se_init_29 rfl rfl rfl ?_
  refine c_is (pc2 := 33) (n := 23) (a := b + 24) (ci_At_init (by omega)) d_Se_init_30 q_8_17 hb hp rfl rfl (fun q hq => hz q (by omega)) rfl (Nat.le_of_ble_eq_true rfl) rfl rfl (Nat.le_of_ble_eq_true rfl) rfl rfl (by decide) (by decide) rfl ?_
  refine c_cv (tH2 := [(8, 8), (104, 10), (0, 3), (7, 2), (100, 16), (0, 3), (7, 2), (100, 16), (0, 3), (7, 2), (100, 16), (0, 3), (7, 2), (100, 16), (0, 3), (7, 2), (100, 16), (0, 3), (7, 2), (100, 16), (0, 3), (7, 2), (100, 16), (0, 3), (7, 2), (100, 16)]) (tP2 := [[some (b + 2)], [some (b + 3), some (b + 6), some (b + 9), some (b + 12), some (b + 15), some (b + 18), some (b + 21)], [some (b + 4)], [some (b + 5)], [], [some (b + 7)], [some (b + 8)], [], [some (b + 10)], [some (b + 11)], [], [some (b + 13)], [some (b + 14)], [], [some (b + 16)], [some (b + 17)], [], [some (b + 19)], [some (b + 20)], [], [some (b + 22)], [some (b + 23)], [], [some (b + 25)], [some (b + 26)], []]) rfl rfl ?_
  refine c_aast (pc2 := 34) (q := 1) (s := 23) (j := b + 24) (a := b + 2) (fi := 7) d_Se_init_33 hb hp rfl (Nat.le_of_ble_eq_true rfl) (by decide) (by decide) (by decide) rfl (by decide) rfl rfl rfl ?_
  refine c_cv (tH2 := [(8, 8), (104, 10), (0, 3), (7, 2), (100, 16), (0, 3), (7, 2), (100, 16), (0, 3), (7, 2), (100, 16), (0, 3), (7, 2), (100, 16), (0, 3), (7, 2), (100, 16), (0, 3), (7, 2), (100, 16), (0, 3), (7, 2), (100, 16), (0, 3), (7, 2), (100, 16)]) (tP2 := [[some (b + 2)], [some (b + 3), some (b + 6), some (b + 9), some (b + 12), some (b + 15), some (b + 18), some (b + 21), some (b + 24)], [some (b + 4)], [some (b + 5)], [], [some (b + 7)], [some (b + 8)], [], [some (b + 10)], [some (b + 11)], [], [some (b + 13)], [some (b + 14)], [], [some (b + 16)], [some (b + 17)], [], [some (b + 19)], [some (b + 20)], [], [some (b + 22)], [some (b + 23)], [], [some (b + 25)], [some (b + 26)], []]) rfl rfl ?_
  refine b_inc (pc2 := 37) (al2 := [(1, _), (0, _)]) (y := Int32.ofNat 1) d_Se_init_34 (by decide) rfl rfl rfl rfl ?_
  rw [show Int32.ofNat 7 + Int32.ofNat 1 = Int32.ofNat 8 from rfl]
  refine b_go (pc2 := 15) d_Se_init_37 rfl ?_
  refine b_iln (pc2 := 16) d_Se_init_15 rfl rfl ?_
  refine b_bp (pc2 := 18) (x := Int32.ofNat 10) d_Se_init_16 rfl rfl ?_
  refine b_ifd (pc2 := 40) d_Se_init_18 rfl rfl rfl rfl rfl (fun h18 => ?_) (fun h18 => ?_)
  · exact absurd h18 (by decide)
  refine b_aln (pc2 := 22) d_Se_init_21 rfl rfl ?_
  refine b_gr (pc2 := 25) d_Se_init_22 q_8_13 (show _ from hLS_sh (i := 0) hb rfl) (by decide) (by decide) (show _ from hLS_p (i := 0) hp rfl) rfl ?_
  refine b_iln (pc2 := 26) d_Se_init_25 rfl rfl ?_
  refine c_new (pc2 := 29) (n := 26) (a := b + 27) d_Se_init_26 q_8_11 (by decide) hb hp rfl rfl (fun q hq => hz q (by omega)) (by decide) (by decide) rfl rfl ?_
  refine b_pure (pc2 := 30) d_Se_init_29 rfl rfl rfl ?_
  refine c_is (pc2 := 33) (n := 26) (a := b + 27) (ci_At_init (by omega)) d_Se_init_30 q_8_17 hb hp rfl rfl (fun q hq => hz q (by omega)) rfl (Nat.le_of_ble_eq_true rfl) rfl rfl (Nat.le_of_ble_eq_true rfl) rfl rfl (by decide) (by decide) rfl ?_
  refine c_cv (tH2 := [(8, 8), (104, 10), (0, 3), (7, 2), (100, 16), (0, 3), (7, 2), (100, 16), (0, 3), (7, 2), (100, 16), (0, 3), (7, 2), (100, 16), (0, 3), (7, 2), (100, 16), (0, 3), (7, 2), (100, 16), (0, 3), (7, 2), (100, 16), (0, 3), (7, 2), (100, 16), (0, 3), (7, 2), (100, 16)]) (tP2 := [[some (b + 2)], [some (b + 3), some (b + 6), some (b + 9), some (b + 12), some (b + 15), some (b + 18), some (b + 21), some (b + 24)], [some (b + 4)], [some (b + 5)], [], [some (b + 7)], [some (b + 8)], [], [some (b + 10)], [some (b + 11)], [], [some (b + 13)], [some (b + 14)], [], [some (b + 16)], [some (b + 17)], [], [some (b + 19)], [some (b + 20)], [], [some (b + 22)], [some (b + 23)], [], [some (b + 25)], [some (b + 26)], [], [some (b + 28)], [some (b + 29)], []]) rfl rfl ?_
  refine c_aast (pc2 := 34) (q := 1) (s := 26) (j := b + 27) (a := b + 2) (fi := 8) d_Se_init_33 hb hp rfl (Nat.le_of_ble_eq_true rfl) (by decide) (by decide) (by decide) rfl (by decide) rfl rfl rfl ?_
  refine c_cv (tH2 := [(8, 8), (104, 10), (0, 3), (7, 2), (100, 16), (0, 3), (7, 2), (100, 16), (0, 3), (7, 2), (100, 16), (0, 3), (7, 2), (100, 16), (0, 3), (7, 2), (100, 16), (0, 3), (7, 2), (100, 16), (0, 3), (7, 2), (100, 16), (0, 3), (7, 2), (100, 16), (0, 3), (7, 2), (100, 16)]) (tP2 := [[some (b + 2)], [some (b + 3), some (b + 6), some (b + 9), some (b + 12), some (b + 15), some (b + 18), some (b + 21), some (b + 24), some (b + 27)], [some (b + 4)], [some (b + 5)], [], [some (b + 7)], [some (b + 8)], [], [some (b + 10)], [some (b + 11)], [], [some (b + 13)], [some (b + 14)], [], [some (b + 16)], [some (b + 17)], [], [some (b + 19)], [some (b + 20)], [], [some (b + 22)], [some (b + 23)], [], [some (b + 25)], [some (b + 26)], [], [some (b + 28)], [some (b + 29)], []]) rfl rfl ?_
  refine b_inc (pc2 := 37) (al2 := [(1, _), (0, _)]) (y := Int32.ofNat 1) d_Se_init_34 (by decide) rfl rfl rfl rfl ?_
  rw [show Int32.ofNat 8 + Int32.ofNat 1 = Int32.ofNat 9 from rfl]
  refine b_go (pc2 := 15) d_Se_init_37 rfl ?_
  refine b_iln (pc2 := 16) d_Se_init_15 rfl rfl ?_
  refine b_bp (pc2 := 18) (x := Int32.ofNat 10) d_Se_init_16 rfl rfl ?_
  refine b_ifd (pc2 := 40) d_Se_init_18 rfl rfl rfl rfl rfl (fun h18 => ?_) (fun h18 => ?_)
  · exact absurd h18 (by decide)
  refine b_aln (pc2 := 22) d_Se_init_21 rfl rfl ?_
  refine b_gr (pc2 := 25) d_Se_init_22 q_8_13 (show _ from hLS_sh (i := 0) hb rfl) (by decide) (by decide) (show _ from hLS_p (i := 0) hp rfl) rfl ?_
  refine b_iln (pc2 := 26) d_Se_init_25 rfl rfl ?_
  refine c_new (pc2 := 29) (n := 29) (a := b + 30) d_Se_init_26 q_8_11 (by decide) hb hp rfl rfl (fun q hq => hz q (by omega)) (by decide) (by decide) rfl rfl ?_
  refine b_pure (pc2 := 30) d_Se_init_29 rfl rfl rfl ?_
  refine c_is (pc2 := 33) (n := 29) (a := b + 30) (ci_At_init (by omega)) d_Se_init_30 q_8_17 hb hp rfl rfl (fun q hq => hz q (by omega)) rfl (Nat.le_of_ble_eq_true rfl) rfl rfl (Nat.le_of_ble_eq_true rfl) rfl rfl (by decide) (by decide) rfl ?_
  refine c_cv (tH2 := [(8, 8), (104, 10), (0, 3), (7, 2), (100, 16), (0, 3), (7, 2), (100, 16), (0, 3), (7, 2), (100, 16), (0, 3), (7, 2), (100, 16), (0, 3), (7, 2), (100, 16), (0, 3), (7, 2), (100, 16), (0, 3), (7, 2), (100, 16), (0, 3), (7, 2), (100, 16), (0, 3), (7, 2), (100, 16), (0, 3), (7, 2), (100, 16)]) (tP2 := [[some (b + 2)], [some (b + 3), some (b + 6), some (b + 9), some (b + 12), some (b + 15), some (b + 18), some (b + 21), some (b + 24), some (b + 27)], [some (b + 4)], [some (b + 5)], [], [some (b + 7)], [some (b + 8)], [], [some (b + 10)], [some (b + 11)], [], [some (b + 13)], [some (b + 14)], [], [some (b + 16)], [some (b + 17)], [], [some (b + 19)], [some (b + 20)], [], [some (b + 22)], [some (b + 23)], [], [some (b + 25)], [some (b + 26)], [], [some (b + 28)], [some (b + 29)], [], [some (b + 31)], [some (b + 32)], []]) rfl rfl ?_
  refine c_aast (pc2 := 34) (q := 1) (s := 29) (j := b + 30) (a := b + 2) (fi := 9) d_Se_init_33 hb hp rfl (Nat.le_of_ble_eq_true rfl) (by decide) (by decide) (by decide) rfl (by decide) rfl rfl rfl ?_
  refine c_cv (tH2 := [(8, 8), (104, 10), (0, 3), (7, 2), (100, 16), (0, 3), (7, 2), (100, 16), (0, 3), (7, 2), (100, 16), (0, 3), (7, 2), (100, 16), (0, 3), (7, 2), (100, 16), (0, 3), (7, 2), (100, 16), (0, 3), (7, 2), (100, 16), (0, 3), (7, 2), (100, 16), (0, 3), (7, 2), (100, 16), (0, 3), (7, 2), (100, 16)]) (tP2 := [[some (b + 2)], [some (b + 3), some (b + 6), some (b + 9), some (b + 12), some (b + 15), some (b + 18), some (b + 21), some (b + 24), some (b + 27), some (b + 30)], [some (b + 4)], [some (b + 5)], [], [some (b + 7)], [some (b + 8)], [], [some (b + 10)], [some (b + 11)], [], [some (b + 13)], [some (b + 14)], [], [some (b + 16)], [some (b + 17)], [], [some (b + 19)], [some (b + 20)], [], [some (b + 22)], [some (b + 23)], [], [some (b + 25)], [some (b + 26)], [], [some (b + 28)], [some (b + 29)], [], [some (b + 31)], [some (b + 32)], []]) rfl rfl ?_
  refine b_inc (pc2 := 37) (al2 := [(1, _), (0, _)]) (y := Int32.ofNat 1) d_Se_init_34 (by decide) rfl rfl rfl rfl ?_
  rw [show Int32.ofNat 9 + Int32.ofNat 1 = Int32.ofNat 10 from rfl]
  refine b_go (pc2 := 15) d_Se_init_37 rfl ?_
  refine b_iln (pc2 := 16) d_Se_init_15 rfl rfl ?_
  refine b_bp (pc2 := 18) (x := Int32.ofNat 10) d_Se_init_16 rfl rfl ?_
  refine b_ifd (pc2 := 40) d_Se_init_18 rfl rfl rfl rfl rfl (fun h18 => ?_) (fun h18 => ?_)
  rotate_left
  · exact absurd (by decide) h18
  refine b_aln (pc2 := 41) d_Se_init_40 rfl rfl ?_
  refine b_ic (pc2 := 42) (x := Int32.ofNat 0) d_Se_init_41 rfl rfl ?_
  refine b_pi (pc2 := 45) d_Se_init_42 q_8_18 (show _ from hLS_sh (i := 0) hb rfl) (by decide) (Or.inl (by decide)) (Or.inl rfl) (bw_rc0 _) rfl ?_
  rw [u2_idq (f := J) (a := b + 1) (k := 1) (x := Int32.ofNat 0) (by rw [hz _ (by omega)]; rfl)]
  refine b_aln (pc2 := 46) d_Se_init_45 rfl rfl ?_
  refine b_ic (pc2 := 47) (x := Int32.ofNat 4) d_Se_init_46 rfl rfl ?_
  refine c_anew (pc2 := 50) (n := 32) (a := b + 33) (q := 4) d_Se_init_47 q_8_22 (by decide) (by decide) hb hp rfl rfl (fun q hq => hz q (by omega)) (by decide) (by decide) rfl rfl ?_
  refine c_cv (tH2 := [(8, 8), (104, 10), (0, 3), (7, 2), (100, 16), (0, 3), (7, 2), (100, 16), (0, 3), (7, 2), (100, 16), (0, 3), (7, 2), (100, 16), (0, 3), (7, 2), (100, 16), (0, 3), (7, 2), (100, 16), (0, 3), (7, 2), (100, 16), (0, 3), (7, 2), (100, 16), (0, 3), (7, 2), (100, 16), (0, 3), (7, 2), (100, 16), (103, 4)]) (tP2 := [[some (b + 2)], [some (b + 3), some (b + 6), some (b + 9), some (b + 12), some (b + 15), some (b + 18), some (b + 21), some (b + 24), some (b + 27), some (b + 30)], [some (b + 4)], [some (b + 5)], [], [some (b + 7)], [some (b + 8)], [], [some (b + 10)], [some (b + 11)], [], [some (b + 13)], [some (b + 14)], [], [some (b + 16)], [some (b + 17)], [], [some (b + 19)], [some (b + 20)], [], [some (b + 22)], [some (b + 23)], [], [some (b + 25)], [some (b + 26)], [], [some (b + 28)], [some (b + 29)], [], [some (b + 31)], [some (b + 32)], [], []]) rfl rfl ?_
  refine c_putR (pc2 := 53) (q := 0) (a := b + 1) d_Se_init_50 q_8_24 hb hp rfl (Nat.le_of_ble_eq_true rfl) (by decide) (Or.inr ⟨rfl, rfl⟩) rfl rfl rfl ?_
  refine c_cv (tH2 := [(8, 8), (104, 10), (0, 3), (7, 2), (100, 16), (0, 3), (7, 2), (100, 16), (0, 3), (7, 2), (100, 16), (0, 3), (7, 2), (100, 16), (0, 3), (7, 2), (100, 16), (0, 3), (7, 2), (100, 16), (0, 3), (7, 2), (100, 16), (0, 3), (7, 2), (100, 16), (0, 3), (7, 2), (100, 16), (0, 3), (7, 2), (100, 16), (103, 4)]) (tP2 := [[some (b + 2), none, some (b + 33)], [some (b + 3), some (b + 6), some (b + 9), some (b + 12), some (b + 15), some (b + 18), some (b + 21), some (b + 24), some (b + 27), some (b + 30)], [some (b + 4)], [some (b + 5)], [], [some (b + 7)], [some (b + 8)], [], [some (b + 10)], [some (b + 11)], [], [some (b + 13)], [some (b + 14)], [], [some (b + 16)], [some (b + 17)], [], [some (b + 19)], [some (b + 20)], [], [some (b + 22)], [some (b + 23)], [], [some (b + 25)], [some (b + 26)], [], [some (b + 28)], [some (b + 29)], [], [some (b + 31)], [some (b + 32)], [], []]) rfl rfl ?_
  refine b_ic (pc2 := 54) (x := Int32.ofNat 0) d_Se_init_53 rfl rfl ?_
  refine b_isn (pc2 := 55) (al2 := [(1, _), (0, _)]) d_Se_init_54 (by decide) rfl rfl ?_
  refine b_iln (pc2 := 56) d_Se_init_55 rfl rfl ?_
  refine b_ic (pc2 := 57) (x := Int32.ofNat 4) d_Se_init_56 rfl rfl ?_
  refine b_ifd (pc2 := 81) d_Se_init_57 rfl rfl rfl rfl rfl (fun h57 => ?_) (fun h57 => ?_)
  · exact absurd h57 (by decide)
  refine b_aln (pc2 := 61) d_Se_init_60 rfl rfl ?_
  refine b_gr (pc2 := 64) d_Se_init_61 q_8_24 (show _ from hLS_sh (i := 0) hb rfl) (by decide) (by decide) (show _ from hLS_p (i := 0) hp rfl) rfl ?_
  refine b_iln (pc2 := 65) d_Se_init_64 rfl rfl ?_
  refine c_new (pc2 := 68) (n := 33) (a := b + 34) d_Se_init_65 q_8_22 (by decide) hb hp rfl rfl (fun q hq => hz q (by omega)) (by decide) (by decide) rfl rfl ?_
  refine b_pure (pc2 := 69) d_Se_init_68 rfl rfl rfl ?_
  refine b_bp (pc2 := 71) (x := Int32.ofNat 20) d_Se_init_69 rfl rfl ?_
  refine c_is (pc2 := 74) (n := 33) (a := b + 34) (ci_Ro_init (q := 20) (by omega) (by decide)) d_Se_init_71 q_8_28 hb hp rfl rfl (fun q hq => hz q (by omega)) rfl (Nat.le_of_ble_eq_true rfl) rfl rfl (Nat.le_of_ble_eq_true rfl) rfl rfl (by decide) (by decide) rfl ?_
  refine c_cv (tH2 := [(8, 8), (104, 10), (0, 3), (7, 2), (100, 16), (0, 3), (7, 2), (100, 16), (0, 3), (7, 2), (100, 16), (0, 3), (7, 2), (100, 16), (0, 3), (7, 2), (100, 16), (0, 3), (7, 2), (100, 16), (0, 3), (7, 2), (100, 16), (0, 3), (7, 2), (100, 16), (0, 3), (7, 2), (100, 16), (0, 3), (7, 2), (100, 16), (103, 4), (7, 2), (100, 20)]) (tP2 := [[some (b + 2), none, some (b + 33)], [some (b + 3), some (b + 6), some (b + 9), some (b + 12), some (b + 15), some (b + 18), some (b + 21), some (b + 24), some (b + 27), some (b + 30)], [some (b + 4)], [some (b + 5)], [], [some (b + 7)], [some (b + 8)], [], [some (b + 10)], [some (b + 11)], [], [some (b + 13)], [some (b + 14)], [], [some (b + 16)], [some (b + 17)], [], [some (b + 19)], [some (b + 20)], [], [some (b + 22)], [some (b + 23)], [], [some (b + 25)], [some (b + 26)], [], [some (b + 28)], [some (b + 29)], [], [some (b + 31)], [some (b + 32)], [], [], [some (b + 35)], []]) rfl rfl ?_
  refine c_aast (pc2 := 75) (q := 32) (s := 33) (j := b + 34) (a := b + 33) (fi := 0) d_Se_init_74 hb hp rfl (Nat.le_of_ble_eq_true rfl) (by decide) (by decide) (by decide) rfl (by decide) rfl rfl rfl ?_
  refine c_cv (tH2 := [(8, 8), (104, 10), (0, 3), (7, 2), (100, 16), (0, 3), (7, 2), (100, 16), (0, 3), (7, 2), (100, 16), (0, 3), (7, 2), (100, 16), (0, 3), (7, 2), (100, 16), (0, 3), (7, 2), (100, 16), (0, 3), (7, 2), (100, 16), (0, 3), (7, 2), (100, 16), (0, 3), (7, 2), (100, 16), (0, 3), (7, 2), (100, 16), (103, 4), (7, 2), (100, 20)]) (tP2 := [[some (b + 2), none, some (b + 33)], [some (b + 3), some (b + 6), some (b + 9), some (b + 12), some (b + 15), some (b + 18), some (b + 21), some (b + 24), some (b + 27), some (b + 30)], [some (b + 4)], [some (b + 5)], [], [some (b + 7)], [some (b + 8)], [], [some (b + 10)], [some (b + 11)], [], [some (b + 13)], [some (b + 14)], [], [some (b + 16)], [some (b + 17)], [], [some (b + 19)], [some (b + 20)], [], [some (b + 22)], [some (b + 23)], [], [some (b + 25)], [some (b + 26)], [], [some (b + 28)], [some (b + 29)], [], [some (b + 31)], [some (b + 32)], [], [some (b + 34)], [some (b + 35)], []]) rfl rfl ?_
  refine b_inc (pc2 := 78) (al2 := [(1, _), (0, _)]) (y := Int32.ofNat 1) d_Se_init_75 (by decide) rfl rfl rfl rfl ?_
  rw [show Int32.ofNat 0 + Int32.ofNat 1 = Int32.ofNat 1 from rfl]
  refine b_go (pc2 := 55) d_Se_init_78 rfl ?_
  refine b_iln (pc2 := 56) d_Se_init_55 rfl rfl ?_
  refine b_ic (pc2 := 57) (x := Int32.ofNat 4) d_Se_init_56 rfl rfl ?_
  refine b_ifd (pc2 := 81) d_Se_init_57 rfl rfl rfl rfl rfl (fun h57 => ?_) (fun h57 => ?_)
  · exact absurd h57 (by decide)
  refine b_aln (pc2 := 61) d_Se_init_60 rfl rfl ?_
  refine b_gr (pc2 := 64) d_Se_init_61 q_8_24 (show _ from hLS_sh (i := 0) hb rfl) (by decide) (by decide) (show _ from hLS_p (i := 0) hp rfl) rfl ?_
  refine b_iln (pc2 := 65) d_Se_init_64 rfl rfl ?_
  refine c_new (pc2 := 68) (n := 35) (a := b + 36) d_Se_init_65 q_8_22 (by decide) hb hp rfl rfl (fun q hq => hz q (by omega)) (by decide) (by decide) rfl rfl ?_
  refine b_pure (pc2 := 69) d_Se_init_68 rfl rfl rfl ?_
  refine b_bp (pc2 := 71) (x := Int32.ofNat 20) d_Se_init_69 rfl rfl ?_
  refine c_is (pc2 := 74) (n := 35) (a := b + 36) (ci_Ro_init (q := 20) (by omega) (by decide)) d_Se_init_71 q_8_28 hb hp rfl rfl (fun q hq => hz q (by omega)) rfl (Nat.le_of_ble_eq_true rfl) rfl rfl (Nat.le_of_ble_eq_true rfl) rfl rfl (by decide) (by decide) rfl ?_
  refine c_cv (tH2 := [(8, 8), (104, 10), (0, 3), (7, 2), (100, 16), (0, 3), (7, 2), (100, 16), (0, 3), (7, 2), (100, 16), (0, 3), (7, 2), (100, 16), (0, 3), (7, 2), (100, 16), (0, 3), (7, 2), (100, 16), (0, 3), (7, 2), (100, 16), (0, 3), (7, 2), (100, 16), (0, 3), (7, 2), (100, 16), (0, 3), (7, 2), (100, 16), (103, 4), (7, 2), (100, 20), (7, 2), (100, 20)]) (tP2 := [[some (b + 2), none, some (b + 33)], [some (b + 3), some (b + 6), some (b + 9), some (b + 12), some (b + 15), some (b + 18), some (b + 21), some (b + 24), some (b + 27), some (b + 30)], [some (b + 4)], [some (b + 5)], [], [some (b + 7)], [some (b + 8)], [], [some (b + 10)], [some (b + 11)], [], [some (b + 13)], [some (b + 14)], [], [some (b + 16)], [some (b + 17)], [], [some (b + 19)], [some (b + 20)], [], [some (b + 22)], [some (b + 23)], [], [some (b + 25)], [some (b + 26)], [], [some (b + 28)], [some (b + 29)], [], [some (b + 31)], [some (b + 32)], [], [some (b + 34)], [some (b + 35)], [], [some (b + 37)], []]) rfl rfl ?_
  refine c_aast (pc2 := 75) (q := 32) (s := 35) (j := b + 36) (a := b + 33) (fi := 1) d_Se_init_74 hb hp rfl (Nat.le_of_ble_eq_true rfl) (by decide) (by decide) (by decide) rfl (by decide) rfl rfl rfl ?_
  refine c_cv (tH2 := [(8, 8), (104, 10), (0, 3), (7, 2), (100, 16), (0, 3), (7, 2), (100, 16), (0, 3), (7, 2), (100, 16), (0, 3), (7, 2), (100, 16), (0, 3), (7, 2), (100, 16), (0, 3), (7, 2), (100, 16), (0, 3), (7, 2), (100, 16), (0, 3), (7, 2), (100, 16), (0, 3), (7, 2), (100, 16), (0, 3), (7, 2), (100, 16), (103, 4), (7, 2), (100, 20), (7, 2), (100, 20)]) (tP2 := [[some (b + 2), none, some (b + 33)], [some (b + 3), some (b + 6), some (b + 9), some (b + 12), some (b + 15), some (b + 18), some (b + 21), some (b + 24), some (b + 27), some (b + 30)], [some (b + 4)], [some (b + 5)], [], [some (b + 7)], [some (b + 8)], [], [some (b + 10)], [some (b + 11)], [], [some (b + 13)], [some (b + 14)], [], [some (b + 16)], [some (b + 17)], [], [some (b + 19)], [some (b + 20)], [], [some (b + 22)], [some (b + 23)], [], [some (b + 25)], [some (b + 26)], [], [some (b + 28)], [some (b + 29)], [], [some (b + 31)], [some (b + 32)], [], [some (b + 34), some (b + 36)], [some (b + 35)], [], [some (b + 37)], []]) rfl rfl ?_
  refine b_inc (pc2 := 78) (al2 := [(1, _), (0, _)]) (y := Int32.ofNat 1) d_Se_init_75 (by decide) rfl rfl rfl rfl ?_
  rw [show Int32.ofNat 1 + Int32.ofNat 1 = Int32.ofNat 2 from rfl]
  refine b_go (pc2 := 55) d_Se_init_78 rfl ?_
  refine b_iln (pc2 := 56) d_Se_init_55 rfl rfl ?_
  refine b_ic (pc2 := 57) (x := Int32.ofNat 4) d_Se_init_56 rfl rfl ?_
  refine b_ifd (pc2 := 81) d_Se_init_57 rfl rfl rfl rfl rfl (fun h57 => ?_) (fun h57 => ?_)
  · exact absurd h57 (by decide)
  refine b_aln (pc2 := 61) d_Se_init_60 rfl rfl ?_
  refine b_gr (pc2 := 64) d_Se_init_61 q_8_24 (show _ from hLS_sh (i := 0) hb rfl) (by decide) (by decide) (show _ from hLS_p (i := 0) hp rfl) rfl ?_
  refine b_iln (pc2 := 65) d_Se_init_64 rfl rfl ?_
  refine c_new (pc2 := 68) (n := 37) (a := b + 38) d_Se_init_65 q_8_22 (by decide) hb hp rfl rfl (fun q hq => hz q (by omega)) (by decide) (by decide) rfl rfl ?_
  refine b_pure (pc2 := 69) d_Se_init_68 rfl rfl rfl ?_
  refine b_bp (pc2 := 71) (x := Int32.ofNat 20) d_Se_init_69 rfl rfl ?_
  refine c_is (pc2 := 74) (n := 37) (a := b + 38) (ci_Ro_init (q := 20) (by omega) (by decide)) d_Se_init_71 q_8_28 hb hp rfl rfl (fun q hq => hz q (by omega)) rfl (Nat.le_of_ble_eq_true rfl) rfl rfl (Nat.le_of_ble_eq_true rfl) rfl rfl (by decide) (by decide) rfl ?_
  refine c_cv (tH2 := [(8, 8), (104, 10), (0, 3), (7, 2), (100, 16), (0, 3), (7, 2), (100, 16), (0, 3), (7, 2), (100, 16), (0, 3), (7, 2), (100, 16), (0, 3), (7, 2), (100, 16), (0, 3), (7, 2), (100, 16), (0, 3), (7, 2), (100, 16), (0, 3), (7, 2), (100, 16), (0, 3), (7, 2), (100, 16), (0, 3), (7, 2), (100, 16), (103, 4), (7, 2), (100, 20), (7, 2), (100, 20), (7, 2), (100, 20)]) (tP2 := [[some (b + 2), none, some (b + 33)], [some (b + 3), some (b + 6), some (b + 9), some (b + 12), some (b + 15), some (b + 18), some (b + 21), some (b + 24), some (b + 27), some (b + 30)], [some (b + 4)], [some (b + 5)], [], [some (b + 7)], [some (b + 8)], [], [some (b + 10)], [some (b + 11)], [], [some (b + 13)], [some (b + 14)], [], [some (b + 16)], [some (b + 17)], [], [some (b + 19)], [some (b + 20)], [], [some (b + 22)], [some (b + 23)], [], [some (b + 25)], [some (b + 26)], [], [some (b + 28)], [some (b + 29)], [], [some (b + 31)], [some (b + 32)], [], [some (b + 34), some (b + 36)], [some (b + 35)], [], [some (b + 37)], [], [some (b + 39)], []]) rfl rfl ?_
  refine c_aast (pc2 := 75) (q := 32) (s := 37) (j := b + 38) (a := b + 33) (fi := 2) d_Se_init_74 hb hp rfl (Nat.le_of_ble_eq_true rfl) (by decide) (by decide) (by decide) rfl (by decide) rfl rfl rfl ?_
  refine c_cv (tH2 := [(8, 8), (104, 10), (0, 3), (7, 2), (100, 16), (0, 3), (7, 2), (100, 16), (0, 3), (7, 2), (100, 16), (0, 3), (7, 2), (100, 16), (0, 3), (7, 2), (100, 16), (0, 3), (7, 2), (100, 16), (0, 3), (7, 2), (100, 16), (0, 3), (7, 2), (100, 16), (0, 3), (7, 2), (100, 16), (0, 3), (7, 2), (100, 16), (103, 4), (7, 2), (100, 20), (7, 2), (100, 20), (7, 2), (100, 20)]) (tP2 := [[some (b + 2), none, some (b + 33)], [some (b + 3), some (b + 6), some (b + 9), some (b + 12), some (b + 15), some (b + 18), some (b + 21), some (b + 24), some (b + 27), some (b + 30)], [some (b + 4)], [some (b + 5)], [], [some (b + 7)], [some (b + 8)], [], [some (b + 10)], [some (b + 11)], [], [some (b + 13)], [some (b + 14)], [], [some (b + 16)], [some (b + 17)], [], [some (b + 19)], [some (b + 20)], [], [some (b + 22)], [some (b + 23)], [], [some (b + 25)], [some (b + 26)], [], [some (b + 28)], [some (b + 29)], [], [some (b + 31)], [some (b + 32)], [], [some (b + 34), some (b + 36), some (b + 38)], [some (b + 35)], [], [some (b + 37)], [], [some (b + 39)], []]) rfl rfl ?_
  refine b_inc (pc2 := 78) (al2 := [(1, _), (0, _)]) (y := Int32.ofNat 1) d_Se_init_75 (by decide) rfl rfl rfl rfl ?_
  rw [show Int32.ofNat 2 + Int32.ofNat 1 = Int32.ofNat 3 from rfl]
  refine b_go (pc2 := 55) d_Se_init_78 rfl ?_
  refine b_iln (pc2 := 56) d_Se_init_55 rfl rfl ?_
  refine b_ic (pc2 := 57) (x := Int32.ofNat 4) d_Se_init_56 rfl rfl ?_
  refine b_ifd (pc2 := 81) d_Se_init_57 rfl rfl rfl rfl rfl (fun h57 => ?_) (fun h57 => ?_)
  · exact absurd h57 (by decide)
  refine b_aln (pc2 := 61) d_Se_init_60 rfl rfl ?_
  refine b_gr (pc2 := 64) d_Se_init_61 q_8_24 (show _ from hLS_sh (i := 0) hb rfl) (by decide) (by decide) (show _ from hLS_p (i := 0) hp rfl) rfl ?_
  refine b_iln (pc2 := 65) d_Se_init_64 rfl rfl ?_
  refine c_new (pc2 := 68) (n := 39) (a := b + 40) d_Se_init_65 q_8_22 (by decide) hb hp rfl rfl (fun q hq => hz q (by omega)) (by decide) (by decide) rfl rfl ?_
  refine b_pure (pc2 := 69) d_Se_init_68 rfl rfl rfl ?_
  refine b_bp (pc2 := 71) (x := Int32.ofNat 20) d_Se_init_69 rfl rfl ?_
  refine c_is (pc2 := 74) (n := 39) (a := b + 40) (ci_Ro_init (q := 20) (by omega) (by decide)) d_Se_init_71 q_8_28 hb hp rfl rfl (fun q hq => hz q (by omega)) rfl (Nat.le_of_ble_eq_true rfl) rfl rfl (Nat.le_of_ble_eq_true rfl) rfl rfl (by decide) (by decide) rfl ?_
  refine c_cv (tH2 := [(8, 8), (104, 10), (0, 3), (7, 2), (100, 16), (0, 3), (7, 2), (100, 16), (0, 3), (7, 2), (100, 16), (0, 3), (7, 2), (100, 16), (0, 3), (7, 2), (100, 16), (0, 3), (7, 2), (100, 16), (0, 3), (7, 2), (100, 16), (0, 3), (7, 2), (100, 16), (0, 3), (7, 2), (100, 16), (0, 3), (7, 2), (100, 16), (103, 4), (7, 2), (100, 20), (7, 2), (100, 20), (7, 2), (100, 20), (7, 2), (100, 20)]) (tP2 := [[some (b + 2), none, some (b + 33)], [some (b + 3), some (b + 6), some (b + 9), some (b + 12), some (b + 15), some (b + 18), some (b + 21), some (b + 24), some (b + 27), some (b + 30)], [some (b + 4)], [some (b + 5)], [], [some (b + 7)], [some (b + 8)], [], [some (b + 10)], [some (b + 11)], [], [some (b + 13)], [some (b + 14)], [], [some (b + 16)], [some (b + 17)], [], [some (b + 19)], [some (b + 20)], [], [some (b + 22)], [some (b + 23)], [], [some (b + 25)], [some (b + 26)], [], [some (b + 28)], [some (b + 29)], [], [some (b + 31)], [some (b + 32)], [], [some (b + 34), some (b + 36), some (b + 38)], [some (b + 35)], [], [some (b + 37)], [], [some (b + 39)], [], [some (b + 41)], []]) rfl rfl ?_
  refine c_aast (pc2 := 75) (q := 32) (s := 39) (j := b + 40) (a := b + 33) (fi := 3) d_Se_init_74 hb hp rfl (Nat.le_of_ble_eq_true rfl) (by decide) (by decide) (by decide) rfl (by decide) rfl rfl rfl ?_
  refine c_cv (tH2 := [(8, 8), (104, 10), (0, 3), (7, 2), (100, 16), (0, 3), (7, 2), (100, 16), (0, 3), (7, 2), (100, 16), (0, 3), (7, 2), (100, 16), (0, 3), (7, 2), (100, 16), (0, 3), (7, 2), (100, 16), (0, 3), (7, 2), (100, 16), (0, 3), (7, 2), (100, 16), (0, 3), (7, 2), (100, 16), (0, 3), (7, 2), (100, 16), (103, 4), (7, 2), (100, 20), (7, 2), (100, 20), (7, 2), (100, 20), (7, 2), (100, 20)]) (tP2 := [[some (b + 2), none, some (b + 33)], [some (b + 3), some (b + 6), some (b + 9), some (b + 12), some (b + 15), some (b + 18), some (b + 21), some (b + 24), some (b + 27), some (b + 30)], [some (b + 4)], [some (b + 5)], [], [some (b + 7)], [some (b + 8)], [], [some (b + 10)], [some (b + 11)], [], [some (b + 13)], [some (b + 14)], [], [some (b + 16)], [some (b + 17)], [], [some (b + 19)], [some (b + 20)], [], [some (b + 22)], [some (b + 23)], [], [some (b + 25)], [some (b + 26)], [], [some (b + 28)], [some (b + 29)], [], [some (b + 31)], [some (b + 32)], [], [some (b + 34), some (b + 36), some (b + 38), some (b + 40)], [some (b + 35)], [], [some (b + 37)], [], [some (b + 39)], [], [some (b + 41)], []]) rfl rfl ?_
  refine b_inc (pc2 := 78) (al2 := [(1, _), (0, _)]) (y := Int32.ofNat 1) d_Se_init_75 (by decide) rfl rfl rfl rfl ?_
  rw [show Int32.ofNat 3 + Int32.ofNat 1 = Int32.ofNat 4 from rfl]
  refine b_go (pc2 := 55) d_Se_init_78 rfl ?_
  refine b_iln (pc2 := 56) d_Se_init_55 rfl rfl ?_
  refine b_ic (pc2 := 57) (x := Int32.ofNat 4) d_Se_init_56 rfl rfl ?_
  refine b_ifd (pc2 := 81) d_Se_init_57 rfl rfl rfl rfl rfl (fun h57 => ?_) (fun h57 => ?_)
  rotate_left
  · exact absurd (by decide) h57
  refine b_aln (pc2 := 82) d_Se_init_81 rfl rfl ?_
  refine b_ic (pc2 := 83) (x := Int32.ofNat 0) d_Se_init_82 rfl rfl ?_
  refine b_pi (pc2 := 86) d_Se_init_83 q_8_31 (show _ from hLS_sh (i := 0) hb rfl) (by decide) (Or.inl (by decide)) (Or.inl rfl) (bw_rc0 _) rfl ?_
  rw [u2_idq (f := J) (a := b + 1) (k := 3) (x := Int32.ofNat 0) (by rw [hz _ (by omega)]; rfl)]
  refine b_aln (pc2 := 87) d_Se_init_86 rfl rfl ?_
  refine b_bp (pc2 := 89) (x := Int32.ofNat 10) d_Se_init_87 rfl rfl ?_
  refine c_newa (pc2 := 91) (n := 41) (a := b + 42) (t := 100) (q := 10) d_Se_init_89 (Or.inl ⟨rfl, rfl⟩) (by decide) hb hp rfl rfl (fun q hq => hz q (by omega)) (by decide) (by decide) rfl rfl ?_
  refine c_cv (tH2 := [(8, 8), (104, 10), (0, 3), (7, 2), (100, 16), (0, 3), (7, 2), (100, 16), (0, 3), (7, 2), (100, 16), (0, 3), (7, 2), (100, 16), (0, 3), (7, 2), (100, 16), (0, 3), (7, 2), (100, 16), (0, 3), (7, 2), (100, 16), (0, 3), (7, 2), (100, 16), (0, 3), (7, 2), (100, 16), (0, 3), (7, 2), (100, 16), (103, 4), (7, 2), (100, 20), (7, 2), (100, 20), (7, 2), (100, 20), (7, 2), (100, 20), (100, 10)]) (tP2 := [[some (b + 2), none, some (b + 33)], [some (b + 3), some (b + 6), some (b + 9), some (b + 12), some (b + 15), some (b + 18), some (b + 21), some (b + 24), some (b + 27), some (b + 30)], [some (b + 4)], [some (b + 5)], [], [some (b + 7)], [some (b + 8)], [], [some (b + 10)], [some (b + 11)], [], [some (b + 13)], [some (b + 14)], [], [some (b + 16)], [some (b + 17)], [], [some (b + 19)], [some (b + 20)], [], [some (b + 22)], [some (b + 23)], [], [some (b + 25)], [some (b + 26)], [], [some (b + 28)], [some (b + 29)], [], [some (b + 31)], [some (b + 32)], [], [some (b + 34), some (b + 36), some (b + 38), some (b + 40)], [some (b + 35)], [], [some (b + 37)], [], [some (b + 39)], [], [some (b + 41)], [], []]) rfl rfl ?_
  refine c_putR (pc2 := 94) (q := 0) (a := b + 1) d_Se_init_91 q_8_34 hb hp rfl (Nat.le_of_ble_eq_true rfl) (by decide) (Or.inr ⟨rfl, rfl⟩) rfl rfl rfl ?_
  refine c_cv (tH2 := [(8, 8), (104, 10), (0, 3), (7, 2), (100, 16), (0, 3), (7, 2), (100, 16), (0, 3), (7, 2), (100, 16), (0, 3), (7, 2), (100, 16), (0, 3), (7, 2), (100, 16), (0, 3), (7, 2), (100, 16), (0, 3), (7, 2), (100, 16), (0, 3), (7, 2), (100, 16), (0, 3), (7, 2), (100, 16), (0, 3), (7, 2), (100, 16), (103, 4), (7, 2), (100, 20), (7, 2), (100, 20), (7, 2), (100, 20), (7, 2), (100, 20), (100, 10)]) (tP2 := [[some (b + 2), none, some (b + 33), none, some (b + 42)], [some (b + 3), some (b + 6), some (b + 9), some (b + 12), some (b + 15), some (b + 18), some (b + 21), some (b + 24), some (b + 27), some (b + 30)], [some (b + 4)], [some (b + 5)], [], [some (b + 7)], [some (b + 8)], [], [some (b + 10)], [some (b + 11)], [], [some (b + 13)], [some (b + 14)], [], [some (b + 16)], [some (b + 17)], [], [some (b + 19)], [some (b + 20)], [], [some (b + 22)], [some (b + 23)], [], [some (b + 25)], [some (b + 26)], [], [some (b + 28)], [some (b + 29)], [], [some (b + 31)], [some (b + 32)], [], [some (b + 34), some (b + 36), some (b + 38), some (b + 40)], [some (b + 35)], [], [some (b + 37)], [], [some (b + 39)], [], [some (b + 41)], [], []]) rfl rfl ?_
  refine b_aln (pc2 := 95) d_Se_init_94 rfl rfl ?_
  refine c_new (pc2 := 98) (n := 42) (a := b + 43) d_Se_init_95 q_8_22 (by decide) hb hp rfl rfl (fun q hq => hz q (by omega)) (by decide) (by decide) rfl rfl ?_
  refine b_pure (pc2 := 99) d_Se_init_98 rfl rfl rfl ?_
  refine b_bp (pc2 := 101) (x := Int32.ofNat 20) d_Se_init_99 rfl rfl ?_
  refine c_is (pc2 := 104) (n := 42) (a := b + 43) (ci_Ro_init (q := 20) (by omega) (by decide)) d_Se_init_101 q_8_28 hb hp rfl rfl (fun q hq => hz q (by omega)) rfl (Nat.le_of_ble_eq_true rfl) rfl rfl (Nat.le_of_ble_eq_true rfl) rfl rfl (by decide) (by decide) rfl ?_
  refine c_cv (tH2 := [(8, 8), (104, 10), (0, 3), (7, 2), (100, 16), (0, 3), (7, 2), (100, 16), (0, 3), (7, 2), (100, 16), (0, 3), (7, 2), (100, 16), (0, 3), (7, 2), (100, 16), (0, 3), (7, 2), (100, 16), (0, 3), (7, 2), (100, 16), (0, 3), (7, 2), (100, 16), (0, 3), (7, 2), (100, 16), (0, 3), (7, 2), (100, 16), (103, 4), (7, 2), (100, 20), (7, 2), (100, 20), (7, 2), (100, 20), (7, 2), (100, 20), (100, 10), (7, 2), (100, 20)]) (tP2 := [[some (b + 2), none, some (b + 33), none, some (b + 42)], [some (b + 3), some (b + 6), some (b + 9), some (b + 12), some (b + 15), some (b + 18), some (b + 21), some (b + 24), some (b + 27), some (b + 30)], [some (b + 4)], [some (b + 5)], [], [some (b + 7)], [some (b + 8)], [], [some (b + 10)], [some (b + 11)], [], [some (b + 13)], [some (b + 14)], [], [some (b + 16)], [some (b + 17)], [], [some (b + 19)], [some (b + 20)], [], [some (b + 22)], [some (b + 23)], [], [some (b + 25)], [some (b + 26)], [], [some (b + 28)], [some (b + 29)], [], [some (b + 31)], [some (b + 32)], [], [some (b + 34), some (b + 36), some (b + 38), some (b + 40)], [some (b + 35)], [], [some (b + 37)], [], [some (b + 39)], [], [some (b + 41)], [], [], [some (b + 44)], []]) rfl rfl ?_
  refine c_putR (pc2 := 107) (q := 0) (a := b + 1) d_Se_init_104 q_8_38 hb hp rfl (Nat.le_of_ble_eq_true rfl) (by decide) (Or.inr ⟨rfl, rfl⟩) rfl rfl rfl ?_
  refine c_cv (tH2 := [(8, 8), (104, 10), (0, 3), (7, 2), (100, 16), (0, 3), (7, 2), (100, 16), (0, 3), (7, 2), (100, 16), (0, 3), (7, 2), (100, 16), (0, 3), (7, 2), (100, 16), (0, 3), (7, 2), (100, 16), (0, 3), (7, 2), (100, 16), (0, 3), (7, 2), (100, 16), (0, 3), (7, 2), (100, 16), (0, 3), (7, 2), (100, 16), (103, 4), (7, 2), (100, 20), (7, 2), (100, 20), (7, 2), (100, 20), (7, 2), (100, 20), (100, 10), (7, 2), (100, 20)]) (tP2 := [[some (b + 2), none, some (b + 33), none, some (b + 42), some (b + 43)], [some (b + 3), some (b + 6), some (b + 9), some (b + 12), some (b + 15), some (b + 18), some (b + 21), some (b + 24), some (b + 27), some (b + 30)], [some (b + 4)], [some (b + 5)], [], [some (b + 7)], [some (b + 8)], [], [some (b + 10)], [some (b + 11)], [], [some (b + 13)], [some (b + 14)], [], [some (b + 16)], [some (b + 17)], [], [some (b + 19)], [some (b + 20)], [], [some (b + 22)], [some (b + 23)], [], [some (b + 25)], [some (b + 26)], [], [some (b + 28)], [some (b + 29)], [], [some (b + 31)], [some (b + 32)], [], [some (b + 34), some (b + 36), some (b + 38), some (b + 40)], [some (b + 35)], [], [some (b + 37)], [], [some (b + 39)], [], [some (b + 41)], [], [], [some (b + 44)], []]) rfl rfl ?_
  refine b_aln (pc2 := 108) d_Se_init_107 rfl rfl ?_
  refine b_bp (pc2 := 110) (x := Int32.ofNat 8) d_Se_init_108 rfl rfl ?_
  refine b_pi (pc2 := 113) d_Se_init_110 q_8_42 (show _ from hLS_sh (i := 0) hb rfl) (by decide) (Or.inl (by decide)) (Or.inl rfl) (bw_rc0 _) rfl ?_
  refine b_aln (pc2 := 114) d_Se_init_113 rfl rfl ?_
  refine b_ic (pc2 := 115) (x := Int32.ofNat 0) d_Se_init_114 rfl rfl ?_
  refine b_pi (pc2 := 118) d_Se_init_115 q_8_45 (show _ from hLS_sh (i := 0) hb rfl) (by decide) (Or.inl (by decide)) (Or.inr ⟨rfl, by decide⟩) (bw_rc0 _) rfl ?_
  rw [u2_idq (f := (am_u2 J (b + 1) 6 (Int32.ofNat 8))) (a := b + 1) (k := 7) (x := Int32.ofNat 0) (by rw [u2_k _ _ (by decide), hz _ (by omega)]; rfl)]
  exact c_vr d_Se_init_118 rfl
theorem ci_Cl_init {d N : Nat} (hd : 3 ≤ d) : cS d N 11 [] (2, 13) [(2, 13), (5, 3), (103, 4), (7, 2), (100, 20), (7, 2), (100, 20), (7, 2), (100, 20), (7, 2), (100, 20), (7, 2), (100, 20), (7, 2), (100, 20), (7, 2), (100, 1), (7, 2), (100, 8)] (fun b => [[some (b + 2), some (b + 12), some (b + 14), some (b + 16), some (b + 18)], [some (b + 3)], [some (b + 4), some (b + 6), some (b + 8), some (b + 10)], [some (b + 5)], [], [some (b + 7)], [], [some (b + 9)], [], [some (b + 11)], [], [some (b + 13)], [], [some (b + 15)], [], [some (b + 17)], [], [some (b + 19)], []]) (fun b J => (am_u2 (am_u2 (am_u2 (am_u2 J (b + 17) 0 ((Int32.ofNat 30 &&& 255))) (b + 16) 1 ((Int32.ofNat (0 + 1)))) (b + 1) 5 (Int32.ofNat 8)) (b + 1) 8 ((-1)))) := by
  obtain ⟨d, rfl⟩ : ∃ e, d = e + 1 := ⟨d - 1, by omega⟩
  refine cS_of (fun _ => Nat.le_of_ble_eq_true rfl) (fun b H P J hb hp hz => ?_)
  show bH d (hLS N (H ++ [(2, 13)]) (P ++ [[]])) r0 mt_Cl_init _ 0 [(0, .ref (b + 1))] [] _ J 0 lz 0 0
  refine b_aln (pc2 := 1) d_Cl_init_0 rfl rfl ?_
  refine c_sup (pc2 := 4) d_Cl_init_1 q_2_3 (Nat.le_of_ble_eq_true rfl) rfl ?_
  refine b_aln (pc2 := 5) d_Cl_init_4 rfl rfl ?_
  refine c_new (pc2 := 8) (n := 1) (a := b + 2) d_Cl_init_5 q_2_9 (by decide) hb hp rfl rfl (fun q hq => hz q (by omega)) (by decide) (by decide) rfl rfl ?_
  refine b_pure (pc2 := 9) d_Cl_init_8 rfl rfl rfl ?_
  refine c_is (pc2 := 12) (n := 1) (a := b + 2) (ci_No_init (by omega)) d_Cl_init_9 q_2_11 hb hp rfl rfl (fun q hq => hz q (by omega)) rfl (Nat.le_of_ble_eq_true rfl) rfl rfl (Nat.le_of_ble_eq_true rfl) rfl rfl (by decide) (by decide) rfl ?_
  refine c_cv (tH2 := [(2, 13), (5, 3), (103, 4), (7, 2), (100, 20), (7, 2), (100, 20), (7, 2), (100, 20), (7, 2), (100, 20)]) (tP2 := [[], [some (b + 3)], [some (b + 4), some (b + 6), some (b + 8), some (b + 10)], [some (b + 5)], [], [some (b + 7)], [], [some (b + 9)], [], [some (b + 11)], []]) rfl rfl ?_
  refine c_putR (pc2 := 15) (q := 0) (a := b + 1) d_Cl_init_12 q_2_12 hb hp rfl (Nat.le_of_ble_eq_true rfl) (by decide) (Or.inr ⟨rfl, rfl⟩) rfl rfl rfl ?_
  refine c_cv (tH2 := [(2, 13), (5, 3), (103, 4), (7, 2), (100, 20), (7, 2), (100, 20), (7, 2), (100, 20), (7, 2), (100, 20)]) (tP2 := [[some (b + 2)], [some (b + 3)], [some (b + 4), some (b + 6), some (b + 8), some (b + 10)], [some (b + 5)], [], [some (b + 7)], [], [some (b + 9)], [], [some (b + 11)], []]) rfl rfl ?_
  refine b_aln (pc2 := 16) d_Cl_init_15 rfl rfl ?_
  refine c_new (pc2 := 19) (n := 11) (a := b + 12) d_Cl_init_16 q_2_18 (by decide) hb hp rfl rfl (fun q hq => hz q (by omega)) (by decide) (by decide) rfl rfl ?_
  refine b_pure (pc2 := 20) d_Cl_init_19 rfl rfl rfl ?_
  refine b_bp (pc2 := 22) (x := Int32.ofNat 20) d_Cl_init_20 rfl rfl ?_
  refine c_is (pc2 := 25) (n := 11) (a := b + 12) (ci_Ro_init (q := 20) (by omega) (by decide)) d_Cl_init_22 q_2_20 hb hp rfl rfl (fun q hq => hz q (by omega)) rfl (Nat.le_of_ble_eq_true rfl) rfl rfl (Nat.le_of_ble_eq_true rfl) rfl rfl (by decide) (by decide) rfl ?_
  refine c_cv (tH2 := [(2, 13), (5, 3), (103, 4), (7, 2), (100, 20), (7, 2), (100, 20), (7, 2), (100, 20), (7, 2), (100, 20), (7, 2), (100, 20)]) (tP2 := [[some (b + 2)], [some (b + 3)], [some (b + 4), some (b + 6), some (b + 8), some (b + 10)], [some (b + 5)], [], [some (b + 7)], [], [some (b + 9)], [], [some (b + 11)], [], [some (b + 13)], []]) rfl rfl ?_
  refine c_putR (pc2 := 28) (q := 0) (a := b + 1) d_Cl_init_25 q_2_23 hb hp rfl (Nat.le_of_ble_eq_true rfl) (by decide) (Or.inr ⟨rfl, rfl⟩) rfl rfl rfl ?_
  refine c_cv (tH2 := [(2, 13), (5, 3), (103, 4), (7, 2), (100, 20), (7, 2), (100, 20), (7, 2), (100, 20), (7, 2), (100, 20), (7, 2), (100, 20)]) (tP2 := [[some (b + 2), some (b + 12)], [some (b + 3)], [some (b + 4), some (b + 6), some (b + 8), some (b + 10)], [some (b + 5)], [], [some (b + 7)], [], [some (b + 9)], [], [some (b + 11)], [], [some (b + 13)], []]) rfl rfl ?_
  refine b_aln (pc2 := 29) d_Cl_init_28 rfl rfl ?_
  refine c_new (pc2 := 32) (n := 13) (a := b + 14) d_Cl_init_29 q_2_18 (by decide) hb hp rfl rfl (fun q hq => hz q (by omega)) (by decide) (by decide) rfl rfl ?_
  refine b_pure (pc2 := 33) d_Cl_init_32 rfl rfl rfl ?_
  refine b_bp (pc2 := 35) (x := Int32.ofNat 20) d_Cl_init_33 rfl rfl ?_
  refine c_is (pc2 := 38) (n := 13) (a := b + 14) (ci_Ro_init (q := 20) (by omega) (by decide)) d_Cl_init_35 q_2_20 hb hp rfl rfl (fun q hq => hz q (by omega)) rfl (Nat.le_of_ble_eq_true rfl) rfl rfl (Nat.le_of_ble_eq_true rfl) rfl rfl (by decide) (by decide) rfl ?_
  refine c_cv (tH2 := [(2, 13), (5, 3), (103, 4), (7, 2), (100, 20), (7, 2), (100, 20), (7, 2), (100, 20), (7, 2), (100, 20), (7, 2), (100, 20), (7, 2), (100, 20)]) (tP2 := [[some (b + 2), some (b + 12)], [some (b + 3)], [some (b + 4), some (b + 6), some (b + 8), some (b + 10)], [some (b + 5)], [], [some (b + 7)], [], [some (b + 9)], [], [some (b + 11)], [], [some (b + 13)], [], [some (b + 15)], []]) rfl rfl ?_
  refine c_putR (pc2 := 41) (q := 0) (a := b + 1) d_Cl_init_38 q_2_27 hb hp rfl (Nat.le_of_ble_eq_true rfl) (by decide) (Or.inr ⟨rfl, rfl⟩) rfl rfl rfl ?_
  refine c_cv (tH2 := [(2, 13), (5, 3), (103, 4), (7, 2), (100, 20), (7, 2), (100, 20), (7, 2), (100, 20), (7, 2), (100, 20), (7, 2), (100, 20), (7, 2), (100, 20)]) (tP2 := [[some (b + 2), some (b + 12), some (b + 14)], [some (b + 3)], [some (b + 4), some (b + 6), some (b + 8), some (b + 10)], [some (b + 5)], [], [some (b + 7)], [], [some (b + 9)], [], [some (b + 11)], [], [some (b + 13)], [], [some (b + 15)], []]) rfl rfl ?_
  refine b_aln (pc2 := 42) d_Cl_init_41 rfl rfl ?_
  refine c_new (pc2 := 45) (n := 15) (a := b + 16) d_Cl_init_42 q_2_18 (by decide) hb hp rfl rfl (fun q hq => hz q (by omega)) (by decide) (by decide) rfl rfl ?_
  refine b_pure (pc2 := 46) d_Cl_init_45 rfl rfl rfl ?_
  refine b_ic (pc2 := 47) (x := Int32.ofNat 1) d_Cl_init_46 rfl rfl ?_
  refine c_is (pc2 := 50) (n := 15) (a := b + 16) (ci_Ro_init (q := 1) (by omega) (by decide)) d_Cl_init_47 q_2_20 hb hp rfl rfl (fun q hq => hz q (by omega)) rfl (Nat.le_of_ble_eq_true rfl) rfl rfl (Nat.le_of_ble_eq_true rfl) rfl rfl (by decide) (by decide) rfl ?_
  refine c_cv (tH2 := [(2, 13), (5, 3), (103, 4), (7, 2), (100, 20), (7, 2), (100, 20), (7, 2), (100, 20), (7, 2), (100, 20), (7, 2), (100, 20), (7, 2), (100, 20), (7, 2), (100, 1)]) (tP2 := [[some (b + 2), some (b + 12), some (b + 14)], [some (b + 3)], [some (b + 4), some (b + 6), some (b + 8), some (b + 10)], [some (b + 5)], [], [some (b + 7)], [], [some (b + 9)], [], [some (b + 11)], [], [some (b + 13)], [], [some (b + 15)], [], [some (b + 17)], []]) rfl rfl ?_
  refine c_putR (pc2 := 53) (q := 0) (a := b + 1) d_Cl_init_50 q_2_30 hb hp rfl (Nat.le_of_ble_eq_true rfl) (by decide) (Or.inr ⟨rfl, rfl⟩) rfl rfl rfl ?_
  refine c_cv (tH2 := [(2, 13), (5, 3), (103, 4), (7, 2), (100, 20), (7, 2), (100, 20), (7, 2), (100, 20), (7, 2), (100, 20), (7, 2), (100, 20), (7, 2), (100, 20), (7, 2), (100, 1)]) (tP2 := [[some (b + 2), some (b + 12), some (b + 14), some (b + 16)], [some (b + 3)], [some (b + 4), some (b + 6), some (b + 8), some (b + 10)], [some (b + 5)], [], [some (b + 7)], [], [some (b + 9)], [], [some (b + 11)], [], [some (b + 13)], [], [some (b + 15)], [], [some (b + 17)], []]) rfl rfl ?_
  refine b_aln (pc2 := 54) d_Cl_init_53 rfl rfl ?_
  refine b_gr (pc2 := 57) d_Cl_init_54 q_2_30 (show _ from hLS_sh (i := 0) hb rfl) (by decide) (by decide) (show _ from hLS_p (i := 0) hp rfl) rfl ?_
  refine b_bp (pc2 := 59) (x := Int32.ofNat 30) d_Cl_init_57 rfl rfl ?_
  refine b_cv0 (pc2 := 62) (c2 := 16) (u2 := 238) (ro_add (W := fun _ => []) (n := 0) (N := 1) (by omega) (show _ from hLS_sh (i := 15) hb rfl) (show _ from hLS_p (i := 15) hp rfl) (show _ from hLS_sh (i := 16) hb rfl) (by decide) (by rw [hz _ (by omega)]; rfl) (by decide) (Int32.ofNat 30)) d_Cl_init_59 q_2_33 (Nat.le_of_ble_eq_true rfl) rfl rfl (show _ from hLS_sh (i := 15) hb rfl) (Nat.le_of_ble_eq_true rfl) rfl rfl (by decide) (by decide) rfl ?_
  rw [if_pos (by decide)]
  refine b_aln (pc2 := 63) d_Cl_init_62 rfl rfl ?_
  refine c_new (pc2 := 66) (n := 17) (a := b + 18) d_Cl_init_63 q_2_18 (by decide) hb hp rfl rfl (fun q hq => by rw [u2_a _ _ (by omega), u2_a _ _ (by omega)]; exact hz q (by omega)) (by decide) (by decide) rfl rfl ?_
  refine b_pure (pc2 := 67) d_Cl_init_66 rfl rfl rfl ?_
  refine b_bp (pc2 := 69) (x := Int32.ofNat 8) d_Cl_init_67 rfl rfl ?_
  refine c_is (pc2 := 72) (n := 17) (a := b + 18) (ci_Ro_init (q := 8) (by omega) (by decide)) d_Cl_init_69 q_2_20 hb hp rfl rfl (fun q hq => by rw [u2_a _ _ (by omega), u2_a _ _ (by omega)]; exact hz q (by omega)) rfl (Nat.le_of_ble_eq_true rfl) rfl rfl (Nat.le_of_ble_eq_true rfl) rfl rfl (by decide) (by decide) rfl ?_
  refine c_cv (tH2 := [(2, 13), (5, 3), (103, 4), (7, 2), (100, 20), (7, 2), (100, 20), (7, 2), (100, 20), (7, 2), (100, 20), (7, 2), (100, 20), (7, 2), (100, 20), (7, 2), (100, 1), (7, 2), (100, 8)]) (tP2 := [[some (b + 2), some (b + 12), some (b + 14), some (b + 16)], [some (b + 3)], [some (b + 4), some (b + 6), some (b + 8), some (b + 10)], [some (b + 5)], [], [some (b + 7)], [], [some (b + 9)], [], [some (b + 11)], [], [some (b + 13)], [], [some (b + 15)], [], [some (b + 17)], [], [some (b + 19)], []]) rfl rfl ?_
  refine c_putR (pc2 := 75) (q := 0) (a := b + 1) d_Cl_init_72 q_2_36 hb hp rfl (Nat.le_of_ble_eq_true rfl) (by decide) (Or.inr ⟨rfl, rfl⟩) rfl rfl rfl ?_
  refine c_cv (tH2 := [(2, 13), (5, 3), (103, 4), (7, 2), (100, 20), (7, 2), (100, 20), (7, 2), (100, 20), (7, 2), (100, 20), (7, 2), (100, 20), (7, 2), (100, 20), (7, 2), (100, 1), (7, 2), (100, 8)]) (tP2 := [[some (b + 2), some (b + 12), some (b + 14), some (b + 16), some (b + 18)], [some (b + 3)], [some (b + 4), some (b + 6), some (b + 8), some (b + 10)], [some (b + 5)], [], [some (b + 7)], [], [some (b + 9)], [], [some (b + 11)], [], [some (b + 13)], [], [some (b + 15)], [], [some (b + 17)], [], [some (b + 19)], []]) rfl rfl ?_
  refine b_aln (pc2 := 76) d_Cl_init_75 rfl rfl ?_
  refine b_bp (pc2 := 78) (x := Int32.ofNat 8) d_Cl_init_76 rfl rfl ?_
  refine b_pi (pc2 := 81) d_Cl_init_78 q_2_39 (show _ from hLS_sh (i := 0) hb rfl) (by decide) (Or.inl (by decide)) (Or.inl rfl) (bw_rc0 _) rfl ?_
  refine b_aln (pc2 := 82) d_Cl_init_81 rfl rfl ?_
  refine b_ic (pc2 := 83) (x := Int32.ofNat 0) d_Cl_init_82 rfl rfl ?_
  refine b_pi (pc2 := 86) d_Cl_init_83 q_2_43 (show _ from hLS_sh (i := 0) hb rfl) (by decide) (Or.inl (by decide)) (Or.inl rfl) (bw_rc0 _) rfl ?_
  rw [u2_idq (f := (am_u2 (am_u2 (am_u2 J (b + 17) 0 ((Int32.ofNat 30 &&& 255))) (b + 16) 1 ((Int32.ofNat (0 + 1)))) (b + 1) 5 (Int32.ofNat 8))) (a := b + 1) (k := 6) (x := Int32.ofNat 0) (by rw [u2_k _ _ (by decide), u2_a _ _ (by omega), u2_a _ _ (by omega), hz _ (by omega)]; rfl)]
  refine b_aln (pc2 := 87) d_Cl_init_86 rfl rfl ?_
  refine b_ic (pc2 := 88) (x := Int32.ofNat 0) d_Cl_init_87 rfl rfl ?_
  refine b_pi (pc2 := 91) d_Cl_init_88 q_2_46 (show _ from hLS_sh (i := 0) hb rfl) (by decide) (Or.inl (by decide)) (Or.inl rfl) (bw_rc0 _) rfl ?_
  rw [u2_idq (f := (am_u2 (am_u2 (am_u2 J (b + 17) 0 ((Int32.ofNat 30 &&& 255))) (b + 16) 1 ((Int32.ofNat (0 + 1)))) (b + 1) 5 (Int32.ofNat 8))) (a := b + 1) (k := 7) (x := Int32.ofNat 0) (by rw [u2_k _ _ (by decide), u2_a _ _ (by omega), u2_a _ _ (by omega), hz _ (by omega)]; rfl)]
  refine b_aln (pc2 := 92) d_Cl_init_91 rfl rfl ?_
  refine b_ic (pc2 := 93) (x := -1) d_Cl_init_92 rfl rfl ?_
  refine b_pi (pc2 := 96) d_Cl_init_93 q_2_49 (show _ from hLS_sh (i := 0) hb rfl) (by decide) (Or.inl (by decide)) (Or.inl rfl) (bw_rc0 _) rfl ?_
  refine b_aln (pc2 := 97) d_Cl_init_96 rfl rfl ?_
  refine b_ic (pc2 := 98) (x := Int32.ofNat 0) d_Cl_init_97 rfl rfl ?_
  refine b_pi (pc2 := 101) d_Cl_init_98 q_2_52 (show _ from hLS_sh (i := 0) hb rfl) (by decide) (Or.inl (by decide)) (Or.inl rfl) (bw_rc0 _) rfl ?_
  rw [u2_idq (f := (am_u2 (am_u2 (am_u2 (am_u2 J (b + 17) 0 ((Int32.ofNat 30 &&& 255))) (b + 16) 1 ((Int32.ofNat (0 + 1)))) (b + 1) 5 (Int32.ofNat 8)) (b + 1) 8 ((-1)))) (a := b + 1) (k := 9) (x := Int32.ofNat 0) (by rw [u2_k _ _ (by decide), u2_k _ _ (by decide), u2_a _ _ (by omega), u2_a _ _ (by omega), hz _ (by omega)]; rfl)]
  refine b_aln (pc2 := 102) d_Cl_init_101 rfl rfl ?_
  refine b_ic (pc2 := 103) (x := Int32.ofNat 0) d_Cl_init_102 rfl rfl ?_
  refine b_pi (pc2 := 106) d_Cl_init_103 q_2_55 (show _ from hLS_sh (i := 0) hb rfl) (by decide) (Or.inl (by decide)) (Or.inl rfl) (bw_rc0 _) rfl ?_
  rw [u2_idq (f := (am_u2 (am_u2 (am_u2 (am_u2 J (b + 17) 0 ((Int32.ofNat 30 &&& 255))) (b + 16) 1 ((Int32.ofNat (0 + 1)))) (b + 1) 5 (Int32.ofNat 8)) (b + 1) 8 ((-1)))) (a := b + 1) (k := 10) (x := Int32.ofNat 0) (by rw [u2_k _ _ (by decide), u2_k _ _ (by decide), u2_a _ _ (by omega), u2_a _ _ (by omega), hz _ (by omega)]; rfl)]
  refine b_aln (pc2 := 107) d_Cl_init_106 rfl rfl ?_
  refine b_ic (pc2 := 108) (x := Int32.ofNat 0) d_Cl_init_107 rfl rfl ?_
  refine b_pi (pc2 := 111) d_Cl_init_108 q_2_58 (show _ from hLS_sh (i := 0) hb rfl) (by decide) (Or.inl (by decide)) (Or.inl rfl) (bw_rc0 _) rfl ?_
  rw [u2_idq (f := (am_u2 (am_u2 (am_u2 (am_u2 J (b + 17) 0 ((Int32.ofNat 30 &&& 255))) (b + 16) 1 ((Int32.ofNat (0 + 1)))) (b + 1) 5 (Int32.ofNat 8)) (b + 1) 8 ((-1)))) (a := b + 1) (k := 11) (x := Int32.ofNat 0) (by rw [u2_k _ _ (by decide), u2_k _ _ (by decide), u2_a _ _ (by omega), u2_a _ _ (by omega), hz _ (by omega)]; rfl)]
  refine b_aln (pc2 := 112) d_Cl_init_111 rfl rfl ?_
  refine b_ic (pc2 := 113) (x := Int32.ofNat 0) d_Cl_init_112 rfl rfl ?_
  refine b_pi (pc2 := 116) d_Cl_init_113 q_2_61 (show _ from hLS_sh (i := 0) hb rfl) (by decide) (Or.inl (by decide)) (Or.inr ⟨rfl, by decide⟩) (bw_rc0 _) rfl ?_
  rw [u2_idq (f := (am_u2 (am_u2 (am_u2 (am_u2 J (b + 17) 0 ((Int32.ofNat 30 &&& 255))) (b + 16) 1 ((Int32.ofNat (0 + 1)))) (b + 1) 5 (Int32.ofNat 8)) (b + 1) 8 ((-1)))) (a := b + 1) (k := 12) (x := Int32.ofNat 0) (by rw [u2_k _ _ (by decide), u2_k _ _ (by decide), u2_a _ _ (by omega), u2_a _ _ (by omega), hz _ (by omega)]; rfl)]
  exact c_vr d_Cl_init_116 rfl
