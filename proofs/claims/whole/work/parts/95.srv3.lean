/-! Part 95 (written by gen64.py): reading, writing and parts, class and reference side by side -/
theorem l_dr {l : List Int32} {k m : Nat} : (l.drop k).getD m 0 = l.getD (k + m) 0 := by rw [List.getD_eq_getElem?_getD, List.getD_eq_getElem?_getD, List.getElem?_drop]
section SY
variable {n0 : Nat} {W : bw_W} {J K : bw_J} {fr w ct cn pn sl : Nat}
theorem srv_10 (h : srvIn W J K fr w ct cn pn sl) (hne : 0 < (W 57).length) (hop : (W 57).getD 0 0 = Int32.ofNat 10) (hp : (W 57).length = 2) : srvEnd n0 W J K := by
  have h150 := in150 h hne
  rw [hop] at h150
  obtain ⟨hn, hn2, hh⟩ := byl_n h.2.2.2.1 1
  have hk1 := in150 h (show 1 < (W 57).length by omega)
  rw [hh] at hk1
  have hI := h
  obtain ⟨h1, h2, h3, h4, h5, h6⟩ := h
  have hS0 := h1
  obtain ⟨s1, s2, s3, s4, s5, s6, s7, s8, s9, s10, s11, s12, s13, s14, s15, s16⟩ := h1
  have hM0 : ∀ (K2 : bw_J) (W0 : bw_W) (J0 : bw_J) (g : Nat) (L : bw_L), (∀ e, 4 ≤ e → bm e (S0 n0) R0 167 [.ref 130, .int (Int32.ofNat 10), .int (Int32.ofNat hn)] W0 (jn J0 K) g L (bR none W0 (jn J0 K2) g L)) → ∀ d, 5 ≤ d → bm d (S0 n0) R0 160 [.ref 130] W0 (jn J0 K) g L (bR none W0 (jn J0 K2) g L) := fun K2 W0 J0 g L hT d hd => by
    refine mo_sh_10 hd h5 h3 hne h150 (fun e he => szd_10 hI h150 hp W0 J0 g L e he) (fun e he => ?_)
    rw [jn_ge (c := 150) (by decide), hk1]
    exact hT e he
  by_cases hno : hn = 0 ∨ cn < hn
  · refine srv_r (W1 := W) (J1 := J) (K1 := K) (c := 1) (hn := hn) hI hne hop (by decide) (by decide) (shp_10 hop hp) (by decide) (by decide) hh hn2 [] (fun e K0 g L he => ?_) (fun K2 W0 J0 g L hG d hd => ?_) hS0 h2 (fS_rf _ _ _) rfl rfl
    · exact se_to_10 (n0 := n0) (W := am_u1 W 128 []) (J := jn J K0) he hop (fun e2 he2 => se_acc_no (op := 10) (by omega) hop s1 s3 hh hn2 hno)
    · exact hM0 K2 W0 J0 g L (fun e he => mo_touch0 (n0 := n0) (J := jn J0 K) he (ct := cn) s2 s3 hn2 hno hG) d hd
  · obtain ⟨i, rfl⟩ : ∃ i, hn = i + 1 := ⟨hn - 1, by omega⟩
    have hi : i < 10 := by omega
    have hic : i < cn := by omega
    have hj : ∀ K0 : bw_J, (jn J K0) (88 + 3 * i) = J (88 + 3 * i) := fun K0 => jn_lt (by omega)
    have hK3 := (s4 i hi).2
    by_cases hr : J (88 + 3 * i) 2 &&& Int32.ofNat 1 = 0
    · refine srv_r (W1 := W) (J1 := J) (K1 := K) (c := 2) (hn := i + 1) hI hne hop (by decide) (by decide) (shp_10 hop hp) (by decide) (by decide) hh hn2 [] (fun e K0 g L he => ?_) (fun K2 W0 J0 g L hG d hd => ?_) hS0 h2 (fS_rf _ _ _) rfl rfl
      · exact se_to_10 (n0 := n0) (W := am_u1 W 128 []) (J := jn J K0) he hop (fun e2 he2 => se_acc_rd0_10 (n0 := n0) (W := am_u1 W 128 []) (J := jn J K0) (g := g) (L := L) (by omega) hop s1 s3 hi hh hic (by rw [hj]; exact hr))
      · exact hM0 K2 W0 J0 g L (fun e he => mo_touch_no10 (n0 := n0) (J := jn J0 K) he (ct := cn) s2 s3 hic (by rw [jn_ge (c := 153) (by decide), ← hK3]; exact hr) hG) d hd
    · have hr' : ¬ K 153 i &&& Int32.ofNat 1 = 0 := by rw [← hK3]; exact hr
      obtain ⟨v1, v2, v3, v4⟩ := s5 i hi
      have h89 : am_u1 W 128 [] (89 + 3 * i) = W (89 + 3 * i) := u1_ne _ _ (by omega)
      have hpl : ∃ pl, pl < 256 ∧ (W 57).getD 2 0 = Int32.ofNat pl ∧ pl = 0 := ⟨0, by decide, by rw [l_get (by omega)]; rfl, rfl⟩
      obtain ⟨pl, hpl2, hpl, hplk⟩ := hpl
      have hMt : ∀ (K2 : bw_J) (W0 : bw_W) (J0 : bw_J) (g : Nat) (L : bw_L), (∀ e, 3 ≤ e → bm e (S0 n0) R0 168 [.ref 130, .int (Int32.ofNat 10), .int (Int32.ofNat i), .int (Int32.ofNat pl)] W0 (jn J0 K) g L (bR none W0 (jn J0 K2) g L)) → ∀ d, 5 ≤ d → bm d (S0 n0) R0 160 [.ref 130] W0 (jn J0 K) g L (bR none W0 (jn J0 K2) g L) := fun K2 W0 J0 g L hG2 d hd =>
        hM0 K2 W0 J0 g L (fun e he => mo_touch_ok10 (n0 := n0) (J := jn J0 K) he (ct := cn) s2 s3 hic hr' (fun e2 he2 => by
            subst hplk
            exact hG2 e2 he2)) d hd
      have hcl := fun (e : Nat) (K0 : bw_J) (g : Nat) (L : bw_L) (he : 2 ≤ e) => se_answerRead (n0 := n0) (W := am_u1 W 128 []) (J := jn J K0) (g := g) (L := L) he hi (rq := 10) (pl := pl) (lm := sl) (by decide) hpl2 s11 s13 s14 (u1_at _ _ _)
      rw [h89] at hcl
      by_cases hx : (W (89 + 3 * i)).length < pl
      · simp only [if_pos hx] at hcl
        refine srv_r (W1 := W) (J1 := J) (K1 := K) (c := 7) (hn := i + 1) hI hne hop (by decide) (by decide) (shp_10 hop hp) (by decide) (by decide) hh hn2 [] (fun e K0 g L he => ?_) (fun K2 W0 J0 g L hG d hd => ?_) hS0 h2 (fS_rf _ _ _) rfl rfl
        · refine se_to_10 (n0 := n0) (W := am_u1 W 128 []) (J := jn J K0) he hop (fun e2 he2 => se_acc_rd_10 (n0 := n0) (W := am_u1 W 128 []) (J := jn J K0) (g := g) (L := L) (by omega) hop s1 s3 hi hh hic (by rw [hj]; exact hr) (fun e3 he3 => ?_))
          rw [show (am_u1 W 128 [] 57).getD 2 0 = Int32.ofNat pl from hpl]
          exact hcl e3 K0 g L he3
        · exact hMt K2 W0 J0 g L (fun e he => mo_show0 (n0 := n0) (J := jn J0 K) he (by decide) hi hpl2 v1 v2 hx hG) d hd
      · simp only [if_neg hx, u1_u1] at hcl
        have hls : lst (K 155) (16 * i + pl) (min ((W (89 + 3 * i)).length - pl) (sl - 1)) = ((W (89 + 3 * i)).drop pl).take (sl - 1) := by
          rw [eqL_lst v4 _ _ (by omega)]
          by_cases hq : sl - 1 ≤ (W (89 + 3 * i)).length - pl
          · rw [show min ((W (89 + 3 * i)).length - pl) (sl - 1) = sl - 1 by omega]
          · rw [show min ((W (89 + 3 * i)).length - pl) (sl - 1) = (W (89 + 3 * i)).length - pl by omega, List.take_of_length_le (by rw [List.length_drop]; omega), List.take_of_length_le (by rw [List.length_drop]; omega)]
        refine srv_a (W1 := W) (J1 := J) (K1 := K) (l := Int32.ofNat (10 + 1) :: ((W (89 + 3 * i)).drop pl).take (sl - 1)) hI hne hop (by decide) (by decide) (shp_10 hop hp) (fun e K0 g L he => ?_) (fun K2 W0 J0 g L hG d hd => ?_) (by rw [List.length_cons, List.length_take]; omega) (byl_cons rfl (byl_take _ (byl_drop _ v3))) hS0 h2 (fS_rf _ _ _)
        · refine se_to_10 (n0 := n0) (W := am_u1 W 128 []) (J := jn J K0) he hop (fun e2 he2 => se_acc_rd_10 (n0 := n0) (W := am_u1 W 128 []) (J := jn J K0) (g := g) (L := L) (by omega) hop s1 s3 hi hh hic (by rw [hj]; exact hr) (fun e3 he3 => ?_))
          rw [show (am_u1 W 128 [] 57).getD 2 0 = Int32.ofNat pl from hpl]
          exact hcl e3 K0 g L he3
        · refine hMt K2 W0 J0 g L (fun e he => mo_show1 (n0 := n0) (J := jn J0 K) he (by decide) hi hpl2 v1 v2 (by omega) (lm := sl) s12 s13 s14 (fun k hk => ?_) (fun e2 he2 => ?_)) d hd
          · rw [jn_ge (c := 155) (by decide), v4 k hk]; exact v3 k
          · rw [jn_ge (c := 155) (by decide), hls, jn_mk]
            exact hG e2 he2
theorem srv_12 (h : srvIn W J K fr w ct cn pn sl) (hne : 0 < (W 57).length) (hop : (W 57).getD 0 0 = Int32.ofNat 12) (hp : (W 57).length = 3) : srvEnd n0 W J K := by
  have h150 := in150 h hne
  rw [hop] at h150
  obtain ⟨hn, hn2, hh⟩ := byl_n h.2.2.2.1 1
  have hk1 := in150 h (show 1 < (W 57).length by omega)
  rw [hh] at hk1
  have hI := h
  obtain ⟨h1, h2, h3, h4, h5, h6⟩ := h
  have hS0 := h1
  obtain ⟨s1, s2, s3, s4, s5, s6, s7, s8, s9, s10, s11, s12, s13, s14, s15, s16⟩ := h1
  have hM0 : ∀ (K2 : bw_J) (W0 : bw_W) (J0 : bw_J) (g : Nat) (L : bw_L), (∀ e, 4 ≤ e → bm e (S0 n0) R0 167 [.ref 130, .int (Int32.ofNat 12), .int (Int32.ofNat hn)] W0 (jn J0 K) g L (bR none W0 (jn J0 K2) g L)) → ∀ d, 5 ≤ d → bm d (S0 n0) R0 160 [.ref 130] W0 (jn J0 K) g L (bR none W0 (jn J0 K2) g L) := fun K2 W0 J0 g L hT d hd => by
    refine mo_sh_12 hd h5 h3 hne h150 (fun e he => szd_12 hI h150 hp W0 J0 g L e he) (fun e he => ?_)
    rw [jn_ge (c := 150) (by decide), hk1]
    exact hT e he
  by_cases hno : hn = 0 ∨ cn < hn
  · refine srv_r (W1 := W) (J1 := J) (K1 := K) (c := 1) (hn := hn) hI hne hop (by decide) (by decide) (shp_12 hop hp) (by decide) (by decide) hh hn2 [] (fun e K0 g L he => ?_) (fun K2 W0 J0 g L hG d hd => ?_) hS0 h2 (fS_rf _ _ _) rfl rfl
    · exact se_to_12 (n0 := n0) (W := am_u1 W 128 []) (J := jn J K0) he hop (fun e2 he2 => se_acc_no (op := 12) (by omega) hop s1 s3 hh hn2 hno)
    · exact hM0 K2 W0 J0 g L (fun e he => mo_touch0 (n0 := n0) (J := jn J0 K) he (ct := cn) s2 s3 hn2 hno hG) d hd
  · obtain ⟨i, rfl⟩ : ∃ i, hn = i + 1 := ⟨hn - 1, by omega⟩
    have hi : i < 10 := by omega
    have hic : i < cn := by omega
    have hj : ∀ K0 : bw_J, (jn J K0) (88 + 3 * i) = J (88 + 3 * i) := fun K0 => jn_lt (by omega)
    have hK3 := (s4 i hi).2
    by_cases hr : J (88 + 3 * i) 2 &&& Int32.ofNat 1 = 0
    · refine srv_r (W1 := W) (J1 := J) (K1 := K) (c := 2) (hn := i + 1) hI hne hop (by decide) (by decide) (shp_12 hop hp) (by decide) (by decide) hh hn2 [] (fun e K0 g L he => ?_) (fun K2 W0 J0 g L hG d hd => ?_) hS0 h2 (fS_rf _ _ _) rfl rfl
      · exact se_to_12 (n0 := n0) (W := am_u1 W 128 []) (J := jn J K0) he hop (fun e2 he2 => se_acc_rd0_12 (n0 := n0) (W := am_u1 W 128 []) (J := jn J K0) (g := g) (L := L) (by omega) hop s1 s3 hi hh hic (by rw [hj]; exact hr))
      · exact hM0 K2 W0 J0 g L (fun e he => mo_touch_no12 (n0 := n0) (J := jn J0 K) he (ct := cn) s2 s3 hic (by rw [jn_ge (c := 153) (by decide), ← hK3]; exact hr) hG) d hd
    · have hr' : ¬ K 153 i &&& Int32.ofNat 1 = 0 := by rw [← hK3]; exact hr
      obtain ⟨v1, v2, v3, v4⟩ := s5 i hi
      have h89 : am_u1 W 128 [] (89 + 3 * i) = W (89 + 3 * i) := u1_ne _ _ (by omega)
      have hpl : ∃ pl, pl < 256 ∧ (W 57).getD 2 0 = Int32.ofNat pl ∧ K 150 2 = Int32.ofNat pl := by
        obtain ⟨pl, q1, q2⟩ := byl_n h4 2
        exact ⟨pl, q1, q2, by rw [in150 hI (show 2 < (W 57).length by omega)]; exact q2⟩
      obtain ⟨pl, hpl2, hpl, hplk⟩ := hpl
      have hMt : ∀ (K2 : bw_J) (W0 : bw_W) (J0 : bw_J) (g : Nat) (L : bw_L), (∀ e, 3 ≤ e → bm e (S0 n0) R0 168 [.ref 130, .int (Int32.ofNat 12), .int (Int32.ofNat i), .int (Int32.ofNat pl)] W0 (jn J0 K) g L (bR none W0 (jn J0 K2) g L)) → ∀ d, 5 ≤ d → bm d (S0 n0) R0 160 [.ref 130] W0 (jn J0 K) g L (bR none W0 (jn J0 K2) g L) := fun K2 W0 J0 g L hG2 d hd =>
        hM0 K2 W0 J0 g L (fun e he => mo_touch_ok12 (n0 := n0) (J := jn J0 K) he (ct := cn) s2 s3 hic hr' (fun e2 he2 => by
            rw [jn_ge (c := 150) (by decide), hplk]
            exact hG2 e2 he2)) d hd
      have hcl := fun (e : Nat) (K0 : bw_J) (g : Nat) (L : bw_L) (he : 2 ≤ e) => se_answerRead (n0 := n0) (W := am_u1 W 128 []) (J := jn J K0) (g := g) (L := L) he hi (rq := 12) (pl := pl) (lm := sl) (by decide) hpl2 s11 s13 s14 (u1_at _ _ _)
      rw [h89] at hcl
      by_cases hx : (W (89 + 3 * i)).length < pl
      · simp only [if_pos hx] at hcl
        refine srv_r (W1 := W) (J1 := J) (K1 := K) (c := 7) (hn := i + 1) hI hne hop (by decide) (by decide) (shp_12 hop hp) (by decide) (by decide) hh hn2 [] (fun e K0 g L he => ?_) (fun K2 W0 J0 g L hG d hd => ?_) hS0 h2 (fS_rf _ _ _) rfl rfl
        · refine se_to_12 (n0 := n0) (W := am_u1 W 128 []) (J := jn J K0) he hop (fun e2 he2 => se_acc_rd_12 (n0 := n0) (W := am_u1 W 128 []) (J := jn J K0) (g := g) (L := L) (by omega) hop s1 s3 hi hh hic (by rw [hj]; exact hr) (fun e3 he3 => ?_))
          rw [show (am_u1 W 128 [] 57).getD 2 0 = Int32.ofNat pl from hpl]
          exact hcl e3 K0 g L he3
        · exact hMt K2 W0 J0 g L (fun e he => mo_show0 (n0 := n0) (J := jn J0 K) he (by decide) hi hpl2 v1 v2 hx hG) d hd
      · simp only [if_neg hx, u1_u1] at hcl
        have hls : lst (K 155) (16 * i + pl) (min ((W (89 + 3 * i)).length - pl) (sl - 1)) = ((W (89 + 3 * i)).drop pl).take (sl - 1) := by
          rw [eqL_lst v4 _ _ (by omega)]
          by_cases hq : sl - 1 ≤ (W (89 + 3 * i)).length - pl
          · rw [show min ((W (89 + 3 * i)).length - pl) (sl - 1) = sl - 1 by omega]
          · rw [show min ((W (89 + 3 * i)).length - pl) (sl - 1) = (W (89 + 3 * i)).length - pl by omega, List.take_of_length_le (by rw [List.length_drop]; omega), List.take_of_length_le (by rw [List.length_drop]; omega)]
        refine srv_a (W1 := W) (J1 := J) (K1 := K) (l := Int32.ofNat (12 + 1) :: ((W (89 + 3 * i)).drop pl).take (sl - 1)) hI hne hop (by decide) (by decide) (shp_12 hop hp) (fun e K0 g L he => ?_) (fun K2 W0 J0 g L hG d hd => ?_) (by rw [List.length_cons, List.length_take]; omega) (byl_cons rfl (byl_take _ (byl_drop _ v3))) hS0 h2 (fS_rf _ _ _)
        · refine se_to_12 (n0 := n0) (W := am_u1 W 128 []) (J := jn J K0) he hop (fun e2 he2 => se_acc_rd_12 (n0 := n0) (W := am_u1 W 128 []) (J := jn J K0) (g := g) (L := L) (by omega) hop s1 s3 hi hh hic (by rw [hj]; exact hr) (fun e3 he3 => ?_))
          rw [show (am_u1 W 128 [] 57).getD 2 0 = Int32.ofNat pl from hpl]
          exact hcl e3 K0 g L he3
        · refine hMt K2 W0 J0 g L (fun e he => mo_show1 (n0 := n0) (J := jn J0 K) he (by decide) hi hpl2 v1 v2 (by omega) (lm := sl) s12 s13 s14 (fun k hk => ?_) (fun e2 he2 => ?_)) d hd
          · rw [jn_ge (c := 155) (by decide), v4 k hk]; exact v3 k
          · rw [jn_ge (c := 155) (by decide), hls, jn_mk]
            exact hG e2 he2
theorem srv_18 (h : srvIn W J K fr w ct cn pn sl) (hne : 0 < (W 57).length) (hop : (W 57).getD 0 0 = Int32.ofNat 18) (hp : 2 ≤ (W 57).length) : srvEnd n0 W J K := by
  have h150 := in150 h hne
  rw [hop] at h150
  obtain ⟨hn, hn2, hh⟩ := byl_n h.2.2.2.1 1
  have hk1 := in150 h (show 1 < (W 57).length by omega)
  rw [hh] at hk1
  have hI := h
  obtain ⟨h1, h2, h3, h4, h5, h6⟩ := h
  have hS0 := h1
  obtain ⟨s1, s2, s3, s4, s5, s6, s7, s8, s9, s10, s11, s12, s13, s14, s15, s16⟩ := h1
  have hM0 : ∀ (K2 : bw_J) (W0 : bw_W) (J0 : bw_J) (g : Nat) (L : bw_L), (∀ e, 4 ≤ e → bm e (S0 n0) R0 167 [.ref 130, .int (Int32.ofNat 18), .int (Int32.ofNat hn)] W0 (jn J0 K) g L (bR none W0 (jn J0 K2) g L)) → ∀ d, 5 ≤ d → bm d (S0 n0) R0 160 [.ref 130] W0 (jn J0 K) g L (bR none W0 (jn J0 K2) g L) := fun K2 W0 J0 g L hT d hd => by
    refine mo_sh_18 hd h5 h3 hne h150 (fun e he => szd_18 hI h150 hp W0 J0 g L e he) (fun e he => ?_)
    rw [jn_ge (c := 150) (by decide), hk1]
    exact hT e he
  by_cases hno : hn = 0 ∨ cn < hn
  · refine srv_r (W1 := W) (J1 := J) (K1 := K) (c := 1) (hn := hn) hI hne hop (by decide) (by decide) (shp_18 hop hp) (by decide) (by decide) hh hn2 [] (fun e K0 g L he => ?_) (fun K2 W0 J0 g L hG d hd => ?_) hS0 h2 (fS_rf _ _ _) rfl rfl
    · exact se_to_18 (n0 := n0) (W := am_u1 W 128 []) (J := jn J K0) he hop (fun e2 he2 => se_acc_no (op := 18) (by omega) hop s1 s3 hh hn2 hno)
    · exact hM0 K2 W0 J0 g L (fun e he => mo_touch0 (n0 := n0) (J := jn J0 K) he (ct := cn) s2 s3 hn2 hno hG) d hd
  · obtain ⟨i, rfl⟩ : ∃ i, hn = i + 1 := ⟨hn - 1, by omega⟩
    have hi : i < 10 := by omega
    have hic : i < cn := by omega
    have hj : ∀ K0 : bw_J, (jn J K0) (88 + 3 * i) = J (88 + 3 * i) := fun K0 => jn_lt (by omega)
    have hK3 := (s4 i hi).2
    by_cases hr : J (88 + 3 * i) 2 &&& Int32.ofNat 2 = 0
    · refine srv_r (W1 := W) (J1 := J) (K1 := K) (c := 3) (hn := i + 1) hI hne hop (by decide) (by decide) (shp_18 hop hp) (by decide) (by decide) hh hn2 [] (fun e K0 g L he => ?_) (fun K2 W0 J0 g L hG d hd => ?_) hS0 h2 (fS_rf _ _ _) rfl rfl
      · exact se_to_18 (n0 := n0) (W := am_u1 W 128 []) (J := jn J K0) he hop (fun e2 he2 => se_acc_wr0_18 (n0 := n0) (W := am_u1 W 128 []) (J := jn J K0) (g := g) (L := L) (by omega) hop s1 s3 hi hh hic (by rw [hj]; exact hr))
      · exact hM0 K2 W0 J0 g L (fun e he => mo_touch_no18 (n0 := n0) (J := jn J0 K) he (ct := cn) s2 s3 hic (by rw [jn_ge (c := 153) (by decide), ← hK3]; exact hr) hG) d hd
    · have hr' : ¬ K 153 i &&& Int32.ofNat 2 = 0 := by rw [← hK3]; exact hr
      obtain ⟨v1, v2, v3, v4⟩ := s5 i hi
      have h89 : am_u1 W 128 [] (89 + 3 * i) = W (89 + 3 * i) := u1_ne _ _ (by omega)
      have hMt : ∀ (K2 : bw_J) (W0 : bw_W) (J0 : bw_J) (g : Nat) (L : bw_L), (∀ e, 3 ≤ e → bm e (S0 n0) R0 169 [.ref 130, .int (Int32.ofNat (i + 1))] W0 (jn J0 K) g L (bR none W0 (jn J0 K2) g L)) → ∀ d, 5 ≤ d → bm d (S0 n0) R0 160 [.ref 130] W0 (jn J0 K) g L (bR none W0 (jn J0 K2) g L) := fun K2 W0 J0 g L hG2 d hd =>
        hM0 K2 W0 J0 g L (fun e he => mo_touch_ok18 (n0 := n0) (J := jn J0 K) he (ct := cn) s2 s3 hic hr' hG2) d hd
      have hcl := fun (e : Nat) (K0 : bw_J) (g : Nat) (L : bw_L) (he : 2 ≤ e) => se_answerWrite (n0 := n0) (W := am_u1 W 128 []) (J := jn J K0) (g := g) (L := L) he hi h3 hp (u1_at _ _ _)
      rw [show am_u1 W 128 [] 57 = W 57 from rfl] at hcl
      by_cases hx : 18 < (W 57).length
      · simp only [if_pos hx] at hcl
        refine srv_r (W1 := W) (J1 := J) (K1 := K) (c := 13) (hn := i + 1) hI hne hop (by decide) (by decide) (shp_18 hop hp) (by decide) (by decide) hh hn2 [] (fun e K0 g L he => ?_) (fun K2 W0 J0 g L hG d hd => ?_) hS0 h2 (fS_rf _ _ _) rfl rfl
        · exact se_to_18 (n0 := n0) (W := am_u1 W 128 []) (J := jn J K0) he hop (fun e2 he2 => se_acc_wr (n0 := n0) (W := am_u1 W 128 []) (J := jn J K0) (g := g) (L := L) (by omega) hop s1 s3 hi hh hic (by rw [hj]; exact hr) (fun e3 he3 => hcl e3 K0 g L he3))
        · exact hMt K2 W0 J0 g L (fun e he => mo_rep0 (n0 := n0) (J := jn J0 K) he hi h5 hp h3 hx hG) d hd
      · simp only [if_neg hx] at hcl
        have hml : ((W 57).drop 2).length = (W 57).length - 2 := List.length_drop
        have hls : lst (K 150) 2 ((W 57).length - 2) = (W 57).drop 2 := by
          have := eqL_lst h6 ((W 57).length - 2) 2 (by omega)
          rw [Nat.zero_add, List.take_of_length_le (by omega)] at this
          exact this
        refine srv_a (W1 := am_u1 W (89 + 3 * i) ((W 57).drop 2)) (J1 := J) (K1 := am_u1 (am_u2 K 154 i (Int32.ofNat ((W 57).length - 2))) 155 (ovw (16 * i) ((W 57).drop 2) (K 155))) (l := [Int32.ofNat 19]) (cn1 := cn) (pn1 := pn) (sl1 := sl) hI hne hop (by decide) (by decide) (shp_18 hop hp) (fun e K0 g L he => ?_) (fun K2 W0 J0 g L hG d hd => ?_) (by show 1 ≤ 20; decide) (byl_cons rfl byl_nil) ⟨s1, s2, s3, s4, fun j hj0 => ?_, fun j hj0 hjc => ?_, s7, s8, s9, fun k hk => ?_, s11, s12, s13, s14, s15, s16⟩ (rOut_fc h2 rfl (fun q hq => by rw [u1_ne _ _ (by omega)]) (fun c c1 c2 => by rw [u1_ne _ _ (by omega), u2_a _ _ (by omega)])) ⟨fun c c1 c2 c3 => u1_ne _ _ (by omega), fun _ _ _ _ => rfl, kEq_of fun c c1 c2 => by rw [u1_ne _ _ (by omega), u2_a _ _ (by omega)], fun c c1 c2 c3 c4 c5 c6 => by rw [u1_ne _ _ (by omega), u2_a _ _ (by omega)], fun f _ _ _ _ => by rw [u1_ne _ _ (by decide), u2_a _ _ (by decide)]⟩
        · refine se_to_18 (n0 := n0) (W := am_u1 W 128 []) (J := jn J K0) he hop (fun e2 he2 => se_acc_wr (n0 := n0) (W := am_u1 W 128 []) (J := jn J K0) (g := g) (L := L) (by omega) hop s1 s3 hi hh hic (by rw [hj]; exact hr) (fun e3 he3 => ?_))
          have := hcl e3 K0 g L he3
          rw [u1_sh _ _ _ _ (by omega)] at this
          exact this
        · refine hMt K2 W0 J0 g L (fun e he => mo_rep1 (n0 := n0) (J := jn J0 K) he hi h5 hp h3 (by omega) (fun e2 he2 => ?_)) d hd
          rw [jn_ge (c := 155) (by decide), jn_ge (c := 150) (by decide), hls, jn_u2r (by decide), jn_u1r (by decide), jn_mk]
          exact hG e2 he2
        · unfold rVal
          by_cases hji : j = i
          · subst hji
            rw [u1_at, u1_at, u1_ne _ _ (by decide), u2_at, hml]
            exact ⟨rfl, by omega, byl_drop 2 h4, eqL_ovw _ _ _⟩
          · obtain ⟨g1, g2, g3, g4⟩ := s5 j hj0
            rw [u1_ne (b := 89 + 3 * j) _ _ (by omega), u1_ne (b := 154) _ _ (by decide), u1_at, u2_k _ _ hji]
            exact ⟨g1, g2, g3, eqL_ou g4 (by rw [hml]; omega)⟩
        · rw [u1_ne _ _ (by omega)]; exact s6 j hj0 hjc
        · exact rPrt_fr (s10 k hk) (by omega) (by rw [u1_ne _ _ (by omega)]) (fun c c1 c2 => by rw [u1_ne _ _ (by omega), u2_a _ _ (by omega)])
theorem srv_22 (h : srvIn W J K fr w ct cn pn sl) (hne : 0 < (W 57).length) (hop : (W 57).getD 0 0 = Int32.ofNat 22) (hp : 3 ≤ (W 57).length) : srvEnd n0 W J K := by
  have h150 := in150 h hne
  rw [hop] at h150
  obtain ⟨hn, hn2, hh⟩ := byl_n h.2.2.2.1 1
  have hk1 := in150 h (show 1 < (W 57).length by omega)
  rw [hh] at hk1
  have hI := h
  obtain ⟨h1, h2, h3, h4, h5, h6⟩ := h
  have hS0 := h1
  obtain ⟨s1, s2, s3, s4, s5, s6, s7, s8, s9, s10, s11, s12, s13, s14, s15, s16⟩ := h1
  have hM0 : ∀ (K2 : bw_J) (W0 : bw_W) (J0 : bw_J) (g : Nat) (L : bw_L), (∀ e, 4 ≤ e → bm e (S0 n0) R0 167 [.ref 130, .int (Int32.ofNat 22), .int (Int32.ofNat hn)] W0 (jn J0 K) g L (bR none W0 (jn J0 K2) g L)) → ∀ d, 5 ≤ d → bm d (S0 n0) R0 160 [.ref 130] W0 (jn J0 K) g L (bR none W0 (jn J0 K2) g L) := fun K2 W0 J0 g L hT d hd => by
    refine mo_sh_22 hd h5 h3 hne h150 (fun e he => szd_22 hI h150 hp W0 J0 g L e he) (fun e he => ?_)
    rw [jn_ge (c := 150) (by decide), hk1]
    exact hT e he
  by_cases hno : hn = 0 ∨ cn < hn
  · refine srv_r (W1 := W) (J1 := J) (K1 := K) (c := 1) (hn := hn) hI hne hop (by decide) (by decide) (shp_22 hop hp) (by decide) (by decide) hh hn2 [] (fun e K0 g L he => ?_) (fun K2 W0 J0 g L hG d hd => ?_) hS0 h2 (fS_rf _ _ _) rfl rfl
    · exact se_to_22 (n0 := n0) (W := am_u1 W 128 []) (J := jn J K0) he hop (fun e2 he2 => se_acc_no (op := 22) (by omega) hop s1 s3 hh hn2 hno)
    · exact hM0 K2 W0 J0 g L (fun e he => mo_touch0 (n0 := n0) (J := jn J0 K) he (ct := cn) s2 s3 hn2 hno hG) d hd
  · obtain ⟨i, rfl⟩ : ∃ i, hn = i + 1 := ⟨hn - 1, by omega⟩
    have hi : i < 10 := by omega
    have hic : i < cn := by omega
    have hj : ∀ K0 : bw_J, (jn J K0) (88 + 3 * i) = J (88 + 3 * i) := fun K0 => jn_lt (by omega)
    have hK3 := (s4 i hi).2
    by_cases hr : J (88 + 3 * i) 2 &&& Int32.ofNat 2 = 0
    · refine srv_r (W1 := W) (J1 := J) (K1 := K) (c := 3) (hn := i + 1) hI hne hop (by decide) (by decide) (shp_22 hop hp) (by decide) (by decide) hh hn2 [] (fun e K0 g L he => ?_) (fun K2 W0 J0 g L hG d hd => ?_) hS0 h2 (fS_rf _ _ _) rfl rfl
      · exact se_to_22 (n0 := n0) (W := am_u1 W 128 []) (J := jn J K0) he hop (fun e2 he2 => se_acc_wr0_22 (n0 := n0) (W := am_u1 W 128 []) (J := jn J K0) (g := g) (L := L) (by omega) hop s1 s3 hi hh hic (by rw [hj]; exact hr))
      · exact hM0 K2 W0 J0 g L (fun e he => mo_touch_no22 (n0 := n0) (J := jn J0 K) he (ct := cn) s2 s3 hic (by rw [jn_ge (c := 153) (by decide), ← hK3]; exact hr) hG) d hd
    · have hr' : ¬ K 153 i &&& Int32.ofNat 2 = 0 := by rw [← hK3]; exact hr
      obtain ⟨v1, v2, v3, v4⟩ := s5 i hi
      have h89 : am_u1 W 128 [] (89 + 3 * i) = W (89 + 3 * i) := u1_ne _ _ (by omega)
      have hMt : ∀ (K2 : bw_J) (W0 : bw_W) (J0 : bw_J) (g : Nat) (L : bw_L), (∀ e, 3 ≤ e → bm e (S0 n0) R0 170 [.ref 130, .int (Int32.ofNat (i + 1))] W0 (jn J0 K) g L (bR none W0 (jn J0 K2) g L)) → ∀ d, 5 ≤ d → bm d (S0 n0) R0 160 [.ref 130] W0 (jn J0 K) g L (bR none W0 (jn J0 K2) g L) := fun K2 W0 J0 g L hG2 d hd =>
        hM0 K2 W0 J0 g L (fun e he => mo_touch_ok22 (n0 := n0) (J := jn J0 K) he (ct := cn) s2 s3 hic hr' hG2) d hd
      have hcl := fun (e : Nat) (K0 : bw_J) (g : Nat) (L : bw_L) (he : 2 ≤ e) => se_answerPart (n0 := n0) (W := am_u1 W 128 []) (J := jn J K0) (g := g) (L := L) he s7 s9 h3 hne (u1_at _ _ _)
      rw [show am_u1 W 128 [] 57 = W 57 from rfl] at hcl
      by_cases hx : pn < 4
      · simp only [if_pos hx] at hcl
        have hml : ((W 57).drop 1).length = (W 57).length - 1 := List.length_drop
        obtain ⟨p2, hp2, hpe⟩ := byl_n h4 2
        have hk2 := in150 hI (show 2 < (W 57).length by omega)
        rw [hpe] at hk2
        have hls : lst (K 150) 3 ((W 57).length - 3) = (W 57).drop 3 := by
          have := eqL_lst h6 ((W 57).length - 3) 3 (by omega)
          rw [Nat.zero_add, List.take_of_length_le (by rw [List.length_drop]; omega)] at this
          exact this
        have hm1 : (W 57).drop 1 = Int32.ofNat (i + 1) :: Int32.ofNat p2 :: (W 57).drop 3 := by
          have q1 := l_dt (l := W 57) (i := 1) (m := (W 57).length) (by omega)
          have q2 := l_dt (l := W 57) (i := 2) (m := (W 57).length) (by omega)
          rw [List.take_of_length_le (by rw [List.length_drop]; omega)] at q1 q2
          rw [q1, hh, List.take_of_length_le (by rw [List.length_drop]; omega), q2, hpe, List.take_of_length_le (by rw [List.length_drop]; omega)]
        have hg0 : ((W 57).drop 1).getD 0 0 = Int32.ofNat (i + 1) := by rw [l_dr]; exact hh
        have hg1 : ((W 57).drop 1).getD 1 0 = Int32.ofNat p2 := by rw [l_dr]; exact hpe
        have hps : ps (am_u1 W (119 + 2 * pn) ((W 57).drop 1)) pn = i ∧ pp (am_u1 W (119 + 2 * pn) ((W 57).drop 1)) pn = p2 := by
          unfold ps pp
          rw [u1_at, hg0, hg1, i_tn (by omega), i_tn (by omega)]
          exact ⟨by omega, rfl⟩
        refine srv_a (W1 := am_u1 W (119 + 2 * pn) ((W 57).drop 1)) (J1 := am_u2 J 86 3 (Int32.ofNat (pn + 1))) (K1 := am_u2 (am_u1 (am_u2 (am_u2 (am_u2 K 157 pn (Int32.ofNat (i + 1))) 158 pn (Int32.ofNat p2)) 159 pn (Int32.ofNat ((W 57).length - 3))) 160 (ovw (20 * pn) ((W 57).drop 3) (K 160))) 130 39 (Int32.ofNat (pn + 1))) (l := Int32.ofNat 23 :: (W 57).drop 1) (cn1 := cn) (pn1 := pn + 1) (sl1 := sl) hI hne hop (by decide) (by decide) (shp_22 hop hp) (fun e K0 g L he => ?_) (fun K2 W0 J0 g L hG d hd => ?_) (by rw [List.length_cons, hml]; omega) (byl_cons rfl (byl_drop 1 h4)) ⟨?_, ?_, s3, fun j hj0 => ?_, fun j hj0 => ?_, fun j hj0 hjc => ?_, ?_, ?_, by omega, fun k hk => ?_, ?_, ?_, s13, s14, ?_, ?_⟩ (rOut_fc h2 (u2_a _ _ (by decide)) (fun q hq => by rw [u1_ne _ _ (by omega)]) (fun c c1 c2 => by rw [u2_a _ _ (by omega), u1_ne _ _ (by omega), u2_a _ _ (by omega), u2_a _ _ (by omega), u2_a _ _ (by omega)])) ⟨fun c c1 c2 c3 => u1_ne _ _ (by omega), fun c _ c2 _ => u2_a _ _ c2, kEq_of fun c c1 c2 => by rw [u2_a _ _ (by omega), u1_ne _ _ (by omega), u2_a _ _ (by omega), u2_a _ _ (by omega), u2_a _ _ (by omega)], fun c c1 c2 c3 c4 c5 c6 => by rw [u2_a _ _ c1, u1_ne _ _ (by omega), u2_a _ _ (by omega), u2_a _ _ (by omega), u2_a _ _ (by omega)], fun f _ _ _ f4 => by rw [u2_k _ _ f4, u1_ne _ _ (by decide), u2_a _ _ (by decide), u2_a _ _ (by decide), u2_a _ _ (by decide)]⟩
        · refine se_to_22 (n0 := n0) (W := am_u1 W 128 []) (J := jn J K0) he hop (fun e2 he2 => se_acc_pt (n0 := n0) (W := am_u1 W 128 []) (J := jn J K0) (g := g) (L := L) (by omega) hop s1 s3 hi hh hic (by rw [hj]; exact hr) (fun e3 he3 => ?_))
          have := hcl e3 K0 g L he3
          rw [u1_sh _ _ _ _ (by omega), jn_u2l (by decide)] at this
          exact this
        · refine hMt K2 W0 J0 g L (fun e he => mo_keep1 (n0 := n0) (J := jn J0 K) (h := i + 1) (p := pn) he (by omega) s8 hx h5 hp h3 (fun k hk => ?_) (fun e2 he2 => ?_)) d hd
          · rw [jn_ge (c := 150) (by decide), in150 hI hk]; exact h4 k
          · rw [jn_ge (c := 160) (by decide), jn_ge (c := 150) (by decide), hls, hk2, jn_u2r (by decide), jn_u2r (by decide), jn_u2r (by decide), jn_u1r (by decide), jn_mk, jn_u2r (by decide), mkJ_u130 _ _ _ (by decide), ← hm1]
            exact hG e2 he2
        · rw [u2_k _ _ (by decide)]; exact s1
        · rw [u2_k _ _ (by decide), u1_ne _ _ (by decide), u2_a _ _ (by decide), u2_a _ _ (by decide), u2_a _ _ (by decide)]; exact s2
        · rw [u2_a _ _ (by omega)]; exact s4 j hj0
        · exact rVal_fr (s5 j hj0) (by rw [u1_ne _ _ (by omega)]) rfl rfl
        · rw [u1_ne _ _ (by omega)]; exact s6 j hj0 hjc
        · rw [u2_at]
        · rw [u2_at]
        · by_cases hkp : k = pn
          · subst hkp
            unfold rPrt p_ok mp_ok
            rw [hps.1, hps.2]
            dsimp only
            rw [u1_at, hml]
            refine ⟨⟨hg0, hi, hg1, hp2, by omega⟩, hic, byl_drop 1 h4, by omega, ⟨?_, hi, ?_, hp2, ?_, by omega⟩, ?_⟩
            · rw [u2_a _ _ (by decide), u1_ne _ _ (by decide), u2_a _ _ (by decide), u2_a _ _ (by decide), u2_at]
            · rw [u2_a _ _ (by decide), u1_ne _ _ (by decide), u2_a _ _ (by decide), u2_at]
            · rw [u2_a _ _ (by decide), u1_ne _ _ (by decide), u2_at, show (W 57).length - 1 - 2 = (W 57).length - 3 by omega]
            · rw [u2_a _ _ (by decide), u1_at, List.drop_drop]
              exact eqL_ovw _ _ _
          · have hkl : k < pn := by omega
            obtain ⟨g1, g2, g3, g4, g5, g6⟩ := s10 k hkl
            have hwk : (am_u1 W (119 + 2 * pn) ((W 57).drop 1)) (119 + 2 * k) = W (119 + 2 * k) := u1_ne _ _ (by omega)
            obtain ⟨e1, e2⟩ := ps_cg hwk
            unfold rPrt p_ok mp_ok
            unfold p_ok at g1
            unfold mp_ok at g5
            dsimp only at g5 ⊢
            rw [e1, e2, hwk]
            refine ⟨g1, g2, g3, g4, ⟨?_, g5.2.1, ?_, g5.2.2.2.1, ?_, g5.2.2.2.2.2⟩, ?_⟩
            · rw [u2_a _ _ (by decide), u1_ne _ _ (by decide), u2_a _ _ (by decide), u2_a _ _ (by decide), u2_k _ _ hkp]; exact g5.1
            · rw [u2_a _ _ (by decide), u1_ne _ _ (by decide), u2_a _ _ (by decide), u2_k _ _ hkp, u2_a _ _ (by decide)]; exact g5.2.2.1
            · rw [u2_a _ _ (by decide), u1_ne _ _ (by decide), u2_k _ _ hkp, u2_a _ _ (by decide), u2_a _ _ (by decide)]; exact g5.2.2.2.2.1
            · rw [u2_a _ _ (by decide), u1_at]
              exact eqL_ou g6 (by rw [List.length_drop, List.length_drop]; omega)
        · rw [u2_k _ _ (by decide)]; exact s11
        · rw [u2_k _ _ (by decide), u1_ne _ _ (by decide), u2_a _ _ (by decide), u2_a _ _ (by decide), u2_a _ _ (by decide)]; exact s12
        · rw [u2_k _ _ (by decide), u2_k _ _ (by decide), u1_ne _ _ (by decide), u2_a _ _ (by decide), u2_a _ _ (by decide), u2_a _ _ (by decide)]; exact s15
        · rw [u2_k _ _ (by decide)]; exact s16
      · simp only [if_neg hx] at hcl
        have hp4 : pn = 4 := by omega
        refine srv_r (W1 := W) (J1 := J) (K1 := K) (c := 9) (hn := i + 1) hI hne hop (by decide) (by decide) (shp_22 hop hp) (by decide) (by decide) hh hn2 [] (fun e K0 g L he => ?_) (fun K2 W0 J0 g L hG d hd => ?_) hS0 h2 (fS_rf _ _ _) rfl rfl
        · exact se_to_22 (n0 := n0) (W := am_u1 W 128 []) (J := jn J K0) he hop (fun e2 he2 => se_acc_pt (n0 := n0) (W := am_u1 W 128 []) (J := jn J K0) (g := g) (L := L) (by omega) hop s1 s3 hi hh hic (by rw [hj]; exact hr) (fun e3 he3 => hcl e3 K0 g L he3))
        · exact hMt K2 W0 J0 g L (fun e he => mo_keep0 (n0 := n0) (J := jn J0 K) he (by subst hp4; exact s8) hG) d hd
end SY
