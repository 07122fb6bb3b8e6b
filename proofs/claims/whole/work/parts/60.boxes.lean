/-! Part 60 (written by gen11.py): Outbox and Inbox -/
theorem u2_at {α : Type} (f : Nat → Nat → α) (a k : Nat) (x : α) : am_u2 f a k x a k = x := by
  unfold am_u2
  rw [if_pos rfl, if_pos rfl]
theorem u2_k {α : Type} (f : Nat → Nat → α) {a k j : Nat} (x : α) (h : ¬ j = k) : am_u2 f a k x a j = f a j := by
  unfold am_u2
  rw [if_pos rfl, if_neg h]
theorem u2_a {α : Type} (f : Nat → Nat → α) {a b k : Nat} (x : α) (h : ¬ b = a) : am_u2 f a k x b = f b := by
  unfold am_u2
  rw [if_neg h]
theorem u2_u2 {α : Type} (f : Nat → Nat → α) (a k : Nat) (x y : α) : am_u2 (am_u2 f a k x) a k y = am_u2 f a k y := by
  funext b j
  unfold am_u2
  by_cases h : b = a
  · rw [if_pos h, if_pos h]
    by_cases q : j = k
    · rw [if_pos q, if_pos q]
    · rw [if_neg q, if_neg q, if_pos rfl, if_neg q]
  · rw [if_neg h, if_neg h, if_neg h]
theorem ob_P_c (n0 : Nat) {i : Nat} (h : i < 8) : (S0 n0).2.1 9 i = some (10 + 2 * i) := match i, h with
  | 0, _ => rfl
  | 1, _ => rfl
  | 2, _ => rfl
  | 3, _ => rfl
  | 4, _ => rfl
  | 5, _ => rfl
  | 6, _ => rfl
  | 7, _ => rfl
  | n + 8, h => absurd h (by omega)
theorem ob_H_c (n0 : Nat) {i : Nat} (h : i < 8) : (S0 n0).1 (10 + 2 * i) = some (7, 2) := match i, h with
  | 0, _ => rfl
  | 1, _ => rfl
  | 2, _ => rfl
  | 3, _ => rfl
  | 4, _ => rfl
  | 5, _ => rfl
  | 6, _ => rfl
  | 7, _ => rfl
  | n + 8, h => absurd h (by omega)
theorem ob_R_c {i : Nat} (h : i < 8) : R0 (10 + 2 * i) = some 24 := match i, h with
  | 0, _ => R_10
  | 1, _ => R_12
  | 2, _ => R_14
  | 3, _ => R_16
  | 4, _ => R_18
  | 5, _ => R_20
  | 6, _ => R_22
  | 7, _ => R_24
  | n + 8, h => absurd h (by omega)
theorem ob_P_s (n0 : Nat) {i : Nat} (h : i < 8) : (S0 n0).2.1 39 i = some (40 + 2 * i) := match i, h with
  | 0, _ => rfl
  | 1, _ => rfl
  | 2, _ => rfl
  | 3, _ => rfl
  | 4, _ => rfl
  | 5, _ => rfl
  | 6, _ => rfl
  | 7, _ => rfl
  | n + 8, h => absurd h (by omega)
theorem ob_H_s (n0 : Nat) {i : Nat} (h : i < 8) : (S0 n0).1 (40 + 2 * i) = some (7, 2) := match i, h with
  | 0, _ => rfl
  | 1, _ => rfl
  | 2, _ => rfl
  | 3, _ => rfl
  | 4, _ => rfl
  | 5, _ => rfl
  | 6, _ => rfl
  | 7, _ => rfl
  | n + 8, h => absurd h (by omega)
theorem ob_R_s {i : Nat} (h : i < 8) : R0 (40 + 2 * i) = some 24 := match i, h with
  | 0, _ => R_40
  | 1, _ => R_42
  | 2, _ => R_44
  | 3, _ => R_46
  | 4, _ => R_48
  | 5, _ => R_50
  | 6, _ => R_52
  | 7, _ => R_54
  | n + 8, h => absurd h (by omega)
section BX
variable {n0 : Nat} {W : bw_W} {J : bw_J} {g : Nat} {L : bw_L}
theorem b255 {n : Nat} (h : n < 256) : Int32.ofNat n &&& 255 = Int32.ofNat n := by
  have : ∀ m : Fin 256, Int32.ofNat m.val &&& 255 = Int32.ofNat m.val := by decide +kernel
  exact this ⟨n, h⟩
theorem ou_waiting_c {d : Nat} (hd : 1 ≤ d)  : bm d (S0 n0) R0 41 [.ref 8] W J g L (bR (some (.int (J 8 2))) W J g L) := by
  obtain ⟨e, rfl⟩ : ∃ e, d = e + 1 := ⟨d - 1, by omega⟩
  refine bm_of (Nat.le_of_ble_eq_true rfl) (Or.inr bR_ret) ?_
  show bT e (S0 n0) R0 mt_Ou_waiting _ 0 [(0, .ref 8)] [] W J g L 0 0
  have hSR := SR0 n0
  refine b_aln (pc2 := 1) d_Ou_waiting_0 rfl rfl ?_
  refine b_gi (pc2 := 4) d_Ou_waiting_1 q_6_24 (sh_8 n0) (by decide) (by decide) (rc_8) rfl ?_
  refine b_ir d_Ou_waiting_4 rfl ?_
  exact ⟨rfl, rfl, rfl, rfl, rfl⟩
theorem ou_give_c {d : Nat} (hd : 2 ≤ d) {mr Nm o w : Nat} (hm : R0 mr = some Nm) (hml : (W mr).length ≤ 20) (hne : ∀ i, i < 8 → ¬ mr = 10 + 2 * i) (ho : J 8 1 = Int32.ofNat o) (ho8 : o < 8) (hw : J 8 2 = Int32.ofNat w) (hw8 : w ≤ 8) : bm d (S0 n0) R0 44 [.ref 8, .ref mr] W J g L (bR none (if w < 8 then am_u1 W (10 + 2 * ((o + w) % 8)) ([Int32.ofNat (W mr).length, 0, 4, 0] ++ W mr) else W) (if w < 8 then am_u2 J 8 2 (Int32.ofNat (w + 1)) else J) g L) := by
  obtain ⟨e, rfl⟩ : ∃ e, d = e + 1 := ⟨d - 1, by omega⟩
  refine bm_of (Nat.le_of_ble_eq_true rfl) (Or.inr bR_ret) ?_
  show bT e (S0 n0) R0 mt_Ou_give _ 0 [(0, .ref 8), (1, .ref mr)] [] W J g L 0 0
  have hSR := SR0 n0
  refine b_aln (pc2 := 1) d_Ou_give_0 rfl rfl ?_
  refine b_gi (pc2 := 4) d_Ou_give_1 q_6_24 (sh_8 n0) (by decide) (by decide) (rc_8) rfl ?_
  refine b_bp (pc2 := 6) (x := Int32.ofNat 8) d_Ou_give_4 rfl rfl ?_
  refine b_ifd (pc2 := 10) d_Ou_give_6 rfl rfl rfl rfl rfl (fun h6 => ?_) (fun h6 => ?_)
  · rw [hw, i_lt (by omega) (by omega)] at h6
    rw [if_pos h6, if_pos h6]
    have hi : (o + w) % 8 < 8 := Nat.mod_lt _ (by decide)
    have hne1 := hne _ hi
    refine b_aln (pc2 := 11) d_Ou_give_10 rfl rfl ?_
    refine b_gr (pc2 := 14) d_Ou_give_11 q_6_13 (sh_8 n0) (by decide) (by decide) (p_8_0 n0) rfl ?_
    refine b_aln (pc2 := 15) d_Ou_give_14 rfl rfl ?_
    refine b_gi (pc2 := 18) d_Ou_give_15 q_6_20 (sh_8 n0) (by decide) (by decide) (rc_8) rfl ?_
    refine b_aln (pc2 := 19) d_Ou_give_18 rfl rfl ?_
    refine b_gi (pc2 := 22) d_Ou_give_19 q_6_24 (sh_8 n0) (by decide) (by decide) (rc_8) rfl ?_
    refine b_pure (pc2 := 23) d_Ou_give_22 rfl rfl rfl ?_
    rw [ho, hw, i_add]
    refine b_bp (pc2 := 25) (x := Int32.ofNat 8) d_Ou_give_23 rfl rfl ?_
    refine b_rem (pc2 := 26) d_Ou_give_25 (by decide) rfl ?_
    rw [i_rem (by omega) (by decide) (by decide)]
    refine b_aa (pc2 := 27) (q := (o + w) % 8) d_Ou_give_26 (sh_9 n0) (Or.inl rfl) (i_in hi (by decide)) (i_tn (by omega)) (ob_P_c n0 hi) rfl ?_
    refine b_asn (pc2 := 28) (al2 := [(2, _), (0, _), (1, _)]) d_Ou_give_27 (by decide) rfl rfl ?_
    refine b_aln (pc2 := 29) d_Ou_give_28 rfl rfl ?_
    refine b_cv0 (pc2 := 32) (c2 := 0) (u2 := 0) (rw_clear (by omega) hSR (ob_R_c hi)) d_Ou_give_29 q_6_30 (Nat.le_of_ble_eq_true rfl) rfl rfl (ob_H_c n0 hi) (Nat.le_of_ble_eq_true rfl) rfl rfl (by decide) (by decide) rfl ?_
    refine b_aln (pc2 := 33) d_Ou_give_32 rfl rfl ?_
    refine b_aln (pc2 := 34) d_Ou_give_33 rfl rfl ?_
    refine b_cv1 (pc2 := 37) (c2 := 0) (u2 := 0) (rw_length (by omega) hSR hm) d_Ou_give_34 q_6_33 (Nat.le_of_ble_eq_true rfl) rfl rfl ((hSR mr Nm hm).1) (Nat.le_of_ble_eq_true rfl) rfl rfl (by decide) (by decide) rfl ?_
    rw [u1_ne _ _ hne1]
    refine b_cv0 (pc2 := 40) (c2 := 0) (u2 := 0) (rw_add (by omega) hSR (ob_R_c hi) (by simp only [u1_at, List.length_append, List.length_cons, List.length_nil]; omega)) d_Ou_give_37 q_6_37 (Nat.le_of_ble_eq_true rfl) rfl rfl (ob_H_c n0 hi) (Nat.le_of_ble_eq_true rfl) rfl rfl (by decide) (by decide) rfl ?_
    rw [u1_u1, u1_at]
    refine b_aln (pc2 := 41) d_Ou_give_40 rfl rfl ?_
    refine b_ic (pc2 := 42) (x := Int32.ofNat 0) d_Ou_give_41 rfl rfl ?_
    refine b_cv0 (pc2 := 45) (c2 := 0) (u2 := 0) (rw_add (by omega) hSR (ob_R_c hi) (by simp only [u1_at, List.length_append, List.length_cons, List.length_nil]; omega)) d_Ou_give_42 q_6_37 (Nat.le_of_ble_eq_true rfl) rfl rfl (ob_H_c n0 hi) (Nat.le_of_ble_eq_true rfl) rfl rfl (by decide) (by decide) rfl ?_
    rw [u1_u1, u1_at]
    refine b_aln (pc2 := 46) d_Ou_give_45 rfl rfl ?_
    refine b_ic (pc2 := 47) (x := Int32.ofNat 4) d_Ou_give_46 rfl rfl ?_
    refine b_cv0 (pc2 := 50) (c2 := 0) (u2 := 0) (rw_add (by omega) hSR (ob_R_c hi) (by simp only [u1_at, List.length_append, List.length_cons, List.length_nil]; omega)) d_Ou_give_47 q_6_37 (Nat.le_of_ble_eq_true rfl) rfl rfl (ob_H_c n0 hi) (Nat.le_of_ble_eq_true rfl) rfl rfl (by decide) (by decide) rfl ?_
    rw [u1_u1, u1_at]
    refine b_aln (pc2 := 51) d_Ou_give_50 rfl rfl ?_
    refine b_ic (pc2 := 52) (x := Int32.ofNat 0) d_Ou_give_51 rfl rfl ?_
    refine b_cv0 (pc2 := 55) (c2 := 0) (u2 := 0) (rw_add (by omega) hSR (ob_R_c hi) (by simp only [u1_at, List.length_append, List.length_cons, List.length_nil]; omega)) d_Ou_give_52 q_6_37 (Nat.le_of_ble_eq_true rfl) rfl rfl (ob_H_c n0 hi) (Nat.le_of_ble_eq_true rfl) rfl rfl (by decide) (by decide) rfl ?_
    rw [u1_u1, u1_at]
    refine b_aln (pc2 := 56) d_Ou_give_55 rfl rfl ?_
    refine b_aln (pc2 := 57) d_Ou_give_56 rfl rfl ?_
    refine b_ic (pc2 := 58) (x := Int32.ofNat 0) d_Ou_give_57 rfl rfl ?_
    refine b_bp (pc2 := 60) (x := Int32.ofNat 20) d_Ou_give_58 rfl rfl ?_
    refine b_cv0 (pc2 := 63) (c2 := 0) (u2 := 0) (rw_addFrom (f := 0) (mo := 20) (by omega) hSR (ob_R_c hi) hm hne1 (by decide) (by decide)) d_Ou_give_60 q_6_40 (Nat.le_of_ble_eq_true rfl) rfl rfl (ob_H_c n0 hi) (Nat.le_of_ble_eq_true rfl) rfl rfl (by decide) (by decide) rfl ?_
    rw [u1_u1, u1_at, u1_ne _ _ hne1, b255 (by omega)]
    refine b_aln (pc2 := 64) d_Ou_give_63 rfl rfl ?_
    refine b_pure (pc2 := 65) d_Ou_give_64 rfl rfl rfl ?_
    refine b_gi (pc2 := 68) d_Ou_give_65 q_6_24 (sh_8 n0) (by decide) (by decide) (rc_8) rfl ?_
    refine b_ic (pc2 := 69) (x := Int32.ofNat 1) d_Ou_give_68 rfl rfl ?_
    refine b_pure (pc2 := 70) d_Ou_give_69 rfl rfl rfl ?_
    rw [hw, i_add]
    refine b_pi (pc2 := 73) d_Ou_give_70 q_6_24 (sh_8 n0) (by decide) (Or.inl (by decide)) (Or.inl rfl) (rc_8) rfl ?_
    refine b_vr d_Ou_give_73 rfl ?_
    refine ⟨rfl, ?_, rfl, rfl, rfl⟩
    congr 1
    rw [List.drop_zero, List.take_of_length_le hml, List.take_of_length_le (by simp only [List.length_append, List.length_cons, List.length_nil]; omega)]
    rfl
  · refine b_vr d_Ou_give_9 rfl ?_
    rw [hw, i_lt (by omega) (by omega)] at h6
    exact ⟨rfl, by rw [if_neg h6], by rw [if_neg h6], rfl, rfl⟩
theorem ou_take0_c {d : Nat} (hd : 2 ≤ d) (hw : J 8 2 = Int32.ofNat 0) : bm d (S0 n0) R0 65 [.ref 8, .ref 35] W J g L (bR (some (.int 1)) (am_u1 W 35 []) J g L) := by
  obtain ⟨e, rfl⟩ : ∃ e, d = e + 1 := ⟨d - 1, by omega⟩
  refine bm_of (Nat.le_of_ble_eq_true rfl) (Or.inr bR_ret) ?_
  show bT e (S0 n0) R0 mt_Ou_takePiece _ 0 [(0, .ref 8), (1, .ref 35)] [] W J g L 0 0
  have hSR := SR0 n0
  refine b_aln (pc2 := 1) d_Ou_takePiece_0 rfl rfl ?_
  refine b_cv0 (pc2 := 4) (c2 := 0) (u2 := 0) (rw_clear (by omega) hSR R_35) d_Ou_takePiece_1 q_6_30 (Nat.le_of_ble_eq_true rfl) rfl rfl (sh_35 n0) (Nat.le_of_ble_eq_true rfl) rfl rfl (by decide) (by decide) rfl ?_
  refine b_aln (pc2 := 5) d_Ou_takePiece_4 rfl rfl ?_
  refine b_gi (pc2 := 8) d_Ou_takePiece_5 q_6_24 (sh_8 n0) (by decide) (by decide) (rc_8) rfl ?_
  refine b_ifd (pc2 := 13) d_Ou_takePiece_8 rfl rfl rfl rfl rfl (fun h8 => ?_) (fun h8 => ?_)
  · exact absurd h8 (fun z => z hw)
  refine b_ic (pc2 := 12) (x := Int32.ofNat 1) d_Ou_takePiece_11 rfl rfl ?_
  refine b_ir d_Ou_takePiece_12 rfl ?_
  exact ⟨rfl, rfl, rfl, rfl, rfl⟩
theorem ou_take1_c {e : Nat} (he : 1 ≤ e) {o w t : Nat} (ho : J 8 1 = Int32.ofNat o) (ho8 : o < 8) (hw : J 8 2 = Int32.ofNat w) (hw1 : 0 < w) (hw8 : w ≤ 8) (ht : J 8 3 = Int32.ofNat t) (ht24 : t ≤ 24) (hl : (W (10 + 2 * o)).length ≤ 24) {kd : Int32} {l : List Int32} (hlp : l = ((W (10 + 2 * o)).drop t).take 7) : bT e (S0 n0) R0 mt_Ou_takePiece (bR (some (.int kd)) (am_u1 W 35 l) (if (W (10 + 2 * o)).length ≤ t + (((W (10 + 2 * o)).drop t).take 7).length then am_u2 (am_u2 (am_u2 (am_u2 J 8 3 (Int32.ofNat (t + (((W (10 + 2 * o)).drop t).take 7).length))) 8 1 (Int32.ofNat ((o + 1) % 8))) 8 2 (Int32.ofNat (w - 1))) 8 3 (Int32.ofNat 0) else am_u2 J 8 3 (Int32.ofNat (t + (((W (10 + 2 * o)).drop t).take 7).length))) g L) 36 [(3, .int kd), (2, .ref (10 + 2 * o)), (0, .ref 8), (1, .ref 35)] [] (am_u1 W 35 []) J g L 0 0 := by
  have hSR := SR0 n0
  have hne : ¬ 10 + 2 * o = 35 := by omega
  have hl7 : l.length ≤ 7 := by rw [hlp, List.length_take]; omega
  rw [← hlp]
  refine b_aln (pc2 := 37) d_Ou_takePiece_36 rfl rfl ?_
  refine b_aln (pc2 := 38) d_Ou_takePiece_37 rfl rfl ?_
  refine b_aln (pc2 := 39) d_Ou_takePiece_38 rfl rfl ?_
  refine b_gi (pc2 := 42) d_Ou_takePiece_39 q_6_27 (sh_8 n0) (by decide) (by decide) (rc_8) rfl ?_
  rw [ht]
  refine b_bp (pc2 := 44) (x := Int32.ofNat 7) d_Ou_takePiece_42 rfl rfl ?_
  refine b_cv0 (pc2 := 47) (c2 := 0) (u2 := 0) (rw_addFrom (mo := 7) (by omega) hSR R_35 (ob_R_c ho8) hne (by omega) (by decide)) d_Ou_takePiece_44 q_6_40 (Nat.le_of_ble_eq_true rfl) rfl rfl (sh_35 n0) (Nat.le_of_ble_eq_true rfl) rfl rfl (by decide) (by decide) rfl ?_
  rw [u1_u1, u1_at, u1_ne _ _ hne, List.nil_append, ← hlp, List.take_of_length_le (show l.length ≤ 7 - ([] : List Int32).length from hl7)]
  refine b_aln (pc2 := 48) d_Ou_takePiece_47 rfl rfl ?_
  refine b_pure (pc2 := 49) d_Ou_takePiece_48 rfl rfl rfl ?_
  refine b_gi (pc2 := 52) d_Ou_takePiece_49 q_6_27 (sh_8 n0) (by decide) (by decide) (rc_8) rfl ?_
  refine b_aln (pc2 := 53) d_Ou_takePiece_52 rfl rfl ?_
  refine b_cv1 (pc2 := 56) (c2 := 0) (u2 := 0) (rw_length (by omega) hSR R_35) d_Ou_takePiece_53 q_6_33 (Nat.le_of_ble_eq_true rfl) rfl rfl (sh_35 n0) (Nat.le_of_ble_eq_true rfl) rfl rfl (by decide) (by decide) rfl ?_
  rw [u1_at]
  refine b_pure (pc2 := 57) d_Ou_takePiece_56 rfl rfl rfl ?_
  rw [ht, i_add]
  refine b_pi (pc2 := 60) d_Ou_takePiece_57 q_6_27 (sh_8 n0) (by decide) (Or.inl (by decide)) (Or.inl rfl) (rc_8) rfl ?_
  refine b_aln (pc2 := 61) d_Ou_takePiece_60 rfl rfl ?_
  refine b_gi (pc2 := 64) d_Ou_takePiece_61 q_6_27 (sh_8 n0) (by decide) (by decide) (rc_8) rfl ?_
  rw [u2_at]
  refine b_aln (pc2 := 65) d_Ou_takePiece_64 rfl rfl ?_
  refine b_cv1 (pc2 := 68) (c2 := 0) (u2 := 0) (rw_length (by omega) hSR (ob_R_c ho8)) d_Ou_takePiece_65 q_6_33 (Nat.le_of_ble_eq_true rfl) rfl rfl (ob_H_c n0 ho8) (Nat.le_of_ble_eq_true rfl) rfl rfl (by decide) (by decide) rfl ?_
  rw [u1_ne _ _ hne]
  refine b_ifd (pc2 := 99) d_Ou_takePiece_68 rfl rfl rfl rfl rfl (fun h68 => ?_) (fun h68 => ?_)
  · refine b_iln (pc2 := 100) d_Ou_takePiece_99 rfl rfl ?_
    refine b_ir d_Ou_takePiece_100 rfl ?_
    rw [i_lt (by omega) (by omega)] at h68
    exact ⟨rfl, rfl, by rw [if_neg (by omega)], rfl, rfl⟩
  · refine b_aln (pc2 := 72) d_Ou_takePiece_71 rfl rfl ?_
    refine b_aln (pc2 := 73) d_Ou_takePiece_72 rfl rfl ?_
    refine b_gi (pc2 := 76) d_Ou_takePiece_73 q_6_20 (sh_8 n0) (by decide) (by decide) (rc_8) rfl ?_
    rw [u2_k _ _ (by decide), ho]
    refine b_ic (pc2 := 77) (x := Int32.ofNat 1) d_Ou_takePiece_76 rfl rfl ?_
    refine b_pure (pc2 := 78) d_Ou_takePiece_77 rfl rfl rfl ?_
    rw [i_add]
    refine b_bp (pc2 := 80) (x := Int32.ofNat 8) d_Ou_takePiece_78 rfl rfl ?_
    refine b_rem (pc2 := 81) d_Ou_takePiece_80 (by decide) rfl ?_
    rw [i_rem (by omega) (by decide) (by decide)]
    refine b_pi (pc2 := 84) d_Ou_takePiece_81 q_6_20 (sh_8 n0) (by decide) (Or.inl (by decide)) (Or.inl rfl) (rc_8) rfl ?_
    refine b_aln (pc2 := 85) d_Ou_takePiece_84 rfl rfl ?_
    refine b_pure (pc2 := 86) d_Ou_takePiece_85 rfl rfl rfl ?_
    refine b_gi (pc2 := 89) d_Ou_takePiece_86 q_6_24 (sh_8 n0) (by decide) (by decide) (rc_8) rfl ?_
    rw [u2_k _ _ (by decide), u2_k _ _ (by decide), hw]
    refine b_ic (pc2 := 90) (x := Int32.ofNat 1) d_Ou_takePiece_89 rfl rfl ?_
    refine b_pure (pc2 := 91) d_Ou_takePiece_90 rfl rfl rfl ?_
    rw [i_sub (by omega)]
    refine b_pi (pc2 := 94) d_Ou_takePiece_91 q_6_24 (sh_8 n0) (by decide) (Or.inl (by decide)) (Or.inl rfl) (rc_8) rfl ?_
    refine b_aln (pc2 := 95) d_Ou_takePiece_94 rfl rfl ?_
    refine b_ic (pc2 := 96) (x := Int32.ofNat 0) d_Ou_takePiece_95 rfl rfl ?_
    refine b_pi (pc2 := 99) d_Ou_takePiece_96 q_6_27 (sh_8 n0) (by decide) (Or.inl (by decide)) (Or.inl rfl) (rc_8) rfl ?_
    refine b_iln (pc2 := 100) d_Ou_takePiece_99 rfl rfl ?_
    refine b_ir d_Ou_takePiece_100 rfl ?_
    rw [i_lt (by omega) (by omega)] at h68
    exact ⟨rfl, rfl, by rw [if_pos (by omega)], rfl, rfl⟩
theorem ou_take_c {d : Nat} (hd : 2 ≤ d) {o w t : Nat} (ho : J 8 1 = Int32.ofNat o) (ho8 : o < 8) (hw : J 8 2 = Int32.ofNat w) (hw1 : 0 < w) (hw8 : w ≤ 8) (ht : J 8 3 = Int32.ofNat t) (ht24 : t ≤ 24) (hl : (W (10 + 2 * o)).length ≤ 24) : bm d (S0 n0) R0 65 [.ref 8, .ref 35] W J g L (bR (some (.int (if t = 0 then 2 else 1))) (am_u1 W 35 (((W (10 + 2 * o)).drop t).take 7)) (if (W (10 + 2 * o)).length ≤ t + (((W (10 + 2 * o)).drop t).take 7).length then am_u2 (am_u2 (am_u2 (am_u2 J 8 3 (Int32.ofNat (t + (((W (10 + 2 * o)).drop t).take 7).length))) 8 1 (Int32.ofNat ((o + 1) % 8))) 8 2 (Int32.ofNat (w - 1))) 8 3 (Int32.ofNat 0) else am_u2 J 8 3 (Int32.ofNat (t + (((W (10 + 2 * o)).drop t).take 7).length))) g L) := by
  obtain ⟨e, rfl⟩ : ∃ e, d = e + 1 := ⟨d - 1, by omega⟩
  refine bm_of (Nat.le_of_ble_eq_true rfl) (Or.inr bR_ret) ?_
  show bT e (S0 n0) R0 mt_Ou_takePiece _ 0 [(0, .ref 8), (1, .ref 35)] [] W J g L 0 0
  have hSR := SR0 n0
  refine b_aln (pc2 := 1) d_Ou_takePiece_0 rfl rfl ?_
  refine b_cv0 (pc2 := 4) (c2 := 0) (u2 := 0) (rw_clear (by omega) hSR R_35) d_Ou_takePiece_1 q_6_30 (Nat.le_of_ble_eq_true rfl) rfl rfl (sh_35 n0) (Nat.le_of_ble_eq_true rfl) rfl rfl (by decide) (by decide) rfl ?_
  refine b_aln (pc2 := 5) d_Ou_takePiece_4 rfl rfl ?_
  refine b_gi (pc2 := 8) d_Ou_takePiece_5 q_6_24 (sh_8 n0) (by decide) (by decide) (rc_8) rfl ?_
  refine b_ifd (pc2 := 13) d_Ou_takePiece_8 rfl rfl rfl rfl rfl (fun h8 => ?_) (fun h8 => ?_)
  rotate_left
  · exact absurd (fun z => by rw [hw, show (0 : Int32) = Int32.ofNat 0 from rfl, i_eq (by omega) (by decide)] at z; omega) h8
  refine b_aln (pc2 := 14) d_Ou_takePiece_13 rfl rfl ?_
  refine b_gr (pc2 := 17) d_Ou_takePiece_14 q_6_13 (sh_8 n0) (by decide) (by decide) (p_8_0 n0) rfl ?_
  refine b_aln (pc2 := 18) d_Ou_takePiece_17 rfl rfl ?_
  refine b_gi (pc2 := 21) d_Ou_takePiece_18 q_6_20 (sh_8 n0) (by decide) (by decide) (rc_8) rfl ?_
  rw [ho]
  refine b_aa (pc2 := 22) (q := o) d_Ou_takePiece_21 (sh_9 n0) (Or.inl rfl) (i_in ho8 (by decide)) (i_tn (by omega)) (ob_P_c n0 ho8) rfl ?_
  refine b_asn (pc2 := 23) (al2 := [(2, _), (0, _), (1, _)]) d_Ou_takePiece_22 (by decide) rfl rfl ?_
  refine b_aln (pc2 := 24) d_Ou_takePiece_23 rfl rfl ?_
  refine b_gi (pc2 := 27) d_Ou_takePiece_24 q_6_27 (sh_8 n0) (by decide) (by decide) (rc_8) rfl ?_
  rw [ht]
  refine b_ifd (pc2 := 34) d_Ou_takePiece_27 rfl rfl rfl rfl rfl (fun h27 => ?_) (fun h27 => ?_)
  · refine b_ic (pc2 := 35) (x := Int32.ofNat 1) d_Ou_takePiece_34 rfl rfl ?_
    refine b_isn (pc2 := 36) (al2 := [(3, _), (2, _), (0, _), (1, _)]) d_Ou_takePiece_35 (by decide) rfl rfl ?_
    have hz : (if t = 0 then (2 : Int32) else 1) = _ := rfl
    rw [show (0 : Int32) = Int32.ofNat 0 from rfl, i_eq (by omega) (by decide)] at h27
    first | (rw [if_neg h27]; exact ou_take1_c (by omega) ho ho8 hw hw1 hw8 ht ht24 hl rfl) | (rw [if_pos (Decidable.not_not.mp h27)]; exact ou_take1_c (by omega) ho ho8 hw hw1 hw8 ht ht24 hl rfl)
  · refine b_ic (pc2 := 31) (x := Int32.ofNat 2) d_Ou_takePiece_30 rfl rfl ?_
    refine b_go (pc2 := 35) d_Ou_takePiece_31 rfl ?_
    refine b_isn (pc2 := 36) (al2 := [(3, _), (2, _), (0, _), (1, _)]) d_Ou_takePiece_35 (by decide) rfl rfl ?_
    have hz : (if t = 0 then (2 : Int32) else 1) = _ := rfl
    rw [show (0 : Int32) = Int32.ofNat 0 from rfl, i_eq (by omega) (by decide)] at h27
    first | (rw [if_neg h27]; exact ou_take1_c (by omega) ho ho8 hw hw1 hw8 ht ht24 hl rfl) | (rw [if_pos (Decidable.not_not.mp h27)]; exact ou_take1_c (by omega) ho ho8 hw hw1 hw8 ht ht24 hl rfl)
theorem ou_waiting_s {d : Nat} (hd : 1 ≤ d)  : bm d (S0 n0) R0 41 [.ref 38] W J g L (bR (some (.int (J 38 2))) W J g L) := by
  obtain ⟨e, rfl⟩ : ∃ e, d = e + 1 := ⟨d - 1, by omega⟩
  refine bm_of (Nat.le_of_ble_eq_true rfl) (Or.inr bR_ret) ?_
  show bT e (S0 n0) R0 mt_Ou_waiting _ 0 [(0, .ref 38)] [] W J g L 0 0
  have hSR := SR0 n0
  refine b_aln (pc2 := 1) d_Ou_waiting_0 rfl rfl ?_
  refine b_gi (pc2 := 4) d_Ou_waiting_1 q_6_24 (sh_38 n0) (by decide) (by decide) (rc_38) rfl ?_
  refine b_ir d_Ou_waiting_4 rfl ?_
  exact ⟨rfl, rfl, rfl, rfl, rfl⟩
theorem ou_give_s {d : Nat} (hd : 2 ≤ d) {mr Nm o w : Nat} (hm : R0 mr = some Nm) (hml : (W mr).length ≤ 20) (hne : ∀ i, i < 8 → ¬ mr = 40 + 2 * i) (ho : J 38 1 = Int32.ofNat o) (ho8 : o < 8) (hw : J 38 2 = Int32.ofNat w) (hw8 : w ≤ 8) : bm d (S0 n0) R0 44 [.ref 38, .ref mr] W J g L (bR none (if w < 8 then am_u1 W (40 + 2 * ((o + w) % 8)) ([Int32.ofNat (W mr).length, 0, 4, 0] ++ W mr) else W) (if w < 8 then am_u2 J 38 2 (Int32.ofNat (w + 1)) else J) g L) := by
  obtain ⟨e, rfl⟩ : ∃ e, d = e + 1 := ⟨d - 1, by omega⟩
  refine bm_of (Nat.le_of_ble_eq_true rfl) (Or.inr bR_ret) ?_
  show bT e (S0 n0) R0 mt_Ou_give _ 0 [(0, .ref 38), (1, .ref mr)] [] W J g L 0 0
  have hSR := SR0 n0
  refine b_aln (pc2 := 1) d_Ou_give_0 rfl rfl ?_
  refine b_gi (pc2 := 4) d_Ou_give_1 q_6_24 (sh_38 n0) (by decide) (by decide) (rc_38) rfl ?_
  refine b_bp (pc2 := 6) (x := Int32.ofNat 8) d_Ou_give_4 rfl rfl ?_
  refine b_ifd (pc2 := 10) d_Ou_give_6 rfl rfl rfl rfl rfl (fun h6 => ?_) (fun h6 => ?_)
  · rw [hw, i_lt (by omega) (by omega)] at h6
    rw [if_pos h6, if_pos h6]
    have hi : (o + w) % 8 < 8 := Nat.mod_lt _ (by decide)
    have hne1 := hne _ hi
    refine b_aln (pc2 := 11) d_Ou_give_10 rfl rfl ?_
    refine b_gr (pc2 := 14) d_Ou_give_11 q_6_13 (sh_38 n0) (by decide) (by decide) (p_38_0 n0) rfl ?_
    refine b_aln (pc2 := 15) d_Ou_give_14 rfl rfl ?_
    refine b_gi (pc2 := 18) d_Ou_give_15 q_6_20 (sh_38 n0) (by decide) (by decide) (rc_38) rfl ?_
    refine b_aln (pc2 := 19) d_Ou_give_18 rfl rfl ?_
    refine b_gi (pc2 := 22) d_Ou_give_19 q_6_24 (sh_38 n0) (by decide) (by decide) (rc_38) rfl ?_
    refine b_pure (pc2 := 23) d_Ou_give_22 rfl rfl rfl ?_
    rw [ho, hw, i_add]
    refine b_bp (pc2 := 25) (x := Int32.ofNat 8) d_Ou_give_23 rfl rfl ?_
    refine b_rem (pc2 := 26) d_Ou_give_25 (by decide) rfl ?_
    rw [i_rem (by omega) (by decide) (by decide)]
    refine b_aa (pc2 := 27) (q := (o + w) % 8) d_Ou_give_26 (sh_39 n0) (Or.inl rfl) (i_in hi (by decide)) (i_tn (by omega)) (ob_P_s n0 hi) rfl ?_
    refine b_asn (pc2 := 28) (al2 := [(2, _), (0, _), (1, _)]) d_Ou_give_27 (by decide) rfl rfl ?_
    refine b_aln (pc2 := 29) d_Ou_give_28 rfl rfl ?_
    refine b_cv0 (pc2 := 32) (c2 := 0) (u2 := 0) (rw_clear (by omega) hSR (ob_R_s hi)) d_Ou_give_29 q_6_30 (Nat.le_of_ble_eq_true rfl) rfl rfl (ob_H_s n0 hi) (Nat.le_of_ble_eq_true rfl) rfl rfl (by decide) (by decide) rfl ?_
    refine b_aln (pc2 := 33) d_Ou_give_32 rfl rfl ?_
    refine b_aln (pc2 := 34) d_Ou_give_33 rfl rfl ?_
    refine b_cv1 (pc2 := 37) (c2 := 0) (u2 := 0) (rw_length (by omega) hSR hm) d_Ou_give_34 q_6_33 (Nat.le_of_ble_eq_true rfl) rfl rfl ((hSR mr Nm hm).1) (Nat.le_of_ble_eq_true rfl) rfl rfl (by decide) (by decide) rfl ?_
    rw [u1_ne _ _ hne1]
    refine b_cv0 (pc2 := 40) (c2 := 0) (u2 := 0) (rw_add (by omega) hSR (ob_R_s hi) (by simp only [u1_at, List.length_append, List.length_cons, List.length_nil]; omega)) d_Ou_give_37 q_6_37 (Nat.le_of_ble_eq_true rfl) rfl rfl (ob_H_s n0 hi) (Nat.le_of_ble_eq_true rfl) rfl rfl (by decide) (by decide) rfl ?_
    rw [u1_u1, u1_at]
    refine b_aln (pc2 := 41) d_Ou_give_40 rfl rfl ?_
    refine b_ic (pc2 := 42) (x := Int32.ofNat 0) d_Ou_give_41 rfl rfl ?_
    refine b_cv0 (pc2 := 45) (c2 := 0) (u2 := 0) (rw_add (by omega) hSR (ob_R_s hi) (by simp only [u1_at, List.length_append, List.length_cons, List.length_nil]; omega)) d_Ou_give_42 q_6_37 (Nat.le_of_ble_eq_true rfl) rfl rfl (ob_H_s n0 hi) (Nat.le_of_ble_eq_true rfl) rfl rfl (by decide) (by decide) rfl ?_
    rw [u1_u1, u1_at]
    refine b_aln (pc2 := 46) d_Ou_give_45 rfl rfl ?_
    refine b_ic (pc2 := 47) (x := Int32.ofNat 4) d_Ou_give_46 rfl rfl ?_
    refine b_cv0 (pc2 := 50) (c2 := 0) (u2 := 0) (rw_add (by omega) hSR (ob_R_s hi) (by simp only [u1_at, List.length_append, List.length_cons, List.length_nil]; omega)) d_Ou_give_47 q_6_37 (Nat.le_of_ble_eq_true rfl) rfl rfl (ob_H_s n0 hi) (Nat.le_of_ble_eq_true rfl) rfl rfl (by decide) (by decide) rfl ?_
    rw [u1_u1, u1_at]
    refine b_aln (pc2 := 51) d_Ou_give_50 rfl rfl ?_
    refine b_ic (pc2 := 52) (x := Int32.ofNat 0) d_Ou_give_51 rfl rfl ?_
    refine b_cv0 (pc2 := 55) (c2 := 0) (u2 := 0) (rw_add (by omega) hSR (ob_R_s hi) (by simp only [u1_at, List.length_append, List.length_cons, List.length_nil]; omega)) d_Ou_give_52 q_6_37 (Nat.le_of_ble_eq_true rfl) rfl rfl (ob_H_s n0 hi) (Nat.le_of_ble_eq_true rfl) rfl rfl (by decide) (by decide) rfl ?_
    rw [u1_u1, u1_at]
    refine b_aln (pc2 := 56) d_Ou_give_55 rfl rfl ?_
    refine b_aln (pc2 := 57) d_Ou_give_56 rfl rfl ?_
    refine b_ic (pc2 := 58) (x := Int32.ofNat 0) d_Ou_give_57 rfl rfl ?_
    refine b_bp (pc2 := 60) (x := Int32.ofNat 20) d_Ou_give_58 rfl rfl ?_
    refine b_cv0 (pc2 := 63) (c2 := 0) (u2 := 0) (rw_addFrom (f := 0) (mo := 20) (by omega) hSR (ob_R_s hi) hm hne1 (by decide) (by decide)) d_Ou_give_60 q_6_40 (Nat.le_of_ble_eq_true rfl) rfl rfl (ob_H_s n0 hi) (Nat.le_of_ble_eq_true rfl) rfl rfl (by decide) (by decide) rfl ?_
    rw [u1_u1, u1_at, u1_ne _ _ hne1, b255 (by omega)]
    refine b_aln (pc2 := 64) d_Ou_give_63 rfl rfl ?_
    refine b_pure (pc2 := 65) d_Ou_give_64 rfl rfl rfl ?_
    refine b_gi (pc2 := 68) d_Ou_give_65 q_6_24 (sh_38 n0) (by decide) (by decide) (rc_38) rfl ?_
    refine b_ic (pc2 := 69) (x := Int32.ofNat 1) d_Ou_give_68 rfl rfl ?_
    refine b_pure (pc2 := 70) d_Ou_give_69 rfl rfl rfl ?_
    rw [hw, i_add]
    refine b_pi (pc2 := 73) d_Ou_give_70 q_6_24 (sh_38 n0) (by decide) (Or.inl (by decide)) (Or.inl rfl) (rc_38) rfl ?_
    refine b_vr d_Ou_give_73 rfl ?_
    refine ⟨rfl, ?_, rfl, rfl, rfl⟩
    congr 1
    rw [List.drop_zero, List.take_of_length_le hml, List.take_of_length_le (by simp only [List.length_append, List.length_cons, List.length_nil]; omega)]
    rfl
  · refine b_vr d_Ou_give_9 rfl ?_
    rw [hw, i_lt (by omega) (by omega)] at h6
    exact ⟨rfl, by rw [if_neg h6], by rw [if_neg h6], rfl, rfl⟩
theorem ou_take0_s {d : Nat} (hd : 2 ≤ d) (hw : J 38 2 = Int32.ofNat 0) : bm d (S0 n0) R0 65 [.ref 38, .ref 65] W J g L (bR (some (.int 1)) (am_u1 W 65 []) J g L) := by
  obtain ⟨e, rfl⟩ : ∃ e, d = e + 1 := ⟨d - 1, by omega⟩
  refine bm_of (Nat.le_of_ble_eq_true rfl) (Or.inr bR_ret) ?_
  show bT e (S0 n0) R0 mt_Ou_takePiece _ 0 [(0, .ref 38), (1, .ref 65)] [] W J g L 0 0
  have hSR := SR0 n0
  refine b_aln (pc2 := 1) d_Ou_takePiece_0 rfl rfl ?_
  refine b_cv0 (pc2 := 4) (c2 := 0) (u2 := 0) (rw_clear (by omega) hSR R_65) d_Ou_takePiece_1 q_6_30 (Nat.le_of_ble_eq_true rfl) rfl rfl (sh_65 n0) (Nat.le_of_ble_eq_true rfl) rfl rfl (by decide) (by decide) rfl ?_
  refine b_aln (pc2 := 5) d_Ou_takePiece_4 rfl rfl ?_
  refine b_gi (pc2 := 8) d_Ou_takePiece_5 q_6_24 (sh_38 n0) (by decide) (by decide) (rc_38) rfl ?_
  refine b_ifd (pc2 := 13) d_Ou_takePiece_8 rfl rfl rfl rfl rfl (fun h8 => ?_) (fun h8 => ?_)
  · exact absurd h8 (fun z => z hw)
  refine b_ic (pc2 := 12) (x := Int32.ofNat 1) d_Ou_takePiece_11 rfl rfl ?_
  refine b_ir d_Ou_takePiece_12 rfl ?_
  exact ⟨rfl, rfl, rfl, rfl, rfl⟩
theorem ou_take1_s {e : Nat} (he : 1 ≤ e) {o w t : Nat} (ho : J 38 1 = Int32.ofNat o) (ho8 : o < 8) (hw : J 38 2 = Int32.ofNat w) (hw1 : 0 < w) (hw8 : w ≤ 8) (ht : J 38 3 = Int32.ofNat t) (ht24 : t ≤ 24) (hl : (W (40 + 2 * o)).length ≤ 24) {kd : Int32} {l : List Int32} (hlp : l = ((W (40 + 2 * o)).drop t).take 7) : bT e (S0 n0) R0 mt_Ou_takePiece (bR (some (.int kd)) (am_u1 W 65 l) (if (W (40 + 2 * o)).length ≤ t + (((W (40 + 2 * o)).drop t).take 7).length then am_u2 (am_u2 (am_u2 (am_u2 J 38 3 (Int32.ofNat (t + (((W (40 + 2 * o)).drop t).take 7).length))) 38 1 (Int32.ofNat ((o + 1) % 8))) 38 2 (Int32.ofNat (w - 1))) 38 3 (Int32.ofNat 0) else am_u2 J 38 3 (Int32.ofNat (t + (((W (40 + 2 * o)).drop t).take 7).length))) g L) 36 [(3, .int kd), (2, .ref (40 + 2 * o)), (0, .ref 38), (1, .ref 65)] [] (am_u1 W 65 []) J g L 0 0 := by
  have hSR := SR0 n0
  have hne : ¬ 40 + 2 * o = 65 := by omega
  have hl7 : l.length ≤ 7 := by rw [hlp, List.length_take]; omega
  rw [← hlp]
  refine b_aln (pc2 := 37) d_Ou_takePiece_36 rfl rfl ?_
  refine b_aln (pc2 := 38) d_Ou_takePiece_37 rfl rfl ?_
  refine b_aln (pc2 := 39) d_Ou_takePiece_38 rfl rfl ?_
  refine b_gi (pc2 := 42) d_Ou_takePiece_39 q_6_27 (sh_38 n0) (by decide) (by decide) (rc_38) rfl ?_
  rw [ht]
  refine b_bp (pc2 := 44) (x := Int32.ofNat 7) d_Ou_takePiece_42 rfl rfl ?_
  refine b_cv0 (pc2 := 47) (c2 := 0) (u2 := 0) (rw_addFrom (mo := 7) (by omega) hSR R_65 (ob_R_s ho8) hne (by omega) (by decide)) d_Ou_takePiece_44 q_6_40 (Nat.le_of_ble_eq_true rfl) rfl rfl (sh_65 n0) (Nat.le_of_ble_eq_true rfl) rfl rfl (by decide) (by decide) rfl ?_
  rw [u1_u1, u1_at, u1_ne _ _ hne, List.nil_append, ← hlp, List.take_of_length_le (show l.length ≤ 7 - ([] : List Int32).length from hl7)]
  refine b_aln (pc2 := 48) d_Ou_takePiece_47 rfl rfl ?_
  refine b_pure (pc2 := 49) d_Ou_takePiece_48 rfl rfl rfl ?_
  refine b_gi (pc2 := 52) d_Ou_takePiece_49 q_6_27 (sh_38 n0) (by decide) (by decide) (rc_38) rfl ?_
  refine b_aln (pc2 := 53) d_Ou_takePiece_52 rfl rfl ?_
  refine b_cv1 (pc2 := 56) (c2 := 0) (u2 := 0) (rw_length (by omega) hSR R_65) d_Ou_takePiece_53 q_6_33 (Nat.le_of_ble_eq_true rfl) rfl rfl (sh_65 n0) (Nat.le_of_ble_eq_true rfl) rfl rfl (by decide) (by decide) rfl ?_
  rw [u1_at]
  refine b_pure (pc2 := 57) d_Ou_takePiece_56 rfl rfl rfl ?_
  rw [ht, i_add]
  refine b_pi (pc2 := 60) d_Ou_takePiece_57 q_6_27 (sh_38 n0) (by decide) (Or.inl (by decide)) (Or.inl rfl) (rc_38) rfl ?_
  refine b_aln (pc2 := 61) d_Ou_takePiece_60 rfl rfl ?_
  refine b_gi (pc2 := 64) d_Ou_takePiece_61 q_6_27 (sh_38 n0) (by decide) (by decide) (rc_38) rfl ?_
  rw [u2_at]
  refine b_aln (pc2 := 65) d_Ou_takePiece_64 rfl rfl ?_
  refine b_cv1 (pc2 := 68) (c2 := 0) (u2 := 0) (rw_length (by omega) hSR (ob_R_s ho8)) d_Ou_takePiece_65 q_6_33 (Nat.le_of_ble_eq_true rfl) rfl rfl (ob_H_s n0 ho8) (Nat.le_of_ble_eq_true rfl) rfl rfl (by decide) (by decide) rfl ?_
  rw [u1_ne _ _ hne]
  refine b_ifd (pc2 := 99) d_Ou_takePiece_68 rfl rfl rfl rfl rfl (fun h68 => ?_) (fun h68 => ?_)
  · refine b_iln (pc2 := 100) d_Ou_takePiece_99 rfl rfl ?_
    refine b_ir d_Ou_takePiece_100 rfl ?_
    rw [i_lt (by omega) (by omega)] at h68
    exact ⟨rfl, rfl, by rw [if_neg (by omega)], rfl, rfl⟩
  · refine b_aln (pc2 := 72) d_Ou_takePiece_71 rfl rfl ?_
    refine b_aln (pc2 := 73) d_Ou_takePiece_72 rfl rfl ?_
    refine b_gi (pc2 := 76) d_Ou_takePiece_73 q_6_20 (sh_38 n0) (by decide) (by decide) (rc_38) rfl ?_
    rw [u2_k _ _ (by decide), ho]
    refine b_ic (pc2 := 77) (x := Int32.ofNat 1) d_Ou_takePiece_76 rfl rfl ?_
    refine b_pure (pc2 := 78) d_Ou_takePiece_77 rfl rfl rfl ?_
    rw [i_add]
    refine b_bp (pc2 := 80) (x := Int32.ofNat 8) d_Ou_takePiece_78 rfl rfl ?_
    refine b_rem (pc2 := 81) d_Ou_takePiece_80 (by decide) rfl ?_
    rw [i_rem (by omega) (by decide) (by decide)]
    refine b_pi (pc2 := 84) d_Ou_takePiece_81 q_6_20 (sh_38 n0) (by decide) (Or.inl (by decide)) (Or.inl rfl) (rc_38) rfl ?_
    refine b_aln (pc2 := 85) d_Ou_takePiece_84 rfl rfl ?_
    refine b_pure (pc2 := 86) d_Ou_takePiece_85 rfl rfl rfl ?_
    refine b_gi (pc2 := 89) d_Ou_takePiece_86 q_6_24 (sh_38 n0) (by decide) (by decide) (rc_38) rfl ?_
    rw [u2_k _ _ (by decide), u2_k _ _ (by decide), hw]
    refine b_ic (pc2 := 90) (x := Int32.ofNat 1) d_Ou_takePiece_89 rfl rfl ?_
    refine b_pure (pc2 := 91) d_Ou_takePiece_90 rfl rfl rfl ?_
    rw [i_sub (by omega)]
    refine b_pi (pc2 := 94) d_Ou_takePiece_91 q_6_24 (sh_38 n0) (by decide) (Or.inl (by decide)) (Or.inl rfl) (rc_38) rfl ?_
    refine b_aln (pc2 := 95) d_Ou_takePiece_94 rfl rfl ?_
    refine b_ic (pc2 := 96) (x := Int32.ofNat 0) d_Ou_takePiece_95 rfl rfl ?_
    refine b_pi (pc2 := 99) d_Ou_takePiece_96 q_6_27 (sh_38 n0) (by decide) (Or.inl (by decide)) (Or.inl rfl) (rc_38) rfl ?_
    refine b_iln (pc2 := 100) d_Ou_takePiece_99 rfl rfl ?_
    refine b_ir d_Ou_takePiece_100 rfl ?_
    rw [i_lt (by omega) (by omega)] at h68
    exact ⟨rfl, rfl, by rw [if_pos (by omega)], rfl, rfl⟩
theorem ou_take_s {d : Nat} (hd : 2 ≤ d) {o w t : Nat} (ho : J 38 1 = Int32.ofNat o) (ho8 : o < 8) (hw : J 38 2 = Int32.ofNat w) (hw1 : 0 < w) (hw8 : w ≤ 8) (ht : J 38 3 = Int32.ofNat t) (ht24 : t ≤ 24) (hl : (W (40 + 2 * o)).length ≤ 24) : bm d (S0 n0) R0 65 [.ref 38, .ref 65] W J g L (bR (some (.int (if t = 0 then 2 else 1))) (am_u1 W 65 (((W (40 + 2 * o)).drop t).take 7)) (if (W (40 + 2 * o)).length ≤ t + (((W (40 + 2 * o)).drop t).take 7).length then am_u2 (am_u2 (am_u2 (am_u2 J 38 3 (Int32.ofNat (t + (((W (40 + 2 * o)).drop t).take 7).length))) 38 1 (Int32.ofNat ((o + 1) % 8))) 38 2 (Int32.ofNat (w - 1))) 38 3 (Int32.ofNat 0) else am_u2 J 38 3 (Int32.ofNat (t + (((W (40 + 2 * o)).drop t).take 7).length))) g L) := by
  obtain ⟨e, rfl⟩ : ∃ e, d = e + 1 := ⟨d - 1, by omega⟩
  refine bm_of (Nat.le_of_ble_eq_true rfl) (Or.inr bR_ret) ?_
  show bT e (S0 n0) R0 mt_Ou_takePiece _ 0 [(0, .ref 38), (1, .ref 65)] [] W J g L 0 0
  have hSR := SR0 n0
  refine b_aln (pc2 := 1) d_Ou_takePiece_0 rfl rfl ?_
  refine b_cv0 (pc2 := 4) (c2 := 0) (u2 := 0) (rw_clear (by omega) hSR R_65) d_Ou_takePiece_1 q_6_30 (Nat.le_of_ble_eq_true rfl) rfl rfl (sh_65 n0) (Nat.le_of_ble_eq_true rfl) rfl rfl (by decide) (by decide) rfl ?_
  refine b_aln (pc2 := 5) d_Ou_takePiece_4 rfl rfl ?_
  refine b_gi (pc2 := 8) d_Ou_takePiece_5 q_6_24 (sh_38 n0) (by decide) (by decide) (rc_38) rfl ?_
  refine b_ifd (pc2 := 13) d_Ou_takePiece_8 rfl rfl rfl rfl rfl (fun h8 => ?_) (fun h8 => ?_)
  rotate_left
  · exact absurd (fun z => by rw [hw, show (0 : Int32) = Int32.ofNat 0 from rfl, i_eq (by omega) (by decide)] at z; omega) h8
  refine b_aln (pc2 := 14) d_Ou_takePiece_13 rfl rfl ?_
  refine b_gr (pc2 := 17) d_Ou_takePiece_14 q_6_13 (sh_38 n0) (by decide) (by decide) (p_38_0 n0) rfl ?_
  refine b_aln (pc2 := 18) d_Ou_takePiece_17 rfl rfl ?_
  refine b_gi (pc2 := 21) d_Ou_takePiece_18 q_6_20 (sh_38 n0) (by decide) (by decide) (rc_38) rfl ?_
  rw [ho]
  refine b_aa (pc2 := 22) (q := o) d_Ou_takePiece_21 (sh_39 n0) (Or.inl rfl) (i_in ho8 (by decide)) (i_tn (by omega)) (ob_P_s n0 ho8) rfl ?_
  refine b_asn (pc2 := 23) (al2 := [(2, _), (0, _), (1, _)]) d_Ou_takePiece_22 (by decide) rfl rfl ?_
  refine b_aln (pc2 := 24) d_Ou_takePiece_23 rfl rfl ?_
  refine b_gi (pc2 := 27) d_Ou_takePiece_24 q_6_27 (sh_38 n0) (by decide) (by decide) (rc_38) rfl ?_
  rw [ht]
  refine b_ifd (pc2 := 34) d_Ou_takePiece_27 rfl rfl rfl rfl rfl (fun h27 => ?_) (fun h27 => ?_)
  · refine b_ic (pc2 := 35) (x := Int32.ofNat 1) d_Ou_takePiece_34 rfl rfl ?_
    refine b_isn (pc2 := 36) (al2 := [(3, _), (2, _), (0, _), (1, _)]) d_Ou_takePiece_35 (by decide) rfl rfl ?_
    have hz : (if t = 0 then (2 : Int32) else 1) = _ := rfl
    rw [show (0 : Int32) = Int32.ofNat 0 from rfl, i_eq (by omega) (by decide)] at h27
    first | (rw [if_neg h27]; exact ou_take1_s (by omega) ho ho8 hw hw1 hw8 ht ht24 hl rfl) | (rw [if_pos (Decidable.not_not.mp h27)]; exact ou_take1_s (by omega) ho ho8 hw hw1 hw8 ht ht24 hl rfl)
  · refine b_ic (pc2 := 31) (x := Int32.ofNat 2) d_Ou_takePiece_30 rfl rfl ?_
    refine b_go (pc2 := 35) d_Ou_takePiece_31 rfl ?_
    refine b_isn (pc2 := 36) (al2 := [(3, _), (2, _), (0, _), (1, _)]) d_Ou_takePiece_35 (by decide) rfl rfl ?_
    have hz : (if t = 0 then (2 : Int32) else 1) = _ := rfl
    rw [show (0 : Int32) = Int32.ofNat 0 from rfl, i_eq (by omega) (by decide)] at h27
    first | (rw [if_neg h27]; exact ou_take1_s (by omega) ho ho8 hw hw1 hw8 ht ht24 hl rfl) | (rw [if_pos (Decidable.not_not.mp h27)]; exact ou_take1_s (by omega) ho ho8 hw hw1 hw8 ht ht24 hl rfl)
end BX
