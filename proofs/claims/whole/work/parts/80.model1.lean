/-! Part 80 (written by gen30.py): the reference: small ones -/
/-- l lies from place to on -/
def ovw (to : Nat) (l : List Int32) (f : Nat → Int32) : Nat → Int32 := fun k => if to ≤ k ∧ k < to + l.length then l.getD (k - to) 0 else f k
theorem ovw_step (to : Nat) (l : List Int32) (f : Nat → Int32) (x : Int32) : am_u1 (ovw to l f) (to + l.length) x = ovw to (l ++ [x]) f := by
  funext k
  unfold am_u1 ovw
  rw [List.length_append, List.length_singleton]
  by_cases h : k = to + l.length
  · rw [if_pos h, if_pos (by omega), h, show to + l.length - to = l.length by omega, List.getD_eq_getElem?_getD, List.getElem?_append_right (Nat.le_refl _), Nat.sub_self]
    rfl
  · rw [if_neg h]
    by_cases h2 : to ≤ k ∧ k < to + l.length
    · rw [if_pos h2, if_pos (by omega), List.getD_eq_getElem?_getD, List.getD_eq_getElem?_getD, List.getElem?_append_left (by omega)]
    · rw [if_neg h2, if_neg (by omega)]
theorem ovw_nil (to : Nat) (f : Nat → Int32) : ovw to [] f = f := funext fun k => if_neg (by simp only [List.length_nil]; omega)
theorem ovw_in {to k : Nat} {l : List Int32} {f : Nat → Int32} (h : k < l.length) : ovw to l f (to + k) = l.getD k 0 := by
  unfold ovw
  rw [if_pos (by omega), show to + k - to = k by omega]
/-- the bytes that are being laid -/
def mkJ (J : bw_J) (l : List Int32) : bw_J := am_u2 (am_u1 J 151 (ovw 0 l (J 151))) 130 29 (Int32.ofNat l.length)
theorem u12c {α : Type} (f : Nat → Nat → α) {a b k : Nat} (p : Nat → α) (x : α) (h : ¬ a = b) : am_u1 (am_u2 f b k x) a p = am_u2 (am_u1 f a p) b k x := by
  funext c j
  by_cases h1 : c = a
  · subst h1
    rw [u1_at, u2_a _ _ h, u1_at]
  · rw [u1_ne _ _ h1]
    by_cases h2 : c = b
    · subst h2
      by_cases hk : j = k
      · subst hk
        rw [u2_at, u2_at]
      · rw [u2_k _ _ hk, u2_k _ _ hk, u1_ne _ _ h1]
    · rw [u2_a _ _ h2, u2_a _ _ h2, u1_ne _ _ h1]
theorem u2_u1 {α : Type} (f : Nat → Nat → α) (a k : Nat) (x : α) : am_u2 f a k x = am_u1 f a (am_u1 (f a) k x) := by
  funext b j
  by_cases h : b = a
  · subst h
    rw [u1_at]
    by_cases hk : j = k
    · subst hk
      rw [u2_at, u1_at]
    · rw [u2_k _ _ hk, u1_ne _ _ hk]
  · rw [u2_a _ _ h, u1_ne _ _ h]
theorem mkJ_lay (J : bw_J) (l : List Int32) (x : Int32) : am_u2 (am_u2 (mkJ J l) 151 l.length x) 130 29 (Int32.ofNat (l.length + 1)) = mkJ J (l ++ [x]) := by
  unfold mkJ
  rw [List.length_append, List.length_singleton, u2_u1 (am_u2 (am_u1 J 151 (ovw 0 l (J 151))) 130 29 (Int32.ofNat l.length)) 151, u2_a _ _ (by decide), u1_at, u12c _ _ _ (by decide), u2_u2, u1_u1, ← ovw_step, Nat.zero_add]
theorem mkJ_start (J : bw_J) (x : Int32) : am_u2 (am_u2 J 151 0 x) 130 29 (Int32.ofNat 1) = mkJ J [x] := by
  unfold mkJ
  rw [u2_u1 J 151, show am_u1 (J 151) 0 x = ovw 0 [x] (J 151) by rw [← List.nil_append [x], ← ovw_step, ovw_nil]; rfl]
  rfl
section MO
variable {n0 : Nat} {W : bw_W} {J : bw_J} {g : Nat} {L : bw_L}
theorem mo_thrown {d : Nat} (hd : 1 ≤ d)  : bm d (S0 n0) R0 128 [.ref 130] W J g L (bR (some (.int (J 130 0))) W J g L) := by
  obtain ⟨e, rfl⟩ : ∃ e, d = e + 1 := ⟨d - 1, by omega⟩
  refine bm_of (Nat.le_of_ble_eq_true rfl) (Or.inr bR_ret) ?_
  show bT e (S0 n0) R0 mt_Mo_thrown _ 0 [(0, .ref 130)] [] W J g L 0 0
  have hSR := SR0 n0
  refine b_aln (pc2 := 1) d_Mo_thrown_0 rfl rfl ?_
  refine b_gi (pc2 := 4) d_Mo_thrown_1 q_11_135 (sh_130 n0) (by decide) (by decide) (rc_130) rfl ?_
  refine b_ir d_Mo_thrown_4 rfl ?_
  exact ⟨rfl, rfl, rfl, rfl, rfl⟩
theorem mo_fail {d : Nat} (hd : 1 ≤ d) {x : Int32} : bm d (S0 n0) R0 176 [.ref 130, .int x] W J g L (bR (some (.int (Int32.ofNat 0))) W (am_u2 J 130 0 x) g L) := by
  obtain ⟨e, rfl⟩ : ∃ e, d = e + 1 := ⟨d - 1, by omega⟩
  refine bm_of (Nat.le_of_ble_eq_true rfl) (Or.inr bR_ret) ?_
  show bT e (S0 n0) R0 mt_Mo_fail _ 0 [(0, .ref 130), (1, .int x)] [] W J g L 0 0
  have hSR := SR0 n0
  refine b_aln (pc2 := 1) d_Mo_fail_0 rfl rfl ?_
  refine b_iln (pc2 := 2) d_Mo_fail_1 rfl rfl ?_
  refine b_pi (pc2 := 5) d_Mo_fail_2 q_11_135 (sh_130 n0) (by decide) (Or.inl (by decide)) (Or.inl rfl) (rc_130) rfl ?_
  refine b_ic (pc2 := 6) (x := Int32.ofNat 0) d_Mo_fail_5 rfl rfl ?_
  refine b_ir d_Mo_fail_6 rfl ?_
  exact ⟨rfl, rfl, rfl, rfl, rfl⟩
theorem mo_byteOf {d : Nat} (hd : 1 ≤ d) {v : Int64} {k : Int32} : bm d (S0 n0) R0 130 [.long v, .int k] W J g L (bR (some (.int ((v >>> ((Int32.ofNat 8 * k).toInt64 &&& 63)) &&& 255).toInt32)) W J g L) := by
  obtain ⟨e, rfl⟩ : ∃ e, d = e + 1 := ⟨d - 1, by omega⟩
  refine bm_of (Nat.le_of_ble_eq_true rfl) (Or.inr bR_ret) ?_
  show bT e (S0 n0) R0 mt_Mo_byteOf _ 0 [(0, .long v), (2, .int k)] [] W J g L 0 0
  have hSR := SR0 n0
  refine b_lln (pc2 := 1) d_Mo_byteOf_0 rfl rfl ?_
  refine b_bp (pc2 := 3) (x := Int32.ofNat 8) d_Mo_byteOf_1 rfl rfl ?_
  refine b_iln (pc2 := 4) d_Mo_byteOf_3 rfl rfl ?_
  refine b_pure (pc2 := 5) d_Mo_byteOf_4 rfl rfl rfl ?_
  refine b_pure (pc2 := 6) d_Mo_byteOf_5 rfl rfl rfl ?_
  refine b_ldc2 (pc2 := 9) d_Mo_byteOf_6 rfl rfl ?_
  refine b_pure (pc2 := 10) d_Mo_byteOf_9 rfl rfl rfl ?_
  refine b_pure (pc2 := 11) d_Mo_byteOf_10 rfl rfl rfl ?_
  refine b_ir d_Mo_byteOf_11 rfl ?_
  exact ⟨rfl, rfl, rfl, rfl, rfl⟩
theorem mo_start {d : Nat} (hd : 1 ≤ d) {x : Int32} : bm d (S0 n0) R0 133 [.ref 130, .int x] W J g L (bR none W (mkJ J [x &&& 255]) g L) := by
  obtain ⟨e, rfl⟩ : ∃ e, d = e + 1 := ⟨d - 1, by omega⟩
  refine bm_of (Nat.le_of_ble_eq_true rfl) (Or.inr bR_ret) ?_
  show bT e (S0 n0) R0 mt_Mo_start _ 0 [(0, .ref 130), (1, .int x)] [] W J g L 0 0
  have hSR := SR0 n0
  refine b_aln (pc2 := 1) d_Mo_start_0 rfl rfl ?_
  refine b_gr (pc2 := 4) d_Mo_start_1 q_11_75 (sh_130 n0) (by decide) (by decide) (p_130_30 n0) rfl ?_
  refine b_ic (pc2 := 5) (x := Int32.ofNat 0) d_Mo_start_4 rfl rfl ?_
  refine b_iln (pc2 := 6) d_Mo_start_5 rfl rfl ?_
  refine b_sp (pc2 := 9) (x := Int32.ofNat 255) d_Mo_start_6 rfl rfl ?_
  refine b_pure (pc2 := 10) d_Mo_start_9 rfl rfl rfl ?_
  refine b_ist (pc2 := 11) (q := 0) d_Mo_start_10 (sh_151 n0) (i_in (i := 0) (by decide) (by decide)) (rfl) (rc_151) rfl ?_
  refine b_aln (pc2 := 12) d_Mo_start_11 rfl rfl ?_
  refine b_ic (pc2 := 13) (x := Int32.ofNat 1) d_Mo_start_12 rfl rfl ?_
  refine b_pi (pc2 := 16) d_Mo_start_13 q_11_140 (sh_130 n0) (by decide) (Or.inl (by decide)) (Or.inl rfl) (rc_130) rfl ?_
  refine b_vr d_Mo_start_16 rfl ?_
  exact ⟨rfl, rfl, mkJ_start J _, rfl, rfl⟩
theorem mo_lay {d : Nat} (hd : 1 ≤ d) {x : Int32} {l : List Int32} (hl : l.length < 40) : bm d (S0 n0) R0 134 [.ref 130, .int x] W (mkJ J l) g L (bR none W (mkJ J (l ++ [x &&& 255])) g L) := by
  obtain ⟨e, rfl⟩ : ∃ e, d = e + 1 := ⟨d - 1, by omega⟩
  refine bm_of (Nat.le_of_ble_eq_true rfl) (Or.inr bR_ret) ?_
  show bT e (S0 n0) R0 mt_Mo_lay _ 0 [(0, .ref 130), (1, .int x)] [] W (mkJ J l) g L 0 0
  have hSR := SR0 n0
  refine b_aln (pc2 := 1) d_Mo_lay_0 rfl rfl ?_
  refine b_gr (pc2 := 4) d_Mo_lay_1 q_11_75 (sh_130 n0) (by decide) (by decide) (p_130_30 n0) rfl ?_
  refine b_aln (pc2 := 5) d_Mo_lay_4 rfl rfl ?_
  refine b_gi (pc2 := 8) d_Mo_lay_5 q_11_140 (sh_130 n0) (by decide) (by decide) (rc_130) rfl ?_
  rw [show mkJ J l 130 29 = Int32.ofNat l.length from u2_at _ _ _ _]
  refine b_iln (pc2 := 9) d_Mo_lay_8 rfl rfl ?_
  refine b_sp (pc2 := 12) (x := Int32.ofNat 255) d_Mo_lay_9 rfl rfl ?_
  refine b_pure (pc2 := 13) d_Mo_lay_12 rfl rfl rfl ?_
  refine b_ist (pc2 := 14) (q := l.length) d_Mo_lay_13 (sh_151 n0) (i_in hl (by decide)) (i_tn (by omega)) (rc_151) rfl ?_
  refine b_aln (pc2 := 15) d_Mo_lay_14 rfl rfl ?_
  refine b_pure (pc2 := 16) d_Mo_lay_15 rfl rfl rfl ?_
  refine b_gi (pc2 := 19) d_Mo_lay_16 q_11_140 (sh_130 n0) (by decide) (by decide) (rc_130) rfl ?_
  rw [u2_a _ _ (by decide), show mkJ J l 130 29 = Int32.ofNat l.length from u2_at _ _ _ _]
  refine b_ic (pc2 := 20) (x := Int32.ofNat 1) d_Mo_lay_19 rfl rfl ?_
  refine b_pure (pc2 := 21) d_Mo_lay_20 rfl rfl rfl ?_
  rw [i_add]
  refine b_pi (pc2 := 24) d_Mo_lay_21 q_11_140 (sh_130 n0) (by decide) (Or.inl (by decide)) (Or.inl rfl) (rc_130) rfl ?_
  refine b_vr d_Mo_lay_24 rfl ?_
  exact ⟨rfl, rfl, mkJ_lay J l _, rfl, rfl⟩
theorem mo_free {d : Nat} (hd : 1 ≤ d)  : bm d (S0 n0) R0 137 [.ref 130] W J g L (bR (some (.int (if J 130 7 = 0 ∧ (J 130 47 = Int32.ofNat 1 ∨ J 130 47 = Int32.ofNat 2) then 1 else 0))) W J g L) := by
  obtain ⟨e, rfl⟩ : ∃ e, d = e + 1 := ⟨d - 1, by omega⟩
  refine bm_of (Nat.le_of_ble_eq_true rfl) (Or.inr bR_ret) ?_
  show bT e (S0 n0) R0 mt_Mo_free _ 0 [(0, .ref 130)] [] W J g L 0 0
  have hSR := SR0 n0
  refine b_aln (pc2 := 1) d_Mo_free_0 rfl rfl ?_
  refine b_gi (pc2 := 4) d_Mo_free_1 q_11_283 (sh_130 n0) (by decide) (by decide) (rc_130) rfl ?_
  refine b_ifd (pc2 := 27) d_Mo_free_4 rfl rfl rfl rfl rfl (fun h4 => ?_) (fun h4 => ?_)
  · refine b_ic (pc2 := 28) (x := Int32.ofNat 0) d_Mo_free_27 rfl rfl ?_
    refine b_br d_Mo_free_28 rfl (by decide) ?_
    exact ⟨by rw [if_neg (fun z => h4 z.1)]; rfl, rfl, rfl, rfl, rfl⟩
  · refine b_aln (pc2 := 8) d_Mo_free_7 rfl rfl ?_
    refine b_gi (pc2 := 11) d_Mo_free_8 q_11_111 (sh_130 n0) (by decide) (by decide) (rc_130) rfl ?_
    refine b_ic (pc2 := 12) (x := Int32.ofNat 1) d_Mo_free_11 rfl rfl ?_
    refine b_ifd (pc2 := 23) d_Mo_free_12 rfl rfl rfl rfl rfl (fun h12 => ?_) (fun h12 => ?_)
    · refine b_ic (pc2 := 24) (x := Int32.ofNat 1) d_Mo_free_23 rfl rfl ?_
      refine b_go (pc2 := 28) d_Mo_free_24 rfl ?_
      refine b_br d_Mo_free_28 rfl (by decide) ?_
      exact ⟨by rw [if_pos ⟨Decidable.not_not.mp h4, Or.inl h12⟩]; rfl, rfl, rfl, rfl, rfl⟩
    · refine b_aln (pc2 := 16) d_Mo_free_15 rfl rfl ?_
      refine b_gi (pc2 := 19) d_Mo_free_16 q_11_111 (sh_130 n0) (by decide) (by decide) (rc_130) rfl ?_
      refine b_ic (pc2 := 20) (x := Int32.ofNat 2) d_Mo_free_19 rfl rfl ?_
      refine b_ifd (pc2 := 27) d_Mo_free_20 rfl rfl rfl rfl rfl (fun h20 => ?_) (fun h20 => ?_)
      · refine b_ic (pc2 := 28) (x := Int32.ofNat 0) d_Mo_free_27 rfl rfl ?_
        refine b_br d_Mo_free_28 rfl (by decide) ?_
        exact ⟨by rw [if_neg (fun z => by rcases z.2 with q | q; exact h12 q; exact h20 q)]; rfl, rfl, rfl, rfl, rfl⟩
      · refine b_ic (pc2 := 24) (x := Int32.ofNat 1) d_Mo_free_23 rfl rfl ?_
        refine b_go (pc2 := 28) d_Mo_free_24 rfl ?_
        refine b_br d_Mo_free_28 rfl (by decide) ?_
        exact ⟨by rw [if_pos ⟨Decidable.not_not.mp h4, Or.inr (Decidable.not_not.mp h20)⟩]; rfl, rfl, rfl, rfl, rfl⟩
theorem mo_open {d : Nat} (hd : 1 ≤ d) {a b : Int32} : bm d (S0 n0) R0 138 [.ref 130, .int a, .int b] W J g L (bR none W (am_u2 (am_u2 (am_u2 (am_u2 (am_u2 J 130 45 a) 130 46 b) 130 47 0) 130 48 0) 130 52 0) g L) := by
  obtain ⟨e, rfl⟩ : ∃ e, d = e + 1 := ⟨d - 1, by omega⟩
  refine bm_of (Nat.le_of_ble_eq_true rfl) (Or.inr bR_ret) ?_
  show bT e (S0 n0) R0 mt_Mo_open _ 0 [(0, .ref 130), (1, .int a), (2, .int b)] [] W J g L 0 0
  have hSR := SR0 n0
  refine b_aln (pc2 := 1) d_Mo_open_0 rfl rfl ?_
  refine b_iln (pc2 := 2) d_Mo_open_1 rfl rfl ?_
  refine b_pi (pc2 := 5) d_Mo_open_2 q_11_235 (sh_130 n0) (by decide) (Or.inl (by decide)) (Or.inl rfl) (rc_130) rfl ?_
  refine b_aln (pc2 := 6) d_Mo_open_5 rfl rfl ?_
  refine b_iln (pc2 := 7) d_Mo_open_6 rfl rfl ?_
  refine b_pi (pc2 := 10) d_Mo_open_7 q_11_265 (sh_130 n0) (by decide) (Or.inl (by decide)) (Or.inl rfl) (rc_130) rfl ?_
  refine b_aln (pc2 := 11) d_Mo_open_10 rfl rfl ?_
  refine b_ic (pc2 := 12) (x := Int32.ofNat 0) d_Mo_open_11 rfl rfl ?_
  refine b_pi (pc2 := 15) d_Mo_open_12 q_11_111 (sh_130 n0) (by decide) (Or.inl (by decide)) (Or.inl rfl) (rc_130) rfl ?_
  refine b_aln (pc2 := 16) d_Mo_open_15 rfl rfl ?_
  refine b_ic (pc2 := 17) (x := Int32.ofNat 0) d_Mo_open_16 rfl rfl ?_
  refine b_pi (pc2 := 20) d_Mo_open_17 q_11_241 (sh_130 n0) (by decide) (Or.inl (by decide)) (Or.inl rfl) (rc_130) rfl ?_
  refine b_aln (pc2 := 21) d_Mo_open_20 rfl rfl ?_
  refine b_ic (pc2 := 22) (x := Int32.ofNat 0) d_Mo_open_21 rfl rfl ?_
  refine b_pi (pc2 := 25) d_Mo_open_22 q_11_262 (sh_130 n0) (by decide) (Or.inl (by decide)) (Or.inl rfl) (rc_130) rfl ?_
  refine b_vr d_Mo_open_25 rfl ?_
  exact ⟨rfl, rfl, rfl, rfl, rfl⟩
theorem mo_end {d : Nat} (hd : 1 ≤ d) {a b : Int32} : bm d (S0 n0) R0 155 [.ref 130, .int a, .int b] W J g L (bR none W (am_u2 (am_u2 J 130 47 a) 130 48 b) g L) := by
  obtain ⟨e, rfl⟩ : ∃ e, d = e + 1 := ⟨d - 1, by omega⟩
  refine bm_of (Nat.le_of_ble_eq_true rfl) (Or.inr bR_ret) ?_
  show bT e (S0 n0) R0 mt_Mo_end _ 0 [(0, .ref 130), (1, .int a), (2, .int b)] [] W J g L 0 0
  have hSR := SR0 n0
  refine b_aln (pc2 := 1) d_Mo_end_0 rfl rfl ?_
  refine b_iln (pc2 := 2) d_Mo_end_1 rfl rfl ?_
  refine b_pi (pc2 := 5) d_Mo_end_2 q_11_111 (sh_130 n0) (by decide) (Or.inl (by decide)) (Or.inl rfl) (rc_130) rfl ?_
  refine b_aln (pc2 := 6) d_Mo_end_5 rfl rfl ?_
  refine b_iln (pc2 := 7) d_Mo_end_6 rfl rfl ?_
  refine b_pi (pc2 := 10) d_Mo_end_7 q_11_241 (sh_130 n0) (by decide) (Or.inl (by decide)) (Or.inl rfl) (rc_130) rfl ?_
  refine b_vr d_Mo_end_10 rfl ?_
  exact ⟨rfl, rfl, rfl, rfl, rfl⟩
theorem mo_error {d : Nat} (hd : 1 ≤ d)  : bm d (S0 n0) R0 173 [.ref 130] W J g L (bR (some (.int (J 130 48))) W (am_u2 J 130 0 0) g L) := by
  obtain ⟨e, rfl⟩ : ∃ e, d = e + 1 := ⟨d - 1, by omega⟩
  refine bm_of (Nat.le_of_ble_eq_true rfl) (Or.inr bR_ret) ?_
  show bT e (S0 n0) R0 mt_Mo_error _ 0 [(0, .ref 130)] [] W J g L 0 0
  have hSR := SR0 n0
  refine b_aln (pc2 := 1) d_Mo_error_0 rfl rfl ?_
  refine b_ic (pc2 := 2) (x := Int32.ofNat 0) d_Mo_error_1 rfl rfl ?_
  refine b_pi (pc2 := 5) d_Mo_error_2 q_11_135 (sh_130 n0) (by decide) (Or.inl (by decide)) (Or.inl rfl) (rc_130) rfl ?_
  refine b_aln (pc2 := 6) d_Mo_error_5 rfl rfl ?_
  refine b_gi (pc2 := 9) d_Mo_error_6 q_11_241 (sh_130 n0) (by decide) (by decide) (rc_130) rfl ?_
  rw [u2_k _ _ (by decide)]
  refine b_ir d_Mo_error_9 rfl ?_
  exact ⟨rfl, rfl, rfl, rfl, rfl⟩
theorem mo_outcome {d : Nat} (hd : 1 ≤ d)  : bm d (S0 n0) R0 172 [.ref 130] W J g L (bR (some (.int (if J 130 45 = 0 then 0 else J 130 47))) W (am_u2 J 130 0 (if J 130 45 = 0 then 1 else 0)) g L) := by
  obtain ⟨e, rfl⟩ : ∃ e, d = e + 1 := ⟨d - 1, by omega⟩
  refine bm_of (Nat.le_of_ble_eq_true rfl) (Or.inr bR_ret) ?_
  show bT e (S0 n0) R0 mt_Mo_outcome _ 0 [(0, .ref 130)] [] W J g L 0 0
  have hSR := SR0 n0
  refine b_aln (pc2 := 1) d_Mo_outcome_0 rfl rfl ?_
  refine b_aln (pc2 := 2) d_Mo_outcome_1 rfl rfl ?_
  refine b_gi (pc2 := 5) d_Mo_outcome_2 q_11_235 (sh_130 n0) (by decide) (by decide) (rc_130) rfl ?_
  refine b_ifd (pc2 := 12) d_Mo_outcome_5 rfl rfl rfl rfl rfl (fun h5 => ?_) (fun h5 => ?_)
  · refine b_ic (pc2 := 13) (x := Int32.ofNat 0) d_Mo_outcome_12 rfl rfl ?_
    refine b_pi (pc2 := 16) d_Mo_outcome_13 q_11_135 (sh_130 n0) (by decide) (Or.inl (by decide)) (Or.inl rfl) (rc_130) rfl ?_
    refine b_aln (pc2 := 17) d_Mo_outcome_16 rfl rfl ?_
    refine b_gi (pc2 := 20) d_Mo_outcome_17 q_11_235 (sh_130 n0) (by decide) (by decide) (rc_130) rfl ?_
    rw [u2_k _ _ (by decide)]
    refine b_ifd (pc2 := 27) d_Mo_outcome_20 rfl rfl rfl rfl rfl (fun h20 => ?_) (fun h20 => ?_)
    · refine b_aln (pc2 := 28) d_Mo_outcome_27 rfl rfl ?_
      refine b_gi (pc2 := 31) d_Mo_outcome_28 q_11_111 (sh_130 n0) (by decide) (by decide) (rc_130) rfl ?_
      rw [u2_k _ _ (by decide)]
      refine b_ir d_Mo_outcome_31 rfl ?_
      exact ⟨by rw [if_neg h5], rfl, by rw [if_neg h5]; rfl, rfl, rfl⟩
    · refine b_ic (pc2 := 24) (x := Int32.ofNat 0) d_Mo_outcome_23 rfl rfl ?_
      refine b_go (pc2 := 31) d_Mo_outcome_24 rfl ?_
      refine b_ir d_Mo_outcome_31 rfl ?_
      exact absurd (Decidable.not_not.mp h20) h5
  · refine b_ic (pc2 := 9) (x := Int32.ofNat 1) d_Mo_outcome_8 rfl rfl ?_
    refine b_go (pc2 := 13) d_Mo_outcome_9 rfl ?_
    refine b_pi (pc2 := 16) d_Mo_outcome_13 q_11_135 (sh_130 n0) (by decide) (Or.inl (by decide)) (Or.inl rfl) (rc_130) rfl ?_
    refine b_aln (pc2 := 17) d_Mo_outcome_16 rfl rfl ?_
    refine b_gi (pc2 := 20) d_Mo_outcome_17 q_11_235 (sh_130 n0) (by decide) (by decide) (rc_130) rfl ?_
    rw [u2_k _ _ (by decide)]
    refine b_ifd (pc2 := 27) d_Mo_outcome_20 rfl rfl rfl rfl rfl (fun h20 => ?_) (fun h20 => ?_)
    · refine b_aln (pc2 := 28) d_Mo_outcome_27 rfl rfl ?_
      refine b_gi (pc2 := 31) d_Mo_outcome_28 q_11_111 (sh_130 n0) (by decide) (by decide) (rc_130) rfl ?_
      rw [u2_k _ _ (by decide)]
      refine b_ir d_Mo_outcome_31 rfl ?_
      exact absurd h20 h5
    · refine b_ic (pc2 := 24) (x := Int32.ofNat 0) d_Mo_outcome_23 rfl rfl ?_
      refine b_go (pc2 := 31) d_Mo_outcome_24 rfl ?_
      refine b_ir d_Mo_outcome_31 rfl ?_
      exact ⟨by rw [if_pos (Decidable.not_not.mp h5)]; rfl, rfl, by rw [if_pos (Decidable.not_not.mp h5)]; rfl, rfl, rfl⟩
end MO
