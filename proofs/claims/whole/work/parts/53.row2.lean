/-! Part 53: the methods of Row, over lists -/
def bw_SR (S : am_S) (R : Nat → Option Nat) : Prop := ∀ a N, R a = some N → S.1 a = some (7, 2) ∧ S.2.1 a 0 = some (a + 1) ∧ S.1 (a + 1) = some (100, N) ∧ N ≤ 1000
section RW2
variable {d : Nat} {S : am_S} {R : Nat → Option Nat} {a b N Nb : Nat} {W W1 : bw_W} {J J1 I : bw_J} {g : Nat} {L : bw_L}
theorem bw_lift {j : Nat} {as : List Value} {v : Option Value} (h : ∀ I, bw_hp R W J I → ∃ I1, bw_hp R W1 J1 I1 ∧ bm d S r0 j as W I g L (bR v W I1 g L)) : bm d S R j as W J g L (bR v W1 J1 g L) := by
  intro I hI
  obtain ⟨I1, h1, h2⟩ := h I hI
  refine am_m_up (Nat.le_refl _) ?_ (h2 I ⟨fun _ _ q => (by cases q), fun _ _ => rfl⟩)
  intro o h' q
  obtain ⟨W2, J2, g2, I2, L2, rfl, q0, rfl, rfl, rfl, rfl, rfl⟩ := q
  have : I2 = J2 := funext fun c => q0.2 c (bw_rc0 c)
  subst this
  exact ⟨W1, J1, g2, I2, L2, rfl, h1, rfl, rfl, rfl, rfl, rfl⟩
theorem bw_same (hI : bw_hp R W J I) {j : Nat} {as : List Value} {v : Option Value} (h : bm d S r0 j as W I g L (bR v W I g L)) : ∃ I1, bw_hp R W J I1 ∧ bm d S r0 j as W I g L (bR v W I1 g L) := ⟨I, hI, h⟩
theorem bw_row (hSR : bw_SR S R) (ha : R a = some N) (hI : bw_hp R W J I) {l : List Int32} {I1 : bw_J} (hl : l.length ≤ N) (h1 : I1 a 1 = Int32.ofNat l.length) (h2 : ∀ k, k < l.length → I1 (a + 1) k = l.getD k 0) (h3 : ∀ c, ¬ c = a → ¬ c = a + 1 → I1 c = I c) : bw_hp R (am_u1 W a l) J I1 := by
  obtain ⟨s1, -, s3, -⟩ := hSR a N ha
  refine ⟨fun b Nb hb => ?_, fun q hq => ?_⟩
  · by_cases hba : b = a
    · subst hba
      rw [ha] at hb
      cases hb
      unfold am_u1
      rw [if_pos rfl]
      exact ⟨h1, hl, h2⟩
    · obtain ⟨t1, -, t3, -⟩ := hSR b Nb hb
      have n1 : ¬ b = a + 1 := fun e => by rw [e, s3] at t1; cases t1
      have n2 : ¬ b + 1 = a := fun e => by rw [e, s1] at t3; cases t3
      unfold am_u1
      rw [if_neg hba, h3 b hba n1, h3 (b + 1) n2 (by omega)]
      exact hI.1 b Nb hb
  · have n1 : ¬ q = a := fun e => by subst e; unfold bw_rc at hq; rw [ha] at hq; cases hq
    have n2 : ¬ q = a + 1 := fun e => by subst e; unfold bw_rc at hq; simp [ha] at hq
    rw [h3 q n1 n2]
    exact hI.2 q hq
theorem rw_length (hd : 1 ≤ d) (hSR : bw_SR S R) (ha : R a = some N) : bm d S R 37 [.ref a] W J g L (bR (some (.int (Int32.ofNat (W a).length))) W J g L) := bw_lift fun I hI => by
  obtain ⟨s1, s2, s3, s4⟩ := hSR a N ha
  have h := ro_length (S := S) (a := a) (W := W) (J := I) (g := g) (L := L) hd s1
  rw [(hI.1 a N ha).1] at h
  exact bw_same hI h
theorem rw_clear (hd : 1 ≤ d) (hSR : bw_SR S R) (ha : R a = some N) : bm d S R 38 [.ref a] W J g L (bR none (am_u1 W a []) J g L) := bw_lift fun I hI => by
  obtain ⟨s1, s2, s3, s4⟩ := hSR a N ha
  refine ⟨_, bw_row hSR ha hI (Nat.zero_le _) ?_ (fun k hk => absurd hk (Nat.not_lt_zero _)) (fun c h1 h2 => ?_), ro_clear hd s1⟩
  · unfold am_u2; rw [if_pos rfl, if_pos rfl]; rfl
  · unfold am_u2; rw [if_neg h1]
theorem rw_has (hd : 1 ≤ d) (hSR : bw_SR S R) (ha : R a = some N) (k : Int32) : bm d S R 118 [.ref a, .int k] W J g L (bR (some (.int (if ¬ k < 0 ∧ k < Int32.ofNat (W a).length then 1 else 0))) W J g L) := bw_lift fun I hI => by
  obtain ⟨s1, s2, s3, s4⟩ := hSR a N ha
  have h := ro_has (S := S) (a := a) (W := W) (J := I) (g := g) (L := L) hd s1 k
  rw [(hI.1 a N ha).1] at h
  exact bw_same hI h
theorem rw_at (hd : 1 ≤ d) (hSR : bw_SR S R) (ha : R a = some N) {k : Nat} (hk : k < 2147483648) : bm d S R 67 [.ref a, .int (Int32.ofNat k)] W J g L (bR (some (.int ((W a).getD k 0))) W J g L) := bw_lift fun I hI => by
  obtain ⟨s1, s2, s3, s4⟩ := hSR a N ha
  obtain ⟨i1, i2, i3⟩ := hI.1 a N ha
  have h := ro_at (S := S) (a := a) (W := W) (J := I) (g := g) (L := L) hd s1 s2 s3 s4 i1 i2 (Int32.ofNat k)
  have e : (if ¬ Int32.ofNat k < 0 ∧ Int32.ofNat k < I a 1 then I (a + 1) (Int32.ofNat k).toNatClampNeg else 0) = (W a).getD k 0 := by
    by_cases hh : k < (W a).length
    · rw [if_pos ⟨i_nn hk, by rw [i1]; exact (i_lt hk (by omega)).mpr hh⟩, i_tn hk, i3 k hh]
    · rw [if_neg (fun q => hh (by have := q.2; rw [i1] at this; exact (i_lt hk (by omega)).mp this)), l_get (by omega)]
  rw [e] at h
  exact bw_same hI h
theorem rw_cut (hd : 1 ≤ d) (hSR : bw_SR S R) (ha : R a = some N) {k : Nat} (hk : k < 2147483648) : bm d S R 103 [.ref a, .int (Int32.ofNat k)] W J g L (bR none (am_u1 W a ((W a).take k)) J g L) := bw_lift fun I hI => by
  obtain ⟨s1, s2, s3, s4⟩ := hSR a N ha
  obtain ⟨i1, i2, i3⟩ := hI.1 a N ha
  have hlen : ((W a).take k).length = min k (W a).length := List.length_take
  have h := ro_cut (S := S) (a := a) (W := W) (J := I) (g := g) (L := L) hd s1 (Int32.ofNat k)
  have e : (if ¬ Int32.ofNat k < 0 ∧ Int32.ofNat k < I a 1 then am_u2 I a 1 (Int32.ofNat k) else I) = if k < (W a).length then am_u2 I a 1 (Int32.ofNat k) else I := by
    by_cases hh : k < (W a).length
    · rw [if_pos ⟨i_nn hk, by rw [i1]; exact (i_lt hk (by omega)).mpr hh⟩, if_pos hh]
    · rw [if_neg (fun q => hh (by have := q.2; rw [i1] at this; exact (i_lt hk (by omega)).mp this)), if_neg hh]
  rw [e] at h
  refine ⟨_, bw_row hSR ha hI (by rw [hlen]; omega) ?_ (fun q hq => ?_) (fun c h1 h2 => ?_), h⟩
  · rw [hlen]
    by_cases hh : k < (W a).length
    · rw [if_pos hh]
      unfold am_u2; rw [if_pos rfl, if_pos rfl, Nat.min_eq_left (by omega)]
    · rw [if_neg hh, i1, Nat.min_eq_right (by omega)]
  · rw [hlen] at hq
    have e : (if k < (W a).length then am_u2 I a 1 (Int32.ofNat k) else I) (a + 1) q = I (a + 1) q := by
      split
      · unfold am_u2; rw [if_neg (by omega)]
      · rfl
    rw [e, i3 q (by omega), List.getD_eq_getElem?_getD, List.getD_eq_getElem?_getD, List.getElem?_take_of_lt (by omega)]
  · split
    · unfold am_u2; rw [if_neg h1]
    · rfl
theorem rw_add (hd : 1 ≤ d) (hSR : bw_SR S R) (ha : R a = some N) {x : Int32} (hr : (W a).length < N) : bm d S R 13 [.ref a, .int x] W J g L (bR none (am_u1 W a (W a ++ [x &&& 255])) J g L) := bw_lift fun I hI => by
  obtain ⟨s1, s2, s3, s4⟩ := hSR a N ha
  obtain ⟨i1, i2, i3⟩ := hI.1 a N ha
  have h := ro_add (S := S) (a := a) (W := W) (J := I) (g := g) (L := L) hd s1 s2 s3 s4 i1 i2 x
  rw [if_pos hr] at h
  have hlen : (W a ++ [x &&& 255]).length = (W a).length + 1 := by simp
  refine ⟨_, bw_row hSR ha hI (by rw [hlen]; omega) ?_ (fun q hq => ?_) (fun c h1 h2 => ?_), h⟩
  · rw [hlen]; unfold am_u2; rw [if_pos rfl, if_pos rfl]
  · rw [hlen] at hq
    unfold am_u2
    rw [if_neg (by omega), if_pos rfl]
    by_cases hh : q = (W a).length
    · subst hh
      rw [if_pos rfl, List.getD_eq_getElem?_getD]
      simp
    · rw [if_neg hh, i3 q (by omega), List.getD_eq_getElem?_getD, List.getD_eq_getElem?_getD, List.getElem?_append_left (by omega)]
  · unfold am_u2; rw [if_neg h1, if_neg h2]
theorem rw_addFrom (hd : 1 ≤ d) (hSR : bw_SR S R) (ha : R a = some N) (hb : R b = some Nb) (hab : ¬ b = a) {f mo : Nat} (hf : f ≤ 100000) (ho : mo ≤ 100000) : bm d S R 43 [.ref a, .ref b, .int (Int32.ofNat f), .int (Int32.ofNat mo)] W J g L (bR none (am_u1 W a (W a ++ (((W b).drop f).take mo).take (N - (W a).length))) J g L) := bw_lift fun I hI => by
  obtain ⟨s1, s2, s3, s4⟩ := hSR a N ha
  obtain ⟨t1, t2, t3, t4⟩ := hSR b Nb hb
  obtain ⟨i1, i2, i3⟩ := hI.1 a N ha
  obtain ⟨j1, j2, j3⟩ := hI.1 b Nb hb
  have h := ro_addFrom (S := S) (a := a) (b := b) (W := W) (J := I) (g := g) (L := L) hd s1 s2 s3 s4 t1 t2 t3 t4 i1 i2 j1 j2 hf ho (rfl : min (min mo ((W b).length - f)) (N - (W a).length) = _)
  generalize hq : min (min mo ((W b).length - f)) (N - (W a).length) = q at h
  have hl2 : ((((W b).drop f).take mo).take (N - (W a).length)).length = q := by
    rw [List.length_take, List.length_take, List.length_drop, ← hq, Nat.min_comm]
  have hlen : (W a ++ (((W b).drop f).take mo).take (N - (W a).length)).length = (W a).length + q := by rw [List.length_append, hl2]
  refine ⟨_, bw_row hSR ha hI (by rw [hlen]; omega) ?_ (fun k hk => ?_) (fun c h1 h2 => ?_), h⟩
  · rw [hlen]
    by_cases h0 : 0 < q
    · rw [if_pos h0]; unfold am_u2; rw [if_pos rfl, if_pos rfl]
    · rw [if_neg h0, i1, show (W a).length + q = (W a).length by omega]
  · rw [hlen] at hk
    have e : (if 0 < q then am_u2 (am_u1 I (a + 1) (va_cpy (I (b + 1)) (I (a + 1)) f (W a).length q)) a 1 (Int32.ofNat ((W a).length + q)) else I) (a + 1) k = if (W a).length ≤ k then I (b + 1) (f + (k - (W a).length)) else I (a + 1) k := by
      by_cases h0 : 0 < q
      · rw [if_pos h0]
        unfold am_u2 am_u1 va_cpy
        rw [if_neg (by omega), if_pos rfl]
        by_cases hh : (W a).length ≤ k
        · rw [if_pos ⟨hh, hk⟩, if_pos hh]
        · rw [if_neg (fun z => hh z.1), if_neg hh]
      · rw [if_neg h0, if_neg (by omega)]
    rw [e]
    by_cases hh : (W a).length ≤ k
    · rw [if_pos hh, List.getD_eq_getElem?_getD, List.getElem?_append_right hh, List.getElem?_take_of_lt (by omega), List.getElem?_take_of_lt (by omega), List.getElem?_drop, ← List.getD_eq_getElem?_getD]
      exact j3 _ (by omega)
    · rw [if_neg hh, i3 k (by omega), List.getD_eq_getElem?_getD, List.getD_eq_getElem?_getD, List.getElem?_append_left (by omega)]
  · by_cases h0 : 0 < q
    · rw [if_pos h0]; unfold am_u2 am_u1; rw [if_neg h1, if_neg h2]
    · rw [if_neg h0]
theorem rw_overlay (hd : 1 ≤ d) (hSR : bw_SR S R) (ha : R a = some N) (hb : R b = some Nb) (hab : ¬ b = a) {f p : Nat} (hf : f ≤ (W b).length) (hp : p ≤ (W a).length) (hpN : p + ((W b).length - f) ≤ N) : bm d S R 85 [.ref a, .int (Int32.ofNat p), .ref b, .int (Int32.ofNat f)] W J g L (bR none (am_u1 W a ((W a).take p ++ (W b).drop f ++ (W a).drop (p + ((W b).length - f)))) J g L) := bw_lift fun I hI => by
  obtain ⟨s1, s2, s3, s4⟩ := hSR a N ha
  obtain ⟨t1, t2, t3, t4⟩ := hSR b Nb hb
  obtain ⟨i1, i2, i3⟩ := hI.1 a N ha
  obtain ⟨j1, j2, j3⟩ := hI.1 b Nb hb
  have h := ro_overlay (S := S) (a := a) (b := b) (W := W) (J := I) (g := g) (L := L) hd s1 s2 s3 s4 t1 t2 t3 t4 i1 i2 j1 j2 hf (show p ≤ 100000 by omega)
  generalize hq : (W b).length - f = q at h hpN ⊢
  have hlen : ((W a).take p ++ (W b).drop f ++ (W a).drop (p + q)).length = max (W a).length (p + q) := by
    rw [List.length_append, List.length_append, List.length_take, List.length_drop, List.length_drop, hq]
    omega
  refine ⟨_, bw_row hSR ha hI (by rw [hlen]; omega) ?_ (fun k hk => ?_) (fun c h1 h2 => ?_), h⟩
  · rw [hlen]
    by_cases h0 : f < (W b).length
    · rw [if_pos ⟨hp, h0, hpN⟩]; unfold am_u2; rw [if_pos rfl, if_pos rfl]
    · rw [if_neg (fun z => h0 z.2.1), i1, show max (W a).length (p + q) = (W a).length by omega]
  · rw [hlen] at hk
    have hc : (if p ≤ (W a).length ∧ f < (W b).length ∧ p + q ≤ N then am_u2 (am_u1 I (a + 1) (va_cpy (I (b + 1)) (I (a + 1)) f p q)) a 1 (Int32.ofNat (max (W a).length (p + q))) else I) (a + 1) k = if p ≤ k ∧ k < p + q then I (b + 1) (f + (k - p)) else I (a + 1) k := by
      by_cases h0 : f < (W b).length
      · rw [if_pos ⟨hp, h0, hpN⟩]
        unfold am_u2 am_u1 va_cpy
        rw [if_neg (by omega), if_pos rfl]
      · rw [if_neg (fun z => h0 z.2.1), if_neg (by omega)]
    rw [hc]
    by_cases hh : p ≤ k ∧ k < p + q
    · rw [if_pos hh, j3 _ (by omega), List.getD_eq_getElem?_getD, List.getD_eq_getElem?_getD, List.getElem?_append_left (by rw [List.length_append, List.length_take, List.length_drop]; omega), List.getElem?_append_right (by rw [List.length_take]; omega), List.getElem?_drop, List.length_take, show f + (k - min p (W a).length) = f + (k - p) by omega]
    · rw [if_neg hh]
      by_cases hk2 : k < p
      · rw [i3 k (by omega), List.getD_eq_getElem?_getD, List.getD_eq_getElem?_getD, List.append_assoc, List.getElem?_append_left (by rw [List.length_take]; omega), List.getElem?_take_of_lt (by omega)]
      · rw [i3 k (by omega), List.getD_eq_getElem?_getD, List.getD_eq_getElem?_getD, List.getElem?_append_right (by rw [List.length_append, List.length_take, List.length_drop]; omega), List.getElem?_drop, List.length_append, List.length_take, List.length_drop, show p + q + (k - (min p (W a).length + ((W b).length - f))) = k by omega]
  · by_cases h0 : p ≤ (W a).length ∧ f < (W b).length ∧ p + q ≤ N
    · rw [if_pos h0]; unfold am_u2 am_u1; rw [if_neg h1, if_neg h2]
    · rw [if_neg h0]
end RW2
