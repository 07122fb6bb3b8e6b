/-! Part 54 (written by gen9.py): Row's methods with loops, over lists -/
theorem u1_u1 {α : Type} (f : Nat → α) (a : Nat) (x y : α) : am_u1 (am_u1 f a x) a y = am_u1 f a y := by
  funext k
  unfold am_u1
  by_cases h : k = a
  · rw [if_pos h, if_pos h]
  · rw [if_neg h, if_neg h, if_neg h]
theorem u1_at {α : Type} (f : Nat → α) (a : Nat) (x : α) : am_u1 f a x a = x := if_pos rfl
theorem u1_ne {α : Type} (f : Nat → α) {a b : Nat} (x : α) (h : ¬ b = a) : am_u1 f a x b = f b := if_neg h
theorem u1_id {α : Type} (f : Nat → α) (a : Nat) : am_u1 f a (f a) = f := by
  funext k
  unfold am_u1
  by_cases h : k = a
  · rw [if_pos h, h]
  · rw [if_neg h]
theorem i_pred (k : Nat) : Int32.ofNat k + -1 = Int32.ofNat k - Int32.ofNat 1 := (Int32.sub_eq_add_neg _ _).symm
/-- a byte of a long, as Row.addNumber takes it -/
def by0 (v : Int64) (k : Nat) : Int32 := (v.toUInt64 >>> ((Int32.ofNat 8 * Int32.ofNat k).toInt64.toUInt64 &&& Int64.toUInt64 63)).toInt64.toInt32 &&& 255
/-- the n low bytes of a long, the high ones first -/
def by8 (v : Int64) : Nat → List Int32
  | 0 => []
  | n + 1 => by0 v n :: by8 v n
theorem by8_len (v : Int64) : ∀ n, (by8 v n).length = n
  | 0 => rfl
  | n + 1 => by show (by8 v n).length + 1 = n + 1; rw [by8_len v n]
section BY
variable {d : Nat} {S : am_S} {R : Nat → Option Nat} {M : am_M} {Qh : am_O → am_H → Prop} {pc pc2 : Nat} {al : List (Nat × Value)} {st r : List Value} {W : bw_W} {J : bw_J} {g : Nat} {L : bw_L} {c u : Nat}
theorem b_gw {i a N : Nat} (hd : decode (am_b M) pc = .ok (.getfield i, 3)) (hp : tb_pl (am_o M) i = (1, 7, 1, 0)) (hSR : bw_SR S R) (ha : R a = some N) (e : pc + 3 = pc2) (k : bH d S R M Qh pc2 al (.int (Int32.ofNat (W a).length) :: r) W J g L c u) : bH d S R M Qh pc al (.ref a :: r) W J g L c u := b_step hd fun I hI => by
  refine ⟨rfl, ?_⟩
  dsimp only [am_str, am_sti, am_stv]
  unfold am_get
  rw [show am_pl tb_G (am_o M) i = (1, 7, 1, 0) from hp]
  refine ⟨(hSR a N ha).1, by decide, ?_⟩
  rw [if_neg (by decide)]
  have : am_I (S, g, I, L) a 1 = Int32.ofNat (W a).length := (hI.1 a N ha).1
  rw [this]
  subst e
  exact k I hI
end BY
section RW3
variable {S : am_S} {R : Nat → Option Nat} {a b N Nb : Nat} {J : bw_J} {g : Nat} {L : bw_L}
theorem lp_addNumber {e : Nat} (he : 1 ≤ e) (hSR : bw_SR S R) (ha : R a = some N) {v : Int64} {n0 : Int32} : ∀ (k : Nat) (W : bw_W), k ≤ 1000 → (W a).length + k ≤ N → bT e S R mt_Ro_addNumber (bR none (am_u1 W a (W a ++ by8 v k)) J g L) 5 [(4, .int (Int32.ofNat k - Int32.ofNat 1)), (0, .ref a), (1, .long v), (3, .int n0)] [] W J g L 0 0 := by
  intro k
  induction k with
  | zero =>
    intro W hk hN
    refine b_il (pc2 := 7) d_Ro_addNumber_5 rfl rfl ?_
    refine b_ifd (pc2 := 28) d_Ro_addNumber_7 rfl rfl rfl rfl rfl (fun h7 => ?_) (fun h7 => ?_)
    rotate_left
    · exact absurd (show Int32.ofNat 0 - Int32.ofNat 1 < 0 by decide) h7
    refine b_vr d_Ro_addNumber_28 rfl ?_
    exact ⟨rfl, by rw [show W a ++ by8 v 0 = W a from List.append_nil _, u1_id], rfl, rfl, rfl⟩
  | succ k ih =>
    intro W hk hN
    rw [show Int32.ofNat (k + 1) - Int32.ofNat 1 = Int32.ofNat k from i_sub (a := k + 1) (b := 1) (by omega)]
    refine b_il (pc2 := 7) d_Ro_addNumber_5 rfl rfl ?_
    refine b_ifd (pc2 := 28) d_Ro_addNumber_7 rfl rfl rfl rfl rfl (fun h7 => ?_) (fun h7 => ?_)
    · exact absurd h7 (i_nn (by omega))
    refine b_aln (pc2 := 11) d_Ro_addNumber_10 rfl rfl ?_
    refine b_lln (pc2 := 12) d_Ro_addNumber_11 rfl rfl ?_
    refine b_bp (pc2 := 14) (x := Int32.ofNat 8) d_Ro_addNumber_12 rfl rfl ?_
    refine b_il (pc2 := 16) d_Ro_addNumber_14 rfl rfl ?_
    refine b_pure (pc2 := 17) d_Ro_addNumber_16 rfl rfl rfl ?_
    refine b_pure (pc2 := 18) d_Ro_addNumber_17 rfl rfl rfl ?_
    refine b_pure (pc2 := 19) d_Ro_addNumber_18 rfl rfl rfl ?_
    refine b_cv0 (pc2 := 22) (c2 := 0) (u2 := 0) (rw_add he hSR ha (by omega)) d_Ro_addNumber_19 q_7_29 (Nat.le_of_ble_eq_true rfl) rfl rfl ((hSR a N ha).1) (Nat.le_of_ble_eq_true rfl) rfl rfl (by decide) (by decide) rfl ?_
    refine b_inc (pc2 := 25) (al2 := [(4, _), (0, _), (1, _), (3, _)]) (y := -1) d_Ro_addNumber_22 (by decide) rfl rfl rfl rfl ?_
    refine b_go (pc2 := 5) d_Ro_addNumber_25 rfl ?_
    rw [i_pred]
    refine (fun h => ?_ : _ → _) (ih (am_u1 W a (W a ++ [by0 v k])) (by omega) (by rw [u1_at, List.length_append]; simp only [List.length_cons, List.length_nil]; omega))
    rw [u1_at, u1_u1, List.append_assoc] at h
    exact h
theorem rw_addNumber {d : Nat} (hd : 2 ≤ d) (hSR : bw_SR S R) (ha : R a = some N) {v : Int64} {n : Nat} {W : bw_W} (hn : n ≤ 1000) (hr : (W a).length + n ≤ N) : bm d S R 32 [.ref a, .long v, .int (Int32.ofNat n)] W J g L (bR none (am_u1 W a (W a ++ by8 v n)) J g L) := by
  obtain ⟨e, rfl⟩ : ∃ e, d = e + 1 := ⟨d - 1, by omega⟩
  refine bm_of (Nat.le_of_ble_eq_true rfl) (Or.inr bR_ret) ?_
  show bT e S R mt_Ro_addNumber _ 0 [(0, .ref a), (1, .long v), (3, .int (Int32.ofNat n))] [] W J g L 0 0
  refine b_iln (pc2 := 1) d_Ro_addNumber_0 rfl rfl ?_
  refine b_ic (pc2 := 2) (x := Int32.ofNat 1) d_Ro_addNumber_1 rfl rfl ?_
  refine b_pure (pc2 := 3) d_Ro_addNumber_2 rfl rfl rfl ?_
  refine b_is (pc2 := 5) (al2 := [(4, _), (0, _), (1, _), (3, _)]) d_Ro_addNumber_3 (by decide) rfl rfl ?_
  exact lp_addNumber (by omega) hSR ha n W hn hr
theorem lp_same {e : Nat} (he : 1 ≤ e) (hSR : bw_SR S R) (ha : R a = some N) (hb : R b = some Nb) {W : bw_W} (hl : (W a).length = (W b).length) {f0 : Int32} : ∀ (k f : Nat), f + k = (W a).length → (W a).length ≤ 1000 → bT e S R mt_Ro_isSameFrom (bR (some (.int (if (W a).drop f = (W b).drop f then 1 else 0))) W J g L) 15 [(3, .int (Int32.ofNat f)), (0, .ref a), (1, .int f0), (2, .ref b)] [] W J g L 0 0 := by
  intro k
  induction k with
  | zero =>
    intro f hf hN
    refine b_iln (pc2 := 16) d_Ro_isSameFrom_15 rfl rfl ?_
    refine b_aln (pc2 := 17) d_Ro_isSameFrom_16 rfl rfl ?_
    refine b_gw (pc2 := 20) d_Ro_isSameFrom_17 q_7_13 hSR (ha) rfl ?_
    refine b_ifd (pc2 := 44) d_Ro_isSameFrom_20 rfl rfl rfl rfl rfl (fun h20 => ?_) (fun h20 => ?_)
    rotate_left
    · exact absurd ((i_le (by omega) (by omega)).mpr (by omega)) h20
    refine b_ic (pc2 := 45) (x := Int32.ofNat 1) d_Ro_isSameFrom_44 rfl rfl ?_
    refine b_br d_Ro_isSameFrom_45 rfl (by decide) ?_
    exact ⟨by rw [if_pos (by rw [List.drop_eq_nil_of_le (by omega), List.drop_eq_nil_of_le (by omega)])]; rfl, rfl, rfl, rfl, rfl⟩
  | succ k ih =>
    intro f hf hN
    have da : (W a).drop f = (W a).getD f 0 :: (W a).drop (f + 1) := by
      rw [List.drop_eq_getElem_cons (by omega), List.getD_eq_getElem?_getD, List.getElem?_eq_getElem (by omega)]
      rfl
    have db : (W b).drop f = (W b).getD f 0 :: (W b).drop (f + 1) := by
      rw [List.drop_eq_getElem_cons (by omega), List.getD_eq_getElem?_getD, List.getElem?_eq_getElem (by omega)]
      rfl
    refine b_iln (pc2 := 16) d_Ro_isSameFrom_15 rfl rfl ?_
    refine b_aln (pc2 := 17) d_Ro_isSameFrom_16 rfl rfl ?_
    refine b_gw (pc2 := 20) d_Ro_isSameFrom_17 q_7_13 hSR (ha) rfl ?_
    refine b_ifd (pc2 := 44) d_Ro_isSameFrom_20 rfl rfl rfl rfl rfl (fun h20 => ?_) (fun h20 => ?_)
    · exact absurd h20 ((fun h => absurd ((i_le (by omega) (by omega)).mp h) (by omega)))
    refine b_aln (pc2 := 24) d_Ro_isSameFrom_23 rfl rfl ?_
    refine b_iln (pc2 := 25) d_Ro_isSameFrom_24 rfl rfl ?_
    refine b_cv1 (pc2 := 28) (c2 := 0) (u2 := 0) (rw_at he hSR ha (by omega)) d_Ro_isSameFrom_25 q_7_36 (Nat.le_of_ble_eq_true rfl) rfl rfl ((hSR a N ha).1) (Nat.le_of_ble_eq_true rfl) rfl rfl (by decide) (by decide) rfl ?_
    refine b_aln (pc2 := 29) d_Ro_isSameFrom_28 rfl rfl ?_
    refine b_iln (pc2 := 30) d_Ro_isSameFrom_29 rfl rfl ?_
    refine b_cv1 (pc2 := 33) (c2 := 0) (u2 := 0) (rw_at he hSR hb (by omega)) d_Ro_isSameFrom_30 q_7_36 (Nat.le_of_ble_eq_true rfl) rfl rfl ((hSR b Nb hb).1) (Nat.le_of_ble_eq_true rfl) rfl rfl (by decide) (by decide) rfl ?_
    refine b_ifd (pc2 := 38) d_Ro_isSameFrom_33 rfl rfl rfl rfl rfl (fun h33 => ?_) (fun h33 => ?_)
    · refine b_inc (pc2 := 41) (al2 := [(3, _), (0, _), (1, _), (2, _)]) (y := Int32.ofNat 1) d_Ro_isSameFrom_38 (by decide) rfl rfl rfl rfl ?_
      refine b_go (pc2 := 15) d_Ro_isSameFrom_41 rfl ?_
      rw [i_add]
      refine (fun h => ?_ : _ → _) (ih (f + 1) (by omega) hN)
      rw [da, db, h33]
      simp only [List.cons.injEq, true_and]
      exact h
    · refine b_ic (pc2 := 37) (x := Int32.ofNat 0) d_Ro_isSameFrom_36 rfl rfl ?_
      refine b_br d_Ro_isSameFrom_37 rfl (by decide) ?_
      exact ⟨by rw [if_neg (fun z => by rw [da, db] at z; injection z with z1 z2; exact h33 z1)]; rfl, rfl, rfl, rfl, rfl⟩
theorem rw_isSame {d : Nat} (hd : 2 ≤ d) (hSR : bw_SR S R) (ha : R a = some N) (hb : R b = some Nb) {f : Nat} {W : bw_W} (hN : (W a).length ≤ 1000) (hN2 : (W b).length ≤ 1000) (hf : f ≤ (W a).length) : bm d S R 106 [.ref a, .int (Int32.ofNat f), .ref b] W J g L (bR (some (.int (if (W a).length = (W b).length ∧ (W a).drop f = (W b).drop f then 1 else 0))) W J g L) := by
  obtain ⟨e, rfl⟩ : ∃ e, d = e + 1 := ⟨d - 1, by omega⟩
  refine bm_of (Nat.le_of_ble_eq_true rfl) (Or.inr bR_ret) ?_
  show bT e S R mt_Ro_isSameFrom _ 0 [(0, .ref a), (1, .int (Int32.ofNat f)), (2, .ref b)] [] W J g L 0 0
  refine b_aln (pc2 := 1) d_Ro_isSameFrom_0 rfl rfl ?_
  refine b_gw (pc2 := 4) d_Ro_isSameFrom_1 q_7_13 hSR (ha) rfl ?_
  refine b_aln (pc2 := 5) d_Ro_isSameFrom_4 rfl rfl ?_
  refine b_gw (pc2 := 8) d_Ro_isSameFrom_5 q_7_13 hSR (hb) rfl ?_
  refine b_ifd (pc2 := 13) d_Ro_isSameFrom_8 rfl rfl rfl rfl rfl (fun h8 => ?_) (fun h8 => ?_)
  · refine b_iln (pc2 := 14) d_Ro_isSameFrom_13 rfl rfl ?_
    refine b_isn (pc2 := 15) (al2 := [(3, _), (0, _), (1, _), (2, _)]) d_Ro_isSameFrom_14 (by decide) rfl rfl ?_
    have hl : (W a).length = (W b).length := (i_eq (by omega) (by omega)).mp h8
    refine (fun h => ?_ : _ → _) (lp_same (J := J) (g := g) (L := L) (e := e) (by omega) hSR ha hb hl (f0 := Int32.ofNat f) ((W a).length - f) f (by omega) hN)
    simp only [hl, true_and]
    exact h
  · refine b_ic (pc2 := 12) (x := Int32.ofNat 0) d_Ro_isSameFrom_11 rfl rfl ?_
    refine b_br d_Ro_isSameFrom_12 rfl (by decide) ?_
    exact ⟨by rw [if_neg (fun z => h8 (by rw [z.1]))]; rfl, rfl, rfl, rfl, rfl⟩
end RW3
