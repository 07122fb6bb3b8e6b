/-! Part 93: lists and bytes of the reference's packets -/
theorem x255 (x y : Int32) : (x ^^^ y) &&& 255 = (x &&& 255) ^^^ (y &&& 255) := by
  apply Int32.toBitVec.inj
  show (x.toBitVec ^^^ y.toBitVec) &&& 255#32 = (x.toBitVec &&& 255#32) ^^^ (y.toBitVec &&& 255#32)
  apply BitVec.eq_of_getLsbD_eq
  intro i hi
  rw [BitVec.getLsbD_and, BitVec.getLsbD_xor, BitVec.getLsbD_xor, BitVec.getLsbD_and, BitVec.getLsbD_and]
  cases x.toBitVec.getLsbD i <;> cases y.toBitVec.getLsbD i <;> cases (255#32).getLsbD i <;> rfl
theorem a255 (x : Int32) : (x &&& 255) &&& 255 = x &&& 255 := by
  apply Int32.toBitVec.inj
  show (x.toBitVec &&& 255#32) &&& 255#32 = x.toBitVec &&& 255#32
  apply BitVec.eq_of_getLsbD_eq
  intro i hi
  rw [BitVec.getLsbD_and, BitVec.getLsbD_and]
  cases x.toBitVec.getLsbD i <;> cases (255#32).getLsbD i <;> rfl
theorem n255 (x : Int32) : ∃ n, n < 256 ∧ x &&& 255 = Int32.ofNat n := by
  refine ⟨(x.toBitVec &&& 255#32).toNat, ?_, ?_⟩
  · rw [BitVec.toNat_and]
    exact Nat.lt_of_le_of_lt Nat.and_le_right (by decide)
  · apply Int32.toBitVec.inj
    rw [i_bv, BitVec.ofNat_toNat, BitVec.setWidth_eq]
    rfl
theorem w8_m : ∀ (k : Nat) (p : Nat × Nat), k ≤ 8 → p.2 < 2 ^ (8 - k) → (w8 k p).2 < 256
  | 0, _, _, h => h
  | k + 1, p, hk, h => by
    refine w8_m k _ (by omega) ?_
    have e1 : 8 - (k + 1) = 7 - k := by omega
    have e2 : 2 ^ (8 - k) = 2 ^ (7 - k) * 2 := by rw [show 8 - k = (7 - k) + 1 by omega, Nat.pow_succ]
    rw [e1] at h
    show (if 64 ≤ p.1 then p.2 + 2 ^ (7 - k) else p.2) < 2 ^ (8 - k)
    rw [e2]
    by_cases h2 : 64 ≤ p.1
    · rw [if_pos h2]; omega
    · rw [if_neg h2]; omega
theorem wMask_lt (c j : Nat) : wMask c j < 256 := w8_m 8 (wReg c j, 0) (by decide) (show 0 < 2 ^ (8 - 8) by decide)
/-- the masks of a channel -/
def mkf (c : Nat) : Nat → Int32 := fun k => Int32.ofNat (wMask c k)
theorem wz_get (m : Nat → Int32) : ∀ (l : List Int32) (i k : Nat), k < l.length → (wz m i l).getD k 0 = (l.getD k 0 ^^^ m (i + k)) &&& 255
  | [], _, _, h => absurd h (by simp)
  | x :: l, i, 0, _ => rfl
  | x :: l, i, k + 1, h => by
    have := wz_get m l (i + 1) k (by simpa using h)
    rw [show i + (k + 1) = i + 1 + k by omega]
    exact this
theorem hz_get (v : Int64) (m : Nat → Int32) : ∀ (l : List Int32) (i k : Nat), k < l.length → (hz v m i l).getD k 0 = ((l.getD k 0 ^^^ sp8 v (i + k)) ^^^ m (i + k)) &&& 255
  | [], _, _, h => absurd h (by simp)
  | x :: l, i, 0, _ => rfl
  | x :: l, i, k + 1, h => by
    have := hz_get v m l (i + 1) k (by simpa using h)
    rw [show i + (k + 1) = i + 1 + k by omega]
    exact this
theorem wz_cg {m m' : Nat → Int32} : ∀ (l : List Int32) (i : Nat), (∀ k, k < i + l.length → m k = m' k) → wz m i l = wz m' i l
  | [], _, _ => rfl
  | x :: l, i, h => by
    show _ :: _ = _ :: _
    rw [h i (by simp), wz_cg l (i + 1) (fun k hk => h k (by simp only [List.length_cons]; omega))]
theorem hz_cg {v : Int64} {m m' : Nat → Int32} : ∀ (l : List Int32) (i : Nat), (∀ k, k < i + l.length → m k = m' k) → hz v m i l = hz v m' i l
  | [], _, _ => rfl
  | x :: l, i, h => by
    show _ :: _ = _ :: _
    rw [h i (by simp), hz_cg l (i + 1) (fun k hk => h k (by simp only [List.length_cons]; omega))]
/-- all are bytes -/
def byl (l : List Int32) : Prop := ∀ k, l.getD k 0 &&& 255 = l.getD k 0
theorem byl_n {l : List Int32} (h : byl l) (k : Nat) : ∃ n, n < 256 ∧ l.getD k 0 = Int32.ofNat n := by
  obtain ⟨n, h1, h2⟩ := n255 (l.getD k 0)
  exact ⟨n, h1, by rw [← h k]; exact h2⟩
theorem byl_nil : byl [] := fun k => by rw [l_get (show ([] : List Int32).length ≤ k by simp)]; rfl
theorem byl_cons {x : Int32} {l : List Int32} (hx : x &&& 255 = x) (h : byl l) : byl (x :: l) := fun k => match k with
  | 0 => hx
  | k + 1 => h k
theorem byl_tail {x : Int32} {l : List Int32} (h : byl (x :: l)) : byl l := fun k => h (k + 1)
theorem byl_app : ∀ {l l2 : List Int32}, byl l → byl l2 → byl (l ++ l2)
  | [], _, _, h => h
  | _ :: _, _, h1, h2 => byl_cons (h1 0) (byl_app (byl_tail h1) h2)
theorem byl_drop : ∀ {l : List Int32} (n : Nat), byl l → byl (l.drop n)
  | _, 0, h => h
  | [], n + 1, h => byl_nil
  | _ :: _, n + 1, h => byl_drop n (byl_tail h)
theorem byl_take : ∀ {l : List Int32} (n : Nat), byl l → byl (l.take n)
  | _, 0, h => byl_nil
  | [], n + 1, h => byl_nil
  | _ :: _, n + 1, h => byl_cons (h 0) (byl_take n (byl_tail h))
theorem byl_wz (m : Nat → Int32) : ∀ (l : List Int32) (i : Nat), byl (wz m i l)
  | [], _ => byl_nil
  | _ :: l, i => byl_cons (a255 _) (byl_wz m l (i + 1))
theorem byl_hz (v : Int64) (m : Nat → Int32) : ∀ (l : List Int32) (i : Nat), byl (hz v m i l)
  | [], _ => byl_nil
  | _ :: l, i => byl_cons (a255 _) (byl_hz v m l (i + 1))
theorem byl_by8 (v : Int64) : ∀ n, byl (by8 v n)
  | 0 => byl_nil
  | n + 1 => byl_cons (a255 _) (byl_by8 v n)
theorem byl_pkt {kd nx tu : Nat} {h : List Int32} (hk : kd < 4) (hn : nx ≤ 1) (ht : tu ≤ 1) (hh : h.length ≤ 7) (hb : byl h) : byl (pkt kd nx tu h) := byl_app (byl_app (byl_cons (b255 (by omega)) (byl_cons (b255 (by omega)) byl_nil)) hb) (byl_by8 _ 3)
theorem pkt_len (kd nx tu : Nat) (h : List Int32) : (pkt kd nx tu h).length = h.length + 5 := by
  unfold pkt pk0
  simp only [List.length_append, List.length_cons, List.length_nil, by8_len]
  omega
theorem lst_ovw (to : Nat) (l : List Int32) (f : Nat → Int32) : ∀ (m i : Nat), i + m ≤ l.length → lst (ovw to l f) (to + i) m = (l.drop i).take m
  | 0, _, _ => by rw [List.take_zero]; rfl
  | m + 1, i, h => by
    rw [l_dt (by omega)]
    show ovw to l f (to + i) :: lst (ovw to l f) (to + (i + 1)) m = _
    rw [ovw_in (by omega), lst_ovw to l f m (i + 1) (by omega)]
theorem lst_ovw0 (l : List Int32) (f : Nat → Int32) {m : Nat} (h : m ≤ l.length) : lst (ovw 0 l f) 0 m = l.take m := by
  have := lst_ovw 0 l f m 0 (by omega)
  simpa using this
theorem lst_ovwA (to : Nat) (l : List Int32) (f : Nat → Int32) {m : Nat} (h : m = l.length) : lst (ovw to l f) to m = l := by
  have := lst_ovw to l f m 0 (by omega)
  rw [h] at *
  simpa using this
theorem ovw_0 {l : List Int32} {f : Nat → Int32} {k : Nat} (h : k < l.length) : ovw 0 l f k = l.getD k 0 := by
  have := ovw_in (to := 0) (f := f) h
  rwa [Nat.zero_add] at this
theorem ovw_ou {to k : Nat} {l : List Int32} {f : Nat → Int32} (h : ¬ (to ≤ k ∧ k < to + l.length)) : ovw to l f k = f k := if_neg h
theorem xz_ovw {l : List Int32} (hb : byl l) (f : Nat → Int32) (c : Nat) {n : Nat} (hn : n = l.length) : xz (ovw 0 l f) c n = ovw 0 (wz (mkf c) 0 l) f := by
  subst hn
  funext q
  unfold xz
  by_cases h : q < l.length
  · rw [if_pos h, ovw_0 h, ovw_0 (by rw [wz_len]; exact h), wz_get _ _ _ _ h, x255, hb q, Nat.zero_add]
    show _ = _ ^^^ (Int32.ofNat (wMask c q) &&& 255)
    rw [b255 (wMask_lt c q)]
  · rw [if_neg h, ovw_ou (by omega), ovw_ou (by rw [wz_len]; omega)]
/-- spoilt: the first i bytes -/
def sx (v : Int64) (i : Nat) (f : Nat → Int32) : Nat → Int32 := fun q => if q < i then f q ^^^ sp8 v q else f q
theorem sx_0 (v : Int64) (f : Nat → Int32) : sx v 0 f = f := funext fun q => if_neg (by omega)
theorem sx_step (v : Int64) {i : Nat} (hi : i < 8) (f : Nat → Int32) : am_u1 (sx v i f) i (sx v i f i ^^^ by0 v (7 - i)) = sx v (i + 1) f := by
  funext q
  by_cases h : q = i
  · subst h
    rw [u1_at]
    unfold sx sp8
    rw [if_neg (by omega), if_pos (by omega), if_pos hi]
  · rw [u1_ne _ _ h]
    unfold sx
    by_cases h2 : q < i
    · rw [if_pos h2, if_pos (by omega)]
    · rw [if_neg h2, if_neg (by omega)]
theorem sp8_b (v : Int64) (k : Nat) : sp8 v k &&& 255 = sp8 v k := by
  unfold sp8
  by_cases h : k < 8
  · rw [if_pos h]; exact a255 _
  · rw [if_neg h]; rfl
theorem sx_ovw {l : List Int32} (hb : byl l) (f : Nat → Int32) (v : Int64) (c : Nat) {n : Nat} (hn : n = l.length) : xz (sx v (min 8 n) (ovw 0 l f)) c n = ovw 0 (hz v (mkf c) 0 l) f := by
  subst hn
  funext q
  unfold xz sx
  by_cases h : q < l.length
  · rw [if_pos h, ovw_0 h, ovw_0 (by rw [hz_len]; exact h), hz_get _ _ _ _ _ h, x255, x255, hb q, Nat.zero_add, sp8_b]
    show _ = _ ^^^ (Int32.ofNat (wMask c q) &&& 255)
    rw [b255 (wMask_lt c q)]
    by_cases h8 : q < 8
    · rw [if_pos (by omega)]
    · rw [if_neg (by omega)]
      unfold sp8
      rw [if_neg h8, Int32.xor_zero]
  · rw [if_neg h, if_neg (by omega), ovw_ou (by omega), ovw_ou (by rw [hz_len]; omega)]
theorem by0_n {c k : Nat} (hc : c < 16777216) (hk : k < 3) : by0 (Int32.ofNat c).toInt64 k = Int32.ofNat (c / 2 ^ (8 * k) % 2 ^ 8) := by
  obtain ⟨-, h2⟩ := by_sh (show k < 8 by omega)
  unfold by0
  apply Int32.toBitVec.inj
  show ((((BitVec.ofNat 32 c).signExtend 64) >>> (((Int32.ofNat 8 * Int32.ofNat k).toInt64.toUInt64 &&& Int64.toUInt64 63).toBitVec.umod 64#64)).signExtend 32) &&& 255#32 = BitVec.ofNat 32 (c / 2 ^ (8 * k) % 2 ^ 8)
  rw [h2]
  apply BitVec.eq_of_getLsbD_eq
  intro i hi
  rw [BitVec.getLsbD_and, BitVec.getLsbD_signExtend, BitVec.ushiftRight_eq', BitVec.getLsbD_ushiftRight, BitVec.toNat_ofNat, Nat.mod_eq_of_lt (by omega), BitVec.getLsbD_signExtend, (by_255 hi).2, BitVec.getLsbD_ofNat, BitVec.getLsbD_ofNat, Nat.testBit_mod_two_pow, Nat.testBit_div_two_pow]
  by_cases h8 : i < 8
  · simp [h8, hi, show i < 64 by omega, show 8 * k + i < 64 by omega, show 8 * k + i < 32 by omega]
    rw [Nat.add_comm]
  · simp [h8]
theorem by8_3 {c : Nat} (hc : c < 16777216) : by8 (Int32.ofNat c).toInt64 3 = [Int32.ofNat (c / 65536), Int32.ofNat (c / 256 % 256), Int32.ofNat (c % 256)] := by
  show [by0 _ 2, by0 _ 1, by0 _ 0] = _
  rw [by0_n hc (by decide), by0_n hc (by decide), by0_n hc (by decide)]
  have : c / 2 ^ (8 * 2) % 2 ^ 8 = c / 65536 := by
    show c / 65536 % 256 = c / 65536
    exact Nat.mod_eq_of_lt (by omega)
  rw [this]
  simp
