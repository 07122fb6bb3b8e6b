/-! Part 98: bits counted, and the channels in use -/
def us (x : Int32) (k : Nat) : Int32 := (x.toUInt32 >>> ((Int32.ofNat k).toUInt32 &&& Int32.toUInt32 31)).toInt32
theorem x_of (x : Int32) : x = Int32.ofNat x.toBitVec.toNat := Int32.toBitVec.inj (by rw [i_bv, BitVec.ofNat_toNat, BitVec.setWidth_eq])
theorem us_nat (x : Int32) {k : Nat} (h : k < 32) : (us x k).toBitVec.toNat = x.toBitVec.toNat / 2 ^ k := by
  have e : ∀ m : Fin 32, (((Int32.ofNat m.val).toUInt32 &&& Int32.toUInt32 31).toBitVec % 32).toNat = m.val := by decide +kernel
  show (x.toBitVec >>> (((Int32.ofNat k).toUInt32 &&& Int32.toUInt32 31).toBitVec % 32)).toNat = _
  rw [BitVec.ushiftRight_eq', BitVec.toNat_ushiftRight, e ⟨k, h⟩, Nat.shiftRight_eq_div_pow]
theorem us_of {X k : Nat} (hX : X < 4294967296) (h : k < 32) : us (Int32.ofNat X) k = Int32.ofNat (X / 2 ^ k) := by
  rw [x_of (us (Int32.ofNat X) k), us_nat _ h, i_bv, BitVec.toNat_ofNat, Nat.mod_eq_of_lt (show X < 2 ^ 32 by omega)]
theorem and1_nat (y : Int32) : y &&& Int32.ofNat 1 = Int32.ofNat 1 ↔ y.toBitVec.toNat % 2 = 1 := by
  have h : (y &&& Int32.ofNat 1).toBitVec.toNat = y.toBitVec.toNat % 2 := by
    show (y.toBitVec &&& BitVec.ofNat 32 1).toNat = _
    rw [BitVec.toNat_and, BitVec.toNat_ofNat]
    exact Nat.and_one_is_mod _
  constructor
  · intro e
    rw [← h, e]; rfl
  · intro e
    apply Int32.toBitVec.inj
    apply BitVec.eq_of_toNat_eq
    rw [h, e]; rfl
theorem bt_nat (x : Int32) {i : Nat} (h : i < 32) : bt x i = decide (x.toBitVec.toNat / 2 ^ i % 2 = 1) := by
  unfold bt
  refine decide_eq_decide.mpr ?_
  rw [and1_nat]
  have e : (x >>> (Int32.ofNat i &&& 31)).toBitVec = x.toBitVec.sshiftRight i := by
    show x.toBitVec.sshiftRight' ((Int32.ofNat i &&& 31).toBitVec.smod 32) = _
    rw [BitVec.sshiftRight_eq', i_sm h]
  rw [e]
  have q := BitVec.getLsbD_sshiftRight x.toBitVec i 0
  rw [if_pos (by omega)] at q
  have d1 : (x.toBitVec.sshiftRight i).getLsbD 0 = decide ((x.toBitVec.sshiftRight i).toNat % 2 = 1) := by
    show (x.toBitVec.sshiftRight i).toNat.testBit 0 = _
    rw [Nat.testBit_eq_decide_div_mod_eq]; simp
  have d2 : x.toBitVec.getLsbD i = decide (x.toBitVec.toNat / 2 ^ i % 2 = 1) := by
    show x.toBitVec.toNat.testBit i = _
    rw [Nat.testBit_eq_decide_div_mod_eq]
  rw [d1] at q
  have q2 : decide ((x.toBitVec.sshiftRight i).toNat % 2 = 1) = decide (x.toBitVec.toNat / 2 ^ i % 2 = 1) := by
    rw [q, ← d2]
    simp
  exact decide_eq_decide.mp q2
theorem us_bt (x : Int32) {i : Nat} (h : i < 32) : us x i &&& Int32.ofNat 1 = Int32.ofNat 1 ↔ bt x i = true := by
  rw [and1_nat, us_nat _ h, bt_nat _ h]
  simp
/-- how many of the first n bits are set -/
def cB (X : Nat) : Nat → Nat
  | 0 => 0
  | n + 1 => cB X n + X / 2 ^ n % 2
theorem cB_8 (X : Nat) : cB X 8 = X % 2 + X / 2 % 2 + X / 4 % 2 + X / 8 % 2 + X / 16 % 2 + X / 32 % 2 + X / 64 % 2 + X / 128 % 2 := by
  show 0 + X / 1 % 2 + X / 2 % 2 + X / 4 % 2 + X / 8 % 2 + X / 16 % 2 + X / 32 % 2 + X / 64 % 2 + X / 128 % 2 = _
  rw [Nat.zero_add, Nat.div_one]
theorem cB_5 (X : Nat) : cB X 5 = X % 2 + X / 2 % 2 + X / 4 % 2 + X / 8 % 2 + X / 16 % 2 := by
  show 0 + X / 1 % 2 + X / 2 % 2 + X / 4 % 2 + X / 8 % 2 + X / 16 % 2 = _
  rw [Nat.zero_add, Nat.div_one]
theorem cB_sp {b r : Nat} (h : b < 256) : ∀ n, cB (b + 256 * r) (8 + n) = cB b 8 + cB r n
  | 0 => by
    show cB (b + 256 * r) 8 = cB b 8 + 0
    rw [cB_8, cB_8, show (b + 256 * r) % 2 = b % 2 by omega, show (b + 256 * r) / 2 % 2 = b / 2 % 2 by omega, show (b + 256 * r) / 4 % 2 = b / 4 % 2 by omega, show (b + 256 * r) / 8 % 2 = b / 8 % 2 by omega, show (b + 256 * r) / 16 % 2 = b / 16 % 2 by omega, show (b + 256 * r) / 32 % 2 = b / 32 % 2 by omega, show (b + 256 * r) / 64 % 2 = b / 64 % 2 by omega, show (b + 256 * r) / 128 % 2 = b / 128 % 2 by omega]; rfl
  | n + 1 => by
    show cB (b + 256 * r) (8 + n) + (b + 256 * r) / 2 ^ (8 + n) % 2 = cB b 8 + (cB r n + r / 2 ^ n % 2)
    rw [cB_sp h n, Nat.pow_add, ← Nat.div_div_eq_div_mul, show (b + 256 * r) / 2 ^ 8 = r by omega]
    omega
theorem cB_hi {X n : Nat} (h : X < 2 ^ n) : ∀ m, cB X (n + m) = cB X n
  | 0 => rfl
  | m + 1 => by
    show cB X (n + m) + X / 2 ^ (n + m) % 2 = _
    rw [cB_hi h m, Nat.div_eq_of_lt (Nat.lt_of_lt_of_le h (Nat.pow_le_pow_right (by decide) (by omega)))]; rfl
theorem cB_le (X : Nat) : ∀ n, cB X n ≤ n
  | 0 => Nat.le_refl _
  | n + 1 => by
    show cB X n + X / 2 ^ n % 2 ≤ n + 1
    have := cB_le X n
    omega
theorem andB {a b c d : Nat} (ha : a < 256) (hc : c < 256) : (a + 256 * b) &&& (c + 256 * d) = (a &&& c) + 256 * (b &&& d) := by
  have hac : a &&& c < 2 ^ 8 := Nat.lt_of_le_of_lt Nat.and_le_left ha
  rw [Nat.add_comm a, Nat.add_comm c, Nat.add_comm (a &&& c)]
  apply Nat.eq_of_testBit_eq
  intro i
  rw [Nat.testBit_and, show (256 : Nat) = 2 ^ 8 from rfl, Nat.testBit_two_pow_mul_add _ ha, Nat.testBit_two_pow_mul_add _ hc, Nat.testBit_two_pow_mul_add _ hac]
  by_cases h : i < 8
  · rw [if_pos h, if_pos h, if_pos h, Nat.testBit_and]
  · rw [if_neg h, if_neg h, if_neg h, Nat.testBit_and]
theorem and4 {a0 a1 a2 a3 m : Nat} (h0 : a0 < 256) (h1 : a1 < 256) (h2 : a2 < 256) (hm : m < 256) : (a0 + 256 * (a1 + 256 * (a2 + 256 * a3))) &&& (m + 256 * (m + 256 * (m + 256 * m))) = (a0 &&& m) + 256 * ((a1 &&& m) + 256 * ((a2 &&& m) + 256 * (a3 &&& m))) := by
  rw [andB h0 hm, andB h1 hm, andB h2 hm]
def p1 (b : Nat) : Nat := b - ((b / 2) &&& 85)
def p2 (b : Nat) : Nat := (p1 b &&& 51) + ((p1 b / 4) &&& 51)
theorem pf1 {b t : Nat} (h : b < 256) (ht : t < 2) : ((b / 2 + 128 * t) &&& 85) = ((b / 2) &&& 85) ∧ ((b / 2) &&& 85) ≤ b := by
  have : ∀ (x : Fin 256) (y : Fin 2), ((x.val / 2 + 128 * y.val) &&& 85) = ((x.val / 2) &&& 85) ∧ ((x.val / 2) &&& 85) ≤ x.val := by decide +kernel
  exact this ⟨b, h⟩ ⟨t, ht⟩
theorem pf2 {b t : Nat} (h : b < 256) (ht : t < 4) : ((p1 b / 4 + 64 * t) &&& 51) = ((p1 b / 4) &&& 51) ∧ p1 b < 256 := by
  have : ∀ (x : Fin 256) (y : Fin 4), ((p1 x.val / 4 + 64 * y.val) &&& 51) = ((p1 x.val / 4) &&& 51) ∧ p1 x.val < 256 := by decide +kernel
  exact this ⟨b, h⟩ ⟨t, ht⟩
theorem pf3 {b t : Nat} (h : b < 256) (ht : t < 5) : ((p2 b + p2 b / 16 + 16 * t) &&& 15) = cB b 8 ∧ p2 b ≤ 68 ∧ p2 b % 16 < 5 := by
  have : ∀ (x : Fin 256) (y : Fin 5), ((p2 x.val + p2 x.val / 16 + 16 * y.val) &&& 15) = cB x.val 8 ∧ p2 x.val ≤ 68 ∧ p2 x.val % 16 < 5 := by decide +kernel
  exact this ⟨b, h⟩ ⟨t, ht⟩
theorem pf4 {n : Nat} (h : n ≤ 32) (t : Nat) : ((n + 256 * t) &&& 63) = n := by
  rw [show (63 : Nat) = 63 + 256 * 0 from rfl, andB (by omega) (by decide)]
  have : ∀ x : Fin 33, (x.val &&& 63) = x.val := by decide +kernel
  rw [this ⟨n, by omega⟩, Nat.and_zero]; rfl
theorem pf5 {q0 q1 q2 q3 X3 X4 X5 : Nat} (h0 : q0 ≤ 8) (h1 : q1 ≤ 8) (h2 : q2 ≤ 8) (h3 : q3 ≤ 8) (e3 : X3 = q0 + 256 * (q1 + 256 * (q2 + 256 * q3))) (e4 : X4 = X3 + X3 / 256) (e5 : X5 = X4 + X4 / 65536) : X3 < 1073741824 ∧ (X5 &&& 63) = q0 + (q1 + (q2 + q3)) := by
  refine ⟨by omega, ?_⟩
  have a1 : X3 / 256 = q1 + 256 * (q2 + 256 * q3) := by omega
  have a2 : X4 = (q0 + q1) + 256 * (q1 + q2) + 65536 * (q2 + q3) + 16777216 * q3 := by omega
  have a3 : X4 / 65536 = (q2 + q3) + 256 * q3 := by clear e3 e4 e5 a1; omega
  have a4 : X5 = (q0 + (q1 + (q2 + q3))) + 256 * (q1 + q2 + q3 + 256 * (q2 + q3) + 65536 * q3) := by clear e3 e4 a1; omega
  rw [a4]
  exact pf4 (by omega) _
theorem pop4 {b0 b1 b2 b3 X X1 X2 X3 X4 X5 : Nat} (h0 : b0 < 256) (h1 : b1 < 256) (h2 : b2 < 256) (h3 : b3 < 256) (eX : X = b0 + 256 * (b1 + 256 * (b2 + 256 * b3))) (e1 : X1 = X - ((X / 2) &&& 1431655765)) (e2 : X2 = (X1 &&& 858993459) + ((X1 / 4) &&& 858993459)) (e3 : X3 = (X2 + X2 / 16) &&& 252645135) (e4 : X4 = X3 + X3 / 256) (e5 : X5 = X4 + X4 / 65536) : ((X / 2) &&& 1431655765) ≤ X ∧ X1 < 4294967296 ∧ X2 < 2147483648 ∧ X3 < 1073741824 ∧ (X5 &&& 63) = cB b0 8 + (cB b1 8 + (cB b2 8 + cB b3 8)) := by
  have a1 : X / 2 = (b0 / 2 + 128 * (b1 % 2)) + 256 * ((b1 / 2 + 128 * (b2 % 2)) + 256 * ((b2 / 2 + 128 * (b3 % 2)) + 256 * (b3 / 2 + 128 * 0))) := by omega
  rw [a1, show (1431655765 : Nat) = 85 + 256 * (85 + 256 * (85 + 256 * 85)) from rfl, and4 (by omega) (by omega) (by omega) (by decide), (pf1 h0 (Nat.mod_lt _ (by decide))).1, (pf1 h1 (Nat.mod_lt _ (by decide))).1, (pf1 h2 (Nat.mod_lt _ (by decide))).1, (pf1 h3 (show 0 < 2 by decide)).1] at e1
  rw [a1, show (1431655765 : Nat) = 85 + 256 * (85 + 256 * (85 + 256 * 85)) from rfl, and4 (by omega) (by omega) (by omega) (by decide), (pf1 h0 (Nat.mod_lt _ (by decide))).1, (pf1 h1 (Nat.mod_lt _ (by decide))).1, (pf1 h2 (Nat.mod_lt _ (by decide))).1, (pf1 h3 (show 0 < 2 by decide)).1]
  have l0 := (pf1 (t := 0) h0 (by decide)).2
  have l1 := (pf1 (t := 0) h1 (by decide)).2
  have l2 := (pf1 (t := 0) h2 (by decide)).2
  have l3 := (pf1 (t := 0) h3 (by decide)).2
  have c1 : X1 = p1 b0 + 256 * (p1 b1 + 256 * (p1 b2 + 256 * p1 b3)) := by
    unfold p1; omega
  have m0 := (pf2 (t := 0) h0 (by decide)).2
  have m1 := (pf2 (t := 0) h1 (by decide)).2
  have m2 := (pf2 (t := 0) h2 (by decide)).2
  have m3 := (pf2 (t := 0) h3 (by decide)).2
  refine ⟨by omega, by omega, ?_⟩
  have a2 : X1 / 4 = (p1 b0 / 4 + 64 * (p1 b1 % 4)) + 256 * ((p1 b1 / 4 + 64 * (p1 b2 % 4)) + 256 * ((p1 b2 / 4 + 64 * (p1 b3 % 4)) + 256 * (p1 b3 / 4 + 64 * 0))) := by omega
  rw [a2, c1, show (858993459 : Nat) = 51 + 256 * (51 + 256 * (51 + 256 * 51)) from rfl, and4 m0 m1 m2 (by decide), and4 (by omega) (by omega) (by omega) (by decide), (pf2 h0 (Nat.mod_lt _ (by decide))).1, (pf2 h1 (Nat.mod_lt _ (by decide))).1, (pf2 h2 (Nat.mod_lt _ (by decide))).1, (pf2 h3 (show 0 < 4 by decide)).1] at e2
  have c2 : X2 = p2 b0 + 256 * (p2 b1 + 256 * (p2 b2 + 256 * p2 b3)) := by
    unfold p2; omega
  have n0 := (pf3 (t := 0) h0 (by decide)).2
  have n1 := (pf3 (t := 0) h1 (by decide)).2
  have n2 := (pf3 (t := 0) h2 (by decide)).2
  have n3 := (pf3 (t := 0) h3 (by decide)).2
  refine ⟨by omega, ?_⟩
  have a3 : X2 + X2 / 16 = (p2 b0 + p2 b0 / 16 + 16 * (p2 b1 % 16)) + 256 * ((p2 b1 + p2 b1 / 16 + 16 * (p2 b2 % 16)) + 256 * ((p2 b2 + p2 b2 / 16 + 16 * (p2 b3 % 16)) + 256 * (p2 b3 + p2 b3 / 16 + 16 * 0))) := by omega
  rw [a3, show (252645135 : Nat) = 15 + 256 * (15 + 256 * (15 + 256 * 15)) from rfl, and4 (by omega) (by omega) (by omega) (by decide), (pf3 h0 n1.2).1, (pf3 h1 n2.2).1, (pf3 h2 n3.2).1, (pf3 h3 (show 0 < 5 by decide)).1] at e3
  have k0 := cB_le b0 8
  have k1 := cB_le b1 8
  have k2 := cB_le b2 8
  have k3 := cB_le b3 8
  exact pf5 k0 k1 k2 k3 e3 e4 e5
def mk (u a : Int32) (k : Nat) : Bool := if k < 32 then bt u k else bt a (k - 32)
def cM (m : Nat → Bool) : Nat → Nat
  | 0 => 0
  | k + 1 => if m k = true then cM m k + 1 else cM m k
theorem cM_le (m : Nat → Bool) : ∀ k, cM m k ≤ k
  | 0 => Nat.le_refl _
  | k + 1 => by
    have := cM_le m k
    show (if m k = true then cM m k + 1 else cM m k) ≤ k + 1
    split <;> omega
theorem cM_u (u a : Int32) : ∀ k, k ≤ 32 → cM (mk u a) k = cB u.toBitVec.toNat k
  | 0, _ => rfl
  | k + 1, h => by
    show (if mk u a k = true then cM (mk u a) k + 1 else cM (mk u a) k) = cB u.toBitVec.toNat k + u.toBitVec.toNat / 2 ^ k % 2
    rw [cM_u u a k (by omega)]
    unfold mk
    rw [if_pos (show k < 32 by omega), bt_nat _ (by omega)]
    by_cases e : u.toBitVec.toNat / 2 ^ k % 2 = 1
    · rw [if_pos (by rw [decide_eq_true e]), e]
    · rw [if_neg (by rw [decide_eq_false e]; decide)]
      omega
theorem cM_a (u a : Int32) : ∀ k, k ≤ 5 → cM (mk u a) (32 + k) = cB u.toBitVec.toNat 32 + cB a.toBitVec.toNat k
  | 0, _ => cM_u u a 32 (by decide)
  | k + 1, h => by
    show (if mk u a (32 + k) = true then cM (mk u a) (32 + k) + 1 else cM (mk u a) (32 + k)) = cB u.toBitVec.toNat 32 + (cB a.toBitVec.toNat k + a.toBitVec.toNat / 2 ^ k % 2)
    rw [cM_a u a k (by omega)]
    unfold mk
    rw [if_neg (show ¬ 32 + k < 32 by omega), Nat.add_sub_cancel_left, bt_nat _ (by omega)]
    by_cases e : a.toBitVec.toNat / 2 ^ k % 2 = 1
    · rw [if_pos (by rw [decide_eq_true e]), e]; omega
    · rw [if_neg (by rw [decide_eq_false e]; decide)]
      omega
theorem cB_31 (A : Nat) : cB (A &&& 31) 32 = cB A 5 := by
  rw [show (31 : Nat) = 2 ^ 5 - 1 from rfl, Nat.and_two_pow_sub_one_eq_mod, show (32 : Nat) = 5 + 27 from rfl, cB_hi (Nat.mod_lt _ (by decide)) 27, cB_5, cB_5]
  omega
theorem cB_32 {X : Nat} (h : X < 4294967296) : cB X 32 = cB (X % 256) 8 + (cB (X / 256 % 256) 8 + (cB (X / 65536 % 256) 8 + cB (X / 16777216) 8)) := by
  have e : X = X % 256 + 256 * (X / 256 % 256 + 256 * (X / 65536 % 256 + 256 * (X / 16777216))) := by omega
  conv => lhs; rw [e]
  rw [show (32 : Nat) = 8 + 24 from rfl, cB_sp (by omega), show (24 : Nat) = 8 + 16 from rfl, cB_sp (by omega), show (16 : Nat) = 8 + 8 from rfl, cB_sp (by omega)]
/-- the places in use, in order -/
def uO (m : Nat → Bool) : Nat → Nat → Int32
  | 0, _ => 0
  | k + 1, i => if m k = true then (if i = cM m k then Int32.ofNat k else uO m k i) else uO m k i
theorem uO_ok (m : Nat → Bool) : ∀ k i, i < cM m k → ∃ c, c < k ∧ uO m k i = Int32.ofNat c ∧ m c = true ∧ cM m c = i
  | 0, i, h => absurd h (Nat.not_lt_zero _)
  | k + 1, i, h => by
    have h' : i < if m k = true then cM m k + 1 else cM m k := h
    show ∃ c, c < k + 1 ∧ (if m k = true then (if i = cM m k then Int32.ofNat k else uO m k i) else uO m k i) = Int32.ofNat c ∧ m c = true ∧ cM m c = i
    by_cases hm : m k = true
    · rw [if_pos hm] at h'
      rw [if_pos hm]
      by_cases e : i = cM m k
      · rw [if_pos e]
        exact ⟨k, by omega, rfl, hm, e.symm⟩
      · rw [if_neg e]
        obtain ⟨c, q1, q2⟩ := uO_ok m k i (by omega)
        exact ⟨c, by omega, q2⟩
    · rw [if_neg hm] at h'
      rw [if_neg hm]
      obtain ⟨c, q1, q2⟩ := uO_ok m k i h'
      exact ⟨c, by omega, q2⟩
def bI (b : Bool) : Int32 := if b = true then Int32.ofNat 1 else Int32.ofNat 0
theorem bI_0 (b : Bool) : bI b = 0 ↔ b = false := by
  cases b <;> decide
theorem cnt_cM {m : Nat → Bool} {f : Nat → Int32} : ∀ k, (∀ i, i < k → f i = bI (m i)) → cnt f k = cM m k
  | 0, _ => rfl
  | k + 1, h => by
    show (if f k = 0 then cnt f k else cnt f k + 1) = if m k = true then cM m k + 1 else cM m k
    rw [cnt_cM k (fun i hi => h i (by omega)), h k (by omega)]
    by_cases e : m k = true
    · rw [if_pos e, if_neg (fun z => by rw [bI_0, e] at z; exact nomatch z)]
    · rw [if_neg e, if_pos ((bI_0 _).2 (by simpa using e))]
theorem cM_all : ∀ k, cM (fun _ => true) k = k
  | 0 => rfl
  | k + 1 => by
    show (if true = true then cM (fun _ => true) k + 1 else _) = k + 1
    rw [if_pos rfl, cM_all k]
/-- the hop, both ways -/
def rm12 (x : Int32) : Int32 := x - x / Int32.ofNat 12 * Int32.ofNat 12
theorem nn_msb (y : Int32) : 0 ≤ y ↔ y.toBitVec.msb = false := by
  rw [Int32.le_iff_toInt_le, BitVec.msb_eq_toInt]
  show (0 : Int) ≤ y.toBitVec.toInt ↔ _
  simp
theorem nn_xor (x : Int32) : 0 ≤ x ^^^ Int32.ofNat 12 ↔ 0 ≤ x := by
  rw [nn_msb, nn_msb]
  show (x.toBitVec ^^^ BitVec.ofNat 32 12).msb = false ↔ _
  rw [BitVec.msb_xor, show (BitVec.ofNat 32 12).msb = false from rfl, Bool.xor_false]
theorem rm12_neg {x : Int32} (h : ¬ 0 ≤ x) : ∃ n : Nat, n < 12 ∧ (rm12 x).toInt = -(n : Int) := by
  have hx : x.toInt < 0 := by
    rw [Int32.le_iff_toInt_le] at h
    have : (0 : Int32).toInt = 0 := rfl
    omega
  have hx2 : -2147483648 ≤ x.toInt := Int32.le_toInt x
  refine ⟨(-x.toInt).toNat % 12, Nat.mod_lt _ (by decide), ?_⟩
  unfold rm12
  have hd : x.toInt.tdiv 12 = -(((-x.toInt).toNat / 12 : Nat) : Int) := by
    have : x.toInt = -(((-x.toInt).toNat : Nat) : Int) := by omega
    conv => lhs; rw [this, Int.neg_tdiv]
    congr 1
  rw [Int32.toInt_sub, Int32.toInt_mul, Int32.toInt_div, show (Int32.ofNat 12).toInt = 12 from rfl, hd]
  rw [i_bm (x := -(((-x.toInt).toNat / 12 : Nat) : Int)) (by omega) (by omega), i_bm (x := -(((-x.toInt).toNat / 12 : Nat) : Int) * 12) (by omega) (by omega), i_bm (by omega) (by omega)]
  omega
theorem hop12 (x : Int32) : ∃ h, h ≤ 11 ∧ fmod x (Int32.ofNat 12) = Int32.ofNat h ∧ ((¬ 0 ≤ rm12 x ∧ rm12 x + Int32.ofNat 12 = Int32.ofNat h) ∨ (0 ≤ rm12 x ∧ rm12 x = Int32.ofNat h)) := by
  unfold fmod
  by_cases hx : 0 ≤ x
  · rw [if_pos ((nn_xor x).2 hx)]
    obtain ⟨n, hn, rfl⟩ := i_of (k := x) (by rw [Int32.not_lt]; exact hx)
    have := i_rem hn (show 12 < 2147483648 by decide) (by decide)
    refine ⟨n % 12, by omega, this, Or.inr ⟨?_, this⟩⟩
    unfold rm12
    rw [this]
    exact (i_le (a := 0) (by decide) (by omega)).2 (by omega)
  · rw [if_neg (fun z => hx ((nn_xor x).1 z))]
    obtain ⟨n, hn, e⟩ := rm12_neg hx
    show ∃ h, h ≤ 11 ∧ (if rm12 x = 0 then rm12 x else rm12 x + Int32.ofNat 12) = Int32.ofNat h ∧ _
    by_cases h0 : n = 0
    · subst h0
      have e0 : rm12 x = 0 := Int32.toInt_inj.mp (by rw [e]; rfl)
      rw [e0, if_pos rfl]
      exact ⟨0, by omega, rfl, Or.inr ⟨by decide, rfl⟩⟩
    · have e1 : ¬ 0 ≤ rm12 x := by
        rw [Int32.le_iff_toInt_le, e]
        have : (0 : Int32).toInt = 0 := rfl
        omega
      have e2 : rm12 x + Int32.ofNat 12 = Int32.ofNat (12 - n) := by
        apply Int32.toInt_inj.mp
        rw [Int32.toInt_add, e, show (Int32.ofNat 12).toInt = 12 from rfl, i_ti (by omega), i_bm (by omega) (by omega)]
        omega
      rw [if_neg (fun z => e1 (by rw [z]; decide))]
      exact ⟨12 - n, by omega, e2, Or.inl ⟨e1, e2⟩⟩
