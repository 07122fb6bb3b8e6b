/-! Part 57: bits of small numbers -/
theorem i_bv (n : Nat) : (Int32.ofNat n).toBitVec = BitVec.ofNat 32 n := rfl
theorem i_and (a b : Nat) : Int32.ofNat a &&& Int32.ofNat b = Int32.ofNat (a &&& b) := Int32.toBitVec.inj (by rw [i_bv, BitVec.ofNat_and]; rfl)
theorem i_or (a b : Nat) : Int32.ofNat a ||| Int32.ofNat b = Int32.ofNat (a ||| b) := Int32.toBitVec.inj (by rw [i_bv, BitVec.ofNat_or]; rfl)
theorem i_xor (a b : Nat) : Int32.ofNat a ^^^ Int32.ofNat b = Int32.ofNat (a ^^^ b) := Int32.toBitVec.inj (by rw [i_bv, BitVec.ofNat_xor]; rfl)
theorem i_sm {k : Nat} (h : k < 32) : ((Int32.ofNat k &&& 31).toBitVec.smod 32).toNat = k := by
  have : ∀ m : Fin 32, ((Int32.ofNat m.val &&& 31).toBitVec.smod 32).toNat = m.val := by decide +kernel
  exact this ⟨k, h⟩
theorem i_shl (n : Nat) {k : Nat} (h : k < 32) : Int32.ofNat n <<< (Int32.ofNat k &&& 31) = Int32.ofNat (n * 2 ^ k) := by
  apply Int32.toBitVec.inj
  show (BitVec.ofNat 32 n) <<< ((Int32.ofNat k &&& 31).toBitVec.smod 32) = BitVec.ofNat 32 (n * 2 ^ k)
  rw [BitVec.shiftLeft_eq', i_sm h]
  apply BitVec.eq_of_toNat_eq
  rw [BitVec.toNat_shiftLeft, BitVec.toNat_ofNat, BitVec.toNat_ofNat, Nat.shiftLeft_eq, Nat.mod_mul_mod]
theorem i_shr {n : Nat} (hn : n < 2147483648) {k : Nat} (h : k < 32) : Int32.ofNat n >>> (Int32.ofNat k &&& 31) = Int32.ofNat (n / 2 ^ k) := by
  apply Int32.toBitVec.inj
  show (BitVec.ofNat 32 n).sshiftRight' ((Int32.ofNat k &&& 31).toBitVec.smod 32) = BitVec.ofNat 32 (n / 2 ^ k)
  have hm : (BitVec.ofNat 32 n).msb = false := by
    rw [BitVec.msb_eq_decide, BitVec.toNat_ofNat, Nat.mod_eq_of_lt (by omega)]
    simp
    omega
  rw [BitVec.sshiftRight_eq', i_sm h, BitVec.sshiftRight_eq_of_msb_false hm]
  apply BitVec.eq_of_toNat_eq
  rw [BitVec.toNat_ushiftRight, BitVec.toNat_ofNat, BitVec.toNat_ofNat, Nat.mod_eq_of_lt (by omega), Nat.shiftRight_eq_div_pow, Nat.mod_eq_of_lt (Nat.lt_of_le_of_lt (Nat.div_le_self _ _) (by omega))]
theorem i_and1 (y : Int32) : y &&& Int32.ofNat 1 = Int32.ofNat 0 ∨ y &&& Int32.ofNat 1 = Int32.ofNat 1 := by
  have h : (y &&& Int32.ofNat 1).toBitVec.toNat = y.toBitVec.toNat % 2 := by
    show (y.toBitVec &&& BitVec.ofNat 32 1).toNat = _
    rw [BitVec.toNat_and, BitVec.toNat_ofNat]
    exact Nat.and_one_is_mod _
  rcases Nat.mod_two_eq_zero_or_one y.toBitVec.toNat with e | e
  · left
    apply Int32.toBitVec.inj
    apply BitVec.eq_of_toNat_eq
    rw [h, e]
    rfl
  · right
    apply Int32.toBitVec.inj
    apply BitVec.eq_of_toNat_eq
    rw [h, e]
    rfl
/-- bit i of x -/
def bt (x : Int32) (i : Nat) : Bool := decide ((x >>> (Int32.ofNat i &&& 31)) &&& Int32.ofNat 1 = Int32.ofNat 1)
/-- one step of the check's register -/
def cr1 (r : Nat) (b : Bool) : Nat := if decide (8388608 ≤ r) = b then r * 2 % 16777216 else (r * 2 % 16777216) ^^^ 1627
theorem cr1_lt (r : Nat) (b : Bool) : cr1 r b < 16777216 := by
  unfold cr1
  have h : r * 2 % 16777216 < 16777216 := Nat.mod_lt _ (by decide)
  split
  · exact h
  · exact Nat.xor_lt_two_pow (n := 24) h (by decide)
/-- the last n bits of a byte -/
def cr8 (x : Int32) : Nat → Nat → Nat
  | 0, r => r
  | n + 1, r => cr8 x n (cr1 r (bt x (7 - n)))
theorem cr8_lt (x : Int32) : ∀ n r, r < 16777216 → cr8 x n r < 16777216
  | 0, _, h => h
  | n + 1, _, _ => cr8_lt x n _ (cr1_lt _ _)
def crL : List Int32 → Nat → Nat
  | [], r => r
  | x :: l, r => crL l (cr8 x 8 r)
theorem crL_lt : ∀ l r, r < 16777216 → crL l r < 16777216
  | [], _, h => h
  | x :: l, r, h => crL_lt l _ (cr8_lt x 8 r h)
theorem cr_hi {r : Nat} (hr : r < 16777216) (x : Int32) (i : Nat) : ((Int32.ofNat r >>> (Int32.ofNat 23 &&& 31)) &&& Int32.ofNat 1 = (x >>> (Int32.ofNat i &&& 31)) &&& Int32.ofNat 1) ↔ decide (8388608 ≤ r) = bt x i := by
  have e : (Int32.ofNat r >>> (Int32.ofNat 23 &&& 31)) &&& Int32.ofNat 1 = Int32.ofNat (if 8388608 ≤ r then 1 else 0) := by
    rw [i_shr (by omega) (by decide), i_and, Nat.and_one_is_mod]
    congr 1
    split <;> omega
  rw [e]
  unfold bt
  generalize (x >>> (Int32.ofNat i &&& 31)) = y
  rcases i_and1 y with h | h <;> rw [h] <;> by_cases q : 8388608 ≤ r
  · rw [if_pos q]
    simp only [q] <;> decide
  · rw [if_neg q]
    simp only [q] <;> decide
  · rw [if_pos q]
    simp only [q] <;> decide
  · rw [if_neg q]
    simp only [q] <;> decide
theorem cr_sh {r : Nat} (hr : r < 16777216) : (Int32.ofNat r <<< (Int32.ofNat 1 &&& 31)) &&& 16777215 = Int32.ofNat (r * 2 % 16777216) := by
  rw [i_shl r (by decide), show (16777215 : Int32) = Int32.ofNat 16777215 from rfl, i_and]
  congr 1
  exact Nat.and_two_pow_sub_one_eq_mod (r * 2 ^ 1) 24
