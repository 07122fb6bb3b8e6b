/-! Part 51: small numbers -/
theorem i_ti {n : Nat} (h : n < 2147483648) : (Int32.ofNat n).toInt = (n : Int) := Int32.toInt_ofNat_of_lt (by omega)
theorem i_tn {n : Nat} (h : n < 2147483648) : (Int32.ofNat n).toNatClampNeg = n := Int32.toNatClampNeg_ofNat_of_lt (by omega)
theorem i_nn {n : Nat} (h : n < 2147483648) : ¬ Int32.ofNat n < 0 := by
  rw [Int32.lt_iff_toInt_lt, i_ti h, Int32.toInt_zero]
  omega
theorem i_lt {a b : Nat} (ha : a < 2147483648) (hb : b < 2147483648) : Int32.ofNat a < Int32.ofNat b ↔ a < b := by
  rw [Int32.lt_iff_toInt_lt, i_ti ha, i_ti hb]
  omega
theorem i_le {a b : Nat} (ha : a < 2147483648) (hb : b < 2147483648) : Int32.ofNat a ≤ Int32.ofNat b ↔ a ≤ b := by
  rw [Int32.le_iff_toInt_le, i_ti ha, i_ti hb]
  omega
theorem i_eq {a b : Nat} (ha : a < 2147483648) (hb : b < 2147483648) : Int32.ofNat a = Int32.ofNat b ↔ a = b := by
  rw [← Int32.toInt_inj, i_ti ha, i_ti hb]
  omega
theorem i_in {i N : Nat} (h : i < N) (hN : N < 2147483648) : vp_in (Int32.ofNat i) N := by
  unfold vp_in
  rw [i_tn (by omega)]
  intro q
  rcases q with q | q
  · exact i_nn (by omega) q
  · omega
theorem i_of {k : Int32} (h : ¬ k < 0) : ∃ n : Nat, n < 2147483648 ∧ k = Int32.ofNat n := by
  refine ⟨k.toNatClampNeg, k.toNatClampNeg_lt, ?_⟩
  rw [Int32.ofNat_toNatClampNeg]
  rw [Int32.lt_iff_toInt_lt] at h
  rw [Int32.le_iff_toInt_le]
  omega
theorem i_sub {a b : Nat} (h : b ≤ a) : Int32.ofNat a - Int32.ofNat b = Int32.ofNat (a - b) := (Int32.ofNat_sub a b h).symm
theorem i_add (a b : Nat) : Int32.ofNat a + Int32.ofNat b = Int32.ofNat (a + b) := (Int32.ofNat_add a b).symm
theorem i_mul (a b : Nat) : Int32.ofNat a * Int32.ofNat b = Int32.ofNat (a * b) := (Int32.ofNat_mul a b).symm
theorem i_bm {x : Int} (h1 : -2147483648 ≤ x) (h2 : x < 2147483648) : x.bmod (2 ^ 32) = x := by
  rw [Int.bmod_eq_of_le] <;> omega
theorem i_ts {a b : Nat} (ha : a < 1073741824) (hb : b < 1073741824) : (Int32.ofNat a - Int32.ofNat b).toInt = (a : Int) - (b : Int) := by
  rw [Int32.toInt_sub, i_ti (by omega), i_ti (by omega), i_bm] <;> omega
theorem i_rem {a b : Nat} (ha : a < 2147483648) (hb : b < 2147483648) (h0 : 0 < b) : Int32.ofNat a - Int32.ofNat a / Int32.ofNat b * Int32.ofNat b = Int32.ofNat (a % b) := by
  have hd : Int32.ofNat a / Int32.ofNat b = Int32.ofNat (a / b) := by
    rw [← Int32.toInt_inj, Int32.toInt_div_of_ne_right, i_ti ha, i_ti hb, i_ti (Nat.lt_of_le_of_lt (Nat.div_le_self _ _) ha)]
    · rw [Int.tdiv_eq_ediv_of_nonneg (by omega)]
      rfl
    · intro h
      rw [← Int32.toInt_inj, i_ti hb] at h
      have : (-1 : Int32).toInt = -1 := by decide
      rw [this] at h
      omega
  rw [hd, i_mul, i_sub (Nat.div_mul_le_self a b)]
  congr 1
  have := Nat.div_add_mod a b
  rw [Nat.mul_comm] at this
  omega
/-- what lies behind a row's bytes does not count -/
theorem l_get {l : List Int32} {k : Nat} (h : l.length ≤ k) : l.getD k 0 = 0 := by
  rw [List.getD_eq_getElem?_getD, List.getElem?_eq_none h]
  rfl
