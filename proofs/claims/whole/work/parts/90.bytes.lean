/-! Part 90: a byte of a long, as the class takes it and as the reference takes it -/
theorem by_sh {k : Nat} (h : k < 8) : ((Int32.ofNat 8 * Int32.ofNat k).toInt64 &&& 63).toBitVec.smod 64 = BitVec.ofNat 64 (8 * k) ∧ ((Int32.ofNat 8 * Int32.ofNat k).toInt64.toUInt64 &&& Int64.toUInt64 63).toBitVec.umod 64#64 = BitVec.ofNat 64 (8 * k) := by
  have : ∀ m : Fin 8, ((Int32.ofNat 8 * Int32.ofNat m.val).toInt64 &&& 63).toBitVec.smod 64 = BitVec.ofNat 64 (8 * m.val) ∧ ((Int32.ofNat 8 * Int32.ofNat m.val).toInt64.toUInt64 &&& Int64.toUInt64 63).toBitVec.umod 64#64 = BitVec.ofNat 64 (8 * m.val) := by decide +kernel
  exact this ⟨k, h⟩
theorem by_255 {i : Nat} (h : i < 32) : (255#64).getLsbD i = decide (i < 8) ∧ (255#32).getLsbD i = decide (i < 8) := by
  have : ∀ m : Fin 32, (255#64).getLsbD m.val = decide (m.val < 8) ∧ (255#32).getLsbD m.val = decide (m.val < 8) := by decide +kernel
  exact this ⟨i, h⟩
theorem by_eq (v : Int64) {k : Nat} (h : k < 8) : ((v >>> ((Int32.ofNat 8 * Int32.ofNat k).toInt64 &&& 63)) &&& 255).toInt32 = by0 v k := by
  obtain ⟨h1, h2⟩ := by_sh h
  unfold by0
  apply Int32.toBitVec.inj
  show ((v.toBitVec.sshiftRight' (((Int32.ofNat 8 * Int32.ofNat k).toInt64 &&& 63).toBitVec.smod 64)) &&& 255#64).signExtend 32 = ((v.toBitVec >>> (((Int32.ofNat 8 * Int32.ofNat k).toInt64.toUInt64 &&& Int64.toUInt64 63).toBitVec.umod 64#64)).signExtend 32) &&& 255#32
  rw [h1, h2, BitVec.sshiftRight_eq', BitVec.toNat_ofNat, Nat.mod_eq_of_lt (by omega)]
  apply BitVec.eq_of_getLsbD_eq
  intro i hi
  rw [BitVec.getLsbD_signExtend, BitVec.getLsbD_and, BitVec.getLsbD_and, BitVec.getLsbD_signExtend, BitVec.getLsbD_sshiftRight, BitVec.ushiftRight_eq', BitVec.getLsbD_ushiftRight, BitVec.toNat_ofNat, Nat.mod_eq_of_lt (by omega), (by_255 hi).1, (by_255 hi).2]
  by_cases h8 : i < 8
  · simp [h8, hi, show i < 64 by omega, show 8 * k + i < 64 by omega]
  · simp [h8]
    omega
