theorem bv_b8 (v : BitVec 32) : (v.signExtend 8).signExtend 32 &&& 255#32 = v &&& 255#32 := by
  apply BitVec.eq_of_getLsbD_eq
  intro i hi
  have h1 : ∀ i, i < 32 → (255#32).getLsbD i = decide (i < 8) := by decide
  rw [BitVec.getLsbD_and, BitVec.getLsbD_and, h1 i hi]
  by_cases c : i < 8
  · rw [BitVec.getLsbD_signExtend, if_pos c, BitVec.getLsbD_signExtend, if_pos hi]; simp [c, hi]
  · simp [c]
theorem and_b8 (x : Int) : and32 (b8 x) 255 = and32 x 255 := by
  have e : Int32.ofInt (b8 x) = (Int32.ofInt x).toInt8.toInt32 := i32_of _
  have e2 : (Int32.ofInt 255).toBitVec = 255#32 := by decide
  unfold and32
  rw [e]
  congr 1
  apply Int32.toBitVec_inj.mp
  show (((Int32.ofInt x).toBitVec.signExtend 8).signExtend 32) &&& (Int32.ofInt 255).toBitVec = (Int32.ofInt x).toBitVec &&& (Int32.ofInt 255).toBitVec
  rw [e2]
  exact bv_b8 _
theorem and_rng (x : Int) : 0 ≤ and32 x 255 ∧ and32 x 255 ≤ 255 := by
  have e2 : (Int32.ofInt 255).toBitVec = 255#32 := by decide
  have h1 : (and32 x 255) = ((Int32.ofInt x).toBitVec &&& 255#32).toInt := by rw [← e2]; rfl
  have h2 : ((Int32.ofInt x).toBitVec &&& 255#32).toNat ≤ 255 := by
    rw [BitVec.toNat_and]
    exact Nat.and_le_right
  rw [h1, BitVec.toInt_eq_toNat_of_lt (by omega)]
  omega
