/-! bits -/
theorem b_sh : ∀ j : Nat, j < 12 → (nI j &&& 31).toBitVec.smod 32 = BitVec.ofNat 32 j := by decide
theorem b_tst (x : Int32) {j : Nat} (hj : j < 12) : (((x >>> (nI j &&& 31)) &&& 1) = 0) = (x.toBitVec.getLsbD j = false) := by
  rw [← Int32.toBitVec_inj, Int32.toBitVec_and, Int32.toBitVec_shiftRight, b_sh j hj, BitVec.sshiftRight_eq', show (1 : Int32).toBitVec = 1#32 from rfl, show (0 : Int32).toBitVec = 0#32 from rfl, BitVec.and_one_eq_setWidth_ofBool_getLsbD, BitVec.getLsbD_sshiftRight, BitVec.toNat_ofNat, Nat.mod_eq_of_lt (by omega)]
  simp only [Nat.add_zero, show j < 32 by omega, if_true, show ¬ (32 ≤ 0) by omega, decide_false, Bool.not_false, Bool.true_and]
  cases x.toBitVec.getLsbD j <;> decide
theorem b_or (x : Int32) {j r : Nat} (hj : j < 12) (hr : r < 12) : (x ||| (1 <<< (nI r &&& 31))).toBitVec.getLsbD j = (x.toBitVec.getLsbD j || decide (j = r)) := by
  rw [Int32.toBitVec_or, BitVec.getLsbD_or, Int32.toBitVec_shiftLeft, b_sh r hr, BitVec.shiftLeft_eq', BitVec.getLsbD_shiftLeft, show (1 : Int32).toBitVec = 1#32 from rfl, BitVec.getLsbD_one, BitVec.toNat_ofNat, Nat.mod_eq_of_lt (by omega)]
  congr 1
  by_cases h : j = r
  · subst h; simp; omega
  · simp [h]; omega
