theorem it_eq (k : Int32) : f_Co_i k &&& (31 : Int32) = f_Co_t k := by
  unfold f_Co_i f_Co_t u_ush
  apply i_ext
  intro i hi
  rw [Int32.toBitVec_and, Int32.toBitVec_and, BitVec.getLsbD_and, BitVec.getLsbD_and]
  by_cases h : i < 5
  · congr 1
    have e1 : (k >>> ((20 : Int32) &&& 31)).toBitVec = k.toBitVec.sshiftRight 20 := rfl
    have e2 : ((k.toUInt32 >>> ((20 : Int32).toUInt32 &&& Int32.toUInt32 31)).toInt32).toBitVec = k.toBitVec >>> 20 := rfl
    rw [e1, e2, BitVec.getLsbD_sshiftRight, BitVec.getLsbD_ushiftRight, if_pos (by omega)]
    simp [show ¬ 32 ≤ i by omega]
  · have : ∀ i : Fin 32, ¬ i.val < 5 → (31 : Int32).toBitVec.getLsbD i.val = false := by decide
    rw [this ⟨i, hi⟩ h, Bool.and_false, Bool.and_false]
