theorem fd_l (k : Int32) : f_Mo_numberL k = f_Co_l k := by
  unfold f_Mo_numberL f_Co_l
  rw [fd_of k 12 8 255 (by decide), fd_of k 20 1 1 (by decide), fd_of k 21 10 1023 (by decide)]
  have e : ((u_ush k (12 : Int32)) &&& (255 : Int32)) <<< ((12 : Int32) &&& 31) = k &&& (1044480 : Int32) := by
    unfold u_ush
    apply i_ext
    intro i hi
    have e2 : ((k.toUInt32 >>> ((12 : Int32).toUInt32 &&& Int32.toUInt32 31)).toInt32).toBitVec = k.toBitVec >>> 12 := rfl
    have e3 : ∀ x : Int32, (x <<< ((12 : Int32) &&& 31)).toBitVec = x.toBitVec <<< 12 := fun x => rfl
    rw [e3, Int32.toBitVec_and, Int32.toBitVec_and, e2, BitVec.getLsbD_shiftLeft, BitVec.getLsbD_and, BitVec.getLsbD_and, BitVec.getLsbD_ushiftRight]
    have key : ∀ i : Fin 32, (1044480 : Int32).toBitVec.getLsbD i.val = (decide (12 ≤ i.val) && (255 : Int32).toBitVec.getLsbD (i.val - 12)) := by decide
    rw [key ⟨i, hi⟩]
    by_cases h : i < 12
    · simp [h, show ¬ 12 ≤ i by omega]
    · rw [show 12 + (i - 12) = i by omega]
      simp [h, hi, show 12 ≤ i by omega]
  rw [e]
