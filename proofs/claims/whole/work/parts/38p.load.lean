theorem ld_0 (v : Int32) {s : Int32} (hs : s = 0 ∨ s = 8 ∨ s = 16 ∨ s = 24) : (u_ush v s).toInt8.toInt32 = ((v >>> (s &&& 31)) <<< ((24 : Int32) &&& 31)) >>> ((24 : Int32) &&& 31) := by
  have core : ∀ n : Nat, n ≤ 24 → ((v.toBitVec >>> n).signExtend 8).signExtend 32 = ((v.toBitVec.sshiftRight n) <<< 24).sshiftRight 24 := by
    intro n hn
    apply BitVec.eq_of_getLsbD_eq
    intro i hi
    rw [BitVec.getLsbD_signExtend, BitVec.getLsbD_sshiftRight, BitVec.msb_eq_getLsbD_last, BitVec.msb_eq_getLsbD_last, BitVec.getLsbD_signExtend, BitVec.getLsbD_signExtend, BitVec.getLsbD_shiftLeft, BitVec.getLsbD_shiftLeft, BitVec.getLsbD_ushiftRight, BitVec.getLsbD_ushiftRight, BitVec.getLsbD_sshiftRight, BitVec.getLsbD_sshiftRight]
    by_cases h : i < 8
    · simp [h, hi, show 24 + i < 32 by omega, show n + i < 32 by omega, show ¬ 32 ≤ i by omega]
    · simp [h, hi, show ¬ 24 + i < 32 by omega, show n + 7 < 32 by omega, show ¬ 32 ≤ i by omega]
  apply Int32.toBitVec_inj.1
  rcases hs with rfl | rfl | rfl | rfl
  · exact core 0 (by omega)
  · exact core 8 (by omega)
  · exact core 16 (by omega)
  · exact core 24 (by omega)
theorem ld_1 (v : Int32) {s : Int32} (hs : s = 0 ∨ s = 16) : (u_ush v s).toInt16.toInt32 = ((v >>> (s &&& 31)) <<< ((16 : Int32) &&& 31)) >>> ((16 : Int32) &&& 31) := by
  have core : ∀ n : Nat, n ≤ 16 → ((v.toBitVec >>> n).signExtend 16).signExtend 32 = ((v.toBitVec.sshiftRight n) <<< 16).sshiftRight 16 := by
    intro n hn
    apply BitVec.eq_of_getLsbD_eq
    intro i hi
    rw [BitVec.getLsbD_signExtend, BitVec.getLsbD_sshiftRight, BitVec.msb_eq_getLsbD_last, BitVec.msb_eq_getLsbD_last, BitVec.getLsbD_signExtend, BitVec.getLsbD_signExtend, BitVec.getLsbD_shiftLeft, BitVec.getLsbD_shiftLeft, BitVec.getLsbD_ushiftRight, BitVec.getLsbD_ushiftRight, BitVec.getLsbD_sshiftRight, BitVec.getLsbD_sshiftRight]
    by_cases h : i < 16
    · simp [h, hi, show 16 + i < 32 by omega, show n + i < 32 by omega, show ¬ 32 ≤ i by omega]
    · simp [h, hi, show ¬ 16 + i < 32 by omega, show n + 15 < 32 by omega, show ¬ 32 ≤ i by omega]
  apply Int32.toBitVec_inj.1
  rcases hs with rfl | rfl
  · exact core 0 (by omega)
  · exact core 16 (by omega)
theorem ld_4 (v : Int32) {s : Int32} (hs : s = 0 ∨ s = 8 ∨ s = 16 ∨ s = 24) : (u_ush v s) &&& (255 : Int32) = u_ush ((v >>> (s &&& 31)) <<< ((24 : Int32) &&& 31)) (24 : Int32) := by
  have core : ∀ n : Nat, n ≤ 24 → (v.toBitVec >>> n) &&& (255 : Int32).toBitVec = ((v.toBitVec.sshiftRight n) <<< 24) >>> 24 := by
    intro n hn
    apply BitVec.eq_of_getLsbD_eq
    intro i hi
    rw [BitVec.getLsbD_and, BitVec.getLsbD_ushiftRight, BitVec.getLsbD_ushiftRight, BitVec.getLsbD_shiftLeft, BitVec.getLsbD_sshiftRight, (by decide : ∀ i : Fin 32, (255 : Int32).toBitVec.getLsbD i.val = decide (i.val < 8)) ⟨i, hi⟩]
    by_cases h : i < 8
    · simp [h, hi, show 24 + i < 32 by omega, show n + i < 32 by omega, show ¬ 24 + i < 24 by omega, show ¬ 32 ≤ i by omega]
    · simp [h, show ¬ 24 + i < 32 by omega]
  apply Int32.toBitVec_inj.1
  rcases hs with rfl | rfl | rfl | rfl
  · exact core 0 (by omega)
  · exact core 8 (by omega)
  · exact core 16 (by omega)
  · exact core 24 (by omega)
theorem ld_5 (v : Int32) {s : Int32} (hs : s = 0 ∨ s = 16) : (u_ush v s) &&& (65535 : Int32) = u_ush ((v >>> (s &&& 31)) <<< ((16 : Int32) &&& 31)) (16 : Int32) := by
  have core : ∀ n : Nat, n ≤ 16 → (v.toBitVec >>> n) &&& (65535 : Int32).toBitVec = ((v.toBitVec.sshiftRight n) <<< 16) >>> 16 := by
    intro n hn
    apply BitVec.eq_of_getLsbD_eq
    intro i hi
    rw [BitVec.getLsbD_and, BitVec.getLsbD_ushiftRight, BitVec.getLsbD_ushiftRight, BitVec.getLsbD_shiftLeft, BitVec.getLsbD_sshiftRight, (by decide : ∀ i : Fin 32, (65535 : Int32).toBitVec.getLsbD i.val = decide (i.val < 16)) ⟨i, hi⟩]
    by_cases h : i < 16
    · simp [h, hi, show 16 + i < 32 by omega, show n + i < 32 by omega, show ¬ 16 + i < 16 by omega, show ¬ 32 ≤ i by omega]
    · simp [h, show ¬ 16 + i < 32 by omega]
  apply Int32.toBitVec_inj.1
  rcases hs with rfl | rfl
  · exact core 0 (by omega)
  · exact core 16 (by omega)
