section LOAD
variable {K L1 L2 wg li : Nat → Int64} {co r1 r2 : Int32} {wr cn R : Nat → Int32} {va pl go gn k : Int32}
theorem sh_4 {a : Int32} (h : ¬ f_V_isAddress a 1 = 0) : f_Co_shiftOf a = (8 : Int32) * u_rem a (4 : Int32) ∧ (f_Co_shiftOf a = 0 ∨ f_Co_shiftOf a = 8 ∨ f_Co_shiftOf a = 16 ∨ f_Co_shiftOf a = 24) := by
  obtain ⟨j, hj, rfl, -, -, -, w⟩ := addr_w h
  exact ⟨w, (by decide +kernel : ∀ j : Fin 256, (f_Co_shiftOf (nI j.val) = 0 ∨ f_Co_shiftOf (nI j.val) = 8 ∨ f_Co_shiftOf (nI j.val) = 16 ∨ f_Co_shiftOf (nI j.val) = 24)) ⟨j, hj⟩⟩
theorem sh_2 {a : Int32} (h : ¬ f_V_isAddress a 2 = 0) : f_Co_shiftOf a = (8 : Int32) * u_rem a (4 : Int32) ∧ (f_Co_shiftOf a = 0 ∨ f_Co_shiftOf a = 16) := by
  obtain ⟨j, hj, rfl, -, -, -, w⟩ := addr_w h
  exact ⟨w, (by decide +kernel : ∀ j : Fin 256, ¬ f_V_isAddress (nI j.val) 2 = 0 → (f_Co_shiftOf (nI j.val) = 0 ∨ f_Co_shiftOf (nI j.val) = 16)) ⟨j, hj⟩ h⟩
theorem sh_1 {a : Int32} (h : ¬ f_V_isAddress a 4 = 0) : f_Co_shiftOf a = (8 : Int32) * u_rem a (4 : Int32) ∧ f_Co_shiftOf a = 0 := by
  obtain ⟨j, hj, rfl, -, -, -, w⟩ := addr_w h
  exact ⟨w, (by decide +kernel : ∀ j : Fin 256, ¬ f_V_isAddress (nI j.val) 4 = 0 → f_Co_shiftOf (nI j.val) = 0) ⟨j, hj⟩ h⟩
theorem sar0 (x : Int32) : x >>> ((0 : Int32) &&& 31) = x := by
  apply Int32.toBitVec_inj.1
  show x.toBitVec.sshiftRight 0 = x.toBitVec
  apply BitVec.eq_of_getLsbD_eq
  intro i hi
  rw [BitVec.getLsbD_sshiftRight]
  simp [hi, show ¬ 32 ≤ i by omega]
theorem shl0 (x : Int32) : x <<< ((0 : Int32) &&& 31) = x := by
  apply Int32.toBitVec_inj.1
  show x.toBitVec <<< 0 = x.toBitVec
  simp
end LOAD
