/-! Comparing on both sides -/
theorem int_n (a : Int32) : a.toInt = if 2 * u32 a < 2 ^ 32 then (u32 a : Int) else (u32 a : Int) - ((2 ^ 32 : Nat) : Int) := BitVec.toInt_eq_toNat_cond _
theorem add_min (a : Int32) : u32 (a + (-2147483648 : Int32)) = (u32 a + 2147483648) % 2 ^ 32 := by
  show (a + (-2147483648 : Int32)).toBitVec.toNat = _
  rw [Int32.toBitVec_add, BitVec.toNat_add]
  rfl
theorem cu_le (a b : Int32) : (b + (-2147483648 : Int32) ≤ a + (-2147483648 : Int32)) ↔ u32 b ≤ u32 a := by
  rw [Int32.le_iff_toInt_le, int_n, int_n, add_min, add_min]
  have h1 := u32_lt a
  have h2 := u32_lt b
  split <;> split <;> omega
theorem cu_lt (a b : Int32) : f_In_compareUnsigned a b < 0 ↔ u32 a < u32 b := by
  unfold f_In_compareUnsigned f_In_compare
  by_cases h : u32 a < u32 b
  · rw [if_neg (fun q => by have := (cu_le a b).mp q; omega)]
    exact ⟨fun _ => h, fun _ => by decide⟩
  · rw [if_pos ((cu_le a b).mpr (by omega))]
    split <;> exact ⟨fun q => absurd q (by decide), fun q => absurd q h⟩
theorem cu_ge (a b : Int32) : 0 ≤ f_In_compareUnsigned a b ↔ ¬ u32 a < u32 b := by
  rw [← cu_lt]
  exact Int32.not_lt.symm
theorem i_nn (a : Int32) : (0 ≤ a) ↔ u32 a < 2147483648 := by
  rw [Int32.le_iff_toInt_le, int_n a, show (0 : Int32).toInt = 0 by decide]
  have h1 := u32_lt a
  split <;> omega
theorem i_le (a b : Int32) : (b ≤ a) ↔ ((u32 b < 2147483648 ∧ u32 a < 2147483648 ∧ u32 b ≤ u32 a) ∨ (¬ u32 b < 2147483648 ∧ u32 a < 2147483648) ∨ (¬ u32 b < 2147483648 ∧ ¬ u32 a < 2147483648 ∧ u32 b ≤ u32 a)) := by
  rw [Int32.le_iff_toInt_le, int_n, int_n]
  have h1 := u32_lt a
  have h2 := u32_lt b
  split <;> split <;> omega
theorem ml_u (a b : Int32) : f_Mo_isLess a b (0 : Int32) = if u32 a < u32 b then 1 else 0 := by
  unfold f_Mo_isLess
  rw [if_pos rfl]
  by_cases h1 : b ≤ a <;> by_cases h2 : 0 ≤ a <;> by_cases h3 : 0 ≤ b <;> simp only [h1, h2, h3, ↓reduceIte]
  all_goals (rw [i_le] at h1; rw [i_nn] at h2; rw [i_nn] at h3)
  all_goals first | (exfalso; omega) | rw [if_pos (by omega)] | rw [if_neg (by omega)]
theorem ml_s (a b : Int32) : f_Mo_isLess a b (1 : Int32) = if b ≤ a then 0 else 1 := by
  unfold f_Mo_isLess
  rw [if_neg (show ¬ (1 : Int32) = 0 by decide)]
