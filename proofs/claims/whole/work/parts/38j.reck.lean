/-! Computing on both sides -/
theorem rk_eq (f a b : Int32) : f_Co_computed f (0 : Int32) a b = f_Mo_reckoned f a b := by
  unfold f_Co_computed f_Mo_reckoned
  rw [ml_s, ml_u]
  by_cases h0 : f = 0
  · rw [if_pos h0, if_pos h0, if_pos rfl]
  rw [if_neg h0, if_neg h0]
  by_cases h1 : f = 1
  · rw [if_pos h1, if_pos h1]
  rw [if_neg h1, if_neg h1]
  by_cases h2 : f = 2
  · rw [if_pos h2, if_pos h2]
    by_cases q : b ≤ a
    · rw [if_pos q, if_pos rfl]
    · rw [if_neg q, if_neg (by decide)]
  rw [if_neg h2, if_neg h2]
  by_cases h3 : f = 3
  · rw [if_pos h3, if_pos h3]
    by_cases q : u32 a < u32 b
    · rw [if_neg (fun r => (cu_ge a b).mp r q), if_pos q, if_neg (by decide)]
    · rw [if_pos ((cu_ge a b).mpr q), if_neg q, if_pos rfl]
  rw [if_neg h3, if_neg h3]
  by_cases h4 : f = 4
  · rw [if_pos h4, if_pos h4]
  rw [if_neg h4, if_neg h4]
  by_cases h5 : f = 5
  · rw [if_pos h5, if_pos h5, if_pos rfl]
  rw [if_neg h5, if_neg h5]
theorem rk_sub (a b : Int32) : f_Co_computed (0 : Int32) (1 : Int32) a b = a - b := by
  unfold f_Co_computed
  rw [if_pos rfl, if_neg (by decide)]
theorem rk_sar (a b : Int32) : f_Co_computed (5 : Int32) (1 : Int32) a b = a >>> ((b &&& (31 : Int32)) &&& 31) := by
  unfold f_Co_computed
  rw [if_neg (by decide), if_neg (by decide), if_neg (by decide), if_neg (by decide), if_neg (by decide), if_pos rfl, if_neg (by decide)]
