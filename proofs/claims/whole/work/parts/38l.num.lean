theorem it_eq (k : Int32) : f_Co_i k &&& (31 : Int32) = f_Co_t k := by
  unfold f_Co_i f_Co_t u_ush
  apply i_ext
  intro i hi
  rw [Int32.toBitVec_and, Int32.toBitVec_and, BitVec.getLsbD_and, BitVec.getLsbD_and]
  by_cases h : i < 5
  · congr 1
    have e1 : (k >>> ((20 : Int32) &&& 31)).toBitVec = k.toBitVec.sshiftRight 20 := rfl
    have e2 : ((k.toUInt32 >>> ((20 : Int32).toUInt32 &&& Int32.toUInt32 31)).toInt32).toBitVec = k.toBitVec >>> 20 := rfl
    rw [e1, e2, BitVec.getLsbD_sshiftRight, BitVec.getLsbD_ushiftRight, if_pos (by omega)]
    simp [show ¬ 32 ≤ i by omega]
  · have : ∀ i : Fin 32, ¬ i.val < 5 → (31 : Int32).toBitVec.getLsbD i.val = false := by decide
    rw [this ⟨i, hi⟩ h, Bool.and_false, Bool.and_false]
theorem tt_eq (k : Int32) : f_Co_t k &&& (31 : Int32) = f_Co_t k := by
  unfold f_Co_t
  rw [Int32.and_assoc, Int32.and_self]
theorem rk_sh1 (a k : Int32) : f_Co_computed (1 : Int32) (0 : Int32) a (f_Co_i k) = f_Mo_reckoned (1 : Int32) a (f_Co_t k) := by
  unfold f_Co_computed f_Mo_reckoned
  rw [if_neg (by decide), if_pos rfl, if_neg (by decide), if_pos rfl, it_eq, tt_eq, tt_eq]
theorem rk_sh5 (a k : Int32) : f_Co_computed (5 : Int32) (0 : Int32) a (f_Co_i k) = f_Mo_reckoned (5 : Int32) a (f_Co_t k) := by
  have r5 : ∀ b : Int32, f_Mo_reckoned (5 : Int32) a b = u_ush a (b &&& (31 : Int32)) := by
    intro b
    unfold f_Mo_reckoned
    rw [if_neg (by decide), if_neg (by decide), if_neg (by decide), if_neg (by decide), if_neg (by decide), if_pos rfl]
  rw [rk_eq, r5, r5, it_eq, tt_eq]
theorem rk_sr5 (a k : Int32) : f_Co_computed (5 : Int32) (1 : Int32) a (f_Co_i k) = a >>> ((f_Co_t k &&& (31 : Int32)) &&& 31) := by
  rw [rk_sar, it_eq, tt_eq, tt_eq]
def Cn (R : Nat → Int32) (va pl k gn b : Int32) : Prop :=
    Ou R (f_Co_d k) (f_V_computeWithNumber R 0 va pl k).1 (f_V_computeWithNumber R 0 va pl k).2.1 (f_V_computeWithNumber R 0 va pl k).2.2
      (f_Mo_reckon 0 va k 0 gn (f_Co_f k) (f_Co_g k) (f_Re_operand R (f_Co_s k)) b 1).1 (f_Mo_reckon 0 va k 0 gn (f_Co_f k) (f_Co_g k) (f_Re_operand R (f_Co_s k)) b 1).2.1 (pl + (4 : Int32))
      (f_Mo_reckon 0 va k 0 gn (f_Co_f k) (f_Co_g k) (f_Re_operand R (f_Co_s k)) b 1).2.2.1 (f_Mo_reckon 0 va k 0 gn (f_Co_f k) (f_Co_g k) (f_Re_operand R (f_Co_s k)) b 1).2.2.2
theorem cnum_no {R : Nat → Int32} {va pl k gn : Int32} (h1 : ¬ f_Co_f k = 1) (h5 : ¬ f_Co_f k = 5) : Cn R va pl k gn (f_Co_i k) := by
  unfold Cn f_V_computeWithNumber f_Mo_reckon f_Mo_give f_Mo_illegal f_Mo_stop f_V_stop
  dsimp only
  simp only [if_neg h1, if_neg h5, show ¬ (1 : Int32) = 0 by decide, ↓reduceIte, ite_self, rk_eq]
  exact ou_give
theorem cnum_1 {R : Nat → Int32} {va pl k gn : Int32} (h1 : f_Co_f k = 1) : Cn R va pl k gn (f_Co_t k) := by
  unfold Cn f_V_computeWithNumber f_Mo_reckon f_Mo_give f_Mo_illegal f_Mo_stop f_V_stop
  dsimp only
  simp only [h1, show ¬ (1 : Int32) = 0 by decide, show ¬ (1 : Int32) = 5 by decide, ↓reduceIte, ite_self, rk_sh1]
  by_cases g0 : f_Co_g k = 0
  · simp only [if_pos g0]
    exact ou_give
  · simp only [if_neg g0]
    exact ou_stop (c := 2) (by decide)
theorem cnum_5 {R : Nat → Int32} {va pl k gn : Int32} (h5 : f_Co_f k = 5) : Cn R va pl k gn (f_Co_t k) := by
  unfold Cn f_V_computeWithNumber f_Mo_reckon f_Mo_give f_Mo_illegal f_Mo_stop f_V_stop
  dsimp only
  simp only [h5, show ¬ (1 : Int32) = 0 by decide, show ¬ (5 : Int32) = 1 by decide, ↓reduceIte, ite_self, rk_sh5, rk_sr5]
  by_cases g0 : f_Co_g k = 0
  · simp only [g0, show ¬ (0 : Int32) = 32 by decide, ↓reduceIte]
    exact ou_give
  · simp only [if_neg g0]
    by_cases g1 : f_Co_g k = 32
    · simp only [if_pos g1]
      exact ou_give
    · simp only [if_neg g1]
      exact ou_stop (c := 2) (by decide)
