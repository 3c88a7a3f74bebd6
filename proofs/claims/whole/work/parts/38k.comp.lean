/-- an outcome: stopped with nothing of the registers changed, or going on -/
def Ou (R : Nat → Int32) (d : Int32) (R2 : Nat → Int32) (ca va mca mva ne gi gn : Int32) : Prop :=
  (¬ ca = 0 ∧ R2 = R ∧ mca = ca ∧ mva = va) ∨ (ca = 0 ∧ mca = 0 ∧ mva = va ∧ R2 = f_Re_put (if gi = 0 then R else f_Re_putResult R d gn) (0 : Int32) ne)
theorem ou_stop {R : Nat → Int32} {d c v ne gi gn : Int32} (hc : ¬ c = 0) : Ou R d R c v c v ne gi gn := Or.inl ⟨hc, rfl, rfl, rfl⟩
theorem ou_give {R : Nat → Int32} {d va pl x : Int32} : Ou R d (f_V_finish R pl d x) 0 va 0 va (pl + (4 : Int32)) 1 x := Or.inr ⟨rfl, rfl, rfl, by rw [if_neg (by decide)]; rfl⟩
theorem creg_eq {R : Nat → Int32} {va pl k gn : Int32} :
    Ou R (f_Co_d k) (f_V_computeWithRegister R 0 va pl k).1 (f_V_computeWithRegister R 0 va pl k).2.1 (f_V_computeWithRegister R 0 va pl k).2.2
      (f_Mo_reckon 0 va k 0 gn (f_Co_f k) (f_Co_g k) (f_Re_operand R (f_Co_s k)) (f_Re_operand R (f_Co_t k)) 0).1 (f_Mo_reckon 0 va k 0 gn (f_Co_f k) (f_Co_g k) (f_Re_operand R (f_Co_s k)) (f_Re_operand R (f_Co_t k)) 0).2.1 (pl + (4 : Int32))
      (f_Mo_reckon 0 va k 0 gn (f_Co_f k) (f_Co_g k) (f_Re_operand R (f_Co_s k)) (f_Re_operand R (f_Co_t k)) 0).2.2.1 (f_Mo_reckon 0 va k 0 gn (f_Co_f k) (f_Co_g k) (f_Re_operand R (f_Co_s k)) (f_Re_operand R (f_Co_t k)) 0).2.2.2 := by
  unfold f_V_computeWithRegister f_Mo_reckon f_Mo_give f_Mo_illegal f_Mo_stop f_V_stop
  dsimp only
  generalize f_Co_g k = g
  generalize f_Co_f k = f
  by_cases h0 : g = 0
  · subst h0
    rw [if_neg (show ¬ (0 : Int32) = 32 by decide), if_pos rfl, if_pos rfl, rk_eq]
    exact ou_give
  · simp only [if_neg h0, ↓reduceIte]
    by_cases h1 : g = 32
    · simp only [if_pos h1]
      by_cases f0 : f = 0
      · subst f0
        rw [if_pos rfl, if_neg (show ¬ (0 : Int32) = 5 by decide), if_pos rfl, rk_sub]
        exact ou_give
      · rw [if_neg f0, if_neg f0]
        by_cases f5 : f = 5
        · subst f5
          rw [if_pos rfl, if_pos rfl, rk_sar]
          exact ou_give
        · rw [if_neg f5, if_neg f5]
          exact ou_stop (c := 2) (by decide)
    · simp only [if_neg h1]
      exact ou_stop (c := 2) (by decide)
