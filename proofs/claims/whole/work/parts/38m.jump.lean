theorem jump_eq {R : Nat → Int32} {va pl d v ne : Int32} : Ou R d (f_V_jump R 0 va pl d v).1 (f_V_jump R 0 va pl d v).2.1 (f_V_jump R 0 va pl d v).2.2 (f_Mo_go 0 va ne v).1 (f_Mo_go 0 va ne v).2.1 (f_Mo_go 0 va ne v).2.2 1 (pl + (4 : Int32)) := by
  unfold f_V_jump f_Mo_go f_V_stop f_Mo_stop
  dsimp only
  by_cases h : v &&& (3 : Int32) = 0
  · simp only [if_pos h]
    exact Or.inr ⟨rfl, rfl, rfl, by rw [if_neg (by decide)]⟩
  · simp only [if_neg h]
    exact ou_stop (c := 1) (by decide)
theorem jreg_eq {R : Nat → Int32} {va pl k ne gn : Int32} :
    Ou R (f_Co_d k) (f_V_jumpByRegister R 0 va pl k).1 (f_V_jumpByRegister R 0 va pl k).2.1 (f_V_jumpByRegister R 0 va pl k).2.2
      (f_Mo_jump 0 va pl k ne 0 gn (f_Co_f k) ((f_Re_operand R (f_Co_s k) + f_Co_i k) &&& (-2 : Int32))).1 (f_Mo_jump 0 va pl k ne 0 gn (f_Co_f k) ((f_Re_operand R (f_Co_s k) + f_Co_i k) &&& (-2 : Int32))).2.1 (f_Mo_jump 0 va pl k ne 0 gn (f_Co_f k) ((f_Re_operand R (f_Co_s k) + f_Co_i k) &&& (-2 : Int32))).2.2.1
      (f_Mo_jump 0 va pl k ne 0 gn (f_Co_f k) ((f_Re_operand R (f_Co_s k) + f_Co_i k) &&& (-2 : Int32))).2.2.2.1 (f_Mo_jump 0 va pl k ne 0 gn (f_Co_f k) ((f_Re_operand R (f_Co_s k) + f_Co_i k) &&& (-2 : Int32))).2.2.2.2 := by
  unfold f_V_jumpByRegister f_Mo_jump f_Mo_give f_Mo_illegal f_Mo_stop f_V_stop
  dsimp only
  by_cases h : f_Co_f k = 0
  · simp only [if_pos h]
    exact jump_eq
  · simp only [if_neg h]
    exact ou_stop (c := 2) (by decide)
theorem noth_eq {R : Nat → Int32} {va pl k gn : Int32} (h : f_Co_op k = 15) :
    Ou R (f_Co_d k) (f_V_doNothing R 0 va pl k).1 (f_V_doNothing R 0 va pl k).2.1 (f_V_doNothing R 0 va pl k).2.2 (f_Mo_rest 0 va k (f_Co_f k)).1 (f_Mo_rest 0 va k (f_Co_f k)).2 (pl + (4 : Int32)) 0 gn := by
  have h1 : ¬ k = 115 := fun e => by rw [e] at h; exact absurd h (by decide)
  have h2 : ¬ k = 1048691 := fun e => by rw [e] at h; exact absurd h (by decide)
  unfold f_V_doNothing f_Mo_rest f_Mo_illegal f_Mo_stop f_V_stop
  dsimp only
  rw [fd_op]
  simp only [if_neg h1, if_neg h2, if_pos h]
  by_cases h : f_Co_f k = 0
  · simp only [if_pos h]
    exact Or.inr ⟨rfl, rfl, rfl, by rw [if_pos rfl]; rfl⟩
  · simp only [if_neg h]
    exact ou_stop (c := 2) (by decide)
theorem call_eq {R : Nat → Int32} {va pl k gn : Int32} (h : ¬ f_Co_op k = 15) :
    Ou R (f_Co_d k) R (f_V_callOrBreak 0 va k).1 (f_V_callOrBreak 0 va k).2 (f_Mo_rest 0 va k (f_Co_f k)).1 (f_Mo_rest 0 va k (f_Co_f k)).2 (pl + (4 : Int32)) 0 gn := by
  unfold f_V_callOrBreak f_Mo_rest f_Mo_illegal f_Mo_stop f_V_stop
  dsimp only
  rw [fd_op]
  simp only [if_neg h]
  by_cases h1 : k = 115
  · simp only [if_pos h1]
    exact ou_stop (c := 3) (by decide)
  · simp only [if_neg h1]
    by_cases h2 : k = 1048691
    · simp only [if_pos h2]
      exact ou_stop (c := 4) (by decide)
    · simp only [if_neg h2]
      exact ou_stop (c := 2) (by decide)
