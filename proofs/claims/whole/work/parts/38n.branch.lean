theorem go_eq {R : Nat → Int32} {va pl d v ne gn : Int32} : Ou R d (f_V_jump R 0 va pl 0 v).1 (f_V_jump R 0 va pl 0 v).2.1 (f_V_jump R 0 va pl 0 v).2.2 (f_Mo_go 0 va ne v).1 (f_Mo_go 0 va ne v).2.1 (f_Mo_go 0 va ne v).2.2 0 gn := by
  unfold f_V_jump f_Mo_go f_V_stop f_Mo_stop
  dsimp only
  by_cases h : v &&& (3 : Int32) = 0
  · simp only [if_pos h]
    exact Or.inr ⟨rfl, rfl, rfl, by rw [if_pos rfl]; rfl⟩
  · simp only [if_neg h]
    exact ou_stop (c := 1) (by decide)
theorem on_eq {R : Nat → Int32} {va pl d gn : Int32} : Ou R d (f_V_goOn R pl) 0 va 0 va (pl + (4 : Int32)) 0 gn := Or.inr ⟨rfl, rfl, rfl, by rw [if_pos rfl]; rfl⟩
