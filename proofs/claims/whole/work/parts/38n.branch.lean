theorem go_eq {R : Nat → Int32} {va pl d v ne gn : Int32} : Ou R d (f_V_jump R 0 va pl 0 v).1 (f_V_jump R 0 va pl 0 v).2.1 (f_V_jump R 0 va pl 0 v).2.2 (f_Mo_go 0 va ne v).1 (f_Mo_go 0 va ne v).2.1 (f_Mo_go 0 va ne v).2.2 0 gn := by
  unfold f_V_jump f_Mo_go f_V_stop f_Mo_stop
  dsimp only
  by_cases h : v &&& (3 : Int32) = 0
  · simp only [if_pos h]
    exact Or.inr ⟨rfl, rfl, rfl, by rw [if_pos rfl]; rfl⟩
  · simp only [if_neg h]
    exact ou_stop (c := 1) (by decide)
theorem on_eq {R : Nat → Int32} {va pl d gn : Int32} : Ou R d (f_V_goOn R pl) 0 va 0 va (pl + (4 : Int32)) 0 gn := Or.inr ⟨rfl, rfl, rfl, by rw [if_pos rfl]; rfl⟩
def Br (R : Nat → Int32) (va pl k gn : Int32) : Prop :=
    Ou R (f_Co_d k) (f_V_branch R 0 va pl k).1 (f_V_branch R 0 va pl k).2.1 (f_V_branch R 0 va pl k).2.2
      (f_Mo_branch 0 va pl k (pl + (4 : Int32)) (f_Co_f k) (f_Re_operand R (f_Co_s k)) (f_Re_operand R (f_Co_t k))).1 (f_Mo_branch 0 va pl k (pl + (4 : Int32)) (f_Co_f k) (f_Re_operand R (f_Co_s k)) (f_Re_operand R (f_Co_t k))).2.1 (f_Mo_branch 0 va pl k (pl + (4 : Int32)) (f_Co_f k) (f_Re_operand R (f_Co_s k)) (f_Re_operand R (f_Co_t k))).2.2 0 gn
theorem br_eq {R : Nat → Int32} {va pl k gn : Int32} : Br R va pl k gn := by
  obtain ⟨f, hf, hk⟩ := vp_in_of (in_f k) (by decide)
  unfold Br f_V_branch f_Mo_branch f_Co_isTaken f_Mo_illegal f_Mo_stop f_V_stop
  dsimp only
  rw [hk, fd_k, ml_u, ml_s]
  generalize f_Re_operand R (f_Co_s k) = a
  generalize f_Re_operand R (f_Co_t k) = b
  rcases (show f = 0 ∨ f = 1 ∨ f = 2 ∨ f = 3 ∨ f = 4 ∨ f = 5 ∨ f = 6 ∨ f = 7 by omega) with rfl | rfl | rfl | rfl | rfl | rfl | rfl | rfl
  · by_cases q : a = b
    · simp (config := { decide := true }) only [q, ↓reduceIte]
      exact go_eq
    · simp (config := { decide := true }) only [q, ↓reduceIte]
      exact on_eq
  · by_cases q : a = b
    · simp (config := { decide := true }) only [q, ↓reduceIte]
      exact on_eq
    · simp (config := { decide := true }) only [q, ↓reduceIte]
      exact go_eq
  · simp (config := { decide := true }) only [↓reduceIte]
    exact ou_stop (c := 2) (by decide)
  · simp (config := { decide := true }) only [↓reduceIte]
    exact ou_stop (c := 2) (by decide)
  · by_cases q : b ≤ a
    · simp (config := { decide := true }) only [q, ↓reduceIte]
      exact on_eq
    · simp (config := { decide := true }) only [q, ↓reduceIte]
      exact go_eq
  · have lt : (a < b) ↔ ¬ b ≤ a := Int32.not_le.symm
    by_cases q : b ≤ a
    · simp (config := { decide := true }) only [lt, q, ↓reduceIte]
      exact go_eq
    · simp (config := { decide := true }) only [lt, q, ↓reduceIte]
      exact on_eq
  · by_cases q : u32 a < u32 b
    · simp (config := { decide := true }) only [cu_ge, q, ↓reduceIte]
      exact go_eq
    · simp (config := { decide := true }) only [cu_ge, q, ↓reduceIte]
      exact on_eq
  · by_cases q : u32 a < u32 b
    · simp (config := { decide := true }) only [cu_lt, q, ↓reduceIte]
      exact on_eq
    · simp (config := { decide := true }) only [cu_lt, q, ↓reduceIte]
      exact go_eq
