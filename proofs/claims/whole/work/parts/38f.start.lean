/-! Two new objects -/
theorem init_eq (x : Int32) : f_Mo_init x = f_V_init x ∧ ¬ f_V_init x = 0 := by
  have i1 : (1 : Int32).toInt = 1 := by decide
  have i64 : (64 : Int32).toInt = 64 := by decide
  unfold f_V_init f_Mo_init
  simp only [Int32.lt_iff_toInt_lt, Int32.le_iff_toInt_le, i1, i64]
  by_cases a : x.toInt < 64
  · rw [if_pos a]
    by_cases b : 1 < x.toInt
    · rw [if_pos b, if_pos (show 1 ≤ x.toInt by omega), if_pos (by omega)]
      exact ⟨rfl, fun e => by rw [e] at b; exact absurd b (by decide)⟩
    · rw [if_neg b]
      refine ⟨?_, by decide⟩
      by_cases c : 1 ≤ x.toInt
      · rw [if_pos c, if_pos (by omega)]; exact Int32.toInt_inj.1 (by rw [i1]; omega)
      · rw [if_neg c]
  · rw [if_neg a, i64, if_pos (show 1 ≤ x.toInt by omega), if_pos (show (1 : Int) < 64 by decide)]
    refine ⟨?_, by decide⟩
    by_cases c : x.toInt ≤ 64
    · rw [if_pos c]; exact Int32.toInt_inj.1 (by rw [i64]; omega)
    · rw [if_neg c]
theorem enc0 : (0 : Int64) = f_Mo_encoded 0 ^^^ 0 := by decide +kernel
theorem rel_start (x : Int32) : Rel (f_V_init x) (fun _ => 0) 0 (fun _ => 0) 0 (fun _ => 0) 0 (fun _ => 0) 0 (fun _ => 0) (fun _ => 0) (fun _ => 0) 0 0 0 0 0 0 (f_Mo_init x) (fun _ => 0) (fun _ => 0) (fun _ => 0) (fun _ => 0) (fun _ => 0) 0 (fun _ => 0) 0 0 0 (fun _ => 0) 0 0 0 0 0 0 := by
  refine ⟨⟨(init_eq x).1, (init_eq x).2, rfl, rfl, rfl⟩, ⟨rfl, rfl, rfl, rfl, rfl, rfl, vp_ofb (by decide)⟩, fun w _ => ⟨enc0, lo0 _⟩, fun k _ => ⟨rfl, rfl, lo0 _, lo0 _⟩, fun r _ c _ => ?_, rfl, vp_ofb (by decide), fun k hk => ?_⟩
  · show (0 : Int32) = 0 ^^^ 0
    decide
  · have hk : k < 0 := hk
    omega
