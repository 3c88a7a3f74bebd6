/-! Addresses on both sides -/
theorem addr0 {a z : Int32} (h : ¬ f_Mo_outside a (255 : Int32) = 0) : f_V_isAddress a z = 0 := by
  unfold f_V_isAddress
  by_cases h1 : a < 0
  · rw [if_pos h1]
  · rw [if_neg h1]
    by_cases h2 : (255 : Int32) < a
    · rw [if_pos h2]
    · exact absurd ((out_iff (w := a) (M := 255) (N := 256) (by decide)).mpr ⟨h1, fun q => (ile (a := 255) (by decide)).mp q (Int32.not_lt.mp h2)⟩) h
theorem reach_eq {a z ca va : Int32} (hz : z = 1 ∨ z = 2 ∨ z = 4) : f_Mo_reaches ca va a z = if f_V_isAddress a z = 0 then (0, 1, a) else (1, ca, va) := by
  unfold f_Mo_reaches f_Mo_stop
  dsimp only
  by_cases h : f_Mo_outside a (255 : Int32) = 0
  · rw [if_pos h]
    obtain ⟨j, hj, rfl⟩ := vp_in_of (in_out (n := 256) (by decide) h) (by decide)
    have key : (u_rem (nI j) z = 0) ↔ ¬ f_V_isAddress (nI j) z = 0 := by
      rcases hz with rfl | rfl | rfl
      · exact (by decide +kernel : ∀ j : Fin 256, (u_rem (nI j.val) 1 = 0) ↔ ¬ f_V_isAddress (nI j.val) 1 = 0) ⟨j, hj⟩
      · exact (by decide +kernel : ∀ j : Fin 256, (u_rem (nI j.val) 2 = 0) ↔ ¬ f_V_isAddress (nI j.val) 2 = 0) ⟨j, hj⟩
      · exact (by decide +kernel : ∀ j : Fin 256, (u_rem (nI j.val) 4 = 0) ↔ ¬ f_V_isAddress (nI j.val) 4 = 0) ⟨j, hj⟩
    by_cases e : u_rem (nI j) z = 0
    · rw [if_pos e, if_neg (key.mp e)]
    · rw [if_neg e, if_pos (Decidable.byContradiction (fun q => e (key.mpr q)))]
  · rw [if_neg h, addr0 h, if_pos rfl]
    split <;> rfl
theorem addr_w {a z : Int32} (h : ¬ f_V_isAddress a z = 0) : ∃ j : Nat, j < 256 ∧ a = nI j ∧ u_ush a (2 : Int32) = nI (j / 4) ∧ a / (4 : Int32) = nI (j / 4) ∧ u_rem a (4 : Int32) = nI (j % 4) ∧ f_Co_shiftOf a = (8 : Int32) * u_rem a (4 : Int32) := by
  have ho : f_Mo_outside a (255 : Int32) = 0 := Decidable.byContradiction (fun q => h (addr0 q))
  obtain ⟨j, hj, rfl⟩ := vp_in_of (in_out (n := 256) (by decide) ho) (by decide)
  have key := (by decide +kernel : ∀ j : Fin 256, u_ush (nI j.val) (2 : Int32) = nI (j.val / 4) ∧ nI j.val / (4 : Int32) = nI (j.val / 4) ∧ u_rem (nI j.val) (4 : Int32) = nI (j.val % 4) ∧ f_Co_shiftOf (nI j.val) = (8 : Int32) * u_rem (nI j.val) (4 : Int32)) ⟨j, hj⟩
  exact ⟨j, hj, rfl, key⟩
