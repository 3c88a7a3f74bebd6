section LOAD2
variable {K L1 L2 wg li : Nat → Int64} {co r1 r2 : Int32} {wr cn R : Nat → Int32} {va pl go gn k : Int32}
theorem lo_0 (v : Int32) : f_Co_loaded (nI 0) v = v.toInt8.toInt32 := rfl
theorem lo_1 (v : Int32) : f_Co_loaded (nI 1) v = v.toInt16.toInt32 := rfl
theorem lo_2 (v : Int32) : f_Co_loaded (nI 2) v = v := rfl
theorem lo_4 (v : Int32) : f_Co_loaded (nI 4) v = v &&& (255 : Int32) := rfl
theorem lo_5 (v : Int32) : f_Co_loaded (nI 5) v = v &&& (65535 : Int32) := rfl
theorem ld_eq (h : Rq K co L1 r1 L2 r2 wr wg li cn) : Lq L1 r1 wr cn R (f_Co_d k) pl (f_V_load K co L2 r2 R 0 va pl k) (f_Mo_load wr wg li 0 va cn k go 0 gn (f_Co_f k) (f_Re_operand R (f_Co_s k) + f_Co_i k)) := by
  obtain ⟨f, hf, hk⟩ := vp_in_of (in_f k) (by decide)
  unfold f_V_load f_Mo_load f_V_stop f_Mo_illegal f_Mo_stop f_Mo_give
  dsimp only
  rw [hk]
  generalize f_Re_operand R (f_Co_s k) + f_Co_i k = a
  rcases (show f = 0 ∨ f = 1 ∨ f = 2 ∨ f = 3 ∨ f = 4 ∨ f = 5 ∨ f = 6 ∨ f = 7 by omega) with rfl | rfl | rfl | rfl | rfl | rfl | rfl | rfl
  · simp (config := { decide := true }) only [show f_Co_size (nI 0) = 1 by decide, ↓reduceIte]
    exact ldc h (Or.inl rfl) (fun v => f_Co_loaded (nI 0) (u_ush v (f_Co_shiftOf a))) (fun v => ((v >>> (((8 : Int32) * (u_rem a (4 : Int32))) &&& 31)) <<< (((32 : Int32) - ((8 : Int32) * (1 : Int32))) &&& 31)) >>> (((32 : Int32) - ((8 : Int32) * (1 : Int32))) &&& 31)) (fun e v => by
      rw [lo_0, ← (sh_4 e).1]
      exact ld_0 v (sh_4 e).2)
  · simp (config := { decide := true }) only [show f_Co_size (nI 1) = 2 by decide, ↓reduceIte]
    exact ldc h (Or.inr (Or.inl rfl)) (fun v => f_Co_loaded (nI 1) (u_ush v (f_Co_shiftOf a))) (fun v => ((v >>> (((8 : Int32) * (u_rem a (4 : Int32))) &&& 31)) <<< (((32 : Int32) - ((8 : Int32) * (2 : Int32))) &&& 31)) >>> (((32 : Int32) - ((8 : Int32) * (2 : Int32))) &&& 31)) (fun e v => by
      rw [lo_1, ← (sh_2 e).1]
      exact ld_1 v (sh_2 e).2)
  · simp (config := { decide := true }) only [show f_Co_size (nI 2) = 4 by decide, ↓reduceIte]
    exact ldc h (Or.inr (Or.inr rfl)) (fun v => f_Co_loaded (nI 2) (u_ush v (f_Co_shiftOf a))) (fun v => ((v >>> (((8 : Int32) * (u_rem a (4 : Int32))) &&& 31)) <<< (((32 : Int32) - ((8 : Int32) * (4 : Int32))) &&& 31)) >>> (((32 : Int32) - ((8 : Int32) * (4 : Int32))) &&& 31)) (fun e v => by
      rw [lo_2, ← (sh_1 e).1, (sh_1 e).2, ush0, sar0, show (32 : Int32) - ((8 : Int32) * (4 : Int32)) = 0 by decide, shl0, sar0])
  · simp (config := { decide := true }) only [↓reduceIte]
    exact ⟨h, ⟨rfl, rfl, rfl⟩, ou_stop (c := 2) (by decide)⟩
  · simp (config := { decide := true }) only [show f_Co_size (nI 4) = 1 by decide, ↓reduceIte]
    exact ldc h (Or.inl rfl) (fun v => f_Co_loaded (nI 4) (u_ush v (f_Co_shiftOf a))) (fun v => u_ush ((v >>> (((8 : Int32) * (u_rem a (4 : Int32))) &&& 31)) <<< (((32 : Int32) - ((8 : Int32) * (1 : Int32))) &&& 31)) ((32 : Int32) - ((8 : Int32) * (1 : Int32)))) (fun e v => by
      rw [lo_4, ← (sh_4 e).1]
      exact ld_4 v (sh_4 e).2)
  · simp (config := { decide := true }) only [show f_Co_size (nI 5) = 2 by decide, ↓reduceIte]
    exact ldc h (Or.inr (Or.inl rfl)) (fun v => f_Co_loaded (nI 5) (u_ush v (f_Co_shiftOf a))) (fun v => u_ush ((v >>> (((8 : Int32) * (u_rem a (4 : Int32))) &&& 31)) <<< (((32 : Int32) - ((8 : Int32) * (2 : Int32))) &&& 31)) ((32 : Int32) - ((8 : Int32) * (2 : Int32)))) (fun e v => by
      rw [lo_5, ← (sh_2 e).1]
      exact ld_5 v (sh_2 e).2)
  · simp (config := { decide := true }) only [↓reduceIte]
    exact ⟨h, ⟨rfl, rfl, rfl⟩, ou_stop (c := 2) (by decide)⟩
  · simp (config := { decide := true }) only [↓reduceIte]
    exact ⟨h, ⟨rfl, rfl, rfl⟩, ou_stop (c := 2) (by decide)⟩
end LOAD2
