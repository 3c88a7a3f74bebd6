/-! An instruction's fields on both sides -/
theorem fd_of (k fr bi m : Int32) (h : ((1 : Int32) <<< (bi &&& 31)) - (1 : Int32) = m) : f_Mo_field k fr bi = (u_ush k fr) &&& m := by
  unfold f_Mo_field
  rw [h]
theorem ush_num (x s : Int32) (k : Nat) (hs : ((s.toUInt32 &&& Int32.toUInt32 31).toBitVec % 32).toNat = k) : (u_ush x s).toBitVec.toNat = x.toBitVec.toNat / 2 ^ k := pk_ushr x s k hs
theorem ush0 (x : Int32) : u_ush x (0 : Int32) = x := by
  apply Int32.toBitVec_inj.1
  apply BitVec.eq_of_toNat_eq
  rw [ush_num x 0 0 (by decide), Nat.pow_zero, Nat.div_one]
theorem fd_op (k : Int32) : f_Mo_field k (0 : Int32) (7 : Int32) = f_Co_op k := by
  rw [fd_of k 0 7 127 (by decide), ush0]
  rfl
theorem fd_d (k : Int32) : f_Mo_field k (7 : Int32) (5 : Int32) = f_Co_d k := fd_of k 7 5 31 (by decide)
theorem fd_f (k : Int32) : f_Mo_field k (12 : Int32) (3 : Int32) = f_Co_f k := fd_of k 12 3 7 (by decide)
theorem fd_s (k : Int32) : f_Mo_field k (15 : Int32) (5 : Int32) = f_Co_s k := fd_of k 15 5 31 (by decide)
theorem fd_t (k : Int32) : f_Mo_field k (20 : Int32) (5 : Int32) = f_Co_t k := fd_of k 20 5 31 (by decide)
theorem fd_g (k : Int32) : f_Mo_field k (25 : Int32) (7 : Int32) = f_Co_g k := by
  rw [fd_of k 25 7 127 (by decide)]
  unfold f_Co_g
  apply Int32.toBitVec_inj.1
  apply BitVec.eq_of_toNat_eq
  have hn := ush_num k 25 25 (by decide)
  have hk := k.toBitVec.isLt
  rw [Int32.toBitVec_and, BitVec.toNat_and, hn, show (127 : Int32).toBitVec.toNat = 2 ^ 7 - 1 by decide, Nat.and_two_pow_sub_one_eq_mod]
  exact Nat.mod_eq_of_lt (by omega)
theorem fd_j (k : Int32) : f_Mo_numberJ k = f_Co_j k := by
  unfold f_Mo_numberJ f_Co_j
  rw [fd_d]
theorem fd_k (k : Int32) : f_Mo_numberK k = f_Co_k k := by
  unfold f_Mo_numberK f_Co_k
  rw [fd_of k 7 1 1 (by decide), fd_of k 25 6 63 (by decide), fd_of k 8 4 15 (by decide)]
theorem in_f (k : Int32) : vp_in (f_Co_f k) 8 := by
  unfold f_Co_f
  rw [pk_and _ 3 rfl]
  exact vp_in_nI (Nat.mod_lt _ (by decide)) (by decide)
