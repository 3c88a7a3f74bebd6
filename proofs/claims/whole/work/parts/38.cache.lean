/-! Caches: lines on both sides -/
theorem uN_lshr {x : Int64} (hx : uN x < 2 ^ 63) {k : Nat} (hk : k < 64) : uN (u_lshr x (nI k)) = uN x / 2 ^ k := by
  have h : ∀ k : Fin 64, (((nI k.val).toInt64 &&& 63).toBitVec.smod 64).toNat = k.val := by decide +kernel
  show (x.toBitVec.sshiftRight (((nI k).toInt64 &&& 63).toBitVec.smod 64).toNat).toNat = _
  rw [h ⟨k, hk⟩]
  have hm : x.toBitVec.msb = false := by
    rw [BitVec.msb_eq_decide]
    simp only [decide_eq_false_iff_not]
    show ¬ 2 ^ (64 - 1) ≤ uN x
    omega
  rw [BitVec.sshiftRight_eq_of_msb_false hm, BitVec.toNat_ushiftRight, Nat.shiftRight_eq_div_pow]
  rfl
theorem line_at {j : Nat} (hj : j < 64) : (nI j &&& (3 : Int32)).toNatClampNeg = j % 4 := by
  rw [pk_andN (by omega) 2 rfl]
  exact nI_clamp (by omega)
theorem mo_at {c j : Nat} (hc : c < 2) (hj : j < 64) : ((4 : Int32) * nI c + u_rem (nI j) (4 : Int32)).toNatClampNeg = 4 * c + j % 4 := by
  rw [show u_rem (nI j) (4 : Int32) = nI (j % 4) from u_remN (by omega) (by decide) (by decide), show (4 : Int32) * nI c = nI (4 * c) from pk_mul 4 c, nI_add]
  exact nI_clamp (by omega)
theorem ush2 {j : Nat} (hj : j < 64) : u_ush (nI j) (2 : Int32) = nI (j / 4) := pk_ushrN (by omega) 2 2 (by decide)
theorem tag_num {q : Nat} (hq : q < 16) : uN (((16 : Int32) ||| nI q).toInt64) = 16 + q := by
  have : ∀ k : Fin 16, uN (((16 : Int32) ||| nI k.val).toInt64) = 16 + k.val := by decide +kernel
  exact this ⟨q, hq⟩
/-- a line holds word j: the class's test and the reference's -/
theorem ho_eq {x : Int64} (hx : wLo 38 x) {j : Nat} (hj : j < 64) :
    (lg_cmp ((u_lush x (32 : Int32)) &&& (31 : Int64)) (((16 : Int32) ||| (u_ush (nI j) (2 : Int32))).toInt64) = 0) ↔ (lg_cmp ((u_lshr x (36 : Int32)) &&& (1 : Int64)) (1 : Int64) = 0 ∧ ((u_lshr x (32 : Int32)) &&& (15 : Int64)).toInt32 = nI j / (4 : Int32)) := by
  have hx63 : uN x < 2 ^ 63 := Nat.lt_of_lt_of_le hx (by decide)
  have hq : j / 4 < 16 := by omega
  have e1 : uN ((u_lush x (32 : Int32)) &&& (31 : Int64)) = uN x / 2 ^ 32 % 32 := by
    rw [uN_and, show uN (u_lush x (32 : Int32)) = uN x / 2 ^ 32 from uN_lush x (k := 32) (by decide), show uN (31 : Int64) = 31 by decide]
    exact Nat.and_two_pow_sub_one_eq_mod _ 5
  have e2 : uN ((u_lshr x (32 : Int32)) &&& (15 : Int64)) = uN x / 2 ^ 32 % 16 := by
    rw [uN_and, show uN (u_lshr x (32 : Int32)) = uN x / 2 ^ 32 from uN_lshr hx63 (k := 32) (by decide), show uN (15 : Int64) = 15 by decide]
    exact Nat.and_two_pow_sub_one_eq_mod _ 4
  have e3 : ((u_lshr x (32 : Int32)) &&& (15 : Int64)).toInt32 = nI (uN x / 2 ^ 32 % 16) := by
    apply Int32.toBitVec_inj.1
    apply BitVec.eq_of_toNat_eq
    show _ = u32 (nI (uN x / 2 ^ 32 % 16))
    rw [l2i_num, u32_nI (by omega), e2]
    omega
  rw [show (lg_cmp ((u_lshr x (36 : Int32)) &&& (1 : Int64)) (1 : Int64) = 0) ↔ uN x / 2 ^ 36 % 2 = 1 from lb x (j := 36) (by decide), e3, ush2 hj, show nI j / (4 : Int32) = nI (j / 4) from pk_div (by omega) (by decide) (by decide), nI_eq (by omega) (by omega), lg0]
  have e4 : ((u_lush x (32 : Int32)) &&& (31 : Int64) = ((16 : Int32) ||| nI (j / 4)).toInt64) ↔ uN x / 2 ^ 32 % 32 = 16 + j / 4 := by
    rw [← e1, ← tag_num hq]
    exact ⟨fun h => by rw [h], fun h => uN_inj h⟩
  rw [e4]
  have : uN x / 2 ^ 36 = uN x / 2 ^ 32 / 16 := by rw [Nat.div_div_eq_div_mul]
  omega
/-- a new line -/
theorem fill_eq (v : Int32) {j : Nat} (hj : j < 64) :
    ((((v.toInt64) &&& (4294967295 : Int64)) ||| (u_lshl (((16 : Int32) ||| (u_ush (nI j) (2 : Int32))).toInt64) (32 : Int32))) ||| (u_lshl (((f_Lg_bitCount (((v.toInt64) &&& (4294967295 : Int64)) ||| (u_lshl (((16 : Int32) ||| (u_ush (nI j) (2 : Int32))).toInt64) (32 : Int32)))).toInt64) &&& (1 : Int64)) (37 : Int32))) = f_Mo_line v (nI j / (4 : Int32)) ∧ wLo 38 (f_Mo_line v (nI j / (4 : Int32))) ∧ (f_Mo_line v (nI j / (4 : Int32))).toInt32 = v ∧ ((f_Mo_line v (nI j / (4 : Int32))) &&& (4294967295 : Int64)).toInt32 = v := by
  have hq : j / 4 < 16 := by omega
  have hv := u32_lt v
  rw [ush2 hj, show nI j / (4 : Int32) = nI (j / 4) from pk_div (by omega) (by decide) (by decide)]
  generalize j / 4 = q at hq
  have m1 : u32 v &&& 4294967295 = u32 v := by
    have : u32 v &&& 4294967295 = u32 v % 2 ^ 32 := Nat.and_two_pow_sub_one_eq_mod _ 32
    rw [this, Nat.mod_eq_of_lt hv]
  have c0 : uN ((v.toInt64) &&& (4294967295 : Int64)) = u32 v := by rw [uN_i2l v (m := 4294967295) (by decide) (by decide), m1]
  have c1 : uN (u_lshl (((16 : Int32) ||| nI q).toInt64) (32 : Int32)) = (16 + q) * 2 ^ 32 := by
    rw [show uN (u_lshl (((16 : Int32) ||| nI q).toInt64) (32 : Int32)) = _ from uN_lshl _ (k := 32) (by decide), tag_num hq]
    exact Nat.mod_eq_of_lt (by omega)
  have q64 : uN ((nI q).toInt64) = q := by
    have : ∀ k : Fin 16, uN ((nI k.val).toInt64) = k.val := by decide
    exact this ⟨q, hq⟩
  have c2 : uN (u_lshl ((nI q).toInt64) (32 : Int32)) = q * 2 ^ 32 := by
    rw [show uN (u_lshl ((nI q).toInt64) (32 : Int32)) = _ from uN_lshl _ (k := 32) (by decide), q64]
    exact Nat.mod_eq_of_lt (by omega)
  have c3 : ∀ q : Fin 16, q.val * 2 ^ 32 ||| 68719476736 = (16 + q.val) * 2 ^ 32 := by decide +kernel
  have s1 : u32 v ||| (16 + q) * 2 ^ 32 = (16 + q) * 2 ^ 32 + u32 v := by
    rw [Nat.or_comm, Nat.mul_comm]
    exact (Nat.two_pow_add_eq_or_of_lt hv _).symm
  have t1 : (((v.toInt64) &&& (4294967295 : Int64)) ||| (u_lshl (((16 : Int32) ||| nI q).toInt64) (32 : Int32))) = ((((v.toInt64) &&& (4294967295 : Int64)) ||| (u_lshl ((nI q).toInt64) (32 : Int32))) ||| (68719476736 : Int64)) := by
    apply uN_inj
    rw [uN_or', uN_or', uN_or', c0, c1, c2, show uN (68719476736 : Int64) = 68719476736 by decide, Nat.or_assoc, c3 ⟨q, hq⟩]
  rw [t1]
  have hT : uN ((((v.toInt64) &&& (4294967295 : Int64)) ||| (u_lshl ((nI q).toInt64) (32 : Int32))) ||| (68719476736 : Int64)) = (16 + q) * 2 ^ 32 + u32 v := by rw [← t1, uN_or', c0, c1, s1]
  unfold f_Mo_line
  dsimp only
  generalize ((((v.toInt64) &&& (4294967295 : Int64)) ||| (u_lshl ((nI q).toInt64) (32 : Int32))) ||| (68719476736 : Int64)) = T at hT
  have hT37 : uN T < 2 ^ 37 := by omega
  have hlo : wLo 39 T := Nat.lt_of_lt_of_le hT37 (by decide)
  have hp := par_eq hlo
  have hb : f_Lg_bitCount T &&& (1 : Int32) = nI (u32 (f_Lg_bitCount T) % 2) := pk_and _ 1 rfl
  have hsh : uN (u_lshl (((f_Lg_bitCount T).toInt64) &&& (1 : Int64)) (37 : Int32)) = (u32 (f_Lg_bitCount T) % 2) * 2 ^ 37 := by
    have a1 : uN (((f_Lg_bitCount T).toInt64) &&& (1 : Int64)) = u32 (f_Lg_bitCount T) % 2 := by
      rw [uN_i2l _ (m := 1) (by decide) (by decide)]
      exact Nat.and_two_pow_sub_one_eq_mod _ 1
    rw [show uN (u_lshl (((f_Lg_bitCount T).toInt64) &&& (1 : Int64)) (37 : Int32)) = _ from uN_lshl _ (k := 37) (by decide), a1]
    exact Nat.mod_eq_of_lt (by omega)
  have low : ∀ X : Int64, uN X % 2 ^ 32 = u32 v → X.toInt32 = v := by
    intro X h
    apply Int32.toBitVec_inj.1
    apply BitVec.eq_of_toNat_eq
    rw [l2i_num]
    exact h
  have low2 : ∀ X : Int64, uN X % 2 ^ 32 = u32 v → (X &&& (4294967295 : Int64)).toInt32 = v := by
    intro X h
    apply low
    rw [uN_and, show uN (4294967295 : Int64) = 4294967295 by decide]
    have : uN X &&& 4294967295 = uN X % 2 ^ 32 := Nat.and_two_pow_sub_one_eq_mod _ 32
    rw [this, Nat.mod_mod, h]
  rcases (show u32 (f_Lg_bitCount T) % 2 = 0 ∨ u32 (f_Lg_bitCount T) % 2 = 1 by omega) with e | e
  · have ho : f_Mo_isOdd T = 0 := by rw [← hp, hb, e]; rfl
    rw [if_pos ho]
    refine ⟨?_, Nat.lt_of_lt_of_le hT37 (by decide), low T (by omega), low2 T (by omega)⟩
    apply uN_inj
    rw [uN_or', hsh, e, Nat.zero_mul, Nat.or_zero]
  · have ho : ¬ f_Mo_isOdd T = 0 := by rw [← hp, hb, e]; decide
    rw [if_neg ho]
    have hor : uN T ||| 137438953472 = 137438953472 + uN T := by
      rw [Nat.or_comm]
      exact (Nat.two_pow_add_eq_or_of_lt hT37 1).symm
    have hn : uN (T ||| (137438953472 : Int64)) = 137438953472 + uN T := by rw [uN_or', show uN (137438953472 : Int64) = 137438953472 by decide, hor]
    refine ⟨?_, ?_, low _ (by rw [hn]; omega), low2 _ (by rw [hn]; omega)⟩
    · apply uN_inj
      rw [hn, uN_or', hsh, e, Nat.one_mul]
      exact hor
    · unfold wLo
      rw [hn]
      omega
