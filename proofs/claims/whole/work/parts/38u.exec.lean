section EXEC
variable {K L1 L2 wg li : Nat → Int64} {co r1 r2 : Int32} {wr cn R ke ma : Nat → Int32} {va pl d go gn k : Int32}
/-- the class's ladder of instructions -/
def Ve (K : Nat → Int64) (co : Int32) (L1 : Nat → Int64) (r1 : Int32) (L2 : Nat → Int64) (r2 : Int32) (R : Nat → Int32) (va pl k : Int32) : (Nat → Int64) × Int32 × (Nat → Int64) × Int32 × (Nat → Int64) × Int32 × (Nat → Int32) × Int32 × Int32 :=
  if f_Co_op k = (3 : Int32) then
    ((f_V_load K co L2 r2 R 0 va pl k).1, (f_V_load K co L2 r2 R 0 va pl k).2.1, L1, r1, (f_V_load K co L2 r2 R 0 va pl k).2.2.1, (f_V_load K co L2 r2 R 0 va pl k).2.2.2.1, (f_V_load K co L2 r2 R 0 va pl k).2.2.2.2.1, (f_V_load K co L2 r2 R 0 va pl k).2.2.2.2.2.1, (f_V_load K co L2 r2 R 0 va pl k).2.2.2.2.2.2)
  else if f_Co_op k = (15 : Int32) then
    (K, co, L1, r1, L2, r2, (f_V_doNothing R 0 va pl k).1, (f_V_doNothing R 0 va pl k).2.1, (f_V_doNothing R 0 va pl k).2.2)
  else if f_Co_op k = (19 : Int32) then
    (K, co, L1, r1, L2, r2, (f_V_computeWithNumber R 0 va pl k).1, (f_V_computeWithNumber R 0 va pl k).2.1, (f_V_computeWithNumber R 0 va pl k).2.2)
  else if f_Co_op k = (23 : Int32) then
    (K, co, L1, r1, L2, r2, f_V_finish R pl (f_Co_d k) (pl + f_Co_u k), 0, va)
  else if f_Co_op k = (35 : Int32) then
    ((f_V_store K co L1 r1 L2 r2 R 0 va pl k).1, (f_V_store K co L1 r1 L2 r2 R 0 va pl k).2.1, (f_V_store K co L1 r1 L2 r2 R 0 va pl k).2.2.1, (f_V_store K co L1 r1 L2 r2 R 0 va pl k).2.2.2.1, (f_V_store K co L1 r1 L2 r2 R 0 va pl k).2.2.2.2.1, (f_V_store K co L1 r1 L2 r2 R 0 va pl k).2.2.2.2.2.1, (f_V_store K co L1 r1 L2 r2 R 0 va pl k).2.2.2.2.2.2.1, (f_V_store K co L1 r1 L2 r2 R 0 va pl k).2.2.2.2.2.2.2.1, (f_V_store K co L1 r1 L2 r2 R 0 va pl k).2.2.2.2.2.2.2.2)
  else if f_Co_op k = (51 : Int32) then
    (K, co, L1, r1, L2, r2, (f_V_computeWithRegister R 0 va pl k).1, (f_V_computeWithRegister R 0 va pl k).2.1, (f_V_computeWithRegister R 0 va pl k).2.2)
  else if f_Co_op k = (55 : Int32) then
    (K, co, L1, r1, L2, r2, f_V_finish R pl (f_Co_d k) (f_Co_u k), 0, va)
  else if f_Co_op k = (99 : Int32) then
    (K, co, L1, r1, L2, r2, (f_V_branch R 0 va pl k).1, (f_V_branch R 0 va pl k).2.1, (f_V_branch R 0 va pl k).2.2)
  else if f_Co_op k = (103 : Int32) then
    (K, co, L1, r1, L2, r2, (f_V_jumpByRegister R 0 va pl k).1, (f_V_jumpByRegister R 0 va pl k).2.1, (f_V_jumpByRegister R 0 va pl k).2.2)
  else if f_Co_op k = (111 : Int32) then
    (K, co, L1, r1, L2, r2, (f_V_jump R 0 va pl (f_Co_d k) (pl + f_Co_l k)).1, (f_V_jump R 0 va pl (f_Co_d k) (pl + f_Co_l k)).2.1, (f_V_jump R 0 va pl (f_Co_d k) (pl + f_Co_l k)).2.2)
  else (K, co, L1, r1, L2, r2, R, (f_V_callOrBreak 0 va k).1, (f_V_callOrBreak 0 va k).2)
/-- what an instruction must keep -/
def Xq (cn R : Nat → Int32) (d : Int32) (V : (Nat → Int64) × Int32 × (Nat → Int64) × Int32 × (Nat → Int64) × Int32 × (Nat → Int32) × Int32 × Int32) (M : (Nat → Int32) × (Nat → Int64) × (Nat → Int64) × Int32 × Int32 × (Nat → Int32) × Int32 × Int32 × Int32 × Int32) : Prop :=
  Rq V.1 V.2.1 V.2.2.1 V.2.2.2.1 V.2.2.2.2.1 V.2.2.2.2.2.1 M.1 M.2.1 M.2.2.1 M.2.2.2.2.2.1 ∧ Un cn M.2.2.2.2.2.1 ∧ Ou R d V.2.2.2.2.2.2.1 V.2.2.2.2.2.2.2.1 V.2.2.2.2.2.2.2.2 M.2.2.2.1 M.2.2.2.2.1 M.2.2.2.2.2.2.2.1 M.2.2.2.2.2.2.2.2.1 M.2.2.2.2.2.2.2.2.2
theorem ex_eq (h : Rq K co L1 r1 L2 r2 wr wg li cn) (hR : RR R ke ma) :
    Xq cn R (f_Co_d k) (Ve K co L1 r1 L2 r2 R va pl k) (f_Mo_execute wr wg ke ma li 0 va cn pl k go (pl + (4 : Int32)) 0 gn) := by
  have un : Un cn cn := ⟨rfl, rfl, rfl⟩
  have l := ld_eq (R := R) (va := va) (pl := pl) (go := go) (gn := gn) (k := k) h
  have s := st_eq (R := R) (va := va) (pl := pl) (go := go) (gn := gn) (k := k) h
  unfold f_Mo_execute f_Mo_give Ve
  dsimp only
  rw [fd_op, fd_f, fd_s, fd_t, fd_g, fd_j, fd_l, ← opd_eq hR (in_s k), ← opd_eq hR (in_t k), show k >>> ((20 : Int32) &&& 31) = f_Co_i k from rfl, show k &&& (-4096 : Int32) = f_Co_u k from rfl]
  by_cases o3 : f_Co_op k = 3
  · rw [if_pos o3, if_pos o3]
    generalize f_V_load K co L2 r2 R 0 va pl k = V at l
    generalize f_Mo_load wr wg li 0 va cn k go 0 gn (f_Co_f k) (f_Re_operand R (f_Co_s k) + f_Co_i k) = M at l
    exact ⟨l.1, l.2.1, l.2.2⟩
  rw [if_neg o3, if_neg o3]
  by_cases o15 : f_Co_op k = 15
  · rw [if_pos o15]
    simp (config := { decide := true }) only [o15, ↓reduceIte]
    exact ⟨h, un, noth_eq o15⟩
  rw [if_neg o15]
  by_cases o19 : f_Co_op k = 19
  · rw [if_pos o19, if_pos o19]
    by_cases f1 : f_Co_f k = 1
    · rw [if_pos f1]
      exact ⟨h, un, cnum_1 f1⟩
    · rw [if_neg f1]
      by_cases f5 : f_Co_f k = 5
      · rw [if_pos f5]
        exact ⟨h, un, cnum_5 f5⟩
      · rw [if_neg f5]
        exact ⟨h, un, cnum_no f1 f5⟩
  rw [if_neg o19, if_neg o19]
  by_cases o23 : f_Co_op k = 23
  · rw [if_pos o23, if_pos o23]
    exact ⟨h, un, ou_give⟩
  rw [if_neg o23, if_neg o23]
  by_cases o35 : f_Co_op k = 35
  · rw [if_pos o35, if_pos o35]
    generalize f_V_store K co L1 r1 L2 r2 R 0 va pl k = V at s
    generalize f_Mo_store wr wg li 0 va cn k go (f_Co_f k) (f_Re_operand R (f_Co_s k) + f_Co_j k) (f_Re_operand R (f_Co_t k)) = M at s
    exact ⟨s.1, s.2.1, s.2.2⟩
  rw [if_neg o35, if_neg o35]
  by_cases o51 : f_Co_op k = 51
  · rw [if_pos o51, if_pos o51]
    exact ⟨h, un, creg_eq⟩
  rw [if_neg o51, if_neg o51]
  by_cases o55 : f_Co_op k = 55
  · rw [if_pos o55, if_pos o55]
    exact ⟨h, un, ou_give⟩
  rw [if_neg o55, if_neg o55]
  by_cases o99 : f_Co_op k = 99
  · rw [if_pos o99, if_pos o99]
    exact ⟨h, un, br_eq⟩
  rw [if_neg o99, if_neg o99]
  by_cases o103 : f_Co_op k = 103
  · rw [if_pos o103, if_pos o103]
    exact ⟨h, un, jreg_eq⟩
  rw [if_neg o103, if_neg o103]
  by_cases o111 : f_Co_op k = 111
  · rw [if_pos o111, if_pos o111]
    exact ⟨h, un, jump_eq⟩
  rw [if_neg o111, if_neg o111]
  exact ⟨h, un, call_eq o15⟩
end EXEC
