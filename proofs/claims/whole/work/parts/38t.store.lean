theorem shl_and (t m s : Int32) : (t &&& m) <<< s = (t <<< s) &&& (m <<< s) := by
  apply i_ext
  intro i hi
  rw [Int32.toBitVec_and, Int32.toBitVec_shiftLeft, Int32.toBitVec_shiftLeft, Int32.toBitVec_shiftLeft, Int32.toBitVec_and, BitVec.shiftLeft_eq', BitVec.shiftLeft_eq', BitVec.shiftLeft_eq', BitVec.getLsbD_and, BitVec.getLsbD_shiftLeft, BitVec.getLsbD_shiftLeft, BitVec.getLsbD_shiftLeft, BitVec.getLsbD_and]
  generalize t.toBitVec.getLsbD _ = x
  generalize m.toBitVec.getLsbD _ = y
  generalize decide (i < 32) = u
  generalize decide (i < _) = w
  revert x y u w
  decide
section STORE
variable {K L1 L2 wg li : Nat → Int64} {co r1 r2 : Int32} {wr cn R : Nat → Int32} {va pl d go gn a z k : Int32}
/-- what a store must keep -/
def Sq (cn R : Nat → Int32) (d pl gn : Int32) (V : (Nat → Int64) × Int32 × (Nat → Int64) × Int32 × (Nat → Int64) × Int32 × (Nat → Int32) × Int32 × Int32) (M : (Nat → Int32) × (Nat → Int64) × (Nat → Int64) × Int32 × Int32 × (Nat → Int32) × Int32) : Prop :=
  Rq V.1 V.2.1 V.2.2.1 V.2.2.2.1 V.2.2.2.2.1 V.2.2.2.2.2.1 M.1 M.2.1 M.2.2.1 M.2.2.2.2.2.1 ∧ Un cn M.2.2.2.2.2.1 ∧ Ou R d V.2.2.2.2.2.2.1 V.2.2.2.2.2.2.2.1 V.2.2.2.2.2.2.2.2 M.2.2.2.1 M.2.2.2.2.1 (pl + (4 : Int32)) 0 gn
theorem un_tr {x y w : Nat → Int32} (h1 : Un x y) (h2 : Un y w) : Un x w := ⟨h2.1.trans h1.1, h2.2.1.trans h1.2.1, h2.2.2.trans h1.2.2⟩
theorem stw (h : Rq K co L1 r1 L2 r2 wr wg li cn) (b c : Int32) (hbc : ¬ f_V_isAddress a 4 = 0 → b = c) :
    Sq cn R d pl gn
      (if f_V_isAddress a 4 = 0 then (K, co, L1, r1, L2, r2, R, 1, a) else ((f_V_save K L1 r1 L2 r2 (u_ush a (2 : Int32)) b).1, co, (f_V_save K L1 r1 L2 r2 (u_ush a (2 : Int32)) b).2.1, (f_V_save K L1 r1 L2 r2 (u_ush a (2 : Int32)) b).2.2.1, (f_V_save K L1 r1 L2 r2 (u_ush a (2 : Int32)) b).2.2.2.1, (f_V_save K L1 r1 L2 r2 (u_ush a (2 : Int32)) b).2.2.2.2, f_V_goOn R pl, 0, va))
      (let t1 := f_Mo_reaches 0 va a 4
       if t1.1 = 0 then (wr, wg, li, t1.2.1, t1.2.2, cn, go) else
       let t2 := f_Mo_save wr wg li cn (a / (4 : Int32)) c
       (t2.1, t2.2.1, t2.2.2.1, t1.2.1, t1.2.2, t2.2.2.2, go)) := by
  dsimp only
  rw [reach_eq (Or.inr (Or.inr rfl))]
  by_cases e : f_V_isAddress a 4 = 0
  · simp only [if_pos e, ↓reduceIte]
    exact ⟨h, ⟨rfl, rfl, rfl⟩, ou_stop (c := 1) (by decide)⟩
  · simp only [if_neg e, show ¬ (1 : Int32) = 0 by decide, ↓reduceIte]
    have hX := hbc e
    obtain ⟨j, hj, rfl, w1, w2, -, -⟩ := addr_w e
    rw [w1, w2, hX]
    obtain ⟨q1, q2⟩ := save_eq h (j := j / 4) (by omega) c
    exact ⟨q1, q2, on_eq⟩
theorem stc (h : Rq K co L1 r1 L2 r2 wr wg li cn) (hz : z = 1 ∨ z = 2 ∨ z = 4) (X Y : Int32 → Int32) (hXY : ¬ f_V_isAddress a z = 0 → ∀ v, X v = Y v) :
    Sq cn R d pl gn
      (if f_V_isAddress a z = 0 then (K, co, L1, r1, L2, r2, R, 1, a) else
       let t1 := f_V_fetch2 K co L2 r2 (u_ush a (2 : Int32))
       if lg_cmp t1.1 (-2 : Int64) = 0 then (t1.2.1, t1.2.2.1, L1, r1, t1.2.2.2.1, t1.2.2.2.2, R, 5, u_ush a (2 : Int32)) else
       let t3 := f_V_save t1.2.1 L1 r1 t1.2.2.2.1 t1.2.2.2.2 (u_ush a (2 : Int32)) (X t1.1.toInt32)
       (t3.1, t1.2.2.1, t3.2.1, t3.2.2.1, t3.2.2.2.1, t3.2.2.2.2, f_V_goOn R pl, 0, va))
      (let t1 := f_Mo_reaches 0 va a z
       if t1.1 = 0 then (wr, wg, li, t1.2.1, t1.2.2, cn, go) else
       let t5 := f_Mo_fetch wr wg li t1.2.1 t1.2.2 cn go (1 : Int32) (a / (4 : Int32))
       if t5.1 = 0 then (wr, t5.2.1, t5.2.2.1, t5.2.2.2.1, t5.2.2.2.2.1, t5.2.2.2.2.2.1, t5.2.2.2.2.2.2) else
       let t8 := f_Mo_save wr t5.2.1 t5.2.2.1 t5.2.2.2.2.2.1 (a / (4 : Int32)) (Y t5.2.2.2.2.2.2)
       (t8.1, t8.2.1, t8.2.2.1, t5.2.2.2.1, t5.2.2.2.2.1, t8.2.2.2, t5.2.2.2.2.2.2)) := by
  dsimp only
  rw [reach_eq hz]
  by_cases e : f_V_isAddress a z = 0
  · simp only [if_pos e, ↓reduceIte]
    exact ⟨h, ⟨rfl, rfl, rfl⟩, ou_stop (c := 1) (by decide)⟩
  · simp only [if_neg e, show ¬ (1 : Int32) = 0 by decide, ↓reduceIte]
    have hX := hXY e
    obtain ⟨j, hj, rfl, w1, w2, -, -⟩ := addr_w e
    rw [w1, w2]
    obtain ⟨q1, q2, q3⟩ := fetch2_eq (ca := 0) (va := va) (go := go) h (j := j / 4) (by omega)
    rcases q3 with ⟨p1, p2, p3, p4⟩ | ⟨p1, p2, p3, p4, p5⟩
    · simp only [if_pos (lg0.mpr p1), if_pos p2]
      exact ⟨q1, q2, Or.inl ⟨show ¬ (5 : Int32) = 0 by decide, rfl, p3, p4⟩⟩
    · have p2' : ¬ (f_Mo_fetch wr wg li 0 va cn go (1 : Int32) (nI (j / 4))).1 = 0 := by rw [p2]; decide
      simp only [if_neg (fun q => p1 (lg0.mp q)), if_neg p2']
      rw [hX, p5]
      generalize f_Mo_fetch wr wg li 0 va cn go (1 : Int32) (nI (j / 4)) = G at q1 q2 p3 p4
      generalize f_V_fetch2 K co L2 r2 (nI (j / 4)) = F at q1
      obtain ⟨s1, s2⟩ := save_eq q1 (j := j / 4) (by omega) (Y G.2.2.2.2.2.2)
      generalize f_V_save F.2.1 L1 r1 F.2.2.2.1 F.2.2.2.2 (nI (j / 4)) (Y G.2.2.2.2.2.2) = S at s1
      generalize f_Mo_save wr G.2.1 G.2.2.1 G.2.2.2.2.2.1 (nI (j / 4)) (Y G.2.2.2.2.2.2) = T at s1 s2
      rw [p3, p4]
      exact ⟨s1, un_tr q2 s2, on_eq⟩
theorem st_eq (h : Rq K co L1 r1 L2 r2 wr wg li cn) : Sq cn R (f_Co_d k) pl gn (f_V_store K co L1 r1 L2 r2 R 0 va pl k) (f_Mo_store wr wg li 0 va cn k go (f_Co_f k) (f_Re_operand R (f_Co_s k) + f_Co_j k) (f_Re_operand R (f_Co_t k))) := by
  obtain ⟨f, hf, hk⟩ := vp_in_of (in_f k) (by decide)
  unfold f_V_store f_Mo_store f_V_stop f_Mo_illegal f_Mo_stop
  dsimp only
  rw [hk]
  generalize f_Re_operand R (f_Co_s k) + f_Co_j k = a
  generalize f_Re_operand R (f_Co_t k) = b
  have no : Sq cn R (f_Co_d k) pl gn (K, co, L1, r1, L2, r2, R, 2, k) (wr, wg, li, 2, k, cn, go) := ⟨h, ⟨rfl, rfl, rfl⟩, ou_stop (c := 2) (by decide)⟩
  rcases (show f = 0 ∨ f = 1 ∨ f = 2 ∨ f = 3 ∨ f = 4 ∨ f = 5 ∨ f = 6 ∨ f = 7 by omega) with rfl | rfl | rfl | rfl | rfl | rfl | rfl | rfl
  · simp (config := { decide := true }) only [show f_Co_size (nI 0) = 1 by decide, show (1 : Int32) <<< (nI 0 &&& 31) = 1 by decide, ↓reduceIte]
    exact stc h (Or.inl rfl) (fun v => (v &&& (((255 : Int32) <<< ((f_Co_shiftOf a) &&& 31)) ^^^ (-1 : Int32))) ||| ((b <<< ((f_Co_shiftOf a) &&& 31)) &&& ((255 : Int32) <<< ((f_Co_shiftOf a) &&& 31)))) (fun v => (v &&& (((255 : Int32) <<< (((8 : Int32) * (u_rem a (4 : Int32))) &&& 31)) ^^^ (-1 : Int32))) ||| ((b &&& (255 : Int32)) <<< (((8 : Int32) * (u_rem a (4 : Int32))) &&& 31))) (fun e v => by
      rw [← (sh_4 e).1, shl_and])
  · simp (config := { decide := true }) only [show f_Co_size (nI 1) = 2 by decide, show (1 : Int32) <<< (nI 1 &&& 31) = 2 by decide, ↓reduceIte]
    exact stc h (Or.inr (Or.inl rfl)) (fun v => (v &&& (((65535 : Int32) <<< ((f_Co_shiftOf a) &&& 31)) ^^^ (-1 : Int32))) ||| ((b <<< ((f_Co_shiftOf a) &&& 31)) &&& ((65535 : Int32) <<< ((f_Co_shiftOf a) &&& 31)))) (fun v => (v &&& (((65535 : Int32) <<< (((8 : Int32) * (u_rem a (4 : Int32))) &&& 31)) ^^^ (-1 : Int32))) ||| ((b &&& (65535 : Int32)) <<< (((8 : Int32) * (u_rem a (4 : Int32))) &&& 31))) (fun e v => by
      rw [← (sh_2 e).1, shl_and])
  · simp (config := { decide := true }) only [show f_Co_size (nI 2) = 4 by decide, show (1 : Int32) <<< (nI 2 &&& 31) = 4 by decide, ↓reduceIte]
    exact stw h b _ (fun e => by
      rw [← (sh_1 e).1, (sh_1 e).2, shl0, Int32.zero_and, Int32.zero_or, Int32.and_neg_one, shl0])
  · simp (config := { decide := true }) only [↓reduceIte]
    exact no
  · simp (config := { decide := true }) only [↓reduceIte]
    exact no
  · simp (config := { decide := true }) only [↓reduceIte]
    exact no
  · simp (config := { decide := true }) only [↓reduceIte]
    exact no
  · simp (config := { decide := true }) only [↓reduceIte]
    exact no
end STORE
