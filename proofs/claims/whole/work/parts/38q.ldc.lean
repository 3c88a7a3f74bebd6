section LDC
variable {K L1 L2 wg li : Nat → Int64} {co r1 r2 : Int32} {wr cn R : Nat → Int32} {va pl d go gn a z : Int32}
/-- what a load must keep -/
def Lq (L1 : Nat → Int64) (r1 : Int32) (wr cn R : Nat → Int32) (d pl : Int32) (V : (Nat → Int64) × Int32 × (Nat → Int64) × Int32 × (Nat → Int32) × Int32 × Int32) (M : (Nat → Int64) × (Nat → Int64) × Int32 × Int32 × (Nat → Int32) × Int32 × Int32 × Int32) : Prop :=
  Rq V.1 V.2.1 L1 r1 V.2.2.1 V.2.2.2.1 wr M.1 M.2.1 M.2.2.2.2.1 ∧ Un cn M.2.2.2.2.1 ∧ Ou R d V.2.2.2.2.1 V.2.2.2.2.2.1 V.2.2.2.2.2.2 M.2.2.1 M.2.2.2.1 (pl + (4 : Int32)) M.2.2.2.2.2.2.1 M.2.2.2.2.2.2.2
theorem ldc (h : Rq K co L1 r1 L2 r2 wr wg li cn) (hz : z = 1 ∨ z = 2 ∨ z = 4) (X Y : Int32 → Int32) (hXY : ¬ f_V_isAddress a z = 0 → ∀ v, X v = Y v) :
    Lq L1 r1 wr cn R d pl
      (if f_V_isAddress a z = 0 then (K, co, L2, r2, R, 1, a) else if lg_cmp (f_V_fetch2 K co L2 r2 (u_ush a (2 : Int32))).1 (-2 : Int64) = 0 then ((f_V_fetch2 K co L2 r2 (u_ush a (2 : Int32))).2.1, (f_V_fetch2 K co L2 r2 (u_ush a (2 : Int32))).2.2.1, (f_V_fetch2 K co L2 r2 (u_ush a (2 : Int32))).2.2.2.1, (f_V_fetch2 K co L2 r2 (u_ush a (2 : Int32))).2.2.2.2, R, 5, u_ush a (2 : Int32)) else ((f_V_fetch2 K co L2 r2 (u_ush a (2 : Int32))).2.1, (f_V_fetch2 K co L2 r2 (u_ush a (2 : Int32))).2.2.1, (f_V_fetch2 K co L2 r2 (u_ush a (2 : Int32))).2.2.2.1, (f_V_fetch2 K co L2 r2 (u_ush a (2 : Int32))).2.2.2.2, f_V_finish R pl d (X (f_V_fetch2 K co L2 r2 (u_ush a (2 : Int32))).1.toInt32), 0, va))
      (let t16 := f_Mo_reaches 0 va a z
       if t16.1 = 0 then (wg, li, t16.2.1, t16.2.2, cn, go, 0, gn) else
       let t17 := f_Mo_fetch wr wg li t16.2.1 t16.2.2 cn go (1 : Int32) (a / (4 : Int32))
       if t17.1 = 0 then (t17.2.1, t17.2.2.1, t17.2.2.2.1, t17.2.2.2.2.1, t17.2.2.2.2.2.1, t17.2.2.2.2.2.2, 0, gn) else (t17.2.1, t17.2.2.1, t17.2.2.2.1, t17.2.2.2.2.1, t17.2.2.2.2.2.1, t17.2.2.2.2.2.2, 1, Y t17.2.2.2.2.2.2)) := by
  dsimp only
  rw [reach_eq hz]
  by_cases e : f_V_isAddress a z = 0
  · simp only [if_pos e, ↓reduceIte]
    exact ⟨h, ⟨rfl, rfl, rfl⟩, ou_stop (c := 1) (by decide)⟩
  · simp only [if_neg e, show ¬ (1 : Int32) = 0 by decide, ↓reduceIte]
    have hX := hXY e
    obtain ⟨j, hj, rfl, w1, w2, -, -⟩ := addr_w e
    rw [w1, w2]
    obtain ⟨q1, q2, q3⟩ := fetch2_eq (ca := 0) (va := va) (go := go) h (j := j / 4) (by omega)
    rcases q3 with ⟨p1, p2, p3, p4⟩ | ⟨p1, p2, p3, p4, p5⟩
    · simp only [if_pos (lg0.mpr p1), if_pos p2]
      exact ⟨q1, q2, Or.inl ⟨show ¬ (5 : Int32) = 0 by decide, rfl, p3, p4⟩⟩
    · have p2' : ¬ (f_Mo_fetch wr wg li 0 va cn go (1 : Int32) (nI (j / 4))).1 = 0 := by rw [p2]; decide
      simp only [if_neg (fun q => p1 (lg0.mp q)), if_neg p2']
      refine ⟨q1, q2, Or.inr ⟨rfl, p3, p4, ?_⟩⟩
      show f_V_finish R pl d _ = f_Re_put (if (1 : Int32) = 0 then R else f_Re_putResult R d _) 0 (pl + 4)
      rw [if_neg (show ¬ (1 : Int32) = 0 by decide), hX, p5]
      rfl
end LDC
