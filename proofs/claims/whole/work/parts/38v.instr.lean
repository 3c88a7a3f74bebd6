section INSTR
variable {K L1 L2 wg li : Nat → Int64} {co r1 r2 : Int32} {wr cn R ke ma : Nat → Int32} {va pp px go ne gi gn : Int32}
theorem le0_iff {d : Int32} (h : vp_in d 32) : d ≤ 0 ↔ d = 0 := by
  obtain ⟨j, hj, rfl⟩ := vp_in_of h (by decide)
  exact (by decide : ∀ j : Fin 32, nI j.val ≤ 0 ↔ nI j.val = 0) ⟨j, hj⟩
theorem at4 (a : Int32) : f_V_isAddress a 4 = 0 ↔ ¬ (u_rem a (4 : Int32) = 0 ∧ f_Mo_outside a (255 : Int32) = 0) := by
  have r := congrArg Prod.fst (reach_eq (a := a) (z := 4) (ca := 0) (va := 0) (Or.inr (Or.inr rfl)))
  unfold f_Mo_reaches f_Mo_stop at r
  dsimp only at r
  by_cases x : u_rem a (4 : Int32) = 0
  · by_cases y : f_Mo_outside a (255 : Int32) = 0
    · rw [if_pos x, if_pos y] at r
      constructor
      · intro e; rw [if_pos e] at r; exact absurd r (show ¬ (1 : Int32) = 0 by decide)
      · intro e; exact absurd ⟨x, y⟩ e
    · rw [if_pos x, if_neg y] at r
      constructor
      · intro _ e; exact y e.2
      · intro _
        by_cases e : f_V_isAddress a 4 = 0
        · exact e
        · rw [if_neg e] at r; exact absurd r (show ¬ (0 : Int32) = 1 by decide)
  · rw [if_neg x] at r
    constructor
    · intro _ e; exact x e.1
    · intro _
      by_cases e : f_V_isAddress a 4 = 0
      · exact e
      · rw [if_neg e] at r; exact absurd r (show ¬ (0 : Int32) = 1 by decide)
/-- what a whole instruction must keep -/
def Iq (cn : Nat → Int32) (V : (Nat → Int64) × Int32 × (Nat → Int64) × Int32 × (Nat → Int64) × Int32 × (Nat → Int32) × Int32 × Int32) (M : (Nat → Int32) × (Nat → Int64) × (Nat → Int32) × (Nat → Int32) × (Nat → Int64) × Int32 × Int32 × (Nat → Int32) × Int32 × Int32 × Int32 × Int32 × Int32 × Int32) : Prop :=
  Rq V.1 V.2.1 V.2.2.1 V.2.2.2.1 V.2.2.2.2.1 V.2.2.2.2.2.1 M.1 M.2.1 M.2.2.2.2.1 M.2.2.2.2.2.2.2.1 ∧ Un cn M.2.2.2.2.2.2.2.1 ∧ RR V.2.2.2.2.2.2.1 M.2.2.1 M.2.2.2.1 ∧ M.2.2.2.2.2.1 = V.2.2.2.2.2.2.2.1 ∧ M.2.2.2.2.2.2.1 = V.2.2.2.2.2.2.2.2
theorem in_eq (h : Rq K co L1 r1 L2 r2 wr wg li cn) (hR : RR R ke ma) :
    Iq cn (f_V_doInstruction K co L1 r1 L2 r2 R 0 va) (f_Mo_instruct wr wg ke ma li 0 va cn pp px go ne gi gn) := by
  have z0 : vp_in (0 : Int32) 32 := vp_in_nI (n := 0) (by decide) (by decide)
  have un : Un cn cn := ⟨rfl, rfl, rfl⟩
  unfold f_V_doInstruction f_Mo_instruct f_V_stop f_Mo_stop
  dsimp only
  rw [← agr_eq hR z0]
  generalize f_Re_agreed R 0 = pl
  by_cases e : f_V_isAddress pl 4 = 0
  · rw [if_pos e]
    by_cases x : u_rem pl (4 : Int32) = 0
    · rw [if_pos x, if_neg (fun y => (at4 pl).mp e ⟨x, y⟩), if_neg (show ¬ (1 : Int32) = 0 by decide)]
      exact ⟨h, un, hR, rfl, rfl⟩
    · rw [if_neg x, if_neg (show ¬ (1 : Int32) = 0 by decide)]
      exact ⟨h, un, hR, rfl, rfl⟩
  · have xy : u_rem pl (4 : Int32) = 0 ∧ f_Mo_outside pl (255 : Int32) = 0 := Decidable.byContradiction (fun q => e ((at4 pl).mpr q))
    rw [if_neg e, if_pos xy.1, if_pos xy.2]
    obtain ⟨j, hj, rfl, w1, w2, -, -⟩ := addr_w e
    rw [w1, w2]
    obtain ⟨q1, q2, q3⟩ := fetch1_eq (ca := 0) (va := va) (go := go) h (j := j / 4) (by omega)
    generalize f_Mo_fetch wr wg li 0 va cn go (0 : Int32) (nI (j / 4)) = G at q1 q2 q3 ⊢
    generalize f_V_fetch1 K co L1 r1 (nI (j / 4)) = F at q1 q3 ⊢
    rcases q3 with ⟨p1, p2, p3, p4⟩ | ⟨p1, p2, p3, p4, p5⟩
    · rw [if_pos (lg0.mpr p1), if_pos p2, if_neg (show ¬ G.2.2.2.1 = 0 by rw [p3]; decide)]
      exact ⟨q1, q2, hR, p3, p4⟩
    · rw [if_neg (fun q => p1 (lg0.mp q)), if_neg (show ¬ G.1 = 0 by rw [p2]; decide), p3, p4, p5]
      have x := ex_eq (va := va) (pl := nI j) (go := G.2.2.2.2.2.2) (gn := gn) (k := G.2.2.2.2.2.2) q1 hR
      show Iq cn (Ve F.2.1 F.2.2.1 F.2.2.2.1 F.2.2.2.2 L2 r2 R va (nI j) G.2.2.2.2.2.2) _
      rw [fd_d]
      generalize Ve F.2.1 F.2.2.1 F.2.2.2.1 F.2.2.2.2 L2 r2 R va (nI j) G.2.2.2.2.2.2 = V at x ⊢
      generalize f_Mo_execute wr G.2.1 ke ma G.2.2.1 0 va G.2.2.2.2.2.1 (nI j) G.2.2.2.2.2.2 G.2.2.2.2.2.2 (nI j + (4 : Int32)) 0 gn = E at x ⊢
      generalize G.2.2.2.2.2.2 = k at x ⊢
      obtain ⟨x1, x2, x3⟩ := x
      rcases x3 with ⟨y1, y2, y3, y4⟩ | ⟨y1, y2, y3, y4⟩
      · rw [if_neg (show ¬ E.2.2.2.1 = 0 by rw [y3]; exact y1)]
        refine ⟨x1, un_tr q2 x2, ?_, y3, y4⟩
        show RR V.2.2.2.2.2.2.1 ke ma
        rw [y2]
        exact hR
      · rw [if_pos y2]
        by_cases g : E.2.2.2.2.2.2.2.2.1 = 0
        · rw [if_pos g] at y4 ⊢
          refine ⟨x1, un_tr q2 x2, ?_, y2.trans y1.symm, y3⟩
          show RR V.2.2.2.2.2.2.1 _ _
          rw [y4]
          exact rr_put hR z0 _
        · rw [if_neg g] at y4 ⊢
          unfold f_Re_putResult at y4
          by_cases d : f_Co_d k = 0
          · rw [if_pos d] at y4
            rw [if_pos ((le0_iff (in_d k)).mpr d)]
            refine ⟨x1, un_tr q2 x2, ?_, y2.trans y1.symm, y3⟩
            show RR V.2.2.2.2.2.2.1 _ _
            rw [y4]
            exact rr_put hR z0 _
          · rw [if_neg d] at y4
            rw [if_neg (fun q => d ((le0_iff (in_d k)).mp q))]
            refine ⟨x1, un_tr q2 x2, ?_, y2.trans y1.symm, y3⟩
            show RR V.2.2.2.2.2.2.1 _ _
            rw [y4]
            exact rr_put (rr_put hR (in_d k) _) z0 _
end INSTR
