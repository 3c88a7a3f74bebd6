section SAVE
variable {K L1 L2 wg li : Nat → Int64} {co r1 r2 : Int32} {wr cn : Nat → Int32} {j : Nat}
theorem keep_rel (h : Rq K co L1 r1 L2 r2 wr wg li cn) (hj : j < 64) (v : Int32) : Rq (f_Me_keep K (nI j) v) co L1 r1 L2 r2 (f_Mo_keep wr wg (nI j) v).1 (f_Mo_keep wr wg (nI j) v).2 li cn := by
  refine ⟨fun w hw => ?_, h.2⟩
  unfold f_Mo_keep
  dsimp only
  rw [keep_eq, nI_clamp (by omega)]
  by_cases e : w = j
  · subst e
    rw [pk_uLs, pk_us, pk_uLs]
    exact ⟨by apply uN_inj; rw [uN_xor', show uN (0 : Int64) = 0 by decide, Nat.xor_zero], lo0 _⟩
  · rw [pk_uLn e, pk_un e, pk_uLn e]
    exact h.1 w hw
theorem data_part (h : Rq K co L1 r1 L2 r2 wr wg li cn) (hj : j < 64) (v : Int32) :
    Rq K co L1 r1 (if f_Ca_holds (f_Ca_dropIfWrong L2 r2 (nI j)).1 (nI j) = 0 then (f_Ca_dropIfWrong L2 r2 (nI j)).1 else f_Ca_fill (f_Ca_dropIfWrong L2 r2 (nI j)).1 (nI j) v) (f_Ca_dropIfWrong L2 r2 (nI j)).2 wr wg (if (f_Mo_holds li cn (1 : Int32) (nI j)).1 = 0 then (f_Mo_holds li cn (1 : Int32) (nI j)).2.1 else vp_updL (f_Mo_holds li cn (1 : Int32) (nI j)).2.1 ((4 : Int32) + (u_rem (nI j) (4 : Int32))).toNatClampNeg (f_Mo_line v (nI j / (4 : Int32)))) (f_Mo_holds li cn (1 : Int32) (nI j)).2.2 ∧ Un cn (f_Mo_holds li cn (1 : Int32) (nI j)).2.2 := by
  obtain ⟨b1, b2, b3⟩ := hold1 h hj
  refine ⟨?_, b3⟩
  rw [b1]
  by_cases hh : f_Ca_holds (f_Ca_dropIfWrong L2 r2 (nI j)).1 (nI j) = 0
  · rw [if_pos hh, if_pos hh]
    exact b2
  · rw [if_neg hh, if_neg hh]
    obtain ⟨d1, d2, d3, d4⟩ := fill_eq v hj
    refine ⟨b2.1, ?_, b2.2.2⟩
    unfold f_Ca_fill
    dsimp only
    rw [line_at hj, d1, show u_rem (nI j) (4 : Int32) = nI (j % 4) from u_remN (by omega) (by decide) (by decide), show (4 : Int32) + nI (j % 4) = nI (4 + j % 4) from nI_add 4 _, nI_clamp (n := 4 + j % 4) (by omega)]
    exact rc_set2 b2.2.1 (by omega) d2
theorem save_eq (h : Rq K co L1 r1 L2 r2 wr wg li cn) (hj : j < 64) (v : Int32) :
    Rq (f_V_save K L1 r1 L2 r2 (nI j) v).1 co (f_V_save K L1 r1 L2 r2 (nI j) v).2.1 (f_V_save K L1 r1 L2 r2 (nI j) v).2.2.1 (f_V_save K L1 r1 L2 r2 (nI j) v).2.2.2.1 (f_V_save K L1 r1 L2 r2 (nI j) v).2.2.2.2 (f_Mo_save wr wg li cn (nI j) v).1 (f_Mo_save wr wg li cn (nI j) v).2.1 (f_Mo_save wr wg li cn (nI j) v).2.2.1 (f_Mo_save wr wg li cn (nI j) v).2.2.2 ∧ Un cn (f_Mo_save wr wg li cn (nI j) v).2.2.2 := by
  have h' := keep_rel h hj v
  obtain ⟨a1, a2, a3⟩ := hold0 h' hj
  unfold f_V_save f_Mo_save
  dsimp only
  generalize f_Me_keep K (nI j) v = K' at h' a2
  generalize f_Mo_keep wr wg (nI j) v = W' at h' a2
  generalize f_Ca_dropIfWrong L1 r1 (nI j) = T at a1 a2
  generalize f_Mo_holds li cn (0 : Int32) (nI j) = U at a1 a2 a3
  have un : ∀ c2 : Nat → Int32, Un U.2.2 c2 → Un cn c2 := fun c2 q => ⟨q.1.trans a3.1, q.2.1.trans a3.2.1, q.2.2.trans a3.2.2⟩
  rw [a1]
  by_cases hh : f_Ca_holds T.1 (nI j) = 0
  · rw [if_pos hh, if_pos hh]
    obtain ⟨d1, d2⟩ := data_part a2 hj v
    have b1 := (hold1 a2 hj).1
    by_cases h2 : f_Ca_holds (f_Ca_dropIfWrong L2 r2 (nI j)).1 (nI j) = 0
    · rw [if_pos h2, if_pos (b1.trans h2)] at d1
      rw [if_pos h2, if_pos (b1.trans h2)]
      exact ⟨d1, un _ d2⟩
    · rw [if_neg h2, if_neg (fun q => h2 (b1.symm.trans q))] at d1
      rw [if_neg h2, if_neg (fun q => h2 (b1.symm.trans q))]
      exact ⟨d1, un _ d2⟩
  · rw [if_neg hh, if_neg hh]
    have hr : (u_rem (nI j) (4 : Int32)).toNatClampNeg = j % 4 := by rw [show u_rem (nI j) (4 : Int32) = nI (j % 4) from u_remN (by omega) (by decide) (by decide)]; exact nI_clamp (by omega)
    rw [hr]
    have a4 : Rq K' co (f_Ca_drop T.1 (nI j)) T.2 L2 r2 W'.1 W'.2 (vp_updL U.2.1 (j % 4) 0) U.2.2 := by
      refine ⟨a2.1, ?_, a2.2.2⟩
      unfold f_Ca_drop
      rw [line_at hj]
      exact rc_set1 a2.2.1 (by omega) (lo0 _)
    obtain ⟨d1, d2⟩ := data_part a4 hj v
    have b1 := (hold1 a4 hj).1
    by_cases h2 : f_Ca_holds (f_Ca_dropIfWrong L2 r2 (nI j)).1 (nI j) = 0
    · rw [if_pos h2, if_pos (b1.trans h2)] at d1
      rw [if_pos h2, if_pos (b1.trans h2)]
      exact ⟨d1, un _ d2⟩
    · rw [if_neg h2, if_neg (fun q => h2 (b1.symm.trans q))] at d1
      rw [if_neg h2, if_neg (fun q => h2 (b1.symm.trans q))]
      exact ⟨d1, un _ d2⟩
end SAVE
