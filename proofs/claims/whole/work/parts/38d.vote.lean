/-! The vote, the scrubber and the planned faults, on both sides -/
theorem xk {k a b : Int32} : k ^^^ a = k ^^^ b ↔ a = b := by
  constructor
  · intro h
    apply i_ext
    intro i hi
    have h2 := congrArg (fun x : Int32 => x.toBitVec.getLsbD i) h
    simp only [Int32.toBitVec_xor, BitVec.getLsbD_xor] at h2
    revert h2
    cases k.toBitVec.getLsbD i <;> cases a.toBitVec.getLsbD i <;> cases b.toBitVec.getLsbD i <;> decide
  · intro h; rw [h]
theorem put_same {R : Nat → Int32} {j : Nat} (hj : j < 32) (e1 : R (3 * j) = R (3 * j + 1)) (e2 : R (3 * j) = R (3 * j + 2)) (i : Nat) : f_Re_put R (nI j) (f_Re_agreed R (nI j)) i = R i := by
  have ha : f_Re_agreed R (nI j) = R (3 * j) := by
    unfold f_Re_agreed
    rw [c3_0 hj, c3_1 hj, c3_2 hj, ← e1, ← e2, Int32.and_self, Int32.or_self, Int32.or_self]
  rw [ha]
  unfold f_Re_put
  rw [c3_0 hj, c3_1 hj, c3_2 hj, upd3]
  by_cases a : i = 3 * j
  · rw [if_pos a, a]
  · rw [if_neg a]
    by_cases b : i = 3 * j + 1
    · rw [if_pos b, b, e1]
    · rw [if_neg b]
      by_cases c : i = 3 * j + 2
      · rw [if_pos c, c, e2]
      · rw [if_neg c]
theorem vote_l : ∀ (n j : Nat) (R : Nat → Int32) (vo : Int32) (ke ma cn : Nat → Int32), j + n ≤ 32 → RR R ke ma → cn 2 = vo →
    RR (f_Re_vote_l2 n j R vo).1 (f_Mo_vote_l2 n j ke ma cn).1 (f_Mo_vote_l2 n j ke ma cn).2.1 ∧ (f_Mo_vote_l2 n j ke ma cn).2.2 2 = (f_Re_vote_l2 n j R vo).2 ∧ ∀ i, i ≠ 2 → (f_Mo_vote_l2 n j ke ma cn).2.2 i = cn i := by
  intro n
  induction n with
  | zero =>
    intro j R vo ke ma cn _ h hv
    unfold f_Re_vote_l2 f_Mo_vote_l2
    exact ⟨h, hv, fun _ _ => rfl⟩
  | succ n ih =>
    intro j R vo ke ma cn hn h hv
    have hj : j < 32 := by omega
    have hin : vp_in (nI j) 32 := vp_in_nI hj (by decide)
    have hp := rr_put h hin (f_Re_agreed R (nI j))
    rw [agr_eq h hin] at hp
    have q0 : R (3 * j) = ke j ^^^ ma (3 * j) := h j hj 0 (by decide)
    have q1 := h j hj 1 (by decide)
    have q2 := h j hj 2 (by decide)
    have up : ∀ (x : Int32) (i : Nat), i ≠ 2 → upd cn 2 x i = cn i := fun x i hi => pk_un hi
    have case2 : ∀ (X : Nat → Int32) (x y : Int32), RR X (f_Mo_put ke ma (nI j) (f_Mo_valueOf ke ma (nI j))).1 (f_Mo_put ke ma (nI j) (f_Mo_valueOf ke ma (nI j))).2 → x = y →
        RR (f_Re_vote_l2 n (j + 1) X x).1 (f_Mo_vote_l2 n (j + 1) (f_Mo_put ke ma (nI j) (f_Mo_valueOf ke ma (nI j))).1 (f_Mo_put ke ma (nI j) (f_Mo_valueOf ke ma (nI j))).2 (upd cn 2 y)).1 (f_Mo_vote_l2 n (j + 1) (f_Mo_put ke ma (nI j) (f_Mo_valueOf ke ma (nI j))).1 (f_Mo_put ke ma (nI j) (f_Mo_valueOf ke ma (nI j))).2 (upd cn 2 y)).2.1 ∧ (f_Mo_vote_l2 n (j + 1) (f_Mo_put ke ma (nI j) (f_Mo_valueOf ke ma (nI j))).1 (f_Mo_put ke ma (nI j) (f_Mo_valueOf ke ma (nI j))).2 (upd cn 2 y)).2.2 2 = (f_Re_vote_l2 n (j + 1) X x).2 ∧ ∀ i, i ≠ 2 → (f_Mo_vote_l2 n (j + 1) (f_Mo_put ke ma (nI j) (f_Mo_valueOf ke ma (nI j))).1 (f_Mo_put ke ma (nI j) (f_Mo_valueOf ke ma (nI j))).2 (upd cn 2 y)).2.2 i = cn i := by
      intro X x y hX hxy
      obtain ⟨i1, i2, i3⟩ := ih (j + 1) X x _ _ (upd cn 2 y) (by omega) hX (pk_us.trans hxy.symm)
      exact ⟨i1, i2, fun i hi => (i3 i hi).trans (up _ i hi)⟩
    unfold f_Re_vote_l2 f_Mo_vote_l2
    dsimp only
    rw [c3_0 hj, c3_1 hj, c3_2 hj, show (2 : Int32).toNatClampNeg = 2 from rfl]
    by_cases e1 : ma (3 * j) = ma (3 * j + 1)
    · have f1 : R (3 * j) = R (3 * j + 1) := by rw [q0, q1, e1]
      rw [if_pos e1, if_pos f1]
      by_cases e2 : ma (3 * j) = ma (3 * j + 2)
      · have f2 : R (3 * j) = R (3 * j + 2) := by rw [q0, q2, e2]
        rw [if_pos e2, if_pos f2]
        refine case2 R vo (cn 2) ?_ hv.symm
        intro r hr c hc
        have := hp r hr c hc
        rw [← agr_eq h hin, put_same hj f1 f2] at this
        rw [← agr_eq h hin]
        exact this
      · have f2 : ¬ R (3 * j) = R (3 * j + 2) := fun q => e2 (xk.mp (by rw [← q0, ← q2]; exact q))
        rw [if_neg e2, if_neg f2, agr_eq h hin]
        exact case2 _ _ _ hp (by rw [hv])
    · have f1 : ¬ R (3 * j) = R (3 * j + 1) := fun q => e1 (xk.mp (by rw [← q0, ← q1]; exact q))
      rw [if_neg e1, if_neg f1, agr_eq h hin]
      exact case2 _ _ _ hp (by rw [hv])
section SCRUB
variable {K L1 L2 wg li : Nat → Int64} {co r1 r2 sp de : Int32} {wr cn : Nat → Int32}
theorem scrub_eq (h : Rq K co L1 r1 L2 r2 wr wg li cn) (h5 : cn 5 = sp) (hs : vp_in sp 64) (h1 : cn 1 = de) :
    Rq (f_V_scrub K co sp de).1 (f_V_scrub K co sp de).2.1 L1 r1 L2 r2 wr (f_Mo_scrub wg cn).1 li (f_Mo_scrub wg cn).2 ∧ (f_Mo_scrub wg cn).2 5 = (f_V_scrub K co sp de).2.2.1 ∧ vp_in (f_V_scrub K co sp de).2.2.1 64 ∧ (f_Mo_scrub wg cn).2 1 = (f_V_scrub K co sp de).2.2.2 ∧ (f_Mo_scrub wg cn).2 2 = cn 2 := by
  obtain ⟨j, hj, rfl⟩ := vp_in_of hs (by decide)
  obtain ⟨b1, b2, b3⟩ := mend_rel h hj
  have hv : vp_in (u_rem (nI j + (1 : Int32)) (64 : Int32)) 64 := by
    rw [show nI j + (1 : Int32) = nI (j + 1) from nI_1 j, show u_rem (nI (j + 1)) (64 : Int32) = nI ((j + 1) % 64) from u_remN (by omega) (by decide) (by decide)]
    exact vp_in_nI (by omega) (by decide)
  unfold f_V_scrub f_Mo_scrub
  dsimp only
  rw [show cn (5 : Int32).toNatClampNeg = nI j from h5]
  generalize f_Me_mend K co (nI j) = P at b1 b3
  generalize f_Mo_mend wg cn (nI j) = N at b1 b2 b3
  rcases b3 with ⟨c1, c2⟩ | ⟨c1, c2⟩
  · rw [if_pos (lg0.mpr c1), if_pos c2]
    refine ⟨⟨b1.1, b1.2.1, b1.2.2.1, b1.2.2.2.1, b1.2.2.2.2⟩, ?_, hv, ?_, b2.2.1⟩
    · show u_rem (N.2.2 5 + 1) 64 = u_rem (nI j + 1) 64
      rw [b2.2.2, h5]
    · show N.2.2 1 + 1 = de + 1
      rw [b2.1, h1]
  · rw [if_neg (fun q => ne_m _ (c1.symm.trans (lg0.mp q))), if_neg (by rw [c2]; decide)]
    refine ⟨⟨b1.1, b1.2.1, b1.2.2.1, b1.2.2.2.1, b1.2.2.2.2⟩, ?_, hv, ?_, b2.2.1⟩
    · show u_rem (N.2.2 5 + 1) 64 = u_rem (nI j + 1) 64
      rw [b2.2.2, h5]
    · show N.2.2 1 = de
      rw [b2.1, h1]
end SCRUB
