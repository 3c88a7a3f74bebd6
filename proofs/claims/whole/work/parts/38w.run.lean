/-! The run, on both sides -/
/-- the same answer, and the relation again -/
def Rv (ev : Int32) (V : Int32 × (Nat → Int64) × Int32 × (Nat → Int64) × Int32 × (Nat → Int64) × Int32 × (Nat → Int32) × Int32 × (Nat → Int32) × (Nat → Int32) × (Nat → Int32) × Int32 × Int32 × Int32 × Int32 × Int32 × Int32) (M : Int32 × (Nat → Int32) × (Nat → Int64) × (Nat → Int32) × (Nat → Int32) × (Nat → Int64) × Int32 × (Nat → Int32) × Int32 × Int32 × Int32 × (Nat → Int32) × Int32 × Int32 × Int32 × Int32 × Int32 × Int32) : Prop :=
  V.1 = M.1 ∧ Rel ev V.2.1 V.2.2.1 V.2.2.2.1 V.2.2.2.2.1 V.2.2.2.2.2.1 V.2.2.2.2.2.2.1 V.2.2.2.2.2.2.2.1 V.2.2.2.2.2.2.2.2.1 V.2.2.2.2.2.2.2.2.2.1 V.2.2.2.2.2.2.2.2.2.2.1 V.2.2.2.2.2.2.2.2.2.2.2.1 V.2.2.2.2.2.2.2.2.2.2.2.2.1 V.2.2.2.2.2.2.2.2.2.2.2.2.2.1 V.2.2.2.2.2.2.2.2.2.2.2.2.2.2.1 V.2.2.2.2.2.2.2.2.2.2.2.2.2.2.2.1 V.2.2.2.2.2.2.2.2.2.2.2.2.2.2.2.2.1 V.2.2.2.2.2.2.2.2.2.2.2.2.2.2.2.2.2 ev M.2.1 M.2.2.1 M.2.2.2.1 M.2.2.2.2.1 M.2.2.2.2.2.1 M.2.2.2.2.2.2.1 M.2.2.2.2.2.2.2.1 M.2.2.2.2.2.2.2.2.1 M.2.2.2.2.2.2.2.2.2.1 M.2.2.2.2.2.2.2.2.2.2.1 M.2.2.2.2.2.2.2.2.2.2.2.1 M.2.2.2.2.2.2.2.2.2.2.2.2.1 M.2.2.2.2.2.2.2.2.2.2.2.2.2.1 M.2.2.2.2.2.2.2.2.2.2.2.2.2.2.1 M.2.2.2.2.2.2.2.2.2.2.2.2.2.2.2.1 M.2.2.2.2.2.2.2.2.2.2.2.2.2.2.2.2.1 M.2.2.2.2.2.2.2.2.2.2.2.2.2.2.2.2.2
theorem run_l (ev : Int32) : ∀ (n j : Nat) (K : Nat → Int64) (co : Int32) (L1 : Nat → Int64) (r1 : Int32) (L2 : Nat → Int64) (r2 : Int32) (R : Nat → Int32) (vo : Int32) (FC FP FB : Nat → Int32) (fs cy sp de ca va : Int32) (wr : Nat → Int32) (wg : Nat → Int64) (ke ma : Nat → Int32) (li : Nat → Int64) (ps : Int32) (pn : Nat → Int32) (m_cy m_ca m_va : Int32) (cn : Nat → Int32) (pp px go ne gi gn : Int32),
    Rel ev K co L1 r1 L2 r2 R vo FC FP FB fs cy sp de ca va ev wr wg ke ma li ps pn m_cy m_ca m_va cn pp px go ne gi gn →
    Rv ev (f_V_run_l15 ev n j K co L1 r1 L2 r2 R vo FC FP FB fs cy sp de ca va) (f_Mo_run_l14 ev n j wr wg ke ma li ps pn m_cy m_ca m_va cn pp px go ne gi gn) := by
  intro n
  induction n with
  | zero =>
    intro j K co L1 r1 L2 r2 R vo FC FP FB fs cy sp de ca va wr wg ke ma li ps pn m_cy m_ca m_va cn pp px go ne gi gn h
    unfold f_V_run_l15 f_Mo_run_l14
    exact ⟨rfl, h⟩
  | succ n ih =>
    intro j K co L1 r1 L2 r2 R vo FC FP FB fs cy sp de ca va wr wg ke ma li ps pn m_cy m_ca m_va cn pp px go ne gi gn h
    obtain ⟨⟨h1, h2, h3, h4, h5⟩, ⟨n0, n1, n2, n3, n4, n5, ns⟩, hm, hc, hr, hf⟩ := id h
    subst h3
    subst h4
    subst h5
    unfold f_V_run_l15 f_Mo_run_l14
    by_cases c : m_ca = 0
    · rw [if_pos c, if_pos c]
      subst c
      dsimp only
      obtain ⟨f1, f2, f3, f4⟩ := faults_eq (cy := m_cy + (1 : Int32)) (wr := wr) hm hc hr hf
      generalize f_V_makePlannedFaults K L1 L2 R FC FP FB fs (m_cy + (1 : Int32)) = T at f1 f2 f3 f4 ⊢
      generalize f_Mo_makeFaults wg ma li ps pn (m_cy + (1 : Int32)) = U at f1 f2 f3 f4 ⊢
      obtain ⟨v1, v2, v3⟩ := vote_l 32 0 T.2.2.2.1 vo ke U.2.1 cn (by omega) f3 n2
      unfold f_Re_vote f_Mo_vote
      generalize f_Re_vote_l2 32 0 T.2.2.2.1 vo = A at v1 v2 ⊢
      generalize f_Mo_vote_l2 32 0 ke U.2.1 cn = B at v1 v2 v3 ⊢
      have hq : Rq T.1 co T.2.1 r1 T.2.2.1 r2 wr U.1 U.2.2.1 B.2.2 := ⟨f1, f2, (v3 0 (by decide)).trans n0, (v3 3 (by decide)).trans n3, (v3 4 (by decide)).trans n4⟩
      obtain ⟨i1, i2, i3, i4, i5⟩ := in_eq (va := m_va) (pp := pp) (px := px) (go := go) (ne := ne) (gi := gi) (gn := gn) hq v1
      generalize f_V_doInstruction T.1 co T.2.1 r1 T.2.2.1 r2 A.1 0 m_va = C at i1 i2 i3 i4 i5 ⊢
      generalize f_Mo_instruct wr U.1 B.1 B.2.1 U.2.2.1 0 m_va B.2.2 pp px go ne gi gn = D at i1 i2 i3 i4 i5 ⊢
      have c1 : D.2.2.2.2.2.2.2.1 1 = de := i2.1.trans ((v3 1 (by decide)).trans n1)
      have c2 : D.2.2.2.2.2.2.2.1 2 = A.2 := i2.2.1.trans v2
      have c5 : D.2.2.2.2.2.2.2.1 5 = sp := i2.2.2.trans ((v3 5 (by decide)).trans n5)
      by_cases e : u_rem (m_cy + (1 : Int32)) ev = 0
      · rw [if_pos e, if_pos e]
        obtain ⟨s1, s2, s3, s4, s5⟩ := scrub_eq i1 c5 ns c1
        generalize f_V_scrub C.1 C.2.1 sp de = S at s1 s2 s3 s4 ⊢
        generalize f_Mo_scrub D.2.1 D.2.2.2.2.2.2.2.1 = Q at s1 s2 s3 s4 s5 ⊢
        exact ih (j + 1) _ _ _ _ _ _ _ _ _ _ _ _ _ _ _ _ _ _ _ _ _ _ _ _ _ _ _ _ _ _ _ _ _ _ ⟨⟨rfl, h2, rfl, i4, i5⟩, ⟨s1.2.2.1, s4, s5.trans c2, s1.2.2.2.1, s1.2.2.2.2, s2, s3⟩, s1.1, s1.2.1, i3, f4⟩
      · rw [if_neg e, if_neg e]
        exact ih (j + 1) _ _ _ _ _ _ _ _ _ _ _ _ _ _ _ _ _ _ _ _ _ _ _ _ _ _ _ _ _ _ _ _ _ _ ⟨⟨rfl, h2, rfl, i4, i5⟩, ⟨i1.2.2.1, c1, c2, i1.2.2.2.1, i1.2.2.2.2, c5, ns⟩, i1.1, i1.2.1, i3, f4⟩
    · rw [if_neg c, if_neg c]
      exact ⟨rfl, h⟩
