/-! One theorem a call: the same answer, and the relation again -/
theorem lo0 (n : Nat) : wLo n 0 := by
  show uN (0 : Int64) < 2 ^ n
  rw [show uN (0 : Int64) = 0 by decide]
  exact Nat.two_pow_pos n
theorem rel_cause {ev : Int32} {K : Nat → Int64} {co : Int32} {L1 : Nat → Int64} {r1 : Int32} {L2 : Nat → Int64} {r2 : Int32} {R : Nat → Int32} {vo : Int32} {FC : Nat → Int32} {FP : Nat → Int32} {FB : Nat → Int32} {fs : Int32} {cy : Int32} {sp : Int32} {de : Int32} {ca : Int32} {va : Int32} {m_ev : Int32} {m_wr : Nat → Int32} {m_wg : Nat → Int64} {m_ke : Nat → Int32} {m_ma : Nat → Int32} {m_li : Nat → Int64} {m_ps : Int32} {m_pn : Nat → Int32} {m_cy : Int32} {m_ca : Int32} {m_va : Int32} {m_cn : Nat → Int32} {m_pp : Int32} {m_px : Int32} {m_go : Int32} {m_ne : Int32} {m_gi : Int32} {m_gn : Int32} (hR : Rel ev K co L1 r1 L2 r2 R vo FC FP FB fs cy sp de ca va m_ev m_wr m_wg m_ke m_ma m_li m_ps m_pn m_cy m_ca m_va m_cn m_pp m_px m_go m_ne m_gi m_gn)  : (f_V_cause ca) = (f_Mo_cause m_ca) ∧ Rel ev K co L1 r1 L2 r2 R vo FC FP FB fs cy sp de ca va m_ev m_wr m_wg m_ke m_ma m_li m_ps m_pn m_cy m_ca m_va m_cn m_pp m_px m_go m_ne m_gi m_gn := ⟨hR.1.2.2.2.1.symm, hR⟩
theorem rel_value {ev : Int32} {K : Nat → Int64} {co : Int32} {L1 : Nat → Int64} {r1 : Int32} {L2 : Nat → Int64} {r2 : Int32} {R : Nat → Int32} {vo : Int32} {FC : Nat → Int32} {FP : Nat → Int32} {FB : Nat → Int32} {fs : Int32} {cy : Int32} {sp : Int32} {de : Int32} {ca : Int32} {va : Int32} {m_ev : Int32} {m_wr : Nat → Int32} {m_wg : Nat → Int64} {m_ke : Nat → Int32} {m_ma : Nat → Int32} {m_li : Nat → Int64} {m_ps : Int32} {m_pn : Nat → Int32} {m_cy : Int32} {m_ca : Int32} {m_va : Int32} {m_cn : Nat → Int32} {m_pp : Int32} {m_px : Int32} {m_go : Int32} {m_ne : Int32} {m_gi : Int32} {m_gn : Int32} (hR : Rel ev K co L1 r1 L2 r2 R vo FC FP FB fs cy sp de ca va m_ev m_wr m_wg m_ke m_ma m_li m_ps m_pn m_cy m_ca m_va m_cn m_pp m_px m_go m_ne m_gi m_gn)  : (f_V_value va) = (f_Mo_value m_va) ∧ Rel ev K co L1 r1 L2 r2 R vo FC FP FB fs cy sp de ca va m_ev m_wr m_wg m_ke m_ma m_li m_ps m_pn m_cy m_ca m_va m_cn m_pp m_px m_go m_ne m_gi m_gn := ⟨hR.1.2.2.2.2.symm, hR⟩
theorem rel_cycles {ev : Int32} {K : Nat → Int64} {co : Int32} {L1 : Nat → Int64} {r1 : Int32} {L2 : Nat → Int64} {r2 : Int32} {R : Nat → Int32} {vo : Int32} {FC : Nat → Int32} {FP : Nat → Int32} {FB : Nat → Int32} {fs : Int32} {cy : Int32} {sp : Int32} {de : Int32} {ca : Int32} {va : Int32} {m_ev : Int32} {m_wr : Nat → Int32} {m_wg : Nat → Int64} {m_ke : Nat → Int32} {m_ma : Nat → Int32} {m_li : Nat → Int64} {m_ps : Int32} {m_pn : Nat → Int32} {m_cy : Int32} {m_ca : Int32} {m_va : Int32} {m_cn : Nat → Int32} {m_pp : Int32} {m_px : Int32} {m_go : Int32} {m_ne : Int32} {m_gi : Int32} {m_gn : Int32} (hR : Rel ev K co L1 r1 L2 r2 R vo FC FP FB fs cy sp de ca va m_ev m_wr m_wg m_ke m_ma m_li m_ps m_pn m_cy m_ca m_va m_cn m_pp m_px m_go m_ne m_gi m_gn)  : (f_V_cycles cy) = (f_Mo_cycles m_cy) ∧ Rel ev K co L1 r1 L2 r2 R vo FC FP FB fs cy sp de ca va m_ev m_wr m_wg m_ke m_ma m_li m_ps m_pn m_cy m_ca m_va m_cn m_pp m_px m_go m_ne m_gi m_gn := ⟨hR.1.2.2.1.symm, hR⟩
theorem rel_planned {ev : Int32} {K : Nat → Int64} {co : Int32} {L1 : Nat → Int64} {r1 : Int32} {L2 : Nat → Int64} {r2 : Int32} {R : Nat → Int32} {vo : Int32} {FC : Nat → Int32} {FP : Nat → Int32} {FB : Nat → Int32} {fs : Int32} {cy : Int32} {sp : Int32} {de : Int32} {ca : Int32} {va : Int32} {m_ev : Int32} {m_wr : Nat → Int32} {m_wg : Nat → Int64} {m_ke : Nat → Int32} {m_ma : Nat → Int32} {m_li : Nat → Int64} {m_ps : Int32} {m_pn : Nat → Int32} {m_cy : Int32} {m_ca : Int32} {m_va : Int32} {m_cn : Nat → Int32} {m_pp : Int32} {m_px : Int32} {m_go : Int32} {m_ne : Int32} {m_gi : Int32} {m_gn : Int32} (hR : Rel ev K co L1 r1 L2 r2 R vo FC FP FB fs cy sp de ca va m_ev m_wr m_wg m_ke m_ma m_li m_ps m_pn m_cy m_ca m_va m_cn m_pp m_px m_go m_ne m_gi m_gn)  : (f_V_planned fs) = (f_Mo_planned m_ps) ∧ Rel ev K co L1 r1 L2 r2 R vo FC FP FB fs cy sp de ca va m_ev m_wr m_wg m_ke m_ma m_li m_ps m_pn m_cy m_ca m_va m_cn m_pp m_px m_go m_ne m_gi m_gn := ⟨hR.2.2.2.2.2.1.symm, hR⟩
theorem rel_count {ev : Int32} {K : Nat → Int64} {co : Int32} {L1 : Nat → Int64} {r1 : Int32} {L2 : Nat → Int64} {r2 : Int32} {R : Nat → Int32} {vo : Int32} {FC : Nat → Int32} {FP : Nat → Int32} {FB : Nat → Int32} {fs : Int32} {cy : Int32} {sp : Int32} {de : Int32} {ca : Int32} {va : Int32} {m_ev : Int32} {m_wr : Nat → Int32} {m_wg : Nat → Int64} {m_ke : Nat → Int32} {m_ma : Nat → Int32} {m_li : Nat → Int64} {m_ps : Int32} {m_pn : Nat → Int32} {m_cy : Int32} {m_ca : Int32} {m_va : Int32} {m_cn : Nat → Int32} {m_pp : Int32} {m_px : Int32} {m_go : Int32} {m_ne : Int32} {m_gi : Int32} {m_gn : Int32} (hR : Rel ev K co L1 r1 L2 r2 R vo FC FP FB fs cy sp de ca va m_ev m_wr m_wg m_ke m_ma m_li m_ps m_pn m_cy m_ca m_va m_cn m_pp m_px m_go m_ne m_gi m_gn) (x0 : Int32) : (f_V_count co r1 r2 vo sp de x0) = (f_Mo_count m_cn x0) ∧ Rel ev K co L1 r1 L2 r2 R vo FC FP FB fs cy sp de ca va m_ev m_wr m_wg m_ke m_ma m_li m_ps m_pn m_cy m_ca m_va m_cn m_pp m_px m_go m_ne m_gi m_gn := by
  refine ⟨?_, hR⟩
  obtain ⟨n0, n1, n2, n3, n4, n5, -⟩ := hR.2.1
  unfold f_V_count f_Mo_count
  by_cases h : f_Mo_outside x0 (5 : Int32) = 0
  · rw [if_pos h]
    obtain ⟨j, hj, rfl⟩ := vp_in_of (in_out (n := 6) (by decide) h) (by decide)
    rw [nI_clamp (by omega)]
    rcases (show j = 0 ∨ j = 1 ∨ j = 2 ∨ j = 3 ∨ j = 4 ∨ j = 5 by omega) with rfl | rfl | rfl | rfl | rfl | rfl
    · rw [if_pos (show nI 0 = 0 from rfl), n0]
    · rw [if_neg (by decide), if_pos (show nI 1 = 1 from rfl), n1]
    · rw [if_neg (by decide), if_neg (by decide), if_pos (show nI 2 = 2 from rfl), n2]
    · rw [if_neg (by decide), if_neg (by decide), if_neg (by decide), if_pos (show nI 3 = 3 from rfl), n3]
    · rw [if_neg (by decide), if_neg (by decide), if_neg (by decide), if_neg (by decide), if_pos (show nI 4 = 4 from rfl), n4]
    · rw [if_neg (by decide), if_neg (by decide), if_neg (by decide), if_neg (by decide), if_neg (by decide), if_pos (show nI 5 = 5 from rfl), n5]
  · have hne : ∀ k : Fin 6, ¬ x0 = nI k.val := fun k e => h (by
      have : ∀ k : Fin 6, f_Mo_outside (nI k.val) (5 : Int32) = 0 := by decide
      rw [e]; exact this k)
    rw [if_neg h, if_neg (show ¬ x0 = 0 from hne 0), if_neg (show ¬ x0 = 1 from hne 1), if_neg (show ¬ x0 = 2 from hne 2), if_neg (show ¬ x0 = 3 from hne 3), if_neg (show ¬ x0 = 4 from hne 4), if_neg (show ¬ x0 = 5 from hne 5)]
theorem rel_register {ev : Int32} {K : Nat → Int64} {co : Int32} {L1 : Nat → Int64} {r1 : Int32} {L2 : Nat → Int64} {r2 : Int32} {R : Nat → Int32} {vo : Int32} {FC : Nat → Int32} {FP : Nat → Int32} {FB : Nat → Int32} {fs : Int32} {cy : Int32} {sp : Int32} {de : Int32} {ca : Int32} {va : Int32} {m_ev : Int32} {m_wr : Nat → Int32} {m_wg : Nat → Int64} {m_ke : Nat → Int32} {m_ma : Nat → Int32} {m_li : Nat → Int64} {m_ps : Int32} {m_pn : Nat → Int32} {m_cy : Int32} {m_ca : Int32} {m_va : Int32} {m_cn : Nat → Int32} {m_pp : Int32} {m_px : Int32} {m_go : Int32} {m_ne : Int32} {m_gi : Int32} {m_gn : Int32} (hR : Rel ev K co L1 r1 L2 r2 R vo FC FP FB fs cy sp de ca va m_ev m_wr m_wg m_ke m_ma m_li m_ps m_pn m_cy m_ca m_va m_cn m_pp m_px m_go m_ne m_gi m_gn) (x0 : Int32) : (f_V_register R x0) = (f_Mo_register m_ke m_ma x0) ∧ Rel ev K co L1 r1 L2 r2 R vo FC FP FB fs cy sp de ca va m_ev m_wr m_wg m_ke m_ma m_li m_ps m_pn m_cy m_ca m_va m_cn m_pp m_px m_go m_ne m_gi m_gn := by
  refine ⟨?_, hR⟩
  unfold f_V_register f_Mo_register
  by_cases h : f_Mo_outside x0 (31 : Int32) = 0
  · rw [if_pos h, if_neg (reg_iff.mpr h)]
    exact agr_eq hR.2.2.2.2.1 (in_out (by decide) h)
  · rw [if_neg h, if_pos (nn reg_iff h)]
theorem rel_set {ev : Int32} {K : Nat → Int64} {co : Int32} {L1 : Nat → Int64} {r1 : Int32} {L2 : Nat → Int64} {r2 : Int32} {R : Nat → Int32} {vo : Int32} {FC : Nat → Int32} {FP : Nat → Int32} {FB : Nat → Int32} {fs : Int32} {cy : Int32} {sp : Int32} {de : Int32} {ca : Int32} {va : Int32} {m_ev : Int32} {m_wr : Nat → Int32} {m_wg : Nat → Int64} {m_ke : Nat → Int32} {m_ma : Nat → Int32} {m_li : Nat → Int64} {m_ps : Int32} {m_pn : Nat → Int32} {m_cy : Int32} {m_ca : Int32} {m_va : Int32} {m_cn : Nat → Int32} {m_pp : Int32} {m_px : Int32} {m_go : Int32} {m_ne : Int32} {m_gi : Int32} {m_gn : Int32} (hR : Rel ev K co L1 r1 L2 r2 R vo FC FP FB fs cy sp de ca va m_ev m_wr m_wg m_ke m_ma m_li m_ps m_pn m_cy m_ca m_va m_cn m_pp m_px m_go m_ne m_gi m_gn) (x0 : Int32) (x1 : Int32) : (f_V_set R x0 x1).1 = (f_Mo_set m_ke m_ma x0 x1).1 ∧ Rel ev K co L1 r1 L2 r2 ((f_V_set R x0 x1).2) vo FC FP FB fs cy sp de ca va m_ev m_wr m_wg ((f_Mo_set m_ke m_ma x0 x1).2.1) ((f_Mo_set m_ke m_ma x0 x1).2.2) m_li m_ps m_pn m_cy m_ca m_va m_cn m_pp m_px m_go m_ne m_gi m_gn := by
  unfold f_V_set f_Mo_set
  by_cases h : f_Mo_outside x0 (31 : Int32) = 0
  · rw [if_pos h, if_neg (reg_iff.mpr h)]
    exact ⟨rfl, hR.1, hR.2.1, hR.2.2.1, hR.2.2.2.1, rr_put hR.2.2.2.2.1 (in_out (by decide) h) x1, hR.2.2.2.2.2⟩
  · rw [if_neg h, if_pos (nn reg_iff h)]
    exact ⟨rfl, hR⟩
theorem rel_resume {ev : Int32} {K : Nat → Int64} {co : Int32} {L1 : Nat → Int64} {r1 : Int32} {L2 : Nat → Int64} {r2 : Int32} {R : Nat → Int32} {vo : Int32} {FC : Nat → Int32} {FP : Nat → Int32} {FB : Nat → Int32} {fs : Int32} {cy : Int32} {sp : Int32} {de : Int32} {ca : Int32} {va : Int32} {m_ev : Int32} {m_wr : Nat → Int32} {m_wg : Nat → Int64} {m_ke : Nat → Int32} {m_ma : Nat → Int32} {m_li : Nat → Int64} {m_ps : Int32} {m_pn : Nat → Int32} {m_cy : Int32} {m_ca : Int32} {m_va : Int32} {m_cn : Nat → Int32} {m_pp : Int32} {m_px : Int32} {m_go : Int32} {m_ne : Int32} {m_gi : Int32} {m_gn : Int32} (hR : Rel ev K co L1 r1 L2 r2 R vo FC FP FB fs cy sp de ca va m_ev m_wr m_wg m_ke m_ma m_li m_ps m_pn m_cy m_ca m_va m_cn m_pp m_px m_go m_ne m_gi m_gn) (x0 : Int32) : (f_V_resume R ca va x0).1 = (f_Mo_resume m_ke m_ma m_ca m_va x0).1 ∧ Rel ev K co L1 r1 L2 r2 ((f_V_resume R ca va x0).2.1) vo FC FP FB fs cy sp de ((f_V_resume R ca va x0).2.2.1) ((f_V_resume R ca va x0).2.2.2) m_ev m_wr m_wg ((f_Mo_resume m_ke m_ma m_ca m_va x0).2.1) ((f_Mo_resume m_ke m_ma m_ca m_va x0).2.2.1) m_li m_ps m_pn m_cy ((f_Mo_resume m_ke m_ma m_ca m_va x0).2.2.2.1) ((f_Mo_resume m_ke m_ma m_ca m_va x0).2.2.2.2) m_cn m_pp m_px m_go m_ne m_gi m_gn := by
  obtain ⟨⟨h1, h2, h3, h4, h5⟩, hr⟩ := id hR
  unfold f_V_resume f_Mo_resume
  by_cases h : ca = 0
  · rw [if_pos h, if_pos (h4.trans h)]
    exact ⟨rfl, hR⟩
  · rw [if_neg h, if_neg (fun q => h (h4.symm.trans q))]
    exact ⟨rfl, ⟨h1, h2, h3, rfl, rfl⟩, hr.1, hr.2.1, hr.2.2.1, rr_put hr.2.2.2.1 (vp_ofb (by decide)) x0, hr.2.2.2.2⟩
theorem rel_flip {ev : Int32} {K : Nat → Int64} {co : Int32} {L1 : Nat → Int64} {r1 : Int32} {L2 : Nat → Int64} {r2 : Int32} {R : Nat → Int32} {vo : Int32} {FC : Nat → Int32} {FP : Nat → Int32} {FB : Nat → Int32} {fs : Int32} {cy : Int32} {sp : Int32} {de : Int32} {ca : Int32} {va : Int32} {m_ev : Int32} {m_wr : Nat → Int32} {m_wg : Nat → Int64} {m_ke : Nat → Int32} {m_ma : Nat → Int32} {m_li : Nat → Int64} {m_ps : Int32} {m_pn : Nat → Int32} {m_cy : Int32} {m_ca : Int32} {m_va : Int32} {m_cn : Nat → Int32} {m_pp : Int32} {m_px : Int32} {m_go : Int32} {m_ne : Int32} {m_gi : Int32} {m_gn : Int32} (hR : Rel ev K co L1 r1 L2 r2 R vo FC FP FB fs cy sp de ca va m_ev m_wr m_wg m_ke m_ma m_li m_ps m_pn m_cy m_ca m_va m_cn m_pp m_px m_go m_ne m_gi m_gn) (x0 : Int32) (x1 : Int32) : (f_V_flip K L1 L2 R x0 x1).1 = (f_Mo_flip m_wg m_ma m_li x0 x1).1 ∧ Rel ev ((f_V_flip K L1 L2 R x0 x1).2.1) co ((f_V_flip K L1 L2 R x0 x1).2.2.1) r1 ((f_V_flip K L1 L2 R x0 x1).2.2.2.1) r2 ((f_V_flip K L1 L2 R x0 x1).2.2.2.2) vo FC FP FB fs cy sp de ca va m_ev m_wr ((f_Mo_flip m_wg m_ma m_li x0 x1).2.1) m_ke ((f_Mo_flip m_wg m_ma m_li x0 x1).2.2.1) ((f_Mo_flip m_wg m_ma m_li x0 x1).2.2.2) m_ps m_pn m_cy m_ca m_va m_cn m_pp m_px m_go m_ne m_gi m_gn := by
  unfold f_V_flip f_Mo_flip
  by_cases h : f_Mo_noBit x0 x1 = 0
  · rw [if_pos h, if_neg (bit_iff.mpr h)]
    obtain ⟨g1, g2, g3⟩ := inv_eq hR.2.2.1 hR.2.2.2.1 hR.2.2.2.2.1 (bit_iff.mpr h)
    exact ⟨rfl, hR.1, hR.2.1, g1, g2, g3, hR.2.2.2.2.2⟩
  · rw [if_neg h, if_pos (nn bit_iff h)]
    exact ⟨rfl, hR⟩
theorem rel_look {ev : Int32} {K : Nat → Int64} {co : Int32} {L1 : Nat → Int64} {r1 : Int32} {L2 : Nat → Int64} {r2 : Int32} {R : Nat → Int32} {vo : Int32} {FC : Nat → Int32} {FP : Nat → Int32} {FB : Nat → Int32} {fs : Int32} {cy : Int32} {sp : Int32} {de : Int32} {ca : Int32} {va : Int32} {m_ev : Int32} {m_wr : Nat → Int32} {m_wg : Nat → Int64} {m_ke : Nat → Int32} {m_ma : Nat → Int32} {m_li : Nat → Int64} {m_ps : Int32} {m_pn : Nat → Int32} {m_cy : Int32} {m_ca : Int32} {m_va : Int32} {m_cn : Nat → Int32} {m_pp : Int32} {m_px : Int32} {m_go : Int32} {m_ne : Int32} {m_gi : Int32} {m_gn : Int32} (hR : Rel ev K co L1 r1 L2 r2 R vo FC FP FB fs cy sp de ca va m_ev m_wr m_wg m_ke m_ma m_li m_ps m_pn m_cy m_ca m_va m_cn m_pp m_px m_go m_ne m_gi m_gn) (x0 : Int32) : (f_V_look K x0) = (f_Mo_look m_wr m_wg x0) ∧ Rel ev K co L1 r1 L2 r2 R vo FC FP FB fs cy sp de ca va m_ev m_wr m_wg m_ke m_ma m_li m_ps m_pn m_cy m_ca m_va m_cn m_pp m_px m_go m_ne m_gi m_gn := by
  refine ⟨?_, hR⟩
  unfold f_V_look f_Mo_look
  by_cases h : f_Mo_outside x0 (63 : Int32) = 0
  · rw [if_pos h, if_neg (word_iff.mpr h)]
    obtain ⟨j, hj, rfl⟩ := vp_in_of (in_out (n := 64) (by decide) h) (by decide)
    obtain ⟨hK, hg⟩ := hR.2.2.1 j hj
    unfold f_Me_inspect
    rw [nI_clamp (by omega), hK]
    generalize m_wg j = g at hg ⊢
    generalize m_wr j = v
    have hx := (cw_num v g hg).2
    rcases fix_eq v g hg with ⟨h1, h2⟩ | ⟨h1, h2⟩ | ⟨s, hs, h1, h2⟩
    · rw [h2, if_pos (lg0.mpr rfl), h1, if_pos (show (-2 : Int32) < 0 by decide), if_pos rfl]
    · rw [h2, if_neg (fun q => lo_ne hx (lg0.mp q)), h1, if_pos (show (-1 : Int32) < 0 by decide), if_neg (show ¬ (-1 : Int32) = -2 by decide), cw_dat v g hg]
    · obtain ⟨hl, hu⟩ := flip_lo (n := 39) (by decide) hs hg
      have hx2 := (cw_num v _ hl).2
      have hn0 : ¬ nI s < 0 := nI_pos (by omega)
      have hn2 : ¬ nI s = -2 := fun e => hn0 (by rw [e]; decide)
      rw [h2, if_neg (fun q => lo_ne hx2 (lg0.mp q)), h1, if_neg hn0, if_neg hn2, cw_dat v _ hl]
  · rw [if_neg h, if_pos (nn word_iff h)]
theorem rel_bits {ev : Int32} {K : Nat → Int64} {co : Int32} {L1 : Nat → Int64} {r1 : Int32} {L2 : Nat → Int64} {r2 : Int32} {R : Nat → Int32} {vo : Int32} {FC : Nat → Int32} {FP : Nat → Int32} {FB : Nat → Int32} {fs : Int32} {cy : Int32} {sp : Int32} {de : Int32} {ca : Int32} {va : Int32} {m_ev : Int32} {m_wr : Nat → Int32} {m_wg : Nat → Int64} {m_ke : Nat → Int32} {m_ma : Nat → Int32} {m_li : Nat → Int64} {m_ps : Int32} {m_pn : Nat → Int32} {m_cy : Int32} {m_ca : Int32} {m_va : Int32} {m_cn : Nat → Int32} {m_pp : Int32} {m_px : Int32} {m_go : Int32} {m_ne : Int32} {m_gi : Int32} {m_gn : Int32} (hR : Rel ev K co L1 r1 L2 r2 R vo FC FP FB fs cy sp de ca va m_ev m_wr m_wg m_ke m_ma m_li m_ps m_pn m_cy m_ca m_va m_cn m_pp m_px m_go m_ne m_gi m_gn) (x0 : Int32) : (f_V_bits K L1 L2 R x0) = (f_Mo_bits m_wr m_wg m_ke m_ma m_li x0) ∧ Rel ev K co L1 r1 L2 r2 R vo FC FP FB fs cy sp de ca va m_ev m_wr m_wg m_ke m_ma m_li m_ps m_pn m_cy m_ca m_va m_cn m_pp m_px m_go m_ne m_gi m_gn := by
  refine ⟨?_, hR⟩
  unfold f_V_bits f_Mo_bits
  have e0 := out_iff (w := x0) (M := 167) (N := 168) (by decide)
  by_cases h : f_Mo_outside x0 (167 : Int32) = 0
  · obtain ⟨hn, hm⟩ := e0.mp h
    rw [if_pos h, if_neg hn, if_pos (Int32.not_le.mp hm)]
    obtain ⟨p, hp, rfl⟩ := vp_in_of (in_out (n := 168) (by decide) h) (by decide)
    by_cases h1 : p < 64
    · have g1 : ¬ (64 : Int32) ≤ nI p := nI_ge (b := 64) h1 (by decide)
      have g2 : nI p ≤ (159 : Int32) := nI_le (b := 159) (by omega) (by decide)
      rw [if_neg g1, if_pos g2, if_neg g1, nI_clamp (by omega)]
      exact (hR.2.2.1 p h1).1
    · have g1 : (64 : Int32) ≤ nI p := nI_le (a := 64) (by omega) (by omega)
      rw [if_pos g1]
      by_cases h2 : p < 160
      · have g2 : nI p ≤ (159 : Int32) := nI_le (b := 159) (by omega) (by decide)
        have g3 : ¬ (160 : Int32) ≤ nI p := nI_ge (b := 160) h2 (by decide)
        rw [if_neg g3, if_pos g2, if_pos g1, show nI p - (64 : Int32) = nI (p - 64) from pk_sub (a := p) (b := 64) (by omega), nI_clamp (n := p - 64) (by omega), show nI (p - 64) / (3 : Int32) = nI ((p - 64) / 3) from pk_div (by omega) (by decide) (by decide), nI_clamp (n := (p - 64) / 3) (by omega)]
        have hq := hR.2.2.2.2.1 ((p - 64) / 3) (by omega) ((p - 64) % 3) (by omega)
        rw [show 3 * ((p - 64) / 3) + (p - 64) % 3 = p - 64 by omega] at hq
        rw [hq]
      · have g2 : ¬ nI p ≤ (159 : Int32) := nI_ge (a := 159) (by omega) (by omega)
        have g3 : (160 : Int32) ≤ nI p := nI_le (a := 160) (by omega) (by omega)
        rw [if_pos g3, if_neg g2, show nI p - (160 : Int32) = nI (p - 160) from pk_sub (a := p) (b := 160) (by omega), nI_clamp (n := p - 160) (by omega)]
        by_cases h3 : p < 164
        · have g4 : ¬ (164 : Int32) ≤ nI p := nI_ge (b := 164) h3 (by decide)
          rw [if_neg g4]
          exact (hR.2.2.2.1 (p - 160) (by omega)).1
        · have g4 : (164 : Int32) ≤ nI p := nI_le (a := 164) (by omega) (by omega)
          rw [if_pos g4, show nI p - (164 : Int32) = nI (p - 164) from pk_sub (a := p) (b := 164) (by omega), nI_clamp (n := p - 164) (by omega)]
          have hq := (hR.2.2.2.1 (p - 164) (by omega)).2.1
          rw [show 4 + (p - 164) = p - 160 by omega] at hq
          exact hq
  · rw [if_neg h]
    by_cases h1 : x0 < 0
    · rw [if_pos h1]
    · rw [if_neg h1]
      by_cases h2 : x0 < (168 : Int32)
      · exact absurd (e0.mpr ⟨h1, Int32.not_le.mpr h2⟩) h
      · rw [if_neg h2]
theorem rel_write {ev : Int32} {K : Nat → Int64} {co : Int32} {L1 : Nat → Int64} {r1 : Int32} {L2 : Nat → Int64} {r2 : Int32} {R : Nat → Int32} {vo : Int32} {FC : Nat → Int32} {FP : Nat → Int32} {FB : Nat → Int32} {fs : Int32} {cy : Int32} {sp : Int32} {de : Int32} {ca : Int32} {va : Int32} {m_ev : Int32} {m_wr : Nat → Int32} {m_wg : Nat → Int64} {m_ke : Nat → Int32} {m_ma : Nat → Int32} {m_li : Nat → Int64} {m_ps : Int32} {m_pn : Nat → Int32} {m_cy : Int32} {m_ca : Int32} {m_va : Int32} {m_cn : Nat → Int32} {m_pp : Int32} {m_px : Int32} {m_go : Int32} {m_ne : Int32} {m_gi : Int32} {m_gn : Int32} (hR : Rel ev K co L1 r1 L2 r2 R vo FC FP FB fs cy sp de ca va m_ev m_wr m_wg m_ke m_ma m_li m_ps m_pn m_cy m_ca m_va m_cn m_pp m_px m_go m_ne m_gi m_gn) (x0 : Int32) (x1 : Int32) : (f_V_write K L1 L2 x0 x1).1 = (f_Mo_write m_wr m_wg m_li x0 x1).1 ∧ Rel ev ((f_V_write K L1 L2 x0 x1).2.1) co ((f_V_write K L1 L2 x0 x1).2.2.1) r1 ((f_V_write K L1 L2 x0 x1).2.2.2) r2 R vo FC FP FB fs cy sp de ca va m_ev ((f_Mo_write m_wr m_wg m_li x0 x1).2.1) ((f_Mo_write m_wr m_wg m_li x0 x1).2.2.1) m_ke m_ma ((f_Mo_write m_wr m_wg m_li x0 x1).2.2.2) m_ps m_pn m_cy m_ca m_va m_cn m_pp m_px m_go m_ne m_gi m_gn := by
  unfold f_V_write f_Mo_write
  by_cases h : f_Mo_outside x0 (63 : Int32) = 0
  · rw [if_pos h, if_neg (word_iff.mpr h)]
    obtain ⟨j, hj, rfl⟩ := vp_in_of (in_out (n := 64) (by decide) h) (by decide)
    refine ⟨rfl, hR.1, hR.2.1, fun w hw => ?_, fun k hk => ?_, hR.2.2.2.2.1, hR.2.2.2.2.2⟩
    · show f_Me_keep K (nI j) x1 w = f_Mo_encoded (upd m_wr (nI j).toNatClampNeg x1 w) ^^^ vp_updL m_wg (nI j).toNatClampNeg 0 w ∧ wLo 39 (vp_updL m_wg (nI j).toNatClampNeg 0 w)
      rw [keep_eq, nI_clamp (by omega)]
      by_cases e : w = j
      · subst e
        rw [pk_uLs, pk_us, pk_uLs]
        exact ⟨by apply uN_inj; rw [uN_xor', show uN (0 : Int64) = 0 by decide, Nat.xor_zero], lo0 _⟩
      · rw [pk_uLn e, pk_un e, pk_uLn e]
        exact hR.2.2.1 w hw
    · have z4 : ∀ (f : Nat → Int64) (q : Fin 4), f_Ca_dropAll f q.val = 0 := by
        intro f q
        rcases q with ⟨q, hq⟩
        rcases (show q = 0 ∨ q = 1 ∨ q = 2 ∨ q = 3 by omega) with rfl | rfl | rfl | rfl <;> rfl
      have z8 : ∀ (f : Nat → Int64) (q : Fin 8), (vp_updL (vp_updL (vp_updL (vp_updL (vp_updL (vp_updL (vp_updL (vp_updL f (0 : Int32).toNatClampNeg (0 : Int64)) (1 : Int32).toNatClampNeg (0 : Int64)) (2 : Int32).toNatClampNeg (0 : Int64)) (3 : Int32).toNatClampNeg (0 : Int64)) (4 : Int32).toNatClampNeg (0 : Int64)) (5 : Int32).toNatClampNeg (0 : Int64)) (6 : Int32).toNatClampNeg (0 : Int64)) (7 : Int32).toNatClampNeg (0 : Int64)) q.val = 0 := by
        intro f q
        rcases q with ⟨q, hq⟩
        rcases (show q = 0 ∨ q = 1 ∨ q = 2 ∨ q = 3 ∨ q = 4 ∨ q = 5 ∨ q = 6 ∨ q = 7 by omega) with rfl | rfl | rfl | rfl | rfl | rfl | rfl | rfl <;> rfl
      have a1 := z4 L1 ⟨k, hk⟩
      have a2 := z4 L2 ⟨k, hk⟩
      have a3 := z8 m_li ⟨k, by omega⟩
      have a4 := z8 m_li ⟨4 + k, by omega⟩
      dsimp only at a1 a2 a3 a4 ⊢
      rw [a1, a2, a3, a4]
      exact ⟨rfl, rfl, lo0 _, lo0 _⟩
  · rw [if_neg h, if_pos (nn word_iff h)]
    exact ⟨rfl, hR⟩
theorem rel_plan {ev : Int32} {K : Nat → Int64} {co : Int32} {L1 : Nat → Int64} {r1 : Int32} {L2 : Nat → Int64} {r2 : Int32} {R : Nat → Int32} {vo : Int32} {FC : Nat → Int32} {FP : Nat → Int32} {FB : Nat → Int32} {fs : Int32} {cy : Int32} {sp : Int32} {de : Int32} {ca : Int32} {va : Int32} {m_ev : Int32} {m_wr : Nat → Int32} {m_wg : Nat → Int64} {m_ke : Nat → Int32} {m_ma : Nat → Int32} {m_li : Nat → Int64} {m_ps : Int32} {m_pn : Nat → Int32} {m_cy : Int32} {m_ca : Int32} {m_va : Int32} {m_cn : Nat → Int32} {m_pp : Int32} {m_px : Int32} {m_go : Int32} {m_ne : Int32} {m_gi : Int32} {m_gn : Int32} (hR : Rel ev K co L1 r1 L2 r2 R vo FC FP FB fs cy sp de ca va m_ev m_wr m_wg m_ke m_ma m_li m_ps m_pn m_cy m_ca m_va m_cn m_pp m_px m_go m_ne m_gi m_gn) (x0 : Int32) (x1 : Int32) (x2 : Int32) : (f_V_plan FC FP FB fs cy x0 x1 x2).1 = (f_Mo_plan m_ps m_pn m_cy x0 x1 x2).1 ∧ Rel ev K co L1 r1 L2 r2 R vo ((f_V_plan FC FP FB fs cy x0 x1 x2).2.1) ((f_V_plan FC FP FB fs cy x0 x1 x2).2.2.1) ((f_V_plan FC FP FB fs cy x0 x1 x2).2.2.2.1) ((f_V_plan FC FP FB fs cy x0 x1 x2).2.2.2.2) cy sp de ca va m_ev m_wr m_wg m_ke m_ma m_li ((f_Mo_plan m_ps m_pn m_cy x0 x1 x2).2.1) ((f_Mo_plan m_ps m_pn m_cy x0 x1 x2).2.2) m_cy m_ca m_va m_cn m_pp m_px m_go m_ne m_gi m_gn := by
  obtain ⟨⟨h1, h2, h3, h4, h5⟩, hn, hm, hc, hr, hf0, hf1, hf2⟩ := id hR
  unfold f_V_plan f_Mo_plan
  by_cases a1 : x0 < (1 : Int32)
  · rw [if_pos a1, if_pos a1]; exact ⟨rfl, hR⟩
  · rw [if_neg a1, if_neg a1]
    by_cases a2 : (1000 : Int32) < x0
    · rw [if_pos a2, if_pos a2]; exact ⟨rfl, hR⟩
    · rw [if_neg a2, if_neg a2]
      by_cases a3 : f_Mo_noBit x1 x2 = 0
      · rw [if_neg (bit_iff.mpr a3), if_pos a3]
        by_cases a4 : fs = (16 : Int32)
        · rw [if_pos a4, if_pos (hf0.trans a4)]; exact ⟨rfl, hR⟩
        · rw [if_neg a4, if_neg (fun q => a4 (hf0.symm.trans q))]
          obtain ⟨j, hj, hje⟩ := ne16 hf1 a4
          refine ⟨rfl, ⟨h1, h2, h3, h4, h5⟩, hn, hm, hc, hr, ?_, ?_, ?_⟩
          · show m_ps + 1 = fs + 1
            rw [hf0]
          · show vp_in (fs + 1) 17
            rw [hje, show nI j + (1 : Int32) = nI (j + 1) from nI_1 j]
            exact vp_in_nI (by omega) (by decide)
          · intro k hk
            have hk : k < (fs + (1 : Int32)).toNatClampNeg := hk
            rw [hje, show nI j + (1 : Int32) = nI (j + 1) from nI_1 j, nI_clamp (by omega)] at hk
            unfold f_Fa_append
            dsimp only
            rw [hf0, hje, nI_clamp (by omega), c3_0 (by omega), c3_1 (by omega), c3_2 (by omega), upd3, upd3, upd3]
            by_cases e : k = j
            · subst e
              rw [pk_us, pk_us, pk_us, if_pos rfl, if_neg (by omega), if_pos rfl, if_neg (by omega), if_neg (by omega), if_pos rfl, h3]
              exact ⟨rfl, rfl, rfl, bit_iff.mpr a3⟩
            · rw [pk_un e, pk_un e, pk_un e, if_neg (by omega), if_neg (by omega), if_neg (by omega), if_neg (by omega), if_neg (by omega), if_neg (by omega), if_neg (by omega), if_neg (by omega), if_neg (by omega)]
              exact hf2 k (by rw [hje, nI_clamp (by omega)]; omega)
      · rw [if_pos (nn bit_iff a3), if_neg a3]; exact ⟨rfl, hR⟩
