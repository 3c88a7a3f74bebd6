abbrev q_Mo_save (D : va_G) (cI cL : ClassId) (b0 b1 b2 b3 b4 b5 b6 b7 : Nat) (A : Nat → Prop) (ev : Int32) (wr : Nat → Int32) (wg : Nat → Int64) (ke : Nat → Int32) (ma : Nat → Int32) (li : Nat → Int64) (ps : Int32) (pn : Nat → Int32) (cy : Int32) (ca : Int32) (va : Int32) (cn : Nat → Int32) (pp : Int32) (px : Int32) (go : Int32) (ne : Int32) (gi : Int32) (gn : Int32) (F : (Nat → Int32) × (Nat → Int64) × (Nat → Int64) × (Nat → Int32)) : Array Value → State → Outcome → State → Prop := va_Qv (fun (_ : Unit) => True) (fun _ t => va_P D classes (W_Mo cI cL b0 b1 b2 b3 b4 b5 b6 b7 ev F.1 F.2.1 ke ma F.2.2.1 ps pn cy ca va F.2.2.2 pp px go ne gi gn) t.heap) A
theorem f_Mo_save_e0 (wr : Nat → Int32) (wg : Nat → Int64) (li : Nat → Int64) (cn : Nat → Int32) (w : Int32) (v : Int32) (t1 : (Nat → Int32) × (Nat → Int64)) (t2 : Int32 × (Nat → Int64) × (Nat → Int32)) (t3 : Int32 × (Nat → Int64) × (Nat → Int32)) (e_t1 : f_Mo_keep wr wg w v = t1) (e_t2 : f_Mo_holds li cn (0 : Int32) w = t2) (e_t3 : f_Mo_holds t2.2.1 t2.2.2 (1 : Int32) w = t3) (h12 : t2.1 = 0) (h30 : t3.1 = 0) : f_Mo_save wr wg li cn w v = (t1.1, t1.2, t3.2.1, t3.2.2) := by
  subst e_t3
  subst e_t2
  subst e_t1
  exact ((if_pos h12).trans (if_pos h30))
theorem f_Mo_save_e1 (wr : Nat → Int32) (wg : Nat → Int64) (li : Nat → Int64) (cn : Nat → Int32) (w : Int32) (v : Int32) (t1 : (Nat → Int32) × (Nat → Int64)) (t2 : Int32 × (Nat → Int64) × (Nat → Int32)) (t3 : Int32 × (Nat → Int64) × (Nat → Int32)) (e_t1 : f_Mo_keep wr wg w v = t1) (e_t2 : f_Mo_holds li cn (0 : Int32) w = t2) (e_t3 : f_Mo_holds t2.2.1 t2.2.2 (1 : Int32) w = t3) (h12 : t2.1 = 0) (h30 : ¬ t3.1 = 0) : f_Mo_save wr wg li cn w v = (t1.1, t1.2, (vp_updL t3.2.1 ((4 : Int32) + (u_rem w (4 : Int32))).toNatClampNeg (f_Mo_line v (w / (4 : Int32)))), t3.2.2) := by
  subst e_t3
  subst e_t2
  subst e_t1
  exact ((if_pos h12).trans (if_neg h30))
theorem f_Mo_save_e2 (wr : Nat → Int32) (wg : Nat → Int64) (li : Nat → Int64) (cn : Nat → Int32) (w : Int32) (v : Int32) (t1 : (Nat → Int32) × (Nat → Int64)) (t2 : Int32 × (Nat → Int64) × (Nat → Int32)) (t4 : Int32 × (Nat → Int64) × (Nat → Int32)) (e_t1 : f_Mo_keep wr wg w v = t1) (e_t2 : f_Mo_holds li cn (0 : Int32) w = t2) (e_t4 : f_Mo_holds (vp_updL t2.2.1 (u_rem w (4 : Int32)).toNatClampNeg (0 : Int64)) t2.2.2 (1 : Int32) w = t4) (h12 : ¬ t2.1 = 0) (h30 : t4.1 = 0) : f_Mo_save wr wg li cn w v = (t1.1, t1.2, t4.2.1, t4.2.2) := by
  subst e_t4
  subst e_t2
  subst e_t1
  exact ((if_neg h12).trans (if_pos h30))
theorem f_Mo_save_e3 (wr : Nat → Int32) (wg : Nat → Int64) (li : Nat → Int64) (cn : Nat → Int32) (w : Int32) (v : Int32) (t1 : (Nat → Int32) × (Nat → Int64)) (t2 : Int32 × (Nat → Int64) × (Nat → Int32)) (t4 : Int32 × (Nat → Int64) × (Nat → Int32)) (e_t1 : f_Mo_keep wr wg w v = t1) (e_t2 : f_Mo_holds li cn (0 : Int32) w = t2) (e_t4 : f_Mo_holds (vp_updL t2.2.1 (u_rem w (4 : Int32)).toNatClampNeg (0 : Int64)) t2.2.2 (1 : Int32) w = t4) (h12 : ¬ t2.1 = 0) (h30 : ¬ t4.1 = 0) : f_Mo_save wr wg li cn w v = (t1.1, t1.2, (vp_updL t4.2.1 ((4 : Int32) + (u_rem w (4 : Int32))).toNatClampNeg (f_Mo_line v (w / (4 : Int32)))), t4.2.2) := by
  subst e_t4
  subst e_t2
  subst e_t1
  exact ((if_neg h12).trans (if_neg h30))
set_option maxHeartbeats 4000000 in
set_option maxRecDepth 100000 in
theorem c_Mo_save (l : Launch) (D : va_G) (cI cL : ClassId) (b0 b1 b2 b3 b4 b5 b6 b7 : Nat) (sz : Nat) (ev : Int32) (wr : Nat → Int32) (wg : Nat → Int64) (ke : Nat → Int32) (ma : Nat → Int32) (li : Nat → Int64) (ps : Int32) (pn : Nat → Int32) (cy : Int32) (ca : Int32) (va : Int32) (cn : Nat → Int32) (pp : Int32) (px : Int32) (go : Int32) (ne : Int32) (gi : Int32) (gn : Int32) (w : Int32) (v : Int32) (h_w : vp_in w 64) : Met l y_Mo_save w_Mo_save ({ frames := 2, cells := 0, slots := 0, locals := 46 }) (va_Pc [.ref b0, .int w, .int v] (PW D cI cL (W_Mo cI cL b0 b1 b2 b3 b4 b5 b6 b7 ev wr wg ke ma li ps pn cy ca va cn pp px go ne gi gn) sz)) (q_Mo_save D cI cL b0 b1 b2 b3 b4 b5 b6 b7 (va_A (W_Mo cI cL b0 b1 b2 b3 b4 b5 b6 b7 ev wr wg ke ma li ps pn cy ca va cn pp px go ne gi gn) sz) ev wr wg ke ma li ps pn cy ca va cn pp px go ne gi gn (f_Mo_save wr wg li cn w v)) 0 0 (va_A (W_Mo cI cL b0 b1 b2 b3 b4 b5 b6 b7 ev wr wg ke ma li ps pn cy ca va cn pp px go ne gi gn) sz) := by
  refine mk_met (Qf := fun A => q_Mo_save D cI cL b0 b1 b2 b3 b4 b5 b6 b7 A ev wr wg ke ma li ps pn cy ca va cn pp px go ne gi gn (f_Mo_save wr wg li cn w v)) (by decide) (Nat.le_of_ble_eq_true rfl) ?_
  intro p e s m below meth c A ls hx hb hr hlocks hml hown hg hK hN hT hA hP hD hS hnm hl
  refine lv_aload_n hx hb d_Mo_save_0 rfl (lv_at hl 0 rfl) ?_
  refine lv_iload_n hx hb d_Mo_save_1 rfl (lv_at hl 1 rfl) ?_
  refine lv_iload_n hx hb d_Mo_save_2 rfl (lv_at hl 2 rfl) ?_
  refine cj_v (wc := (W_Mo cI cL b0 b1 b2 b3 b4 b5 b6 b7 ev wr wg ke ma li ps pn cy ca va cn pp px go ne gi gn)) (w1 := (W_Mo cI cL b0 b1 b2 b3 b4 b5 b6 b7 ev ((f_Mo_keep wr wg w v).1) ((f_Mo_keep wr wg w v).2) ke ma li ps pn cy ca va cn pp px go ne gi gn)) hP hD hS hA [0, 1, 2, 3, 4, 5, 6, 7] rfl [b0, b1, b2, b3, b4, b5, b6, b7] rfl rfl (va_runV (rest := []) ⟨hx, hb, hml, hown, hg⟩ (c_Mo_keep l D cI cL b0 b1 b2 b3 b4 b5 b6 b7 _ ev wr wg ke ma li ps pn cy ca va cn pp px go ne gi gn w v h_w) ⟨callB_of 2 hg (gw_good m_697) rfl rfl rfl (hg _ m_71) (hg _ m_694) hd_Mo_keep ⟨Nat.le_of_ble_eq_true rfl, Nat.le_of_ble_eq_true rfl⟩, hg _ m_696, hg _ m_59⟩ (pw_V hK hN hT hA hP hD hS [0, 1, 2, 3, 4, 5, 6, 7] rfl (by decide) (q0 := 0) (ci := 5) rfl rfl) rfl rfl hl.1 rfl (lv_room (Nat.le_of_ble_eq_true rfl)) d_Mo_save_3 ⟨Nat.le_of_ble_eq_true rfl, Nat.le_of_ble_eq_true rfl⟩) (fun H locs hP hD hS => ?_)
  have hP : va_P D classes (W_Mo cI cL b0 b1 b2 b3 b4 b5 b6 b7 ev ((f_Mo_keep wr wg w v).1) ((f_Mo_keep wr wg w v).2) ke ma li ps pn cy ca va cn pp px go ne gi gn) H := hP
  have hD : va_D A (W_Mo cI cL b0 b1 b2 b3 b4 b5 b6 b7 ev ((f_Mo_keep wr wg w v).1) ((f_Mo_keep wr wg w v).2) ke ma li ps pn cy ca va cn pp px go ne gi gn) := hD
  generalize e_t1 : f_Mo_keep wr wg w v = t1 at hP hD ⊢
  obtain ⟨t1_0, t1_1⟩ := t1
  have hP : va_P D classes (W_Mo cI cL b0 b1 b2 b3 b4 b5 b6 b7 ev t1_0 t1_1 ke ma li ps pn cy ca va cn pp px go ne gi gn) H := hP
  have hD : va_D A (W_Mo cI cL b0 b1 b2 b3 b4 b5 b6 b7 ev t1_0 t1_1 ke ma li ps pn cy ca va cn pp px go ne gi gn) := hD
  refine lv_aload_n hx hb d_Mo_save_6 rfl (lv_at hl 0 rfl) ?_
  refine lv_iconst (v := 0) hx hb d_Mo_save_7 (by decide) ?_
  refine lv_iload_n hx hb d_Mo_save_8 rfl (lv_at hl 1 rfl) ?_
  refine cj_i (wc := (W_Mo cI cL b0 b1 b2 b3 b4 b5 b6 b7 ev t1_0 t1_1 ke ma li ps pn cy ca va cn pp px go ne gi gn)) (w1 := (W_Mo cI cL b0 b1 b2 b3 b4 b5 b6 b7 ev t1_0 t1_1 ke ma ((f_Mo_holds li cn (0 : Int32) w).2.1) ps pn cy ca va ((f_Mo_holds li cn (0 : Int32) w).2.2) pp px go ne gi gn)) hP hD hS hA [0, 1, 2, 3, 4, 5, 6, 7] rfl [b0, b1, b2, b3, b4, b5, b6, b7] rfl rfl (va_runV (rest := []) ⟨hx, hb, hml, hown, hg⟩ (c_Mo_holds l D cI cL b0 b1 b2 b3 b4 b5 b6 b7 _ ev t1_0 t1_1 ke ma li ps pn cy ca va cn pp px go ne gi gn (0 : Int32) w (vp_ofb (by decide)) h_w) ⟨callB_of 2 hg (gw_good m_603) rfl rfl rfl (hg _ m_71) (hg _ m_600) hd_Mo_holds ⟨Nat.le_of_ble_eq_true rfl, Nat.le_of_ble_eq_true rfl⟩, hg _ m_602, hg _ m_42⟩ (pw_V hK hN hT hA hP hD hS [0, 1, 2, 3, 4, 5, 6, 7] rfl (by decide) (q0 := 0) (ci := 5) rfl rfl) rfl rfl hl.1 rfl (lv_room (Nat.le_of_ble_eq_true rfl)) d_Mo_save_9 ⟨Nat.le_of_ble_eq_true rfl, Nat.le_of_ble_eq_true rfl⟩) (fun H locs hP hD hS => ?_)
  have hP : va_P D classes (W_Mo cI cL b0 b1 b2 b3 b4 b5 b6 b7 ev t1_0 t1_1 ke ma ((f_Mo_holds li cn (0 : Int32) w).2.1) ps pn cy ca va ((f_Mo_holds li cn (0 : Int32) w).2.2) pp px go ne gi gn) H := hP
  have hD : va_D A (W_Mo cI cL b0 b1 b2 b3 b4 b5 b6 b7 ev t1_0 t1_1 ke ma ((f_Mo_holds li cn (0 : Int32) w).2.1) ps pn cy ca va ((f_Mo_holds li cn (0 : Int32) w).2.2) pp px go ne gi gn) := hD
  generalize e_t2 : f_Mo_holds li cn (0 : Int32) w = t2 at hP hD ⊢
  obtain ⟨t2_0, t2_1, t2_2⟩ := t2
  have hP : va_P D classes (W_Mo cI cL b0 b1 b2 b3 b4 b5 b6 b7 ev t1_0 t1_1 ke ma t2_1 ps pn cy ca va t2_2 pp px go ne gi gn) H := hP
  have hD : va_D A (W_Mo cI cL b0 b1 b2 b3 b4 b5 b6 b7 ev t1_0 t1_1 ke ma t2_1 ps pn cy ca va t2_2 pp px go ne gi gn) := hD
  refine W.eq (g2 := F0 m 12 ls (.int t2_0 :: [])) rfl ?_
  refine lv_if_eq (tgt := 24) hx hb d_Mo_save_12 (by decide) (fun h12 => ?_) (fun h12 => ?_)
  · refine lv_aload_n hx hb d_Mo_save_24 rfl (lv_at hl 0 rfl) ?_
    refine lv_iconst (v := 1) hx hb d_Mo_save_25 (by decide) ?_
    refine lv_iload_n hx hb d_Mo_save_26 rfl (lv_at hl 1 rfl) ?_
    refine cj_i (wc := (W_Mo cI cL b0 b1 b2 b3 b4 b5 b6 b7 ev t1_0 t1_1 ke ma t2_1 ps pn cy ca va t2_2 pp px go ne gi gn)) (w1 := (W_Mo cI cL b0 b1 b2 b3 b4 b5 b6 b7 ev t1_0 t1_1 ke ma ((f_Mo_holds t2_1 t2_2 (1 : Int32) w).2.1) ps pn cy ca va ((f_Mo_holds t2_1 t2_2 (1 : Int32) w).2.2) pp px go ne gi gn)) hP hD hS hA [0, 1, 2, 3, 4, 5, 6, 7] rfl [b0, b1, b2, b3, b4, b5, b6, b7] rfl rfl (va_runV (rest := []) ⟨hx, hb, hml, hown, hg⟩ (c_Mo_holds l D cI cL b0 b1 b2 b3 b4 b5 b6 b7 _ ev t1_0 t1_1 ke ma t2_1 ps pn cy ca va t2_2 pp px go ne gi gn (1 : Int32) w (vp_ofb (by decide)) h_w) ⟨callB_of 2 hg (gw_good m_603) rfl rfl rfl (hg _ m_71) (hg _ m_600) hd_Mo_holds ⟨Nat.le_of_ble_eq_true rfl, Nat.le_of_ble_eq_true rfl⟩, hg _ m_602, hg _ m_42⟩ (pw_V hK hN hT hA hP hD hS [0, 1, 2, 3, 4, 5, 6, 7] rfl (by decide) (q0 := 0) (ci := 5) rfl rfl) rfl rfl hl.1 rfl (lv_room (Nat.le_of_ble_eq_true rfl)) d_Mo_save_27 ⟨Nat.le_of_ble_eq_true rfl, Nat.le_of_ble_eq_true rfl⟩) (fun H locs hP hD hS => ?_)
    have hP : va_P D classes (W_Mo cI cL b0 b1 b2 b3 b4 b5 b6 b7 ev t1_0 t1_1 ke ma ((f_Mo_holds t2_1 t2_2 (1 : Int32) w).2.1) ps pn cy ca va ((f_Mo_holds t2_1 t2_2 (1 : Int32) w).2.2) pp px go ne gi gn) H := hP
    have hD : va_D A (W_Mo cI cL b0 b1 b2 b3 b4 b5 b6 b7 ev t1_0 t1_1 ke ma ((f_Mo_holds t2_1 t2_2 (1 : Int32) w).2.1) ps pn cy ca va ((f_Mo_holds t2_1 t2_2 (1 : Int32) w).2.2) pp px go ne gi gn) := hD
    generalize e_t3 : f_Mo_holds t2_1 t2_2 (1 : Int32) w = t3 at hP hD ⊢
    obtain ⟨t3_0, t3_1, t3_2⟩ := t3
    have hP : va_P D classes (W_Mo cI cL b0 b1 b2 b3 b4 b5 b6 b7 ev t1_0 t1_1 ke ma t3_1 ps pn cy ca va t3_2 pp px go ne gi gn) H := hP
    have hD : va_D A (W_Mo cI cL b0 b1 b2 b3 b4 b5 b6 b7 ev t1_0 t1_1 ke ma t3_1 ps pn cy ca va t3_2 pp px go ne gi gn) := hD
    refine W.eq (g2 := F0 m 30 ls (.int t3_0 :: [])) rfl ?_
    refine lv_if_eq (tgt := 50) hx hb d_Mo_save_30 (by decide) (fun h30 => ?_) (fun h30 => ?_)
    · rw [f_Mo_save_e0 wr wg li cn w v (t1_0, t1_1) (t2_0, t2_1, t2_2) (t3_0, t3_1, t3_2) e_t1 e_t2 e_t3 h12 h30]
      exact W.vret hx hb hr (fun t ht hW => ⟨⟨(), rfl, trivial, by show va_P D classes _ t.heap; rw [ht]; exact hP⟩, hS.F ht⟩) hS.2.2 d_Mo_save_50 hlocks
    · refine lv_aload_n hx hb d_Mo_save_33 rfl (lv_at hl 0 rfl) ?_
      refine va_get (ci := 5) (C := R_Mo) (T := F_Mo) (N := 18) hx hb hg in_Mo hown hK hP 0 rfl rfl 5 (by decide) (hg _ m_508) (fun _ h => h) rfl d_Mo_save_34 ?_
      refine lv_iconst (v := 4) hx hb d_Mo_save_37 (by decide) ?_
      refine lv_iload_n hx hb d_Mo_save_38 rfl (lv_at hl 1 rfl) ?_
      refine lv_iconst (v := 4) hx hb d_Mo_save_39 (by decide) ?_
      refine lv_irem hx hb d_Mo_save_40 (by decide) ?_
      refine lv_iadd hx hb d_Mo_save_41 ?_
      refine lv_iload_n hx hb d_Mo_save_42 rfl (lv_at hl 2 rfl) ?_
      refine lv_iload_n hx hb d_Mo_save_43 rfl (lv_at hl 1 rfl) ?_
      refine lv_iconst (v := 4) hx hb d_Mo_save_44 (by decide) ?_
      refine lv_idiv hx hb d_Mo_save_45 (by decide) ?_
      refine cj_l (wc := []) (w1 := []) hP hD hS hA [] rfl [] rfl rfl (va_runS (rest := [.int _, .ref _]) ⟨hx, hb, hml, hown, hg⟩ (c_Mo_line l D cI cL  _ v (w / (4 : Int32))) ⟨callB_of 2 hg (gw_good m_626) rfl rfl rfl (hg _ m_71) (hg _ m_624) hd_Mo_line ⟨Nat.le_of_ble_eq_true rfl, Nat.le_of_ble_eq_true rfl⟩, hg _ m_625⟩ (pw_S hK hN hT hA hP hD hS [] rfl (by decide)) rfl rfl hl.1 rfl (lv_room (Nat.le_of_ble_eq_true rfl)) d_Mo_save_46 ⟨Nat.le_of_ble_eq_true rfl, Nat.le_of_ble_eq_true rfl⟩) (fun H locs hP hD hS => ?_)
      have hP : va_P D classes (W_Mo cI cL b0 b1 b2 b3 b4 b5 b6 b7 ev t1_0 t1_1 ke ma t3_1 ps pn cy ca va t3_2 pp px go ne gi gn) H := hP
      have hD : va_D A (W_Mo cI cL b0 b1 b2 b3 b4 b5 b6 b7 ev t1_0 t1_1 ke ma t3_1 ps pn cy ca va t3_2 pp px go ne gi gn) := hD
      refine va_last hx hb hK hP hD hS 5 1 rfl rfl (rm4_in h_w) d_Mo_save_49 (fun H locs hP hD hS => ?_)
      have hP : va_P D classes (W_Mo cI cL b0 b1 b2 b3 b4 b5 b6 b7 ev t1_0 t1_1 ke ma (vp_updL t3_1 ((4 : Int32) + (u_rem w (4 : Int32))).toNatClampNeg (f_Mo_line v (w / (4 : Int32)))) ps pn cy ca va t3_2 pp px go ne gi gn) H := hP
      have hD : va_D A (W_Mo cI cL b0 b1 b2 b3 b4 b5 b6 b7 ev t1_0 t1_1 ke ma (vp_updL t3_1 ((4 : Int32) + (u_rem w (4 : Int32))).toNatClampNeg (f_Mo_line v (w / (4 : Int32)))) ps pn cy ca va t3_2 pp px go ne gi gn) := hD
      rw [f_Mo_save_e1 wr wg li cn w v (t1_0, t1_1) (t2_0, t2_1, t2_2) (t3_0, t3_1, t3_2) e_t1 e_t2 e_t3 h12 h30]
      exact W.vret hx hb hr (fun t ht hW => ⟨⟨(), rfl, trivial, by show va_P D classes _ t.heap; rw [ht]; exact hP⟩, hS.F ht⟩) hS.2.2 d_Mo_save_50 hlocks
  · refine lv_aload_n hx hb d_Mo_save_15 rfl (lv_at hl 0 rfl) ?_
    refine va_get (ci := 5) (C := R_Mo) (T := F_Mo) (N := 18) hx hb hg in_Mo hown hK hP 0 rfl rfl 5 (by decide) (hg _ m_508) (fun _ h => h) rfl d_Mo_save_16 ?_
    refine lv_iload_n hx hb d_Mo_save_19 rfl (lv_at hl 1 rfl) ?_
    refine lv_iconst (v := 4) hx hb d_Mo_save_20 (by decide) ?_
    refine lv_irem hx hb d_Mo_save_21 (by decide) ?_
    refine lv_lconst (v := 0) hx hb d_Mo_save_22 (by decide) ?_
    refine va_last hx hb hK hP hD hS 5 1 rfl rfl (rm_in h_w) d_Mo_save_23 (fun H locs hP hD hS => ?_)
    have hP : va_P D classes (W_Mo cI cL b0 b1 b2 b3 b4 b5 b6 b7 ev t1_0 t1_1 ke ma (vp_updL t2_1 (u_rem w (4 : Int32)).toNatClampNeg (0 : Int64)) ps pn cy ca va t2_2 pp px go ne gi gn) H := hP
    have hD : va_D A (W_Mo cI cL b0 b1 b2 b3 b4 b5 b6 b7 ev t1_0 t1_1 ke ma (vp_updL t2_1 (u_rem w (4 : Int32)).toNatClampNeg (0 : Int64)) ps pn cy ca va t2_2 pp px go ne gi gn) := hD
    refine lv_aload_n hx hb d_Mo_save_24 rfl (lv_at hl 0 rfl) ?_
    refine lv_iconst (v := 1) hx hb d_Mo_save_25 (by decide) ?_
    refine lv_iload_n hx hb d_Mo_save_26 rfl (lv_at hl 1 rfl) ?_
    refine cj_i (wc := (W_Mo cI cL b0 b1 b2 b3 b4 b5 b6 b7 ev t1_0 t1_1 ke ma (vp_updL t2_1 (u_rem w (4 : Int32)).toNatClampNeg (0 : Int64)) ps pn cy ca va t2_2 pp px go ne gi gn)) (w1 := (W_Mo cI cL b0 b1 b2 b3 b4 b5 b6 b7 ev t1_0 t1_1 ke ma ((f_Mo_holds (vp_updL t2_1 (u_rem w (4 : Int32)).toNatClampNeg (0 : Int64)) t2_2 (1 : Int32) w).2.1) ps pn cy ca va ((f_Mo_holds (vp_updL t2_1 (u_rem w (4 : Int32)).toNatClampNeg (0 : Int64)) t2_2 (1 : Int32) w).2.2) pp px go ne gi gn)) hP hD hS hA [0, 1, 2, 3, 4, 5, 6, 7] rfl [b0, b1, b2, b3, b4, b5, b6, b7] rfl rfl (va_runV (rest := []) ⟨hx, hb, hml, hown, hg⟩ (c_Mo_holds l D cI cL b0 b1 b2 b3 b4 b5 b6 b7 _ ev t1_0 t1_1 ke ma (vp_updL t2_1 (u_rem w (4 : Int32)).toNatClampNeg (0 : Int64)) ps pn cy ca va t2_2 pp px go ne gi gn (1 : Int32) w (vp_ofb (by decide)) h_w) ⟨callB_of 2 hg (gw_good m_603) rfl rfl rfl (hg _ m_71) (hg _ m_600) hd_Mo_holds ⟨Nat.le_of_ble_eq_true rfl, Nat.le_of_ble_eq_true rfl⟩, hg _ m_602, hg _ m_42⟩ (pw_V hK hN hT hA hP hD hS [0, 1, 2, 3, 4, 5, 6, 7] rfl (by decide) (q0 := 0) (ci := 5) rfl rfl) rfl rfl hl.1 rfl (lv_room (Nat.le_of_ble_eq_true rfl)) d_Mo_save_27 ⟨Nat.le_of_ble_eq_true rfl, Nat.le_of_ble_eq_true rfl⟩) (fun H locs hP hD hS => ?_)
    have hP : va_P D classes (W_Mo cI cL b0 b1 b2 b3 b4 b5 b6 b7 ev t1_0 t1_1 ke ma ((f_Mo_holds (vp_updL t2_1 (u_rem w (4 : Int32)).toNatClampNeg (0 : Int64)) t2_2 (1 : Int32) w).2.1) ps pn cy ca va ((f_Mo_holds (vp_updL t2_1 (u_rem w (4 : Int32)).toNatClampNeg (0 : Int64)) t2_2 (1 : Int32) w).2.2) pp px go ne gi gn) H := hP
    have hD : va_D A (W_Mo cI cL b0 b1 b2 b3 b4 b5 b6 b7 ev t1_0 t1_1 ke ma ((f_Mo_holds (vp_updL t2_1 (u_rem w (4 : Int32)).toNatClampNeg (0 : Int64)) t2_2 (1 : Int32) w).2.1) ps pn cy ca va ((f_Mo_holds (vp_updL t2_1 (u_rem w (4 : Int32)).toNatClampNeg (0 : Int64)) t2_2 (1 : Int32) w).2.2) pp px go ne gi gn) := hD
    generalize e_t4 : f_Mo_holds (vp_updL t2_1 (u_rem w (4 : Int32)).toNatClampNeg (0 : Int64)) t2_2 (1 : Int32) w = t4 at hP hD ⊢
    obtain ⟨t4_0, t4_1, t4_2⟩ := t4
    have hP : va_P D classes (W_Mo cI cL b0 b1 b2 b3 b4 b5 b6 b7 ev t1_0 t1_1 ke ma t4_1 ps pn cy ca va t4_2 pp px go ne gi gn) H := hP
    have hD : va_D A (W_Mo cI cL b0 b1 b2 b3 b4 b5 b6 b7 ev t1_0 t1_1 ke ma t4_1 ps pn cy ca va t4_2 pp px go ne gi gn) := hD
    refine W.eq (g2 := F0 m 30 ls (.int t4_0 :: [])) rfl ?_
    refine lv_if_eq (tgt := 50) hx hb d_Mo_save_30 (by decide) (fun h30 => ?_) (fun h30 => ?_)
    · rw [f_Mo_save_e2 wr wg li cn w v (t1_0, t1_1) (t2_0, t2_1, t2_2) (t4_0, t4_1, t4_2) e_t1 e_t2 e_t4 h12 h30]
      exact W.vret hx hb hr (fun t ht hW => ⟨⟨(), rfl, trivial, by show va_P D classes _ t.heap; rw [ht]; exact hP⟩, hS.F ht⟩) hS.2.2 d_Mo_save_50 hlocks
    · refine lv_aload_n hx hb d_Mo_save_33 rfl (lv_at hl 0 rfl) ?_
      refine va_get (ci := 5) (C := R_Mo) (T := F_Mo) (N := 18) hx hb hg in_Mo hown hK hP 0 rfl rfl 5 (by decide) (hg _ m_508) (fun _ h => h) rfl d_Mo_save_34 ?_
      refine lv_iconst (v := 4) hx hb d_Mo_save_37 (by decide) ?_
      refine lv_iload_n hx hb d_Mo_save_38 rfl (lv_at hl 1 rfl) ?_
      refine lv_iconst (v := 4) hx hb d_Mo_save_39 (by decide) ?_
      refine lv_irem hx hb d_Mo_save_40 (by decide) ?_
      refine lv_iadd hx hb d_Mo_save_41 ?_
      refine lv_iload_n hx hb d_Mo_save_42 rfl (lv_at hl 2 rfl) ?_
      refine lv_iload_n hx hb d_Mo_save_43 rfl (lv_at hl 1 rfl) ?_
      refine lv_iconst (v := 4) hx hb d_Mo_save_44 (by decide) ?_
      refine lv_idiv hx hb d_Mo_save_45 (by decide) ?_
      refine cj_l (wc := []) (w1 := []) hP hD hS hA [] rfl [] rfl rfl (va_runS (rest := [.int _, .ref _]) ⟨hx, hb, hml, hown, hg⟩ (c_Mo_line l D cI cL  _ v (w / (4 : Int32))) ⟨callB_of 2 hg (gw_good m_626) rfl rfl rfl (hg _ m_71) (hg _ m_624) hd_Mo_line ⟨Nat.le_of_ble_eq_true rfl, Nat.le_of_ble_eq_true rfl⟩, hg _ m_625⟩ (pw_S hK hN hT hA hP hD hS [] rfl (by decide)) rfl rfl hl.1 rfl (lv_room (Nat.le_of_ble_eq_true rfl)) d_Mo_save_46 ⟨Nat.le_of_ble_eq_true rfl, Nat.le_of_ble_eq_true rfl⟩) (fun H locs hP hD hS => ?_)
      have hP : va_P D classes (W_Mo cI cL b0 b1 b2 b3 b4 b5 b6 b7 ev t1_0 t1_1 ke ma t4_1 ps pn cy ca va t4_2 pp px go ne gi gn) H := hP
      have hD : va_D A (W_Mo cI cL b0 b1 b2 b3 b4 b5 b6 b7 ev t1_0 t1_1 ke ma t4_1 ps pn cy ca va t4_2 pp px go ne gi gn) := hD
      refine va_last hx hb hK hP hD hS 5 1 rfl rfl (rm4_in h_w) d_Mo_save_49 (fun H locs hP hD hS => ?_)
      have hP : va_P D classes (W_Mo cI cL b0 b1 b2 b3 b4 b5 b6 b7 ev t1_0 t1_1 ke ma (vp_updL t4_1 ((4 : Int32) + (u_rem w (4 : Int32))).toNatClampNeg (f_Mo_line v (w / (4 : Int32)))) ps pn cy ca va t4_2 pp px go ne gi gn) H := hP
      have hD : va_D A (W_Mo cI cL b0 b1 b2 b3 b4 b5 b6 b7 ev t1_0 t1_1 ke ma (vp_updL t4_1 ((4 : Int32) + (u_rem w (4 : Int32))).toNatClampNeg (f_Mo_line v (w / (4 : Int32)))) ps pn cy ca va t4_2 pp px go ne gi gn) := hD
      rw [f_Mo_save_e3 wr wg li cn w v (t1_0, t1_1) (t2_0, t2_1, t2_2) (t4_0, t4_1, t4_2) e_t1 e_t2 e_t4 h12 h30]
      exact W.vret hx hb hr (fun t ht hW => ⟨⟨(), rfl, trivial, by show va_P D classes _ t.heap; rw [ht]; exact hP⟩, hS.F ht⟩) hS.2.2 d_Mo_save_50 hlocks
