abbrev q_Mo_resume (D : va_G) (cI cL : ClassId) (b0 b1 b2 b3 b4 b5 b6 b7 : Nat) (A : Nat → Prop) (ev : Int32) (wr : Nat → Int32) (wg : Nat → Int64) (ke : Nat → Int32) (ma : Nat → Int32) (li : Nat → Int64) (ps : Int32) (pn : Nat → Int32) (cy : Int32) (ca : Int32) (va : Int32) (cn : Nat → Int32) (pp : Int32) (px : Int32) (go : Int32) (ne : Int32) (gi : Int32) (gn : Int32) (F : Int32 × (Nat → Int32) × (Nat → Int32) × Int32 × Int32) : Array Value → State → Outcome → State → Prop := va_Qi (fun r (_ : Unit) => r = F.1) (fun _ t => va_P D classes (W_Mo cI cL b0 b1 b2 b3 b4 b5 b6 b7 ev wr wg F.2.1 F.2.2.1 li ps pn cy F.2.2.2.1 F.2.2.2.2 cn pp px go ne gi gn) t.heap) A
theorem f_Mo_resume_e0 (ke : Nat → Int32) (ma : Nat → Int32) (ca : Int32) (va : Int32) (v : Int32) (t1 : (Nat → Int32) × (Nat → Int32)) (t2 : Int32 × Int32) (e_t1 : f_Mo_put ke ma (0 : Int32) v = t1) (e_t2 : f_Mo_stop ca va (0 : Int32) (0 : Int32) = t2) (h4 : ¬ ca = 0) : f_Mo_resume ke ma ca va v = ((1 : Int32), t1.1, t1.2, t2.1, t2.2) := by
  subst e_t2
  subst e_t1
  exact (if_neg h4)
theorem f_Mo_resume_e1 (ke : Nat → Int32) (ma : Nat → Int32) (ca : Int32) (va : Int32) (v : Int32)  (h4 : ca = 0) : f_Mo_resume ke ma ca va v = ((0 : Int32), ke, ma, ca, va) := by
  exact (if_pos h4)
set_option maxHeartbeats 4000000 in
set_option maxRecDepth 100000 in
theorem c_Mo_resume (l : Launch) (D : va_G) (cI cL : ClassId) (b0 b1 b2 b3 b4 b5 b6 b7 : Nat) (sz : Nat) (ev : Int32) (wr : Nat → Int32) (wg : Nat → Int64) (ke : Nat → Int32) (ma : Nat → Int32) (li : Nat → Int64) (ps : Int32) (pn : Nat → Int32) (cy : Int32) (ca : Int32) (va : Int32) (cn : Nat → Int32) (pp : Int32) (px : Int32) (go : Int32) (ne : Int32) (gi : Int32) (gn : Int32) (v : Int32)  : Met l y_Mo_resume w_Mo_resume ({ frames := 1, cells := 0, slots := 0, locals := 23 }) (va_Pc [.ref b0, .int v] (PW D cI cL (W_Mo cI cL b0 b1 b2 b3 b4 b5 b6 b7 ev wr wg ke ma li ps pn cy ca va cn pp px go ne gi gn) sz)) (q_Mo_resume D cI cL b0 b1 b2 b3 b4 b5 b6 b7 (va_A (W_Mo cI cL b0 b1 b2 b3 b4 b5 b6 b7 ev wr wg ke ma li ps pn cy ca va cn pp px go ne gi gn) sz) ev wr wg ke ma li ps pn cy ca va cn pp px go ne gi gn (f_Mo_resume ke ma ca va v)) 0 0 (va_A (W_Mo cI cL b0 b1 b2 b3 b4 b5 b6 b7 ev wr wg ke ma li ps pn cy ca va cn pp px go ne gi gn) sz) := by
  refine mk_met (Qf := fun A => q_Mo_resume D cI cL b0 b1 b2 b3 b4 b5 b6 b7 A ev wr wg ke ma li ps pn cy ca va cn pp px go ne gi gn (f_Mo_resume ke ma ca va v)) (by decide) (Nat.le_of_ble_eq_true rfl) ?_
  intro p e s m below meth c A ls hx hb hr hlocks hml hown hg hK hN hT hA hP hD hS hnm hl
  refine lv_aload_n hx hb d_Mo_resume_0 rfl (lv_at hl 0 rfl) ?_
  refine va_get (ci := 5) (C := R_Mo) (T := F_Mo) (N := 18) hx hb hg in_Mo hown hK hP 0 rfl rfl 9 (by decide) (hg _ m_512) (fun _ h => h) rfl d_Mo_resume_1 ?_
  refine lv_if_ne (tgt := 9) hx hb d_Mo_resume_4 (by decide) (fun h4 => ?_) (fun h4 => ?_)
  · refine lv_aload_n hx hb d_Mo_resume_9 rfl (lv_at hl 0 rfl) ?_
    refine lv_iconst (v := 0) hx hb d_Mo_resume_10 (by decide) ?_
    refine lv_iload_n hx hb d_Mo_resume_11 rfl (lv_at hl 1 rfl) ?_
    refine cj_v (wc := (W_Mo cI cL b0 b1 b2 b3 b4 b5 b6 b7 ev wr wg ke ma li ps pn cy ca va cn pp px go ne gi gn)) (w1 := (W_Mo cI cL b0 b1 b2 b3 b4 b5 b6 b7 ev wr wg ((f_Mo_put ke ma (0 : Int32) v).1) ((f_Mo_put ke ma (0 : Int32) v).2) li ps pn cy ca va cn pp px go ne gi gn)) hP hD hS hA [0, 1, 2, 3, 4, 5, 6, 7] rfl [b0, b1, b2, b3, b4, b5, b6, b7] rfl rfl (va_runV (rest := []) ⟨hx, hb, hml, hown, hg⟩ (c_Mo_put l D cI cL b0 b1 b2 b3 b4 b5 b6 b7 _ ev wr wg ke ma li ps pn cy ca va cn pp px go ne gi gn (0 : Int32) v (vp_ofb (by decide))) ⟨callB_of 2 hg (gw_good m_587) rfl rfl rfl (hg _ m_71) (hg _ m_584) hd_Mo_put ⟨Nat.le_of_ble_eq_true rfl, Nat.le_of_ble_eq_true rfl⟩, hg _ m_586, hg _ m_38⟩ (pw_V hK hN hT hA hP hD hS [0, 1, 2, 3, 4, 5, 6, 7] rfl (by decide) (q0 := 0) (ci := 5) rfl rfl) rfl rfl hl.1 rfl (lv_room (Nat.le_of_ble_eq_true rfl)) d_Mo_resume_12 ⟨Nat.le_of_ble_eq_true rfl, Nat.le_of_ble_eq_true rfl⟩) (fun H locs hP hD hS => ?_)
    have hP : va_P D classes (W_Mo cI cL b0 b1 b2 b3 b4 b5 b6 b7 ev wr wg ((f_Mo_put ke ma (0 : Int32) v).1) ((f_Mo_put ke ma (0 : Int32) v).2) li ps pn cy ca va cn pp px go ne gi gn) H := hP
    have hD : va_D A (W_Mo cI cL b0 b1 b2 b3 b4 b5 b6 b7 ev wr wg ((f_Mo_put ke ma (0 : Int32) v).1) ((f_Mo_put ke ma (0 : Int32) v).2) li ps pn cy ca va cn pp px go ne gi gn) := hD
    generalize e_t1 : f_Mo_put ke ma (0 : Int32) v = t1 at hP hD ⊢
    obtain ⟨t1_0, t1_1⟩ := t1
    have hP : va_P D classes (W_Mo cI cL b0 b1 b2 b3 b4 b5 b6 b7 ev wr wg t1_0 t1_1 li ps pn cy ca va cn pp px go ne gi gn) H := hP
    have hD : va_D A (W_Mo cI cL b0 b1 b2 b3 b4 b5 b6 b7 ev wr wg t1_0 t1_1 li ps pn cy ca va cn pp px go ne gi gn) := hD
    refine lv_aload_n hx hb d_Mo_resume_15 rfl (lv_at hl 0 rfl) ?_
    refine lv_iconst (v := 0) hx hb d_Mo_resume_16 (by decide) ?_
    refine lv_iconst (v := 0) hx hb d_Mo_resume_17 (by decide) ?_
    refine cj_v (wc := (W_Mo cI cL b0 b1 b2 b3 b4 b5 b6 b7 ev wr wg t1_0 t1_1 li ps pn cy ca va cn pp px go ne gi gn)) (w1 := (W_Mo cI cL b0 b1 b2 b3 b4 b5 b6 b7 ev wr wg t1_0 t1_1 li ps pn cy ((f_Mo_stop ca va (0 : Int32) (0 : Int32)).1) ((f_Mo_stop ca va (0 : Int32) (0 : Int32)).2) cn pp px go ne gi gn)) hP hD hS hA [0, 1, 2, 3, 4, 5, 6, 7] rfl [b0, b1, b2, b3, b4, b5, b6, b7] rfl rfl (va_runV (rest := []) ⟨hx, hb, hml, hown, hg⟩ (c_Mo_stop l D cI cL b0 b1 b2 b3 b4 b5 b6 b7 _ ev wr wg t1_0 t1_1 li ps pn cy ca va cn pp px go ne gi gn (0 : Int32) (0 : Int32)) ⟨callB_of 2 hg (gw_good m_595) rfl rfl rfl (hg _ m_71) (hg _ m_592) hd_Mo_stop ⟨Nat.le_of_ble_eq_true rfl, Nat.le_of_ble_eq_true rfl⟩, hg _ m_594, hg _ m_40⟩ (pw_V hK hN hT hA hP hD hS [0, 1, 2, 3, 4, 5, 6, 7] rfl (by decide) (q0 := 0) (ci := 5) rfl rfl) rfl rfl hl.1 rfl (lv_room (Nat.le_of_ble_eq_true rfl)) d_Mo_resume_18 ⟨Nat.le_of_ble_eq_true rfl, Nat.le_of_ble_eq_true rfl⟩) (fun H locs hP hD hS => ?_)
    have hP : va_P D classes (W_Mo cI cL b0 b1 b2 b3 b4 b5 b6 b7 ev wr wg t1_0 t1_1 li ps pn cy ((f_Mo_stop ca va (0 : Int32) (0 : Int32)).1) ((f_Mo_stop ca va (0 : Int32) (0 : Int32)).2) cn pp px go ne gi gn) H := hP
    have hD : va_D A (W_Mo cI cL b0 b1 b2 b3 b4 b5 b6 b7 ev wr wg t1_0 t1_1 li ps pn cy ((f_Mo_stop ca va (0 : Int32) (0 : Int32)).1) ((f_Mo_stop ca va (0 : Int32) (0 : Int32)).2) cn pp px go ne gi gn) := hD
    generalize e_t2 : f_Mo_stop ca va (0 : Int32) (0 : Int32) = t2 at hP hD ⊢
    obtain ⟨t2_0, t2_1⟩ := t2
    have hP : va_P D classes (W_Mo cI cL b0 b1 b2 b3 b4 b5 b6 b7 ev wr wg t1_0 t1_1 li ps pn cy t2_0 t2_1 cn pp px go ne gi gn) H := hP
    have hD : va_D A (W_Mo cI cL b0 b1 b2 b3 b4 b5 b6 b7 ev wr wg t1_0 t1_1 li ps pn cy t2_0 t2_1 cn pp px go ne gi gn) := hD
    refine lv_iconst (v := 1) hx hb d_Mo_resume_21 (by decide) ?_
    rw [f_Mo_resume_e0 ke ma ca va v (t1_0, t1_1) (t2_0, t2_1) e_t1 e_t2 h4]
    exact W.zret hx hb hr rfl (fun t ht hW => ⟨⟨_, (), rfl, rfl, by show va_P D classes _ t.heap; rw [ht]; exact hP⟩, hS.F ht⟩) hS.2.2 d_Mo_resume_22 hlocks
  · refine lv_iconst (v := 0) hx hb d_Mo_resume_7 (by decide) ?_
    rw [f_Mo_resume_e1 ke ma ca va v h4]
    exact W.zret hx hb hr rfl (fun t ht hW => ⟨⟨_, (), rfl, rfl, by show va_P D classes _ t.heap; rw [ht]; exact hP⟩, hS.F ht⟩) hS.2.2 d_Mo_resume_8 hlocks
abbrev q_Mo_write (D : va_G) (cI cL : ClassId) (b0 b1 b2 b3 b4 b5 b6 b7 : Nat) (A : Nat → Prop) (ev : Int32) (wr : Nat → Int32) (wg : Nat → Int64) (ke : Nat → Int32) (ma : Nat → Int32) (li : Nat → Int64) (ps : Int32) (pn : Nat → Int32) (cy : Int32) (ca : Int32) (va : Int32) (cn : Nat → Int32) (pp : Int32) (px : Int32) (go : Int32) (ne : Int32) (gi : Int32) (gn : Int32) (F : Int32 × (Nat → Int32) × (Nat → Int64) × (Nat → Int64)) : Array Value → State → Outcome → State → Prop := va_Qi (fun r (_ : Unit) => r = F.1) (fun _ t => va_P D classes (W_Mo cI cL b0 b1 b2 b3 b4 b5 b6 b7 ev F.2.1 F.2.2.1 ke ma F.2.2.2 ps pn cy ca va cn pp px go ne gi gn) t.heap) A
theorem f_Mo_write_e0 (wr : Nat → Int32) (wg : Nat → Int64) (li : Nat → Int64) (w : Int32) (v : Int32) (t1 : (Nat → Int32) × (Nat → Int64)) (e_t1 : f_Mo_keep wr wg w v = t1) (h6 : (f_Mo_outside w (63 : Int32)) = 0) : f_Mo_write wr wg li w v = ((1 : Int32), t1.1, t1.2, (vp_updL (vp_updL (vp_updL (vp_updL (vp_updL (vp_updL (vp_updL (vp_updL li (0 : Int32).toNatClampNeg (0 : Int64)) (1 : Int32).toNatClampNeg (0 : Int64)) (2 : Int32).toNatClampNeg (0 : Int64)) (3 : Int32).toNatClampNeg (0 : Int64)) (4 : Int32).toNatClampNeg (0 : Int64)) (5 : Int32).toNatClampNeg (0 : Int64)) (6 : Int32).toNatClampNeg (0 : Int64)) (7 : Int32).toNatClampNeg (0 : Int64))) := by
  subst e_t1
  exact (if_pos h6)
theorem f_Mo_write_e1 (wr : Nat → Int32) (wg : Nat → Int64) (li : Nat → Int64) (w : Int32) (v : Int32)  (h6 : ¬ (f_Mo_outside w (63 : Int32)) = 0) : f_Mo_write wr wg li w v = ((0 : Int32), wr, wg, li) := by
  exact (if_neg h6)
set_option maxHeartbeats 4000000 in
set_option maxRecDepth 100000 in
theorem c_Mo_write (l : Launch) (D : va_G) (cI cL : ClassId) (b0 b1 b2 b3 b4 b5 b6 b7 : Nat) (sz : Nat) (ev : Int32) (wr : Nat → Int32) (wg : Nat → Int64) (ke : Nat → Int32) (ma : Nat → Int32) (li : Nat → Int64) (ps : Int32) (pn : Nat → Int32) (cy : Int32) (ca : Int32) (va : Int32) (cn : Nat → Int32) (pp : Int32) (px : Int32) (go : Int32) (ne : Int32) (gi : Int32) (gn : Int32) (w : Int32) (v : Int32)  : Met l y_Mo_write w_Mo_write ({ frames := 1, cells := 0, slots := 0, locals := 22 }) (va_Pc [.ref b0, .int w, .int v] (PW D cI cL (W_Mo cI cL b0 b1 b2 b3 b4 b5 b6 b7 ev wr wg ke ma li ps pn cy ca va cn pp px go ne gi gn) sz)) (q_Mo_write D cI cL b0 b1 b2 b3 b4 b5 b6 b7 (va_A (W_Mo cI cL b0 b1 b2 b3 b4 b5 b6 b7 ev wr wg ke ma li ps pn cy ca va cn pp px go ne gi gn) sz) ev wr wg ke ma li ps pn cy ca va cn pp px go ne gi gn (f_Mo_write wr wg li w v)) 0 0 (va_A (W_Mo cI cL b0 b1 b2 b3 b4 b5 b6 b7 ev wr wg ke ma li ps pn cy ca va cn pp px go ne gi gn) sz) := by
  refine mk_met (Qf := fun A => q_Mo_write D cI cL b0 b1 b2 b3 b4 b5 b6 b7 A ev wr wg ke ma li ps pn cy ca va cn pp px go ne gi gn (f_Mo_write wr wg li w v)) (by decide) (Nat.le_of_ble_eq_true rfl) ?_
  intro p e s m below meth c A ls hx hb hr hlocks hml hown hg hK hN hT hA hP hD hS hnm hl
  refine lv_iload_n hx hb d_Mo_write_0 rfl (lv_at hl 1 rfl) ?_
  refine lv_bipush (v := 63) hx hb d_Mo_write_1 (by decide) ?_
  refine cj_i (wc := []) (w1 := []) hP hD hS hA [] rfl [] rfl rfl (va_runS (rest := []) ⟨hx, hb, hml, hown, hg⟩ (c_Mo_outside l D cI cL  _ w (63 : Int32)) ⟨callB_of 2 hg (gw_good m_564) rfl rfl rfl (hg _ m_71) (hg _ m_562) hd_Mo_outside ⟨Nat.le_of_ble_eq_true rfl, Nat.le_of_ble_eq_true rfl⟩, hg _ m_563⟩ (pw_S hK hN hT hA hP hD hS [] rfl (by decide)) rfl rfl hl.1 rfl (lv_room (Nat.le_of_ble_eq_true rfl)) d_Mo_write_3 ⟨Nat.le_of_ble_eq_true rfl, Nat.le_of_ble_eq_true rfl⟩) (fun H locs hP hD hS => ?_)
  have hP : va_P D classes (W_Mo cI cL b0 b1 b2 b3 b4 b5 b6 b7 ev wr wg ke ma li ps pn cy ca va cn pp px go ne gi gn) H := hP
  have hD : va_D A (W_Mo cI cL b0 b1 b2 b3 b4 b5 b6 b7 ev wr wg ke ma li ps pn cy ca va cn pp px go ne gi gn) := hD
  refine lv_if_eq (tgt := 11) hx hb d_Mo_write_6 (by decide) (fun h6 => ?_) (fun h6 => ?_)
  · refine lv_aload_n hx hb d_Mo_write_11 rfl (lv_at hl 0 rfl) ?_
    refine lv_iload_n hx hb d_Mo_write_12 rfl (lv_at hl 1 rfl) ?_
    refine lv_iload_n hx hb d_Mo_write_13 rfl (lv_at hl 2 rfl) ?_
    refine cj_v (wc := (W_Mo cI cL b0 b1 b2 b3 b4 b5 b6 b7 ev wr wg ke ma li ps pn cy ca va cn pp px go ne gi gn)) (w1 := (W_Mo cI cL b0 b1 b2 b3 b4 b5 b6 b7 ev ((f_Mo_keep wr wg w v).1) ((f_Mo_keep wr wg w v).2) ke ma li ps pn cy ca va cn pp px go ne gi gn)) hP hD hS hA [0, 1, 2, 3, 4, 5, 6, 7] rfl [b0, b1, b2, b3, b4, b5, b6, b7] rfl rfl (va_runV (rest := []) ⟨hx, hb, hml, hown, hg⟩ (c_Mo_keep l D cI cL b0 b1 b2 b3 b4 b5 b6 b7 _ ev wr wg ke ma li ps pn cy ca va cn pp px go ne gi gn w v (in_out (by decide) h6)) ⟨callB_of 2 hg (gw_good m_697) rfl rfl rfl (hg _ m_71) (hg _ m_694) hd_Mo_keep ⟨Nat.le_of_ble_eq_true rfl, Nat.le_of_ble_eq_true rfl⟩, hg _ m_696, hg _ m_59⟩ (pw_V hK hN hT hA hP hD hS [0, 1, 2, 3, 4, 5, 6, 7] rfl (by decide) (q0 := 0) (ci := 5) rfl rfl) rfl rfl hl.1 rfl (lv_room (Nat.le_of_ble_eq_true rfl)) d_Mo_write_14 ⟨Nat.le_of_ble_eq_true rfl, Nat.le_of_ble_eq_true rfl⟩) (fun H locs hP hD hS => ?_)
    have hP : va_P D classes (W_Mo cI cL b0 b1 b2 b3 b4 b5 b6 b7 ev ((f_Mo_keep wr wg w v).1) ((f_Mo_keep wr wg w v).2) ke ma li ps pn cy ca va cn pp px go ne gi gn) H := hP
    have hD : va_D A (W_Mo cI cL b0 b1 b2 b3 b4 b5 b6 b7 ev ((f_Mo_keep wr wg w v).1) ((f_Mo_keep wr wg w v).2) ke ma li ps pn cy ca va cn pp px go ne gi gn) := hD
    generalize e_t1 : f_Mo_keep wr wg w v = t1 at hP hD ⊢
    obtain ⟨t1_0, t1_1⟩ := t1
    have hP : va_P D classes (W_Mo cI cL b0 b1 b2 b3 b4 b5 b6 b7 ev t1_0 t1_1 ke ma li ps pn cy ca va cn pp px go ne gi gn) H := hP
    have hD : va_D A (W_Mo cI cL b0 b1 b2 b3 b4 b5 b6 b7 ev t1_0 t1_1 ke ma li ps pn cy ca va cn pp px go ne gi gn) := hD
    refine lv_iconst (v := 0) hx hb d_Mo_write_17 (by decide) ?_
    refine lv_istore_n (lv' := [(3, .int _), (0, .ref _), (1, .int _), (2, .int _)]) hx hb d_Mo_write_18 rfl hl (by decide) rfl (fun ls hl => ?_)
    refine lv_iload_n hx hb d_Mo_write_19 rfl (lv_at hl 0 rfl) ?_
    refine lv_bipush (v := 8) hx hb d_Mo_write_20 (by decide) ?_
    refine lv_icmp_ge (tgt := 38) hx hb d_Mo_write_22 (by decide) (fun h => absurd h (by decide)) (fun _ => ?_)
    refine lv_aload_n hx hb d_Mo_write_25 rfl (lv_at hl 1 rfl) ?_
    refine va_get (ci := 5) (C := R_Mo) (T := F_Mo) (N := 18) hx hb hg in_Mo hown hK hP 0 rfl rfl 5 (by decide) (hg _ m_508) (fun _ h => h) rfl d_Mo_write_26 ?_
    refine lv_iload_n hx hb d_Mo_write_29 rfl (lv_at hl 0 rfl) ?_
    refine lv_lconst (v := 0) hx hb d_Mo_write_30 (by decide) ?_
    refine va_last hx hb hK hP hD hS 5 1 rfl rfl (vp_ofb (by decide)) d_Mo_write_31 (fun H locs hP hD hS => ?_)
    have hP : va_P D classes (W_Mo cI cL b0 b1 b2 b3 b4 b5 b6 b7 ev t1_0 t1_1 ke ma (vp_updL li (0 : Int32).toNatClampNeg (0 : Int64)) ps pn cy ca va cn pp px go ne gi gn) H := hP
    have hD : va_D A (W_Mo cI cL b0 b1 b2 b3 b4 b5 b6 b7 ev t1_0 t1_1 ke ma (vp_updL li (0 : Int32).toNatClampNeg (0 : Int64)) ps pn cy ca va cn pp px go ne gi gn) := hD
    refine lv_iinc (k := 0) (v := 1) (lv' := [(3, .int _), (0, .ref _), (1, .int _), (2, .int _)]) hx hb d_Mo_write_32 hl rfl (by decide) (by decide) rfl (fun ls hl => ?_)
    refine lv_goto (tgt := 19) hx hb d_Mo_write_35 (by decide) ?_
    refine lv_iload_n hx hb d_Mo_write_19 rfl (lv_at hl 0 rfl) ?_
    refine lv_bipush (v := 8) hx hb d_Mo_write_20 (by decide) ?_
    refine lv_icmp_ge (tgt := 38) hx hb d_Mo_write_22 (by decide) (fun h => absurd h (by decide)) (fun _ => ?_)
    refine lv_aload_n hx hb d_Mo_write_25 rfl (lv_at hl 1 rfl) ?_
    refine va_get (ci := 5) (C := R_Mo) (T := F_Mo) (N := 18) hx hb hg in_Mo hown hK hP 0 rfl rfl 5 (by decide) (hg _ m_508) (fun _ h => h) rfl d_Mo_write_26 ?_
    refine lv_iload_n hx hb d_Mo_write_29 rfl (lv_at hl 0 rfl) ?_
    refine lv_lconst (v := 0) hx hb d_Mo_write_30 (by decide) ?_
    refine va_last hx hb hK hP hD hS 5 1 rfl rfl (vp_ofb (by decide)) d_Mo_write_31 (fun H locs hP hD hS => ?_)
    have hP : va_P D classes (W_Mo cI cL b0 b1 b2 b3 b4 b5 b6 b7 ev t1_0 t1_1 ke ma (vp_updL (vp_updL li (0 : Int32).toNatClampNeg (0 : Int64)) (1 : Int32).toNatClampNeg (0 : Int64)) ps pn cy ca va cn pp px go ne gi gn) H := hP
    have hD : va_D A (W_Mo cI cL b0 b1 b2 b3 b4 b5 b6 b7 ev t1_0 t1_1 ke ma (vp_updL (vp_updL li (0 : Int32).toNatClampNeg (0 : Int64)) (1 : Int32).toNatClampNeg (0 : Int64)) ps pn cy ca va cn pp px go ne gi gn) := hD
    refine lv_iinc (k := 0) (v := 2) (lv' := [(3, .int _), (0, .ref _), (1, .int _), (2, .int _)]) hx hb d_Mo_write_32 hl rfl (by decide) (by decide) rfl (fun ls hl => ?_)
    refine lv_goto (tgt := 19) hx hb d_Mo_write_35 (by decide) ?_
    refine lv_iload_n hx hb d_Mo_write_19 rfl (lv_at hl 0 rfl) ?_
    refine lv_bipush (v := 8) hx hb d_Mo_write_20 (by decide) ?_
    refine lv_icmp_ge (tgt := 38) hx hb d_Mo_write_22 (by decide) (fun h => absurd h (by decide)) (fun _ => ?_)
    refine lv_aload_n hx hb d_Mo_write_25 rfl (lv_at hl 1 rfl) ?_
    refine va_get (ci := 5) (C := R_Mo) (T := F_Mo) (N := 18) hx hb hg in_Mo hown hK hP 0 rfl rfl 5 (by decide) (hg _ m_508) (fun _ h => h) rfl d_Mo_write_26 ?_
    refine lv_iload_n hx hb d_Mo_write_29 rfl (lv_at hl 0 rfl) ?_
    refine lv_lconst (v := 0) hx hb d_Mo_write_30 (by decide) ?_
    refine va_last hx hb hK hP hD hS 5 1 rfl rfl (vp_ofb (by decide)) d_Mo_write_31 (fun H locs hP hD hS => ?_)
    have hP : va_P D classes (W_Mo cI cL b0 b1 b2 b3 b4 b5 b6 b7 ev t1_0 t1_1 ke ma (vp_updL (vp_updL (vp_updL li (0 : Int32).toNatClampNeg (0 : Int64)) (1 : Int32).toNatClampNeg (0 : Int64)) (2 : Int32).toNatClampNeg (0 : Int64)) ps pn cy ca va cn pp px go ne gi gn) H := hP
    have hD : va_D A (W_Mo cI cL b0 b1 b2 b3 b4 b5 b6 b7 ev t1_0 t1_1 ke ma (vp_updL (vp_updL (vp_updL li (0 : Int32).toNatClampNeg (0 : Int64)) (1 : Int32).toNatClampNeg (0 : Int64)) (2 : Int32).toNatClampNeg (0 : Int64)) ps pn cy ca va cn pp px go ne gi gn) := hD
    refine lv_iinc (k := 0) (v := 3) (lv' := [(3, .int _), (0, .ref _), (1, .int _), (2, .int _)]) hx hb d_Mo_write_32 hl rfl (by decide) (by decide) rfl (fun ls hl => ?_)
    refine lv_goto (tgt := 19) hx hb d_Mo_write_35 (by decide) ?_
    refine lv_iload_n hx hb d_Mo_write_19 rfl (lv_at hl 0 rfl) ?_
    refine lv_bipush (v := 8) hx hb d_Mo_write_20 (by decide) ?_
    refine lv_icmp_ge (tgt := 38) hx hb d_Mo_write_22 (by decide) (fun h => absurd h (by decide)) (fun _ => ?_)
    refine lv_aload_n hx hb d_Mo_write_25 rfl (lv_at hl 1 rfl) ?_
    refine va_get (ci := 5) (C := R_Mo) (T := F_Mo) (N := 18) hx hb hg in_Mo hown hK hP 0 rfl rfl 5 (by decide) (hg _ m_508) (fun _ h => h) rfl d_Mo_write_26 ?_
    refine lv_iload_n hx hb d_Mo_write_29 rfl (lv_at hl 0 rfl) ?_
    refine lv_lconst (v := 0) hx hb d_Mo_write_30 (by decide) ?_
    refine va_last hx hb hK hP hD hS 5 1 rfl rfl (vp_ofb (by decide)) d_Mo_write_31 (fun H locs hP hD hS => ?_)
    have hP : va_P D classes (W_Mo cI cL b0 b1 b2 b3 b4 b5 b6 b7 ev t1_0 t1_1 ke ma (vp_updL (vp_updL (vp_updL (vp_updL li (0 : Int32).toNatClampNeg (0 : Int64)) (1 : Int32).toNatClampNeg (0 : Int64)) (2 : Int32).toNatClampNeg (0 : Int64)) (3 : Int32).toNatClampNeg (0 : Int64)) ps pn cy ca va cn pp px go ne gi gn) H := hP
    have hD : va_D A (W_Mo cI cL b0 b1 b2 b3 b4 b5 b6 b7 ev t1_0 t1_1 ke ma (vp_updL (vp_updL (vp_updL (vp_updL li (0 : Int32).toNatClampNeg (0 : Int64)) (1 : Int32).toNatClampNeg (0 : Int64)) (2 : Int32).toNatClampNeg (0 : Int64)) (3 : Int32).toNatClampNeg (0 : Int64)) ps pn cy ca va cn pp px go ne gi gn) := hD
    refine lv_iinc (k := 0) (v := 4) (lv' := [(3, .int _), (0, .ref _), (1, .int _), (2, .int _)]) hx hb d_Mo_write_32 hl rfl (by decide) (by decide) rfl (fun ls hl => ?_)
    refine lv_goto (tgt := 19) hx hb d_Mo_write_35 (by decide) ?_
    refine lv_iload_n hx hb d_Mo_write_19 rfl (lv_at hl 0 rfl) ?_
    refine lv_bipush (v := 8) hx hb d_Mo_write_20 (by decide) ?_
    refine lv_icmp_ge (tgt := 38) hx hb d_Mo_write_22 (by decide) (fun h => absurd h (by decide)) (fun _ => ?_)
    refine lv_aload_n hx hb d_Mo_write_25 rfl (lv_at hl 1 rfl) ?_
    refine va_get (ci := 5) (C := R_Mo) (T := F_Mo) (N := 18) hx hb hg in_Mo hown hK hP 0 rfl rfl 5 (by decide) (hg _ m_508) (fun _ h => h) rfl d_Mo_write_26 ?_
    refine lv_iload_n hx hb d_Mo_write_29 rfl (lv_at hl 0 rfl) ?_
    refine lv_lconst (v := 0) hx hb d_Mo_write_30 (by decide) ?_
    refine va_last hx hb hK hP hD hS 5 1 rfl rfl (vp_ofb (by decide)) d_Mo_write_31 (fun H locs hP hD hS => ?_)
    have hP : va_P D classes (W_Mo cI cL b0 b1 b2 b3 b4 b5 b6 b7 ev t1_0 t1_1 ke ma (vp_updL (vp_updL (vp_updL (vp_updL (vp_updL li (0 : Int32).toNatClampNeg (0 : Int64)) (1 : Int32).toNatClampNeg (0 : Int64)) (2 : Int32).toNatClampNeg (0 : Int64)) (3 : Int32).toNatClampNeg (0 : Int64)) (4 : Int32).toNatClampNeg (0 : Int64)) ps pn cy ca va cn pp px go ne gi gn) H := hP
    have hD : va_D A (W_Mo cI cL b0 b1 b2 b3 b4 b5 b6 b7 ev t1_0 t1_1 ke ma (vp_updL (vp_updL (vp_updL (vp_updL (vp_updL li (0 : Int32).toNatClampNeg (0 : Int64)) (1 : Int32).toNatClampNeg (0 : Int64)) (2 : Int32).toNatClampNeg (0 : Int64)) (3 : Int32).toNatClampNeg (0 : Int64)) (4 : Int32).toNatClampNeg (0 : Int64)) ps pn cy ca va cn pp px go ne gi gn) := hD
    refine lv_iinc (k := 0) (v := 5) (lv' := [(3, .int _), (0, .ref _), (1, .int _), (2, .int _)]) hx hb d_Mo_write_32 hl rfl (by decide) (by decide) rfl (fun ls hl => ?_)
    refine lv_goto (tgt := 19) hx hb d_Mo_write_35 (by decide) ?_
    refine lv_iload_n hx hb d_Mo_write_19 rfl (lv_at hl 0 rfl) ?_
    refine lv_bipush (v := 8) hx hb d_Mo_write_20 (by decide) ?_
    refine lv_icmp_ge (tgt := 38) hx hb d_Mo_write_22 (by decide) (fun h => absurd h (by decide)) (fun _ => ?_)
    refine lv_aload_n hx hb d_Mo_write_25 rfl (lv_at hl 1 rfl) ?_
    refine va_get (ci := 5) (C := R_Mo) (T := F_Mo) (N := 18) hx hb hg in_Mo hown hK hP 0 rfl rfl 5 (by decide) (hg _ m_508) (fun _ h => h) rfl d_Mo_write_26 ?_
    refine lv_iload_n hx hb d_Mo_write_29 rfl (lv_at hl 0 rfl) ?_
    refine lv_lconst (v := 0) hx hb d_Mo_write_30 (by decide) ?_
    refine va_last hx hb hK hP hD hS 5 1 rfl rfl (vp_ofb (by decide)) d_Mo_write_31 (fun H locs hP hD hS => ?_)
    have hP : va_P D classes (W_Mo cI cL b0 b1 b2 b3 b4 b5 b6 b7 ev t1_0 t1_1 ke ma (vp_updL (vp_updL (vp_updL (vp_updL (vp_updL (vp_updL li (0 : Int32).toNatClampNeg (0 : Int64)) (1 : Int32).toNatClampNeg (0 : Int64)) (2 : Int32).toNatClampNeg (0 : Int64)) (3 : Int32).toNatClampNeg (0 : Int64)) (4 : Int32).toNatClampNeg (0 : Int64)) (5 : Int32).toNatClampNeg (0 : Int64)) ps pn cy ca va cn pp px go ne gi gn) H := hP
    have hD : va_D A (W_Mo cI cL b0 b1 b2 b3 b4 b5 b6 b7 ev t1_0 t1_1 ke ma (vp_updL (vp_updL (vp_updL (vp_updL (vp_updL (vp_updL li (0 : Int32).toNatClampNeg (0 : Int64)) (1 : Int32).toNatClampNeg (0 : Int64)) (2 : Int32).toNatClampNeg (0 : Int64)) (3 : Int32).toNatClampNeg (0 : Int64)) (4 : Int32).toNatClampNeg (0 : Int64)) (5 : Int32).toNatClampNeg (0 : Int64)) ps pn cy ca va cn pp px go ne gi gn) := hD
    refine lv_iinc (k := 0) (v := 6) (lv' := [(3, .int _), (0, .ref _), (1, .int _), (2, .int _)]) hx hb d_Mo_write_32 hl rfl (by decide) (by decide) rfl (fun ls hl => ?_)
    refine lv_goto (tgt := 19) hx hb d_Mo_write_35 (by decide) ?_
    refine lv_iload_n hx hb d_Mo_write_19 rfl (lv_at hl 0 rfl) ?_
    refine lv_bipush (v := 8) hx hb d_Mo_write_20 (by decide) ?_
    refine lv_icmp_ge (tgt := 38) hx hb d_Mo_write_22 (by decide) (fun h => absurd h (by decide)) (fun _ => ?_)
    refine lv_aload_n hx hb d_Mo_write_25 rfl (lv_at hl 1 rfl) ?_
    refine va_get (ci := 5) (C := R_Mo) (T := F_Mo) (N := 18) hx hb hg in_Mo hown hK hP 0 rfl rfl 5 (by decide) (hg _ m_508) (fun _ h => h) rfl d_Mo_write_26 ?_
    refine lv_iload_n hx hb d_Mo_write_29 rfl (lv_at hl 0 rfl) ?_
    refine lv_lconst (v := 0) hx hb d_Mo_write_30 (by decide) ?_
    refine va_last hx hb hK hP hD hS 5 1 rfl rfl (vp_ofb (by decide)) d_Mo_write_31 (fun H locs hP hD hS => ?_)
    have hP : va_P D classes (W_Mo cI cL b0 b1 b2 b3 b4 b5 b6 b7 ev t1_0 t1_1 ke ma (vp_updL (vp_updL (vp_updL (vp_updL (vp_updL (vp_updL (vp_updL li (0 : Int32).toNatClampNeg (0 : Int64)) (1 : Int32).toNatClampNeg (0 : Int64)) (2 : Int32).toNatClampNeg (0 : Int64)) (3 : Int32).toNatClampNeg (0 : Int64)) (4 : Int32).toNatClampNeg (0 : Int64)) (5 : Int32).toNatClampNeg (0 : Int64)) (6 : Int32).toNatClampNeg (0 : Int64)) ps pn cy ca va cn pp px go ne gi gn) H := hP
    have hD : va_D A (W_Mo cI cL b0 b1 b2 b3 b4 b5 b6 b7 ev t1_0 t1_1 ke ma (vp_updL (vp_updL (vp_updL (vp_updL (vp_updL (vp_updL (vp_updL li (0 : Int32).toNatClampNeg (0 : Int64)) (1 : Int32).toNatClampNeg (0 : Int64)) (2 : Int32).toNatClampNeg (0 : Int64)) (3 : Int32).toNatClampNeg (0 : Int64)) (4 : Int32).toNatClampNeg (0 : Int64)) (5 : Int32).toNatClampNeg (0 : Int64)) (6 : Int32).toNatClampNeg (0 : Int64)) ps pn cy ca va cn pp px go ne gi gn) := hD
    refine lv_iinc (k := 0) (v := 7) (lv' := [(3, .int _), (0, .ref _), (1, .int _), (2, .int _)]) hx hb d_Mo_write_32 hl rfl (by decide) (by decide) rfl (fun ls hl => ?_)
    refine lv_goto (tgt := 19) hx hb d_Mo_write_35 (by decide) ?_
    refine lv_iload_n hx hb d_Mo_write_19 rfl (lv_at hl 0 rfl) ?_
    refine lv_bipush (v := 8) hx hb d_Mo_write_20 (by decide) ?_
    refine lv_icmp_ge (tgt := 38) hx hb d_Mo_write_22 (by decide) (fun h => absurd h (by decide)) (fun _ => ?_)
    refine lv_aload_n hx hb d_Mo_write_25 rfl (lv_at hl 1 rfl) ?_
    refine va_get (ci := 5) (C := R_Mo) (T := F_Mo) (N := 18) hx hb hg in_Mo hown hK hP 0 rfl rfl 5 (by decide) (hg _ m_508) (fun _ h => h) rfl d_Mo_write_26 ?_
    refine lv_iload_n hx hb d_Mo_write_29 rfl (lv_at hl 0 rfl) ?_
    refine lv_lconst (v := 0) hx hb d_Mo_write_30 (by decide) ?_
    refine va_last hx hb hK hP hD hS 5 1 rfl rfl (vp_ofb (by decide)) d_Mo_write_31 (fun H locs hP hD hS => ?_)
    have hP : va_P D classes (W_Mo cI cL b0 b1 b2 b3 b4 b5 b6 b7 ev t1_0 t1_1 ke ma (vp_updL (vp_updL (vp_updL (vp_updL (vp_updL (vp_updL (vp_updL (vp_updL li (0 : Int32).toNatClampNeg (0 : Int64)) (1 : Int32).toNatClampNeg (0 : Int64)) (2 : Int32).toNatClampNeg (0 : Int64)) (3 : Int32).toNatClampNeg (0 : Int64)) (4 : Int32).toNatClampNeg (0 : Int64)) (5 : Int32).toNatClampNeg (0 : Int64)) (6 : Int32).toNatClampNeg (0 : Int64)) (7 : Int32).toNatClampNeg (0 : Int64)) ps pn cy ca va cn pp px go ne gi gn) H := hP
    have hD : va_D A (W_Mo cI cL b0 b1 b2 b3 b4 b5 b6 b7 ev t1_0 t1_1 ke ma (vp_updL (vp_updL (vp_updL (vp_updL (vp_updL (vp_updL (vp_updL (vp_updL li (0 : Int32).toNatClampNeg (0 : Int64)) (1 : Int32).toNatClampNeg (0 : Int64)) (2 : Int32).toNatClampNeg (0 : Int64)) (3 : Int32).toNatClampNeg (0 : Int64)) (4 : Int32).toNatClampNeg (0 : Int64)) (5 : Int32).toNatClampNeg (0 : Int64)) (6 : Int32).toNatClampNeg (0 : Int64)) (7 : Int32).toNatClampNeg (0 : Int64)) ps pn cy ca va cn pp px go ne gi gn) := hD
    refine lv_iinc (k := 0) (v := 8) (lv' := [(3, .int _), (0, .ref _), (1, .int _), (2, .int _)]) hx hb d_Mo_write_32 hl rfl (by decide) (by decide) rfl (fun ls hl => ?_)
    refine lv_goto (tgt := 19) hx hb d_Mo_write_35 (by decide) ?_
    refine lv_iload_n hx hb d_Mo_write_19 rfl (lv_at hl 0 rfl) ?_
    refine lv_bipush (v := 8) hx hb d_Mo_write_20 (by decide) ?_
    refine lv_icmp_ge (tgt := 38) hx hb d_Mo_write_22 (by decide) (fun _ => ?_) (fun h => absurd (by decide) h)
    refine lv_iconst (v := 1) hx hb d_Mo_write_38 (by decide) ?_
    rw [f_Mo_write_e0 wr wg li w v (t1_0, t1_1) e_t1 h6]
    exact W.zret hx hb hr rfl (fun t ht hW => ⟨⟨_, (), rfl, rfl, by show va_P D classes _ t.heap; rw [ht]; exact hP⟩, hS.F ht⟩) hS.2.2 d_Mo_write_39 hlocks
  · refine lv_iconst (v := 0) hx hb d_Mo_write_9 (by decide) ?_
    rw [f_Mo_write_e1 wr wg li w v h6]
    exact W.zret hx hb hr rfl (fun t ht hW => ⟨⟨_, (), rfl, rfl, by show va_P D classes _ t.heap; rw [ht]; exact hP⟩, hS.F ht⟩) hS.2.2 d_Mo_write_10 hlocks
abbrev q_Mo_set (D : va_G) (cI cL : ClassId) (b0 b1 b2 b3 b4 b5 b6 b7 : Nat) (A : Nat → Prop) (ev : Int32) (wr : Nat → Int32) (wg : Nat → Int64) (ke : Nat → Int32) (ma : Nat → Int32) (li : Nat → Int64) (ps : Int32) (pn : Nat → Int32) (cy : Int32) (ca : Int32) (va : Int32) (cn : Nat → Int32) (pp : Int32) (px : Int32) (go : Int32) (ne : Int32) (gi : Int32) (gn : Int32) (F : Int32 × (Nat → Int32) × (Nat → Int32)) : Array Value → State → Outcome → State → Prop := va_Qi (fun r (_ : Unit) => r = F.1) (fun _ t => va_P D classes (W_Mo cI cL b0 b1 b2 b3 b4 b5 b6 b7 ev wr wg F.2.1 F.2.2 li ps pn cy ca va cn pp px go ne gi gn) t.heap) A
theorem f_Mo_set_e0 (ke : Nat → Int32) (ma : Nat → Int32) (w : Int32) (v : Int32) (t1 : (Nat → Int32) × (Nat → Int32)) (e_t1 : f_Mo_put ke ma w v = t1) (h6 : (f_Mo_outside w (31 : Int32)) = 0) : f_Mo_set ke ma w v = ((1 : Int32), t1.1, t1.2) := by
  subst e_t1
  exact (if_pos h6)
theorem f_Mo_set_e1 (ke : Nat → Int32) (ma : Nat → Int32) (w : Int32) (v : Int32)  (h6 : ¬ (f_Mo_outside w (31 : Int32)) = 0) : f_Mo_set ke ma w v = ((0 : Int32), ke, ma) := by
  exact (if_neg h6)
set_option maxHeartbeats 4000000 in
set_option maxRecDepth 100000 in
theorem c_Mo_set (l : Launch) (D : va_G) (cI cL : ClassId) (b0 b1 b2 b3 b4 b5 b6 b7 : Nat) (sz : Nat) (ev : Int32) (wr : Nat → Int32) (wg : Nat → Int64) (ke : Nat → Int32) (ma : Nat → Int32) (li : Nat → Int64) (ps : Int32) (pn : Nat → Int32) (cy : Int32) (ca : Int32) (va : Int32) (cn : Nat → Int32) (pp : Int32) (px : Int32) (go : Int32) (ne : Int32) (gi : Int32) (gn : Int32) (w : Int32) (v : Int32)  : Met l y_Mo_set w_Mo_set ({ frames := 1, cells := 0, slots := 0, locals := 23 }) (va_Pc [.ref b0, .int w, .int v] (PW D cI cL (W_Mo cI cL b0 b1 b2 b3 b4 b5 b6 b7 ev wr wg ke ma li ps pn cy ca va cn pp px go ne gi gn) sz)) (q_Mo_set D cI cL b0 b1 b2 b3 b4 b5 b6 b7 (va_A (W_Mo cI cL b0 b1 b2 b3 b4 b5 b6 b7 ev wr wg ke ma li ps pn cy ca va cn pp px go ne gi gn) sz) ev wr wg ke ma li ps pn cy ca va cn pp px go ne gi gn (f_Mo_set ke ma w v)) 0 0 (va_A (W_Mo cI cL b0 b1 b2 b3 b4 b5 b6 b7 ev wr wg ke ma li ps pn cy ca va cn pp px go ne gi gn) sz) := by
  refine mk_met (Qf := fun A => q_Mo_set D cI cL b0 b1 b2 b3 b4 b5 b6 b7 A ev wr wg ke ma li ps pn cy ca va cn pp px go ne gi gn (f_Mo_set ke ma w v)) (by decide) (Nat.le_of_ble_eq_true rfl) ?_
  intro p e s m below meth c A ls hx hb hr hlocks hml hown hg hK hN hT hA hP hD hS hnm hl
  refine lv_iload_n hx hb d_Mo_set_0 rfl (lv_at hl 1 rfl) ?_
  refine lv_bipush (v := 31) hx hb d_Mo_set_1 (by decide) ?_
  refine cj_i (wc := []) (w1 := []) hP hD hS hA [] rfl [] rfl rfl (va_runS (rest := []) ⟨hx, hb, hml, hown, hg⟩ (c_Mo_outside l D cI cL  _ w (31 : Int32)) ⟨callB_of 2 hg (gw_good m_564) rfl rfl rfl (hg _ m_71) (hg _ m_562) hd_Mo_outside ⟨Nat.le_of_ble_eq_true rfl, Nat.le_of_ble_eq_true rfl⟩, hg _ m_563⟩ (pw_S hK hN hT hA hP hD hS [] rfl (by decide)) rfl rfl hl.1 rfl (lv_room (Nat.le_of_ble_eq_true rfl)) d_Mo_set_3 ⟨Nat.le_of_ble_eq_true rfl, Nat.le_of_ble_eq_true rfl⟩) (fun H locs hP hD hS => ?_)
  have hP : va_P D classes (W_Mo cI cL b0 b1 b2 b3 b4 b5 b6 b7 ev wr wg ke ma li ps pn cy ca va cn pp px go ne gi gn) H := hP
  have hD : va_D A (W_Mo cI cL b0 b1 b2 b3 b4 b5 b6 b7 ev wr wg ke ma li ps pn cy ca va cn pp px go ne gi gn) := hD
  refine lv_if_eq (tgt := 11) hx hb d_Mo_set_6 (by decide) (fun h6 => ?_) (fun h6 => ?_)
  · refine lv_aload_n hx hb d_Mo_set_11 rfl (lv_at hl 0 rfl) ?_
    refine lv_iload_n hx hb d_Mo_set_12 rfl (lv_at hl 1 rfl) ?_
    refine lv_iload_n hx hb d_Mo_set_13 rfl (lv_at hl 2 rfl) ?_
    refine cj_v (wc := (W_Mo cI cL b0 b1 b2 b3 b4 b5 b6 b7 ev wr wg ke ma li ps pn cy ca va cn pp px go ne gi gn)) (w1 := (W_Mo cI cL b0 b1 b2 b3 b4 b5 b6 b7 ev wr wg ((f_Mo_put ke ma w v).1) ((f_Mo_put ke ma w v).2) li ps pn cy ca va cn pp px go ne gi gn)) hP hD hS hA [0, 1, 2, 3, 4, 5, 6, 7] rfl [b0, b1, b2, b3, b4, b5, b6, b7] rfl rfl (va_runV (rest := []) ⟨hx, hb, hml, hown, hg⟩ (c_Mo_put l D cI cL b0 b1 b2 b3 b4 b5 b6 b7 _ ev wr wg ke ma li ps pn cy ca va cn pp px go ne gi gn w v (in_out (by decide) h6)) ⟨callB_of 2 hg (gw_good m_587) rfl rfl rfl (hg _ m_71) (hg _ m_584) hd_Mo_put ⟨Nat.le_of_ble_eq_true rfl, Nat.le_of_ble_eq_true rfl⟩, hg _ m_586, hg _ m_38⟩ (pw_V hK hN hT hA hP hD hS [0, 1, 2, 3, 4, 5, 6, 7] rfl (by decide) (q0 := 0) (ci := 5) rfl rfl) rfl rfl hl.1 rfl (lv_room (Nat.le_of_ble_eq_true rfl)) d_Mo_set_14 ⟨Nat.le_of_ble_eq_true rfl, Nat.le_of_ble_eq_true rfl⟩) (fun H locs hP hD hS => ?_)
    have hP : va_P D classes (W_Mo cI cL b0 b1 b2 b3 b4 b5 b6 b7 ev wr wg ((f_Mo_put ke ma w v).1) ((f_Mo_put ke ma w v).2) li ps pn cy ca va cn pp px go ne gi gn) H := hP
    have hD : va_D A (W_Mo cI cL b0 b1 b2 b3 b4 b5 b6 b7 ev wr wg ((f_Mo_put ke ma w v).1) ((f_Mo_put ke ma w v).2) li ps pn cy ca va cn pp px go ne gi gn) := hD
    generalize e_t1 : f_Mo_put ke ma w v = t1 at hP hD ⊢
    obtain ⟨t1_0, t1_1⟩ := t1
    have hP : va_P D classes (W_Mo cI cL b0 b1 b2 b3 b4 b5 b6 b7 ev wr wg t1_0 t1_1 li ps pn cy ca va cn pp px go ne gi gn) H := hP
    have hD : va_D A (W_Mo cI cL b0 b1 b2 b3 b4 b5 b6 b7 ev wr wg t1_0 t1_1 li ps pn cy ca va cn pp px go ne gi gn) := hD
    refine lv_iconst (v := 1) hx hb d_Mo_set_17 (by decide) ?_
    rw [f_Mo_set_e0 ke ma w v (t1_0, t1_1) e_t1 h6]
    exact W.zret hx hb hr rfl (fun t ht hW => ⟨⟨_, (), rfl, rfl, by show va_P D classes _ t.heap; rw [ht]; exact hP⟩, hS.F ht⟩) hS.2.2 d_Mo_set_18 hlocks
  · refine lv_iconst (v := 0) hx hb d_Mo_set_9 (by decide) ?_
    rw [f_Mo_set_e1 ke ma w v h6]
    exact W.zret hx hb hr rfl (fun t ht hW => ⟨⟨_, (), rfl, rfl, by show va_P D classes _ t.heap; rw [ht]; exact hP⟩, hS.F ht⟩) hS.2.2 d_Mo_set_10 hlocks
abbrev q_Mo_noBit (D : va_G) (cI cL : ClassId) (A : Nat → Prop)  (F : Int32) : Array Value → State → Outcome → State → Prop := va_Qi (fun r (_ : Unit) => r = F) (fun _ t => va_P D classes [] t.heap) A
theorem f_Mo_noBit_e0 (part : Int32) (bit : Int32)  (h7 : ¬ (f_Mo_outside part (167 : Int32)) = 0) : f_Mo_noBit part bit = ((1 : Int32)) := by
  exact (if_neg h7)
theorem f_Mo_noBit_e1 (part : Int32) (bit : Int32)  (h7 : (f_Mo_outside part (167 : Int32)) = 0) (h14 : (64 : Int32) ≤ part) (h26 : (160 : Int32) ≤ part) (h39 : (f_Mo_outside bit (37 : Int32)) = 0) : f_Mo_noBit part bit = ((0 : Int32)) := by
  exact ((if_pos h7).trans ((if_pos h14).trans ((if_pos h26).trans (if_pos h39))))
theorem f_Mo_noBit_e2 (part : Int32) (bit : Int32)  (h7 : (f_Mo_outside part (167 : Int32)) = 0) (h14 : (64 : Int32) ≤ part) (h26 : (160 : Int32) ≤ part) (h39 : ¬ (f_Mo_outside bit (37 : Int32)) = 0) : f_Mo_noBit part bit = ((1 : Int32)) := by
  exact ((if_pos h7).trans ((if_pos h14).trans ((if_pos h26).trans (if_neg h39))))
theorem f_Mo_noBit_e3 (part : Int32) (bit : Int32)  (h7 : (f_Mo_outside part (167 : Int32)) = 0) (h14 : (64 : Int32) ≤ part) (h26 : ¬ (160 : Int32) ≤ part) (h39 : (f_Mo_outside bit (31 : Int32)) = 0) : f_Mo_noBit part bit = ((0 : Int32)) := by
  exact ((if_pos h7).trans ((if_pos h14).trans ((if_neg h26).trans (if_pos h39))))
theorem f_Mo_noBit_e4 (part : Int32) (bit : Int32)  (h7 : (f_Mo_outside part (167 : Int32)) = 0) (h14 : (64 : Int32) ≤ part) (h26 : ¬ (160 : Int32) ≤ part) (h39 : ¬ (f_Mo_outside bit (31 : Int32)) = 0) : f_Mo_noBit part bit = ((1 : Int32)) := by
  exact ((if_pos h7).trans ((if_pos h14).trans ((if_neg h26).trans (if_neg h39))))
theorem f_Mo_noBit_e5 (part : Int32) (bit : Int32)  (h7 : (f_Mo_outside part (167 : Int32)) = 0) (h14 : ¬ (64 : Int32) ≤ part) (h39 : (f_Mo_outside bit (38 : Int32)) = 0) : f_Mo_noBit part bit = ((0 : Int32)) := by
  exact ((if_pos h7).trans ((if_neg h14).trans (if_pos h39)))
theorem f_Mo_noBit_e6 (part : Int32) (bit : Int32)  (h7 : (f_Mo_outside part (167 : Int32)) = 0) (h14 : ¬ (64 : Int32) ≤ part) (h39 : ¬ (f_Mo_outside bit (38 : Int32)) = 0) : f_Mo_noBit part bit = ((1 : Int32)) := by
  exact ((if_pos h7).trans ((if_neg h14).trans (if_neg h39)))
set_option maxHeartbeats 4000000 in
set_option maxRecDepth 100000 in
theorem c_Mo_noBit (l : Launch) (D : va_G) (cI cL : ClassId) (sz : Nat)  (part : Int32) (bit : Int32)  : Met l y_Mo_noBit w_Mo_noBit ({ frames := 1, cells := 0, slots := 0, locals := 21 }) (va_Pc [.int part, .int bit] (PW D cI cL [] sz)) (q_Mo_noBit D cI cL (va_A [] sz)  (f_Mo_noBit part bit)) 0 0 (va_A [] sz) := by
  refine mk_met (Qf := fun A => q_Mo_noBit D cI cL A  (f_Mo_noBit part bit)) (by decide) (Nat.le_of_ble_eq_true rfl) ?_
  intro p e s m below meth c A ls hx hb hr hlocks hml hown hg hK hN hT hA hP hD hS hnm hl
  refine lv_iload_n hx hb d_Mo_noBit_0 rfl (lv_at hl 0 rfl) ?_
  refine lv_sipush (v := 167) hx hb d_Mo_noBit_1 (by decide) ?_
  refine cj_i (wc := []) (w1 := []) hP hD hS hA [] rfl [] rfl rfl (va_runS (rest := []) ⟨hx, hb, hml, hown, hg⟩ (c_Mo_outside l D cI cL  _ part (167 : Int32)) ⟨callB_of 2 hg (gw_good m_564) rfl rfl rfl (hg _ m_71) (hg _ m_562) hd_Mo_outside ⟨Nat.le_of_ble_eq_true rfl, Nat.le_of_ble_eq_true rfl⟩, hg _ m_563⟩ (pw_S hK hN hT hA hP hD hS [] rfl (by decide)) rfl rfl hl.1 rfl (lv_room (Nat.le_of_ble_eq_true rfl)) d_Mo_noBit_4 ⟨Nat.le_of_ble_eq_true rfl, Nat.le_of_ble_eq_true rfl⟩) (fun H locs hP hD hS => ?_)
  have hP : va_P D classes [] H := hP
  have hD : va_D A [] := hD
  refine lv_if_ne (tgt := 42) hx hb d_Mo_noBit_7 (by decide) (fun h7 => ?_) (fun h7 => ?_)
  · refine lv_iconst (v := 1) hx hb d_Mo_noBit_42 (by decide) ?_
    refine lv_goto (tgt := 47) hx hb d_Mo_noBit_43 (by decide) ?_
    rw [f_Mo_noBit_e0 part bit h7]
    exact W.zret hx hb hr rfl (fun t ht hW => ⟨⟨_, (), rfl, rfl, by show va_P D classes _ t.heap; rw [ht]; exact hP⟩, hS.F ht⟩) hS.2.2 d_Mo_noBit_47 hlocks
  · refine lv_iload_n hx hb d_Mo_noBit_10 rfl (lv_at hl 1 rfl) ?_
    refine lv_iload_n hx hb d_Mo_noBit_11 rfl (lv_at hl 0 rfl) ?_
    refine lv_bipush (v := 64) hx hb d_Mo_noBit_12 (by decide) ?_
    refine lv_icmp_ge (tgt := 22) hx hb d_Mo_noBit_14 (by decide) (fun h14 => ?_) (fun h14 => ?_)
    · refine lv_iload_n hx hb d_Mo_noBit_22 rfl (lv_at hl 0 rfl) ?_
      refine lv_sipush (v := 160) hx hb d_Mo_noBit_23 (by decide) ?_
      refine lv_icmp_ge (tgt := 34) hx hb d_Mo_noBit_26 (by decide) (fun h26 => ?_) (fun h26 => ?_)
      · refine lv_bipush (v := 37) hx hb d_Mo_noBit_34 (by decide) ?_
        refine cj_i (wc := []) (w1 := []) hP hD hS hA [] rfl [] rfl rfl (va_runS (rest := []) ⟨hx, hb, hml, hown, hg⟩ (c_Mo_outside l D cI cL  _ bit (37 : Int32)) ⟨callB_of 2 hg (gw_good m_564) rfl rfl rfl (hg _ m_71) (hg _ m_562) hd_Mo_outside ⟨Nat.le_of_ble_eq_true rfl, Nat.le_of_ble_eq_true rfl⟩, hg _ m_563⟩ (pw_S hK hN hT hA hP hD hS [] rfl (by decide)) rfl rfl hl.1 rfl (lv_room (Nat.le_of_ble_eq_true rfl)) d_Mo_noBit_36 ⟨Nat.le_of_ble_eq_true rfl, Nat.le_of_ble_eq_true rfl⟩) (fun H locs hP hD hS => ?_)
        have hP : va_P D classes [] H := hP
        have hD : va_D A [] := hD
        refine lv_if_eq (tgt := 46) hx hb d_Mo_noBit_39 (by decide) (fun h39 => ?_) (fun h39 => ?_)
        · refine lv_iconst (v := 0) hx hb d_Mo_noBit_46 (by decide) ?_
          rw [f_Mo_noBit_e1 part bit h7 h14 h26 h39]
          exact W.zret hx hb hr rfl (fun t ht hW => ⟨⟨_, (), rfl, rfl, by show va_P D classes _ t.heap; rw [ht]; exact hP⟩, hS.F ht⟩) hS.2.2 d_Mo_noBit_47 hlocks
        · refine lv_iconst (v := 1) hx hb d_Mo_noBit_42 (by decide) ?_
          refine lv_goto (tgt := 47) hx hb d_Mo_noBit_43 (by decide) ?_
          rw [f_Mo_noBit_e2 part bit h7 h14 h26 h39]
          exact W.zret hx hb hr rfl (fun t ht hW => ⟨⟨_, (), rfl, rfl, by show va_P D classes _ t.heap; rw [ht]; exact hP⟩, hS.F ht⟩) hS.2.2 d_Mo_noBit_47 hlocks
      · refine lv_bipush (v := 31) hx hb d_Mo_noBit_29 (by decide) ?_
        refine lv_goto (tgt := 36) hx hb d_Mo_noBit_31 (by decide) ?_
        refine cj_i (wc := []) (w1 := []) hP hD hS hA [] rfl [] rfl rfl (va_runS (rest := []) ⟨hx, hb, hml, hown, hg⟩ (c_Mo_outside l D cI cL  _ bit (31 : Int32)) ⟨callB_of 2 hg (gw_good m_564) rfl rfl rfl (hg _ m_71) (hg _ m_562) hd_Mo_outside ⟨Nat.le_of_ble_eq_true rfl, Nat.le_of_ble_eq_true rfl⟩, hg _ m_563⟩ (pw_S hK hN hT hA hP hD hS [] rfl (by decide)) rfl rfl hl.1 rfl (lv_room (Nat.le_of_ble_eq_true rfl)) d_Mo_noBit_36 ⟨Nat.le_of_ble_eq_true rfl, Nat.le_of_ble_eq_true rfl⟩) (fun H locs hP hD hS => ?_)
        have hP : va_P D classes [] H := hP
        have hD : va_D A [] := hD
        refine lv_if_eq (tgt := 46) hx hb d_Mo_noBit_39 (by decide) (fun h39 => ?_) (fun h39 => ?_)
        · refine lv_iconst (v := 0) hx hb d_Mo_noBit_46 (by decide) ?_
          rw [f_Mo_noBit_e3 part bit h7 h14 h26 h39]
          exact W.zret hx hb hr rfl (fun t ht hW => ⟨⟨_, (), rfl, rfl, by show va_P D classes _ t.heap; rw [ht]; exact hP⟩, hS.F ht⟩) hS.2.2 d_Mo_noBit_47 hlocks
        · refine lv_iconst (v := 1) hx hb d_Mo_noBit_42 (by decide) ?_
          refine lv_goto (tgt := 47) hx hb d_Mo_noBit_43 (by decide) ?_
          rw [f_Mo_noBit_e4 part bit h7 h14 h26 h39]
          exact W.zret hx hb hr rfl (fun t ht hW => ⟨⟨_, (), rfl, rfl, by show va_P D classes _ t.heap; rw [ht]; exact hP⟩, hS.F ht⟩) hS.2.2 d_Mo_noBit_47 hlocks
    · refine lv_bipush (v := 38) hx hb d_Mo_noBit_17 (by decide) ?_
      refine lv_goto (tgt := 36) hx hb d_Mo_noBit_19 (by decide) ?_
      refine cj_i (wc := []) (w1 := []) hP hD hS hA [] rfl [] rfl rfl (va_runS (rest := []) ⟨hx, hb, hml, hown, hg⟩ (c_Mo_outside l D cI cL  _ bit (38 : Int32)) ⟨callB_of 2 hg (gw_good m_564) rfl rfl rfl (hg _ m_71) (hg _ m_562) hd_Mo_outside ⟨Nat.le_of_ble_eq_true rfl, Nat.le_of_ble_eq_true rfl⟩, hg _ m_563⟩ (pw_S hK hN hT hA hP hD hS [] rfl (by decide)) rfl rfl hl.1 rfl (lv_room (Nat.le_of_ble_eq_true rfl)) d_Mo_noBit_36 ⟨Nat.le_of_ble_eq_true rfl, Nat.le_of_ble_eq_true rfl⟩) (fun H locs hP hD hS => ?_)
      have hP : va_P D classes [] H := hP
      have hD : va_D A [] := hD
      refine lv_if_eq (tgt := 46) hx hb d_Mo_noBit_39 (by decide) (fun h39 => ?_) (fun h39 => ?_)
      · refine lv_iconst (v := 0) hx hb d_Mo_noBit_46 (by decide) ?_
        rw [f_Mo_noBit_e5 part bit h7 h14 h39]
        exact W.zret hx hb hr rfl (fun t ht hW => ⟨⟨_, (), rfl, rfl, by show va_P D classes _ t.heap; rw [ht]; exact hP⟩, hS.F ht⟩) hS.2.2 d_Mo_noBit_47 hlocks
      · refine lv_iconst (v := 1) hx hb d_Mo_noBit_42 (by decide) ?_
        refine lv_goto (tgt := 47) hx hb d_Mo_noBit_43 (by decide) ?_
        rw [f_Mo_noBit_e6 part bit h7 h14 h39]
        exact W.zret hx hb hr rfl (fun t ht hW => ⟨⟨_, (), rfl, rfl, by show va_P D classes _ t.heap; rw [ht]; exact hP⟩, hS.F ht⟩) hS.2.2 d_Mo_noBit_47 hlocks
abbrev q_Mo_flip (D : va_G) (cI cL : ClassId) (b0 b1 b2 b3 b4 b5 b6 b7 : Nat) (A : Nat → Prop) (ev : Int32) (wr : Nat → Int32) (wg : Nat → Int64) (ke : Nat → Int32) (ma : Nat → Int32) (li : Nat → Int64) (ps : Int32) (pn : Nat → Int32) (cy : Int32) (ca : Int32) (va : Int32) (cn : Nat → Int32) (pp : Int32) (px : Int32) (go : Int32) (ne : Int32) (gi : Int32) (gn : Int32) (F : Int32 × (Nat → Int64) × (Nat → Int32) × (Nat → Int64)) : Array Value → State → Outcome → State → Prop := va_Qi (fun r (_ : Unit) => r = F.1) (fun _ t => va_P D classes (W_Mo cI cL b0 b1 b2 b3 b4 b5 b6 b7 ev wr F.2.1 ke F.2.2.1 F.2.2.2 ps pn cy ca va cn pp px go ne gi gn) t.heap) A
theorem f_Mo_flip_e0 (wg : Nat → Int64) (ma : Nat → Int32) (li : Nat → Int64) (part : Int32) (bit : Int32) (t1 : (Nat → Int64) × (Nat → Int32) × (Nat → Int64)) (e_t1 : f_Mo_change wg ma li part bit = t1) (h5 : (f_Mo_noBit part bit) = 0) : f_Mo_flip wg ma li part bit = ((1 : Int32), t1.1, t1.2.1, t1.2.2) := by
  subst e_t1
  exact (if_pos h5)
theorem f_Mo_flip_e1 (wg : Nat → Int64) (ma : Nat → Int32) (li : Nat → Int64) (part : Int32) (bit : Int32)  (h5 : ¬ (f_Mo_noBit part bit) = 0) : f_Mo_flip wg ma li part bit = ((0 : Int32), wg, ma, li) := by
  exact (if_neg h5)
set_option maxHeartbeats 4000000 in
set_option maxRecDepth 100000 in
theorem c_Mo_flip (l : Launch) (D : va_G) (cI cL : ClassId) (b0 b1 b2 b3 b4 b5 b6 b7 : Nat) (sz : Nat) (ev : Int32) (wr : Nat → Int32) (wg : Nat → Int64) (ke : Nat → Int32) (ma : Nat → Int32) (li : Nat → Int64) (ps : Int32) (pn : Nat → Int32) (cy : Int32) (ca : Int32) (va : Int32) (cn : Nat → Int32) (pp : Int32) (px : Int32) (go : Int32) (ne : Int32) (gi : Int32) (gn : Int32) (part : Int32) (bit : Int32)  : Met l y_Mo_flip w_Mo_flip ({ frames := 2, cells := 0, slots := 0, locals := 42 }) (va_Pc [.ref b0, .int part, .int bit] (PW D cI cL (W_Mo cI cL b0 b1 b2 b3 b4 b5 b6 b7 ev wr wg ke ma li ps pn cy ca va cn pp px go ne gi gn) sz)) (q_Mo_flip D cI cL b0 b1 b2 b3 b4 b5 b6 b7 (va_A (W_Mo cI cL b0 b1 b2 b3 b4 b5 b6 b7 ev wr wg ke ma li ps pn cy ca va cn pp px go ne gi gn) sz) ev wr wg ke ma li ps pn cy ca va cn pp px go ne gi gn (f_Mo_flip wg ma li part bit)) 0 0 (va_A (W_Mo cI cL b0 b1 b2 b3 b4 b5 b6 b7 ev wr wg ke ma li ps pn cy ca va cn pp px go ne gi gn) sz) := by
  refine mk_met (Qf := fun A => q_Mo_flip D cI cL b0 b1 b2 b3 b4 b5 b6 b7 A ev wr wg ke ma li ps pn cy ca va cn pp px go ne gi gn (f_Mo_flip wg ma li part bit)) (by decide) (Nat.le_of_ble_eq_true rfl) ?_
  intro p e s m below meth c A ls hx hb hr hlocks hml hown hg hK hN hT hA hP hD hS hnm hl
  refine lv_iload_n hx hb d_Mo_flip_0 rfl (lv_at hl 1 rfl) ?_
  refine lv_iload_n hx hb d_Mo_flip_1 rfl (lv_at hl 2 rfl) ?_
  refine cj_i (wc := []) (w1 := []) hP hD hS hA [] rfl [] rfl rfl (va_runS (rest := []) ⟨hx, hb, hml, hown, hg⟩ (c_Mo_noBit l D cI cL  _ part bit) ⟨callB_of 2 hg (gw_good m_733) rfl rfl rfl (hg _ m_71) (hg _ m_731) hd_Mo_noBit ⟨Nat.le_of_ble_eq_true rfl, Nat.le_of_ble_eq_true rfl⟩, hg _ m_732⟩ (pw_S hK hN hT hA hP hD hS [] rfl (by decide)) rfl rfl hl.1 rfl (lv_room (Nat.le_of_ble_eq_true rfl)) d_Mo_flip_2 ⟨Nat.le_of_ble_eq_true rfl, Nat.le_of_ble_eq_true rfl⟩) (fun H locs hP hD hS => ?_)
  have hP : va_P D classes (W_Mo cI cL b0 b1 b2 b3 b4 b5 b6 b7 ev wr wg ke ma li ps pn cy ca va cn pp px go ne gi gn) H := hP
  have hD : va_D A (W_Mo cI cL b0 b1 b2 b3 b4 b5 b6 b7 ev wr wg ke ma li ps pn cy ca va cn pp px go ne gi gn) := hD
  refine lv_if_eq (tgt := 10) hx hb d_Mo_flip_5 (by decide) (fun h5 => ?_) (fun h5 => ?_)
  · refine lv_aload_n hx hb d_Mo_flip_10 rfl (lv_at hl 0 rfl) ?_
    refine lv_iload_n hx hb d_Mo_flip_11 rfl (lv_at hl 1 rfl) ?_
    refine lv_iload_n hx hb d_Mo_flip_12 rfl (lv_at hl 2 rfl) ?_
    refine cj_v (wc := (W_Mo cI cL b0 b1 b2 b3 b4 b5 b6 b7 ev wr wg ke ma li ps pn cy ca va cn pp px go ne gi gn)) (w1 := (W_Mo cI cL b0 b1 b2 b3 b4 b5 b6 b7 ev wr ((f_Mo_change wg ma li part bit).1) ke ((f_Mo_change wg ma li part bit).2.1) ((f_Mo_change wg ma li part bit).2.2) ps pn cy ca va cn pp px go ne gi gn)) hP hD hS hA [0, 1, 2, 3, 4, 5, 6, 7] rfl [b0, b1, b2, b3, b4, b5, b6, b7] rfl rfl (va_runV (rest := []) ⟨hx, hb, hml, hown, hg⟩ (c_Mo_change l D cI cL b0 b1 b2 b3 b4 b5 b6 b7 _ ev wr wg ke ma li ps pn cy ca va cn pp px go ne gi gn part bit (in_nobit h5)) ⟨callB_of 2 hg (gw_good m_572) rfl rfl rfl (hg _ m_71) (hg _ m_569) hd_Mo_change ⟨Nat.le_of_ble_eq_true rfl, Nat.le_of_ble_eq_true rfl⟩, hg _ m_571, hg _ m_35⟩ (pw_V hK hN hT hA hP hD hS [0, 1, 2, 3, 4, 5, 6, 7] rfl (by decide) (q0 := 0) (ci := 5) rfl rfl) rfl rfl hl.1 rfl (lv_room (Nat.le_of_ble_eq_true rfl)) d_Mo_flip_13 ⟨Nat.le_of_ble_eq_true rfl, Nat.le_of_ble_eq_true rfl⟩) (fun H locs hP hD hS => ?_)
    have hP : va_P D classes (W_Mo cI cL b0 b1 b2 b3 b4 b5 b6 b7 ev wr ((f_Mo_change wg ma li part bit).1) ke ((f_Mo_change wg ma li part bit).2.1) ((f_Mo_change wg ma li part bit).2.2) ps pn cy ca va cn pp px go ne gi gn) H := hP
    have hD : va_D A (W_Mo cI cL b0 b1 b2 b3 b4 b5 b6 b7 ev wr ((f_Mo_change wg ma li part bit).1) ke ((f_Mo_change wg ma li part bit).2.1) ((f_Mo_change wg ma li part bit).2.2) ps pn cy ca va cn pp px go ne gi gn) := hD
    generalize e_t1 : f_Mo_change wg ma li part bit = t1 at hP hD ⊢
    obtain ⟨t1_0, t1_1, t1_2⟩ := t1
    have hP : va_P D classes (W_Mo cI cL b0 b1 b2 b3 b4 b5 b6 b7 ev wr t1_0 ke t1_1 t1_2 ps pn cy ca va cn pp px go ne gi gn) H := hP
    have hD : va_D A (W_Mo cI cL b0 b1 b2 b3 b4 b5 b6 b7 ev wr t1_0 ke t1_1 t1_2 ps pn cy ca va cn pp px go ne gi gn) := hD
    refine lv_iconst (v := 1) hx hb d_Mo_flip_16 (by decide) ?_
    rw [f_Mo_flip_e0 wg ma li part bit (t1_0, t1_1, t1_2) e_t1 h5]
    exact W.zret hx hb hr rfl (fun t ht hW => ⟨⟨_, (), rfl, rfl, by show va_P D classes _ t.heap; rw [ht]; exact hP⟩, hS.F ht⟩) hS.2.2 d_Mo_flip_17 hlocks
  · refine lv_iconst (v := 0) hx hb d_Mo_flip_8 (by decide) ?_
    rw [f_Mo_flip_e1 wg ma li part bit h5]
    exact W.zret hx hb hr rfl (fun t ht hW => ⟨⟨_, (), rfl, rfl, by show va_P D classes _ t.heap; rw [ht]; exact hP⟩, hS.F ht⟩) hS.2.2 d_Mo_flip_9 hlocks
abbrev q_Mo_plan (D : va_G) (cI cL : ClassId) (b0 b1 b2 b3 b4 b5 b6 b7 : Nat) (A : Nat → Prop) (ev : Int32) (wr : Nat → Int32) (wg : Nat → Int64) (ke : Nat → Int32) (ma : Nat → Int32) (li : Nat → Int64) (ps : Int32) (pn : Nat → Int32) (cy : Int32) (ca : Int32) (va : Int32) (cn : Nat → Int32) (pp : Int32) (px : Int32) (go : Int32) (ne : Int32) (gi : Int32) (gn : Int32) (F : Int32 × Int32 × (Nat → Int32)) : Array Value → State → Outcome → State → Prop := va_Qi (fun r (_ : Unit) => r = F.1) (fun _ t => va_P D classes (W_Mo cI cL b0 b1 b2 b3 b4 b5 b6 b7 ev wr wg ke ma li F.2.1 F.2.2 cy ca va cn pp px go ne gi gn) t.heap) A
theorem f_Mo_plan_e0 (ps : Int32) (pn : Nat → Int32) (cy : Int32) (n_ : Int32) (part : Int32) (bit : Int32)  (h2 : n_ < (1 : Int32)) : f_Mo_plan ps pn cy n_ part bit = ((0 : Int32), ps, pn) := by
  exact (if_pos h2)
theorem f_Mo_plan_e1 (ps : Int32) (pn : Nat → Int32) (cy : Int32) (n_ : Int32) (part : Int32) (bit : Int32)  (h2 : ¬ n_ < (1 : Int32)) (h9 : (1000 : Int32) < n_) : f_Mo_plan ps pn cy n_ part bit = ((0 : Int32), ps, pn) := by
  exact ((if_neg h2).trans (if_pos h9))
theorem f_Mo_plan_e2 (ps : Int32) (pn : Nat → Int32) (cy : Int32) (n_ : Int32) (part : Int32) (bit : Int32)  (h2 : ¬ n_ < (1 : Int32)) (h9 : ¬ (1000 : Int32) < n_) (h17 : ¬ (f_Mo_noBit part bit) = 0) : f_Mo_plan ps pn cy n_ part bit = ((0 : Int32), ps, pn) := by
  exact ((if_neg h2).trans ((if_neg h9).trans (if_neg h17)))
theorem f_Mo_plan_e3 (ps : Int32) (pn : Nat → Int32) (cy : Int32) (n_ : Int32) (part : Int32) (bit : Int32)  (h2 : ¬ n_ < (1 : Int32)) (h9 : ¬ (1000 : Int32) < n_) (h17 : (f_Mo_noBit part bit) = 0) (h26 : ¬ ps = (16 : Int32)) : f_Mo_plan ps pn cy n_ part bit = ((1 : Int32), (ps + (1 : Int32)), (upd (upd (upd pn ((3 : Int32) * ps).toNatClampNeg (cy + n_)) (((3 : Int32) * ps) + (1 : Int32)).toNatClampNeg part) (((3 : Int32) * ps) + (2 : Int32)).toNatClampNeg bit)) := by
  exact ((if_neg h2).trans ((if_neg h9).trans ((if_pos h17).trans (if_neg h26))))
theorem f_Mo_plan_e4 (ps : Int32) (pn : Nat → Int32) (cy : Int32) (n_ : Int32) (part : Int32) (bit : Int32)  (h2 : ¬ n_ < (1 : Int32)) (h9 : ¬ (1000 : Int32) < n_) (h17 : (f_Mo_noBit part bit) = 0) (h26 : ps = (16 : Int32)) : f_Mo_plan ps pn cy n_ part bit = ((0 : Int32), ps, pn) := by
  exact ((if_neg h2).trans ((if_neg h9).trans ((if_pos h17).trans (if_pos h26))))
set_option maxHeartbeats 4000000 in
set_option maxRecDepth 100000 in
theorem c_Mo_plan (l : Launch) (D : va_G) (cI cL : ClassId) (b0 b1 b2 b3 b4 b5 b6 b7 : Nat) (sz : Nat) (ev : Int32) (wr : Nat → Int32) (wg : Nat → Int64) (ke : Nat → Int32) (ma : Nat → Int32) (li : Nat → Int64) (ps : Int32) (pn : Nat → Int32) (cy : Int32) (ca : Int32) (va : Int32) (cn : Nat → Int32) (pp : Int32) (px : Int32) (go : Int32) (ne : Int32) (gi : Int32) (gn : Int32) (n_ : Int32) (part : Int32) (bit : Int32) (h_ps : vp_in ps 17) : Met l y_Mo_plan w_Mo_plan ({ frames := 2, cells := 0, slots := 0, locals := 42 }) (va_Pc [.ref b0, .int n_, .int part, .int bit] (PW D cI cL (W_Mo cI cL b0 b1 b2 b3 b4 b5 b6 b7 ev wr wg ke ma li ps pn cy ca va cn pp px go ne gi gn) sz)) (q_Mo_plan D cI cL b0 b1 b2 b3 b4 b5 b6 b7 (va_A (W_Mo cI cL b0 b1 b2 b3 b4 b5 b6 b7 ev wr wg ke ma li ps pn cy ca va cn pp px go ne gi gn) sz) ev wr wg ke ma li ps pn cy ca va cn pp px go ne gi gn (f_Mo_plan ps pn cy n_ part bit)) 0 0 (va_A (W_Mo cI cL b0 b1 b2 b3 b4 b5 b6 b7 ev wr wg ke ma li ps pn cy ca va cn pp px go ne gi gn) sz) := by
  refine mk_met (Qf := fun A => q_Mo_plan D cI cL b0 b1 b2 b3 b4 b5 b6 b7 A ev wr wg ke ma li ps pn cy ca va cn pp px go ne gi gn (f_Mo_plan ps pn cy n_ part bit)) (by decide) (Nat.le_of_ble_eq_true rfl) ?_
  intro p e s m below meth c A ls hx hb hr hlocks hml hown hg hK hN hT hA hP hD hS hnm hl
  refine lv_iload_n hx hb d_Mo_plan_0 rfl (lv_at hl 1 rfl) ?_
  refine lv_iconst (v := 1) hx hb d_Mo_plan_1 (by decide) ?_
  refine lv_icmp_lt (tgt := 29) hx hb d_Mo_plan_2 (by decide) (fun h2 => ?_) (fun h2 => ?_)
  · refine lv_iconst (v := 0) hx hb d_Mo_plan_29 (by decide) ?_
    rw [f_Mo_plan_e0 ps pn cy n_ part bit h2]
    exact W.zret hx hb hr rfl (fun t ht hW => ⟨⟨_, (), rfl, rfl, by show va_P D classes _ t.heap; rw [ht]; exact hP⟩, hS.F ht⟩) hS.2.2 d_Mo_plan_30 hlocks
  · refine lv_iload_n hx hb d_Mo_plan_5 rfl (lv_at hl 1 rfl) ?_
    refine lv_sipush (v := 1000) hx hb d_Mo_plan_6 (by decide) ?_
    refine lv_icmp_gt (tgt := 29) hx hb d_Mo_plan_9 (by decide) (fun h9 => ?_) (fun h9 => ?_)
    · refine lv_iconst (v := 0) hx hb d_Mo_plan_29 (by decide) ?_
      rw [f_Mo_plan_e1 ps pn cy n_ part bit h2 h9]
      exact W.zret hx hb hr rfl (fun t ht hW => ⟨⟨_, (), rfl, rfl, by show va_P D classes _ t.heap; rw [ht]; exact hP⟩, hS.F ht⟩) hS.2.2 d_Mo_plan_30 hlocks
    · refine lv_iload_n hx hb d_Mo_plan_12 rfl (lv_at hl 2 rfl) ?_
      refine lv_iload_n hx hb d_Mo_plan_13 rfl (lv_at hl 3 rfl) ?_
      refine cj_i (wc := []) (w1 := []) hP hD hS hA [] rfl [] rfl rfl (va_runS (rest := []) ⟨hx, hb, hml, hown, hg⟩ (c_Mo_noBit l D cI cL  _ part bit) ⟨callB_of 2 hg (gw_good m_733) rfl rfl rfl (hg _ m_71) (hg _ m_731) hd_Mo_noBit ⟨Nat.le_of_ble_eq_true rfl, Nat.le_of_ble_eq_true rfl⟩, hg _ m_732⟩ (pw_S hK hN hT hA hP hD hS [] rfl (by decide)) rfl rfl hl.1 rfl (lv_room (Nat.le_of_ble_eq_true rfl)) d_Mo_plan_14 ⟨Nat.le_of_ble_eq_true rfl, Nat.le_of_ble_eq_true rfl⟩) (fun H locs hP hD hS => ?_)
      have hP : va_P D classes (W_Mo cI cL b0 b1 b2 b3 b4 b5 b6 b7 ev wr wg ke ma li ps pn cy ca va cn pp px go ne gi gn) H := hP
      have hD : va_D A (W_Mo cI cL b0 b1 b2 b3 b4 b5 b6 b7 ev wr wg ke ma li ps pn cy ca va cn pp px go ne gi gn) := hD
      refine lv_if_ne (tgt := 29) hx hb d_Mo_plan_17 (by decide) (fun h17 => ?_) (fun h17 => ?_)
      · refine lv_iconst (v := 0) hx hb d_Mo_plan_29 (by decide) ?_
        rw [f_Mo_plan_e2 ps pn cy n_ part bit h2 h9 h17]
        exact W.zret hx hb hr rfl (fun t ht hW => ⟨⟨_, (), rfl, rfl, by show va_P D classes _ t.heap; rw [ht]; exact hP⟩, hS.F ht⟩) hS.2.2 d_Mo_plan_30 hlocks
      · refine lv_aload_n hx hb d_Mo_plan_20 rfl (lv_at hl 0 rfl) ?_
        refine va_get (ci := 5) (C := R_Mo) (T := F_Mo) (N := 18) hx hb hg in_Mo hown hK hP 0 rfl rfl 6 (by decide) (hg _ m_509) (fun _ h => h) rfl d_Mo_plan_21 ?_
        refine lv_bipush (v := 16) hx hb d_Mo_plan_24 (by decide) ?_
        refine lv_icmp_ne (tgt := 31) hx hb d_Mo_plan_26 (by decide) (fun h26 => ?_) (fun h26 => ?_)
        · refine lv_aload_n hx hb d_Mo_plan_31 rfl (lv_at hl 0 rfl) ?_
          refine va_get (ci := 5) (C := R_Mo) (T := F_Mo) (N := 18) hx hb hg in_Mo hown hK hP 0 rfl rfl 7 (by decide) (hg _ m_510) (fun _ h => h) rfl d_Mo_plan_32 ?_
          refine lv_iconst (v := 3) hx hb d_Mo_plan_35 (by decide) ?_
          refine lv_aload_n hx hb d_Mo_plan_36 rfl (lv_at hl 0 rfl) ?_
          refine va_get (ci := 5) (C := R_Mo) (T := F_Mo) (N := 18) hx hb hg in_Mo hown hK hP 0 rfl rfl 6 (by decide) (hg _ m_509) (fun _ h => h) rfl d_Mo_plan_37 ?_
          refine lv_imul hx hb d_Mo_plan_40 ?_
          refine lv_aload_n hx hb d_Mo_plan_41 rfl (lv_at hl 0 rfl) ?_
          refine va_get (ci := 5) (C := R_Mo) (T := F_Mo) (N := 18) hx hb hg in_Mo hown hK hP 0 rfl rfl 8 (by decide) (hg _ m_511) (fun _ h => h) rfl d_Mo_plan_42 ?_
          refine lv_iload_n hx hb d_Mo_plan_45 rfl (lv_at hl 1 rfl) ?_
          refine lv_iadd hx hb d_Mo_plan_46 ?_
          refine va_iast hx hb hK hP hD hS 6 0 rfl rfl (q3_0 h_ps h26) d_Mo_plan_47 (fun H locs hP hD hS => ?_)
          have hP : va_P D classes (W_Mo cI cL b0 b1 b2 b3 b4 b5 b6 b7 ev wr wg ke ma li ps (upd pn ((3 : Int32) * ps).toNatClampNeg (cy + n_)) cy ca va cn pp px go ne gi gn) H := hP
          have hD : va_D A (W_Mo cI cL b0 b1 b2 b3 b4 b5 b6 b7 ev wr wg ke ma li ps (upd pn ((3 : Int32) * ps).toNatClampNeg (cy + n_)) cy ca va cn pp px go ne gi gn) := hD
          refine lv_aload_n hx hb d_Mo_plan_48 rfl (lv_at hl 0 rfl) ?_
          refine va_get (ci := 5) (C := R_Mo) (T := F_Mo) (N := 18) hx hb hg in_Mo hown hK hP 0 rfl rfl 7 (by decide) (hg _ m_510) (fun _ h => h) rfl d_Mo_plan_49 ?_
          refine lv_iconst (v := 3) hx hb d_Mo_plan_52 (by decide) ?_
          refine lv_aload_n hx hb d_Mo_plan_53 rfl (lv_at hl 0 rfl) ?_
          refine va_get (ci := 5) (C := R_Mo) (T := F_Mo) (N := 18) hx hb hg in_Mo hown hK hP 0 rfl rfl 6 (by decide) (hg _ m_509) (fun _ h => h) rfl d_Mo_plan_54 ?_
          refine lv_imul hx hb d_Mo_plan_57 ?_
          refine lv_iconst (v := 1) hx hb d_Mo_plan_58 (by decide) ?_
          refine lv_iadd hx hb d_Mo_plan_59 ?_
          refine lv_iload_n hx hb d_Mo_plan_60 rfl (lv_at hl 2 rfl) ?_
          refine va_iast hx hb hK hP hD hS 6 0 rfl rfl (q3_1 h_ps h26) d_Mo_plan_61 (fun H locs hP hD hS => ?_)
          have hP : va_P D classes (W_Mo cI cL b0 b1 b2 b3 b4 b5 b6 b7 ev wr wg ke ma li ps (upd (upd pn ((3 : Int32) * ps).toNatClampNeg (cy + n_)) (((3 : Int32) * ps) + (1 : Int32)).toNatClampNeg part) cy ca va cn pp px go ne gi gn) H := hP
          have hD : va_D A (W_Mo cI cL b0 b1 b2 b3 b4 b5 b6 b7 ev wr wg ke ma li ps (upd (upd pn ((3 : Int32) * ps).toNatClampNeg (cy + n_)) (((3 : Int32) * ps) + (1 : Int32)).toNatClampNeg part) cy ca va cn pp px go ne gi gn) := hD
          refine lv_aload_n hx hb d_Mo_plan_62 rfl (lv_at hl 0 rfl) ?_
          refine va_get (ci := 5) (C := R_Mo) (T := F_Mo) (N := 18) hx hb hg in_Mo hown hK hP 0 rfl rfl 7 (by decide) (hg _ m_510) (fun _ h => h) rfl d_Mo_plan_63 ?_
          refine lv_iconst (v := 3) hx hb d_Mo_plan_66 (by decide) ?_
          refine lv_aload_n hx hb d_Mo_plan_67 rfl (lv_at hl 0 rfl) ?_
          refine va_get (ci := 5) (C := R_Mo) (T := F_Mo) (N := 18) hx hb hg in_Mo hown hK hP 0 rfl rfl 6 (by decide) (hg _ m_509) (fun _ h => h) rfl d_Mo_plan_68 ?_
          refine lv_imul hx hb d_Mo_plan_71 ?_
          refine lv_iconst (v := 2) hx hb d_Mo_plan_72 (by decide) ?_
          refine lv_iadd hx hb d_Mo_plan_73 ?_
          refine lv_iload_n hx hb d_Mo_plan_74 rfl (lv_at hl 3 rfl) ?_
          refine va_iast hx hb hK hP hD hS 6 0 rfl rfl (q3_2 h_ps h26) d_Mo_plan_75 (fun H locs hP hD hS => ?_)
          have hP : va_P D classes (W_Mo cI cL b0 b1 b2 b3 b4 b5 b6 b7 ev wr wg ke ma li ps (upd (upd (upd pn ((3 : Int32) * ps).toNatClampNeg (cy + n_)) (((3 : Int32) * ps) + (1 : Int32)).toNatClampNeg part) (((3 : Int32) * ps) + (2 : Int32)).toNatClampNeg bit) cy ca va cn pp px go ne gi gn) H := hP
          have hD : va_D A (W_Mo cI cL b0 b1 b2 b3 b4 b5 b6 b7 ev wr wg ke ma li ps (upd (upd (upd pn ((3 : Int32) * ps).toNatClampNeg (cy + n_)) (((3 : Int32) * ps) + (1 : Int32)).toNatClampNeg part) (((3 : Int32) * ps) + (2 : Int32)).toNatClampNeg bit) cy ca va cn pp px go ne gi gn) := hD
          refine lv_aload_n hx hb d_Mo_plan_76 rfl (lv_at hl 0 rfl) ?_
          refine lv_dup hx hb d_Mo_plan_77 rfl ?_
          refine va_get (ci := 5) (C := R_Mo) (T := F_Mo) (N := 18) hx hb hg in_Mo hown hK hP 0 rfl rfl 6 (by decide) (hg _ m_509) (fun _ h => h) rfl d_Mo_plan_78 ?_
          refine lv_iconst (v := 1) hx hb d_Mo_plan_81 (by decide) ?_
          refine lv_iadd hx hb d_Mo_plan_82 ?_
          refine va_put (ci := 5) (ty := .int) (C := R_Mo) (T := F_Mo) (N := 18) hx hb hg in_Mo t_Mo t_Mo_ok n_Mo hown hK hP hD hS 0 rfl rfl 6 (by decide) (hg _ m_509) (fun _ h => h) rfl (by decide +kernel) rfl rfl (Nat.le_of_ble_eq_true rfl) d_Mo_plan_83 (fun H locs hP hD hS => ?_)
          have hP : va_P D classes (W_Mo cI cL b0 b1 b2 b3 b4 b5 b6 b7 ev wr wg ke ma li (ps + (1 : Int32)) (upd (upd (upd pn ((3 : Int32) * ps).toNatClampNeg (cy + n_)) (((3 : Int32) * ps) + (1 : Int32)).toNatClampNeg part) (((3 : Int32) * ps) + (2 : Int32)).toNatClampNeg bit) cy ca va cn pp px go ne gi gn) H := hP
          have hD : va_D A (W_Mo cI cL b0 b1 b2 b3 b4 b5 b6 b7 ev wr wg ke ma li (ps + (1 : Int32)) (upd (upd (upd pn ((3 : Int32) * ps).toNatClampNeg (cy + n_)) (((3 : Int32) * ps) + (1 : Int32)).toNatClampNeg part) (((3 : Int32) * ps) + (2 : Int32)).toNatClampNeg bit) cy ca va cn pp px go ne gi gn) := hD
          refine lv_iconst (v := 1) hx hb d_Mo_plan_86 (by decide) ?_
          rw [f_Mo_plan_e3 ps pn cy n_ part bit h2 h9 h17 h26]
          exact W.zret hx hb hr rfl (fun t ht hW => ⟨⟨_, (), rfl, rfl, by show va_P D classes _ t.heap; rw [ht]; exact hP⟩, hS.F ht⟩) hS.2.2 d_Mo_plan_87 hlocks
        · refine lv_iconst (v := 0) hx hb d_Mo_plan_29 (by decide) ?_
          rw [f_Mo_plan_e4 ps pn cy n_ part bit h2 h9 h17 h26]
          exact W.zret hx hb hr rfl (fun t ht hW => ⟨⟨_, (), rfl, rfl, by show va_P D classes _ t.heap; rw [ht]; exact hP⟩, hS.F ht⟩) hS.2.2 d_Mo_plan_30 hlocks
abbrev q_Mo_planned (D : va_G) (cI cL : ClassId) (b0 b1 b2 b3 b4 b5 b6 b7 : Nat) (A : Nat → Prop) (ev : Int32) (wr : Nat → Int32) (wg : Nat → Int64) (ke : Nat → Int32) (ma : Nat → Int32) (li : Nat → Int64) (ps : Int32) (pn : Nat → Int32) (cy : Int32) (ca : Int32) (va : Int32) (cn : Nat → Int32) (pp : Int32) (px : Int32) (go : Int32) (ne : Int32) (gi : Int32) (gn : Int32) (F : Int32) : Array Value → State → Outcome → State → Prop := va_Qi (fun r (_ : Unit) => r = F) (fun _ t => va_P D classes (W_Mo cI cL b0 b1 b2 b3 b4 b5 b6 b7 ev wr wg ke ma li ps pn cy ca va cn pp px go ne gi gn) t.heap) A
set_option maxHeartbeats 4000000 in
set_option maxRecDepth 100000 in
theorem c_Mo_planned (l : Launch) (D : va_G) (cI cL : ClassId) (b0 b1 b2 b3 b4 b5 b6 b7 : Nat) (sz : Nat) (ev : Int32) (wr : Nat → Int32) (wg : Nat → Int64) (ke : Nat → Int32) (ma : Nat → Int32) (li : Nat → Int64) (ps : Int32) (pn : Nat → Int32) (cy : Int32) (ca : Int32) (va : Int32) (cn : Nat → Int32) (pp : Int32) (px : Int32) (go : Int32) (ne : Int32) (gi : Int32) (gn : Int32)   : Met l y_Mo_planned w_Mo_planned ({ frames := 0, cells := 0, slots := 0, locals := 0 }) (va_Pc [.ref b0] (PW D cI cL (W_Mo cI cL b0 b1 b2 b3 b4 b5 b6 b7 ev wr wg ke ma li ps pn cy ca va cn pp px go ne gi gn) sz)) (q_Mo_planned D cI cL b0 b1 b2 b3 b4 b5 b6 b7 (va_A (W_Mo cI cL b0 b1 b2 b3 b4 b5 b6 b7 ev wr wg ke ma li ps pn cy ca va cn pp px go ne gi gn) sz) ev wr wg ke ma li ps pn cy ca va cn pp px go ne gi gn (f_Mo_planned ps)) 0 0 (va_A (W_Mo cI cL b0 b1 b2 b3 b4 b5 b6 b7 ev wr wg ke ma li ps pn cy ca va cn pp px go ne gi gn) sz) := by
  refine mk_met (Qf := fun A => q_Mo_planned D cI cL b0 b1 b2 b3 b4 b5 b6 b7 A ev wr wg ke ma li ps pn cy ca va cn pp px go ne gi gn (f_Mo_planned ps)) (by decide) (Nat.le_of_ble_eq_true rfl) ?_
  intro p e s m below meth c A ls hx hb hr hlocks hml hown hg hK hN hT hA hP hD hS hnm hl
  refine lv_aload_n hx hb d_Mo_planned_0 rfl (lv_at hl 0 rfl) ?_
  refine va_get (ci := 5) (C := R_Mo) (T := F_Mo) (N := 18) hx hb hg in_Mo hown hK hP 0 rfl rfl 6 (by decide) (hg _ m_509) (fun _ h => h) rfl d_Mo_planned_1 ?_
  exact W.iret hx hb hr (fun t ht hW => ⟨⟨_, (), rfl, rfl, by show va_P D classes _ t.heap; rw [ht]; exact hP⟩, hS.F ht⟩) hS.2.2 d_Mo_planned_4 hlocks
abbrev q_Mo_register (D : va_G) (cI cL : ClassId) (b0 b1 b2 b3 b4 b5 b6 b7 : Nat) (A : Nat → Prop) (ev : Int32) (wr : Nat → Int32) (wg : Nat → Int64) (ke : Nat → Int32) (ma : Nat → Int32) (li : Nat → Int64) (ps : Int32) (pn : Nat → Int32) (cy : Int32) (ca : Int32) (va : Int32) (cn : Nat → Int32) (pp : Int32) (px : Int32) (go : Int32) (ne : Int32) (gi : Int32) (gn : Int32) (F : Int32) : Array Value → State → Outcome → State → Prop := va_Qi (fun r (_ : Unit) => r = F) (fun _ t => va_P D classes (W_Mo cI cL b0 b1 b2 b3 b4 b5 b6 b7 ev wr wg ke ma li ps pn cy ca va cn pp px go ne gi gn) t.heap) A
theorem f_Mo_register_e0 (ke : Nat → Int32) (ma : Nat → Int32) (w : Int32)  (h6 : (f_Mo_outside w (31 : Int32)) = 0) : f_Mo_register ke ma w = ((f_Mo_valueOf ke ma w)) := by
  exact (if_pos h6)
theorem f_Mo_register_e1 (ke : Nat → Int32) (ma : Nat → Int32) (w : Int32)  (h6 : ¬ (f_Mo_outside w (31 : Int32)) = 0) : f_Mo_register ke ma w = ((0 : Int32)) := by
  exact (if_neg h6)
set_option maxHeartbeats 4000000 in
set_option maxRecDepth 100000 in
theorem c_Mo_register (l : Launch) (D : va_G) (cI cL : ClassId) (b0 b1 b2 b3 b4 b5 b6 b7 : Nat) (sz : Nat) (ev : Int32) (wr : Nat → Int32) (wg : Nat → Int64) (ke : Nat → Int32) (ma : Nat → Int32) (li : Nat → Int64) (ps : Int32) (pn : Nat → Int32) (cy : Int32) (ca : Int32) (va : Int32) (cn : Nat → Int32) (pp : Int32) (px : Int32) (go : Int32) (ne : Int32) (gi : Int32) (gn : Int32) (w : Int32)  : Met l y_Mo_register w_Mo_register ({ frames := 2, cells := 0, slots := 0, locals := 43 }) (va_Pc [.ref b0, .int w] (PW D cI cL (W_Mo cI cL b0 b1 b2 b3 b4 b5 b6 b7 ev wr wg ke ma li ps pn cy ca va cn pp px go ne gi gn) sz)) (q_Mo_register D cI cL b0 b1 b2 b3 b4 b5 b6 b7 (va_A (W_Mo cI cL b0 b1 b2 b3 b4 b5 b6 b7 ev wr wg ke ma li ps pn cy ca va cn pp px go ne gi gn) sz) ev wr wg ke ma li ps pn cy ca va cn pp px go ne gi gn (f_Mo_register ke ma w)) 0 0 (va_A (W_Mo cI cL b0 b1 b2 b3 b4 b5 b6 b7 ev wr wg ke ma li ps pn cy ca va cn pp px go ne gi gn) sz) := by
  refine mk_met (Qf := fun A => q_Mo_register D cI cL b0 b1 b2 b3 b4 b5 b6 b7 A ev wr wg ke ma li ps pn cy ca va cn pp px go ne gi gn (f_Mo_register ke ma w)) (by decide) (Nat.le_of_ble_eq_true rfl) ?_
  intro p e s m below meth c A ls hx hb hr hlocks hml hown hg hK hN hT hA hP hD hS hnm hl
  refine lv_iload_n hx hb d_Mo_register_0 rfl (lv_at hl 1 rfl) ?_
  refine lv_bipush (v := 31) hx hb d_Mo_register_1 (by decide) ?_
  refine cj_i (wc := []) (w1 := []) hP hD hS hA [] rfl [] rfl rfl (va_runS (rest := []) ⟨hx, hb, hml, hown, hg⟩ (c_Mo_outside l D cI cL  _ w (31 : Int32)) ⟨callB_of 2 hg (gw_good m_564) rfl rfl rfl (hg _ m_71) (hg _ m_562) hd_Mo_outside ⟨Nat.le_of_ble_eq_true rfl, Nat.le_of_ble_eq_true rfl⟩, hg _ m_563⟩ (pw_S hK hN hT hA hP hD hS [] rfl (by decide)) rfl rfl hl.1 rfl (lv_room (Nat.le_of_ble_eq_true rfl)) d_Mo_register_3 ⟨Nat.le_of_ble_eq_true rfl, Nat.le_of_ble_eq_true rfl⟩) (fun H locs hP hD hS => ?_)
  have hP : va_P D classes (W_Mo cI cL b0 b1 b2 b3 b4 b5 b6 b7 ev wr wg ke ma li ps pn cy ca va cn pp px go ne gi gn) H := hP
  have hD : va_D A (W_Mo cI cL b0 b1 b2 b3 b4 b5 b6 b7 ev wr wg ke ma li ps pn cy ca va cn pp px go ne gi gn) := hD
  refine lv_if_eq (tgt := 13) hx hb d_Mo_register_6 (by decide) (fun h6 => ?_) (fun h6 => ?_)
  · refine lv_aload_n hx hb d_Mo_register_13 rfl (lv_at hl 0 rfl) ?_
    refine lv_iload_n hx hb d_Mo_register_14 rfl (lv_at hl 1 rfl) ?_
    refine cj_i (wc := (W_Mo cI cL b0 b1 b2 b3 b4 b5 b6 b7 ev wr wg ke ma li ps pn cy ca va cn pp px go ne gi gn)) (w1 := (W_Mo cI cL b0 b1 b2 b3 b4 b5 b6 b7 ev wr wg ke ma li ps pn cy ca va cn pp px go ne gi gn)) hP hD hS hA [0, 1, 2, 3, 4, 5, 6, 7] rfl [b0, b1, b2, b3, b4, b5, b6, b7] rfl rfl (va_runV (rest := []) ⟨hx, hb, hml, hown, hg⟩ (c_Mo_valueOf l D cI cL b0 b1 b2 b3 b4 b5 b6 b7 _ ev wr wg ke ma li ps pn cy ca va cn pp px go ne gi gn w (in_out (by decide) h6)) ⟨callB_of 1 hg (gw_good m_580) rfl rfl rfl (hg _ m_71) (hg _ m_577) hd_Mo_valueOf ⟨Nat.le_of_ble_eq_true rfl, Nat.le_of_ble_eq_true rfl⟩, hg _ m_579, hg _ m_37⟩ (pw_V hK hN hT hA hP hD hS [0, 1, 2, 3, 4, 5, 6, 7] rfl (by decide) (q0 := 0) (ci := 5) rfl rfl) rfl rfl hl.1 rfl (lv_room (Nat.le_of_ble_eq_true rfl)) d_Mo_register_15 ⟨Nat.le_of_ble_eq_true rfl, Nat.le_of_ble_eq_true rfl⟩) (fun H locs hP hD hS => ?_)
    have hP : va_P D classes (W_Mo cI cL b0 b1 b2 b3 b4 b5 b6 b7 ev wr wg ke ma li ps pn cy ca va cn pp px go ne gi gn) H := hP
    have hD : va_D A (W_Mo cI cL b0 b1 b2 b3 b4 b5 b6 b7 ev wr wg ke ma li ps pn cy ca va cn pp px go ne gi gn) := hD
    rw [f_Mo_register_e0 ke ma w h6]
    exact W.iret hx hb hr (fun t ht hW => ⟨⟨_, (), rfl, rfl, by show va_P D classes _ t.heap; rw [ht]; exact hP⟩, hS.F ht⟩) hS.2.2 d_Mo_register_18 hlocks
  · refine lv_iconst (v := 0) hx hb d_Mo_register_9 (by decide) ?_
    refine lv_goto (tgt := 18) hx hb d_Mo_register_10 (by decide) ?_
    rw [f_Mo_register_e1 ke ma w h6]
    exact W.iret hx hb hr (fun t ht hW => ⟨⟨_, (), rfl, rfl, by show va_P D classes _ t.heap; rw [ht]; exact hP⟩, hS.F ht⟩) hS.2.2 d_Mo_register_18 hlocks
abbrev q_Mo_look (D : va_G) (cI cL : ClassId) (b0 b1 b2 b3 b4 b5 b6 b7 : Nat) (A : Nat → Prop) (ev : Int32) (wr : Nat → Int32) (wg : Nat → Int64) (ke : Nat → Int32) (ma : Nat → Int32) (li : Nat → Int64) (ps : Int32) (pn : Nat → Int32) (cy : Int32) (ca : Int32) (va : Int32) (cn : Nat → Int32) (pp : Int32) (px : Int32) (go : Int32) (ne : Int32) (gi : Int32) (gn : Int32) (F : Int64) : Array Value → State → Outcome → State → Prop := va_Ql (fun r (_ : Unit) => r = F) (fun _ t => va_P D classes (W_Mo cI cL b0 b1 b2 b3 b4 b5 b6 b7 ev wr wg ke ma li ps pn cy ca va cn pp px go ne gi gn) t.heap) A
theorem f_Mo_look_e0 (wr : Nat → Int32) (wg : Nat → Int64) (w : Int32)  (h6 : (f_Mo_outside w (63 : Int32)) = 0) (h24 : (f_Mo_wrongBit (wg w.toNatClampNeg)) < 0) (h50 : ¬ (f_Mo_wrongBit (wg w.toNatClampNeg)) = (-2 : Int32)) : f_Mo_look wr wg w = (((((wr w.toNatClampNeg) ^^^ (f_Mo_dataOf (wg w.toNatClampNeg))).toInt64) &&& (4294967295 : Int64))) := by
  exact ((if_pos h6).trans ((if_pos h24).trans (if_neg h50)))
theorem f_Mo_look_e1 (wr : Nat → Int32) (wg : Nat → Int64) (w : Int32)  (h6 : (f_Mo_outside w (63 : Int32)) = 0) (h24 : (f_Mo_wrongBit (wg w.toNatClampNeg)) < 0) (h50 : (f_Mo_wrongBit (wg w.toNatClampNeg)) = (-2 : Int32)) : f_Mo_look wr wg w = ((-2 : Int64)) := by
  exact ((if_pos h6).trans ((if_pos h24).trans (if_pos h50)))
theorem f_Mo_look_e2 (wr : Nat → Int32) (wg : Nat → Int64) (w : Int32)  (h6 : (f_Mo_outside w (63 : Int32)) = 0) (h24 : ¬ (f_Mo_wrongBit (wg w.toNatClampNeg)) < 0) (h50 : ¬ (f_Mo_wrongBit (wg w.toNatClampNeg)) = (-2 : Int32)) : f_Mo_look wr wg w = (((((wr w.toNatClampNeg) ^^^ (f_Mo_dataOf ((wg w.toNatClampNeg) ^^^ (u_lshl (1 : Int64) (f_Mo_wrongBit (wg w.toNatClampNeg)))))).toInt64) &&& (4294967295 : Int64))) := by
  exact ((if_pos h6).trans ((if_neg h24).trans (if_neg h50)))
theorem f_Mo_look_e3 (wr : Nat → Int32) (wg : Nat → Int64) (w : Int32)  (h6 : (f_Mo_outside w (63 : Int32)) = 0) (h24 : ¬ (f_Mo_wrongBit (wg w.toNatClampNeg)) < 0) (h50 : (f_Mo_wrongBit (wg w.toNatClampNeg)) = (-2 : Int32)) : f_Mo_look wr wg w = ((-2 : Int64)) := by
  exact ((if_pos h6).trans ((if_neg h24).trans (if_pos h50)))
theorem f_Mo_look_e4 (wr : Nat → Int32) (wg : Nat → Int64) (w : Int32)  (h6 : ¬ (f_Mo_outside w (63 : Int32)) = 0) : f_Mo_look wr wg w = ((-1 : Int64)) := by
  exact (if_neg h6)
set_option maxHeartbeats 4000000 in
set_option maxRecDepth 100000 in
theorem c_Mo_look (l : Launch) (D : va_G) (cI cL : ClassId) (b0 b1 b2 b3 b4 b5 b6 b7 : Nat) (sz : Nat) (ev : Int32) (wr : Nat → Int32) (wg : Nat → Int64) (ke : Nat → Int32) (ma : Nat → Int32) (li : Nat → Int64) (ps : Int32) (pn : Nat → Int32) (cy : Int32) (ca : Int32) (va : Int32) (cn : Nat → Int32) (pp : Int32) (px : Int32) (go : Int32) (ne : Int32) (gi : Int32) (gn : Int32) (w : Int32)  : Met l y_Mo_look w_Mo_look ({ frames := 2, cells := 0, slots := 0, locals := 45 }) (va_Pc [.ref b0, .int w] (PW D cI cL (W_Mo cI cL b0 b1 b2 b3 b4 b5 b6 b7 ev wr wg ke ma li ps pn cy ca va cn pp px go ne gi gn) sz)) (q_Mo_look D cI cL b0 b1 b2 b3 b4 b5 b6 b7 (va_A (W_Mo cI cL b0 b1 b2 b3 b4 b5 b6 b7 ev wr wg ke ma li ps pn cy ca va cn pp px go ne gi gn) sz) ev wr wg ke ma li ps pn cy ca va cn pp px go ne gi gn (f_Mo_look wr wg w)) 0 0 (va_A (W_Mo cI cL b0 b1 b2 b3 b4 b5 b6 b7 ev wr wg ke ma li ps pn cy ca va cn pp px go ne gi gn) sz) := by
  refine mk_met (Qf := fun A => q_Mo_look D cI cL b0 b1 b2 b3 b4 b5 b6 b7 A ev wr wg ke ma li ps pn cy ca va cn pp px go ne gi gn (f_Mo_look wr wg w)) (by decide) (Nat.le_of_ble_eq_true rfl) ?_
  intro p e s m below meth c A ls hx hb hr hlocks hml hown hg hK hN hT hA hP hD hS hnm hl
  refine lv_iload_n hx hb d_Mo_look_0 rfl (lv_at hl 1 rfl) ?_
  refine lv_bipush (v := 63) hx hb d_Mo_look_1 (by decide) ?_
  refine cj_i (wc := []) (w1 := []) hP hD hS hA [] rfl [] rfl rfl (va_runS (rest := []) ⟨hx, hb, hml, hown, hg⟩ (c_Mo_outside l D cI cL  _ w (63 : Int32)) ⟨callB_of 2 hg (gw_good m_564) rfl rfl rfl (hg _ m_71) (hg _ m_562) hd_Mo_outside ⟨Nat.le_of_ble_eq_true rfl, Nat.le_of_ble_eq_true rfl⟩, hg _ m_563⟩ (pw_S hK hN hT hA hP hD hS [] rfl (by decide)) rfl rfl hl.1 rfl (lv_room (Nat.le_of_ble_eq_true rfl)) d_Mo_look_3 ⟨Nat.le_of_ble_eq_true rfl, Nat.le_of_ble_eq_true rfl⟩) (fun H locs hP hD hS => ?_)
  have hP : va_P D classes (W_Mo cI cL b0 b1 b2 b3 b4 b5 b6 b7 ev wr wg ke ma li ps pn cy ca va cn pp px go ne gi gn) H := hP
  have hD : va_D A (W_Mo cI cL b0 b1 b2 b3 b4 b5 b6 b7 ev wr wg ke ma li ps pn cy ca va cn pp px go ne gi gn) := hD
  refine lv_if_eq (tgt := 13) hx hb d_Mo_look_6 (by decide) (fun h6 => ?_) (fun h6 => ?_)
  · refine lv_aload_n hx hb d_Mo_look_13 rfl (lv_at hl 0 rfl) ?_
    refine va_get (ci := 5) (C := R_Mo) (T := F_Mo) (N := 18) hx hb hg in_Mo hown hK hP 0 rfl rfl 2 (by decide) (hg _ m_505) (fun _ h => h) rfl d_Mo_look_14 ?_
    refine lv_iload_n hx hb d_Mo_look_17 rfl (lv_at hl 1 rfl) ?_
    refine va_lald hx hb hK hP 2 1 rfl rfl (in_out (by decide) h6) d_Mo_look_18 ?_
    refine cj_i (wc := []) (w1 := []) hP hD hS hA [] rfl [] rfl rfl (va_runS (rest := []) ⟨hx, hb, hml, hown, hg⟩ (c_Mo_wrongBit l D cI cL  _ (wg w.toNatClampNeg)) ⟨callB_of 1 hg (gw_good m_614) rfl rfl rfl (hg _ m_71) (hg _ m_612) hd_Mo_wrongBit ⟨Nat.le_of_ble_eq_true rfl, Nat.le_of_ble_eq_true rfl⟩, hg _ m_613⟩ (pw_S hK hN hT hA hP hD hS [] rfl (by decide)) rfl rfl hl.1 rfl (lv_room (Nat.le_of_ble_eq_true rfl)) d_Mo_look_19 ⟨Nat.le_of_ble_eq_true rfl, Nat.le_of_ble_eq_true rfl⟩) (fun H locs hP hD hS => ?_)
    have hP : va_P D classes (W_Mo cI cL b0 b1 b2 b3 b4 b5 b6 b7 ev wr wg ke ma li ps pn cy ca va cn pp px go ne gi gn) H := hP
    have hD : va_D A (W_Mo cI cL b0 b1 b2 b3 b4 b5 b6 b7 ev wr wg ke ma li ps pn cy ca va cn pp px go ne gi gn) := hD
    refine lv_istore_n (lv' := [(2, .int _), (0, .ref _), (1, .int _)]) hx hb d_Mo_look_22 rfl hl (by decide) rfl (fun ls hl => ?_)
    refine lv_iload_n hx hb d_Mo_look_23 rfl (lv_at hl 0 rfl) ?_
    refine lv_if_lt (tgt := 40) hx hb d_Mo_look_24 (by decide) (fun h24 => ?_) (fun h24 => ?_)
    · refine lv_aload_n hx hb d_Mo_look_40 rfl (lv_at hl 1 rfl) ?_
      refine va_get (ci := 5) (C := R_Mo) (T := F_Mo) (N := 18) hx hb hg in_Mo hown hK hP 0 rfl rfl 2 (by decide) (hg _ m_505) (fun _ h => h) rfl d_Mo_look_41 ?_
      refine lv_iload_n hx hb d_Mo_look_44 rfl (lv_at hl 2 rfl) ?_
      refine va_lald hx hb hK hP 2 1 rfl rfl (in_out (by decide) h6) d_Mo_look_45 ?_
      refine lv_lstore_n (lv' := [(3, .long _), (2, .int _), (0, .ref _), (1, .int _)]) hx hb d_Mo_look_46 rfl hl (by decide) rfl (fun ls hl => ?_)
      refine lv_iload_n hx hb d_Mo_look_47 rfl (lv_at hl 1 rfl) ?_
      refine lv_bipush (v := -2) hx hb d_Mo_look_48 (by decide) ?_
      refine lv_icmp_ne (tgt := 59) hx hb d_Mo_look_50 (by decide) (fun h50 => ?_) (fun h50 => ?_)
      · refine lv_aload_n hx hb d_Mo_look_59 rfl (lv_at hl 2 rfl) ?_
        refine va_get (ci := 5) (C := R_Mo) (T := F_Mo) (N := 18) hx hb hg in_Mo hown hK hP 0 rfl rfl 1 (by decide) (hg _ m_504) (fun _ h => h) rfl d_Mo_look_60 ?_
        refine lv_iload_n hx hb d_Mo_look_63 rfl (lv_at hl 3 rfl) ?_
        refine va_iald hx hb hK hP 1 0 rfl rfl (in_out (by decide) h6) d_Mo_look_64 ?_
        refine lv_lload_n hx hb d_Mo_look_65 rfl (lv_at hl 0 rfl) ?_
        refine cj_i (wc := []) (w1 := []) hP hD hS hA [] rfl [] rfl rfl (va_runS (rest := [.int _]) ⟨hx, hb, hml, hown, hg⟩ (c_Mo_dataOf l D cI cL  _ (wg w.toNatClampNeg)) ⟨callB_of 1 hg (gw_good m_620) rfl rfl rfl (hg _ m_71) (hg _ m_618) hd_Mo_dataOf ⟨Nat.le_of_ble_eq_true rfl, Nat.le_of_ble_eq_true rfl⟩, hg _ m_619⟩ (pw_S hK hN hT hA hP hD hS [] rfl (by decide)) rfl rfl hl.1 rfl (lv_room (Nat.le_of_ble_eq_true rfl)) d_Mo_look_66 ⟨Nat.le_of_ble_eq_true rfl, Nat.le_of_ble_eq_true rfl⟩) (fun H locs hP hD hS => ?_)
        have hP : va_P D classes (W_Mo cI cL b0 b1 b2 b3 b4 b5 b6 b7 ev wr wg ke ma li ps pn cy ca va cn pp px go ne gi gn) H := hP
        have hD : va_D A (W_Mo cI cL b0 b1 b2 b3 b4 b5 b6 b7 ev wr wg ke ma li ps pn cy ca va cn pp px go ne gi gn) := hD
        refine lv_ixor hx hb d_Mo_look_69 ?_
        refine lv_i2l hx hb d_Mo_look_70 rfl ?_
        refine lv_ldc2 hx hb hown (hg _ m_627) d_Mo_look_71 ?_
        refine lv_land hx hb d_Mo_look_74 ?_
        rw [f_Mo_look_e0 wr wg w h6 h24 h50]
        exact W.lret hx hb hr (fun t ht hW => ⟨⟨_, (), rfl, rfl, by show va_P D classes _ t.heap; rw [ht]; exact hP⟩, hS.F ht⟩) hS.2.2 d_Mo_look_75 hlocks
      · refine lv_ldc2 hx hb hown (hg _ m_751) d_Mo_look_53 ?_
        refine lv_goto (tgt := 75) hx hb d_Mo_look_56 (by decide) ?_
        rw [f_Mo_look_e1 wr wg w h6 h24 h50]
        exact W.lret hx hb hr (fun t ht hW => ⟨⟨_, (), rfl, rfl, by show va_P D classes _ t.heap; rw [ht]; exact hP⟩, hS.F ht⟩) hS.2.2 d_Mo_look_75 hlocks
    · refine lv_aload_n hx hb d_Mo_look_27 rfl (lv_at hl 1 rfl) ?_
      refine va_get (ci := 5) (C := R_Mo) (T := F_Mo) (N := 18) hx hb hg in_Mo hown hK hP 0 rfl rfl 2 (by decide) (hg _ m_505) (fun _ h => h) rfl d_Mo_look_28 ?_
      refine lv_iload_n hx hb d_Mo_look_31 rfl (lv_at hl 2 rfl) ?_
      refine va_lald hx hb hK hP 2 1 rfl rfl (in_out (by decide) h6) d_Mo_look_32 ?_
      refine lv_lconst (v := 1) hx hb d_Mo_look_33 (by decide) ?_
      refine lv_iload_n hx hb d_Mo_look_34 rfl (lv_at hl 0 rfl) ?_
      refine lv_lshl (v := u_lshl _ _) hx hb d_Mo_look_35 rfl ?_
      refine lv_lxor hx hb d_Mo_look_36 ?_
      refine lv_goto (tgt := 46) hx hb d_Mo_look_37 (by decide) ?_
      refine lv_lstore_n (lv' := [(3, .long _), (2, .int _), (0, .ref _), (1, .int _)]) hx hb d_Mo_look_46 rfl hl (by decide) rfl (fun ls hl => ?_)
      refine lv_iload_n hx hb d_Mo_look_47 rfl (lv_at hl 1 rfl) ?_
      refine lv_bipush (v := -2) hx hb d_Mo_look_48 (by decide) ?_
      refine lv_icmp_ne (tgt := 59) hx hb d_Mo_look_50 (by decide) (fun h50 => ?_) (fun h50 => ?_)
      · refine lv_aload_n hx hb d_Mo_look_59 rfl (lv_at hl 2 rfl) ?_
        refine va_get (ci := 5) (C := R_Mo) (T := F_Mo) (N := 18) hx hb hg in_Mo hown hK hP 0 rfl rfl 1 (by decide) (hg _ m_504) (fun _ h => h) rfl d_Mo_look_60 ?_
        refine lv_iload_n hx hb d_Mo_look_63 rfl (lv_at hl 3 rfl) ?_
        refine va_iald hx hb hK hP 1 0 rfl rfl (in_out (by decide) h6) d_Mo_look_64 ?_
        refine lv_lload_n hx hb d_Mo_look_65 rfl (lv_at hl 0 rfl) ?_
        refine cj_i (wc := []) (w1 := []) hP hD hS hA [] rfl [] rfl rfl (va_runS (rest := [.int _]) ⟨hx, hb, hml, hown, hg⟩ (c_Mo_dataOf l D cI cL  _ ((wg w.toNatClampNeg) ^^^ (u_lshl (1 : Int64) (f_Mo_wrongBit (wg w.toNatClampNeg))))) ⟨callB_of 1 hg (gw_good m_620) rfl rfl rfl (hg _ m_71) (hg _ m_618) hd_Mo_dataOf ⟨Nat.le_of_ble_eq_true rfl, Nat.le_of_ble_eq_true rfl⟩, hg _ m_619⟩ (pw_S hK hN hT hA hP hD hS [] rfl (by decide)) rfl rfl hl.1 rfl (lv_room (Nat.le_of_ble_eq_true rfl)) d_Mo_look_66 ⟨Nat.le_of_ble_eq_true rfl, Nat.le_of_ble_eq_true rfl⟩) (fun H locs hP hD hS => ?_)
        have hP : va_P D classes (W_Mo cI cL b0 b1 b2 b3 b4 b5 b6 b7 ev wr wg ke ma li ps pn cy ca va cn pp px go ne gi gn) H := hP
        have hD : va_D A (W_Mo cI cL b0 b1 b2 b3 b4 b5 b6 b7 ev wr wg ke ma li ps pn cy ca va cn pp px go ne gi gn) := hD
        refine lv_ixor hx hb d_Mo_look_69 ?_
        refine lv_i2l hx hb d_Mo_look_70 rfl ?_
        refine lv_ldc2 hx hb hown (hg _ m_627) d_Mo_look_71 ?_
        refine lv_land hx hb d_Mo_look_74 ?_
        rw [f_Mo_look_e2 wr wg w h6 h24 h50]
        exact W.lret hx hb hr (fun t ht hW => ⟨⟨_, (), rfl, rfl, by show va_P D classes _ t.heap; rw [ht]; exact hP⟩, hS.F ht⟩) hS.2.2 d_Mo_look_75 hlocks
      · refine lv_ldc2 hx hb hown (hg _ m_751) d_Mo_look_53 ?_
        refine lv_goto (tgt := 75) hx hb d_Mo_look_56 (by decide) ?_
        rw [f_Mo_look_e3 wr wg w h6 h24 h50]
        exact W.lret hx hb hr (fun t ht hW => ⟨⟨_, (), rfl, rfl, by show va_P D classes _ t.heap; rw [ht]; exact hP⟩, hS.F ht⟩) hS.2.2 d_Mo_look_75 hlocks
  · refine lv_ldc2 hx hb hown (hg _ m_750) d_Mo_look_9 ?_
    rw [f_Mo_look_e4 wr wg w h6]
    exact W.lret hx hb hr (fun t ht hW => ⟨⟨_, (), rfl, rfl, by show va_P D classes _ t.heap; rw [ht]; exact hP⟩, hS.F ht⟩) hS.2.2 d_Mo_look_12 hlocks
abbrev q_Mo_bits (D : va_G) (cI cL : ClassId) (b0 b1 b2 b3 b4 b5 b6 b7 : Nat) (A : Nat → Prop) (ev : Int32) (wr : Nat → Int32) (wg : Nat → Int64) (ke : Nat → Int32) (ma : Nat → Int32) (li : Nat → Int64) (ps : Int32) (pn : Nat → Int32) (cy : Int32) (ca : Int32) (va : Int32) (cn : Nat → Int32) (pp : Int32) (px : Int32) (go : Int32) (ne : Int32) (gi : Int32) (gn : Int32) (F : Int64) : Array Value → State → Outcome → State → Prop := va_Ql (fun r (_ : Unit) => r = F) (fun _ t => va_P D classes (W_Mo cI cL b0 b1 b2 b3 b4 b5 b6 b7 ev wr wg ke ma li ps pn cy ca va cn pp px go ne gi gn) t.heap) A
theorem f_Mo_bits_e0 (wr : Nat → Int32) (wg : Nat → Int64) (ke : Nat → Int32) (ma : Nat → Int32) (li : Nat → Int64) (part : Int32)  (h7 : (f_Mo_outside part (167 : Int32)) = 0) (h18 : part ≤ (159 : Int32)) (h35 : (64 : Int32) ≤ part) : f_Mo_bits wr wg ke ma li part = (((((ke ((part - (64 : Int32)) / (3 : Int32)).toNatClampNeg) ^^^ (ma (part - (64 : Int32)).toNatClampNeg)).toInt64) &&& (4294967295 : Int64))) := by
  exact ((if_pos h7).trans ((if_pos h18).trans (if_pos h35)))
theorem f_Mo_bits_e1 (wr : Nat → Int32) (wg : Nat → Int64) (ke : Nat → Int32) (ma : Nat → Int32) (li : Nat → Int64) (part : Int32)  (h7 : (f_Mo_outside part (167 : Int32)) = 0) (h18 : part ≤ (159 : Int32)) (h35 : ¬ (64 : Int32) ≤ part) : f_Mo_bits wr wg ke ma li part = (((f_Mo_encoded (wr part.toNatClampNeg)) ^^^ (wg part.toNatClampNeg))) := by
  exact ((if_pos h7).trans ((if_pos h18).trans (if_neg h35)))
theorem f_Mo_bits_e2 (wr : Nat → Int32) (wg : Nat → Int64) (ke : Nat → Int32) (ma : Nat → Int32) (li : Nat → Int64) (part : Int32)  (h7 : (f_Mo_outside part (167 : Int32)) = 0) (h18 : ¬ part ≤ (159 : Int32)) : f_Mo_bits wr wg ke ma li part = ((li (part - (160 : Int32)).toNatClampNeg)) := by
  exact ((if_pos h7).trans (if_neg h18))
theorem f_Mo_bits_e3 (wr : Nat → Int32) (wg : Nat → Int64) (ke : Nat → Int32) (ma : Nat → Int32) (li : Nat → Int64) (part : Int32)  (h7 : ¬ (f_Mo_outside part (167 : Int32)) = 0) : f_Mo_bits wr wg ke ma li part = ((-1 : Int64)) := by
  exact (if_neg h7)
set_option maxHeartbeats 4000000 in
set_option maxRecDepth 100000 in
theorem c_Mo_bits (l : Launch) (D : va_G) (cI cL : ClassId) (b0 b1 b2 b3 b4 b5 b6 b7 : Nat) (sz : Nat) (ev : Int32) (wr : Nat → Int32) (wg : Nat → Int64) (ke : Nat → Int32) (ma : Nat → Int32) (li : Nat → Int64) (ps : Int32) (pn : Nat → Int32) (cy : Int32) (ca : Int32) (va : Int32) (cn : Nat → Int32) (pp : Int32) (px : Int32) (go : Int32) (ne : Int32) (gi : Int32) (gn : Int32) (part : Int32)  : Met l y_Mo_bits w_Mo_bits ({ frames := 2, cells := 0, slots := 0, locals := 48 }) (va_Pc [.ref b0, .int part] (PW D cI cL (W_Mo cI cL b0 b1 b2 b3 b4 b5 b6 b7 ev wr wg ke ma li ps pn cy ca va cn pp px go ne gi gn) sz)) (q_Mo_bits D cI cL b0 b1 b2 b3 b4 b5 b6 b7 (va_A (W_Mo cI cL b0 b1 b2 b3 b4 b5 b6 b7 ev wr wg ke ma li ps pn cy ca va cn pp px go ne gi gn) sz) ev wr wg ke ma li ps pn cy ca va cn pp px go ne gi gn (f_Mo_bits wr wg ke ma li part)) 0 0 (va_A (W_Mo cI cL b0 b1 b2 b3 b4 b5 b6 b7 ev wr wg ke ma li ps pn cy ca va cn pp px go ne gi gn) sz) := by
  refine mk_met (Qf := fun A => q_Mo_bits D cI cL b0 b1 b2 b3 b4 b5 b6 b7 A ev wr wg ke ma li ps pn cy ca va cn pp px go ne gi gn (f_Mo_bits wr wg ke ma li part)) (by decide) (Nat.le_of_ble_eq_true rfl) ?_
  intro p e s m below meth c A ls hx hb hr hlocks hml hown hg hK hN hT hA hP hD hS hnm hl
  refine lv_iload_n hx hb d_Mo_bits_0 rfl (lv_at hl 1 rfl) ?_
  refine lv_sipush (v := 167) hx hb d_Mo_bits_1 (by decide) ?_
  refine cj_i (wc := []) (w1 := []) hP hD hS hA [] rfl [] rfl rfl (va_runS (rest := []) ⟨hx, hb, hml, hown, hg⟩ (c_Mo_outside l D cI cL  _ part (167 : Int32)) ⟨callB_of 2 hg (gw_good m_564) rfl rfl rfl (hg _ m_71) (hg _ m_562) hd_Mo_outside ⟨Nat.le_of_ble_eq_true rfl, Nat.le_of_ble_eq_true rfl⟩, hg _ m_563⟩ (pw_S hK hN hT hA hP hD hS [] rfl (by decide)) rfl rfl hl.1 rfl (lv_room (Nat.le_of_ble_eq_true rfl)) d_Mo_bits_4 ⟨Nat.le_of_ble_eq_true rfl, Nat.le_of_ble_eq_true rfl⟩) (fun H locs hP hD hS => ?_)
  have hP : va_P D classes (W_Mo cI cL b0 b1 b2 b3 b4 b5 b6 b7 ev wr wg ke ma li ps pn cy ca va cn pp px go ne gi gn) H := hP
  have hD : va_D A (W_Mo cI cL b0 b1 b2 b3 b4 b5 b6 b7 ev wr wg ke ma li ps pn cy ca va cn pp px go ne gi gn) := hD
  refine lv_if_eq (tgt := 14) hx hb d_Mo_bits_7 (by decide) (fun h7 => ?_) (fun h7 => ?_)
  · refine lv_iload_n hx hb d_Mo_bits_14 rfl (lv_at hl 1 rfl) ?_
    refine lv_sipush (v := 159) hx hb d_Mo_bits_15 (by decide) ?_
    refine lv_icmp_le (tgt := 32) hx hb d_Mo_bits_18 (by decide) (fun h18 => ?_) (fun h18 => ?_)
    · refine lv_iload_n hx hb d_Mo_bits_32 rfl (lv_at hl 1 rfl) ?_
      refine lv_bipush (v := 64) hx hb d_Mo_bits_33 (by decide) ?_
      refine lv_icmp_ge (tgt := 57) hx hb d_Mo_bits_35 (by decide) (fun h35 => ?_) (fun h35 => ?_)
      · refine lv_aload_n hx hb d_Mo_bits_57 rfl (lv_at hl 0 rfl) ?_
        refine va_get (ci := 5) (C := R_Mo) (T := F_Mo) (N := 18) hx hb hg in_Mo hown hK hP 0 rfl rfl 3 (by decide) (hg _ m_506) (fun _ h => h) rfl d_Mo_bits_58 ?_
        refine lv_iload_n hx hb d_Mo_bits_61 rfl (lv_at hl 1 rfl) ?_
        refine lv_bipush (v := 64) hx hb d_Mo_bits_62 (by decide) ?_
        refine lv_isub hx hb d_Mo_bits_64 ?_
        refine lv_iconst (v := 3) hx hb d_Mo_bits_65 (by decide) ?_
        refine lv_idiv hx hb d_Mo_bits_66 (by decide) ?_
        refine va_iald hx hb hK hP 3 0 rfl rfl (iv_f h35 h18) d_Mo_bits_67 ?_
        refine lv_aload_n hx hb d_Mo_bits_68 rfl (lv_at hl 0 rfl) ?_
        refine va_get (ci := 5) (C := R_Mo) (T := F_Mo) (N := 18) hx hb hg in_Mo hown hK hP 0 rfl rfl 4 (by decide) (hg _ m_507) (fun _ h => h) rfl d_Mo_bits_69 ?_
        refine lv_iload_n hx hb d_Mo_bits_72 rfl (lv_at hl 1 rfl) ?_
        refine lv_bipush (v := 64) hx hb d_Mo_bits_73 (by decide) ?_
        refine lv_isub hx hb d_Mo_bits_75 ?_
        refine va_iald hx hb hK hP 4 0 rfl rfl (iv_g h35 h18) d_Mo_bits_76 ?_
        refine lv_ixor hx hb d_Mo_bits_77 ?_
        refine lv_i2l hx hb d_Mo_bits_78 rfl ?_
        refine lv_ldc2 hx hb hown (hg _ m_627) d_Mo_bits_79 ?_
        refine lv_land hx hb d_Mo_bits_82 ?_
        rw [f_Mo_bits_e0 wr wg ke ma li part h7 h18 h35]
        exact W.lret hx hb hr (fun t ht hW => ⟨⟨_, (), rfl, rfl, by show va_P D classes _ t.heap; rw [ht]; exact hP⟩, hS.F ht⟩) hS.2.2 d_Mo_bits_83 hlocks
      · refine lv_aload_n hx hb d_Mo_bits_38 rfl (lv_at hl 0 rfl) ?_
        refine va_get (ci := 5) (C := R_Mo) (T := F_Mo) (N := 18) hx hb hg in_Mo hown hK hP 0 rfl rfl 1 (by decide) (hg _ m_504) (fun _ h => h) rfl d_Mo_bits_39 ?_
        refine lv_iload_n hx hb d_Mo_bits_42 rfl (lv_at hl 1 rfl) ?_
        refine va_iald hx hb hK hP 1 0 rfl rfl (iv_a (in_out (by decide) h7 : vp_in part 168) h35) d_Mo_bits_43 ?_
        refine cj_l (wc := []) (w1 := []) hP hD hS hA [] rfl [] rfl rfl (va_runS (rest := []) ⟨hx, hb, hml, hown, hg⟩ (c_Mo_encoded l D cI cL  _ (wr part.toNatClampNeg)) ⟨callB_of 1 hg (gw_good m_758) rfl rfl rfl (hg _ m_71) (hg _ m_756) hd_Mo_encoded ⟨Nat.le_of_ble_eq_true rfl, Nat.le_of_ble_eq_true rfl⟩, hg _ m_757⟩ (pw_S hK hN hT hA hP hD hS [] rfl (by decide)) rfl rfl hl.1 rfl (lv_room (Nat.le_of_ble_eq_true rfl)) d_Mo_bits_44 ⟨Nat.le_of_ble_eq_true rfl, Nat.le_of_ble_eq_true rfl⟩) (fun H locs hP hD hS => ?_)
        have hP : va_P D classes (W_Mo cI cL b0 b1 b2 b3 b4 b5 b6 b7 ev wr wg ke ma li ps pn cy ca va cn pp px go ne gi gn) H := hP
        have hD : va_D A (W_Mo cI cL b0 b1 b2 b3 b4 b5 b6 b7 ev wr wg ke ma li ps pn cy ca va cn pp px go ne gi gn) := hD
        refine lv_aload_n hx hb d_Mo_bits_47 rfl (lv_at hl 0 rfl) ?_
        refine va_get (ci := 5) (C := R_Mo) (T := F_Mo) (N := 18) hx hb hg in_Mo hown hK hP 0 rfl rfl 2 (by decide) (hg _ m_505) (fun _ h => h) rfl d_Mo_bits_48 ?_
        refine lv_iload_n hx hb d_Mo_bits_51 rfl (lv_at hl 1 rfl) ?_
        refine va_lald hx hb hK hP 2 1 rfl rfl (iv_a (in_out (by decide) h7 : vp_in part 168) h35) d_Mo_bits_52 ?_
        refine lv_lxor hx hb d_Mo_bits_53 ?_
        refine lv_goto (tgt := 83) hx hb d_Mo_bits_54 (by decide) ?_
        rw [f_Mo_bits_e1 wr wg ke ma li part h7 h18 h35]
        exact W.lret hx hb hr (fun t ht hW => ⟨⟨_, (), rfl, rfl, by show va_P D classes _ t.heap; rw [ht]; exact hP⟩, hS.F ht⟩) hS.2.2 d_Mo_bits_83 hlocks
    · refine lv_aload_n hx hb d_Mo_bits_21 rfl (lv_at hl 0 rfl) ?_
      refine va_get (ci := 5) (C := R_Mo) (T := F_Mo) (N := 18) hx hb hg in_Mo hown hK hP 0 rfl rfl 5 (by decide) (hg _ m_508) (fun _ h => h) rfl d_Mo_bits_22 ?_
      refine lv_iload_n hx hb d_Mo_bits_25 rfl (lv_at hl 1 rfl) ?_
      refine lv_sipush (v := 160) hx hb d_Mo_bits_26 (by decide) ?_
      refine lv_isub hx hb d_Mo_bits_29 ?_
      refine va_lald hx hb hK hP 5 1 rfl rfl (iv_h (in_out (by decide) h7) h18) d_Mo_bits_30 ?_
      rw [f_Mo_bits_e2 wr wg ke ma li part h7 h18]
      exact W.lret hx hb hr (fun t ht hW => ⟨⟨_, (), rfl, rfl, by show va_P D classes _ t.heap; rw [ht]; exact hP⟩, hS.F ht⟩) hS.2.2 d_Mo_bits_31 hlocks
  · refine lv_ldc2 hx hb hown (hg _ m_750) d_Mo_bits_10 ?_
    rw [f_Mo_bits_e3 wr wg ke ma li part h7]
    exact W.lret hx hb hr (fun t ht hW => ⟨⟨_, (), rfl, rfl, by show va_P D classes _ t.heap; rw [ht]; exact hP⟩, hS.F ht⟩) hS.2.2 d_Mo_bits_13 hlocks
abbrev q_Mo_cause (D : va_G) (cI cL : ClassId) (b0 b1 b2 b3 b4 b5 b6 b7 : Nat) (A : Nat → Prop) (ev : Int32) (wr : Nat → Int32) (wg : Nat → Int64) (ke : Nat → Int32) (ma : Nat → Int32) (li : Nat → Int64) (ps : Int32) (pn : Nat → Int32) (cy : Int32) (ca : Int32) (va : Int32) (cn : Nat → Int32) (pp : Int32) (px : Int32) (go : Int32) (ne : Int32) (gi : Int32) (gn : Int32) (F : Int32) : Array Value → State → Outcome → State → Prop := va_Qi (fun r (_ : Unit) => r = F) (fun _ t => va_P D classes (W_Mo cI cL b0 b1 b2 b3 b4 b5 b6 b7 ev wr wg ke ma li ps pn cy ca va cn pp px go ne gi gn) t.heap) A
set_option maxHeartbeats 4000000 in
set_option maxRecDepth 100000 in
theorem c_Mo_cause (l : Launch) (D : va_G) (cI cL : ClassId) (b0 b1 b2 b3 b4 b5 b6 b7 : Nat) (sz : Nat) (ev : Int32) (wr : Nat → Int32) (wg : Nat → Int64) (ke : Nat → Int32) (ma : Nat → Int32) (li : Nat → Int64) (ps : Int32) (pn : Nat → Int32) (cy : Int32) (ca : Int32) (va : Int32) (cn : Nat → Int32) (pp : Int32) (px : Int32) (go : Int32) (ne : Int32) (gi : Int32) (gn : Int32)   : Met l y_Mo_cause w_Mo_cause ({ frames := 0, cells := 0, slots := 0, locals := 0 }) (va_Pc [.ref b0] (PW D cI cL (W_Mo cI cL b0 b1 b2 b3 b4 b5 b6 b7 ev wr wg ke ma li ps pn cy ca va cn pp px go ne gi gn) sz)) (q_Mo_cause D cI cL b0 b1 b2 b3 b4 b5 b6 b7 (va_A (W_Mo cI cL b0 b1 b2 b3 b4 b5 b6 b7 ev wr wg ke ma li ps pn cy ca va cn pp px go ne gi gn) sz) ev wr wg ke ma li ps pn cy ca va cn pp px go ne gi gn (f_Mo_cause ca)) 0 0 (va_A (W_Mo cI cL b0 b1 b2 b3 b4 b5 b6 b7 ev wr wg ke ma li ps pn cy ca va cn pp px go ne gi gn) sz) := by
  refine mk_met (Qf := fun A => q_Mo_cause D cI cL b0 b1 b2 b3 b4 b5 b6 b7 A ev wr wg ke ma li ps pn cy ca va cn pp px go ne gi gn (f_Mo_cause ca)) (by decide) (Nat.le_of_ble_eq_true rfl) ?_
  intro p e s m below meth c A ls hx hb hr hlocks hml hown hg hK hN hT hA hP hD hS hnm hl
  refine lv_aload_n hx hb d_Mo_cause_0 rfl (lv_at hl 0 rfl) ?_
  refine va_get (ci := 5) (C := R_Mo) (T := F_Mo) (N := 18) hx hb hg in_Mo hown hK hP 0 rfl rfl 9 (by decide) (hg _ m_512) (fun _ h => h) rfl d_Mo_cause_1 ?_
  exact W.iret hx hb hr (fun t ht hW => ⟨⟨_, (), rfl, rfl, by show va_P D classes _ t.heap; rw [ht]; exact hP⟩, hS.F ht⟩) hS.2.2 d_Mo_cause_4 hlocks
abbrev q_Mo_value (D : va_G) (cI cL : ClassId) (b0 b1 b2 b3 b4 b5 b6 b7 : Nat) (A : Nat → Prop) (ev : Int32) (wr : Nat → Int32) (wg : Nat → Int64) (ke : Nat → Int32) (ma : Nat → Int32) (li : Nat → Int64) (ps : Int32) (pn : Nat → Int32) (cy : Int32) (ca : Int32) (va : Int32) (cn : Nat → Int32) (pp : Int32) (px : Int32) (go : Int32) (ne : Int32) (gi : Int32) (gn : Int32) (F : Int32) : Array Value → State → Outcome → State → Prop := va_Qi (fun r (_ : Unit) => r = F) (fun _ t => va_P D classes (W_Mo cI cL b0 b1 b2 b3 b4 b5 b6 b7 ev wr wg ke ma li ps pn cy ca va cn pp px go ne gi gn) t.heap) A
set_option maxHeartbeats 4000000 in
set_option maxRecDepth 100000 in
theorem c_Mo_value (l : Launch) (D : va_G) (cI cL : ClassId) (b0 b1 b2 b3 b4 b5 b6 b7 : Nat) (sz : Nat) (ev : Int32) (wr : Nat → Int32) (wg : Nat → Int64) (ke : Nat → Int32) (ma : Nat → Int32) (li : Nat → Int64) (ps : Int32) (pn : Nat → Int32) (cy : Int32) (ca : Int32) (va : Int32) (cn : Nat → Int32) (pp : Int32) (px : Int32) (go : Int32) (ne : Int32) (gi : Int32) (gn : Int32)   : Met l y_Mo_value w_Mo_value ({ frames := 0, cells := 0, slots := 0, locals := 0 }) (va_Pc [.ref b0] (PW D cI cL (W_Mo cI cL b0 b1 b2 b3 b4 b5 b6 b7 ev wr wg ke ma li ps pn cy ca va cn pp px go ne gi gn) sz)) (q_Mo_value D cI cL b0 b1 b2 b3 b4 b5 b6 b7 (va_A (W_Mo cI cL b0 b1 b2 b3 b4 b5 b6 b7 ev wr wg ke ma li ps pn cy ca va cn pp px go ne gi gn) sz) ev wr wg ke ma li ps pn cy ca va cn pp px go ne gi gn (f_Mo_value va)) 0 0 (va_A (W_Mo cI cL b0 b1 b2 b3 b4 b5 b6 b7 ev wr wg ke ma li ps pn cy ca va cn pp px go ne gi gn) sz) := by
  refine mk_met (Qf := fun A => q_Mo_value D cI cL b0 b1 b2 b3 b4 b5 b6 b7 A ev wr wg ke ma li ps pn cy ca va cn pp px go ne gi gn (f_Mo_value va)) (by decide) (Nat.le_of_ble_eq_true rfl) ?_
  intro p e s m below meth c A ls hx hb hr hlocks hml hown hg hK hN hT hA hP hD hS hnm hl
  refine lv_aload_n hx hb d_Mo_value_0 rfl (lv_at hl 0 rfl) ?_
  refine va_get (ci := 5) (C := R_Mo) (T := F_Mo) (N := 18) hx hb hg in_Mo hown hK hP 0 rfl rfl 10 (by decide) (hg _ m_513) (fun _ h => h) rfl d_Mo_value_1 ?_
  exact W.iret hx hb hr (fun t ht hW => ⟨⟨_, (), rfl, rfl, by show va_P D classes _ t.heap; rw [ht]; exact hP⟩, hS.F ht⟩) hS.2.2 d_Mo_value_4 hlocks
abbrev q_Mo_cycles (D : va_G) (cI cL : ClassId) (b0 b1 b2 b3 b4 b5 b6 b7 : Nat) (A : Nat → Prop) (ev : Int32) (wr : Nat → Int32) (wg : Nat → Int64) (ke : Nat → Int32) (ma : Nat → Int32) (li : Nat → Int64) (ps : Int32) (pn : Nat → Int32) (cy : Int32) (ca : Int32) (va : Int32) (cn : Nat → Int32) (pp : Int32) (px : Int32) (go : Int32) (ne : Int32) (gi : Int32) (gn : Int32) (F : Int32) : Array Value → State → Outcome → State → Prop := va_Qi (fun r (_ : Unit) => r = F) (fun _ t => va_P D classes (W_Mo cI cL b0 b1 b2 b3 b4 b5 b6 b7 ev wr wg ke ma li ps pn cy ca va cn pp px go ne gi gn) t.heap) A
set_option maxHeartbeats 4000000 in
set_option maxRecDepth 100000 in
theorem c_Mo_cycles (l : Launch) (D : va_G) (cI cL : ClassId) (b0 b1 b2 b3 b4 b5 b6 b7 : Nat) (sz : Nat) (ev : Int32) (wr : Nat → Int32) (wg : Nat → Int64) (ke : Nat → Int32) (ma : Nat → Int32) (li : Nat → Int64) (ps : Int32) (pn : Nat → Int32) (cy : Int32) (ca : Int32) (va : Int32) (cn : Nat → Int32) (pp : Int32) (px : Int32) (go : Int32) (ne : Int32) (gi : Int32) (gn : Int32)   : Met l y_Mo_cycles w_Mo_cycles ({ frames := 0, cells := 0, slots := 0, locals := 0 }) (va_Pc [.ref b0] (PW D cI cL (W_Mo cI cL b0 b1 b2 b3 b4 b5 b6 b7 ev wr wg ke ma li ps pn cy ca va cn pp px go ne gi gn) sz)) (q_Mo_cycles D cI cL b0 b1 b2 b3 b4 b5 b6 b7 (va_A (W_Mo cI cL b0 b1 b2 b3 b4 b5 b6 b7 ev wr wg ke ma li ps pn cy ca va cn pp px go ne gi gn) sz) ev wr wg ke ma li ps pn cy ca va cn pp px go ne gi gn (f_Mo_cycles cy)) 0 0 (va_A (W_Mo cI cL b0 b1 b2 b3 b4 b5 b6 b7 ev wr wg ke ma li ps pn cy ca va cn pp px go ne gi gn) sz) := by
  refine mk_met (Qf := fun A => q_Mo_cycles D cI cL b0 b1 b2 b3 b4 b5 b6 b7 A ev wr wg ke ma li ps pn cy ca va cn pp px go ne gi gn (f_Mo_cycles cy)) (by decide) (Nat.le_of_ble_eq_true rfl) ?_
  intro p e s m below meth c A ls hx hb hr hlocks hml hown hg hK hN hT hA hP hD hS hnm hl
  refine lv_aload_n hx hb d_Mo_cycles_0 rfl (lv_at hl 0 rfl) ?_
  refine va_get (ci := 5) (C := R_Mo) (T := F_Mo) (N := 18) hx hb hg in_Mo hown hK hP 0 rfl rfl 8 (by decide) (hg _ m_511) (fun _ h => h) rfl d_Mo_cycles_1 ?_
  exact W.iret hx hb hr (fun t ht hW => ⟨⟨_, (), rfl, rfl, by show va_P D classes _ t.heap; rw [ht]; exact hP⟩, hS.F ht⟩) hS.2.2 d_Mo_cycles_4 hlocks
abbrev q_Mo_count (D : va_G) (cI cL : ClassId) (b0 b1 b2 b3 b4 b5 b6 b7 : Nat) (A : Nat → Prop) (ev : Int32) (wr : Nat → Int32) (wg : Nat → Int64) (ke : Nat → Int32) (ma : Nat → Int32) (li : Nat → Int64) (ps : Int32) (pn : Nat → Int32) (cy : Int32) (ca : Int32) (va : Int32) (cn : Nat → Int32) (pp : Int32) (px : Int32) (go : Int32) (ne : Int32) (gi : Int32) (gn : Int32) (F : Int32) : Array Value → State → Outcome → State → Prop := va_Qi (fun r (_ : Unit) => r = F) (fun _ t => va_P D classes (W_Mo cI cL b0 b1 b2 b3 b4 b5 b6 b7 ev wr wg ke ma li ps pn cy ca va cn pp px go ne gi gn) t.heap) A
theorem f_Mo_count_e0 (cn : Nat → Int32) (w : Int32)  (h5 : (f_Mo_outside w (5 : Int32)) = 0) : f_Mo_count cn w = ((cn w.toNatClampNeg)) := by
  exact (if_pos h5)
theorem f_Mo_count_e1 (cn : Nat → Int32) (w : Int32)  (h5 : ¬ (f_Mo_outside w (5 : Int32)) = 0) : f_Mo_count cn w = ((-1 : Int32)) := by
  exact (if_neg h5)
set_option maxHeartbeats 4000000 in
set_option maxRecDepth 100000 in
theorem c_Mo_count (l : Launch) (D : va_G) (cI cL : ClassId) (b0 b1 b2 b3 b4 b5 b6 b7 : Nat) (sz : Nat) (ev : Int32) (wr : Nat → Int32) (wg : Nat → Int64) (ke : Nat → Int32) (ma : Nat → Int32) (li : Nat → Int64) (ps : Int32) (pn : Nat → Int32) (cy : Int32) (ca : Int32) (va : Int32) (cn : Nat → Int32) (pp : Int32) (px : Int32) (go : Int32) (ne : Int32) (gi : Int32) (gn : Int32) (w : Int32)  : Met l y_Mo_count w_Mo_count ({ frames := 1, cells := 0, slots := 0, locals := 21 }) (va_Pc [.ref b0, .int w] (PW D cI cL (W_Mo cI cL b0 b1 b2 b3 b4 b5 b6 b7 ev wr wg ke ma li ps pn cy ca va cn pp px go ne gi gn) sz)) (q_Mo_count D cI cL b0 b1 b2 b3 b4 b5 b6 b7 (va_A (W_Mo cI cL b0 b1 b2 b3 b4 b5 b6 b7 ev wr wg ke ma li ps pn cy ca va cn pp px go ne gi gn) sz) ev wr wg ke ma li ps pn cy ca va cn pp px go ne gi gn (f_Mo_count cn w)) 0 0 (va_A (W_Mo cI cL b0 b1 b2 b3 b4 b5 b6 b7 ev wr wg ke ma li ps pn cy ca va cn pp px go ne gi gn) sz) := by
  refine mk_met (Qf := fun A => q_Mo_count D cI cL b0 b1 b2 b3 b4 b5 b6 b7 A ev wr wg ke ma li ps pn cy ca va cn pp px go ne gi gn (f_Mo_count cn w)) (by decide) (Nat.le_of_ble_eq_true rfl) ?_
  intro p e s m below meth c A ls hx hb hr hlocks hml hown hg hK hN hT hA hP hD hS hnm hl
  refine lv_iload_n hx hb d_Mo_count_0 rfl (lv_at hl 1 rfl) ?_
  refine lv_iconst (v := 5) hx hb d_Mo_count_1 (by decide) ?_
  refine cj_i (wc := []) (w1 := []) hP hD hS hA [] rfl [] rfl rfl (va_runS (rest := []) ⟨hx, hb, hml, hown, hg⟩ (c_Mo_outside l D cI cL  _ w (5 : Int32)) ⟨callB_of 2 hg (gw_good m_564) rfl rfl rfl (hg _ m_71) (hg _ m_562) hd_Mo_outside ⟨Nat.le_of_ble_eq_true rfl, Nat.le_of_ble_eq_true rfl⟩, hg _ m_563⟩ (pw_S hK hN hT hA hP hD hS [] rfl (by decide)) rfl rfl hl.1 rfl (lv_room (Nat.le_of_ble_eq_true rfl)) d_Mo_count_2 ⟨Nat.le_of_ble_eq_true rfl, Nat.le_of_ble_eq_true rfl⟩) (fun H locs hP hD hS => ?_)
  have hP : va_P D classes (W_Mo cI cL b0 b1 b2 b3 b4 b5 b6 b7 ev wr wg ke ma li ps pn cy ca va cn pp px go ne gi gn) H := hP
  have hD : va_D A (W_Mo cI cL b0 b1 b2 b3 b4 b5 b6 b7 ev wr wg ke ma li ps pn cy ca va cn pp px go ne gi gn) := hD
  refine lv_if_eq (tgt := 12) hx hb d_Mo_count_5 (by decide) (fun h5 => ?_) (fun h5 => ?_)
  · refine lv_aload_n hx hb d_Mo_count_12 rfl (lv_at hl 0 rfl) ?_
    refine va_get (ci := 5) (C := R_Mo) (T := F_Mo) (N := 18) hx hb hg in_Mo hown hK hP 0 rfl rfl 11 (by decide) (hg _ m_514) (fun _ h => h) rfl d_Mo_count_13 ?_
    refine lv_iload_n hx hb d_Mo_count_16 rfl (lv_at hl 1 rfl) ?_
    refine va_iald hx hb hK hP 7 0 rfl rfl (in_out (by decide) h5) d_Mo_count_17 ?_
    rw [f_Mo_count_e0 cn w h5]
    exact W.iret hx hb hr (fun t ht hW => ⟨⟨_, (), rfl, rfl, by show va_P D classes _ t.heap; rw [ht]; exact hP⟩, hS.F ht⟩) hS.2.2 d_Mo_count_18 hlocks
  · refine lv_iconst (v := -1) hx hb d_Mo_count_8 (by decide) ?_
    refine lv_goto (tgt := 18) hx hb d_Mo_count_9 (by decide) ?_
    rw [f_Mo_count_e1 cn w h5]
    exact W.iret hx hb hr (fun t ht hW => ⟨⟨_, (), rfl, rfl, by show va_P D classes _ t.heap; rw [ht]; exact hP⟩, hS.F ht⟩) hS.2.2 d_Mo_count_18 hlocks
abbrev q_Mo_instruct (D : va_G) (cI cL : ClassId) (b0 b1 b2 b3 b4 b5 b6 b7 : Nat) (A : Nat → Prop) (ev : Int32) (wr : Nat → Int32) (wg : Nat → Int64) (ke : Nat → Int32) (ma : Nat → Int32) (li : Nat → Int64) (ps : Int32) (pn : Nat → Int32) (cy : Int32) (ca : Int32) (va : Int32) (cn : Nat → Int32) (pp : Int32) (px : Int32) (go : Int32) (ne : Int32) (gi : Int32) (gn : Int32) (F : (Nat → Int32) × (Nat → Int64) × (Nat → Int32) × (Nat → Int32) × (Nat → Int64) × Int32 × Int32 × (Nat → Int32) × Int32 × Int32 × Int32 × Int32 × Int32 × Int32) : Array Value → State → Outcome → State → Prop := va_Qv (fun (_ : Unit) => True) (fun _ t => va_P D classes (W_Mo cI cL b0 b1 b2 b3 b4 b5 b6 b7 ev F.1 F.2.1 F.2.2.1 F.2.2.2.1 F.2.2.2.2.1 ps pn cy F.2.2.2.2.2.1 F.2.2.2.2.2.2.1 F.2.2.2.2.2.2.2.1 F.2.2.2.2.2.2.2.2.1 F.2.2.2.2.2.2.2.2.2.1 F.2.2.2.2.2.2.2.2.2.2.1 F.2.2.2.2.2.2.2.2.2.2.2.1 F.2.2.2.2.2.2.2.2.2.2.2.2.1 F.2.2.2.2.2.2.2.2.2.2.2.2.2) t.heap) A
theorem f_Mo_instruct_e0 (wr : Nat → Int32) (wg : Nat → Int64) (ke : Nat → Int32) (ma : Nat → Int32) (li : Nat → Int64) (ca : Int32) (va : Int32) (cn : Nat → Int32) (pp : Int32) (px : Int32) (go : Int32) (ne : Int32) (gi : Int32) (gn : Int32) (t1 : Int32 × Int32) (e_t1 : f_Mo_stop ca va (1 : Int32) (f_Mo_valueOf ke ma (0 : Int32)) = t1) (h30 : ¬ (u_rem (f_Mo_valueOf ke ma (0 : Int32)) (4 : Int32)) = 0) (h88 : ¬ t1.1 = 0) : f_Mo_instruct wr wg ke ma li ca va cn pp px go ne gi gn = (wr, wg, ke, ma, li, t1.1, t1.2, cn, (f_Mo_valueOf ke ma (0 : Int32)), px, go, ((f_Mo_valueOf ke ma (0 : Int32)) + (4 : Int32)), (0 : Int32), gn) := by
  subst e_t1
  exact ((if_neg h30).trans (if_neg h88))
theorem f_Mo_instruct_e1 (wr : Nat → Int32) (wg : Nat → Int64) (ke : Nat → Int32) (ma : Nat → Int32) (li : Nat → Int64) (ca : Int32) (va : Int32) (cn : Nat → Int32) (pp : Int32) (px : Int32) (go : Int32) (ne : Int32) (gi : Int32) (gn : Int32) (t1 : Int32 × Int32) (t2 : (Nat → Int32) × (Nat → Int32)) (e_t1 : f_Mo_stop ca va (1 : Int32) (f_Mo_valueOf ke ma (0 : Int32)) = t1) (e_t2 : f_Mo_put ke ma (0 : Int32) ((f_Mo_valueOf ke ma (0 : Int32)) + (4 : Int32)) = t2) (h30 : ¬ (u_rem (f_Mo_valueOf ke ma (0 : Int32)) (4 : Int32)) = 0) (h88 : t1.1 = 0) : f_Mo_instruct wr wg ke ma li ca va cn pp px go ne gi gn = (wr, wg, t2.1, t2.2, li, t1.1, t1.2, cn, (f_Mo_valueOf ke ma (0 : Int32)), px, go, ((f_Mo_valueOf ke ma (0 : Int32)) + (4 : Int32)), (0 : Int32), gn) := by
  subst e_t2
  subst e_t1
  exact ((if_neg h30).trans (if_pos h88))
theorem f_Mo_instruct_e2 (wr : Nat → Int32) (wg : Nat → Int64) (ke : Nat → Int32) (ma : Nat → Int32) (li : Nat → Int64) (ca : Int32) (va : Int32) (cn : Nat → Int32) (pp : Int32) (px : Int32) (go : Int32) (ne : Int32) (gi : Int32) (gn : Int32) (t3 : Int32 × (Nat → Int64) × (Nat → Int64) × Int32 × Int32 × (Nat → Int32) × Int32) (e_t3 : f_Mo_fetch wr wg li ca va cn go (0 : Int32) ((f_Mo_valueOf ke ma (0 : Int32)) / (4 : Int32)) = t3) (h30 : (u_rem (f_Mo_valueOf ke ma (0 : Int32)) (4 : Int32)) = 0) (h43 : (f_Mo_outside (f_Mo_valueOf ke ma (0 : Int32)) (255 : Int32)) = 0) (h69 : t3.1 = 0) (h88 : ¬ t3.2.2.2.1 = 0) : f_Mo_instruct wr wg ke ma li ca va cn pp px go ne gi gn = (wr, t3.2.1, ke, ma, t3.2.2.1, t3.2.2.2.1, t3.2.2.2.2.1, t3.2.2.2.2.2.1, (f_Mo_valueOf ke ma (0 : Int32)), px, t3.2.2.2.2.2.2, ((f_Mo_valueOf ke ma (0 : Int32)) + (4 : Int32)), (0 : Int32), gn) := by
  subst e_t3
  exact ((if_pos h30).trans ((if_pos h43).trans ((if_pos h69).trans (if_neg h88))))
theorem f_Mo_instruct_e3 (wr : Nat → Int32) (wg : Nat → Int64) (ke : Nat → Int32) (ma : Nat → Int32) (li : Nat → Int64) (ca : Int32) (va : Int32) (cn : Nat → Int32) (pp : Int32) (px : Int32) (go : Int32) (ne : Int32) (gi : Int32) (gn : Int32) (t3 : Int32 × (Nat → Int64) × (Nat → Int64) × Int32 × Int32 × (Nat → Int32) × Int32) (t4 : (Nat → Int32) × (Nat → Int32)) (e_t3 : f_Mo_fetch wr wg li ca va cn go (0 : Int32) ((f_Mo_valueOf ke ma (0 : Int32)) / (4 : Int32)) = t3) (e_t4 : f_Mo_put ke ma (0 : Int32) ((f_Mo_valueOf ke ma (0 : Int32)) + (4 : Int32)) = t4) (h30 : (u_rem (f_Mo_valueOf ke ma (0 : Int32)) (4 : Int32)) = 0) (h43 : (f_Mo_outside (f_Mo_valueOf ke ma (0 : Int32)) (255 : Int32)) = 0) (h69 : t3.1 = 0) (h88 : t3.2.2.2.1 = 0) : f_Mo_instruct wr wg ke ma li ca va cn pp px go ne gi gn = (wr, t3.2.1, t4.1, t4.2, t3.2.2.1, t3.2.2.2.1, t3.2.2.2.2.1, t3.2.2.2.2.2.1, (f_Mo_valueOf ke ma (0 : Int32)), px, t3.2.2.2.2.2.2, ((f_Mo_valueOf ke ma (0 : Int32)) + (4 : Int32)), (0 : Int32), gn) := by
  subst e_t4
  subst e_t3
  exact ((if_pos h30).trans ((if_pos h43).trans ((if_pos h69).trans (if_pos h88))))
theorem f_Mo_instruct_e4 (wr : Nat → Int32) (wg : Nat → Int64) (ke : Nat → Int32) (ma : Nat → Int32) (li : Nat → Int64) (ca : Int32) (va : Int32) (cn : Nat → Int32) (pp : Int32) (px : Int32) (go : Int32) (ne : Int32) (gi : Int32) (gn : Int32) (t3 : Int32 × (Nat → Int64) × (Nat → Int64) × Int32 × Int32 × (Nat → Int32) × Int32) (t5 : (Nat → Int32) × (Nat → Int64) × (Nat → Int64) × Int32 × Int32 × (Nat → Int32) × Int32 × Int32 × Int32 × Int32) (e_t3 : f_Mo_fetch wr wg li ca va cn go (0 : Int32) ((f_Mo_valueOf ke ma (0 : Int32)) / (4 : Int32)) = t3) (e_t5 : f_Mo_execute wr t3.2.1 ke ma t3.2.2.1 t3.2.2.2.1 t3.2.2.2.2.1 t3.2.2.2.2.2.1 (f_Mo_valueOf ke ma (0 : Int32)) t3.2.2.2.2.2.2 t3.2.2.2.2.2.2 ((f_Mo_valueOf ke ma (0 : Int32)) + (4 : Int32)) (0 : Int32) gn = t5) (h30 : (u_rem (f_Mo_valueOf ke ma (0 : Int32)) (4 : Int32)) = 0) (h43 : (f_Mo_outside (f_Mo_valueOf ke ma (0 : Int32)) (255 : Int32)) = 0) (h69 : ¬ t3.1 = 0) (h88 : ¬ t5.2.2.2.1 = 0) : f_Mo_instruct wr wg ke ma li ca va cn pp px go ne gi gn = (t5.1, t5.2.1, ke, ma, t5.2.2.1, t5.2.2.2.1, t5.2.2.2.2.1, t5.2.2.2.2.2.1, (f_Mo_valueOf ke ma (0 : Int32)), t3.2.2.2.2.2.2, t5.2.2.2.2.2.2.1, t5.2.2.2.2.2.2.2.1, t5.2.2.2.2.2.2.2.2.1, t5.2.2.2.2.2.2.2.2.2) := by
  subst e_t5
  subst e_t3
  exact ((if_pos h30).trans ((if_pos h43).trans ((if_neg h69).trans (if_neg h88))))
theorem f_Mo_instruct_e5 (wr : Nat → Int32) (wg : Nat → Int64) (ke : Nat → Int32) (ma : Nat → Int32) (li : Nat → Int64) (ca : Int32) (va : Int32) (cn : Nat → Int32) (pp : Int32) (px : Int32) (go : Int32) (ne : Int32) (gi : Int32) (gn : Int32) (t3 : Int32 × (Nat → Int64) × (Nat → Int64) × Int32 × Int32 × (Nat → Int32) × Int32) (t5 : (Nat → Int32) × (Nat → Int64) × (Nat → Int64) × Int32 × Int32 × (Nat → Int32) × Int32 × Int32 × Int32 × Int32) (t6 : (Nat → Int32) × (Nat → Int32)) (e_t3 : f_Mo_fetch wr wg li ca va cn go (0 : Int32) ((f_Mo_valueOf ke ma (0 : Int32)) / (4 : Int32)) = t3) (e_t5 : f_Mo_execute wr t3.2.1 ke ma t3.2.2.1 t3.2.2.2.1 t3.2.2.2.2.1 t3.2.2.2.2.2.1 (f_Mo_valueOf ke ma (0 : Int32)) t3.2.2.2.2.2.2 t3.2.2.2.2.2.2 ((f_Mo_valueOf ke ma (0 : Int32)) + (4 : Int32)) (0 : Int32) gn = t5) (e_t6 : f_Mo_put ke ma (0 : Int32) t5.2.2.2.2.2.2.2.1 = t6) (h30 : (u_rem (f_Mo_valueOf ke ma (0 : Int32)) (4 : Int32)) = 0) (h43 : (f_Mo_outside (f_Mo_valueOf ke ma (0 : Int32)) (255 : Int32)) = 0) (h69 : ¬ t3.1 = 0) (h88 : t5.2.2.2.1 = 0) (h103 : t5.2.2.2.2.2.2.2.2.1 = 0) : f_Mo_instruct wr wg ke ma li ca va cn pp px go ne gi gn = (t5.1, t5.2.1, t6.1, t6.2, t5.2.2.1, t5.2.2.2.1, t5.2.2.2.2.1, t5.2.2.2.2.2.1, (f_Mo_valueOf ke ma (0 : Int32)), t3.2.2.2.2.2.2, t5.2.2.2.2.2.2.1, t5.2.2.2.2.2.2.2.1, t5.2.2.2.2.2.2.2.2.1, t5.2.2.2.2.2.2.2.2.2) := by
  subst e_t6
  subst e_t5
  subst e_t3
  exact ((if_pos h30).trans ((if_pos h43).trans ((if_neg h69).trans ((if_pos h88).trans (if_pos h103)))))
theorem f_Mo_instruct_e6 (wr : Nat → Int32) (wg : Nat → Int64) (ke : Nat → Int32) (ma : Nat → Int32) (li : Nat → Int64) (ca : Int32) (va : Int32) (cn : Nat → Int32) (pp : Int32) (px : Int32) (go : Int32) (ne : Int32) (gi : Int32) (gn : Int32) (t3 : Int32 × (Nat → Int64) × (Nat → Int64) × Int32 × Int32 × (Nat → Int32) × Int32) (t5 : (Nat → Int32) × (Nat → Int64) × (Nat → Int64) × Int32 × Int32 × (Nat → Int32) × Int32 × Int32 × Int32 × Int32) (t7 : (Nat → Int32) × (Nat → Int32)) (e_t3 : f_Mo_fetch wr wg li ca va cn go (0 : Int32) ((f_Mo_valueOf ke ma (0 : Int32)) / (4 : Int32)) = t3) (e_t5 : f_Mo_execute wr t3.2.1 ke ma t3.2.2.1 t3.2.2.2.1 t3.2.2.2.2.1 t3.2.2.2.2.2.1 (f_Mo_valueOf ke ma (0 : Int32)) t3.2.2.2.2.2.2 t3.2.2.2.2.2.2 ((f_Mo_valueOf ke ma (0 : Int32)) + (4 : Int32)) (0 : Int32) gn = t5) (e_t7 : f_Mo_put ke ma (0 : Int32) t5.2.2.2.2.2.2.2.1 = t7) (h30 : (u_rem (f_Mo_valueOf ke ma (0 : Int32)) (4 : Int32)) = 0) (h43 : (f_Mo_outside (f_Mo_valueOf ke ma (0 : Int32)) (255 : Int32)) = 0) (h69 : ¬ t3.1 = 0) (h88 : t5.2.2.2.1 = 0) (h103 : ¬ t5.2.2.2.2.2.2.2.2.1 = 0) (h107 : (f_Mo_field t3.2.2.2.2.2.2 (7 : Int32) (5 : Int32)) ≤ 0) : f_Mo_instruct wr wg ke ma li ca va cn pp px go ne gi gn = (t5.1, t5.2.1, t7.1, t7.2, t5.2.2.1, t5.2.2.2.1, t5.2.2.2.2.1, t5.2.2.2.2.2.1, (f_Mo_valueOf ke ma (0 : Int32)), t3.2.2.2.2.2.2, t5.2.2.2.2.2.2.1, t5.2.2.2.2.2.2.2.1, t5.2.2.2.2.2.2.2.2.1, t5.2.2.2.2.2.2.2.2.2) := by
  subst e_t7
  subst e_t5
  subst e_t3
  exact ((if_pos h30).trans ((if_pos h43).trans ((if_neg h69).trans ((if_pos h88).trans ((if_neg h103).trans (if_pos h107))))))
theorem f_Mo_instruct_e7 (wr : Nat → Int32) (wg : Nat → Int64) (ke : Nat → Int32) (ma : Nat → Int32) (li : Nat → Int64) (ca : Int32) (va : Int32) (cn : Nat → Int32) (pp : Int32) (px : Int32) (go : Int32) (ne : Int32) (gi : Int32) (gn : Int32) (t3 : Int32 × (Nat → Int64) × (Nat → Int64) × Int32 × Int32 × (Nat → Int32) × Int32) (t5 : (Nat → Int32) × (Nat → Int64) × (Nat → Int64) × Int32 × Int32 × (Nat → Int32) × Int32 × Int32 × Int32 × Int32) (t8 : (Nat → Int32) × (Nat → Int32)) (t9 : (Nat → Int32) × (Nat → Int32)) (e_t3 : f_Mo_fetch wr wg li ca va cn go (0 : Int32) ((f_Mo_valueOf ke ma (0 : Int32)) / (4 : Int32)) = t3) (e_t5 : f_Mo_execute wr t3.2.1 ke ma t3.2.2.1 t3.2.2.2.1 t3.2.2.2.2.1 t3.2.2.2.2.2.1 (f_Mo_valueOf ke ma (0 : Int32)) t3.2.2.2.2.2.2 t3.2.2.2.2.2.2 ((f_Mo_valueOf ke ma (0 : Int32)) + (4 : Int32)) (0 : Int32) gn = t5) (e_t8 : f_Mo_put ke ma (f_Mo_field t3.2.2.2.2.2.2 (7 : Int32) (5 : Int32)) t5.2.2.2.2.2.2.2.2.2 = t8) (e_t9 : f_Mo_put t8.1 t8.2 (0 : Int32) t5.2.2.2.2.2.2.2.1 = t9) (h30 : (u_rem (f_Mo_valueOf ke ma (0 : Int32)) (4 : Int32)) = 0) (h43 : (f_Mo_outside (f_Mo_valueOf ke ma (0 : Int32)) (255 : Int32)) = 0) (h69 : ¬ t3.1 = 0) (h88 : t5.2.2.2.1 = 0) (h103 : ¬ t5.2.2.2.2.2.2.2.2.1 = 0) (h107 : ¬ (f_Mo_field t3.2.2.2.2.2.2 (7 : Int32) (5 : Int32)) ≤ 0) : f_Mo_instruct wr wg ke ma li ca va cn pp px go ne gi gn = (t5.1, t5.2.1, t9.1, t9.2, t5.2.2.1, t5.2.2.2.1, t5.2.2.2.2.1, t5.2.2.2.2.2.1, (f_Mo_valueOf ke ma (0 : Int32)), t3.2.2.2.2.2.2, t5.2.2.2.2.2.2.1, t5.2.2.2.2.2.2.2.1, t5.2.2.2.2.2.2.2.2.1, t5.2.2.2.2.2.2.2.2.2) := by
  subst e_t9
  subst e_t8
  subst e_t5
  subst e_t3
  exact ((if_pos h30).trans ((if_pos h43).trans ((if_neg h69).trans ((if_pos h88).trans ((if_neg h103).trans (if_neg h107))))))
theorem f_Mo_instruct_e8 (wr : Nat → Int32) (wg : Nat → Int64) (ke : Nat → Int32) (ma : Nat → Int32) (li : Nat → Int64) (ca : Int32) (va : Int32) (cn : Nat → Int32) (pp : Int32) (px : Int32) (go : Int32) (ne : Int32) (gi : Int32) (gn : Int32) (t10 : Int32 × Int32) (e_t10 : f_Mo_stop ca va (1 : Int32) (f_Mo_valueOf ke ma (0 : Int32)) = t10) (h30 : (u_rem (f_Mo_valueOf ke ma (0 : Int32)) (4 : Int32)) = 0) (h43 : ¬ (f_Mo_outside (f_Mo_valueOf ke ma (0 : Int32)) (255 : Int32)) = 0) (h88 : ¬ t10.1 = 0) : f_Mo_instruct wr wg ke ma li ca va cn pp px go ne gi gn = (wr, wg, ke, ma, li, t10.1, t10.2, cn, (f_Mo_valueOf ke ma (0 : Int32)), px, go, ((f_Mo_valueOf ke ma (0 : Int32)) + (4 : Int32)), (0 : Int32), gn) := by
  subst e_t10
  exact ((if_pos h30).trans ((if_neg h43).trans (if_neg h88)))
theorem f_Mo_instruct_e9 (wr : Nat → Int32) (wg : Nat → Int64) (ke : Nat → Int32) (ma : Nat → Int32) (li : Nat → Int64) (ca : Int32) (va : Int32) (cn : Nat → Int32) (pp : Int32) (px : Int32) (go : Int32) (ne : Int32) (gi : Int32) (gn : Int32) (t10 : Int32 × Int32) (t11 : (Nat → Int32) × (Nat → Int32)) (e_t10 : f_Mo_stop ca va (1 : Int32) (f_Mo_valueOf ke ma (0 : Int32)) = t10) (e_t11 : f_Mo_put ke ma (0 : Int32) ((f_Mo_valueOf ke ma (0 : Int32)) + (4 : Int32)) = t11) (h30 : (u_rem (f_Mo_valueOf ke ma (0 : Int32)) (4 : Int32)) = 0) (h43 : ¬ (f_Mo_outside (f_Mo_valueOf ke ma (0 : Int32)) (255 : Int32)) = 0) (h88 : t10.1 = 0) : f_Mo_instruct wr wg ke ma li ca va cn pp px go ne gi gn = (wr, wg, t11.1, t11.2, li, t10.1, t10.2, cn, (f_Mo_valueOf ke ma (0 : Int32)), px, go, ((f_Mo_valueOf ke ma (0 : Int32)) + (4 : Int32)), (0 : Int32), gn) := by
  subst e_t11
  subst e_t10
  exact ((if_pos h30).trans ((if_neg h43).trans (if_pos h88)))
set_option maxHeartbeats 4000000 in
set_option maxRecDepth 100000 in
theorem c_Mo_instruct (l : Launch) (D : va_G) (cI cL : ClassId) (b0 b1 b2 b3 b4 b5 b6 b7 : Nat) (sz : Nat) (ev : Int32) (wr : Nat → Int32) (wg : Nat → Int64) (ke : Nat → Int32) (ma : Nat → Int32) (li : Nat → Int64) (ps : Int32) (pn : Nat → Int32) (cy : Int32) (ca : Int32) (va : Int32) (cn : Nat → Int32) (pp : Int32) (px : Int32) (go : Int32) (ne : Int32) (gi : Int32) (gn : Int32)   : Met l y_Mo_instruct w_Mo_instruct ({ frames := 6, cells := 0, slots := 0, locals := 140 }) (va_Pc [.ref b0] (PW D cI cL (W_Mo cI cL b0 b1 b2 b3 b4 b5 b6 b7 ev wr wg ke ma li ps pn cy ca va cn pp px go ne gi gn) sz)) (q_Mo_instruct D cI cL b0 b1 b2 b3 b4 b5 b6 b7 (va_A (W_Mo cI cL b0 b1 b2 b3 b4 b5 b6 b7 ev wr wg ke ma li ps pn cy ca va cn pp px go ne gi gn) sz) ev wr wg ke ma li ps pn cy ca va cn pp px go ne gi gn (f_Mo_instruct wr wg ke ma li ca va cn pp px go ne gi gn)) 0 0 (va_A (W_Mo cI cL b0 b1 b2 b3 b4 b5 b6 b7 ev wr wg ke ma li ps pn cy ca va cn pp px go ne gi gn) sz) := by
  refine mk_met (Qf := fun A => q_Mo_instruct D cI cL b0 b1 b2 b3 b4 b5 b6 b7 A ev wr wg ke ma li ps pn cy ca va cn pp px go ne gi gn (f_Mo_instruct wr wg ke ma li ca va cn pp px go ne gi gn)) (by decide) (Nat.le_of_ble_eq_true rfl) ?_
  intro p e s m below meth c A ls hx hb hr hlocks hml hown hg hK hN hT hA hP hD hS hnm hl
  refine lv_aload_n hx hb d_Mo_instruct_0 rfl (lv_at hl 0 rfl) ?_
  refine lv_aload_n hx hb d_Mo_instruct_1 rfl (lv_at hl 0 rfl) ?_
  refine lv_iconst (v := 0) hx hb d_Mo_instruct_2 (by decide) ?_
  refine cj_i (wc := (W_Mo cI cL b0 b1 b2 b3 b4 b5 b6 b7 ev wr wg ke ma li ps pn cy ca va cn pp px go ne gi gn)) (w1 := (W_Mo cI cL b0 b1 b2 b3 b4 b5 b6 b7 ev wr wg ke ma li ps pn cy ca va cn pp px go ne gi gn)) hP hD hS hA [0, 1, 2, 3, 4, 5, 6, 7] rfl [b0, b1, b2, b3, b4, b5, b6, b7] rfl rfl (va_runV (rest := [.ref _]) ⟨hx, hb, hml, hown, hg⟩ (c_Mo_valueOf l D cI cL b0 b1 b2 b3 b4 b5 b6 b7 _ ev wr wg ke ma li ps pn cy ca va cn pp px go ne gi gn (0 : Int32) (vp_ofb (by decide))) ⟨callB_of 1 hg (gw_good m_580) rfl rfl rfl (hg _ m_71) (hg _ m_577) hd_Mo_valueOf ⟨Nat.le_of_ble_eq_true rfl, Nat.le_of_ble_eq_true rfl⟩, hg _ m_579, hg _ m_37⟩ (pw_V hK hN hT hA hP hD hS [0, 1, 2, 3, 4, 5, 6, 7] rfl (by decide) (q0 := 0) (ci := 5) rfl rfl) rfl rfl hl.1 rfl (lv_room (Nat.le_of_ble_eq_true rfl)) d_Mo_instruct_3 ⟨Nat.le_of_ble_eq_true rfl, Nat.le_of_ble_eq_true rfl⟩) (fun H locs hP hD hS => ?_)
  have hP : va_P D classes (W_Mo cI cL b0 b1 b2 b3 b4 b5 b6 b7 ev wr wg ke ma li ps pn cy ca va cn pp px go ne gi gn) H := hP
  have hD : va_D A (W_Mo cI cL b0 b1 b2 b3 b4 b5 b6 b7 ev wr wg ke ma li ps pn cy ca va cn pp px go ne gi gn) := hD
  refine va_put (ci := 5) (ty := .int) (C := R_Mo) (T := F_Mo) (N := 18) hx hb hg in_Mo t_Mo t_Mo_ok n_Mo hown hK hP hD hS 0 rfl rfl 12 (by decide) (hg _ m_515) (fun _ h => h) rfl (by decide +kernel) rfl rfl (Nat.le_of_ble_eq_true rfl) d_Mo_instruct_6 (fun H locs hP hD hS => ?_)
  have hP : va_P D classes (W_Mo cI cL b0 b1 b2 b3 b4 b5 b6 b7 ev wr wg ke ma li ps pn cy ca va cn (f_Mo_valueOf ke ma (0 : Int32)) px go ne gi gn) H := hP
  have hD : va_D A (W_Mo cI cL b0 b1 b2 b3 b4 b5 b6 b7 ev wr wg ke ma li ps pn cy ca va cn (f_Mo_valueOf ke ma (0 : Int32)) px go ne gi gn) := hD
  refine lv_aload_n hx hb d_Mo_instruct_9 rfl (lv_at hl 0 rfl) ?_
  refine lv_iconst (v := 0) hx hb d_Mo_instruct_10 (by decide) ?_
  refine va_put (ci := 5) (ty := .boolean) (C := R_Mo) (T := F_Mo) (N := 18) hx hb hg in_Mo t_Mo t_Mo_ok n_Mo hown hK hP hD hS 0 rfl rfl 16 (by decide) (hg _ m_519) (fun _ h => h) rfl (by decide +kernel) rfl rfl (Nat.le_of_ble_eq_true rfl) d_Mo_instruct_11 (fun H locs hP hD hS => ?_)
  have hP : va_P D classes (W_Mo cI cL b0 b1 b2 b3 b4 b5 b6 b7 ev wr wg ke ma li ps pn cy ca va cn (f_Mo_valueOf ke ma (0 : Int32)) px go ne (0 : Int32) gn) H := hP
  have hD : va_D A (W_Mo cI cL b0 b1 b2 b3 b4 b5 b6 b7 ev wr wg ke ma li ps pn cy ca va cn (f_Mo_valueOf ke ma (0 : Int32)) px go ne (0 : Int32) gn) := hD
  refine lv_aload_n hx hb d_Mo_instruct_14 rfl (lv_at hl 0 rfl) ?_
  refine lv_aload_n hx hb d_Mo_instruct_15 rfl (lv_at hl 0 rfl) ?_
  refine va_get (ci := 5) (C := R_Mo) (T := F_Mo) (N := 18) hx hb hg in_Mo hown hK hP 0 rfl rfl 12 (by decide) (hg _ m_515) (fun _ h => h) rfl d_Mo_instruct_16 ?_
  refine lv_iconst (v := 4) hx hb d_Mo_instruct_19 (by decide) ?_
  refine lv_iadd hx hb d_Mo_instruct_20 ?_
  refine va_put (ci := 5) (ty := .int) (C := R_Mo) (T := F_Mo) (N := 18) hx hb hg in_Mo t_Mo t_Mo_ok n_Mo hown hK hP hD hS 0 rfl rfl 15 (by decide) (hg _ m_518) (fun _ h => h) rfl (by decide +kernel) rfl rfl (Nat.le_of_ble_eq_true rfl) d_Mo_instruct_21 (fun H locs hP hD hS => ?_)
  have hP : va_P D classes (W_Mo cI cL b0 b1 b2 b3 b4 b5 b6 b7 ev wr wg ke ma li ps pn cy ca va cn (f_Mo_valueOf ke ma (0 : Int32)) px go ((f_Mo_valueOf ke ma (0 : Int32)) + (4 : Int32)) (0 : Int32) gn) H := hP
  have hD : va_D A (W_Mo cI cL b0 b1 b2 b3 b4 b5 b6 b7 ev wr wg ke ma li ps pn cy ca va cn (f_Mo_valueOf ke ma (0 : Int32)) px go ((f_Mo_valueOf ke ma (0 : Int32)) + (4 : Int32)) (0 : Int32) gn) := hD
  refine lv_aload_n hx hb d_Mo_instruct_24 rfl (lv_at hl 0 rfl) ?_
  refine va_get (ci := 5) (C := R_Mo) (T := F_Mo) (N := 18) hx hb hg in_Mo hown hK hP 0 rfl rfl 12 (by decide) (hg _ m_515) (fun _ h => h) rfl d_Mo_instruct_25 ?_
  refine lv_iconst (v := 4) hx hb d_Mo_instruct_28 (by decide) ?_
  refine lv_rem hx hb d_Mo_instruct_29 (by decide) ?_
  refine lv_if_ne (tgt := 46) hx hb d_Mo_instruct_30 (by decide) (fun h30 => ?_) (fun h30 => ?_)
  · refine lv_aload_n hx hb d_Mo_instruct_46 rfl (lv_at hl 0 rfl) ?_
    refine lv_iconst (v := 1) hx hb d_Mo_instruct_47 (by decide) ?_
    refine lv_aload_n hx hb d_Mo_instruct_48 rfl (lv_at hl 0 rfl) ?_
    refine va_get (ci := 5) (C := R_Mo) (T := F_Mo) (N := 18) hx hb hg in_Mo hown hK hP 0 rfl rfl 12 (by decide) (hg _ m_515) (fun _ h => h) rfl d_Mo_instruct_49 ?_
    refine cj_v (wc := (W_Mo cI cL b0 b1 b2 b3 b4 b5 b6 b7 ev wr wg ke ma li ps pn cy ca va cn (f_Mo_valueOf ke ma (0 : Int32)) px go ((f_Mo_valueOf ke ma (0 : Int32)) + (4 : Int32)) (0 : Int32) gn)) (w1 := (W_Mo cI cL b0 b1 b2 b3 b4 b5 b6 b7 ev wr wg ke ma li ps pn cy ((f_Mo_stop ca va (1 : Int32) (f_Mo_valueOf ke ma (0 : Int32))).1) ((f_Mo_stop ca va (1 : Int32) (f_Mo_valueOf ke ma (0 : Int32))).2) cn (f_Mo_valueOf ke ma (0 : Int32)) px go ((f_Mo_valueOf ke ma (0 : Int32)) + (4 : Int32)) (0 : Int32) gn)) hP hD hS hA [0, 1, 2, 3, 4, 5, 6, 7] rfl [b0, b1, b2, b3, b4, b5, b6, b7] rfl rfl (va_runV (rest := []) ⟨hx, hb, hml, hown, hg⟩ (c_Mo_stop l D cI cL b0 b1 b2 b3 b4 b5 b6 b7 _ ev wr wg ke ma li ps pn cy ca va cn (f_Mo_valueOf ke ma (0 : Int32)) px go ((f_Mo_valueOf ke ma (0 : Int32)) + (4 : Int32)) (0 : Int32) gn (1 : Int32) (f_Mo_valueOf ke ma (0 : Int32))) ⟨callB_of 2 hg (gw_good m_595) rfl rfl rfl (hg _ m_71) (hg _ m_592) hd_Mo_stop ⟨Nat.le_of_ble_eq_true rfl, Nat.le_of_ble_eq_true rfl⟩, hg _ m_594, hg _ m_40⟩ (pw_V hK hN hT hA hP hD hS [0, 1, 2, 3, 4, 5, 6, 7] rfl (by decide) (q0 := 0) (ci := 5) rfl rfl) rfl rfl hl.1 rfl (lv_room (Nat.le_of_ble_eq_true rfl)) d_Mo_instruct_52 ⟨Nat.le_of_ble_eq_true rfl, Nat.le_of_ble_eq_true rfl⟩) (fun H locs hP hD hS => ?_)
    have hP : va_P D classes (W_Mo cI cL b0 b1 b2 b3 b4 b5 b6 b7 ev wr wg ke ma li ps pn cy ((f_Mo_stop ca va (1 : Int32) (f_Mo_valueOf ke ma (0 : Int32))).1) ((f_Mo_stop ca va (1 : Int32) (f_Mo_valueOf ke ma (0 : Int32))).2) cn (f_Mo_valueOf ke ma (0 : Int32)) px go ((f_Mo_valueOf ke ma (0 : Int32)) + (4 : Int32)) (0 : Int32) gn) H := hP
    have hD : va_D A (W_Mo cI cL b0 b1 b2 b3 b4 b5 b6 b7 ev wr wg ke ma li ps pn cy ((f_Mo_stop ca va (1 : Int32) (f_Mo_valueOf ke ma (0 : Int32))).1) ((f_Mo_stop ca va (1 : Int32) (f_Mo_valueOf ke ma (0 : Int32))).2) cn (f_Mo_valueOf ke ma (0 : Int32)) px go ((f_Mo_valueOf ke ma (0 : Int32)) + (4 : Int32)) (0 : Int32) gn) := hD
    generalize e_t1 : f_Mo_stop ca va (1 : Int32) (f_Mo_valueOf ke ma (0 : Int32)) = t1 at hP hD ⊢
    obtain ⟨t1_0, t1_1⟩ := t1
    have hP : va_P D classes (W_Mo cI cL b0 b1 b2 b3 b4 b5 b6 b7 ev wr wg ke ma li ps pn cy t1_0 t1_1 cn (f_Mo_valueOf ke ma (0 : Int32)) px go ((f_Mo_valueOf ke ma (0 : Int32)) + (4 : Int32)) (0 : Int32) gn) H := hP
    have hD : va_D A (W_Mo cI cL b0 b1 b2 b3 b4 b5 b6 b7 ev wr wg ke ma li ps pn cy t1_0 t1_1 cn (f_Mo_valueOf ke ma (0 : Int32)) px go ((f_Mo_valueOf ke ma (0 : Int32)) + (4 : Int32)) (0 : Int32) gn) := hD
    refine lv_goto (tgt := 84) hx hb d_Mo_instruct_55 (by decide) ?_
    refine lv_aload_n hx hb d_Mo_instruct_84 rfl (lv_at hl 0 rfl) ?_
    refine va_get (ci := 5) (C := R_Mo) (T := F_Mo) (N := 18) hx hb hg in_Mo hown hK hP 0 rfl rfl 9 (by decide) (hg _ m_512) (fun _ h => h) rfl d_Mo_instruct_85 ?_
    refine lv_if_ne (tgt := 128) hx hb d_Mo_instruct_88 (by decide) (fun h88 => ?_) (fun h88 => ?_)
    · rw [f_Mo_instruct_e0 wr wg ke ma li ca va cn pp px go ne gi gn (t1_0, t1_1) e_t1 h30 h88]
      exact W.vret hx hb hr (fun t ht hW => ⟨⟨(), rfl, trivial, by show va_P D classes _ t.heap; rw [ht]; exact hP⟩, hS.F ht⟩) hS.2.2 d_Mo_instruct_128 hlocks
    · refine lv_aload_n hx hb d_Mo_instruct_91 rfl (lv_at hl 0 rfl) ?_
      refine lv_bipush (v := 7) hx hb d_Mo_instruct_92 (by decide) ?_
      refine lv_iconst (v := 5) hx hb d_Mo_instruct_94 (by decide) ?_
      refine cj_i (wc := (W_Mo cI cL b0 b1 b2 b3 b4 b5 b6 b7 ev wr wg ke ma li ps pn cy t1_0 t1_1 cn (f_Mo_valueOf ke ma (0 : Int32)) px go ((f_Mo_valueOf ke ma (0 : Int32)) + (4 : Int32)) (0 : Int32) gn)) (w1 := (W_Mo cI cL b0 b1 b2 b3 b4 b5 b6 b7 ev wr wg ke ma li ps pn cy t1_0 t1_1 cn (f_Mo_valueOf ke ma (0 : Int32)) px go ((f_Mo_valueOf ke ma (0 : Int32)) + (4 : Int32)) (0 : Int32) gn)) hP hD hS hA [0, 1, 2, 3, 4, 5, 6, 7] rfl [b0, b1, b2, b3, b4, b5, b6, b7] rfl rfl (va_runV (rest := []) ⟨hx, hb, hml, hown, hg⟩ (c_Mo_field l D cI cL b0 b1 b2 b3 b4 b5 b6 b7 _ ev wr wg ke ma li ps pn cy t1_0 t1_1 cn (f_Mo_valueOf ke ma (0 : Int32)) px go ((f_Mo_valueOf ke ma (0 : Int32)) + (4 : Int32)) (0 : Int32) gn (7 : Int32) (5 : Int32)) ⟨callB_of 2 hg (gw_good m_637) rfl rfl rfl (hg _ m_71) (hg _ m_634) hd_Mo_field ⟨Nat.le_of_ble_eq_true rfl, Nat.le_of_ble_eq_true rfl⟩, hg _ m_636, hg _ m_45⟩ (pw_V hK hN hT hA hP hD hS [0, 1, 2, 3, 4, 5, 6, 7] rfl (by decide) (q0 := 0) (ci := 5) rfl rfl) rfl rfl hl.1 rfl (lv_room (Nat.le_of_ble_eq_true rfl)) d_Mo_instruct_95 ⟨Nat.le_of_ble_eq_true rfl, Nat.le_of_ble_eq_true rfl⟩) (fun H locs hP hD hS => ?_)
      have hP : va_P D classes (W_Mo cI cL b0 b1 b2 b3 b4 b5 b6 b7 ev wr wg ke ma li ps pn cy t1_0 t1_1 cn (f_Mo_valueOf ke ma (0 : Int32)) px go ((f_Mo_valueOf ke ma (0 : Int32)) + (4 : Int32)) (0 : Int32) gn) H := hP
      have hD : va_D A (W_Mo cI cL b0 b1 b2 b3 b4 b5 b6 b7 ev wr wg ke ma li ps pn cy t1_0 t1_1 cn (f_Mo_valueOf ke ma (0 : Int32)) px go ((f_Mo_valueOf ke ma (0 : Int32)) + (4 : Int32)) (0 : Int32) gn) := hD
      refine lv_istore_n (lv' := [(1, .int _), (0, .ref _)]) hx hb d_Mo_instruct_98 rfl hl (by decide) rfl (fun ls hl => ?_)
      refine lv_aload_n hx hb d_Mo_instruct_99 rfl (lv_at hl 1 rfl) ?_
      refine va_get (ci := 5) (C := R_Mo) (T := F_Mo) (N := 18) hx hb hg in_Mo hown hK hP 0 rfl rfl 16 (by decide) (hg _ m_519) (fun _ h => h) rfl d_Mo_instruct_100 ?_
      refine lv_if_eq (tgt := 119) hx hb d_Mo_instruct_103 (by decide) (fun _ => ?_) (fun h => absurd (by decide) h)
      refine lv_aload_n hx hb d_Mo_instruct_119 rfl (lv_at hl 1 rfl) ?_
      refine lv_iconst (v := 0) hx hb d_Mo_instruct_120 (by decide) ?_
      refine lv_aload_n hx hb d_Mo_instruct_121 rfl (lv_at hl 1 rfl) ?_
      refine va_get (ci := 5) (C := R_Mo) (T := F_Mo) (N := 18) hx hb hg in_Mo hown hK hP 0 rfl rfl 15 (by decide) (hg _ m_518) (fun _ h => h) rfl d_Mo_instruct_122 ?_
      refine cj_v (wc := (W_Mo cI cL b0 b1 b2 b3 b4 b5 b6 b7 ev wr wg ke ma li ps pn cy t1_0 t1_1 cn (f_Mo_valueOf ke ma (0 : Int32)) px go ((f_Mo_valueOf ke ma (0 : Int32)) + (4 : Int32)) (0 : Int32) gn)) (w1 := (W_Mo cI cL b0 b1 b2 b3 b4 b5 b6 b7 ev wr wg ((f_Mo_put ke ma (0 : Int32) ((f_Mo_valueOf ke ma (0 : Int32)) + (4 : Int32))).1) ((f_Mo_put ke ma (0 : Int32) ((f_Mo_valueOf ke ma (0 : Int32)) + (4 : Int32))).2) li ps pn cy t1_0 t1_1 cn (f_Mo_valueOf ke ma (0 : Int32)) px go ((f_Mo_valueOf ke ma (0 : Int32)) + (4 : Int32)) (0 : Int32) gn)) hP hD hS hA [0, 1, 2, 3, 4, 5, 6, 7] rfl [b0, b1, b2, b3, b4, b5, b6, b7] rfl rfl (va_runV (rest := []) ⟨hx, hb, hml, hown, hg⟩ (c_Mo_put l D cI cL b0 b1 b2 b3 b4 b5 b6 b7 _ ev wr wg ke ma li ps pn cy t1_0 t1_1 cn (f_Mo_valueOf ke ma (0 : Int32)) px go ((f_Mo_valueOf ke ma (0 : Int32)) + (4 : Int32)) (0 : Int32) gn (0 : Int32) ((f_Mo_valueOf ke ma (0 : Int32)) + (4 : Int32)) (vp_ofb (by decide))) ⟨callB_of 2 hg (gw_good m_587) rfl rfl rfl (hg _ m_71) (hg _ m_584) hd_Mo_put ⟨Nat.le_of_ble_eq_true rfl, Nat.le_of_ble_eq_true rfl⟩, hg _ m_586, hg _ m_38⟩ (pw_V hK hN hT hA hP hD hS [0, 1, 2, 3, 4, 5, 6, 7] rfl (by decide) (q0 := 0) (ci := 5) rfl rfl) rfl rfl hl.1 rfl (lv_room (Nat.le_of_ble_eq_true rfl)) d_Mo_instruct_125 ⟨Nat.le_of_ble_eq_true rfl, Nat.le_of_ble_eq_true rfl⟩) (fun H locs hP hD hS => ?_)
      have hP : va_P D classes (W_Mo cI cL b0 b1 b2 b3 b4 b5 b6 b7 ev wr wg ((f_Mo_put ke ma (0 : Int32) ((f_Mo_valueOf ke ma (0 : Int32)) + (4 : Int32))).1) ((f_Mo_put ke ma (0 : Int32) ((f_Mo_valueOf ke ma (0 : Int32)) + (4 : Int32))).2) li ps pn cy t1_0 t1_1 cn (f_Mo_valueOf ke ma (0 : Int32)) px go ((f_Mo_valueOf ke ma (0 : Int32)) + (4 : Int32)) (0 : Int32) gn) H := hP
      have hD : va_D A (W_Mo cI cL b0 b1 b2 b3 b4 b5 b6 b7 ev wr wg ((f_Mo_put ke ma (0 : Int32) ((f_Mo_valueOf ke ma (0 : Int32)) + (4 : Int32))).1) ((f_Mo_put ke ma (0 : Int32) ((f_Mo_valueOf ke ma (0 : Int32)) + (4 : Int32))).2) li ps pn cy t1_0 t1_1 cn (f_Mo_valueOf ke ma (0 : Int32)) px go ((f_Mo_valueOf ke ma (0 : Int32)) + (4 : Int32)) (0 : Int32) gn) := hD
      generalize e_t2 : f_Mo_put ke ma (0 : Int32) ((f_Mo_valueOf ke ma (0 : Int32)) + (4 : Int32)) = t2 at hP hD ⊢
      obtain ⟨t2_0, t2_1⟩ := t2
      have hP : va_P D classes (W_Mo cI cL b0 b1 b2 b3 b4 b5 b6 b7 ev wr wg t2_0 t2_1 li ps pn cy t1_0 t1_1 cn (f_Mo_valueOf ke ma (0 : Int32)) px go ((f_Mo_valueOf ke ma (0 : Int32)) + (4 : Int32)) (0 : Int32) gn) H := hP
      have hD : va_D A (W_Mo cI cL b0 b1 b2 b3 b4 b5 b6 b7 ev wr wg t2_0 t2_1 li ps pn cy t1_0 t1_1 cn (f_Mo_valueOf ke ma (0 : Int32)) px go ((f_Mo_valueOf ke ma (0 : Int32)) + (4 : Int32)) (0 : Int32) gn) := hD
      rw [f_Mo_instruct_e1 wr wg ke ma li ca va cn pp px go ne gi gn (t1_0, t1_1) (t2_0, t2_1) e_t1 e_t2 h30 h88]
      exact W.vret hx hb hr (fun t ht hW => ⟨⟨(), rfl, trivial, by show va_P D classes _ t.heap; rw [ht]; exact hP⟩, hS.F ht⟩) hS.2.2 d_Mo_instruct_128 hlocks
  · refine lv_aload_n hx hb d_Mo_instruct_33 rfl (lv_at hl 0 rfl) ?_
    refine va_get (ci := 5) (C := R_Mo) (T := F_Mo) (N := 18) hx hb hg in_Mo hown hK hP 0 rfl rfl 12 (by decide) (hg _ m_515) (fun _ h => h) rfl d_Mo_instruct_34 ?_
    refine lv_sipush (v := 255) hx hb d_Mo_instruct_37 (by decide) ?_
    refine cj_i (wc := []) (w1 := []) hP hD hS hA [] rfl [] rfl rfl (va_runS (rest := []) ⟨hx, hb, hml, hown, hg⟩ (c_Mo_outside l D cI cL  _ (f_Mo_valueOf ke ma (0 : Int32)) (255 : Int32)) ⟨callB_of 2 hg (gw_good m_564) rfl rfl rfl (hg _ m_71) (hg _ m_562) hd_Mo_outside ⟨Nat.le_of_ble_eq_true rfl, Nat.le_of_ble_eq_true rfl⟩, hg _ m_563⟩ (pw_S hK hN hT hA hP hD hS [] rfl (by decide)) rfl rfl hl.1 rfl (lv_room (Nat.le_of_ble_eq_true rfl)) d_Mo_instruct_40 ⟨Nat.le_of_ble_eq_true rfl, Nat.le_of_ble_eq_true rfl⟩) (fun H locs hP hD hS => ?_)
    have hP : va_P D classes (W_Mo cI cL b0 b1 b2 b3 b4 b5 b6 b7 ev wr wg ke ma li ps pn cy ca va cn (f_Mo_valueOf ke ma (0 : Int32)) px go ((f_Mo_valueOf ke ma (0 : Int32)) + (4 : Int32)) (0 : Int32) gn) H := hP
    have hD : va_D A (W_Mo cI cL b0 b1 b2 b3 b4 b5 b6 b7 ev wr wg ke ma li ps pn cy ca va cn (f_Mo_valueOf ke ma (0 : Int32)) px go ((f_Mo_valueOf ke ma (0 : Int32)) + (4 : Int32)) (0 : Int32) gn) := hD
    refine lv_if_eq (tgt := 58) hx hb d_Mo_instruct_43 (by decide) (fun h43 => ?_) (fun h43 => ?_)
    · refine lv_aload_n hx hb d_Mo_instruct_58 rfl (lv_at hl 0 rfl) ?_
      refine lv_iconst (v := 0) hx hb d_Mo_instruct_59 (by decide) ?_
      refine lv_aload_n hx hb d_Mo_instruct_60 rfl (lv_at hl 0 rfl) ?_
      refine va_get (ci := 5) (C := R_Mo) (T := F_Mo) (N := 18) hx hb hg in_Mo hown hK hP 0 rfl rfl 12 (by decide) (hg _ m_515) (fun _ h => h) rfl d_Mo_instruct_61 ?_
      refine lv_iconst (v := 4) hx hb d_Mo_instruct_64 (by decide) ?_
      refine lv_idiv hx hb d_Mo_instruct_65 (by decide) ?_
      refine cj_i (wc := (W_Mo cI cL b0 b1 b2 b3 b4 b5 b6 b7 ev wr wg ke ma li ps pn cy ca va cn (f_Mo_valueOf ke ma (0 : Int32)) px go ((f_Mo_valueOf ke ma (0 : Int32)) + (4 : Int32)) (0 : Int32) gn)) (w1 := (W_Mo cI cL b0 b1 b2 b3 b4 b5 b6 b7 ev wr ((f_Mo_fetch wr wg li ca va cn go (0 : Int32) ((f_Mo_valueOf ke ma (0 : Int32)) / (4 : Int32))).2.1) ke ma ((f_Mo_fetch wr wg li ca va cn go (0 : Int32) ((f_Mo_valueOf ke ma (0 : Int32)) / (4 : Int32))).2.2.1) ps pn cy ((f_Mo_fetch wr wg li ca va cn go (0 : Int32) ((f_Mo_valueOf ke ma (0 : Int32)) / (4 : Int32))).2.2.2.1) ((f_Mo_fetch wr wg li ca va cn go (0 : Int32) ((f_Mo_valueOf ke ma (0 : Int32)) / (4 : Int32))).2.2.2.2.1) ((f_Mo_fetch wr wg li ca va cn go (0 : Int32) ((f_Mo_valueOf ke ma (0 : Int32)) / (4 : Int32))).2.2.2.2.2.1) (f_Mo_valueOf ke ma (0 : Int32)) px ((f_Mo_fetch wr wg li ca va cn go (0 : Int32) ((f_Mo_valueOf ke ma (0 : Int32)) / (4 : Int32))).2.2.2.2.2.2) ((f_Mo_valueOf ke ma (0 : Int32)) + (4 : Int32)) (0 : Int32) gn)) hP hD hS hA [0, 1, 2, 3, 4, 5, 6, 7] rfl [b0, b1, b2, b3, b4, b5, b6, b7] rfl rfl (va_runV (rest := []) ⟨hx, hb, hml, hown, hg⟩ (c_Mo_fetch l D cI cL b0 b1 b2 b3 b4 b5 b6 b7 _ ev wr wg ke ma li ps pn cy ca va cn (f_Mo_valueOf ke ma (0 : Int32)) px go ((f_Mo_valueOf ke ma (0 : Int32)) + (4 : Int32)) (0 : Int32) gn (0 : Int32) ((f_Mo_valueOf ke ma (0 : Int32)) / (4 : Int32)) (vp_ofb (by decide)) (in_out4 h43)) ⟨callB_of 2 hg (gw_good m_599) rfl rfl rfl (hg _ m_71) (hg _ m_596) hd_Mo_fetch ⟨Nat.le_of_ble_eq_true rfl, Nat.le_of_ble_eq_true rfl⟩, hg _ m_598, hg _ m_41⟩ (pw_V hK hN hT hA hP hD hS [0, 1, 2, 3, 4, 5, 6, 7] rfl (by decide) (q0 := 0) (ci := 5) rfl rfl) rfl rfl hl.1 rfl (lv_room (Nat.le_of_ble_eq_true rfl)) d_Mo_instruct_66 ⟨Nat.le_of_ble_eq_true rfl, Nat.le_of_ble_eq_true rfl⟩) (fun H locs hP hD hS => ?_)
      have hP : va_P D classes (W_Mo cI cL b0 b1 b2 b3 b4 b5 b6 b7 ev wr ((f_Mo_fetch wr wg li ca va cn go (0 : Int32) ((f_Mo_valueOf ke ma (0 : Int32)) / (4 : Int32))).2.1) ke ma ((f_Mo_fetch wr wg li ca va cn go (0 : Int32) ((f_Mo_valueOf ke ma (0 : Int32)) / (4 : Int32))).2.2.1) ps pn cy ((f_Mo_fetch wr wg li ca va cn go (0 : Int32) ((f_Mo_valueOf ke ma (0 : Int32)) / (4 : Int32))).2.2.2.1) ((f_Mo_fetch wr wg li ca va cn go (0 : Int32) ((f_Mo_valueOf ke ma (0 : Int32)) / (4 : Int32))).2.2.2.2.1) ((f_Mo_fetch wr wg li ca va cn go (0 : Int32) ((f_Mo_valueOf ke ma (0 : Int32)) / (4 : Int32))).2.2.2.2.2.1) (f_Mo_valueOf ke ma (0 : Int32)) px ((f_Mo_fetch wr wg li ca va cn go (0 : Int32) ((f_Mo_valueOf ke ma (0 : Int32)) / (4 : Int32))).2.2.2.2.2.2) ((f_Mo_valueOf ke ma (0 : Int32)) + (4 : Int32)) (0 : Int32) gn) H := hP
      have hD : va_D A (W_Mo cI cL b0 b1 b2 b3 b4 b5 b6 b7 ev wr ((f_Mo_fetch wr wg li ca va cn go (0 : Int32) ((f_Mo_valueOf ke ma (0 : Int32)) / (4 : Int32))).2.1) ke ma ((f_Mo_fetch wr wg li ca va cn go (0 : Int32) ((f_Mo_valueOf ke ma (0 : Int32)) / (4 : Int32))).2.2.1) ps pn cy ((f_Mo_fetch wr wg li ca va cn go (0 : Int32) ((f_Mo_valueOf ke ma (0 : Int32)) / (4 : Int32))).2.2.2.1) ((f_Mo_fetch wr wg li ca va cn go (0 : Int32) ((f_Mo_valueOf ke ma (0 : Int32)) / (4 : Int32))).2.2.2.2.1) ((f_Mo_fetch wr wg li ca va cn go (0 : Int32) ((f_Mo_valueOf ke ma (0 : Int32)) / (4 : Int32))).2.2.2.2.2.1) (f_Mo_valueOf ke ma (0 : Int32)) px ((f_Mo_fetch wr wg li ca va cn go (0 : Int32) ((f_Mo_valueOf ke ma (0 : Int32)) / (4 : Int32))).2.2.2.2.2.2) ((f_Mo_valueOf ke ma (0 : Int32)) + (4 : Int32)) (0 : Int32) gn) := hD
      generalize e_t3 : f_Mo_fetch wr wg li ca va cn go (0 : Int32) ((f_Mo_valueOf ke ma (0 : Int32)) / (4 : Int32)) = t3 at hP hD ⊢
      obtain ⟨t3_0, t3_1, t3_2, t3_3, t3_4, t3_5, t3_6⟩ := t3
      have hP : va_P D classes (W_Mo cI cL b0 b1 b2 b3 b4 b5 b6 b7 ev wr t3_1 ke ma t3_2 ps pn cy t3_3 t3_4 t3_5 (f_Mo_valueOf ke ma (0 : Int32)) px t3_6 ((f_Mo_valueOf ke ma (0 : Int32)) + (4 : Int32)) (0 : Int32) gn) H := hP
      have hD : va_D A (W_Mo cI cL b0 b1 b2 b3 b4 b5 b6 b7 ev wr t3_1 ke ma t3_2 ps pn cy t3_3 t3_4 t3_5 (f_Mo_valueOf ke ma (0 : Int32)) px t3_6 ((f_Mo_valueOf ke ma (0 : Int32)) + (4 : Int32)) (0 : Int32) gn) := hD
      refine W.eq (g2 := F0 m 69 ls (.int t3_0 :: [])) rfl ?_
      refine lv_if_eq (tgt := 84) hx hb d_Mo_instruct_69 (by decide) (fun h69 => ?_) (fun h69 => ?_)
      · refine lv_aload_n hx hb d_Mo_instruct_84 rfl (lv_at hl 0 rfl) ?_
        refine va_get (ci := 5) (C := R_Mo) (T := F_Mo) (N := 18) hx hb hg in_Mo hown hK hP 0 rfl rfl 9 (by decide) (hg _ m_512) (fun _ h => h) rfl d_Mo_instruct_85 ?_
        refine lv_if_ne (tgt := 128) hx hb d_Mo_instruct_88 (by decide) (fun h88 => ?_) (fun h88 => ?_)
        · rw [f_Mo_instruct_e2 wr wg ke ma li ca va cn pp px go ne gi gn (t3_0, t3_1, t3_2, t3_3, t3_4, t3_5, t3_6) e_t3 h30 h43 h69 h88]
          exact W.vret hx hb hr (fun t ht hW => ⟨⟨(), rfl, trivial, by show va_P D classes _ t.heap; rw [ht]; exact hP⟩, hS.F ht⟩) hS.2.2 d_Mo_instruct_128 hlocks
        · refine lv_aload_n hx hb d_Mo_instruct_91 rfl (lv_at hl 0 rfl) ?_
          refine lv_bipush (v := 7) hx hb d_Mo_instruct_92 (by decide) ?_
          refine lv_iconst (v := 5) hx hb d_Mo_instruct_94 (by decide) ?_
          refine cj_i (wc := (W_Mo cI cL b0 b1 b2 b3 b4 b5 b6 b7 ev wr t3_1 ke ma t3_2 ps pn cy t3_3 t3_4 t3_5 (f_Mo_valueOf ke ma (0 : Int32)) px t3_6 ((f_Mo_valueOf ke ma (0 : Int32)) + (4 : Int32)) (0 : Int32) gn)) (w1 := (W_Mo cI cL b0 b1 b2 b3 b4 b5 b6 b7 ev wr t3_1 ke ma t3_2 ps pn cy t3_3 t3_4 t3_5 (f_Mo_valueOf ke ma (0 : Int32)) px t3_6 ((f_Mo_valueOf ke ma (0 : Int32)) + (4 : Int32)) (0 : Int32) gn)) hP hD hS hA [0, 1, 2, 3, 4, 5, 6, 7] rfl [b0, b1, b2, b3, b4, b5, b6, b7] rfl rfl (va_runV (rest := []) ⟨hx, hb, hml, hown, hg⟩ (c_Mo_field l D cI cL b0 b1 b2 b3 b4 b5 b6 b7 _ ev wr t3_1 ke ma t3_2 ps pn cy t3_3 t3_4 t3_5 (f_Mo_valueOf ke ma (0 : Int32)) px t3_6 ((f_Mo_valueOf ke ma (0 : Int32)) + (4 : Int32)) (0 : Int32) gn (7 : Int32) (5 : Int32)) ⟨callB_of 2 hg (gw_good m_637) rfl rfl rfl (hg _ m_71) (hg _ m_634) hd_Mo_field ⟨Nat.le_of_ble_eq_true rfl, Nat.le_of_ble_eq_true rfl⟩, hg _ m_636, hg _ m_45⟩ (pw_V hK hN hT hA hP hD hS [0, 1, 2, 3, 4, 5, 6, 7] rfl (by decide) (q0 := 0) (ci := 5) rfl rfl) rfl rfl hl.1 rfl (lv_room (Nat.le_of_ble_eq_true rfl)) d_Mo_instruct_95 ⟨Nat.le_of_ble_eq_true rfl, Nat.le_of_ble_eq_true rfl⟩) (fun H locs hP hD hS => ?_)
          have hP : va_P D classes (W_Mo cI cL b0 b1 b2 b3 b4 b5 b6 b7 ev wr t3_1 ke ma t3_2 ps pn cy t3_3 t3_4 t3_5 (f_Mo_valueOf ke ma (0 : Int32)) px t3_6 ((f_Mo_valueOf ke ma (0 : Int32)) + (4 : Int32)) (0 : Int32) gn) H := hP
          have hD : va_D A (W_Mo cI cL b0 b1 b2 b3 b4 b5 b6 b7 ev wr t3_1 ke ma t3_2 ps pn cy t3_3 t3_4 t3_5 (f_Mo_valueOf ke ma (0 : Int32)) px t3_6 ((f_Mo_valueOf ke ma (0 : Int32)) + (4 : Int32)) (0 : Int32) gn) := hD
          refine lv_istore_n (lv' := [(1, .int _), (0, .ref _)]) hx hb d_Mo_instruct_98 rfl hl (by decide) rfl (fun ls hl => ?_)
          refine lv_aload_n hx hb d_Mo_instruct_99 rfl (lv_at hl 1 rfl) ?_
          refine va_get (ci := 5) (C := R_Mo) (T := F_Mo) (N := 18) hx hb hg in_Mo hown hK hP 0 rfl rfl 16 (by decide) (hg _ m_519) (fun _ h => h) rfl d_Mo_instruct_100 ?_
          refine lv_if_eq (tgt := 119) hx hb d_Mo_instruct_103 (by decide) (fun _ => ?_) (fun h => absurd (by decide) h)
          refine lv_aload_n hx hb d_Mo_instruct_119 rfl (lv_at hl 1 rfl) ?_
          refine lv_iconst (v := 0) hx hb d_Mo_instruct_120 (by decide) ?_
          refine lv_aload_n hx hb d_Mo_instruct_121 rfl (lv_at hl 1 rfl) ?_
          refine va_get (ci := 5) (C := R_Mo) (T := F_Mo) (N := 18) hx hb hg in_Mo hown hK hP 0 rfl rfl 15 (by decide) (hg _ m_518) (fun _ h => h) rfl d_Mo_instruct_122 ?_
          refine cj_v (wc := (W_Mo cI cL b0 b1 b2 b3 b4 b5 b6 b7 ev wr t3_1 ke ma t3_2 ps pn cy t3_3 t3_4 t3_5 (f_Mo_valueOf ke ma (0 : Int32)) px t3_6 ((f_Mo_valueOf ke ma (0 : Int32)) + (4 : Int32)) (0 : Int32) gn)) (w1 := (W_Mo cI cL b0 b1 b2 b3 b4 b5 b6 b7 ev wr t3_1 ((f_Mo_put ke ma (0 : Int32) ((f_Mo_valueOf ke ma (0 : Int32)) + (4 : Int32))).1) ((f_Mo_put ke ma (0 : Int32) ((f_Mo_valueOf ke ma (0 : Int32)) + (4 : Int32))).2) t3_2 ps pn cy t3_3 t3_4 t3_5 (f_Mo_valueOf ke ma (0 : Int32)) px t3_6 ((f_Mo_valueOf ke ma (0 : Int32)) + (4 : Int32)) (0 : Int32) gn)) hP hD hS hA [0, 1, 2, 3, 4, 5, 6, 7] rfl [b0, b1, b2, b3, b4, b5, b6, b7] rfl rfl (va_runV (rest := []) ⟨hx, hb, hml, hown, hg⟩ (c_Mo_put l D cI cL b0 b1 b2 b3 b4 b5 b6 b7 _ ev wr t3_1 ke ma t3_2 ps pn cy t3_3 t3_4 t3_5 (f_Mo_valueOf ke ma (0 : Int32)) px t3_6 ((f_Mo_valueOf ke ma (0 : Int32)) + (4 : Int32)) (0 : Int32) gn (0 : Int32) ((f_Mo_valueOf ke ma (0 : Int32)) + (4 : Int32)) (vp_ofb (by decide))) ⟨callB_of 2 hg (gw_good m_587) rfl rfl rfl (hg _ m_71) (hg _ m_584) hd_Mo_put ⟨Nat.le_of_ble_eq_true rfl, Nat.le_of_ble_eq_true rfl⟩, hg _ m_586, hg _ m_38⟩ (pw_V hK hN hT hA hP hD hS [0, 1, 2, 3, 4, 5, 6, 7] rfl (by decide) (q0 := 0) (ci := 5) rfl rfl) rfl rfl hl.1 rfl (lv_room (Nat.le_of_ble_eq_true rfl)) d_Mo_instruct_125 ⟨Nat.le_of_ble_eq_true rfl, Nat.le_of_ble_eq_true rfl⟩) (fun H locs hP hD hS => ?_)
          have hP : va_P D classes (W_Mo cI cL b0 b1 b2 b3 b4 b5 b6 b7 ev wr t3_1 ((f_Mo_put ke ma (0 : Int32) ((f_Mo_valueOf ke ma (0 : Int32)) + (4 : Int32))).1) ((f_Mo_put ke ma (0 : Int32) ((f_Mo_valueOf ke ma (0 : Int32)) + (4 : Int32))).2) t3_2 ps pn cy t3_3 t3_4 t3_5 (f_Mo_valueOf ke ma (0 : Int32)) px t3_6 ((f_Mo_valueOf ke ma (0 : Int32)) + (4 : Int32)) (0 : Int32) gn) H := hP
          have hD : va_D A (W_Mo cI cL b0 b1 b2 b3 b4 b5 b6 b7 ev wr t3_1 ((f_Mo_put ke ma (0 : Int32) ((f_Mo_valueOf ke ma (0 : Int32)) + (4 : Int32))).1) ((f_Mo_put ke ma (0 : Int32) ((f_Mo_valueOf ke ma (0 : Int32)) + (4 : Int32))).2) t3_2 ps pn cy t3_3 t3_4 t3_5 (f_Mo_valueOf ke ma (0 : Int32)) px t3_6 ((f_Mo_valueOf ke ma (0 : Int32)) + (4 : Int32)) (0 : Int32) gn) := hD
          generalize e_t4 : f_Mo_put ke ma (0 : Int32) ((f_Mo_valueOf ke ma (0 : Int32)) + (4 : Int32)) = t4 at hP hD ⊢
          obtain ⟨t4_0, t4_1⟩ := t4
          have hP : va_P D classes (W_Mo cI cL b0 b1 b2 b3 b4 b5 b6 b7 ev wr t3_1 t4_0 t4_1 t3_2 ps pn cy t3_3 t3_4 t3_5 (f_Mo_valueOf ke ma (0 : Int32)) px t3_6 ((f_Mo_valueOf ke ma (0 : Int32)) + (4 : Int32)) (0 : Int32) gn) H := hP
          have hD : va_D A (W_Mo cI cL b0 b1 b2 b3 b4 b5 b6 b7 ev wr t3_1 t4_0 t4_1 t3_2 ps pn cy t3_3 t3_4 t3_5 (f_Mo_valueOf ke ma (0 : Int32)) px t3_6 ((f_Mo_valueOf ke ma (0 : Int32)) + (4 : Int32)) (0 : Int32) gn) := hD
          rw [f_Mo_instruct_e3 wr wg ke ma li ca va cn pp px go ne gi gn (t3_0, t3_1, t3_2, t3_3, t3_4, t3_5, t3_6) (t4_0, t4_1) e_t3 e_t4 h30 h43 h69 h88]
          exact W.vret hx hb hr (fun t ht hW => ⟨⟨(), rfl, trivial, by show va_P D classes _ t.heap; rw [ht]; exact hP⟩, hS.F ht⟩) hS.2.2 d_Mo_instruct_128 hlocks
      · refine lv_aload_n hx hb d_Mo_instruct_72 rfl (lv_at hl 0 rfl) ?_
        refine lv_aload_n hx hb d_Mo_instruct_73 rfl (lv_at hl 0 rfl) ?_
        refine va_get (ci := 5) (C := R_Mo) (T := F_Mo) (N := 18) hx hb hg in_Mo hown hK hP 0 rfl rfl 14 (by decide) (hg _ m_517) (fun _ h => h) rfl d_Mo_instruct_74 ?_
        refine va_put (ci := 5) (ty := .int) (C := R_Mo) (T := F_Mo) (N := 18) hx hb hg in_Mo t_Mo t_Mo_ok n_Mo hown hK hP hD hS 0 rfl rfl 13 (by decide) (hg _ m_516) (fun _ h => h) rfl (by decide +kernel) rfl rfl (Nat.le_of_ble_eq_true rfl) d_Mo_instruct_77 (fun H locs hP hD hS => ?_)
        have hP : va_P D classes (W_Mo cI cL b0 b1 b2 b3 b4 b5 b6 b7 ev wr t3_1 ke ma t3_2 ps pn cy t3_3 t3_4 t3_5 (f_Mo_valueOf ke ma (0 : Int32)) t3_6 t3_6 ((f_Mo_valueOf ke ma (0 : Int32)) + (4 : Int32)) (0 : Int32) gn) H := hP
        have hD : va_D A (W_Mo cI cL b0 b1 b2 b3 b4 b5 b6 b7 ev wr t3_1 ke ma t3_2 ps pn cy t3_3 t3_4 t3_5 (f_Mo_valueOf ke ma (0 : Int32)) t3_6 t3_6 ((f_Mo_valueOf ke ma (0 : Int32)) + (4 : Int32)) (0 : Int32) gn) := hD
        refine lv_aload_n hx hb d_Mo_instruct_80 rfl (lv_at hl 0 rfl) ?_
        refine cj_v (wc := (W_Mo cI cL b0 b1 b2 b3 b4 b5 b6 b7 ev wr t3_1 ke ma t3_2 ps pn cy t3_3 t3_4 t3_5 (f_Mo_valueOf ke ma (0 : Int32)) t3_6 t3_6 ((f_Mo_valueOf ke ma (0 : Int32)) + (4 : Int32)) (0 : Int32) gn)) (w1 := (W_Mo cI cL b0 b1 b2 b3 b4 b5 b6 b7 ev ((f_Mo_execute wr t3_1 ke ma t3_2 t3_3 t3_4 t3_5 (f_Mo_valueOf ke ma (0 : Int32)) t3_6 t3_6 ((f_Mo_valueOf ke ma (0 : Int32)) + (4 : Int32)) (0 : Int32) gn).1) ((f_Mo_execute wr t3_1 ke ma t3_2 t3_3 t3_4 t3_5 (f_Mo_valueOf ke ma (0 : Int32)) t3_6 t3_6 ((f_Mo_valueOf ke ma (0 : Int32)) + (4 : Int32)) (0 : Int32) gn).2.1) ke ma ((f_Mo_execute wr t3_1 ke ma t3_2 t3_3 t3_4 t3_5 (f_Mo_valueOf ke ma (0 : Int32)) t3_6 t3_6 ((f_Mo_valueOf ke ma (0 : Int32)) + (4 : Int32)) (0 : Int32) gn).2.2.1) ps pn cy ((f_Mo_execute wr t3_1 ke ma t3_2 t3_3 t3_4 t3_5 (f_Mo_valueOf ke ma (0 : Int32)) t3_6 t3_6 ((f_Mo_valueOf ke ma (0 : Int32)) + (4 : Int32)) (0 : Int32) gn).2.2.2.1) ((f_Mo_execute wr t3_1 ke ma t3_2 t3_3 t3_4 t3_5 (f_Mo_valueOf ke ma (0 : Int32)) t3_6 t3_6 ((f_Mo_valueOf ke ma (0 : Int32)) + (4 : Int32)) (0 : Int32) gn).2.2.2.2.1) ((f_Mo_execute wr t3_1 ke ma t3_2 t3_3 t3_4 t3_5 (f_Mo_valueOf ke ma (0 : Int32)) t3_6 t3_6 ((f_Mo_valueOf ke ma (0 : Int32)) + (4 : Int32)) (0 : Int32) gn).2.2.2.2.2.1) (f_Mo_valueOf ke ma (0 : Int32)) t3_6 ((f_Mo_execute wr t3_1 ke ma t3_2 t3_3 t3_4 t3_5 (f_Mo_valueOf ke ma (0 : Int32)) t3_6 t3_6 ((f_Mo_valueOf ke ma (0 : Int32)) + (4 : Int32)) (0 : Int32) gn).2.2.2.2.2.2.1) ((f_Mo_execute wr t3_1 ke ma t3_2 t3_3 t3_4 t3_5 (f_Mo_valueOf ke ma (0 : Int32)) t3_6 t3_6 ((f_Mo_valueOf ke ma (0 : Int32)) + (4 : Int32)) (0 : Int32) gn).2.2.2.2.2.2.2.1) ((f_Mo_execute wr t3_1 ke ma t3_2 t3_3 t3_4 t3_5 (f_Mo_valueOf ke ma (0 : Int32)) t3_6 t3_6 ((f_Mo_valueOf ke ma (0 : Int32)) + (4 : Int32)) (0 : Int32) gn).2.2.2.2.2.2.2.2.1) ((f_Mo_execute wr t3_1 ke ma t3_2 t3_3 t3_4 t3_5 (f_Mo_valueOf ke ma (0 : Int32)) t3_6 t3_6 ((f_Mo_valueOf ke ma (0 : Int32)) + (4 : Int32)) (0 : Int32) gn).2.2.2.2.2.2.2.2.2))) hP hD hS hA [0, 1, 2, 3, 4, 5, 6, 7] rfl [b0, b1, b2, b3, b4, b5, b6, b7] rfl rfl (va_runV (rest := []) ⟨hx, hb, hml, hown, hg⟩ (c_Mo_execute l D cI cL b0 b1 b2 b3 b4 b5 b6 b7 _ ev wr t3_1 ke ma t3_2 ps pn cy t3_3 t3_4 t3_5 (f_Mo_valueOf ke ma (0 : Int32)) t3_6 t3_6 ((f_Mo_valueOf ke ma (0 : Int32)) + (4 : Int32)) (0 : Int32) gn) ⟨callB_of 0 hg (gw_good m_633) rfl rfl rfl (hg _ m_71) (hg _ m_630) hd_Mo_execute ⟨Nat.le_of_ble_eq_true rfl, Nat.le_of_ble_eq_true rfl⟩, hg _ m_632, hg _ m_44⟩ (pw_V hK hN hT hA hP hD hS [0, 1, 2, 3, 4, 5, 6, 7] rfl (by decide) (q0 := 0) (ci := 5) rfl rfl) rfl rfl hl.1 rfl (lv_room (Nat.le_of_ble_eq_true rfl)) d_Mo_instruct_81 ⟨Nat.le_of_ble_eq_true rfl, Nat.le_of_ble_eq_true rfl⟩) (fun H locs hP hD hS => ?_)
        have hP : va_P D classes (W_Mo cI cL b0 b1 b2 b3 b4 b5 b6 b7 ev ((f_Mo_execute wr t3_1 ke ma t3_2 t3_3 t3_4 t3_5 (f_Mo_valueOf ke ma (0 : Int32)) t3_6 t3_6 ((f_Mo_valueOf ke ma (0 : Int32)) + (4 : Int32)) (0 : Int32) gn).1) ((f_Mo_execute wr t3_1 ke ma t3_2 t3_3 t3_4 t3_5 (f_Mo_valueOf ke ma (0 : Int32)) t3_6 t3_6 ((f_Mo_valueOf ke ma (0 : Int32)) + (4 : Int32)) (0 : Int32) gn).2.1) ke ma ((f_Mo_execute wr t3_1 ke ma t3_2 t3_3 t3_4 t3_5 (f_Mo_valueOf ke ma (0 : Int32)) t3_6 t3_6 ((f_Mo_valueOf ke ma (0 : Int32)) + (4 : Int32)) (0 : Int32) gn).2.2.1) ps pn cy ((f_Mo_execute wr t3_1 ke ma t3_2 t3_3 t3_4 t3_5 (f_Mo_valueOf ke ma (0 : Int32)) t3_6 t3_6 ((f_Mo_valueOf ke ma (0 : Int32)) + (4 : Int32)) (0 : Int32) gn).2.2.2.1) ((f_Mo_execute wr t3_1 ke ma t3_2 t3_3 t3_4 t3_5 (f_Mo_valueOf ke ma (0 : Int32)) t3_6 t3_6 ((f_Mo_valueOf ke ma (0 : Int32)) + (4 : Int32)) (0 : Int32) gn).2.2.2.2.1) ((f_Mo_execute wr t3_1 ke ma t3_2 t3_3 t3_4 t3_5 (f_Mo_valueOf ke ma (0 : Int32)) t3_6 t3_6 ((f_Mo_valueOf ke ma (0 : Int32)) + (4 : Int32)) (0 : Int32) gn).2.2.2.2.2.1) (f_Mo_valueOf ke ma (0 : Int32)) t3_6 ((f_Mo_execute wr t3_1 ke ma t3_2 t3_3 t3_4 t3_5 (f_Mo_valueOf ke ma (0 : Int32)) t3_6 t3_6 ((f_Mo_valueOf ke ma (0 : Int32)) + (4 : Int32)) (0 : Int32) gn).2.2.2.2.2.2.1) ((f_Mo_execute wr t3_1 ke ma t3_2 t3_3 t3_4 t3_5 (f_Mo_valueOf ke ma (0 : Int32)) t3_6 t3_6 ((f_Mo_valueOf ke ma (0 : Int32)) + (4 : Int32)) (0 : Int32) gn).2.2.2.2.2.2.2.1) ((f_Mo_execute wr t3_1 ke ma t3_2 t3_3 t3_4 t3_5 (f_Mo_valueOf ke ma (0 : Int32)) t3_6 t3_6 ((f_Mo_valueOf ke ma (0 : Int32)) + (4 : Int32)) (0 : Int32) gn).2.2.2.2.2.2.2.2.1) ((f_Mo_execute wr t3_1 ke ma t3_2 t3_3 t3_4 t3_5 (f_Mo_valueOf ke ma (0 : Int32)) t3_6 t3_6 ((f_Mo_valueOf ke ma (0 : Int32)) + (4 : Int32)) (0 : Int32) gn).2.2.2.2.2.2.2.2.2)) H := hP
        have hD : va_D A (W_Mo cI cL b0 b1 b2 b3 b4 b5 b6 b7 ev ((f_Mo_execute wr t3_1 ke ma t3_2 t3_3 t3_4 t3_5 (f_Mo_valueOf ke ma (0 : Int32)) t3_6 t3_6 ((f_Mo_valueOf ke ma (0 : Int32)) + (4 : Int32)) (0 : Int32) gn).1) ((f_Mo_execute wr t3_1 ke ma t3_2 t3_3 t3_4 t3_5 (f_Mo_valueOf ke ma (0 : Int32)) t3_6 t3_6 ((f_Mo_valueOf ke ma (0 : Int32)) + (4 : Int32)) (0 : Int32) gn).2.1) ke ma ((f_Mo_execute wr t3_1 ke ma t3_2 t3_3 t3_4 t3_5 (f_Mo_valueOf ke ma (0 : Int32)) t3_6 t3_6 ((f_Mo_valueOf ke ma (0 : Int32)) + (4 : Int32)) (0 : Int32) gn).2.2.1) ps pn cy ((f_Mo_execute wr t3_1 ke ma t3_2 t3_3 t3_4 t3_5 (f_Mo_valueOf ke ma (0 : Int32)) t3_6 t3_6 ((f_Mo_valueOf ke ma (0 : Int32)) + (4 : Int32)) (0 : Int32) gn).2.2.2.1) ((f_Mo_execute wr t3_1 ke ma t3_2 t3_3 t3_4 t3_5 (f_Mo_valueOf ke ma (0 : Int32)) t3_6 t3_6 ((f_Mo_valueOf ke ma (0 : Int32)) + (4 : Int32)) (0 : Int32) gn).2.2.2.2.1) ((f_Mo_execute wr t3_1 ke ma t3_2 t3_3 t3_4 t3_5 (f_Mo_valueOf ke ma (0 : Int32)) t3_6 t3_6 ((f_Mo_valueOf ke ma (0 : Int32)) + (4 : Int32)) (0 : Int32) gn).2.2.2.2.2.1) (f_Mo_valueOf ke ma (0 : Int32)) t3_6 ((f_Mo_execute wr t3_1 ke ma t3_2 t3_3 t3_4 t3_5 (f_Mo_valueOf ke ma (0 : Int32)) t3_6 t3_6 ((f_Mo_valueOf ke ma (0 : Int32)) + (4 : Int32)) (0 : Int32) gn).2.2.2.2.2.2.1) ((f_Mo_execute wr t3_1 ke ma t3_2 t3_3 t3_4 t3_5 (f_Mo_valueOf ke ma (0 : Int32)) t3_6 t3_6 ((f_Mo_valueOf ke ma (0 : Int32)) + (4 : Int32)) (0 : Int32) gn).2.2.2.2.2.2.2.1) ((f_Mo_execute wr t3_1 ke ma t3_2 t3_3 t3_4 t3_5 (f_Mo_valueOf ke ma (0 : Int32)) t3_6 t3_6 ((f_Mo_valueOf ke ma (0 : Int32)) + (4 : Int32)) (0 : Int32) gn).2.2.2.2.2.2.2.2.1) ((f_Mo_execute wr t3_1 ke ma t3_2 t3_3 t3_4 t3_5 (f_Mo_valueOf ke ma (0 : Int32)) t3_6 t3_6 ((f_Mo_valueOf ke ma (0 : Int32)) + (4 : Int32)) (0 : Int32) gn).2.2.2.2.2.2.2.2.2)) := hD
        generalize e_t5 : f_Mo_execute wr t3_1 ke ma t3_2 t3_3 t3_4 t3_5 (f_Mo_valueOf ke ma (0 : Int32)) t3_6 t3_6 ((f_Mo_valueOf ke ma (0 : Int32)) + (4 : Int32)) (0 : Int32) gn = t5 at hP hD ⊢
        obtain ⟨t5_0, t5_1, t5_2, t5_3, t5_4, t5_5, t5_6, t5_7, t5_8, t5_9⟩ := t5
        have hP : va_P D classes (W_Mo cI cL b0 b1 b2 b3 b4 b5 b6 b7 ev t5_0 t5_1 ke ma t5_2 ps pn cy t5_3 t5_4 t5_5 (f_Mo_valueOf ke ma (0 : Int32)) t3_6 t5_6 t5_7 t5_8 t5_9) H := hP
        have hD : va_D A (W_Mo cI cL b0 b1 b2 b3 b4 b5 b6 b7 ev t5_0 t5_1 ke ma t5_2 ps pn cy t5_3 t5_4 t5_5 (f_Mo_valueOf ke ma (0 : Int32)) t3_6 t5_6 t5_7 t5_8 t5_9) := hD
        refine lv_aload_n hx hb d_Mo_instruct_84 rfl (lv_at hl 0 rfl) ?_
        refine va_get (ci := 5) (C := R_Mo) (T := F_Mo) (N := 18) hx hb hg in_Mo hown hK hP 0 rfl rfl 9 (by decide) (hg _ m_512) (fun _ h => h) rfl d_Mo_instruct_85 ?_
        refine lv_if_ne (tgt := 128) hx hb d_Mo_instruct_88 (by decide) (fun h88 => ?_) (fun h88 => ?_)
        · rw [f_Mo_instruct_e4 wr wg ke ma li ca va cn pp px go ne gi gn (t3_0, t3_1, t3_2, t3_3, t3_4, t3_5, t3_6) (t5_0, t5_1, t5_2, t5_3, t5_4, t5_5, t5_6, t5_7, t5_8, t5_9) e_t3 e_t5 h30 h43 h69 h88]
          exact W.vret hx hb hr (fun t ht hW => ⟨⟨(), rfl, trivial, by show va_P D classes _ t.heap; rw [ht]; exact hP⟩, hS.F ht⟩) hS.2.2 d_Mo_instruct_128 hlocks
        · refine lv_aload_n hx hb d_Mo_instruct_91 rfl (lv_at hl 0 rfl) ?_
          refine lv_bipush (v := 7) hx hb d_Mo_instruct_92 (by decide) ?_
          refine lv_iconst (v := 5) hx hb d_Mo_instruct_94 (by decide) ?_
          refine cj_i (wc := (W_Mo cI cL b0 b1 b2 b3 b4 b5 b6 b7 ev t5_0 t5_1 ke ma t5_2 ps pn cy t5_3 t5_4 t5_5 (f_Mo_valueOf ke ma (0 : Int32)) t3_6 t5_6 t5_7 t5_8 t5_9)) (w1 := (W_Mo cI cL b0 b1 b2 b3 b4 b5 b6 b7 ev t5_0 t5_1 ke ma t5_2 ps pn cy t5_3 t5_4 t5_5 (f_Mo_valueOf ke ma (0 : Int32)) t3_6 t5_6 t5_7 t5_8 t5_9)) hP hD hS hA [0, 1, 2, 3, 4, 5, 6, 7] rfl [b0, b1, b2, b3, b4, b5, b6, b7] rfl rfl (va_runV (rest := []) ⟨hx, hb, hml, hown, hg⟩ (c_Mo_field l D cI cL b0 b1 b2 b3 b4 b5 b6 b7 _ ev t5_0 t5_1 ke ma t5_2 ps pn cy t5_3 t5_4 t5_5 (f_Mo_valueOf ke ma (0 : Int32)) t3_6 t5_6 t5_7 t5_8 t5_9 (7 : Int32) (5 : Int32)) ⟨callB_of 2 hg (gw_good m_637) rfl rfl rfl (hg _ m_71) (hg _ m_634) hd_Mo_field ⟨Nat.le_of_ble_eq_true rfl, Nat.le_of_ble_eq_true rfl⟩, hg _ m_636, hg _ m_45⟩ (pw_V hK hN hT hA hP hD hS [0, 1, 2, 3, 4, 5, 6, 7] rfl (by decide) (q0 := 0) (ci := 5) rfl rfl) rfl rfl hl.1 rfl (lv_room (Nat.le_of_ble_eq_true rfl)) d_Mo_instruct_95 ⟨Nat.le_of_ble_eq_true rfl, Nat.le_of_ble_eq_true rfl⟩) (fun H locs hP hD hS => ?_)
          have hP : va_P D classes (W_Mo cI cL b0 b1 b2 b3 b4 b5 b6 b7 ev t5_0 t5_1 ke ma t5_2 ps pn cy t5_3 t5_4 t5_5 (f_Mo_valueOf ke ma (0 : Int32)) t3_6 t5_6 t5_7 t5_8 t5_9) H := hP
          have hD : va_D A (W_Mo cI cL b0 b1 b2 b3 b4 b5 b6 b7 ev t5_0 t5_1 ke ma t5_2 ps pn cy t5_3 t5_4 t5_5 (f_Mo_valueOf ke ma (0 : Int32)) t3_6 t5_6 t5_7 t5_8 t5_9) := hD
          refine lv_istore_n (lv' := [(1, .int _), (0, .ref _)]) hx hb d_Mo_instruct_98 rfl hl (by decide) rfl (fun ls hl => ?_)
          refine lv_aload_n hx hb d_Mo_instruct_99 rfl (lv_at hl 1 rfl) ?_
          refine va_get (ci := 5) (C := R_Mo) (T := F_Mo) (N := 18) hx hb hg in_Mo hown hK hP 0 rfl rfl 16 (by decide) (hg _ m_519) (fun _ h => h) rfl d_Mo_instruct_100 ?_
          refine lv_if_eq (tgt := 119) hx hb d_Mo_instruct_103 (by decide) (fun h103 => ?_) (fun h103 => ?_)
          · refine lv_aload_n hx hb d_Mo_instruct_119 rfl (lv_at hl 1 rfl) ?_
            refine lv_iconst (v := 0) hx hb d_Mo_instruct_120 (by decide) ?_
            refine lv_aload_n hx hb d_Mo_instruct_121 rfl (lv_at hl 1 rfl) ?_
            refine va_get (ci := 5) (C := R_Mo) (T := F_Mo) (N := 18) hx hb hg in_Mo hown hK hP 0 rfl rfl 15 (by decide) (hg _ m_518) (fun _ h => h) rfl d_Mo_instruct_122 ?_
            refine cj_v (wc := (W_Mo cI cL b0 b1 b2 b3 b4 b5 b6 b7 ev t5_0 t5_1 ke ma t5_2 ps pn cy t5_3 t5_4 t5_5 (f_Mo_valueOf ke ma (0 : Int32)) t3_6 t5_6 t5_7 t5_8 t5_9)) (w1 := (W_Mo cI cL b0 b1 b2 b3 b4 b5 b6 b7 ev t5_0 t5_1 ((f_Mo_put ke ma (0 : Int32) t5_7).1) ((f_Mo_put ke ma (0 : Int32) t5_7).2) t5_2 ps pn cy t5_3 t5_4 t5_5 (f_Mo_valueOf ke ma (0 : Int32)) t3_6 t5_6 t5_7 t5_8 t5_9)) hP hD hS hA [0, 1, 2, 3, 4, 5, 6, 7] rfl [b0, b1, b2, b3, b4, b5, b6, b7] rfl rfl (va_runV (rest := []) ⟨hx, hb, hml, hown, hg⟩ (c_Mo_put l D cI cL b0 b1 b2 b3 b4 b5 b6 b7 _ ev t5_0 t5_1 ke ma t5_2 ps pn cy t5_3 t5_4 t5_5 (f_Mo_valueOf ke ma (0 : Int32)) t3_6 t5_6 t5_7 t5_8 t5_9 (0 : Int32) t5_7 (vp_ofb (by decide))) ⟨callB_of 2 hg (gw_good m_587) rfl rfl rfl (hg _ m_71) (hg _ m_584) hd_Mo_put ⟨Nat.le_of_ble_eq_true rfl, Nat.le_of_ble_eq_true rfl⟩, hg _ m_586, hg _ m_38⟩ (pw_V hK hN hT hA hP hD hS [0, 1, 2, 3, 4, 5, 6, 7] rfl (by decide) (q0 := 0) (ci := 5) rfl rfl) rfl rfl hl.1 rfl (lv_room (Nat.le_of_ble_eq_true rfl)) d_Mo_instruct_125 ⟨Nat.le_of_ble_eq_true rfl, Nat.le_of_ble_eq_true rfl⟩) (fun H locs hP hD hS => ?_)
            have hP : va_P D classes (W_Mo cI cL b0 b1 b2 b3 b4 b5 b6 b7 ev t5_0 t5_1 ((f_Mo_put ke ma (0 : Int32) t5_7).1) ((f_Mo_put ke ma (0 : Int32) t5_7).2) t5_2 ps pn cy t5_3 t5_4 t5_5 (f_Mo_valueOf ke ma (0 : Int32)) t3_6 t5_6 t5_7 t5_8 t5_9) H := hP
            have hD : va_D A (W_Mo cI cL b0 b1 b2 b3 b4 b5 b6 b7 ev t5_0 t5_1 ((f_Mo_put ke ma (0 : Int32) t5_7).1) ((f_Mo_put ke ma (0 : Int32) t5_7).2) t5_2 ps pn cy t5_3 t5_4 t5_5 (f_Mo_valueOf ke ma (0 : Int32)) t3_6 t5_6 t5_7 t5_8 t5_9) := hD
            generalize e_t6 : f_Mo_put ke ma (0 : Int32) t5_7 = t6 at hP hD ⊢
            obtain ⟨t6_0, t6_1⟩ := t6
            have hP : va_P D classes (W_Mo cI cL b0 b1 b2 b3 b4 b5 b6 b7 ev t5_0 t5_1 t6_0 t6_1 t5_2 ps pn cy t5_3 t5_4 t5_5 (f_Mo_valueOf ke ma (0 : Int32)) t3_6 t5_6 t5_7 t5_8 t5_9) H := hP
            have hD : va_D A (W_Mo cI cL b0 b1 b2 b3 b4 b5 b6 b7 ev t5_0 t5_1 t6_0 t6_1 t5_2 ps pn cy t5_3 t5_4 t5_5 (f_Mo_valueOf ke ma (0 : Int32)) t3_6 t5_6 t5_7 t5_8 t5_9) := hD
            rw [f_Mo_instruct_e5 wr wg ke ma li ca va cn pp px go ne gi gn (t3_0, t3_1, t3_2, t3_3, t3_4, t3_5, t3_6) (t5_0, t5_1, t5_2, t5_3, t5_4, t5_5, t5_6, t5_7, t5_8, t5_9) (t6_0, t6_1) e_t3 e_t5 e_t6 h30 h43 h69 h88 h103]
            exact W.vret hx hb hr (fun t ht hW => ⟨⟨(), rfl, trivial, by show va_P D classes _ t.heap; rw [ht]; exact hP⟩, hS.F ht⟩) hS.2.2 d_Mo_instruct_128 hlocks
          · refine lv_iload_n hx hb d_Mo_instruct_106 rfl (lv_at hl 0 rfl) ?_
            refine lv_if_le (tgt := 119) hx hb d_Mo_instruct_107 (by decide) (fun h107 => ?_) (fun h107 => ?_)
            · refine lv_aload_n hx hb d_Mo_instruct_119 rfl (lv_at hl 1 rfl) ?_
              refine lv_iconst (v := 0) hx hb d_Mo_instruct_120 (by decide) ?_
              refine lv_aload_n hx hb d_Mo_instruct_121 rfl (lv_at hl 1 rfl) ?_
              refine va_get (ci := 5) (C := R_Mo) (T := F_Mo) (N := 18) hx hb hg in_Mo hown hK hP 0 rfl rfl 15 (by decide) (hg _ m_518) (fun _ h => h) rfl d_Mo_instruct_122 ?_
              refine cj_v (wc := (W_Mo cI cL b0 b1 b2 b3 b4 b5 b6 b7 ev t5_0 t5_1 ke ma t5_2 ps pn cy t5_3 t5_4 t5_5 (f_Mo_valueOf ke ma (0 : Int32)) t3_6 t5_6 t5_7 t5_8 t5_9)) (w1 := (W_Mo cI cL b0 b1 b2 b3 b4 b5 b6 b7 ev t5_0 t5_1 ((f_Mo_put ke ma (0 : Int32) t5_7).1) ((f_Mo_put ke ma (0 : Int32) t5_7).2) t5_2 ps pn cy t5_3 t5_4 t5_5 (f_Mo_valueOf ke ma (0 : Int32)) t3_6 t5_6 t5_7 t5_8 t5_9)) hP hD hS hA [0, 1, 2, 3, 4, 5, 6, 7] rfl [b0, b1, b2, b3, b4, b5, b6, b7] rfl rfl (va_runV (rest := []) ⟨hx, hb, hml, hown, hg⟩ (c_Mo_put l D cI cL b0 b1 b2 b3 b4 b5 b6 b7 _ ev t5_0 t5_1 ke ma t5_2 ps pn cy t5_3 t5_4 t5_5 (f_Mo_valueOf ke ma (0 : Int32)) t3_6 t5_6 t5_7 t5_8 t5_9 (0 : Int32) t5_7 (vp_ofb (by decide))) ⟨callB_of 2 hg (gw_good m_587) rfl rfl rfl (hg _ m_71) (hg _ m_584) hd_Mo_put ⟨Nat.le_of_ble_eq_true rfl, Nat.le_of_ble_eq_true rfl⟩, hg _ m_586, hg _ m_38⟩ (pw_V hK hN hT hA hP hD hS [0, 1, 2, 3, 4, 5, 6, 7] rfl (by decide) (q0 := 0) (ci := 5) rfl rfl) rfl rfl hl.1 rfl (lv_room (Nat.le_of_ble_eq_true rfl)) d_Mo_instruct_125 ⟨Nat.le_of_ble_eq_true rfl, Nat.le_of_ble_eq_true rfl⟩) (fun H locs hP hD hS => ?_)
              have hP : va_P D classes (W_Mo cI cL b0 b1 b2 b3 b4 b5 b6 b7 ev t5_0 t5_1 ((f_Mo_put ke ma (0 : Int32) t5_7).1) ((f_Mo_put ke ma (0 : Int32) t5_7).2) t5_2 ps pn cy t5_3 t5_4 t5_5 (f_Mo_valueOf ke ma (0 : Int32)) t3_6 t5_6 t5_7 t5_8 t5_9) H := hP
              have hD : va_D A (W_Mo cI cL b0 b1 b2 b3 b4 b5 b6 b7 ev t5_0 t5_1 ((f_Mo_put ke ma (0 : Int32) t5_7).1) ((f_Mo_put ke ma (0 : Int32) t5_7).2) t5_2 ps pn cy t5_3 t5_4 t5_5 (f_Mo_valueOf ke ma (0 : Int32)) t3_6 t5_6 t5_7 t5_8 t5_9) := hD
              generalize e_t7 : f_Mo_put ke ma (0 : Int32) t5_7 = t7 at hP hD ⊢
              obtain ⟨t7_0, t7_1⟩ := t7
              have hP : va_P D classes (W_Mo cI cL b0 b1 b2 b3 b4 b5 b6 b7 ev t5_0 t5_1 t7_0 t7_1 t5_2 ps pn cy t5_3 t5_4 t5_5 (f_Mo_valueOf ke ma (0 : Int32)) t3_6 t5_6 t5_7 t5_8 t5_9) H := hP
              have hD : va_D A (W_Mo cI cL b0 b1 b2 b3 b4 b5 b6 b7 ev t5_0 t5_1 t7_0 t7_1 t5_2 ps pn cy t5_3 t5_4 t5_5 (f_Mo_valueOf ke ma (0 : Int32)) t3_6 t5_6 t5_7 t5_8 t5_9) := hD
              rw [f_Mo_instruct_e6 wr wg ke ma li ca va cn pp px go ne gi gn (t3_0, t3_1, t3_2, t3_3, t3_4, t3_5, t3_6) (t5_0, t5_1, t5_2, t5_3, t5_4, t5_5, t5_6, t5_7, t5_8, t5_9) (t7_0, t7_1) e_t3 e_t5 e_t7 h30 h43 h69 h88 h103 h107]
              exact W.vret hx hb hr (fun t ht hW => ⟨⟨(), rfl, trivial, by show va_P D classes _ t.heap; rw [ht]; exact hP⟩, hS.F ht⟩) hS.2.2 d_Mo_instruct_128 hlocks
            · refine lv_aload_n hx hb d_Mo_instruct_110 rfl (lv_at hl 1 rfl) ?_
              refine lv_iload_n hx hb d_Mo_instruct_111 rfl (lv_at hl 0 rfl) ?_
              refine lv_aload_n hx hb d_Mo_instruct_112 rfl (lv_at hl 1 rfl) ?_
              refine va_get (ci := 5) (C := R_Mo) (T := F_Mo) (N := 18) hx hb hg in_Mo hown hK hP 0 rfl rfl 17 (by decide) (hg _ m_520) (fun _ h => h) rfl d_Mo_instruct_113 ?_
              refine cj_v (wc := (W_Mo cI cL b0 b1 b2 b3 b4 b5 b6 b7 ev t5_0 t5_1 ke ma t5_2 ps pn cy t5_3 t5_4 t5_5 (f_Mo_valueOf ke ma (0 : Int32)) t3_6 t5_6 t5_7 t5_8 t5_9)) (w1 := (W_Mo cI cL b0 b1 b2 b3 b4 b5 b6 b7 ev t5_0 t5_1 ((f_Mo_put ke ma (f_Mo_field t3_6 (7 : Int32) (5 : Int32)) t5_9).1) ((f_Mo_put ke ma (f_Mo_field t3_6 (7 : Int32) (5 : Int32)) t5_9).2) t5_2 ps pn cy t5_3 t5_4 t5_5 (f_Mo_valueOf ke ma (0 : Int32)) t3_6 t5_6 t5_7 t5_8 t5_9)) hP hD hS hA [0, 1, 2, 3, 4, 5, 6, 7] rfl [b0, b1, b2, b3, b4, b5, b6, b7] rfl rfl (va_runV (rest := []) ⟨hx, hb, hml, hown, hg⟩ (c_Mo_put l D cI cL b0 b1 b2 b3 b4 b5 b6 b7 _ ev t5_0 t5_1 ke ma t5_2 ps pn cy t5_3 t5_4 t5_5 (f_Mo_valueOf ke ma (0 : Int32)) t3_6 t5_6 t5_7 t5_8 t5_9 (f_Mo_field t3_6 (7 : Int32) (5 : Int32)) t5_9 (in_fld _ _)) ⟨callB_of 2 hg (gw_good m_587) rfl rfl rfl (hg _ m_71) (hg _ m_584) hd_Mo_put ⟨Nat.le_of_ble_eq_true rfl, Nat.le_of_ble_eq_true rfl⟩, hg _ m_586, hg _ m_38⟩ (pw_V hK hN hT hA hP hD hS [0, 1, 2, 3, 4, 5, 6, 7] rfl (by decide) (q0 := 0) (ci := 5) rfl rfl) rfl rfl hl.1 rfl (lv_room (Nat.le_of_ble_eq_true rfl)) d_Mo_instruct_116 ⟨Nat.le_of_ble_eq_true rfl, Nat.le_of_ble_eq_true rfl⟩) (fun H locs hP hD hS => ?_)
              have hP : va_P D classes (W_Mo cI cL b0 b1 b2 b3 b4 b5 b6 b7 ev t5_0 t5_1 ((f_Mo_put ke ma (f_Mo_field t3_6 (7 : Int32) (5 : Int32)) t5_9).1) ((f_Mo_put ke ma (f_Mo_field t3_6 (7 : Int32) (5 : Int32)) t5_9).2) t5_2 ps pn cy t5_3 t5_4 t5_5 (f_Mo_valueOf ke ma (0 : Int32)) t3_6 t5_6 t5_7 t5_8 t5_9) H := hP
              have hD : va_D A (W_Mo cI cL b0 b1 b2 b3 b4 b5 b6 b7 ev t5_0 t5_1 ((f_Mo_put ke ma (f_Mo_field t3_6 (7 : Int32) (5 : Int32)) t5_9).1) ((f_Mo_put ke ma (f_Mo_field t3_6 (7 : Int32) (5 : Int32)) t5_9).2) t5_2 ps pn cy t5_3 t5_4 t5_5 (f_Mo_valueOf ke ma (0 : Int32)) t3_6 t5_6 t5_7 t5_8 t5_9) := hD
              generalize e_t8 : f_Mo_put ke ma (f_Mo_field t3_6 (7 : Int32) (5 : Int32)) t5_9 = t8 at hP hD ⊢
              obtain ⟨t8_0, t8_1⟩ := t8
              have hP : va_P D classes (W_Mo cI cL b0 b1 b2 b3 b4 b5 b6 b7 ev t5_0 t5_1 t8_0 t8_1 t5_2 ps pn cy t5_3 t5_4 t5_5 (f_Mo_valueOf ke ma (0 : Int32)) t3_6 t5_6 t5_7 t5_8 t5_9) H := hP
              have hD : va_D A (W_Mo cI cL b0 b1 b2 b3 b4 b5 b6 b7 ev t5_0 t5_1 t8_0 t8_1 t5_2 ps pn cy t5_3 t5_4 t5_5 (f_Mo_valueOf ke ma (0 : Int32)) t3_6 t5_6 t5_7 t5_8 t5_9) := hD
              refine lv_aload_n hx hb d_Mo_instruct_119 rfl (lv_at hl 1 rfl) ?_
              refine lv_iconst (v := 0) hx hb d_Mo_instruct_120 (by decide) ?_
              refine lv_aload_n hx hb d_Mo_instruct_121 rfl (lv_at hl 1 rfl) ?_
              refine va_get (ci := 5) (C := R_Mo) (T := F_Mo) (N := 18) hx hb hg in_Mo hown hK hP 0 rfl rfl 15 (by decide) (hg _ m_518) (fun _ h => h) rfl d_Mo_instruct_122 ?_
              refine cj_v (wc := (W_Mo cI cL b0 b1 b2 b3 b4 b5 b6 b7 ev t5_0 t5_1 t8_0 t8_1 t5_2 ps pn cy t5_3 t5_4 t5_5 (f_Mo_valueOf ke ma (0 : Int32)) t3_6 t5_6 t5_7 t5_8 t5_9)) (w1 := (W_Mo cI cL b0 b1 b2 b3 b4 b5 b6 b7 ev t5_0 t5_1 ((f_Mo_put t8_0 t8_1 (0 : Int32) t5_7).1) ((f_Mo_put t8_0 t8_1 (0 : Int32) t5_7).2) t5_2 ps pn cy t5_3 t5_4 t5_5 (f_Mo_valueOf ke ma (0 : Int32)) t3_6 t5_6 t5_7 t5_8 t5_9)) hP hD hS hA [0, 1, 2, 3, 4, 5, 6, 7] rfl [b0, b1, b2, b3, b4, b5, b6, b7] rfl rfl (va_runV (rest := []) ⟨hx, hb, hml, hown, hg⟩ (c_Mo_put l D cI cL b0 b1 b2 b3 b4 b5 b6 b7 _ ev t5_0 t5_1 t8_0 t8_1 t5_2 ps pn cy t5_3 t5_4 t5_5 (f_Mo_valueOf ke ma (0 : Int32)) t3_6 t5_6 t5_7 t5_8 t5_9 (0 : Int32) t5_7 (vp_ofb (by decide))) ⟨callB_of 2 hg (gw_good m_587) rfl rfl rfl (hg _ m_71) (hg _ m_584) hd_Mo_put ⟨Nat.le_of_ble_eq_true rfl, Nat.le_of_ble_eq_true rfl⟩, hg _ m_586, hg _ m_38⟩ (pw_V hK hN hT hA hP hD hS [0, 1, 2, 3, 4, 5, 6, 7] rfl (by decide) (q0 := 0) (ci := 5) rfl rfl) rfl rfl hl.1 rfl (lv_room (Nat.le_of_ble_eq_true rfl)) d_Mo_instruct_125 ⟨Nat.le_of_ble_eq_true rfl, Nat.le_of_ble_eq_true rfl⟩) (fun H locs hP hD hS => ?_)
              have hP : va_P D classes (W_Mo cI cL b0 b1 b2 b3 b4 b5 b6 b7 ev t5_0 t5_1 ((f_Mo_put t8_0 t8_1 (0 : Int32) t5_7).1) ((f_Mo_put t8_0 t8_1 (0 : Int32) t5_7).2) t5_2 ps pn cy t5_3 t5_4 t5_5 (f_Mo_valueOf ke ma (0 : Int32)) t3_6 t5_6 t5_7 t5_8 t5_9) H := hP
              have hD : va_D A (W_Mo cI cL b0 b1 b2 b3 b4 b5 b6 b7 ev t5_0 t5_1 ((f_Mo_put t8_0 t8_1 (0 : Int32) t5_7).1) ((f_Mo_put t8_0 t8_1 (0 : Int32) t5_7).2) t5_2 ps pn cy t5_3 t5_4 t5_5 (f_Mo_valueOf ke ma (0 : Int32)) t3_6 t5_6 t5_7 t5_8 t5_9) := hD
              generalize e_t9 : f_Mo_put t8_0 t8_1 (0 : Int32) t5_7 = t9 at hP hD ⊢
              obtain ⟨t9_0, t9_1⟩ := t9
              have hP : va_P D classes (W_Mo cI cL b0 b1 b2 b3 b4 b5 b6 b7 ev t5_0 t5_1 t9_0 t9_1 t5_2 ps pn cy t5_3 t5_4 t5_5 (f_Mo_valueOf ke ma (0 : Int32)) t3_6 t5_6 t5_7 t5_8 t5_9) H := hP
              have hD : va_D A (W_Mo cI cL b0 b1 b2 b3 b4 b5 b6 b7 ev t5_0 t5_1 t9_0 t9_1 t5_2 ps pn cy t5_3 t5_4 t5_5 (f_Mo_valueOf ke ma (0 : Int32)) t3_6 t5_6 t5_7 t5_8 t5_9) := hD
              rw [f_Mo_instruct_e7 wr wg ke ma li ca va cn pp px go ne gi gn (t3_0, t3_1, t3_2, t3_3, t3_4, t3_5, t3_6) (t5_0, t5_1, t5_2, t5_3, t5_4, t5_5, t5_6, t5_7, t5_8, t5_9) (t8_0, t8_1) (t9_0, t9_1) e_t3 e_t5 e_t8 e_t9 h30 h43 h69 h88 h103 h107]
              exact W.vret hx hb hr (fun t ht hW => ⟨⟨(), rfl, trivial, by show va_P D classes _ t.heap; rw [ht]; exact hP⟩, hS.F ht⟩) hS.2.2 d_Mo_instruct_128 hlocks
    · refine lv_aload_n hx hb d_Mo_instruct_46 rfl (lv_at hl 0 rfl) ?_
      refine lv_iconst (v := 1) hx hb d_Mo_instruct_47 (by decide) ?_
      refine lv_aload_n hx hb d_Mo_instruct_48 rfl (lv_at hl 0 rfl) ?_
      refine va_get (ci := 5) (C := R_Mo) (T := F_Mo) (N := 18) hx hb hg in_Mo hown hK hP 0 rfl rfl 12 (by decide) (hg _ m_515) (fun _ h => h) rfl d_Mo_instruct_49 ?_
      refine cj_v (wc := (W_Mo cI cL b0 b1 b2 b3 b4 b5 b6 b7 ev wr wg ke ma li ps pn cy ca va cn (f_Mo_valueOf ke ma (0 : Int32)) px go ((f_Mo_valueOf ke ma (0 : Int32)) + (4 : Int32)) (0 : Int32) gn)) (w1 := (W_Mo cI cL b0 b1 b2 b3 b4 b5 b6 b7 ev wr wg ke ma li ps pn cy ((f_Mo_stop ca va (1 : Int32) (f_Mo_valueOf ke ma (0 : Int32))).1) ((f_Mo_stop ca va (1 : Int32) (f_Mo_valueOf ke ma (0 : Int32))).2) cn (f_Mo_valueOf ke ma (0 : Int32)) px go ((f_Mo_valueOf ke ma (0 : Int32)) + (4 : Int32)) (0 : Int32) gn)) hP hD hS hA [0, 1, 2, 3, 4, 5, 6, 7] rfl [b0, b1, b2, b3, b4, b5, b6, b7] rfl rfl (va_runV (rest := []) ⟨hx, hb, hml, hown, hg⟩ (c_Mo_stop l D cI cL b0 b1 b2 b3 b4 b5 b6 b7 _ ev wr wg ke ma li ps pn cy ca va cn (f_Mo_valueOf ke ma (0 : Int32)) px go ((f_Mo_valueOf ke ma (0 : Int32)) + (4 : Int32)) (0 : Int32) gn (1 : Int32) (f_Mo_valueOf ke ma (0 : Int32))) ⟨callB_of 2 hg (gw_good m_595) rfl rfl rfl (hg _ m_71) (hg _ m_592) hd_Mo_stop ⟨Nat.le_of_ble_eq_true rfl, Nat.le_of_ble_eq_true rfl⟩, hg _ m_594, hg _ m_40⟩ (pw_V hK hN hT hA hP hD hS [0, 1, 2, 3, 4, 5, 6, 7] rfl (by decide) (q0 := 0) (ci := 5) rfl rfl) rfl rfl hl.1 rfl (lv_room (Nat.le_of_ble_eq_true rfl)) d_Mo_instruct_52 ⟨Nat.le_of_ble_eq_true rfl, Nat.le_of_ble_eq_true rfl⟩) (fun H locs hP hD hS => ?_)
      have hP : va_P D classes (W_Mo cI cL b0 b1 b2 b3 b4 b5 b6 b7 ev wr wg ke ma li ps pn cy ((f_Mo_stop ca va (1 : Int32) (f_Mo_valueOf ke ma (0 : Int32))).1) ((f_Mo_stop ca va (1 : Int32) (f_Mo_valueOf ke ma (0 : Int32))).2) cn (f_Mo_valueOf ke ma (0 : Int32)) px go ((f_Mo_valueOf ke ma (0 : Int32)) + (4 : Int32)) (0 : Int32) gn) H := hP
      have hD : va_D A (W_Mo cI cL b0 b1 b2 b3 b4 b5 b6 b7 ev wr wg ke ma li ps pn cy ((f_Mo_stop ca va (1 : Int32) (f_Mo_valueOf ke ma (0 : Int32))).1) ((f_Mo_stop ca va (1 : Int32) (f_Mo_valueOf ke ma (0 : Int32))).2) cn (f_Mo_valueOf ke ma (0 : Int32)) px go ((f_Mo_valueOf ke ma (0 : Int32)) + (4 : Int32)) (0 : Int32) gn) := hD
      generalize e_t10 : f_Mo_stop ca va (1 : Int32) (f_Mo_valueOf ke ma (0 : Int32)) = t10 at hP hD ⊢
      obtain ⟨t10_0, t10_1⟩ := t10
      have hP : va_P D classes (W_Mo cI cL b0 b1 b2 b3 b4 b5 b6 b7 ev wr wg ke ma li ps pn cy t10_0 t10_1 cn (f_Mo_valueOf ke ma (0 : Int32)) px go ((f_Mo_valueOf ke ma (0 : Int32)) + (4 : Int32)) (0 : Int32) gn) H := hP
      have hD : va_D A (W_Mo cI cL b0 b1 b2 b3 b4 b5 b6 b7 ev wr wg ke ma li ps pn cy t10_0 t10_1 cn (f_Mo_valueOf ke ma (0 : Int32)) px go ((f_Mo_valueOf ke ma (0 : Int32)) + (4 : Int32)) (0 : Int32) gn) := hD
      refine lv_goto (tgt := 84) hx hb d_Mo_instruct_55 (by decide) ?_
      refine lv_aload_n hx hb d_Mo_instruct_84 rfl (lv_at hl 0 rfl) ?_
      refine va_get (ci := 5) (C := R_Mo) (T := F_Mo) (N := 18) hx hb hg in_Mo hown hK hP 0 rfl rfl 9 (by decide) (hg _ m_512) (fun _ h => h) rfl d_Mo_instruct_85 ?_
      refine lv_if_ne (tgt := 128) hx hb d_Mo_instruct_88 (by decide) (fun h88 => ?_) (fun h88 => ?_)
      · rw [f_Mo_instruct_e8 wr wg ke ma li ca va cn pp px go ne gi gn (t10_0, t10_1) e_t10 h30 h43 h88]
        exact W.vret hx hb hr (fun t ht hW => ⟨⟨(), rfl, trivial, by show va_P D classes _ t.heap; rw [ht]; exact hP⟩, hS.F ht⟩) hS.2.2 d_Mo_instruct_128 hlocks
      · refine lv_aload_n hx hb d_Mo_instruct_91 rfl (lv_at hl 0 rfl) ?_
        refine lv_bipush (v := 7) hx hb d_Mo_instruct_92 (by decide) ?_
        refine lv_iconst (v := 5) hx hb d_Mo_instruct_94 (by decide) ?_
        refine cj_i (wc := (W_Mo cI cL b0 b1 b2 b3 b4 b5 b6 b7 ev wr wg ke ma li ps pn cy t10_0 t10_1 cn (f_Mo_valueOf ke ma (0 : Int32)) px go ((f_Mo_valueOf ke ma (0 : Int32)) + (4 : Int32)) (0 : Int32) gn)) (w1 := (W_Mo cI cL b0 b1 b2 b3 b4 b5 b6 b7 ev wr wg ke ma li ps pn cy t10_0 t10_1 cn (f_Mo_valueOf ke ma (0 : Int32)) px go ((f_Mo_valueOf ke ma (0 : Int32)) + (4 : Int32)) (0 : Int32) gn)) hP hD hS hA [0, 1, 2, 3, 4, 5, 6, 7] rfl [b0, b1, b2, b3, b4, b5, b6, b7] rfl rfl (va_runV (rest := []) ⟨hx, hb, hml, hown, hg⟩ (c_Mo_field l D cI cL b0 b1 b2 b3 b4 b5 b6 b7 _ ev wr wg ke ma li ps pn cy t10_0 t10_1 cn (f_Mo_valueOf ke ma (0 : Int32)) px go ((f_Mo_valueOf ke ma (0 : Int32)) + (4 : Int32)) (0 : Int32) gn (7 : Int32) (5 : Int32)) ⟨callB_of 2 hg (gw_good m_637) rfl rfl rfl (hg _ m_71) (hg _ m_634) hd_Mo_field ⟨Nat.le_of_ble_eq_true rfl, Nat.le_of_ble_eq_true rfl⟩, hg _ m_636, hg _ m_45⟩ (pw_V hK hN hT hA hP hD hS [0, 1, 2, 3, 4, 5, 6, 7] rfl (by decide) (q0 := 0) (ci := 5) rfl rfl) rfl rfl hl.1 rfl (lv_room (Nat.le_of_ble_eq_true rfl)) d_Mo_instruct_95 ⟨Nat.le_of_ble_eq_true rfl, Nat.le_of_ble_eq_true rfl⟩) (fun H locs hP hD hS => ?_)
        have hP : va_P D classes (W_Mo cI cL b0 b1 b2 b3 b4 b5 b6 b7 ev wr wg ke ma li ps pn cy t10_0 t10_1 cn (f_Mo_valueOf ke ma (0 : Int32)) px go ((f_Mo_valueOf ke ma (0 : Int32)) + (4 : Int32)) (0 : Int32) gn) H := hP
        have hD : va_D A (W_Mo cI cL b0 b1 b2 b3 b4 b5 b6 b7 ev wr wg ke ma li ps pn cy t10_0 t10_1 cn (f_Mo_valueOf ke ma (0 : Int32)) px go ((f_Mo_valueOf ke ma (0 : Int32)) + (4 : Int32)) (0 : Int32) gn) := hD
        refine lv_istore_n (lv' := [(1, .int _), (0, .ref _)]) hx hb d_Mo_instruct_98 rfl hl (by decide) rfl (fun ls hl => ?_)
        refine lv_aload_n hx hb d_Mo_instruct_99 rfl (lv_at hl 1 rfl) ?_
        refine va_get (ci := 5) (C := R_Mo) (T := F_Mo) (N := 18) hx hb hg in_Mo hown hK hP 0 rfl rfl 16 (by decide) (hg _ m_519) (fun _ h => h) rfl d_Mo_instruct_100 ?_
        refine lv_if_eq (tgt := 119) hx hb d_Mo_instruct_103 (by decide) (fun _ => ?_) (fun h => absurd (by decide) h)
        refine lv_aload_n hx hb d_Mo_instruct_119 rfl (lv_at hl 1 rfl) ?_
        refine lv_iconst (v := 0) hx hb d_Mo_instruct_120 (by decide) ?_
        refine lv_aload_n hx hb d_Mo_instruct_121 rfl (lv_at hl 1 rfl) ?_
        refine va_get (ci := 5) (C := R_Mo) (T := F_Mo) (N := 18) hx hb hg in_Mo hown hK hP 0 rfl rfl 15 (by decide) (hg _ m_518) (fun _ h => h) rfl d_Mo_instruct_122 ?_
        refine cj_v (wc := (W_Mo cI cL b0 b1 b2 b3 b4 b5 b6 b7 ev wr wg ke ma li ps pn cy t10_0 t10_1 cn (f_Mo_valueOf ke ma (0 : Int32)) px go ((f_Mo_valueOf ke ma (0 : Int32)) + (4 : Int32)) (0 : Int32) gn)) (w1 := (W_Mo cI cL b0 b1 b2 b3 b4 b5 b6 b7 ev wr wg ((f_Mo_put ke ma (0 : Int32) ((f_Mo_valueOf ke ma (0 : Int32)) + (4 : Int32))).1) ((f_Mo_put ke ma (0 : Int32) ((f_Mo_valueOf ke ma (0 : Int32)) + (4 : Int32))).2) li ps pn cy t10_0 t10_1 cn (f_Mo_valueOf ke ma (0 : Int32)) px go ((f_Mo_valueOf ke ma (0 : Int32)) + (4 : Int32)) (0 : Int32) gn)) hP hD hS hA [0, 1, 2, 3, 4, 5, 6, 7] rfl [b0, b1, b2, b3, b4, b5, b6, b7] rfl rfl (va_runV (rest := []) ⟨hx, hb, hml, hown, hg⟩ (c_Mo_put l D cI cL b0 b1 b2 b3 b4 b5 b6 b7 _ ev wr wg ke ma li ps pn cy t10_0 t10_1 cn (f_Mo_valueOf ke ma (0 : Int32)) px go ((f_Mo_valueOf ke ma (0 : Int32)) + (4 : Int32)) (0 : Int32) gn (0 : Int32) ((f_Mo_valueOf ke ma (0 : Int32)) + (4 : Int32)) (vp_ofb (by decide))) ⟨callB_of 2 hg (gw_good m_587) rfl rfl rfl (hg _ m_71) (hg _ m_584) hd_Mo_put ⟨Nat.le_of_ble_eq_true rfl, Nat.le_of_ble_eq_true rfl⟩, hg _ m_586, hg _ m_38⟩ (pw_V hK hN hT hA hP hD hS [0, 1, 2, 3, 4, 5, 6, 7] rfl (by decide) (q0 := 0) (ci := 5) rfl rfl) rfl rfl hl.1 rfl (lv_room (Nat.le_of_ble_eq_true rfl)) d_Mo_instruct_125 ⟨Nat.le_of_ble_eq_true rfl, Nat.le_of_ble_eq_true rfl⟩) (fun H locs hP hD hS => ?_)
        have hP : va_P D classes (W_Mo cI cL b0 b1 b2 b3 b4 b5 b6 b7 ev wr wg ((f_Mo_put ke ma (0 : Int32) ((f_Mo_valueOf ke ma (0 : Int32)) + (4 : Int32))).1) ((f_Mo_put ke ma (0 : Int32) ((f_Mo_valueOf ke ma (0 : Int32)) + (4 : Int32))).2) li ps pn cy t10_0 t10_1 cn (f_Mo_valueOf ke ma (0 : Int32)) px go ((f_Mo_valueOf ke ma (0 : Int32)) + (4 : Int32)) (0 : Int32) gn) H := hP
        have hD : va_D A (W_Mo cI cL b0 b1 b2 b3 b4 b5 b6 b7 ev wr wg ((f_Mo_put ke ma (0 : Int32) ((f_Mo_valueOf ke ma (0 : Int32)) + (4 : Int32))).1) ((f_Mo_put ke ma (0 : Int32) ((f_Mo_valueOf ke ma (0 : Int32)) + (4 : Int32))).2) li ps pn cy t10_0 t10_1 cn (f_Mo_valueOf ke ma (0 : Int32)) px go ((f_Mo_valueOf ke ma (0 : Int32)) + (4 : Int32)) (0 : Int32) gn) := hD
        generalize e_t11 : f_Mo_put ke ma (0 : Int32) ((f_Mo_valueOf ke ma (0 : Int32)) + (4 : Int32)) = t11 at hP hD ⊢
        obtain ⟨t11_0, t11_1⟩ := t11
        have hP : va_P D classes (W_Mo cI cL b0 b1 b2 b3 b4 b5 b6 b7 ev wr wg t11_0 t11_1 li ps pn cy t10_0 t10_1 cn (f_Mo_valueOf ke ma (0 : Int32)) px go ((f_Mo_valueOf ke ma (0 : Int32)) + (4 : Int32)) (0 : Int32) gn) H := hP
        have hD : va_D A (W_Mo cI cL b0 b1 b2 b3 b4 b5 b6 b7 ev wr wg t11_0 t11_1 li ps pn cy t10_0 t10_1 cn (f_Mo_valueOf ke ma (0 : Int32)) px go ((f_Mo_valueOf ke ma (0 : Int32)) + (4 : Int32)) (0 : Int32) gn) := hD
        rw [f_Mo_instruct_e9 wr wg ke ma li ca va cn pp px go ne gi gn (t10_0, t10_1) (t11_0, t11_1) e_t10 e_t11 h30 h43 h88]
        exact W.vret hx hb hr (fun t ht hW => ⟨⟨(), rfl, trivial, by show va_P D classes _ t.heap; rw [ht]; exact hP⟩, hS.F ht⟩) hS.2.2 d_Mo_instruct_128 hlocks
