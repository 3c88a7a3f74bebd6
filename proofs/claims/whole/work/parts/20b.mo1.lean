abbrev q_Mo_two (D : va_G) (cI cL : ClassId) (A : Nat → Prop)  (F : Int32) : Array Value → State → Outcome → State → Prop := va_Qi (fun r (_ : Unit) => r = F) (fun _ t => va_P D classes [] t.heap) A
set_option maxHeartbeats 4000000 in
set_option maxRecDepth 100000 in
theorem c_Mo_two (l : Launch) (D : va_G) (cI cL : ClassId) (sz : Nat)  (a : Int32) (b : Int32) (d : Int32)  : Met l y_Mo_two w_Mo_two ({ frames := 0, cells := 0, slots := 0, locals := 0 }) (va_Pc [.int a, .int b, .int d] (PW D cI cL [] sz)) (q_Mo_two D cI cL (va_A [] sz)  (f_Mo_two a b d)) 0 0 (va_A [] sz) := by
  refine mk_met (Qf := fun A => q_Mo_two D cI cL A  (f_Mo_two a b d)) (by decide) (Nat.le_of_ble_eq_true rfl) ?_
  intro p e s m below meth c A ls hx hb hr hlocks hml hown hg hK hN hT hA hP hD hS hnm hl
  refine lv_iload_n hx hb d_Mo_two_0 rfl (lv_at hl 0 rfl) ?_
  refine lv_iload_n hx hb d_Mo_two_1 rfl (lv_at hl 1 rfl) ?_
  refine lv_iand hx hb d_Mo_two_2 ?_
  refine lv_iload_n hx hb d_Mo_two_3 rfl (lv_at hl 0 rfl) ?_
  refine lv_iload_n hx hb d_Mo_two_4 rfl (lv_at hl 2 rfl) ?_
  refine lv_iand hx hb d_Mo_two_5 ?_
  refine lv_ior hx hb d_Mo_two_6 ?_
  refine lv_iload_n hx hb d_Mo_two_7 rfl (lv_at hl 1 rfl) ?_
  refine lv_iload_n hx hb d_Mo_two_8 rfl (lv_at hl 2 rfl) ?_
  refine lv_iand hx hb d_Mo_two_9 ?_
  refine lv_ior hx hb d_Mo_two_10 ?_
  exact W.iret hx hb hr (fun t ht hW => ⟨⟨_, (), rfl, rfl, by show va_P D classes _ t.heap; rw [ht]; exact hP⟩, hS.F ht⟩) hS.2.2 d_Mo_two_11 hlocks
abbrev q_Mo_valueOf (D : va_G) (cI cL : ClassId) (b0 b1 b2 b3 b4 b5 b6 b7 : Nat) (A : Nat → Prop) (ev : Int32) (wr : Nat → Int32) (wg : Nat → Int64) (ke : Nat → Int32) (ma : Nat → Int32) (li : Nat → Int64) (ps : Int32) (pn : Nat → Int32) (cy : Int32) (ca : Int32) (va : Int32) (cn : Nat → Int32) (pp : Int32) (px : Int32) (go : Int32) (ne : Int32) (gi : Int32) (gn : Int32) (F : Int32) : Array Value → State → Outcome → State → Prop := va_Qi (fun r (_ : Unit) => r = F) (fun _ t => va_P D classes (W_Mo cI cL b0 b1 b2 b3 b4 b5 b6 b7 ev wr wg ke ma li ps pn cy ca va cn pp px go ne gi gn) t.heap) A
set_option maxHeartbeats 4000000 in
set_option maxRecDepth 100000 in
theorem c_Mo_valueOf (l : Launch) (D : va_G) (cI cL : ClassId) (b0 b1 b2 b3 b4 b5 b6 b7 : Nat) (sz : Nat) (ev : Int32) (wr : Nat → Int32) (wg : Nat → Int64) (ke : Nat → Int32) (ma : Nat → Int32) (li : Nat → Int64) (ps : Int32) (pn : Nat → Int32) (cy : Int32) (ca : Int32) (va : Int32) (cn : Nat → Int32) (pp : Int32) (px : Int32) (go : Int32) (ne : Int32) (gi : Int32) (gn : Int32) (r : Int32) (h_r : vp_in r 32) : Met l y_Mo_valueOf w_Mo_valueOf ({ frames := 1, cells := 0, slots := 0, locals := 22 }) (va_Pc [.ref b0, .int r] (PW D cI cL (W_Mo cI cL b0 b1 b2 b3 b4 b5 b6 b7 ev wr wg ke ma li ps pn cy ca va cn pp px go ne gi gn) sz)) (q_Mo_valueOf D cI cL b0 b1 b2 b3 b4 b5 b6 b7 (va_A (W_Mo cI cL b0 b1 b2 b3 b4 b5 b6 b7 ev wr wg ke ma li ps pn cy ca va cn pp px go ne gi gn) sz) ev wr wg ke ma li ps pn cy ca va cn pp px go ne gi gn (f_Mo_valueOf ke ma r)) 0 0 (va_A (W_Mo cI cL b0 b1 b2 b3 b4 b5 b6 b7 ev wr wg ke ma li ps pn cy ca va cn pp px go ne gi gn) sz) := by
  refine mk_met (Qf := fun A => q_Mo_valueOf D cI cL b0 b1 b2 b3 b4 b5 b6 b7 A ev wr wg ke ma li ps pn cy ca va cn pp px go ne gi gn (f_Mo_valueOf ke ma r)) (by decide) (Nat.le_of_ble_eq_true rfl) ?_
  intro p e s m below meth c A ls hx hb hr hlocks hml hown hg hK hN hT hA hP hD hS hnm hl
  refine lv_aload_n hx hb d_Mo_valueOf_0 rfl (lv_at hl 0 rfl) ?_
  refine va_get (ci := 5) (C := R_Mo) (T := F_Mo) (N := 18) hx hb hg in_Mo hown hK hP 0 rfl rfl 3 (by decide) (hg _ m_506) (fun _ h => h) rfl d_Mo_valueOf_1 ?_
  refine lv_iload_n hx hb d_Mo_valueOf_4 rfl (lv_at hl 1 rfl) ?_
  refine va_iald hx hb hK hP 3 0 rfl rfl h_r d_Mo_valueOf_5 ?_
  refine lv_aload_n hx hb d_Mo_valueOf_6 rfl (lv_at hl 0 rfl) ?_
  refine va_get (ci := 5) (C := R_Mo) (T := F_Mo) (N := 18) hx hb hg in_Mo hown hK hP 0 rfl rfl 4 (by decide) (hg _ m_507) (fun _ h => h) rfl d_Mo_valueOf_7 ?_
  refine lv_iconst (v := 3) hx hb d_Mo_valueOf_10 (by decide) ?_
  refine lv_iload_n hx hb d_Mo_valueOf_11 rfl (lv_at hl 1 rfl) ?_
  refine lv_imul hx hb d_Mo_valueOf_12 ?_
  refine va_iald hx hb hK hP 4 0 rfl rfl (v3_0 h_r) d_Mo_valueOf_13 ?_
  refine lv_aload_n hx hb d_Mo_valueOf_14 rfl (lv_at hl 0 rfl) ?_
  refine va_get (ci := 5) (C := R_Mo) (T := F_Mo) (N := 18) hx hb hg in_Mo hown hK hP 0 rfl rfl 4 (by decide) (hg _ m_507) (fun _ h => h) rfl d_Mo_valueOf_15 ?_
  refine lv_iconst (v := 3) hx hb d_Mo_valueOf_18 (by decide) ?_
  refine lv_iload_n hx hb d_Mo_valueOf_19 rfl (lv_at hl 1 rfl) ?_
  refine lv_imul hx hb d_Mo_valueOf_20 ?_
  refine lv_iconst (v := 1) hx hb d_Mo_valueOf_21 (by decide) ?_
  refine lv_iadd hx hb d_Mo_valueOf_22 ?_
  refine va_iald hx hb hK hP 4 0 rfl rfl (v3_1 h_r) d_Mo_valueOf_23 ?_
  refine lv_aload_n hx hb d_Mo_valueOf_24 rfl (lv_at hl 0 rfl) ?_
  refine va_get (ci := 5) (C := R_Mo) (T := F_Mo) (N := 18) hx hb hg in_Mo hown hK hP 0 rfl rfl 4 (by decide) (hg _ m_507) (fun _ h => h) rfl d_Mo_valueOf_25 ?_
  refine lv_iconst (v := 3) hx hb d_Mo_valueOf_28 (by decide) ?_
  refine lv_iload_n hx hb d_Mo_valueOf_29 rfl (lv_at hl 1 rfl) ?_
  refine lv_imul hx hb d_Mo_valueOf_30 ?_
  refine lv_iconst (v := 2) hx hb d_Mo_valueOf_31 (by decide) ?_
  refine lv_iadd hx hb d_Mo_valueOf_32 ?_
  refine va_iald hx hb hK hP 4 0 rfl rfl (v3_2 h_r) d_Mo_valueOf_33 ?_
  refine cj_i (wc := []) (w1 := []) hP hD hS hA [] rfl [] rfl rfl (va_runS (rest := [.int _]) ⟨hx, hb, hml, hown, hg⟩ (c_Mo_two l D cI cL  _ (ma ((3 : Int32) * r).toNatClampNeg) (ma (((3 : Int32) * r) + (1 : Int32)).toNatClampNeg) (ma (((3 : Int32) * r) + (2 : Int32)).toNatClampNeg)) ⟨callB_of 3 hg (gw_good m_583) rfl rfl rfl (hg _ m_71) (hg _ m_581) hd_Mo_two ⟨Nat.le_of_ble_eq_true rfl, Nat.le_of_ble_eq_true rfl⟩, hg _ m_582⟩ (pw_S hK hN hT hA hP hD hS [] rfl (by decide)) rfl rfl hl.1 rfl (lv_room (Nat.le_of_ble_eq_true rfl)) d_Mo_valueOf_34 ⟨Nat.le_of_ble_eq_true rfl, Nat.le_of_ble_eq_true rfl⟩) (fun H locs hP hD hS => ?_)
  have hP : va_P D classes (W_Mo cI cL b0 b1 b2 b3 b4 b5 b6 b7 ev wr wg ke ma li ps pn cy ca va cn pp px go ne gi gn) H := hP
  have hD : va_D A (W_Mo cI cL b0 b1 b2 b3 b4 b5 b6 b7 ev wr wg ke ma li ps pn cy ca va cn pp px go ne gi gn) := hD
  refine lv_ixor hx hb d_Mo_valueOf_37 ?_
  exact W.iret hx hb hr (fun t ht hW => ⟨⟨_, (), rfl, rfl, by show va_P D classes _ t.heap; rw [ht]; exact hP⟩, hS.F ht⟩) hS.2.2 d_Mo_valueOf_38 hlocks
abbrev q_Mo_operand (D : va_G) (cI cL : ClassId) (b0 b1 b2 b3 b4 b5 b6 b7 : Nat) (A : Nat → Prop) (ev : Int32) (wr : Nat → Int32) (wg : Nat → Int64) (ke : Nat → Int32) (ma : Nat → Int32) (li : Nat → Int64) (ps : Int32) (pn : Nat → Int32) (cy : Int32) (ca : Int32) (va : Int32) (cn : Nat → Int32) (pp : Int32) (px : Int32) (go : Int32) (ne : Int32) (gi : Int32) (gn : Int32) (F : Int32) : Array Value → State → Outcome → State → Prop := va_Qi (fun r (_ : Unit) => r = F) (fun _ t => va_P D classes (W_Mo cI cL b0 b1 b2 b3 b4 b5 b6 b7 ev wr wg ke ma li ps pn cy ca va cn pp px go ne gi gn) t.heap) A
theorem f_Mo_operand_e0 (ke : Nat → Int32) (ma : Nat → Int32) (r : Int32)  (h1 : ¬ r = 0) : f_Mo_operand ke ma r = ((f_Mo_valueOf ke ma r)) := by
  exact (if_neg h1)
theorem f_Mo_operand_e1 (ke : Nat → Int32) (ma : Nat → Int32) (r : Int32)  (h1 : r = 0) : f_Mo_operand ke ma r = ((0 : Int32)) := by
  exact (if_pos h1)
set_option maxHeartbeats 4000000 in
set_option maxRecDepth 100000 in
theorem c_Mo_operand (l : Launch) (D : va_G) (cI cL : ClassId) (b0 b1 b2 b3 b4 b5 b6 b7 : Nat) (sz : Nat) (ev : Int32) (wr : Nat → Int32) (wg : Nat → Int64) (ke : Nat → Int32) (ma : Nat → Int32) (li : Nat → Int64) (ps : Int32) (pn : Nat → Int32) (cy : Int32) (ca : Int32) (va : Int32) (cn : Nat → Int32) (pp : Int32) (px : Int32) (go : Int32) (ne : Int32) (gi : Int32) (gn : Int32) (r : Int32) (h_r : vp_in r 32) : Met l y_Mo_operand w_Mo_operand ({ frames := 2, cells := 0, slots := 0, locals := 43 }) (va_Pc [.ref b0, .int r] (PW D cI cL (W_Mo cI cL b0 b1 b2 b3 b4 b5 b6 b7 ev wr wg ke ma li ps pn cy ca va cn pp px go ne gi gn) sz)) (q_Mo_operand D cI cL b0 b1 b2 b3 b4 b5 b6 b7 (va_A (W_Mo cI cL b0 b1 b2 b3 b4 b5 b6 b7 ev wr wg ke ma li ps pn cy ca va cn pp px go ne gi gn) sz) ev wr wg ke ma li ps pn cy ca va cn pp px go ne gi gn (f_Mo_operand ke ma r)) 0 0 (va_A (W_Mo cI cL b0 b1 b2 b3 b4 b5 b6 b7 ev wr wg ke ma li ps pn cy ca va cn pp px go ne gi gn) sz) := by
  refine mk_met (Qf := fun A => q_Mo_operand D cI cL b0 b1 b2 b3 b4 b5 b6 b7 A ev wr wg ke ma li ps pn cy ca va cn pp px go ne gi gn (f_Mo_operand ke ma r)) (by decide) (Nat.le_of_ble_eq_true rfl) ?_
  intro p e s m below meth c A ls hx hb hr hlocks hml hown hg hK hN hT hA hP hD hS hnm hl
  refine lv_iload_n hx hb d_Mo_operand_0 rfl (lv_at hl 1 rfl) ?_
  refine lv_if_ne (tgt := 8) hx hb d_Mo_operand_1 (by decide) (fun h1 => ?_) (fun h1 => ?_)
  · refine lv_aload_n hx hb d_Mo_operand_8 rfl (lv_at hl 0 rfl) ?_
    refine lv_iload_n hx hb d_Mo_operand_9 rfl (lv_at hl 1 rfl) ?_
    refine cj_i (wc := (W_Mo cI cL b0 b1 b2 b3 b4 b5 b6 b7 ev wr wg ke ma li ps pn cy ca va cn pp px go ne gi gn)) (w1 := (W_Mo cI cL b0 b1 b2 b3 b4 b5 b6 b7 ev wr wg ke ma li ps pn cy ca va cn pp px go ne gi gn)) hP hD hS hA [0, 1, 2, 3, 4, 5, 6, 7] rfl [b0, b1, b2, b3, b4, b5, b6, b7] rfl rfl (va_runV (rest := []) ⟨hx, hb, hml, hown, hg⟩ (c_Mo_valueOf l D cI cL b0 b1 b2 b3 b4 b5 b6 b7 _ ev wr wg ke ma li ps pn cy ca va cn pp px go ne gi gn r h_r) ⟨callB_of 1 hg (gw_good m_580) rfl rfl rfl (hg _ m_71) (hg _ m_577) hd_Mo_valueOf ⟨Nat.le_of_ble_eq_true rfl, Nat.le_of_ble_eq_true rfl⟩, hg _ m_579, hg _ m_37⟩ (pw_V hK hN hT hA hP hD hS [0, 1, 2, 3, 4, 5, 6, 7] rfl (by decide) (q0 := 0) (ci := 5) rfl rfl) rfl rfl hl.1 rfl (lv_room (Nat.le_of_ble_eq_true rfl)) d_Mo_operand_10 ⟨Nat.le_of_ble_eq_true rfl, Nat.le_of_ble_eq_true rfl⟩) (fun H locs hP hD hS => ?_)
    have hP : va_P D classes (W_Mo cI cL b0 b1 b2 b3 b4 b5 b6 b7 ev wr wg ke ma li ps pn cy ca va cn pp px go ne gi gn) H := hP
    have hD : va_D A (W_Mo cI cL b0 b1 b2 b3 b4 b5 b6 b7 ev wr wg ke ma li ps pn cy ca va cn pp px go ne gi gn) := hD
    rw [f_Mo_operand_e0 ke ma r h1]
    exact W.iret hx hb hr (fun t ht hW => ⟨⟨_, (), rfl, rfl, by show va_P D classes _ t.heap; rw [ht]; exact hP⟩, hS.F ht⟩) hS.2.2 d_Mo_operand_13 hlocks
  · refine lv_iconst (v := 0) hx hb d_Mo_operand_4 (by decide) ?_
    refine lv_goto (tgt := 13) hx hb d_Mo_operand_5 (by decide) ?_
    rw [f_Mo_operand_e1 ke ma r h1]
    exact W.iret hx hb hr (fun t ht hW => ⟨⟨_, (), rfl, rfl, by show va_P D classes _ t.heap; rw [ht]; exact hP⟩, hS.F ht⟩) hS.2.2 d_Mo_operand_13 hlocks
abbrev q_Mo_put (D : va_G) (cI cL : ClassId) (b0 b1 b2 b3 b4 b5 b6 b7 : Nat) (A : Nat → Prop) (ev : Int32) (wr : Nat → Int32) (wg : Nat → Int64) (ke : Nat → Int32) (ma : Nat → Int32) (li : Nat → Int64) (ps : Int32) (pn : Nat → Int32) (cy : Int32) (ca : Int32) (va : Int32) (cn : Nat → Int32) (pp : Int32) (px : Int32) (go : Int32) (ne : Int32) (gi : Int32) (gn : Int32) (F : (Nat → Int32) × (Nat → Int32)) : Array Value → State → Outcome → State → Prop := va_Qv (fun (_ : Unit) => True) (fun _ t => va_P D classes (W_Mo cI cL b0 b1 b2 b3 b4 b5 b6 b7 ev wr wg F.1 F.2 li ps pn cy ca va cn pp px go ne gi gn) t.heap) A
set_option maxHeartbeats 4000000 in
set_option maxRecDepth 100000 in
theorem c_Mo_put (l : Launch) (D : va_G) (cI cL : ClassId) (b0 b1 b2 b3 b4 b5 b6 b7 : Nat) (sz : Nat) (ev : Int32) (wr : Nat → Int32) (wg : Nat → Int64) (ke : Nat → Int32) (ma : Nat → Int32) (li : Nat → Int64) (ps : Int32) (pn : Nat → Int32) (cy : Int32) (ca : Int32) (va : Int32) (cn : Nat → Int32) (pp : Int32) (px : Int32) (go : Int32) (ne : Int32) (gi : Int32) (gn : Int32) (r : Int32) (v : Int32) (h_r : vp_in r 32) : Met l y_Mo_put w_Mo_put ({ frames := 0, cells := 0, slots := 0, locals := 0 }) (va_Pc [.ref b0, .int r, .int v] (PW D cI cL (W_Mo cI cL b0 b1 b2 b3 b4 b5 b6 b7 ev wr wg ke ma li ps pn cy ca va cn pp px go ne gi gn) sz)) (q_Mo_put D cI cL b0 b1 b2 b3 b4 b5 b6 b7 (va_A (W_Mo cI cL b0 b1 b2 b3 b4 b5 b6 b7 ev wr wg ke ma li ps pn cy ca va cn pp px go ne gi gn) sz) ev wr wg ke ma li ps pn cy ca va cn pp px go ne gi gn (f_Mo_put ke ma r v)) 0 0 (va_A (W_Mo cI cL b0 b1 b2 b3 b4 b5 b6 b7 ev wr wg ke ma li ps pn cy ca va cn pp px go ne gi gn) sz) := by
  refine mk_met (Qf := fun A => q_Mo_put D cI cL b0 b1 b2 b3 b4 b5 b6 b7 A ev wr wg ke ma li ps pn cy ca va cn pp px go ne gi gn (f_Mo_put ke ma r v)) (by decide) (Nat.le_of_ble_eq_true rfl) ?_
  intro p e s m below meth c A ls hx hb hr hlocks hml hown hg hK hN hT hA hP hD hS hnm hl
  refine lv_aload_n hx hb d_Mo_put_0 rfl (lv_at hl 0 rfl) ?_
  refine va_get (ci := 5) (C := R_Mo) (T := F_Mo) (N := 18) hx hb hg in_Mo hown hK hP 0 rfl rfl 3 (by decide) (hg _ m_506) (fun _ h => h) rfl d_Mo_put_1 ?_
  refine lv_iload_n hx hb d_Mo_put_4 rfl (lv_at hl 1 rfl) ?_
  refine lv_iload_n hx hb d_Mo_put_5 rfl (lv_at hl 2 rfl) ?_
  refine va_iast hx hb hK hP hD hS 3 0 rfl rfl h_r d_Mo_put_6 (fun H locs hP hD hS => ?_)
  have hP : va_P D classes (W_Mo cI cL b0 b1 b2 b3 b4 b5 b6 b7 ev wr wg (upd ke r.toNatClampNeg v) ma li ps pn cy ca va cn pp px go ne gi gn) H := hP
  have hD : va_D A (W_Mo cI cL b0 b1 b2 b3 b4 b5 b6 b7 ev wr wg (upd ke r.toNatClampNeg v) ma li ps pn cy ca va cn pp px go ne gi gn) := hD
  refine lv_iconst (v := 0) hx hb d_Mo_put_7 (by decide) ?_
  refine lv_istore_n (lv' := [(3, .int _), (0, .ref _), (1, .int _), (2, .int _)]) hx hb d_Mo_put_8 rfl hl (by decide) rfl (fun ls hl => ?_)
  refine lv_iload_n hx hb d_Mo_put_9 rfl (lv_at hl 0 rfl) ?_
  refine lv_iconst (v := 3) hx hb d_Mo_put_10 (by decide) ?_
  refine lv_icmp_ge (tgt := 31) hx hb d_Mo_put_11 (by decide) (fun h => absurd h (by decide)) (fun _ => ?_)
  refine lv_aload_n hx hb d_Mo_put_14 rfl (lv_at hl 1 rfl) ?_
  refine va_get (ci := 5) (C := R_Mo) (T := F_Mo) (N := 18) hx hb hg in_Mo hown hK hP 0 rfl rfl 4 (by decide) (hg _ m_507) (fun _ h => h) rfl d_Mo_put_15 ?_
  refine lv_iconst (v := 3) hx hb d_Mo_put_18 (by decide) ?_
  refine lv_iload_n hx hb d_Mo_put_19 rfl (lv_at hl 2 rfl) ?_
  refine lv_imul hx hb d_Mo_put_20 ?_
  refine lv_iload_n hx hb d_Mo_put_21 rfl (lv_at hl 0 rfl) ?_
  refine lv_iadd hx hb d_Mo_put_22 ?_
  refine lv_iconst (v := 0) hx hb d_Mo_put_23 (by decide) ?_
  refine va_iast hx hb hK hP hD hS 4 0 rfl rfl (v3_z h_r) d_Mo_put_24 (fun H locs hP hD hS => ?_)
  have hP : va_P D classes (W_Mo cI cL b0 b1 b2 b3 b4 b5 b6 b7 ev wr wg (upd ke r.toNatClampNeg v) (upd ma (((3 : Int32) * r) + (0 : Int32)).toNatClampNeg (0 : Int32)) li ps pn cy ca va cn pp px go ne gi gn) H := hP
  have hD : va_D A (W_Mo cI cL b0 b1 b2 b3 b4 b5 b6 b7 ev wr wg (upd ke r.toNatClampNeg v) (upd ma (((3 : Int32) * r) + (0 : Int32)).toNatClampNeg (0 : Int32)) li ps pn cy ca va cn pp px go ne gi gn) := hD
  refine lv_iinc (k := 0) (v := 1) (lv' := [(3, .int _), (0, .ref _), (1, .int _), (2, .int _)]) hx hb d_Mo_put_25 hl rfl (by decide) (by decide) rfl (fun ls hl => ?_)
  refine lv_goto (tgt := 9) hx hb d_Mo_put_28 (by decide) ?_
  refine lv_iload_n hx hb d_Mo_put_9 rfl (lv_at hl 0 rfl) ?_
  refine lv_iconst (v := 3) hx hb d_Mo_put_10 (by decide) ?_
  refine lv_icmp_ge (tgt := 31) hx hb d_Mo_put_11 (by decide) (fun h => absurd h (by decide)) (fun _ => ?_)
  refine lv_aload_n hx hb d_Mo_put_14 rfl (lv_at hl 1 rfl) ?_
  refine va_get (ci := 5) (C := R_Mo) (T := F_Mo) (N := 18) hx hb hg in_Mo hown hK hP 0 rfl rfl 4 (by decide) (hg _ m_507) (fun _ h => h) rfl d_Mo_put_15 ?_
  refine lv_iconst (v := 3) hx hb d_Mo_put_18 (by decide) ?_
  refine lv_iload_n hx hb d_Mo_put_19 rfl (lv_at hl 2 rfl) ?_
  refine lv_imul hx hb d_Mo_put_20 ?_
  refine lv_iload_n hx hb d_Mo_put_21 rfl (lv_at hl 0 rfl) ?_
  refine lv_iadd hx hb d_Mo_put_22 ?_
  refine lv_iconst (v := 0) hx hb d_Mo_put_23 (by decide) ?_
  refine va_iast hx hb hK hP hD hS 4 0 rfl rfl (v3_1 h_r) d_Mo_put_24 (fun H locs hP hD hS => ?_)
  have hP : va_P D classes (W_Mo cI cL b0 b1 b2 b3 b4 b5 b6 b7 ev wr wg (upd ke r.toNatClampNeg v) (upd (upd ma (((3 : Int32) * r) + (0 : Int32)).toNatClampNeg (0 : Int32)) (((3 : Int32) * r) + (1 : Int32)).toNatClampNeg (0 : Int32)) li ps pn cy ca va cn pp px go ne gi gn) H := hP
  have hD : va_D A (W_Mo cI cL b0 b1 b2 b3 b4 b5 b6 b7 ev wr wg (upd ke r.toNatClampNeg v) (upd (upd ma (((3 : Int32) * r) + (0 : Int32)).toNatClampNeg (0 : Int32)) (((3 : Int32) * r) + (1 : Int32)).toNatClampNeg (0 : Int32)) li ps pn cy ca va cn pp px go ne gi gn) := hD
  refine lv_iinc (k := 0) (v := 2) (lv' := [(3, .int _), (0, .ref _), (1, .int _), (2, .int _)]) hx hb d_Mo_put_25 hl rfl (by decide) (by decide) rfl (fun ls hl => ?_)
  refine lv_goto (tgt := 9) hx hb d_Mo_put_28 (by decide) ?_
  refine lv_iload_n hx hb d_Mo_put_9 rfl (lv_at hl 0 rfl) ?_
  refine lv_iconst (v := 3) hx hb d_Mo_put_10 (by decide) ?_
  refine lv_icmp_ge (tgt := 31) hx hb d_Mo_put_11 (by decide) (fun h => absurd h (by decide)) (fun _ => ?_)
  refine lv_aload_n hx hb d_Mo_put_14 rfl (lv_at hl 1 rfl) ?_
  refine va_get (ci := 5) (C := R_Mo) (T := F_Mo) (N := 18) hx hb hg in_Mo hown hK hP 0 rfl rfl 4 (by decide) (hg _ m_507) (fun _ h => h) rfl d_Mo_put_15 ?_
  refine lv_iconst (v := 3) hx hb d_Mo_put_18 (by decide) ?_
  refine lv_iload_n hx hb d_Mo_put_19 rfl (lv_at hl 2 rfl) ?_
  refine lv_imul hx hb d_Mo_put_20 ?_
  refine lv_iload_n hx hb d_Mo_put_21 rfl (lv_at hl 0 rfl) ?_
  refine lv_iadd hx hb d_Mo_put_22 ?_
  refine lv_iconst (v := 0) hx hb d_Mo_put_23 (by decide) ?_
  refine va_iast hx hb hK hP hD hS 4 0 rfl rfl (v3_2 h_r) d_Mo_put_24 (fun H locs hP hD hS => ?_)
  have hP : va_P D classes (W_Mo cI cL b0 b1 b2 b3 b4 b5 b6 b7 ev wr wg (upd ke r.toNatClampNeg v) (upd (upd (upd ma (((3 : Int32) * r) + (0 : Int32)).toNatClampNeg (0 : Int32)) (((3 : Int32) * r) + (1 : Int32)).toNatClampNeg (0 : Int32)) (((3 : Int32) * r) + (2 : Int32)).toNatClampNeg (0 : Int32)) li ps pn cy ca va cn pp px go ne gi gn) H := hP
  have hD : va_D A (W_Mo cI cL b0 b1 b2 b3 b4 b5 b6 b7 ev wr wg (upd ke r.toNatClampNeg v) (upd (upd (upd ma (((3 : Int32) * r) + (0 : Int32)).toNatClampNeg (0 : Int32)) (((3 : Int32) * r) + (1 : Int32)).toNatClampNeg (0 : Int32)) (((3 : Int32) * r) + (2 : Int32)).toNatClampNeg (0 : Int32)) li ps pn cy ca va cn pp px go ne gi gn) := hD
  refine lv_iinc (k := 0) (v := 3) (lv' := [(3, .int _), (0, .ref _), (1, .int _), (2, .int _)]) hx hb d_Mo_put_25 hl rfl (by decide) (by decide) rfl (fun ls hl => ?_)
  refine lv_goto (tgt := 9) hx hb d_Mo_put_28 (by decide) ?_
  refine lv_iload_n hx hb d_Mo_put_9 rfl (lv_at hl 0 rfl) ?_
  refine lv_iconst (v := 3) hx hb d_Mo_put_10 (by decide) ?_
  refine lv_icmp_ge (tgt := 31) hx hb d_Mo_put_11 (by decide) (fun _ => ?_) (fun h => absurd (by decide) h)
  exact W.vret hx hb hr (fun t ht hW => ⟨⟨(), rfl, trivial, by show va_P D classes _ t.heap; rw [ht]; exact hP⟩, hS.F ht⟩) hS.2.2 d_Mo_put_31 hlocks
abbrev q_Mo_vote (D : va_G) (cI cL : ClassId) (b0 b1 b2 b3 b4 b5 b6 b7 : Nat) (A : Nat → Prop) (ev : Int32) (wr : Nat → Int32) (wg : Nat → Int64) (ke : Nat → Int32) (ma : Nat → Int32) (li : Nat → Int64) (ps : Int32) (pn : Nat → Int32) (cy : Int32) (ca : Int32) (va : Int32) (cn : Nat → Int32) (pp : Int32) (px : Int32) (go : Int32) (ne : Int32) (gi : Int32) (gn : Int32) (F : (Nat → Int32) × (Nat → Int32) × (Nat → Int32)) : Array Value → State → Outcome → State → Prop := va_Qv (fun (_ : Unit) => True) (fun _ t => va_P D classes (W_Mo cI cL b0 b1 b2 b3 b4 b5 b6 b7 ev wr wg F.1 F.2.1 li ps pn cy ca va F.2.2 pp px go ne gi gn) t.heap) A
theorem f_Mo_vote_e1 (n : Nat) (j : Nat) (ke_ : Nat → Int32) (ma_ : Nat → Int32) (cn_ : Nat → Int32) (t1 : (Nat → Int32) × (Nat → Int32)) (e_t1 : f_Mo_put ke_ ma_ (nI j) (f_Mo_valueOf ke_ ma_ (nI j)) = t1) (h26 : ¬ (ma_ ((3 : Int32) * (nI j)).toNatClampNeg) = (ma_ (((3 : Int32) * (nI j)) + (1 : Int32)).toNatClampNeg)) : f_Mo_vote_l2 (n + 1) j ke_ ma_ cn_ = f_Mo_vote_l2  n (j + 1) t1.1 t1.2 (upd cn_ (2 : Int32).toNatClampNeg ((cn_ (2 : Int32).toNatClampNeg) + (1 : Int32))) := by
  subst e_t1
  exact (if_neg h26)
theorem f_Mo_vote_e2 (n : Nat) (j : Nat) (ke_ : Nat → Int32) (ma_ : Nat → Int32) (cn_ : Nat → Int32) (t2 : (Nat → Int32) × (Nat → Int32)) (e_t2 : f_Mo_put ke_ ma_ (nI j) (f_Mo_valueOf ke_ ma_ (nI j)) = t2) (h26 : (ma_ ((3 : Int32) * (nI j)).toNatClampNeg) = (ma_ (((3 : Int32) * (nI j)) + (1 : Int32)).toNatClampNeg)) (h47 : ¬ (ma_ ((3 : Int32) * (nI j)).toNatClampNeg) = (ma_ (((3 : Int32) * (nI j)) + (2 : Int32)).toNatClampNeg)) : f_Mo_vote_l2 (n + 1) j ke_ ma_ cn_ = f_Mo_vote_l2  n (j + 1) t2.1 t2.2 (upd cn_ (2 : Int32).toNatClampNeg ((cn_ (2 : Int32).toNatClampNeg) + (1 : Int32))) := by
  subst e_t2
  exact ((if_pos h26).trans (if_neg h47))
theorem f_Mo_vote_e3 (n : Nat) (j : Nat) (ke_ : Nat → Int32) (ma_ : Nat → Int32) (cn_ : Nat → Int32) (t3 : (Nat → Int32) × (Nat → Int32)) (e_t3 : f_Mo_put ke_ ma_ (nI j) (f_Mo_valueOf ke_ ma_ (nI j)) = t3) (h26 : (ma_ ((3 : Int32) * (nI j)).toNatClampNeg) = (ma_ (((3 : Int32) * (nI j)) + (1 : Int32)).toNatClampNeg)) (h47 : (ma_ ((3 : Int32) * (nI j)).toNatClampNeg) = (ma_ (((3 : Int32) * (nI j)) + (2 : Int32)).toNatClampNeg)) : f_Mo_vote_l2 (n + 1) j ke_ ma_ cn_ = f_Mo_vote_l2  n (j + 1) t3.1 t3.2 (upd cn_ (2 : Int32).toNatClampNeg (cn_ (2 : Int32).toNatClampNeg)) := by
  subst e_t3
  exact ((if_pos h26).trans (if_pos h47))
set_option maxHeartbeats 4000000 in
set_option maxRecDepth 100000 in
theorem c_Mo_vote (l : Launch) (D : va_G) (cI cL : ClassId) (b0 b1 b2 b3 b4 b5 b6 b7 : Nat) (sz : Nat) (ev : Int32) (wr : Nat → Int32) (wg : Nat → Int64) (ke : Nat → Int32) (ma : Nat → Int32) (li : Nat → Int64) (ps : Int32) (pn : Nat → Int32) (cy : Int32) (ca : Int32) (va : Int32) (cn : Nat → Int32) (pp : Int32) (px : Int32) (go : Int32) (ne : Int32) (gi : Int32) (gn : Int32)   : Met l y_Mo_vote w_Mo_vote ({ frames := 2, cells := 0, slots := 0, locals := 43 }) (va_Pc [.ref b0] (PW D cI cL (W_Mo cI cL b0 b1 b2 b3 b4 b5 b6 b7 ev wr wg ke ma li ps pn cy ca va cn pp px go ne gi gn) sz)) (q_Mo_vote D cI cL b0 b1 b2 b3 b4 b5 b6 b7 (va_A (W_Mo cI cL b0 b1 b2 b3 b4 b5 b6 b7 ev wr wg ke ma li ps pn cy ca va cn pp px go ne gi gn) sz) ev wr wg ke ma li ps pn cy ca va cn pp px go ne gi gn (f_Mo_vote ke ma cn)) 0 0 (va_A (W_Mo cI cL b0 b1 b2 b3 b4 b5 b6 b7 ev wr wg ke ma li ps pn cy ca va cn pp px go ne gi gn) sz) := by
  refine mk_met (Qf := fun A => q_Mo_vote D cI cL b0 b1 b2 b3 b4 b5 b6 b7 A ev wr wg ke ma li ps pn cy ca va cn pp px go ne gi gn (f_Mo_vote ke ma cn)) (by decide) (Nat.le_of_ble_eq_true rfl) ?_
  intro p e s m below meth c A ls hx hb hr hlocks hml hown hg hK hN hT hA hP hD hS hnm hl
  refine lv_iconst (v := 0) hx hb d_Mo_vote_0 (by decide) ?_
  refine lv_istore_n (lv' := [(1, .int _), (0, .ref _)]) hx hb d_Mo_vote_1 rfl hl (by decide) rfl (fun ls hl => ?_)
  have loop : ∀ (n j : Nat) (ke_ : Nat → Int32) (ma_ : Nat → Int32) (cn_ : Nat → Int32) (ls : Array Slot) (H : Heap) (locs : List Loc), j + n = 32 → lv_has ls 3 [(1, .int (nI j)), (0, .ref b0)] → va_P D classes (W_Mo cI cL b0 b1 b2 b3 b4 b5 b6 b7 ev wr wg ke_ ma_ li ps pn cy ca va cn_ pp px go ne gi gn) H → va_D A (W_Mo cI cL b0 b1 b2 b3 b4 b5 b6 b7 ev wr wg ke_ ma_ li ps pn cy ca va cn_ pp px go ne gi gn) → va_S A s.heap H locs → W p l e ({ frames := 2, cells := 0, slots := 0, locals := 43 } : Room) s m ([.ref b0] : List Value).toArray below meth c H locs 0 0 (MQ below (q_Mo_vote D cI cL b0 b1 b2 b3 b4 b5 b6 b7 A ev wr wg ke ma li ps pn cy ca va cn pp px go ne gi gn (f_Mo_vote_l2  n j ke_ ma_ cn_)) ([.ref b0] : List Value).toArray s 0 0 A) (F0 m 2 ls []) := by
    intro n
    induction n with
    | zero =>
      intro j ke_ ma_ cn_ ls H locs hj  hl hP hD hS
      refine lv_iload_n hx hb d_Mo_vote_2 rfl (lv_at hl 0 rfl) ?_
      refine lv_bipush (v := 32) hx hb d_Mo_vote_3 (by decide) ?_
      refine lv_icmp_ge (tgt := 99) hx hb d_Mo_vote_5 (by decide) (fun _ => ?_) (fun h => absurd (show nI 32 ≤ nI j from nI_le (by omega) (by omega)) h)
      exact W.vret hx hb hr (fun t ht hW => ⟨⟨(), rfl, trivial, by show va_P D classes _ t.heap; rw [ht]; exact hP⟩, hS.F ht⟩) hS.2.2 d_Mo_vote_99 hlocks
    | succ n ih =>
      intro j ke_ ma_ cn_ ls H locs hj  hl hP hD hS
      refine lv_iload_n hx hb d_Mo_vote_2 rfl (lv_at hl 0 rfl) ?_
      refine lv_bipush (v := 32) hx hb d_Mo_vote_3 (by decide) ?_
      refine lv_icmp_ge (tgt := 99) hx hb d_Mo_vote_5 (by decide) (fun h => absurd h (show ¬ nI 32 ≤ nI j from nI_ge (by omega) (by decide))) (fun _ => ?_)
      refine lv_aload_n hx hb d_Mo_vote_8 rfl (lv_at hl 1 rfl) ?_
      refine va_get (ci := 5) (C := R_Mo) (T := F_Mo) (N := 18) hx hb hg in_Mo hown hK hP 0 rfl rfl 4 (by decide) (hg _ m_507) (fun _ h => h) rfl d_Mo_vote_9 ?_
      refine lv_iconst (v := 3) hx hb d_Mo_vote_12 (by decide) ?_
      refine lv_iload_n hx hb d_Mo_vote_13 rfl (lv_at hl 0 rfl) ?_
      refine lv_imul hx hb d_Mo_vote_14 ?_
      refine va_iald hx hb hK hP 4 0 rfl rfl (v3_0 (vp_in_nI (by omega) (by decide))) d_Mo_vote_15 ?_
      refine lv_aload_n hx hb d_Mo_vote_16 rfl (lv_at hl 1 rfl) ?_
      refine va_get (ci := 5) (C := R_Mo) (T := F_Mo) (N := 18) hx hb hg in_Mo hown hK hP 0 rfl rfl 4 (by decide) (hg _ m_507) (fun _ h => h) rfl d_Mo_vote_17 ?_
      refine lv_iconst (v := 3) hx hb d_Mo_vote_20 (by decide) ?_
      refine lv_iload_n hx hb d_Mo_vote_21 rfl (lv_at hl 0 rfl) ?_
      refine lv_imul hx hb d_Mo_vote_22 ?_
      refine lv_iconst (v := 1) hx hb d_Mo_vote_23 (by decide) ?_
      refine lv_iadd hx hb d_Mo_vote_24 ?_
      refine va_iald hx hb hK hP 4 0 rfl rfl (v3_1 (vp_in_nI (by omega) (by decide))) d_Mo_vote_25 ?_
      refine lv_icmp_ne (tgt := 54) hx hb d_Mo_vote_26 (by decide) (fun h26 => ?_) (fun h26 => ?_)
      · refine lv_iconst (v := 0) hx hb d_Mo_vote_54 (by decide) ?_
        refine lv_istore_n (lv' := [(2, .int _), (1, .int _), (0, .ref _)]) hx hb d_Mo_vote_55 rfl hl (by decide) rfl (fun ls hl => ?_)
        refine lv_aload_n hx hb d_Mo_vote_56 rfl (lv_at hl 2 rfl) ?_
        refine va_get (ci := 5) (C := R_Mo) (T := F_Mo) (N := 18) hx hb hg in_Mo hown hK hP 0 rfl rfl 11 (by decide) (hg _ m_514) (fun _ h => h) rfl d_Mo_vote_57 ?_
        refine lv_iconst (v := 2) hx hb d_Mo_vote_60 (by decide) ?_
        refine lv_iload_n hx hb d_Mo_vote_61 rfl (lv_at hl 0 rfl) ?_
        refine lv_if_eq (tgt := 74) hx hb d_Mo_vote_62 (by decide) (fun _ => ?_) (fun h => absurd (by decide) h)
        refine lv_aload_n hx hb d_Mo_vote_74 rfl (lv_at hl 2 rfl) ?_
        refine va_get (ci := 5) (C := R_Mo) (T := F_Mo) (N := 18) hx hb hg in_Mo hown hK hP 0 rfl rfl 11 (by decide) (hg _ m_514) (fun _ h => h) rfl d_Mo_vote_75 ?_
        refine lv_iconst (v := 2) hx hb d_Mo_vote_78 (by decide) ?_
        refine va_iald hx hb hK hP 7 0 rfl rfl (vp_ofb (by decide)) d_Mo_vote_79 ?_
        refine lv_iconst (v := 1) hx hb d_Mo_vote_80 (by decide) ?_
        refine lv_iadd hx hb d_Mo_vote_81 ?_
        refine va_iast hx hb hK hP hD hS 7 0 rfl rfl (vp_ofb (by decide)) d_Mo_vote_82 (fun H locs hP hD hS => ?_)
        have hP : va_P D classes (W_Mo cI cL b0 b1 b2 b3 b4 b5 b6 b7 ev wr wg ke_ ma_ li ps pn cy ca va (upd cn_ (2 : Int32).toNatClampNeg ((cn_ (2 : Int32).toNatClampNeg) + (1 : Int32))) pp px go ne gi gn) H := hP
        have hD : va_D A (W_Mo cI cL b0 b1 b2 b3 b4 b5 b6 b7 ev wr wg ke_ ma_ li ps pn cy ca va (upd cn_ (2 : Int32).toNatClampNeg ((cn_ (2 : Int32).toNatClampNeg) + (1 : Int32))) pp px go ne gi gn) := hD
        refine lv_aload_n hx hb d_Mo_vote_83 rfl (lv_at hl 2 rfl) ?_
        refine lv_iload_n hx hb d_Mo_vote_84 rfl (lv_at hl 1 rfl) ?_
        refine lv_aload_n hx hb d_Mo_vote_85 rfl (lv_at hl 2 rfl) ?_
        refine lv_iload_n hx hb d_Mo_vote_86 rfl (lv_at hl 1 rfl) ?_
        refine cj_i (wc := (W_Mo cI cL b0 b1 b2 b3 b4 b5 b6 b7 ev wr wg ke_ ma_ li ps pn cy ca va (upd cn_ (2 : Int32).toNatClampNeg ((cn_ (2 : Int32).toNatClampNeg) + (1 : Int32))) pp px go ne gi gn)) (w1 := (W_Mo cI cL b0 b1 b2 b3 b4 b5 b6 b7 ev wr wg ke_ ma_ li ps pn cy ca va (upd cn_ (2 : Int32).toNatClampNeg ((cn_ (2 : Int32).toNatClampNeg) + (1 : Int32))) pp px go ne gi gn)) hP hD hS hA [0, 1, 2, 3, 4, 5, 6, 7] rfl [b0, b1, b2, b3, b4, b5, b6, b7] rfl rfl (va_runV (rest := [.int _, .ref _]) ⟨hx, hb, hml, hown, hg⟩ (c_Mo_valueOf l D cI cL b0 b1 b2 b3 b4 b5 b6 b7 _ ev wr wg ke_ ma_ li ps pn cy ca va (upd cn_ (2 : Int32).toNatClampNeg ((cn_ (2 : Int32).toNatClampNeg) + (1 : Int32))) pp px go ne gi gn (nI j) (vp_in_nI (by omega) (by decide))) ⟨callB_of 1 hg (gw_good m_580) rfl rfl rfl (hg _ m_71) (hg _ m_577) hd_Mo_valueOf ⟨Nat.le_of_ble_eq_true rfl, Nat.le_of_ble_eq_true rfl⟩, hg _ m_579, hg _ m_37⟩ (pw_V hK hN hT hA hP hD hS [0, 1, 2, 3, 4, 5, 6, 7] rfl (by decide) (q0 := 0) (ci := 5) rfl rfl) rfl rfl hl.1 rfl (lv_room (Nat.le_of_ble_eq_true rfl)) d_Mo_vote_87 ⟨Nat.le_of_ble_eq_true rfl, Nat.le_of_ble_eq_true rfl⟩) (fun H locs hP hD hS => ?_)
        have hP : va_P D classes (W_Mo cI cL b0 b1 b2 b3 b4 b5 b6 b7 ev wr wg ke_ ma_ li ps pn cy ca va (upd cn_ (2 : Int32).toNatClampNeg ((cn_ (2 : Int32).toNatClampNeg) + (1 : Int32))) pp px go ne gi gn) H := hP
        have hD : va_D A (W_Mo cI cL b0 b1 b2 b3 b4 b5 b6 b7 ev wr wg ke_ ma_ li ps pn cy ca va (upd cn_ (2 : Int32).toNatClampNeg ((cn_ (2 : Int32).toNatClampNeg) + (1 : Int32))) pp px go ne gi gn) := hD
        refine cj_v (wc := (W_Mo cI cL b0 b1 b2 b3 b4 b5 b6 b7 ev wr wg ke_ ma_ li ps pn cy ca va (upd cn_ (2 : Int32).toNatClampNeg ((cn_ (2 : Int32).toNatClampNeg) + (1 : Int32))) pp px go ne gi gn)) (w1 := (W_Mo cI cL b0 b1 b2 b3 b4 b5 b6 b7 ev wr wg ((f_Mo_put ke_ ma_ (nI j) (f_Mo_valueOf ke_ ma_ (nI j))).1) ((f_Mo_put ke_ ma_ (nI j) (f_Mo_valueOf ke_ ma_ (nI j))).2) li ps pn cy ca va (upd cn_ (2 : Int32).toNatClampNeg ((cn_ (2 : Int32).toNatClampNeg) + (1 : Int32))) pp px go ne gi gn)) hP hD hS hA [0, 1, 2, 3, 4, 5, 6, 7] rfl [b0, b1, b2, b3, b4, b5, b6, b7] rfl rfl (va_runV (rest := []) ⟨hx, hb, hml, hown, hg⟩ (c_Mo_put l D cI cL b0 b1 b2 b3 b4 b5 b6 b7 _ ev wr wg ke_ ma_ li ps pn cy ca va (upd cn_ (2 : Int32).toNatClampNeg ((cn_ (2 : Int32).toNatClampNeg) + (1 : Int32))) pp px go ne gi gn (nI j) (f_Mo_valueOf ke_ ma_ (nI j)) (vp_in_nI (by omega) (by decide))) ⟨callB_of 2 hg (gw_good m_587) rfl rfl rfl (hg _ m_71) (hg _ m_584) hd_Mo_put ⟨Nat.le_of_ble_eq_true rfl, Nat.le_of_ble_eq_true rfl⟩, hg _ m_586, hg _ m_38⟩ (pw_V hK hN hT hA hP hD hS [0, 1, 2, 3, 4, 5, 6, 7] rfl (by decide) (q0 := 0) (ci := 5) rfl rfl) rfl rfl hl.1 rfl (lv_room (Nat.le_of_ble_eq_true rfl)) d_Mo_vote_90 ⟨Nat.le_of_ble_eq_true rfl, Nat.le_of_ble_eq_true rfl⟩) (fun H locs hP hD hS => ?_)
        have hP : va_P D classes (W_Mo cI cL b0 b1 b2 b3 b4 b5 b6 b7 ev wr wg ((f_Mo_put ke_ ma_ (nI j) (f_Mo_valueOf ke_ ma_ (nI j))).1) ((f_Mo_put ke_ ma_ (nI j) (f_Mo_valueOf ke_ ma_ (nI j))).2) li ps pn cy ca va (upd cn_ (2 : Int32).toNatClampNeg ((cn_ (2 : Int32).toNatClampNeg) + (1 : Int32))) pp px go ne gi gn) H := hP
        have hD : va_D A (W_Mo cI cL b0 b1 b2 b3 b4 b5 b6 b7 ev wr wg ((f_Mo_put ke_ ma_ (nI j) (f_Mo_valueOf ke_ ma_ (nI j))).1) ((f_Mo_put ke_ ma_ (nI j) (f_Mo_valueOf ke_ ma_ (nI j))).2) li ps pn cy ca va (upd cn_ (2 : Int32).toNatClampNeg ((cn_ (2 : Int32).toNatClampNeg) + (1 : Int32))) pp px go ne gi gn) := hD
        generalize e_t1 : f_Mo_put ke_ ma_ (nI j) (f_Mo_valueOf ke_ ma_ (nI j)) = t1 at hP hD ⊢
        obtain ⟨t1_0, t1_1⟩ := t1
        have hP : va_P D classes (W_Mo cI cL b0 b1 b2 b3 b4 b5 b6 b7 ev wr wg t1_0 t1_1 li ps pn cy ca va (upd cn_ (2 : Int32).toNatClampNeg ((cn_ (2 : Int32).toNatClampNeg) + (1 : Int32))) pp px go ne gi gn) H := hP
        have hD : va_D A (W_Mo cI cL b0 b1 b2 b3 b4 b5 b6 b7 ev wr wg t1_0 t1_1 li ps pn cy ca va (upd cn_ (2 : Int32).toNatClampNeg ((cn_ (2 : Int32).toNatClampNeg) + (1 : Int32))) pp px go ne gi gn) := hD
        refine lv_iinc (k := 1) (v := nI (_ + 1)) (lv' := [(1, .int _), (2, .int _), (0, .ref _)]) hx hb d_Mo_vote_93 hl rfl (nI_1 _) (by decide) rfl (fun ls hl => ?_)
        refine lv_goto (tgt := 2) hx hb d_Mo_vote_96 (by decide) ?_
        rw [f_Mo_vote_e1 (n) j ke_ ma_ cn_ (t1_0, t1_1) e_t1 h26]
        exact ih (j + 1) _ _ _ _ _ _ (by omega)  (lv_sub hl [0, 2] rfl) hP hD hS
      · refine lv_aload_n hx hb d_Mo_vote_29 rfl (lv_at hl 1 rfl) ?_
        refine va_get (ci := 5) (C := R_Mo) (T := F_Mo) (N := 18) hx hb hg in_Mo hown hK hP 0 rfl rfl 4 (by decide) (hg _ m_507) (fun _ h => h) rfl d_Mo_vote_30 ?_
        refine lv_iconst (v := 3) hx hb d_Mo_vote_33 (by decide) ?_
        refine lv_iload_n hx hb d_Mo_vote_34 rfl (lv_at hl 0 rfl) ?_
        refine lv_imul hx hb d_Mo_vote_35 ?_
        refine va_iald hx hb hK hP 4 0 rfl rfl (v3_0 (vp_in_nI (by omega) (by decide))) d_Mo_vote_36 ?_
        refine lv_aload_n hx hb d_Mo_vote_37 rfl (lv_at hl 1 rfl) ?_
        refine va_get (ci := 5) (C := R_Mo) (T := F_Mo) (N := 18) hx hb hg in_Mo hown hK hP 0 rfl rfl 4 (by decide) (hg _ m_507) (fun _ h => h) rfl d_Mo_vote_38 ?_
        refine lv_iconst (v := 3) hx hb d_Mo_vote_41 (by decide) ?_
        refine lv_iload_n hx hb d_Mo_vote_42 rfl (lv_at hl 0 rfl) ?_
        refine lv_imul hx hb d_Mo_vote_43 ?_
        refine lv_iconst (v := 2) hx hb d_Mo_vote_44 (by decide) ?_
        refine lv_iadd hx hb d_Mo_vote_45 ?_
        refine va_iald hx hb hK hP 4 0 rfl rfl (v3_2 (vp_in_nI (by omega) (by decide))) d_Mo_vote_46 ?_
        refine lv_icmp_ne (tgt := 54) hx hb d_Mo_vote_47 (by decide) (fun h47 => ?_) (fun h47 => ?_)
        · refine lv_iconst (v := 0) hx hb d_Mo_vote_54 (by decide) ?_
          refine lv_istore_n (lv' := [(2, .int _), (1, .int _), (0, .ref _)]) hx hb d_Mo_vote_55 rfl hl (by decide) rfl (fun ls hl => ?_)
          refine lv_aload_n hx hb d_Mo_vote_56 rfl (lv_at hl 2 rfl) ?_
          refine va_get (ci := 5) (C := R_Mo) (T := F_Mo) (N := 18) hx hb hg in_Mo hown hK hP 0 rfl rfl 11 (by decide) (hg _ m_514) (fun _ h => h) rfl d_Mo_vote_57 ?_
          refine lv_iconst (v := 2) hx hb d_Mo_vote_60 (by decide) ?_
          refine lv_iload_n hx hb d_Mo_vote_61 rfl (lv_at hl 0 rfl) ?_
          refine lv_if_eq (tgt := 74) hx hb d_Mo_vote_62 (by decide) (fun _ => ?_) (fun h => absurd (by decide) h)
          refine lv_aload_n hx hb d_Mo_vote_74 rfl (lv_at hl 2 rfl) ?_
          refine va_get (ci := 5) (C := R_Mo) (T := F_Mo) (N := 18) hx hb hg in_Mo hown hK hP 0 rfl rfl 11 (by decide) (hg _ m_514) (fun _ h => h) rfl d_Mo_vote_75 ?_
          refine lv_iconst (v := 2) hx hb d_Mo_vote_78 (by decide) ?_
          refine va_iald hx hb hK hP 7 0 rfl rfl (vp_ofb (by decide)) d_Mo_vote_79 ?_
          refine lv_iconst (v := 1) hx hb d_Mo_vote_80 (by decide) ?_
          refine lv_iadd hx hb d_Mo_vote_81 ?_
          refine va_iast hx hb hK hP hD hS 7 0 rfl rfl (vp_ofb (by decide)) d_Mo_vote_82 (fun H locs hP hD hS => ?_)
          have hP : va_P D classes (W_Mo cI cL b0 b1 b2 b3 b4 b5 b6 b7 ev wr wg ke_ ma_ li ps pn cy ca va (upd cn_ (2 : Int32).toNatClampNeg ((cn_ (2 : Int32).toNatClampNeg) + (1 : Int32))) pp px go ne gi gn) H := hP
          have hD : va_D A (W_Mo cI cL b0 b1 b2 b3 b4 b5 b6 b7 ev wr wg ke_ ma_ li ps pn cy ca va (upd cn_ (2 : Int32).toNatClampNeg ((cn_ (2 : Int32).toNatClampNeg) + (1 : Int32))) pp px go ne gi gn) := hD
          refine lv_aload_n hx hb d_Mo_vote_83 rfl (lv_at hl 2 rfl) ?_
          refine lv_iload_n hx hb d_Mo_vote_84 rfl (lv_at hl 1 rfl) ?_
          refine lv_aload_n hx hb d_Mo_vote_85 rfl (lv_at hl 2 rfl) ?_
          refine lv_iload_n hx hb d_Mo_vote_86 rfl (lv_at hl 1 rfl) ?_
          refine cj_i (wc := (W_Mo cI cL b0 b1 b2 b3 b4 b5 b6 b7 ev wr wg ke_ ma_ li ps pn cy ca va (upd cn_ (2 : Int32).toNatClampNeg ((cn_ (2 : Int32).toNatClampNeg) + (1 : Int32))) pp px go ne gi gn)) (w1 := (W_Mo cI cL b0 b1 b2 b3 b4 b5 b6 b7 ev wr wg ke_ ma_ li ps pn cy ca va (upd cn_ (2 : Int32).toNatClampNeg ((cn_ (2 : Int32).toNatClampNeg) + (1 : Int32))) pp px go ne gi gn)) hP hD hS hA [0, 1, 2, 3, 4, 5, 6, 7] rfl [b0, b1, b2, b3, b4, b5, b6, b7] rfl rfl (va_runV (rest := [.int _, .ref _]) ⟨hx, hb, hml, hown, hg⟩ (c_Mo_valueOf l D cI cL b0 b1 b2 b3 b4 b5 b6 b7 _ ev wr wg ke_ ma_ li ps pn cy ca va (upd cn_ (2 : Int32).toNatClampNeg ((cn_ (2 : Int32).toNatClampNeg) + (1 : Int32))) pp px go ne gi gn (nI j) (vp_in_nI (by omega) (by decide))) ⟨callB_of 1 hg (gw_good m_580) rfl rfl rfl (hg _ m_71) (hg _ m_577) hd_Mo_valueOf ⟨Nat.le_of_ble_eq_true rfl, Nat.le_of_ble_eq_true rfl⟩, hg _ m_579, hg _ m_37⟩ (pw_V hK hN hT hA hP hD hS [0, 1, 2, 3, 4, 5, 6, 7] rfl (by decide) (q0 := 0) (ci := 5) rfl rfl) rfl rfl hl.1 rfl (lv_room (Nat.le_of_ble_eq_true rfl)) d_Mo_vote_87 ⟨Nat.le_of_ble_eq_true rfl, Nat.le_of_ble_eq_true rfl⟩) (fun H locs hP hD hS => ?_)
          have hP : va_P D classes (W_Mo cI cL b0 b1 b2 b3 b4 b5 b6 b7 ev wr wg ke_ ma_ li ps pn cy ca va (upd cn_ (2 : Int32).toNatClampNeg ((cn_ (2 : Int32).toNatClampNeg) + (1 : Int32))) pp px go ne gi gn) H := hP
          have hD : va_D A (W_Mo cI cL b0 b1 b2 b3 b4 b5 b6 b7 ev wr wg ke_ ma_ li ps pn cy ca va (upd cn_ (2 : Int32).toNatClampNeg ((cn_ (2 : Int32).toNatClampNeg) + (1 : Int32))) pp px go ne gi gn) := hD
          refine cj_v (wc := (W_Mo cI cL b0 b1 b2 b3 b4 b5 b6 b7 ev wr wg ke_ ma_ li ps pn cy ca va (upd cn_ (2 : Int32).toNatClampNeg ((cn_ (2 : Int32).toNatClampNeg) + (1 : Int32))) pp px go ne gi gn)) (w1 := (W_Mo cI cL b0 b1 b2 b3 b4 b5 b6 b7 ev wr wg ((f_Mo_put ke_ ma_ (nI j) (f_Mo_valueOf ke_ ma_ (nI j))).1) ((f_Mo_put ke_ ma_ (nI j) (f_Mo_valueOf ke_ ma_ (nI j))).2) li ps pn cy ca va (upd cn_ (2 : Int32).toNatClampNeg ((cn_ (2 : Int32).toNatClampNeg) + (1 : Int32))) pp px go ne gi gn)) hP hD hS hA [0, 1, 2, 3, 4, 5, 6, 7] rfl [b0, b1, b2, b3, b4, b5, b6, b7] rfl rfl (va_runV (rest := []) ⟨hx, hb, hml, hown, hg⟩ (c_Mo_put l D cI cL b0 b1 b2 b3 b4 b5 b6 b7 _ ev wr wg ke_ ma_ li ps pn cy ca va (upd cn_ (2 : Int32).toNatClampNeg ((cn_ (2 : Int32).toNatClampNeg) + (1 : Int32))) pp px go ne gi gn (nI j) (f_Mo_valueOf ke_ ma_ (nI j)) (vp_in_nI (by omega) (by decide))) ⟨callB_of 2 hg (gw_good m_587) rfl rfl rfl (hg _ m_71) (hg _ m_584) hd_Mo_put ⟨Nat.le_of_ble_eq_true rfl, Nat.le_of_ble_eq_true rfl⟩, hg _ m_586, hg _ m_38⟩ (pw_V hK hN hT hA hP hD hS [0, 1, 2, 3, 4, 5, 6, 7] rfl (by decide) (q0 := 0) (ci := 5) rfl rfl) rfl rfl hl.1 rfl (lv_room (Nat.le_of_ble_eq_true rfl)) d_Mo_vote_90 ⟨Nat.le_of_ble_eq_true rfl, Nat.le_of_ble_eq_true rfl⟩) (fun H locs hP hD hS => ?_)
          have hP : va_P D classes (W_Mo cI cL b0 b1 b2 b3 b4 b5 b6 b7 ev wr wg ((f_Mo_put ke_ ma_ (nI j) (f_Mo_valueOf ke_ ma_ (nI j))).1) ((f_Mo_put ke_ ma_ (nI j) (f_Mo_valueOf ke_ ma_ (nI j))).2) li ps pn cy ca va (upd cn_ (2 : Int32).toNatClampNeg ((cn_ (2 : Int32).toNatClampNeg) + (1 : Int32))) pp px go ne gi gn) H := hP
          have hD : va_D A (W_Mo cI cL b0 b1 b2 b3 b4 b5 b6 b7 ev wr wg ((f_Mo_put ke_ ma_ (nI j) (f_Mo_valueOf ke_ ma_ (nI j))).1) ((f_Mo_put ke_ ma_ (nI j) (f_Mo_valueOf ke_ ma_ (nI j))).2) li ps pn cy ca va (upd cn_ (2 : Int32).toNatClampNeg ((cn_ (2 : Int32).toNatClampNeg) + (1 : Int32))) pp px go ne gi gn) := hD
          generalize e_t2 : f_Mo_put ke_ ma_ (nI j) (f_Mo_valueOf ke_ ma_ (nI j)) = t2 at hP hD ⊢
          obtain ⟨t2_0, t2_1⟩ := t2
          have hP : va_P D classes (W_Mo cI cL b0 b1 b2 b3 b4 b5 b6 b7 ev wr wg t2_0 t2_1 li ps pn cy ca va (upd cn_ (2 : Int32).toNatClampNeg ((cn_ (2 : Int32).toNatClampNeg) + (1 : Int32))) pp px go ne gi gn) H := hP
          have hD : va_D A (W_Mo cI cL b0 b1 b2 b3 b4 b5 b6 b7 ev wr wg t2_0 t2_1 li ps pn cy ca va (upd cn_ (2 : Int32).toNatClampNeg ((cn_ (2 : Int32).toNatClampNeg) + (1 : Int32))) pp px go ne gi gn) := hD
          refine lv_iinc (k := 1) (v := nI (_ + 1)) (lv' := [(1, .int _), (2, .int _), (0, .ref _)]) hx hb d_Mo_vote_93 hl rfl (nI_1 _) (by decide) rfl (fun ls hl => ?_)
          refine lv_goto (tgt := 2) hx hb d_Mo_vote_96 (by decide) ?_
          rw [f_Mo_vote_e2 (n) j ke_ ma_ cn_ (t2_0, t2_1) e_t2 h26 h47]
          exact ih (j + 1) _ _ _ _ _ _ (by omega)  (lv_sub hl [0, 2] rfl) hP hD hS
        · refine lv_iconst (v := 1) hx hb d_Mo_vote_50 (by decide) ?_
          refine lv_goto (tgt := 55) hx hb d_Mo_vote_51 (by decide) ?_
          refine lv_istore_n (lv' := [(2, .int _), (1, .int _), (0, .ref _)]) hx hb d_Mo_vote_55 rfl hl (by decide) rfl (fun ls hl => ?_)
          refine lv_aload_n hx hb d_Mo_vote_56 rfl (lv_at hl 2 rfl) ?_
          refine va_get (ci := 5) (C := R_Mo) (T := F_Mo) (N := 18) hx hb hg in_Mo hown hK hP 0 rfl rfl 11 (by decide) (hg _ m_514) (fun _ h => h) rfl d_Mo_vote_57 ?_
          refine lv_iconst (v := 2) hx hb d_Mo_vote_60 (by decide) ?_
          refine lv_iload_n hx hb d_Mo_vote_61 rfl (lv_at hl 0 rfl) ?_
          refine lv_if_eq (tgt := 74) hx hb d_Mo_vote_62 (by decide) (fun h => absurd h (by decide)) (fun _ => ?_)
          refine lv_aload_n hx hb d_Mo_vote_65 rfl (lv_at hl 2 rfl) ?_
          refine va_get (ci := 5) (C := R_Mo) (T := F_Mo) (N := 18) hx hb hg in_Mo hown hK hP 0 rfl rfl 11 (by decide) (hg _ m_514) (fun _ h => h) rfl d_Mo_vote_66 ?_
          refine lv_iconst (v := 2) hx hb d_Mo_vote_69 (by decide) ?_
          refine va_iald hx hb hK hP 7 0 rfl rfl (vp_ofb (by decide)) d_Mo_vote_70 ?_
          refine lv_goto (tgt := 82) hx hb d_Mo_vote_71 (by decide) ?_
          refine va_iast hx hb hK hP hD hS 7 0 rfl rfl (vp_ofb (by decide)) d_Mo_vote_82 (fun H locs hP hD hS => ?_)
          have hP : va_P D classes (W_Mo cI cL b0 b1 b2 b3 b4 b5 b6 b7 ev wr wg ke_ ma_ li ps pn cy ca va (upd cn_ (2 : Int32).toNatClampNeg (cn_ (2 : Int32).toNatClampNeg)) pp px go ne gi gn) H := hP
          have hD : va_D A (W_Mo cI cL b0 b1 b2 b3 b4 b5 b6 b7 ev wr wg ke_ ma_ li ps pn cy ca va (upd cn_ (2 : Int32).toNatClampNeg (cn_ (2 : Int32).toNatClampNeg)) pp px go ne gi gn) := hD
          refine lv_aload_n hx hb d_Mo_vote_83 rfl (lv_at hl 2 rfl) ?_
          refine lv_iload_n hx hb d_Mo_vote_84 rfl (lv_at hl 1 rfl) ?_
          refine lv_aload_n hx hb d_Mo_vote_85 rfl (lv_at hl 2 rfl) ?_
          refine lv_iload_n hx hb d_Mo_vote_86 rfl (lv_at hl 1 rfl) ?_
          refine cj_i (wc := (W_Mo cI cL b0 b1 b2 b3 b4 b5 b6 b7 ev wr wg ke_ ma_ li ps pn cy ca va (upd cn_ (2 : Int32).toNatClampNeg (cn_ (2 : Int32).toNatClampNeg)) pp px go ne gi gn)) (w1 := (W_Mo cI cL b0 b1 b2 b3 b4 b5 b6 b7 ev wr wg ke_ ma_ li ps pn cy ca va (upd cn_ (2 : Int32).toNatClampNeg (cn_ (2 : Int32).toNatClampNeg)) pp px go ne gi gn)) hP hD hS hA [0, 1, 2, 3, 4, 5, 6, 7] rfl [b0, b1, b2, b3, b4, b5, b6, b7] rfl rfl (va_runV (rest := [.int _, .ref _]) ⟨hx, hb, hml, hown, hg⟩ (c_Mo_valueOf l D cI cL b0 b1 b2 b3 b4 b5 b6 b7 _ ev wr wg ke_ ma_ li ps pn cy ca va (upd cn_ (2 : Int32).toNatClampNeg (cn_ (2 : Int32).toNatClampNeg)) pp px go ne gi gn (nI j) (vp_in_nI (by omega) (by decide))) ⟨callB_of 1 hg (gw_good m_580) rfl rfl rfl (hg _ m_71) (hg _ m_577) hd_Mo_valueOf ⟨Nat.le_of_ble_eq_true rfl, Nat.le_of_ble_eq_true rfl⟩, hg _ m_579, hg _ m_37⟩ (pw_V hK hN hT hA hP hD hS [0, 1, 2, 3, 4, 5, 6, 7] rfl (by decide) (q0 := 0) (ci := 5) rfl rfl) rfl rfl hl.1 rfl (lv_room (Nat.le_of_ble_eq_true rfl)) d_Mo_vote_87 ⟨Nat.le_of_ble_eq_true rfl, Nat.le_of_ble_eq_true rfl⟩) (fun H locs hP hD hS => ?_)
          have hP : va_P D classes (W_Mo cI cL b0 b1 b2 b3 b4 b5 b6 b7 ev wr wg ke_ ma_ li ps pn cy ca va (upd cn_ (2 : Int32).toNatClampNeg (cn_ (2 : Int32).toNatClampNeg)) pp px go ne gi gn) H := hP
          have hD : va_D A (W_Mo cI cL b0 b1 b2 b3 b4 b5 b6 b7 ev wr wg ke_ ma_ li ps pn cy ca va (upd cn_ (2 : Int32).toNatClampNeg (cn_ (2 : Int32).toNatClampNeg)) pp px go ne gi gn) := hD
          refine cj_v (wc := (W_Mo cI cL b0 b1 b2 b3 b4 b5 b6 b7 ev wr wg ke_ ma_ li ps pn cy ca va (upd cn_ (2 : Int32).toNatClampNeg (cn_ (2 : Int32).toNatClampNeg)) pp px go ne gi gn)) (w1 := (W_Mo cI cL b0 b1 b2 b3 b4 b5 b6 b7 ev wr wg ((f_Mo_put ke_ ma_ (nI j) (f_Mo_valueOf ke_ ma_ (nI j))).1) ((f_Mo_put ke_ ma_ (nI j) (f_Mo_valueOf ke_ ma_ (nI j))).2) li ps pn cy ca va (upd cn_ (2 : Int32).toNatClampNeg (cn_ (2 : Int32).toNatClampNeg)) pp px go ne gi gn)) hP hD hS hA [0, 1, 2, 3, 4, 5, 6, 7] rfl [b0, b1, b2, b3, b4, b5, b6, b7] rfl rfl (va_runV (rest := []) ⟨hx, hb, hml, hown, hg⟩ (c_Mo_put l D cI cL b0 b1 b2 b3 b4 b5 b6 b7 _ ev wr wg ke_ ma_ li ps pn cy ca va (upd cn_ (2 : Int32).toNatClampNeg (cn_ (2 : Int32).toNatClampNeg)) pp px go ne gi gn (nI j) (f_Mo_valueOf ke_ ma_ (nI j)) (vp_in_nI (by omega) (by decide))) ⟨callB_of 2 hg (gw_good m_587) rfl rfl rfl (hg _ m_71) (hg _ m_584) hd_Mo_put ⟨Nat.le_of_ble_eq_true rfl, Nat.le_of_ble_eq_true rfl⟩, hg _ m_586, hg _ m_38⟩ (pw_V hK hN hT hA hP hD hS [0, 1, 2, 3, 4, 5, 6, 7] rfl (by decide) (q0 := 0) (ci := 5) rfl rfl) rfl rfl hl.1 rfl (lv_room (Nat.le_of_ble_eq_true rfl)) d_Mo_vote_90 ⟨Nat.le_of_ble_eq_true rfl, Nat.le_of_ble_eq_true rfl⟩) (fun H locs hP hD hS => ?_)
          have hP : va_P D classes (W_Mo cI cL b0 b1 b2 b3 b4 b5 b6 b7 ev wr wg ((f_Mo_put ke_ ma_ (nI j) (f_Mo_valueOf ke_ ma_ (nI j))).1) ((f_Mo_put ke_ ma_ (nI j) (f_Mo_valueOf ke_ ma_ (nI j))).2) li ps pn cy ca va (upd cn_ (2 : Int32).toNatClampNeg (cn_ (2 : Int32).toNatClampNeg)) pp px go ne gi gn) H := hP
          have hD : va_D A (W_Mo cI cL b0 b1 b2 b3 b4 b5 b6 b7 ev wr wg ((f_Mo_put ke_ ma_ (nI j) (f_Mo_valueOf ke_ ma_ (nI j))).1) ((f_Mo_put ke_ ma_ (nI j) (f_Mo_valueOf ke_ ma_ (nI j))).2) li ps pn cy ca va (upd cn_ (2 : Int32).toNatClampNeg (cn_ (2 : Int32).toNatClampNeg)) pp px go ne gi gn) := hD
          generalize e_t3 : f_Mo_put ke_ ma_ (nI j) (f_Mo_valueOf ke_ ma_ (nI j)) = t3 at hP hD ⊢
          obtain ⟨t3_0, t3_1⟩ := t3
          have hP : va_P D classes (W_Mo cI cL b0 b1 b2 b3 b4 b5 b6 b7 ev wr wg t3_0 t3_1 li ps pn cy ca va (upd cn_ (2 : Int32).toNatClampNeg (cn_ (2 : Int32).toNatClampNeg)) pp px go ne gi gn) H := hP
          have hD : va_D A (W_Mo cI cL b0 b1 b2 b3 b4 b5 b6 b7 ev wr wg t3_0 t3_1 li ps pn cy ca va (upd cn_ (2 : Int32).toNatClampNeg (cn_ (2 : Int32).toNatClampNeg)) pp px go ne gi gn) := hD
          refine lv_iinc (k := 1) (v := nI (_ + 1)) (lv' := [(1, .int _), (2, .int _), (0, .ref _)]) hx hb d_Mo_vote_93 hl rfl (nI_1 _) (by decide) rfl (fun ls hl => ?_)
          refine lv_goto (tgt := 2) hx hb d_Mo_vote_96 (by decide) ?_
          rw [f_Mo_vote_e3 (n) j ke_ ma_ cn_ (t3_0, t3_1) e_t3 h26 h47]
          exact ih (j + 1) _ _ _ _ _ _ (by omega)  (lv_sub hl [0, 2] rfl) hP hD hS
  exact loop 32 0 _ _ _ _ _ _ (by omega)  hl hP hD hS
abbrev q_Mo_field (D : va_G) (cI cL : ClassId) (b0 b1 b2 b3 b4 b5 b6 b7 : Nat) (A : Nat → Prop) (ev : Int32) (wr : Nat → Int32) (wg : Nat → Int64) (ke : Nat → Int32) (ma : Nat → Int32) (li : Nat → Int64) (ps : Int32) (pn : Nat → Int32) (cy : Int32) (ca : Int32) (va : Int32) (cn : Nat → Int32) (pp : Int32) (px : Int32) (go : Int32) (ne : Int32) (gi : Int32) (gn : Int32) (F : Int32) : Array Value → State → Outcome → State → Prop := va_Qi (fun r (_ : Unit) => r = F) (fun _ t => va_P D classes (W_Mo cI cL b0 b1 b2 b3 b4 b5 b6 b7 ev wr wg ke ma li ps pn cy ca va cn pp px go ne gi gn) t.heap) A
set_option maxHeartbeats 4000000 in
set_option maxRecDepth 100000 in
theorem c_Mo_field (l : Launch) (D : va_G) (cI cL : ClassId) (b0 b1 b2 b3 b4 b5 b6 b7 : Nat) (sz : Nat) (ev : Int32) (wr : Nat → Int32) (wg : Nat → Int64) (ke : Nat → Int32) (ma : Nat → Int32) (li : Nat → Int64) (ps : Int32) (pn : Nat → Int32) (cy : Int32) (ca : Int32) (va : Int32) (cn : Nat → Int32) (pp : Int32) (px : Int32) (go : Int32) (ne : Int32) (gi : Int32) (gn : Int32) (fr : Int32) (bi : Int32)  : Met l y_Mo_field w_Mo_field ({ frames := 0, cells := 0, slots := 0, locals := 0 }) (va_Pc [.ref b0, .int fr, .int bi] (PW D cI cL (W_Mo cI cL b0 b1 b2 b3 b4 b5 b6 b7 ev wr wg ke ma li ps pn cy ca va cn pp px go ne gi gn) sz)) (q_Mo_field D cI cL b0 b1 b2 b3 b4 b5 b6 b7 (va_A (W_Mo cI cL b0 b1 b2 b3 b4 b5 b6 b7 ev wr wg ke ma li ps pn cy ca va cn pp px go ne gi gn) sz) ev wr wg ke ma li ps pn cy ca va cn pp px go ne gi gn (f_Mo_field px fr bi)) 0 0 (va_A (W_Mo cI cL b0 b1 b2 b3 b4 b5 b6 b7 ev wr wg ke ma li ps pn cy ca va cn pp px go ne gi gn) sz) := by
  refine mk_met (Qf := fun A => q_Mo_field D cI cL b0 b1 b2 b3 b4 b5 b6 b7 A ev wr wg ke ma li ps pn cy ca va cn pp px go ne gi gn (f_Mo_field px fr bi)) (by decide) (Nat.le_of_ble_eq_true rfl) ?_
  intro p e s m below meth c A ls hx hb hr hlocks hml hown hg hK hN hT hA hP hD hS hnm hl
  refine lv_aload_n hx hb d_Mo_field_0 rfl (lv_at hl 0 rfl) ?_
  refine va_get (ci := 5) (C := R_Mo) (T := F_Mo) (N := 18) hx hb hg in_Mo hown hK hP 0 rfl rfl 13 (by decide) (hg _ m_516) (fun _ h => h) rfl d_Mo_field_1 ?_
  refine lv_iload_n hx hb d_Mo_field_4 rfl (lv_at hl 1 rfl) ?_
  refine lv_iushr (v := u_ush _ _) hx hb d_Mo_field_5 rfl ?_
  refine lv_iconst (v := 1) hx hb d_Mo_field_6 (by decide) ?_
  refine lv_iload_n hx hb d_Mo_field_7 rfl (lv_at hl 2 rfl) ?_
  refine lv_ishl hx hb d_Mo_field_8 ?_
  refine lv_iconst (v := 1) hx hb d_Mo_field_9 (by decide) ?_
  refine lv_isub hx hb d_Mo_field_10 ?_
  refine lv_iand hx hb d_Mo_field_11 ?_
  exact W.iret hx hb hr (fun t ht hW => ⟨⟨_, (), rfl, rfl, by show va_P D classes _ t.heap; rw [ht]; exact hP⟩, hS.F ht⟩) hS.2.2 d_Mo_field_12 hlocks
abbrev q_Mo_numberJ (D : va_G) (cI cL : ClassId) (b0 b1 b2 b3 b4 b5 b6 b7 : Nat) (A : Nat → Prop) (ev : Int32) (wr : Nat → Int32) (wg : Nat → Int64) (ke : Nat → Int32) (ma : Nat → Int32) (li : Nat → Int64) (ps : Int32) (pn : Nat → Int32) (cy : Int32) (ca : Int32) (va : Int32) (cn : Nat → Int32) (pp : Int32) (px : Int32) (go : Int32) (ne : Int32) (gi : Int32) (gn : Int32) (F : Int32) : Array Value → State → Outcome → State → Prop := va_Qi (fun r (_ : Unit) => r = F) (fun _ t => va_P D classes (W_Mo cI cL b0 b1 b2 b3 b4 b5 b6 b7 ev wr wg ke ma li ps pn cy ca va cn pp px go ne gi gn) t.heap) A
set_option maxHeartbeats 4000000 in
set_option maxRecDepth 100000 in
theorem c_Mo_numberJ (l : Launch) (D : va_G) (cI cL : ClassId) (b0 b1 b2 b3 b4 b5 b6 b7 : Nat) (sz : Nat) (ev : Int32) (wr : Nat → Int32) (wg : Nat → Int64) (ke : Nat → Int32) (ma : Nat → Int32) (li : Nat → Int64) (ps : Int32) (pn : Nat → Int32) (cy : Int32) (ca : Int32) (va : Int32) (cn : Nat → Int32) (pp : Int32) (px : Int32) (go : Int32) (ne : Int32) (gi : Int32) (gn : Int32)   : Met l y_Mo_numberJ w_Mo_numberJ ({ frames := 1, cells := 0, slots := 0, locals := 22 }) (va_Pc [.ref b0] (PW D cI cL (W_Mo cI cL b0 b1 b2 b3 b4 b5 b6 b7 ev wr wg ke ma li ps pn cy ca va cn pp px go ne gi gn) sz)) (q_Mo_numberJ D cI cL b0 b1 b2 b3 b4 b5 b6 b7 (va_A (W_Mo cI cL b0 b1 b2 b3 b4 b5 b6 b7 ev wr wg ke ma li ps pn cy ca va cn pp px go ne gi gn) sz) ev wr wg ke ma li ps pn cy ca va cn pp px go ne gi gn (f_Mo_numberJ px)) 0 0 (va_A (W_Mo cI cL b0 b1 b2 b3 b4 b5 b6 b7 ev wr wg ke ma li ps pn cy ca va cn pp px go ne gi gn) sz) := by
  refine mk_met (Qf := fun A => q_Mo_numberJ D cI cL b0 b1 b2 b3 b4 b5 b6 b7 A ev wr wg ke ma li ps pn cy ca va cn pp px go ne gi gn (f_Mo_numberJ px)) (by decide) (Nat.le_of_ble_eq_true rfl) ?_
  intro p e s m below meth c A ls hx hb hr hlocks hml hown hg hK hN hT hA hP hD hS hnm hl
  refine lv_aload_n hx hb d_Mo_numberJ_0 rfl (lv_at hl 0 rfl) ?_
  refine va_get (ci := 5) (C := R_Mo) (T := F_Mo) (N := 18) hx hb hg in_Mo hown hK hP 0 rfl rfl 13 (by decide) (hg _ m_516) (fun _ h => h) rfl d_Mo_numberJ_1 ?_
  refine lv_bipush (v := 25) hx hb d_Mo_numberJ_4 (by decide) ?_
  refine lv_ishr hx hb d_Mo_numberJ_6 ?_
  refine lv_iconst (v := 5) hx hb d_Mo_numberJ_7 (by decide) ?_
  refine lv_ishl hx hb d_Mo_numberJ_8 ?_
  refine lv_aload_n hx hb d_Mo_numberJ_9 rfl (lv_at hl 0 rfl) ?_
  refine lv_bipush (v := 7) hx hb d_Mo_numberJ_10 (by decide) ?_
  refine lv_iconst (v := 5) hx hb d_Mo_numberJ_12 (by decide) ?_
  refine cj_i (wc := (W_Mo cI cL b0 b1 b2 b3 b4 b5 b6 b7 ev wr wg ke ma li ps pn cy ca va cn pp px go ne gi gn)) (w1 := (W_Mo cI cL b0 b1 b2 b3 b4 b5 b6 b7 ev wr wg ke ma li ps pn cy ca va cn pp px go ne gi gn)) hP hD hS hA [0, 1, 2, 3, 4, 5, 6, 7] rfl [b0, b1, b2, b3, b4, b5, b6, b7] rfl rfl (va_runV (rest := [.int _]) ⟨hx, hb, hml, hown, hg⟩ (c_Mo_field l D cI cL b0 b1 b2 b3 b4 b5 b6 b7 _ ev wr wg ke ma li ps pn cy ca va cn pp px go ne gi gn (7 : Int32) (5 : Int32)) ⟨callB_of 2 hg (gw_good m_637) rfl rfl rfl (hg _ m_71) (hg _ m_634) hd_Mo_field ⟨Nat.le_of_ble_eq_true rfl, Nat.le_of_ble_eq_true rfl⟩, hg _ m_636, hg _ m_45⟩ (pw_V hK hN hT hA hP hD hS [0, 1, 2, 3, 4, 5, 6, 7] rfl (by decide) (q0 := 0) (ci := 5) rfl rfl) rfl rfl hl.1 rfl (lv_room (Nat.le_of_ble_eq_true rfl)) d_Mo_numberJ_13 ⟨Nat.le_of_ble_eq_true rfl, Nat.le_of_ble_eq_true rfl⟩) (fun H locs hP hD hS => ?_)
  have hP : va_P D classes (W_Mo cI cL b0 b1 b2 b3 b4 b5 b6 b7 ev wr wg ke ma li ps pn cy ca va cn pp px go ne gi gn) H := hP
  have hD : va_D A (W_Mo cI cL b0 b1 b2 b3 b4 b5 b6 b7 ev wr wg ke ma li ps pn cy ca va cn pp px go ne gi gn) := hD
  refine lv_ior hx hb d_Mo_numberJ_16 ?_
  exact W.iret hx hb hr (fun t ht hW => ⟨⟨_, (), rfl, rfl, by show va_P D classes _ t.heap; rw [ht]; exact hP⟩, hS.F ht⟩) hS.2.2 d_Mo_numberJ_17 hlocks
abbrev q_Mo_numberK (D : va_G) (cI cL : ClassId) (b0 b1 b2 b3 b4 b5 b6 b7 : Nat) (A : Nat → Prop) (ev : Int32) (wr : Nat → Int32) (wg : Nat → Int64) (ke : Nat → Int32) (ma : Nat → Int32) (li : Nat → Int64) (ps : Int32) (pn : Nat → Int32) (cy : Int32) (ca : Int32) (va : Int32) (cn : Nat → Int32) (pp : Int32) (px : Int32) (go : Int32) (ne : Int32) (gi : Int32) (gn : Int32) (F : Int32) : Array Value → State → Outcome → State → Prop := va_Qi (fun r (_ : Unit) => r = F) (fun _ t => va_P D classes (W_Mo cI cL b0 b1 b2 b3 b4 b5 b6 b7 ev wr wg ke ma li ps pn cy ca va cn pp px go ne gi gn) t.heap) A
set_option maxHeartbeats 4000000 in
set_option maxRecDepth 100000 in
theorem c_Mo_numberK (l : Launch) (D : va_G) (cI cL : ClassId) (b0 b1 b2 b3 b4 b5 b6 b7 : Nat) (sz : Nat) (ev : Int32) (wr : Nat → Int32) (wg : Nat → Int64) (ke : Nat → Int32) (ma : Nat → Int32) (li : Nat → Int64) (ps : Int32) (pn : Nat → Int32) (cy : Int32) (ca : Int32) (va : Int32) (cn : Nat → Int32) (pp : Int32) (px : Int32) (go : Int32) (ne : Int32) (gi : Int32) (gn : Int32)   : Met l y_Mo_numberK w_Mo_numberK ({ frames := 1, cells := 0, slots := 0, locals := 22 }) (va_Pc [.ref b0] (PW D cI cL (W_Mo cI cL b0 b1 b2 b3 b4 b5 b6 b7 ev wr wg ke ma li ps pn cy ca va cn pp px go ne gi gn) sz)) (q_Mo_numberK D cI cL b0 b1 b2 b3 b4 b5 b6 b7 (va_A (W_Mo cI cL b0 b1 b2 b3 b4 b5 b6 b7 ev wr wg ke ma li ps pn cy ca va cn pp px go ne gi gn) sz) ev wr wg ke ma li ps pn cy ca va cn pp px go ne gi gn (f_Mo_numberK px)) 0 0 (va_A (W_Mo cI cL b0 b1 b2 b3 b4 b5 b6 b7 ev wr wg ke ma li ps pn cy ca va cn pp px go ne gi gn) sz) := by
  refine mk_met (Qf := fun A => q_Mo_numberK D cI cL b0 b1 b2 b3 b4 b5 b6 b7 A ev wr wg ke ma li ps pn cy ca va cn pp px go ne gi gn (f_Mo_numberK px)) (by decide) (Nat.le_of_ble_eq_true rfl) ?_
  intro p e s m below meth c A ls hx hb hr hlocks hml hown hg hK hN hT hA hP hD hS hnm hl
  refine lv_aload_n hx hb d_Mo_numberK_0 rfl (lv_at hl 0 rfl) ?_
  refine va_get (ci := 5) (C := R_Mo) (T := F_Mo) (N := 18) hx hb hg in_Mo hown hK hP 0 rfl rfl 13 (by decide) (hg _ m_516) (fun _ h => h) rfl d_Mo_numberK_1 ?_
  refine lv_bipush (v := 31) hx hb d_Mo_numberK_4 (by decide) ?_
  refine lv_ishr hx hb d_Mo_numberK_6 ?_
  refine lv_bipush (v := 12) hx hb d_Mo_numberK_7 (by decide) ?_
  refine lv_ishl hx hb d_Mo_numberK_9 ?_
  refine lv_aload_n hx hb d_Mo_numberK_10 rfl (lv_at hl 0 rfl) ?_
  refine lv_bipush (v := 7) hx hb d_Mo_numberK_11 (by decide) ?_
  refine lv_iconst (v := 1) hx hb d_Mo_numberK_13 (by decide) ?_
  refine cj_i (wc := (W_Mo cI cL b0 b1 b2 b3 b4 b5 b6 b7 ev wr wg ke ma li ps pn cy ca va cn pp px go ne gi gn)) (w1 := (W_Mo cI cL b0 b1 b2 b3 b4 b5 b6 b7 ev wr wg ke ma li ps pn cy ca va cn pp px go ne gi gn)) hP hD hS hA [0, 1, 2, 3, 4, 5, 6, 7] rfl [b0, b1, b2, b3, b4, b5, b6, b7] rfl rfl (va_runV (rest := [.int _]) ⟨hx, hb, hml, hown, hg⟩ (c_Mo_field l D cI cL b0 b1 b2 b3 b4 b5 b6 b7 _ ev wr wg ke ma li ps pn cy ca va cn pp px go ne gi gn (7 : Int32) (1 : Int32)) ⟨callB_of 2 hg (gw_good m_637) rfl rfl rfl (hg _ m_71) (hg _ m_634) hd_Mo_field ⟨Nat.le_of_ble_eq_true rfl, Nat.le_of_ble_eq_true rfl⟩, hg _ m_636, hg _ m_45⟩ (pw_V hK hN hT hA hP hD hS [0, 1, 2, 3, 4, 5, 6, 7] rfl (by decide) (q0 := 0) (ci := 5) rfl rfl) rfl rfl hl.1 rfl (lv_room (Nat.le_of_ble_eq_true rfl)) d_Mo_numberK_14 ⟨Nat.le_of_ble_eq_true rfl, Nat.le_of_ble_eq_true rfl⟩) (fun H locs hP hD hS => ?_)
  have hP : va_P D classes (W_Mo cI cL b0 b1 b2 b3 b4 b5 b6 b7 ev wr wg ke ma li ps pn cy ca va cn pp px go ne gi gn) H := hP
  have hD : va_D A (W_Mo cI cL b0 b1 b2 b3 b4 b5 b6 b7 ev wr wg ke ma li ps pn cy ca va cn pp px go ne gi gn) := hD
  refine lv_bipush (v := 11) hx hb d_Mo_numberK_17 (by decide) ?_
  refine lv_ishl hx hb d_Mo_numberK_19 ?_
  refine lv_ior hx hb d_Mo_numberK_20 ?_
  refine lv_aload_n hx hb d_Mo_numberK_21 rfl (lv_at hl 0 rfl) ?_
  refine lv_bipush (v := 25) hx hb d_Mo_numberK_22 (by decide) ?_
  refine lv_bipush (v := 6) hx hb d_Mo_numberK_24 (by decide) ?_
  refine cj_i (wc := (W_Mo cI cL b0 b1 b2 b3 b4 b5 b6 b7 ev wr wg ke ma li ps pn cy ca va cn pp px go ne gi gn)) (w1 := (W_Mo cI cL b0 b1 b2 b3 b4 b5 b6 b7 ev wr wg ke ma li ps pn cy ca va cn pp px go ne gi gn)) hP hD hS hA [0, 1, 2, 3, 4, 5, 6, 7] rfl [b0, b1, b2, b3, b4, b5, b6, b7] rfl rfl (va_runV (rest := [.int _]) ⟨hx, hb, hml, hown, hg⟩ (c_Mo_field l D cI cL b0 b1 b2 b3 b4 b5 b6 b7 _ ev wr wg ke ma li ps pn cy ca va cn pp px go ne gi gn (25 : Int32) (6 : Int32)) ⟨callB_of 2 hg (gw_good m_637) rfl rfl rfl (hg _ m_71) (hg _ m_634) hd_Mo_field ⟨Nat.le_of_ble_eq_true rfl, Nat.le_of_ble_eq_true rfl⟩, hg _ m_636, hg _ m_45⟩ (pw_V hK hN hT hA hP hD hS [0, 1, 2, 3, 4, 5, 6, 7] rfl (by decide) (q0 := 0) (ci := 5) rfl rfl) rfl rfl hl.1 rfl (lv_room (Nat.le_of_ble_eq_true rfl)) d_Mo_numberK_26 ⟨Nat.le_of_ble_eq_true rfl, Nat.le_of_ble_eq_true rfl⟩) (fun H locs hP hD hS => ?_)
  have hP : va_P D classes (W_Mo cI cL b0 b1 b2 b3 b4 b5 b6 b7 ev wr wg ke ma li ps pn cy ca va cn pp px go ne gi gn) H := hP
  have hD : va_D A (W_Mo cI cL b0 b1 b2 b3 b4 b5 b6 b7 ev wr wg ke ma li ps pn cy ca va cn pp px go ne gi gn) := hD
  refine lv_iconst (v := 5) hx hb d_Mo_numberK_29 (by decide) ?_
  refine lv_ishl hx hb d_Mo_numberK_30 ?_
  refine lv_ior hx hb d_Mo_numberK_31 ?_
  refine lv_aload_n hx hb d_Mo_numberK_32 rfl (lv_at hl 0 rfl) ?_
  refine lv_bipush (v := 8) hx hb d_Mo_numberK_33 (by decide) ?_
  refine lv_iconst (v := 4) hx hb d_Mo_numberK_35 (by decide) ?_
  refine cj_i (wc := (W_Mo cI cL b0 b1 b2 b3 b4 b5 b6 b7 ev wr wg ke ma li ps pn cy ca va cn pp px go ne gi gn)) (w1 := (W_Mo cI cL b0 b1 b2 b3 b4 b5 b6 b7 ev wr wg ke ma li ps pn cy ca va cn pp px go ne gi gn)) hP hD hS hA [0, 1, 2, 3, 4, 5, 6, 7] rfl [b0, b1, b2, b3, b4, b5, b6, b7] rfl rfl (va_runV (rest := [.int _]) ⟨hx, hb, hml, hown, hg⟩ (c_Mo_field l D cI cL b0 b1 b2 b3 b4 b5 b6 b7 _ ev wr wg ke ma li ps pn cy ca va cn pp px go ne gi gn (8 : Int32) (4 : Int32)) ⟨callB_of 2 hg (gw_good m_637) rfl rfl rfl (hg _ m_71) (hg _ m_634) hd_Mo_field ⟨Nat.le_of_ble_eq_true rfl, Nat.le_of_ble_eq_true rfl⟩, hg _ m_636, hg _ m_45⟩ (pw_V hK hN hT hA hP hD hS [0, 1, 2, 3, 4, 5, 6, 7] rfl (by decide) (q0 := 0) (ci := 5) rfl rfl) rfl rfl hl.1 rfl (lv_room (Nat.le_of_ble_eq_true rfl)) d_Mo_numberK_36 ⟨Nat.le_of_ble_eq_true rfl, Nat.le_of_ble_eq_true rfl⟩) (fun H locs hP hD hS => ?_)
  have hP : va_P D classes (W_Mo cI cL b0 b1 b2 b3 b4 b5 b6 b7 ev wr wg ke ma li ps pn cy ca va cn pp px go ne gi gn) H := hP
  have hD : va_D A (W_Mo cI cL b0 b1 b2 b3 b4 b5 b6 b7 ev wr wg ke ma li ps pn cy ca va cn pp px go ne gi gn) := hD
  refine lv_iconst (v := 1) hx hb d_Mo_numberK_39 (by decide) ?_
  refine lv_ishl hx hb d_Mo_numberK_40 ?_
  refine lv_ior hx hb d_Mo_numberK_41 ?_
  exact W.iret hx hb hr (fun t ht hW => ⟨⟨_, (), rfl, rfl, by show va_P D classes _ t.heap; rw [ht]; exact hP⟩, hS.F ht⟩) hS.2.2 d_Mo_numberK_42 hlocks
abbrev q_Mo_numberL (D : va_G) (cI cL : ClassId) (b0 b1 b2 b3 b4 b5 b6 b7 : Nat) (A : Nat → Prop) (ev : Int32) (wr : Nat → Int32) (wg : Nat → Int64) (ke : Nat → Int32) (ma : Nat → Int32) (li : Nat → Int64) (ps : Int32) (pn : Nat → Int32) (cy : Int32) (ca : Int32) (va : Int32) (cn : Nat → Int32) (pp : Int32) (px : Int32) (go : Int32) (ne : Int32) (gi : Int32) (gn : Int32) (F : Int32) : Array Value → State → Outcome → State → Prop := va_Qi (fun r (_ : Unit) => r = F) (fun _ t => va_P D classes (W_Mo cI cL b0 b1 b2 b3 b4 b5 b6 b7 ev wr wg ke ma li ps pn cy ca va cn pp px go ne gi gn) t.heap) A
set_option maxHeartbeats 4000000 in
set_option maxRecDepth 100000 in
theorem c_Mo_numberL (l : Launch) (D : va_G) (cI cL : ClassId) (b0 b1 b2 b3 b4 b5 b6 b7 : Nat) (sz : Nat) (ev : Int32) (wr : Nat → Int32) (wg : Nat → Int64) (ke : Nat → Int32) (ma : Nat → Int32) (li : Nat → Int64) (ps : Int32) (pn : Nat → Int32) (cy : Int32) (ca : Int32) (va : Int32) (cn : Nat → Int32) (pp : Int32) (px : Int32) (go : Int32) (ne : Int32) (gi : Int32) (gn : Int32)   : Met l y_Mo_numberL w_Mo_numberL ({ frames := 1, cells := 0, slots := 0, locals := 22 }) (va_Pc [.ref b0] (PW D cI cL (W_Mo cI cL b0 b1 b2 b3 b4 b5 b6 b7 ev wr wg ke ma li ps pn cy ca va cn pp px go ne gi gn) sz)) (q_Mo_numberL D cI cL b0 b1 b2 b3 b4 b5 b6 b7 (va_A (W_Mo cI cL b0 b1 b2 b3 b4 b5 b6 b7 ev wr wg ke ma li ps pn cy ca va cn pp px go ne gi gn) sz) ev wr wg ke ma li ps pn cy ca va cn pp px go ne gi gn (f_Mo_numberL px)) 0 0 (va_A (W_Mo cI cL b0 b1 b2 b3 b4 b5 b6 b7 ev wr wg ke ma li ps pn cy ca va cn pp px go ne gi gn) sz) := by
  refine mk_met (Qf := fun A => q_Mo_numberL D cI cL b0 b1 b2 b3 b4 b5 b6 b7 A ev wr wg ke ma li ps pn cy ca va cn pp px go ne gi gn (f_Mo_numberL px)) (by decide) (Nat.le_of_ble_eq_true rfl) ?_
  intro p e s m below meth c A ls hx hb hr hlocks hml hown hg hK hN hT hA hP hD hS hnm hl
  refine lv_aload_n hx hb d_Mo_numberL_0 rfl (lv_at hl 0 rfl) ?_
  refine va_get (ci := 5) (C := R_Mo) (T := F_Mo) (N := 18) hx hb hg in_Mo hown hK hP 0 rfl rfl 13 (by decide) (hg _ m_516) (fun _ h => h) rfl d_Mo_numberL_1 ?_
  refine lv_bipush (v := 31) hx hb d_Mo_numberL_4 (by decide) ?_
  refine lv_ishr hx hb d_Mo_numberL_6 ?_
  refine lv_bipush (v := 20) hx hb d_Mo_numberL_7 (by decide) ?_
  refine lv_ishl hx hb d_Mo_numberL_9 ?_
  refine lv_aload_n hx hb d_Mo_numberL_10 rfl (lv_at hl 0 rfl) ?_
  refine lv_bipush (v := 12) hx hb d_Mo_numberL_11 (by decide) ?_
  refine lv_bipush (v := 8) hx hb d_Mo_numberL_13 (by decide) ?_
  refine cj_i (wc := (W_Mo cI cL b0 b1 b2 b3 b4 b5 b6 b7 ev wr wg ke ma li ps pn cy ca va cn pp px go ne gi gn)) (w1 := (W_Mo cI cL b0 b1 b2 b3 b4 b5 b6 b7 ev wr wg ke ma li ps pn cy ca va cn pp px go ne gi gn)) hP hD hS hA [0, 1, 2, 3, 4, 5, 6, 7] rfl [b0, b1, b2, b3, b4, b5, b6, b7] rfl rfl (va_runV (rest := [.int _]) ⟨hx, hb, hml, hown, hg⟩ (c_Mo_field l D cI cL b0 b1 b2 b3 b4 b5 b6 b7 _ ev wr wg ke ma li ps pn cy ca va cn pp px go ne gi gn (12 : Int32) (8 : Int32)) ⟨callB_of 2 hg (gw_good m_637) rfl rfl rfl (hg _ m_71) (hg _ m_634) hd_Mo_field ⟨Nat.le_of_ble_eq_true rfl, Nat.le_of_ble_eq_true rfl⟩, hg _ m_636, hg _ m_45⟩ (pw_V hK hN hT hA hP hD hS [0, 1, 2, 3, 4, 5, 6, 7] rfl (by decide) (q0 := 0) (ci := 5) rfl rfl) rfl rfl hl.1 rfl (lv_room (Nat.le_of_ble_eq_true rfl)) d_Mo_numberL_15 ⟨Nat.le_of_ble_eq_true rfl, Nat.le_of_ble_eq_true rfl⟩) (fun H locs hP hD hS => ?_)
  have hP : va_P D classes (W_Mo cI cL b0 b1 b2 b3 b4 b5 b6 b7 ev wr wg ke ma li ps pn cy ca va cn pp px go ne gi gn) H := hP
  have hD : va_D A (W_Mo cI cL b0 b1 b2 b3 b4 b5 b6 b7 ev wr wg ke ma li ps pn cy ca va cn pp px go ne gi gn) := hD
  refine lv_bipush (v := 12) hx hb d_Mo_numberL_18 (by decide) ?_
  refine lv_ishl hx hb d_Mo_numberL_20 ?_
  refine lv_ior hx hb d_Mo_numberL_21 ?_
  refine lv_aload_n hx hb d_Mo_numberL_22 rfl (lv_at hl 0 rfl) ?_
  refine lv_bipush (v := 20) hx hb d_Mo_numberL_23 (by decide) ?_
  refine lv_iconst (v := 1) hx hb d_Mo_numberL_25 (by decide) ?_
  refine cj_i (wc := (W_Mo cI cL b0 b1 b2 b3 b4 b5 b6 b7 ev wr wg ke ma li ps pn cy ca va cn pp px go ne gi gn)) (w1 := (W_Mo cI cL b0 b1 b2 b3 b4 b5 b6 b7 ev wr wg ke ma li ps pn cy ca va cn pp px go ne gi gn)) hP hD hS hA [0, 1, 2, 3, 4, 5, 6, 7] rfl [b0, b1, b2, b3, b4, b5, b6, b7] rfl rfl (va_runV (rest := [.int _]) ⟨hx, hb, hml, hown, hg⟩ (c_Mo_field l D cI cL b0 b1 b2 b3 b4 b5 b6 b7 _ ev wr wg ke ma li ps pn cy ca va cn pp px go ne gi gn (20 : Int32) (1 : Int32)) ⟨callB_of 2 hg (gw_good m_637) rfl rfl rfl (hg _ m_71) (hg _ m_634) hd_Mo_field ⟨Nat.le_of_ble_eq_true rfl, Nat.le_of_ble_eq_true rfl⟩, hg _ m_636, hg _ m_45⟩ (pw_V hK hN hT hA hP hD hS [0, 1, 2, 3, 4, 5, 6, 7] rfl (by decide) (q0 := 0) (ci := 5) rfl rfl) rfl rfl hl.1 rfl (lv_room (Nat.le_of_ble_eq_true rfl)) d_Mo_numberL_26 ⟨Nat.le_of_ble_eq_true rfl, Nat.le_of_ble_eq_true rfl⟩) (fun H locs hP hD hS => ?_)
  have hP : va_P D classes (W_Mo cI cL b0 b1 b2 b3 b4 b5 b6 b7 ev wr wg ke ma li ps pn cy ca va cn pp px go ne gi gn) H := hP
  have hD : va_D A (W_Mo cI cL b0 b1 b2 b3 b4 b5 b6 b7 ev wr wg ke ma li ps pn cy ca va cn pp px go ne gi gn) := hD
  refine lv_bipush (v := 11) hx hb d_Mo_numberL_29 (by decide) ?_
  refine lv_ishl hx hb d_Mo_numberL_31 ?_
  refine lv_ior hx hb d_Mo_numberL_32 ?_
  refine lv_aload_n hx hb d_Mo_numberL_33 rfl (lv_at hl 0 rfl) ?_
  refine lv_bipush (v := 21) hx hb d_Mo_numberL_34 (by decide) ?_
  refine lv_bipush (v := 10) hx hb d_Mo_numberL_36 (by decide) ?_
  refine cj_i (wc := (W_Mo cI cL b0 b1 b2 b3 b4 b5 b6 b7 ev wr wg ke ma li ps pn cy ca va cn pp px go ne gi gn)) (w1 := (W_Mo cI cL b0 b1 b2 b3 b4 b5 b6 b7 ev wr wg ke ma li ps pn cy ca va cn pp px go ne gi gn)) hP hD hS hA [0, 1, 2, 3, 4, 5, 6, 7] rfl [b0, b1, b2, b3, b4, b5, b6, b7] rfl rfl (va_runV (rest := [.int _]) ⟨hx, hb, hml, hown, hg⟩ (c_Mo_field l D cI cL b0 b1 b2 b3 b4 b5 b6 b7 _ ev wr wg ke ma li ps pn cy ca va cn pp px go ne gi gn (21 : Int32) (10 : Int32)) ⟨callB_of 2 hg (gw_good m_637) rfl rfl rfl (hg _ m_71) (hg _ m_634) hd_Mo_field ⟨Nat.le_of_ble_eq_true rfl, Nat.le_of_ble_eq_true rfl⟩, hg _ m_636, hg _ m_45⟩ (pw_V hK hN hT hA hP hD hS [0, 1, 2, 3, 4, 5, 6, 7] rfl (by decide) (q0 := 0) (ci := 5) rfl rfl) rfl rfl hl.1 rfl (lv_room (Nat.le_of_ble_eq_true rfl)) d_Mo_numberL_38 ⟨Nat.le_of_ble_eq_true rfl, Nat.le_of_ble_eq_true rfl⟩) (fun H locs hP hD hS => ?_)
  have hP : va_P D classes (W_Mo cI cL b0 b1 b2 b3 b4 b5 b6 b7 ev wr wg ke ma li ps pn cy ca va cn pp px go ne gi gn) H := hP
  have hD : va_D A (W_Mo cI cL b0 b1 b2 b3 b4 b5 b6 b7 ev wr wg ke ma li ps pn cy ca va cn pp px go ne gi gn) := hD
  refine lv_iconst (v := 1) hx hb d_Mo_numberL_41 (by decide) ?_
  refine lv_ishl hx hb d_Mo_numberL_42 ?_
  refine lv_ior hx hb d_Mo_numberL_43 ?_
  exact W.iret hx hb hr (fun t ht hW => ⟨⟨_, (), rfl, rfl, by show va_P D classes _ t.heap; rw [ht]; exact hP⟩, hS.F ht⟩) hS.2.2 d_Mo_numberL_44 hlocks
abbrev q_Mo_give (D : va_G) (cI cL : ClassId) (b0 b1 b2 b3 b4 b5 b6 b7 : Nat) (A : Nat → Prop) (ev : Int32) (wr : Nat → Int32) (wg : Nat → Int64) (ke : Nat → Int32) (ma : Nat → Int32) (li : Nat → Int64) (ps : Int32) (pn : Nat → Int32) (cy : Int32) (ca : Int32) (va : Int32) (cn : Nat → Int32) (pp : Int32) (px : Int32) (go : Int32) (ne : Int32) (gi : Int32) (gn : Int32) (F : Int32 × Int32) : Array Value → State → Outcome → State → Prop := va_Qv (fun (_ : Unit) => True) (fun _ t => va_P D classes (W_Mo cI cL b0 b1 b2 b3 b4 b5 b6 b7 ev wr wg ke ma li ps pn cy ca va cn pp px go ne F.1 F.2) t.heap) A
set_option maxHeartbeats 4000000 in
set_option maxRecDepth 100000 in
theorem c_Mo_give (l : Launch) (D : va_G) (cI cL : ClassId) (b0 b1 b2 b3 b4 b5 b6 b7 : Nat) (sz : Nat) (ev : Int32) (wr : Nat → Int32) (wg : Nat → Int64) (ke : Nat → Int32) (ma : Nat → Int32) (li : Nat → Int64) (ps : Int32) (pn : Nat → Int32) (cy : Int32) (ca : Int32) (va : Int32) (cn : Nat → Int32) (pp : Int32) (px : Int32) (go : Int32) (ne : Int32) (gi : Int32) (gn : Int32) (v : Int32)  : Met l y_Mo_give w_Mo_give ({ frames := 0, cells := 0, slots := 0, locals := 0 }) (va_Pc [.ref b0, .int v] (PW D cI cL (W_Mo cI cL b0 b1 b2 b3 b4 b5 b6 b7 ev wr wg ke ma li ps pn cy ca va cn pp px go ne gi gn) sz)) (q_Mo_give D cI cL b0 b1 b2 b3 b4 b5 b6 b7 (va_A (W_Mo cI cL b0 b1 b2 b3 b4 b5 b6 b7 ev wr wg ke ma li ps pn cy ca va cn pp px go ne gi gn) sz) ev wr wg ke ma li ps pn cy ca va cn pp px go ne gi gn (f_Mo_give gi gn v)) 0 0 (va_A (W_Mo cI cL b0 b1 b2 b3 b4 b5 b6 b7 ev wr wg ke ma li ps pn cy ca va cn pp px go ne gi gn) sz) := by
  refine mk_met (Qf := fun A => q_Mo_give D cI cL b0 b1 b2 b3 b4 b5 b6 b7 A ev wr wg ke ma li ps pn cy ca va cn pp px go ne gi gn (f_Mo_give gi gn v)) (by decide) (Nat.le_of_ble_eq_true rfl) ?_
  intro p e s m below meth c A ls hx hb hr hlocks hml hown hg hK hN hT hA hP hD hS hnm hl
  refine lv_aload_n hx hb d_Mo_give_0 rfl (lv_at hl 0 rfl) ?_
  refine lv_iconst (v := 1) hx hb d_Mo_give_1 (by decide) ?_
  refine va_put (ci := 5) (ty := .boolean) (C := R_Mo) (T := F_Mo) (N := 18) hx hb hg in_Mo t_Mo t_Mo_ok n_Mo hown hK hP hD hS 0 rfl rfl 16 (by decide) (hg _ m_519) (fun _ h => h) rfl (by decide +kernel) rfl rfl (Nat.le_of_ble_eq_true rfl) d_Mo_give_2 (fun H locs hP hD hS => ?_)
  have hP : va_P D classes (W_Mo cI cL b0 b1 b2 b3 b4 b5 b6 b7 ev wr wg ke ma li ps pn cy ca va cn pp px go ne (1 : Int32) gn) H := hP
  have hD : va_D A (W_Mo cI cL b0 b1 b2 b3 b4 b5 b6 b7 ev wr wg ke ma li ps pn cy ca va cn pp px go ne (1 : Int32) gn) := hD
  refine lv_aload_n hx hb d_Mo_give_5 rfl (lv_at hl 0 rfl) ?_
  refine lv_iload_n hx hb d_Mo_give_6 rfl (lv_at hl 1 rfl) ?_
  refine va_put (ci := 5) (ty := .int) (C := R_Mo) (T := F_Mo) (N := 18) hx hb hg in_Mo t_Mo t_Mo_ok n_Mo hown hK hP hD hS 0 rfl rfl 17 (by decide) (hg _ m_520) (fun _ h => h) rfl (by decide +kernel) rfl rfl (Nat.le_of_ble_eq_true rfl) d_Mo_give_7 (fun H locs hP hD hS => ?_)
  have hP : va_P D classes (W_Mo cI cL b0 b1 b2 b3 b4 b5 b6 b7 ev wr wg ke ma li ps pn cy ca va cn pp px go ne (1 : Int32) v) H := hP
  have hD : va_D A (W_Mo cI cL b0 b1 b2 b3 b4 b5 b6 b7 ev wr wg ke ma li ps pn cy ca va cn pp px go ne (1 : Int32) v) := hD
  exact W.vret hx hb hr (fun t ht hW => ⟨⟨(), rfl, trivial, by show va_P D classes _ t.heap; rw [ht]; exact hP⟩, hS.F ht⟩) hS.2.2 d_Mo_give_10 hlocks
abbrev q_Mo_go (D : va_G) (cI cL : ClassId) (b0 b1 b2 b3 b4 b5 b6 b7 : Nat) (A : Nat → Prop) (ev : Int32) (wr : Nat → Int32) (wg : Nat → Int64) (ke : Nat → Int32) (ma : Nat → Int32) (li : Nat → Int64) (ps : Int32) (pn : Nat → Int32) (cy : Int32) (ca : Int32) (va : Int32) (cn : Nat → Int32) (pp : Int32) (px : Int32) (go : Int32) (ne : Int32) (gi : Int32) (gn : Int32) (F : Int32 × Int32 × Int32) : Array Value → State → Outcome → State → Prop := va_Qv (fun (_ : Unit) => True) (fun _ t => va_P D classes (W_Mo cI cL b0 b1 b2 b3 b4 b5 b6 b7 ev wr wg ke ma li ps pn cy F.1 F.2.1 cn pp px go F.2.2 gi gn) t.heap) A
theorem f_Mo_go_e0 (ca : Int32) (va : Int32) (ne : Int32) (v : Int32)  (h3 : (v &&& (3 : Int32)) = 0) : f_Mo_go ca va ne v = (ca, va, v) := by
  exact (if_pos h3)
theorem f_Mo_go_e1 (ca : Int32) (va : Int32) (ne : Int32) (v : Int32) (t1 : Int32 × Int32) (e_t1 : f_Mo_stop ca va (1 : Int32) v = t1) (h3 : ¬ (v &&& (3 : Int32)) = 0) : f_Mo_go ca va ne v = (t1.1, t1.2, v) := by
  subst e_t1
  exact (if_neg h3)
set_option maxHeartbeats 4000000 in
set_option maxRecDepth 100000 in
theorem c_Mo_go (l : Launch) (D : va_G) (cI cL : ClassId) (b0 b1 b2 b3 b4 b5 b6 b7 : Nat) (sz : Nat) (ev : Int32) (wr : Nat → Int32) (wg : Nat → Int64) (ke : Nat → Int32) (ma : Nat → Int32) (li : Nat → Int64) (ps : Int32) (pn : Nat → Int32) (cy : Int32) (ca : Int32) (va : Int32) (cn : Nat → Int32) (pp : Int32) (px : Int32) (go : Int32) (ne : Int32) (gi : Int32) (gn : Int32) (v : Int32)  : Met l y_Mo_go w_Mo_go ({ frames := 1, cells := 0, slots := 0, locals := 22 }) (va_Pc [.ref b0, .int v] (PW D cI cL (W_Mo cI cL b0 b1 b2 b3 b4 b5 b6 b7 ev wr wg ke ma li ps pn cy ca va cn pp px go ne gi gn) sz)) (q_Mo_go D cI cL b0 b1 b2 b3 b4 b5 b6 b7 (va_A (W_Mo cI cL b0 b1 b2 b3 b4 b5 b6 b7 ev wr wg ke ma li ps pn cy ca va cn pp px go ne gi gn) sz) ev wr wg ke ma li ps pn cy ca va cn pp px go ne gi gn (f_Mo_go ca va ne v)) 0 0 (va_A (W_Mo cI cL b0 b1 b2 b3 b4 b5 b6 b7 ev wr wg ke ma li ps pn cy ca va cn pp px go ne gi gn) sz) := by
  refine mk_met (Qf := fun A => q_Mo_go D cI cL b0 b1 b2 b3 b4 b5 b6 b7 A ev wr wg ke ma li ps pn cy ca va cn pp px go ne gi gn (f_Mo_go ca va ne v)) (by decide) (Nat.le_of_ble_eq_true rfl) ?_
  intro p e s m below meth c A ls hx hb hr hlocks hml hown hg hK hN hT hA hP hD hS hnm hl
  refine lv_iload_n hx hb d_Mo_go_0 rfl (lv_at hl 1 rfl) ?_
  refine lv_iconst (v := 3) hx hb d_Mo_go_1 (by decide) ?_
  refine lv_iand hx hb d_Mo_go_2 ?_
  refine lv_if_eq (tgt := 12) hx hb d_Mo_go_3 (by decide) (fun h3 => ?_) (fun h3 => ?_)
  · refine lv_aload_n hx hb d_Mo_go_12 rfl (lv_at hl 0 rfl) ?_
    refine lv_iload_n hx hb d_Mo_go_13 rfl (lv_at hl 1 rfl) ?_
    refine va_put (ci := 5) (ty := .int) (C := R_Mo) (T := F_Mo) (N := 18) hx hb hg in_Mo t_Mo t_Mo_ok n_Mo hown hK hP hD hS 0 rfl rfl 15 (by decide) (hg _ m_518) (fun _ h => h) rfl (by decide +kernel) rfl rfl (Nat.le_of_ble_eq_true rfl) d_Mo_go_14 (fun H locs hP hD hS => ?_)
    have hP : va_P D classes (W_Mo cI cL b0 b1 b2 b3 b4 b5 b6 b7 ev wr wg ke ma li ps pn cy ca va cn pp px go v gi gn) H := hP
    have hD : va_D A (W_Mo cI cL b0 b1 b2 b3 b4 b5 b6 b7 ev wr wg ke ma li ps pn cy ca va cn pp px go v gi gn) := hD
    rw [f_Mo_go_e0 ca va ne v h3]
    exact W.vret hx hb hr (fun t ht hW => ⟨⟨(), rfl, trivial, by show va_P D classes _ t.heap; rw [ht]; exact hP⟩, hS.F ht⟩) hS.2.2 d_Mo_go_17 hlocks
  · refine lv_aload_n hx hb d_Mo_go_6 rfl (lv_at hl 0 rfl) ?_
    refine lv_iconst (v := 1) hx hb d_Mo_go_7 (by decide) ?_
    refine lv_iload_n hx hb d_Mo_go_8 rfl (lv_at hl 1 rfl) ?_
    refine cj_v (wc := (W_Mo cI cL b0 b1 b2 b3 b4 b5 b6 b7 ev wr wg ke ma li ps pn cy ca va cn pp px go ne gi gn)) (w1 := (W_Mo cI cL b0 b1 b2 b3 b4 b5 b6 b7 ev wr wg ke ma li ps pn cy ((f_Mo_stop ca va (1 : Int32) v).1) ((f_Mo_stop ca va (1 : Int32) v).2) cn pp px go ne gi gn)) hP hD hS hA [0, 1, 2, 3, 4, 5, 6, 7] rfl [b0, b1, b2, b3, b4, b5, b6, b7] rfl rfl (va_runV (rest := []) ⟨hx, hb, hml, hown, hg⟩ (c_Mo_stop l D cI cL b0 b1 b2 b3 b4 b5 b6 b7 _ ev wr wg ke ma li ps pn cy ca va cn pp px go ne gi gn (1 : Int32) v) ⟨callB_of 2 hg (gw_good m_595) rfl rfl rfl (hg _ m_71) (hg _ m_592) hd_Mo_stop ⟨Nat.le_of_ble_eq_true rfl, Nat.le_of_ble_eq_true rfl⟩, hg _ m_594, hg _ m_40⟩ (pw_V hK hN hT hA hP hD hS [0, 1, 2, 3, 4, 5, 6, 7] rfl (by decide) (q0 := 0) (ci := 5) rfl rfl) rfl rfl hl.1 rfl (lv_room (Nat.le_of_ble_eq_true rfl)) d_Mo_go_9 ⟨Nat.le_of_ble_eq_true rfl, Nat.le_of_ble_eq_true rfl⟩) (fun H locs hP hD hS => ?_)
    have hP : va_P D classes (W_Mo cI cL b0 b1 b2 b3 b4 b5 b6 b7 ev wr wg ke ma li ps pn cy ((f_Mo_stop ca va (1 : Int32) v).1) ((f_Mo_stop ca va (1 : Int32) v).2) cn pp px go ne gi gn) H := hP
    have hD : va_D A (W_Mo cI cL b0 b1 b2 b3 b4 b5 b6 b7 ev wr wg ke ma li ps pn cy ((f_Mo_stop ca va (1 : Int32) v).1) ((f_Mo_stop ca va (1 : Int32) v).2) cn pp px go ne gi gn) := hD
    generalize e_t1 : f_Mo_stop ca va (1 : Int32) v = t1 at hP hD ⊢
    obtain ⟨t1_0, t1_1⟩ := t1
    have hP : va_P D classes (W_Mo cI cL b0 b1 b2 b3 b4 b5 b6 b7 ev wr wg ke ma li ps pn cy t1_0 t1_1 cn pp px go ne gi gn) H := hP
    have hD : va_D A (W_Mo cI cL b0 b1 b2 b3 b4 b5 b6 b7 ev wr wg ke ma li ps pn cy t1_0 t1_1 cn pp px go ne gi gn) := hD
    refine lv_aload_n hx hb d_Mo_go_12 rfl (lv_at hl 0 rfl) ?_
    refine lv_iload_n hx hb d_Mo_go_13 rfl (lv_at hl 1 rfl) ?_
    refine va_put (ci := 5) (ty := .int) (C := R_Mo) (T := F_Mo) (N := 18) hx hb hg in_Mo t_Mo t_Mo_ok n_Mo hown hK hP hD hS 0 rfl rfl 15 (by decide) (hg _ m_518) (fun _ h => h) rfl (by decide +kernel) rfl rfl (Nat.le_of_ble_eq_true rfl) d_Mo_go_14 (fun H locs hP hD hS => ?_)
    have hP : va_P D classes (W_Mo cI cL b0 b1 b2 b3 b4 b5 b6 b7 ev wr wg ke ma li ps pn cy t1_0 t1_1 cn pp px go v gi gn) H := hP
    have hD : va_D A (W_Mo cI cL b0 b1 b2 b3 b4 b5 b6 b7 ev wr wg ke ma li ps pn cy t1_0 t1_1 cn pp px go v gi gn) := hD
    rw [f_Mo_go_e1 ca va ne v (t1_0, t1_1) e_t1 h3]
    exact W.vret hx hb hr (fun t ht hW => ⟨⟨(), rfl, trivial, by show va_P D classes _ t.heap; rw [ht]; exact hP⟩, hS.F ht⟩) hS.2.2 d_Mo_go_17 hlocks
abbrev q_Mo_illegal (D : va_G) (cI cL : ClassId) (b0 b1 b2 b3 b4 b5 b6 b7 : Nat) (A : Nat → Prop) (ev : Int32) (wr : Nat → Int32) (wg : Nat → Int64) (ke : Nat → Int32) (ma : Nat → Int32) (li : Nat → Int64) (ps : Int32) (pn : Nat → Int32) (cy : Int32) (ca : Int32) (va : Int32) (cn : Nat → Int32) (pp : Int32) (px : Int32) (go : Int32) (ne : Int32) (gi : Int32) (gn : Int32) (F : Int32 × Int32) : Array Value → State → Outcome → State → Prop := va_Qv (fun (_ : Unit) => True) (fun _ t => va_P D classes (W_Mo cI cL b0 b1 b2 b3 b4 b5 b6 b7 ev wr wg ke ma li ps pn cy F.1 F.2 cn pp px go ne gi gn) t.heap) A
theorem f_Mo_illegal_e0 (ca : Int32) (va : Int32) (px : Int32) (t1 : Int32 × Int32) (e_t1 : f_Mo_stop ca va (2 : Int32) px = t1) : f_Mo_illegal ca va px = (t1.1, t1.2) := by
  subst e_t1
  exact rfl
set_option maxHeartbeats 4000000 in
set_option maxRecDepth 100000 in
theorem c_Mo_illegal (l : Launch) (D : va_G) (cI cL : ClassId) (b0 b1 b2 b3 b4 b5 b6 b7 : Nat) (sz : Nat) (ev : Int32) (wr : Nat → Int32) (wg : Nat → Int64) (ke : Nat → Int32) (ma : Nat → Int32) (li : Nat → Int64) (ps : Int32) (pn : Nat → Int32) (cy : Int32) (ca : Int32) (va : Int32) (cn : Nat → Int32) (pp : Int32) (px : Int32) (go : Int32) (ne : Int32) (gi : Int32) (gn : Int32)   : Met l y_Mo_illegal w_Mo_illegal ({ frames := 1, cells := 0, slots := 0, locals := 22 }) (va_Pc [.ref b0] (PW D cI cL (W_Mo cI cL b0 b1 b2 b3 b4 b5 b6 b7 ev wr wg ke ma li ps pn cy ca va cn pp px go ne gi gn) sz)) (q_Mo_illegal D cI cL b0 b1 b2 b3 b4 b5 b6 b7 (va_A (W_Mo cI cL b0 b1 b2 b3 b4 b5 b6 b7 ev wr wg ke ma li ps pn cy ca va cn pp px go ne gi gn) sz) ev wr wg ke ma li ps pn cy ca va cn pp px go ne gi gn (f_Mo_illegal ca va px)) 0 0 (va_A (W_Mo cI cL b0 b1 b2 b3 b4 b5 b6 b7 ev wr wg ke ma li ps pn cy ca va cn pp px go ne gi gn) sz) := by
  refine mk_met (Qf := fun A => q_Mo_illegal D cI cL b0 b1 b2 b3 b4 b5 b6 b7 A ev wr wg ke ma li ps pn cy ca va cn pp px go ne gi gn (f_Mo_illegal ca va px)) (by decide) (Nat.le_of_ble_eq_true rfl) ?_
  intro p e s m below meth c A ls hx hb hr hlocks hml hown hg hK hN hT hA hP hD hS hnm hl
  refine lv_aload_n hx hb d_Mo_illegal_0 rfl (lv_at hl 0 rfl) ?_
  refine lv_iconst (v := 2) hx hb d_Mo_illegal_1 (by decide) ?_
  refine lv_aload_n hx hb d_Mo_illegal_2 rfl (lv_at hl 0 rfl) ?_
  refine va_get (ci := 5) (C := R_Mo) (T := F_Mo) (N := 18) hx hb hg in_Mo hown hK hP 0 rfl rfl 13 (by decide) (hg _ m_516) (fun _ h => h) rfl d_Mo_illegal_3 ?_
  refine cj_v (wc := (W_Mo cI cL b0 b1 b2 b3 b4 b5 b6 b7 ev wr wg ke ma li ps pn cy ca va cn pp px go ne gi gn)) (w1 := (W_Mo cI cL b0 b1 b2 b3 b4 b5 b6 b7 ev wr wg ke ma li ps pn cy ((f_Mo_stop ca va (2 : Int32) px).1) ((f_Mo_stop ca va (2 : Int32) px).2) cn pp px go ne gi gn)) hP hD hS hA [0, 1, 2, 3, 4, 5, 6, 7] rfl [b0, b1, b2, b3, b4, b5, b6, b7] rfl rfl (va_runV (rest := []) ⟨hx, hb, hml, hown, hg⟩ (c_Mo_stop l D cI cL b0 b1 b2 b3 b4 b5 b6 b7 _ ev wr wg ke ma li ps pn cy ca va cn pp px go ne gi gn (2 : Int32) px) ⟨callB_of 2 hg (gw_good m_595) rfl rfl rfl (hg _ m_71) (hg _ m_592) hd_Mo_stop ⟨Nat.le_of_ble_eq_true rfl, Nat.le_of_ble_eq_true rfl⟩, hg _ m_594, hg _ m_40⟩ (pw_V hK hN hT hA hP hD hS [0, 1, 2, 3, 4, 5, 6, 7] rfl (by decide) (q0 := 0) (ci := 5) rfl rfl) rfl rfl hl.1 rfl (lv_room (Nat.le_of_ble_eq_true rfl)) d_Mo_illegal_6 ⟨Nat.le_of_ble_eq_true rfl, Nat.le_of_ble_eq_true rfl⟩) (fun H locs hP hD hS => ?_)
  have hP : va_P D classes (W_Mo cI cL b0 b1 b2 b3 b4 b5 b6 b7 ev wr wg ke ma li ps pn cy ((f_Mo_stop ca va (2 : Int32) px).1) ((f_Mo_stop ca va (2 : Int32) px).2) cn pp px go ne gi gn) H := hP
  have hD : va_D A (W_Mo cI cL b0 b1 b2 b3 b4 b5 b6 b7 ev wr wg ke ma li ps pn cy ((f_Mo_stop ca va (2 : Int32) px).1) ((f_Mo_stop ca va (2 : Int32) px).2) cn pp px go ne gi gn) := hD
  generalize e_t1 : f_Mo_stop ca va (2 : Int32) px = t1 at hP hD ⊢
  obtain ⟨t1_0, t1_1⟩ := t1
  have hP : va_P D classes (W_Mo cI cL b0 b1 b2 b3 b4 b5 b6 b7 ev wr wg ke ma li ps pn cy t1_0 t1_1 cn pp px go ne gi gn) H := hP
  have hD : va_D A (W_Mo cI cL b0 b1 b2 b3 b4 b5 b6 b7 ev wr wg ke ma li ps pn cy t1_0 t1_1 cn pp px go ne gi gn) := hD
  rw [f_Mo_illegal_e0 ca va px (t1_0, t1_1) e_t1]
  exact W.vret hx hb hr (fun t ht hW => ⟨⟨(), rfl, trivial, by show va_P D classes _ t.heap; rw [ht]; exact hP⟩, hS.F ht⟩) hS.2.2 d_Mo_illegal_9 hlocks
abbrev q_Mo_isLess (D : va_G) (cI cL : ClassId) (A : Nat → Prop)  (F : Int32) : Array Value → State → Outcome → State → Prop := va_Qi (fun r (_ : Unit) => r = F) (fun _ t => va_P D classes [] t.heap) A
theorem f_Mo_isLess_e0 (a : Int32) (b : Int32) (o : Int32)  (h1 : o = 0) (h19 : b ≤ a) (h28 : 0 ≤ a) (h37 : 0 ≤ b) : f_Mo_isLess a b o = ((0 : Int32)) := by
  exact ((if_pos h1).trans ((if_pos h19).trans ((if_pos h28).trans (if_pos h37))))
theorem f_Mo_isLess_e1 (a : Int32) (b : Int32) (o : Int32)  (h1 : o = 0) (h19 : b ≤ a) (h28 : 0 ≤ a) (h37 : ¬ 0 ≤ b) : f_Mo_isLess a b o = ((1 : Int32)) := by
  exact ((if_pos h1).trans ((if_pos h19).trans ((if_pos h28).trans (if_neg h37))))
theorem f_Mo_isLess_e2 (a : Int32) (b : Int32) (o : Int32)  (h1 : o = 0) (h19 : b ≤ a) (h28 : ¬ 0 ≤ a) (h37 : 0 ≤ b) : f_Mo_isLess a b o = ((1 : Int32)) := by
  exact ((if_pos h1).trans ((if_pos h19).trans ((if_neg h28).trans (if_pos h37))))
theorem f_Mo_isLess_e3 (a : Int32) (b : Int32) (o : Int32)  (h1 : o = 0) (h19 : b ≤ a) (h28 : ¬ 0 ≤ a) (h37 : ¬ 0 ≤ b) : f_Mo_isLess a b o = ((0 : Int32)) := by
  exact ((if_pos h1).trans ((if_pos h19).trans ((if_neg h28).trans (if_neg h37))))
theorem f_Mo_isLess_e4 (a : Int32) (b : Int32) (o : Int32)  (h1 : o = 0) (h19 : ¬ b ≤ a) (h28 : 0 ≤ a) (h37 : 0 ≤ b) : f_Mo_isLess a b o = ((1 : Int32)) := by
  exact ((if_pos h1).trans ((if_neg h19).trans ((if_pos h28).trans (if_pos h37))))
theorem f_Mo_isLess_e5 (a : Int32) (b : Int32) (o : Int32)  (h1 : o = 0) (h19 : ¬ b ≤ a) (h28 : 0 ≤ a) (h37 : ¬ 0 ≤ b) : f_Mo_isLess a b o = ((0 : Int32)) := by
  exact ((if_pos h1).trans ((if_neg h19).trans ((if_pos h28).trans (if_neg h37))))
theorem f_Mo_isLess_e6 (a : Int32) (b : Int32) (o : Int32)  (h1 : o = 0) (h19 : ¬ b ≤ a) (h28 : ¬ 0 ≤ a) (h37 : 0 ≤ b) : f_Mo_isLess a b o = ((0 : Int32)) := by
  exact ((if_pos h1).trans ((if_neg h19).trans ((if_neg h28).trans (if_pos h37))))
theorem f_Mo_isLess_e7 (a : Int32) (b : Int32) (o : Int32)  (h1 : o = 0) (h19 : ¬ b ≤ a) (h28 : ¬ 0 ≤ a) (h37 : ¬ 0 ≤ b) : f_Mo_isLess a b o = ((1 : Int32)) := by
  exact ((if_pos h1).trans ((if_neg h19).trans ((if_neg h28).trans (if_neg h37))))
theorem f_Mo_isLess_e8 (a : Int32) (b : Int32) (o : Int32)  (h1 : ¬ o = 0) (h6 : b ≤ a) : f_Mo_isLess a b o = ((0 : Int32)) := by
  exact ((if_neg h1).trans (if_pos h6))
theorem f_Mo_isLess_e9 (a : Int32) (b : Int32) (o : Int32)  (h1 : ¬ o = 0) (h6 : ¬ b ≤ a) : f_Mo_isLess a b o = ((1 : Int32)) := by
  exact ((if_neg h1).trans (if_neg h6))
set_option maxHeartbeats 4000000 in
set_option maxRecDepth 100000 in
theorem c_Mo_isLess (l : Launch) (D : va_G) (cI cL : ClassId) (sz : Nat)  (a : Int32) (b : Int32) (o : Int32)  : Met l y_Mo_isLess w_Mo_isLess ({ frames := 0, cells := 0, slots := 0, locals := 0 }) (va_Pc [.int a, .int b, .int o] (PW D cI cL [] sz)) (q_Mo_isLess D cI cL (va_A [] sz)  (f_Mo_isLess a b o)) 0 0 (va_A [] sz) := by
  refine mk_met (Qf := fun A => q_Mo_isLess D cI cL A  (f_Mo_isLess a b o)) (by decide) (Nat.le_of_ble_eq_true rfl) ?_
  intro p e s m below meth c A ls hx hb hr hlocks hml hown hg hK hN hT hA hP hD hS hnm hl
  refine lv_iload_n hx hb d_Mo_isLess_0 rfl (lv_at hl 2 rfl) ?_
  refine lv_if_eq (tgt := 17) hx hb d_Mo_isLess_1 (by decide) (fun h1 => ?_) (fun h1 => ?_)
  · refine lv_iload_n hx hb d_Mo_isLess_17 rfl (lv_at hl 0 rfl) ?_
    refine lv_iload_n hx hb d_Mo_isLess_18 rfl (lv_at hl 1 rfl) ?_
    refine lv_icmp_ge (tgt := 26) hx hb d_Mo_isLess_19 (by decide) (fun h19 => ?_) (fun h19 => ?_)
    · refine lv_iconst (v := 0) hx hb d_Mo_isLess_26 (by decide) ?_
      refine lv_iload_n hx hb d_Mo_isLess_27 rfl (lv_at hl 0 rfl) ?_
      refine lv_if_ge (tgt := 35) hx hb d_Mo_isLess_28 (by decide) (fun h28 => ?_) (fun h28 => ?_)
      · refine lv_iconst (v := 0) hx hb d_Mo_isLess_35 (by decide) ?_
        refine lv_iload_n hx hb d_Mo_isLess_36 rfl (lv_at hl 1 rfl) ?_
        refine lv_if_ge (tgt := 44) hx hb d_Mo_isLess_37 (by decide) (fun h37 => ?_) (fun h37 => ?_)
        · refine lv_iconst (v := 0) hx hb d_Mo_isLess_44 (by decide) ?_
          refine lv_icmp_eq (tgt := 52) hx hb d_Mo_isLess_45 (by decide) (fun _ => ?_) (fun h => absurd (by decide) h)
          refine lv_iconst (v := 0) hx hb d_Mo_isLess_52 (by decide) ?_
          refine lv_icmp_eq (tgt := 60) hx hb d_Mo_isLess_53 (by decide) (fun _ => ?_) (fun h => absurd (by decide) h)
          refine lv_iconst (v := 0) hx hb d_Mo_isLess_60 (by decide) ?_
          rw [f_Mo_isLess_e0 a b o h1 h19 h28 h37]
          exact W.zret hx hb hr rfl (fun t ht hW => ⟨⟨_, (), rfl, rfl, by show va_P D classes _ t.heap; rw [ht]; exact hP⟩, hS.F ht⟩) hS.2.2 d_Mo_isLess_61 hlocks
        · refine lv_iconst (v := 1) hx hb d_Mo_isLess_40 (by decide) ?_
          refine lv_goto (tgt := 45) hx hb d_Mo_isLess_41 (by decide) ?_
          refine lv_icmp_eq (tgt := 52) hx hb d_Mo_isLess_45 (by decide) (fun h => absurd h (by decide)) (fun _ => ?_)
          refine lv_iconst (v := 1) hx hb d_Mo_isLess_48 (by decide) ?_
          refine lv_goto (tgt := 53) hx hb d_Mo_isLess_49 (by decide) ?_
          refine lv_icmp_eq (tgt := 60) hx hb d_Mo_isLess_53 (by decide) (fun h => absurd h (by decide)) (fun _ => ?_)
          refine lv_iconst (v := 1) hx hb d_Mo_isLess_56 (by decide) ?_
          refine lv_goto (tgt := 61) hx hb d_Mo_isLess_57 (by decide) ?_
          rw [f_Mo_isLess_e1 a b o h1 h19 h28 h37]
          exact W.zret hx hb hr rfl (fun t ht hW => ⟨⟨_, (), rfl, rfl, by show va_P D classes _ t.heap; rw [ht]; exact hP⟩, hS.F ht⟩) hS.2.2 d_Mo_isLess_61 hlocks
      · refine lv_iconst (v := 1) hx hb d_Mo_isLess_31 (by decide) ?_
        refine lv_goto (tgt := 36) hx hb d_Mo_isLess_32 (by decide) ?_
        refine lv_iload_n hx hb d_Mo_isLess_36 rfl (lv_at hl 1 rfl) ?_
        refine lv_if_ge (tgt := 44) hx hb d_Mo_isLess_37 (by decide) (fun h37 => ?_) (fun h37 => ?_)
        · refine lv_iconst (v := 0) hx hb d_Mo_isLess_44 (by decide) ?_
          refine lv_icmp_eq (tgt := 52) hx hb d_Mo_isLess_45 (by decide) (fun h => absurd h (by decide)) (fun _ => ?_)
          refine lv_iconst (v := 1) hx hb d_Mo_isLess_48 (by decide) ?_
          refine lv_goto (tgt := 53) hx hb d_Mo_isLess_49 (by decide) ?_
          refine lv_icmp_eq (tgt := 60) hx hb d_Mo_isLess_53 (by decide) (fun h => absurd h (by decide)) (fun _ => ?_)
          refine lv_iconst (v := 1) hx hb d_Mo_isLess_56 (by decide) ?_
          refine lv_goto (tgt := 61) hx hb d_Mo_isLess_57 (by decide) ?_
          rw [f_Mo_isLess_e2 a b o h1 h19 h28 h37]
          exact W.zret hx hb hr rfl (fun t ht hW => ⟨⟨_, (), rfl, rfl, by show va_P D classes _ t.heap; rw [ht]; exact hP⟩, hS.F ht⟩) hS.2.2 d_Mo_isLess_61 hlocks
        · refine lv_iconst (v := 1) hx hb d_Mo_isLess_40 (by decide) ?_
          refine lv_goto (tgt := 45) hx hb d_Mo_isLess_41 (by decide) ?_
          refine lv_icmp_eq (tgt := 52) hx hb d_Mo_isLess_45 (by decide) (fun _ => ?_) (fun h => absurd (by decide) h)
          refine lv_iconst (v := 0) hx hb d_Mo_isLess_52 (by decide) ?_
          refine lv_icmp_eq (tgt := 60) hx hb d_Mo_isLess_53 (by decide) (fun _ => ?_) (fun h => absurd (by decide) h)
          refine lv_iconst (v := 0) hx hb d_Mo_isLess_60 (by decide) ?_
          rw [f_Mo_isLess_e3 a b o h1 h19 h28 h37]
          exact W.zret hx hb hr rfl (fun t ht hW => ⟨⟨_, (), rfl, rfl, by show va_P D classes _ t.heap; rw [ht]; exact hP⟩, hS.F ht⟩) hS.2.2 d_Mo_isLess_61 hlocks
    · refine lv_iconst (v := 1) hx hb d_Mo_isLess_22 (by decide) ?_
      refine lv_goto (tgt := 27) hx hb d_Mo_isLess_23 (by decide) ?_
      refine lv_iload_n hx hb d_Mo_isLess_27 rfl (lv_at hl 0 rfl) ?_
      refine lv_if_ge (tgt := 35) hx hb d_Mo_isLess_28 (by decide) (fun h28 => ?_) (fun h28 => ?_)
      · refine lv_iconst (v := 0) hx hb d_Mo_isLess_35 (by decide) ?_
        refine lv_iload_n hx hb d_Mo_isLess_36 rfl (lv_at hl 1 rfl) ?_
        refine lv_if_ge (tgt := 44) hx hb d_Mo_isLess_37 (by decide) (fun h37 => ?_) (fun h37 => ?_)
        · refine lv_iconst (v := 0) hx hb d_Mo_isLess_44 (by decide) ?_
          refine lv_icmp_eq (tgt := 52) hx hb d_Mo_isLess_45 (by decide) (fun _ => ?_) (fun h => absurd (by decide) h)
          refine lv_iconst (v := 0) hx hb d_Mo_isLess_52 (by decide) ?_
          refine lv_icmp_eq (tgt := 60) hx hb d_Mo_isLess_53 (by decide) (fun h => absurd h (by decide)) (fun _ => ?_)
          refine lv_iconst (v := 1) hx hb d_Mo_isLess_56 (by decide) ?_
          refine lv_goto (tgt := 61) hx hb d_Mo_isLess_57 (by decide) ?_
          rw [f_Mo_isLess_e4 a b o h1 h19 h28 h37]
          exact W.zret hx hb hr rfl (fun t ht hW => ⟨⟨_, (), rfl, rfl, by show va_P D classes _ t.heap; rw [ht]; exact hP⟩, hS.F ht⟩) hS.2.2 d_Mo_isLess_61 hlocks
        · refine lv_iconst (v := 1) hx hb d_Mo_isLess_40 (by decide) ?_
          refine lv_goto (tgt := 45) hx hb d_Mo_isLess_41 (by decide) ?_
          refine lv_icmp_eq (tgt := 52) hx hb d_Mo_isLess_45 (by decide) (fun h => absurd h (by decide)) (fun _ => ?_)
          refine lv_iconst (v := 1) hx hb d_Mo_isLess_48 (by decide) ?_
          refine lv_goto (tgt := 53) hx hb d_Mo_isLess_49 (by decide) ?_
          refine lv_icmp_eq (tgt := 60) hx hb d_Mo_isLess_53 (by decide) (fun _ => ?_) (fun h => absurd (by decide) h)
          refine lv_iconst (v := 0) hx hb d_Mo_isLess_60 (by decide) ?_
          rw [f_Mo_isLess_e5 a b o h1 h19 h28 h37]
          exact W.zret hx hb hr rfl (fun t ht hW => ⟨⟨_, (), rfl, rfl, by show va_P D classes _ t.heap; rw [ht]; exact hP⟩, hS.F ht⟩) hS.2.2 d_Mo_isLess_61 hlocks
      · refine lv_iconst (v := 1) hx hb d_Mo_isLess_31 (by decide) ?_
        refine lv_goto (tgt := 36) hx hb d_Mo_isLess_32 (by decide) ?_
        refine lv_iload_n hx hb d_Mo_isLess_36 rfl (lv_at hl 1 rfl) ?_
        refine lv_if_ge (tgt := 44) hx hb d_Mo_isLess_37 (by decide) (fun h37 => ?_) (fun h37 => ?_)
        · refine lv_iconst (v := 0) hx hb d_Mo_isLess_44 (by decide) ?_
          refine lv_icmp_eq (tgt := 52) hx hb d_Mo_isLess_45 (by decide) (fun h => absurd h (by decide)) (fun _ => ?_)
          refine lv_iconst (v := 1) hx hb d_Mo_isLess_48 (by decide) ?_
          refine lv_goto (tgt := 53) hx hb d_Mo_isLess_49 (by decide) ?_
          refine lv_icmp_eq (tgt := 60) hx hb d_Mo_isLess_53 (by decide) (fun _ => ?_) (fun h => absurd (by decide) h)
          refine lv_iconst (v := 0) hx hb d_Mo_isLess_60 (by decide) ?_
          rw [f_Mo_isLess_e6 a b o h1 h19 h28 h37]
          exact W.zret hx hb hr rfl (fun t ht hW => ⟨⟨_, (), rfl, rfl, by show va_P D classes _ t.heap; rw [ht]; exact hP⟩, hS.F ht⟩) hS.2.2 d_Mo_isLess_61 hlocks
        · refine lv_iconst (v := 1) hx hb d_Mo_isLess_40 (by decide) ?_
          refine lv_goto (tgt := 45) hx hb d_Mo_isLess_41 (by decide) ?_
          refine lv_icmp_eq (tgt := 52) hx hb d_Mo_isLess_45 (by decide) (fun _ => ?_) (fun h => absurd (by decide) h)
          refine lv_iconst (v := 0) hx hb d_Mo_isLess_52 (by decide) ?_
          refine lv_icmp_eq (tgt := 60) hx hb d_Mo_isLess_53 (by decide) (fun h => absurd h (by decide)) (fun _ => ?_)
          refine lv_iconst (v := 1) hx hb d_Mo_isLess_56 (by decide) ?_
          refine lv_goto (tgt := 61) hx hb d_Mo_isLess_57 (by decide) ?_
          rw [f_Mo_isLess_e7 a b o h1 h19 h28 h37]
          exact W.zret hx hb hr rfl (fun t ht hW => ⟨⟨_, (), rfl, rfl, by show va_P D classes _ t.heap; rw [ht]; exact hP⟩, hS.F ht⟩) hS.2.2 d_Mo_isLess_61 hlocks
  · refine lv_iload_n hx hb d_Mo_isLess_4 rfl (lv_at hl 0 rfl) ?_
    refine lv_iload_n hx hb d_Mo_isLess_5 rfl (lv_at hl 1 rfl) ?_
    refine lv_icmp_ge (tgt := 13) hx hb d_Mo_isLess_6 (by decide) (fun h6 => ?_) (fun h6 => ?_)
    · refine lv_iconst (v := 0) hx hb d_Mo_isLess_13 (by decide) ?_
      refine lv_goto (tgt := 61) hx hb d_Mo_isLess_14 (by decide) ?_
      rw [f_Mo_isLess_e8 a b o h1 h6]
      exact W.zret hx hb hr rfl (fun t ht hW => ⟨⟨_, (), rfl, rfl, by show va_P D classes _ t.heap; rw [ht]; exact hP⟩, hS.F ht⟩) hS.2.2 d_Mo_isLess_61 hlocks
    · refine lv_iconst (v := 1) hx hb d_Mo_isLess_9 (by decide) ?_
      refine lv_goto (tgt := 61) hx hb d_Mo_isLess_10 (by decide) ?_
      rw [f_Mo_isLess_e9 a b o h1 h6]
      exact W.zret hx hb hr rfl (fun t ht hW => ⟨⟨_, (), rfl, rfl, by show va_P D classes _ t.heap; rw [ht]; exact hP⟩, hS.F ht⟩) hS.2.2 d_Mo_isLess_61 hlocks
abbrev q_Mo_branch (D : va_G) (cI cL : ClassId) (b0 b1 b2 b3 b4 b5 b6 b7 : Nat) (A : Nat → Prop) (ev : Int32) (wr : Nat → Int32) (wg : Nat → Int64) (ke : Nat → Int32) (ma : Nat → Int32) (li : Nat → Int64) (ps : Int32) (pn : Nat → Int32) (cy : Int32) (ca : Int32) (va : Int32) (cn : Nat → Int32) (pp : Int32) (px : Int32) (go : Int32) (ne : Int32) (gi : Int32) (gn : Int32) (F : Int32 × Int32 × Int32) : Array Value → State → Outcome → State → Prop := va_Qv (fun (_ : Unit) => True) (fun _ t => va_P D classes (W_Mo cI cL b0 b1 b2 b3 b4 b5 b6 b7 ev wr wg ke ma li ps pn cy F.1 F.2.1 cn pp px go F.2.2 gi gn) t.heap) A
theorem f_Mo_branch_e0 (ca : Int32) (va : Int32) (pp : Int32) (px : Int32) (ne : Int32) (f : Int32) (a : Int32) (b : Int32) (t1 : Int32 × Int32) (e_t1 : f_Mo_illegal ca va px = t1) (h2 : (2 : Int32) ≤ f) (h23 : (6 : Int32) ≤ f) (h38 : f = (2 : Int32)) : f_Mo_branch ca va pp px ne f a b = (t1.1, t1.2, ne) := by
  subst e_t1
  exact ((if_pos h2).trans ((if_pos h23).trans (if_pos h38)))
theorem f_Mo_branch_e1 (ca : Int32) (va : Int32) (pp : Int32) (px : Int32) (ne : Int32) (f : Int32) (a : Int32) (b : Int32)  (h2 : (2 : Int32) ≤ f) (h23 : (6 : Int32) ≤ f) (h38 : ¬ f = (2 : Int32)) (h43 : ¬ f = (3 : Int32)) (h59 : ¬ (u_rem f (2 : Int32)) = (1 : Int32)) (h67 : (f_Mo_isLess a b (0 : Int32)) = (0 : Int32)) : f_Mo_branch ca va pp px ne f a b = (ca, va, ne) := by
  exact ((if_pos h2).trans ((if_pos h23).trans ((if_neg h38).trans ((if_neg h43).trans ((if_neg h59).trans (if_pos h67))))))
theorem f_Mo_branch_e2 (ca : Int32) (va : Int32) (pp : Int32) (px : Int32) (ne : Int32) (f : Int32) (a : Int32) (b : Int32) (t2 : Int32 × Int32 × Int32) (e_t2 : f_Mo_go ca va ne (pp + (f_Mo_numberK px)) = t2) (h2 : (2 : Int32) ≤ f) (h23 : (6 : Int32) ≤ f) (h38 : ¬ f = (2 : Int32)) (h43 : ¬ f = (3 : Int32)) (h59 : ¬ (u_rem f (2 : Int32)) = (1 : Int32)) (h67 : ¬ (f_Mo_isLess a b (0 : Int32)) = (0 : Int32)) : f_Mo_branch ca va pp px ne f a b = (t2.1, t2.2.1, t2.2.2) := by
  subst e_t2
  exact ((if_pos h2).trans ((if_pos h23).trans ((if_neg h38).trans ((if_neg h43).trans ((if_neg h59).trans (if_neg h67))))))
theorem f_Mo_branch_e3 (ca : Int32) (va : Int32) (pp : Int32) (px : Int32) (ne : Int32) (f : Int32) (a : Int32) (b : Int32)  (h2 : (2 : Int32) ≤ f) (h23 : (6 : Int32) ≤ f) (h38 : ¬ f = (2 : Int32)) (h43 : ¬ f = (3 : Int32)) (h59 : (u_rem f (2 : Int32)) = (1 : Int32)) (h67 : (f_Mo_isLess a b (0 : Int32)) = (1 : Int32)) : f_Mo_branch ca va pp px ne f a b = (ca, va, ne) := by
  exact ((if_pos h2).trans ((if_pos h23).trans ((if_neg h38).trans ((if_neg h43).trans ((if_pos h59).trans (if_pos h67))))))
theorem f_Mo_branch_e4 (ca : Int32) (va : Int32) (pp : Int32) (px : Int32) (ne : Int32) (f : Int32) (a : Int32) (b : Int32) (t3 : Int32 × Int32 × Int32) (e_t3 : f_Mo_go ca va ne (pp + (f_Mo_numberK px)) = t3) (h2 : (2 : Int32) ≤ f) (h23 : (6 : Int32) ≤ f) (h38 : ¬ f = (2 : Int32)) (h43 : ¬ f = (3 : Int32)) (h59 : (u_rem f (2 : Int32)) = (1 : Int32)) (h67 : ¬ (f_Mo_isLess a b (0 : Int32)) = (1 : Int32)) : f_Mo_branch ca va pp px ne f a b = (t3.1, t3.2.1, t3.2.2) := by
  subst e_t3
  exact ((if_pos h2).trans ((if_pos h23).trans ((if_neg h38).trans ((if_neg h43).trans ((if_pos h59).trans (if_neg h67))))))
theorem f_Mo_branch_e5 (ca : Int32) (va : Int32) (pp : Int32) (px : Int32) (ne : Int32) (f : Int32) (a : Int32) (b : Int32) (t4 : Int32 × Int32) (e_t4 : f_Mo_illegal ca va px = t4) (h2 : (2 : Int32) ≤ f) (h23 : (6 : Int32) ≤ f) (h38 : ¬ f = (2 : Int32)) (h43 : f = (3 : Int32)) : f_Mo_branch ca va pp px ne f a b = (t4.1, t4.2, ne) := by
  subst e_t4
  exact ((if_pos h2).trans ((if_pos h23).trans ((if_neg h38).trans (if_pos h43))))
theorem f_Mo_branch_e6 (ca : Int32) (va : Int32) (pp : Int32) (px : Int32) (ne : Int32) (f : Int32) (a : Int32) (b : Int32) (t5 : Int32 × Int32) (e_t5 : f_Mo_illegal ca va px = t5) (h2 : (2 : Int32) ≤ f) (h23 : ¬ (6 : Int32) ≤ f) (h38 : f = (2 : Int32)) : f_Mo_branch ca va pp px ne f a b = (t5.1, t5.2, ne) := by
  subst e_t5
  exact ((if_pos h2).trans ((if_neg h23).trans (if_pos h38)))
theorem f_Mo_branch_e7 (ca : Int32) (va : Int32) (pp : Int32) (px : Int32) (ne : Int32) (f : Int32) (a : Int32) (b : Int32)  (h2 : (2 : Int32) ≤ f) (h23 : ¬ (6 : Int32) ≤ f) (h38 : ¬ f = (2 : Int32)) (h43 : ¬ f = (3 : Int32)) (h59 : ¬ (u_rem f (2 : Int32)) = (1 : Int32)) (h67 : (f_Mo_isLess a b (1 : Int32)) = (0 : Int32)) : f_Mo_branch ca va pp px ne f a b = (ca, va, ne) := by
  exact ((if_pos h2).trans ((if_neg h23).trans ((if_neg h38).trans ((if_neg h43).trans ((if_neg h59).trans (if_pos h67))))))
theorem f_Mo_branch_e8 (ca : Int32) (va : Int32) (pp : Int32) (px : Int32) (ne : Int32) (f : Int32) (a : Int32) (b : Int32) (t6 : Int32 × Int32 × Int32) (e_t6 : f_Mo_go ca va ne (pp + (f_Mo_numberK px)) = t6) (h2 : (2 : Int32) ≤ f) (h23 : ¬ (6 : Int32) ≤ f) (h38 : ¬ f = (2 : Int32)) (h43 : ¬ f = (3 : Int32)) (h59 : ¬ (u_rem f (2 : Int32)) = (1 : Int32)) (h67 : ¬ (f_Mo_isLess a b (1 : Int32)) = (0 : Int32)) : f_Mo_branch ca va pp px ne f a b = (t6.1, t6.2.1, t6.2.2) := by
  subst e_t6
  exact ((if_pos h2).trans ((if_neg h23).trans ((if_neg h38).trans ((if_neg h43).trans ((if_neg h59).trans (if_neg h67))))))
theorem f_Mo_branch_e9 (ca : Int32) (va : Int32) (pp : Int32) (px : Int32) (ne : Int32) (f : Int32) (a : Int32) (b : Int32)  (h2 : (2 : Int32) ≤ f) (h23 : ¬ (6 : Int32) ≤ f) (h38 : ¬ f = (2 : Int32)) (h43 : ¬ f = (3 : Int32)) (h59 : (u_rem f (2 : Int32)) = (1 : Int32)) (h67 : (f_Mo_isLess a b (1 : Int32)) = (1 : Int32)) : f_Mo_branch ca va pp px ne f a b = (ca, va, ne) := by
  exact ((if_pos h2).trans ((if_neg h23).trans ((if_neg h38).trans ((if_neg h43).trans ((if_pos h59).trans (if_pos h67))))))
theorem f_Mo_branch_e10 (ca : Int32) (va : Int32) (pp : Int32) (px : Int32) (ne : Int32) (f : Int32) (a : Int32) (b : Int32) (t7 : Int32 × Int32 × Int32) (e_t7 : f_Mo_go ca va ne (pp + (f_Mo_numberK px)) = t7) (h2 : (2 : Int32) ≤ f) (h23 : ¬ (6 : Int32) ≤ f) (h38 : ¬ f = (2 : Int32)) (h43 : ¬ f = (3 : Int32)) (h59 : (u_rem f (2 : Int32)) = (1 : Int32)) (h67 : ¬ (f_Mo_isLess a b (1 : Int32)) = (1 : Int32)) : f_Mo_branch ca va pp px ne f a b = (t7.1, t7.2.1, t7.2.2) := by
  subst e_t7
  exact ((if_pos h2).trans ((if_neg h23).trans ((if_neg h38).trans ((if_neg h43).trans ((if_pos h59).trans (if_neg h67))))))
theorem f_Mo_branch_e11 (ca : Int32) (va : Int32) (pp : Int32) (px : Int32) (ne : Int32) (f : Int32) (a : Int32) (b : Int32) (t8 : Int32 × Int32) (e_t8 : f_Mo_illegal ca va px = t8) (h2 : (2 : Int32) ≤ f) (h23 : ¬ (6 : Int32) ≤ f) (h38 : ¬ f = (2 : Int32)) (h43 : f = (3 : Int32)) : f_Mo_branch ca va pp px ne f a b = (t8.1, t8.2, ne) := by
  subst e_t8
  exact ((if_pos h2).trans ((if_neg h23).trans ((if_neg h38).trans (if_pos h43))))
theorem f_Mo_branch_e12 (ca : Int32) (va : Int32) (pp : Int32) (px : Int32) (ne : Int32) (f : Int32) (a : Int32) (b : Int32) (t9 : Int32 × Int32) (e_t9 : f_Mo_illegal ca va px = t9) (h2 : ¬ (2 : Int32) ≤ f) (h7 : ¬ a = b) (h38 : f = (2 : Int32)) : f_Mo_branch ca va pp px ne f a b = (t9.1, t9.2, ne) := by
  subst e_t9
  exact ((if_neg h2).trans ((if_neg h7).trans (if_pos h38)))
theorem f_Mo_branch_e13 (ca : Int32) (va : Int32) (pp : Int32) (px : Int32) (ne : Int32) (f : Int32) (a : Int32) (b : Int32)  (h2 : ¬ (2 : Int32) ≤ f) (h7 : ¬ a = b) (h38 : ¬ f = (2 : Int32)) (h43 : ¬ f = (3 : Int32)) (h59 : ¬ (u_rem f (2 : Int32)) = (1 : Int32)) : f_Mo_branch ca va pp px ne f a b = (ca, va, ne) := by
  exact ((if_neg h2).trans ((if_neg h7).trans ((if_neg h38).trans ((if_neg h43).trans (if_neg h59)))))
theorem f_Mo_branch_e14 (ca : Int32) (va : Int32) (pp : Int32) (px : Int32) (ne : Int32) (f : Int32) (a : Int32) (b : Int32) (t10 : Int32 × Int32 × Int32) (e_t10 : f_Mo_go ca va ne (pp + (f_Mo_numberK px)) = t10) (h2 : ¬ (2 : Int32) ≤ f) (h7 : ¬ a = b) (h38 : ¬ f = (2 : Int32)) (h43 : ¬ f = (3 : Int32)) (h59 : (u_rem f (2 : Int32)) = (1 : Int32)) : f_Mo_branch ca va pp px ne f a b = (t10.1, t10.2.1, t10.2.2) := by
  subst e_t10
  exact ((if_neg h2).trans ((if_neg h7).trans ((if_neg h38).trans ((if_neg h43).trans (if_pos h59)))))
theorem f_Mo_branch_e15 (ca : Int32) (va : Int32) (pp : Int32) (px : Int32) (ne : Int32) (f : Int32) (a : Int32) (b : Int32) (t11 : Int32 × Int32) (e_t11 : f_Mo_illegal ca va px = t11) (h2 : ¬ (2 : Int32) ≤ f) (h7 : ¬ a = b) (h38 : ¬ f = (2 : Int32)) (h43 : f = (3 : Int32)) : f_Mo_branch ca va pp px ne f a b = (t11.1, t11.2, ne) := by
  subst e_t11
  exact ((if_neg h2).trans ((if_neg h7).trans ((if_neg h38).trans (if_pos h43))))
theorem f_Mo_branch_e16 (ca : Int32) (va : Int32) (pp : Int32) (px : Int32) (ne : Int32) (f : Int32) (a : Int32) (b : Int32) (t12 : Int32 × Int32) (e_t12 : f_Mo_illegal ca va px = t12) (h2 : ¬ (2 : Int32) ≤ f) (h7 : a = b) (h38 : f = (2 : Int32)) : f_Mo_branch ca va pp px ne f a b = (t12.1, t12.2, ne) := by
  subst e_t12
  exact ((if_neg h2).trans ((if_pos h7).trans (if_pos h38)))
theorem f_Mo_branch_e17 (ca : Int32) (va : Int32) (pp : Int32) (px : Int32) (ne : Int32) (f : Int32) (a : Int32) (b : Int32) (t13 : Int32 × Int32 × Int32) (e_t13 : f_Mo_go ca va ne (pp + (f_Mo_numberK px)) = t13) (h2 : ¬ (2 : Int32) ≤ f) (h7 : a = b) (h38 : ¬ f = (2 : Int32)) (h43 : ¬ f = (3 : Int32)) (h59 : ¬ (u_rem f (2 : Int32)) = (1 : Int32)) : f_Mo_branch ca va pp px ne f a b = (t13.1, t13.2.1, t13.2.2) := by
  subst e_t13
  exact ((if_neg h2).trans ((if_pos h7).trans ((if_neg h38).trans ((if_neg h43).trans (if_neg h59)))))
theorem f_Mo_branch_e18 (ca : Int32) (va : Int32) (pp : Int32) (px : Int32) (ne : Int32) (f : Int32) (a : Int32) (b : Int32)  (h2 : ¬ (2 : Int32) ≤ f) (h7 : a = b) (h38 : ¬ f = (2 : Int32)) (h43 : ¬ f = (3 : Int32)) (h59 : (u_rem f (2 : Int32)) = (1 : Int32)) : f_Mo_branch ca va pp px ne f a b = (ca, va, ne) := by
  exact ((if_neg h2).trans ((if_pos h7).trans ((if_neg h38).trans ((if_neg h43).trans (if_pos h59)))))
theorem f_Mo_branch_e19 (ca : Int32) (va : Int32) (pp : Int32) (px : Int32) (ne : Int32) (f : Int32) (a : Int32) (b : Int32) (t14 : Int32 × Int32) (e_t14 : f_Mo_illegal ca va px = t14) (h2 : ¬ (2 : Int32) ≤ f) (h7 : a = b) (h38 : ¬ f = (2 : Int32)) (h43 : f = (3 : Int32)) : f_Mo_branch ca va pp px ne f a b = (t14.1, t14.2, ne) := by
  subst e_t14
  exact ((if_neg h2).trans ((if_pos h7).trans ((if_neg h38).trans (if_pos h43))))
set_option maxHeartbeats 4000000 in
set_option maxRecDepth 100000 in
theorem c_Mo_branch (l : Launch) (D : va_G) (cI cL : ClassId) (b0 b1 b2 b3 b4 b5 b6 b7 : Nat) (sz : Nat) (ev : Int32) (wr : Nat → Int32) (wg : Nat → Int64) (ke : Nat → Int32) (ma : Nat → Int32) (li : Nat → Int64) (ps : Int32) (pn : Nat → Int32) (cy : Int32) (ca : Int32) (va : Int32) (cn : Nat → Int32) (pp : Int32) (px : Int32) (go : Int32) (ne : Int32) (gi : Int32) (gn : Int32) (f : Int32) (a : Int32) (b : Int32)  : Met l y_Mo_branch w_Mo_branch ({ frames := 2, cells := 0, slots := 0, locals := 43 }) (va_Pc [.ref b0, .int f, .int a, .int b] (PW D cI cL (W_Mo cI cL b0 b1 b2 b3 b4 b5 b6 b7 ev wr wg ke ma li ps pn cy ca va cn pp px go ne gi gn) sz)) (q_Mo_branch D cI cL b0 b1 b2 b3 b4 b5 b6 b7 (va_A (W_Mo cI cL b0 b1 b2 b3 b4 b5 b6 b7 ev wr wg ke ma li ps pn cy ca va cn pp px go ne gi gn) sz) ev wr wg ke ma li ps pn cy ca va cn pp px go ne gi gn (f_Mo_branch ca va pp px ne f a b)) 0 0 (va_A (W_Mo cI cL b0 b1 b2 b3 b4 b5 b6 b7 ev wr wg ke ma li ps pn cy ca va cn pp px go ne gi gn) sz) := by
  refine mk_met (Qf := fun A => q_Mo_branch D cI cL b0 b1 b2 b3 b4 b5 b6 b7 A ev wr wg ke ma li ps pn cy ca va cn pp px go ne gi gn (f_Mo_branch ca va pp px ne f a b)) (by decide) (Nat.le_of_ble_eq_true rfl) ?_
  intro p e s m below meth c A ls hx hb hr hlocks hml hown hg hK hN hT hA hP hD hS hnm hl
  refine lv_iload_n hx hb d_Mo_branch_0 rfl (lv_at hl 1 rfl) ?_
  refine lv_iconst (v := 2) hx hb d_Mo_branch_1 (by decide) ?_
  refine lv_icmp_ge (tgt := 18) hx hb d_Mo_branch_2 (by decide) (fun h2 => ?_) (fun h2 => ?_)
  · refine lv_iload_n hx hb d_Mo_branch_18 rfl (lv_at hl 2 rfl) ?_
    refine lv_iload_n hx hb d_Mo_branch_19 rfl (lv_at hl 3 rfl) ?_
    refine lv_iload_n hx hb d_Mo_branch_20 rfl (lv_at hl 1 rfl) ?_
    refine lv_bipush (v := 6) hx hb d_Mo_branch_21 (by decide) ?_
    refine lv_icmp_ge (tgt := 30) hx hb d_Mo_branch_23 (by decide) (fun h23 => ?_) (fun h23 => ?_)
    · refine lv_iconst (v := 0) hx hb d_Mo_branch_30 (by decide) ?_
      refine cj_i (wc := []) (w1 := []) hP hD hS hA [] rfl [] rfl rfl (va_runS (rest := []) ⟨hx, hb, hml, hown, hg⟩ (c_Mo_isLess l D cI cL  _ a b (0 : Int32)) ⟨callB_of 3 hg (gw_good m_668) rfl rfl rfl (hg _ m_71) (hg _ m_666) hd_Mo_isLess ⟨Nat.le_of_ble_eq_true rfl, Nat.le_of_ble_eq_true rfl⟩, hg _ m_667⟩ (pw_S hK hN hT hA hP hD hS [] rfl (by decide)) rfl rfl hl.1 rfl (lv_room (Nat.le_of_ble_eq_true rfl)) d_Mo_branch_31 ⟨Nat.le_of_ble_eq_true rfl, Nat.le_of_ble_eq_true rfl⟩) (fun H locs hP hD hS => ?_)
      have hP : va_P D classes (W_Mo cI cL b0 b1 b2 b3 b4 b5 b6 b7 ev wr wg ke ma li ps pn cy ca va cn pp px go ne gi gn) H := hP
      have hD : va_D A (W_Mo cI cL b0 b1 b2 b3 b4 b5 b6 b7 ev wr wg ke ma li ps pn cy ca va cn pp px go ne gi gn) := hD
      refine lv_istore (lv' := [(4, .int _), (0, .ref _), (1, .int _), (2, .int _), (3, .int _)]) hx hb d_Mo_branch_34 hl (by decide) rfl (fun ls hl => ?_)
      refine lv_iload_n hx hb d_Mo_branch_36 rfl (lv_at hl 2 rfl) ?_
      refine lv_iconst (v := 2) hx hb d_Mo_branch_37 (by decide) ?_
      refine lv_icmp_eq (tgt := 46) hx hb d_Mo_branch_38 (by decide) (fun h38 => ?_) (fun h38 => ?_)
      · refine lv_aload_n hx hb d_Mo_branch_46 rfl (lv_at hl 1 rfl) ?_
        refine cj_v (wc := (W_Mo cI cL b0 b1 b2 b3 b4 b5 b6 b7 ev wr wg ke ma li ps pn cy ca va cn pp px go ne gi gn)) (w1 := (W_Mo cI cL b0 b1 b2 b3 b4 b5 b6 b7 ev wr wg ke ma li ps pn cy ((f_Mo_illegal ca va px).1) ((f_Mo_illegal ca va px).2) cn pp px go ne gi gn)) hP hD hS hA [0, 1, 2, 3, 4, 5, 6, 7] rfl [b0, b1, b2, b3, b4, b5, b6, b7] rfl rfl (va_runV (rest := []) ⟨hx, hb, hml, hown, hg⟩ (c_Mo_illegal l D cI cL b0 b1 b2 b3 b4 b5 b6 b7 _ ev wr wg ke ma li ps pn cy ca va cn pp px go ne gi gn) ⟨callB_of 0 hg (gw_good m_661) rfl rfl rfl (hg _ m_71) (hg _ m_658) hd_Mo_illegal ⟨Nat.le_of_ble_eq_true rfl, Nat.le_of_ble_eq_true rfl⟩, hg _ m_660, hg _ m_51⟩ (pw_V hK hN hT hA hP hD hS [0, 1, 2, 3, 4, 5, 6, 7] rfl (by decide) (q0 := 0) (ci := 5) rfl rfl) rfl rfl hl.1 rfl (lv_room (Nat.le_of_ble_eq_true rfl)) d_Mo_branch_47 ⟨Nat.le_of_ble_eq_true rfl, Nat.le_of_ble_eq_true rfl⟩) (fun H locs hP hD hS => ?_)
        have hP : va_P D classes (W_Mo cI cL b0 b1 b2 b3 b4 b5 b6 b7 ev wr wg ke ma li ps pn cy ((f_Mo_illegal ca va px).1) ((f_Mo_illegal ca va px).2) cn pp px go ne gi gn) H := hP
        have hD : va_D A (W_Mo cI cL b0 b1 b2 b3 b4 b5 b6 b7 ev wr wg ke ma li ps pn cy ((f_Mo_illegal ca va px).1) ((f_Mo_illegal ca va px).2) cn pp px go ne gi gn) := hD
        generalize e_t1 : f_Mo_illegal ca va px = t1 at hP hD ⊢
        obtain ⟨t1_0, t1_1⟩ := t1
        have hP : va_P D classes (W_Mo cI cL b0 b1 b2 b3 b4 b5 b6 b7 ev wr wg ke ma li ps pn cy t1_0 t1_1 cn pp px go ne gi gn) H := hP
        have hD : va_D A (W_Mo cI cL b0 b1 b2 b3 b4 b5 b6 b7 ev wr wg ke ma li ps pn cy t1_0 t1_1 cn pp px go ne gi gn) := hD
        refine lv_goto (tgt := 83) hx hb d_Mo_branch_50 (by decide) ?_
        rw [f_Mo_branch_e0 ca va pp px ne f a b (t1_0, t1_1) e_t1 h2 h23 h38]
        exact W.vret hx hb hr (fun t ht hW => ⟨⟨(), rfl, trivial, by show va_P D classes _ t.heap; rw [ht]; exact hP⟩, hS.F ht⟩) hS.2.2 d_Mo_branch_83 hlocks
      · refine lv_iload_n hx hb d_Mo_branch_41 rfl (lv_at hl 2 rfl) ?_
        refine lv_iconst (v := 3) hx hb d_Mo_branch_42 (by decide) ?_
        refine lv_icmp_ne (tgt := 53) hx hb d_Mo_branch_43 (by decide) (fun h43 => ?_) (fun h43 => ?_)
        · refine lv_iload hx hb d_Mo_branch_53 (lv_at hl 0 rfl) ?_
          refine lv_iload_n hx hb d_Mo_branch_55 rfl (lv_at hl 2 rfl) ?_
          refine lv_iconst (v := 2) hx hb d_Mo_branch_56 (by decide) ?_
          refine lv_irem hx hb d_Mo_branch_57 (by decide) ?_
          refine lv_iconst (v := 1) hx hb d_Mo_branch_58 (by decide) ?_
          refine lv_icmp_ne (tgt := 66) hx hb d_Mo_branch_59 (by decide) (fun h59 => ?_) (fun h59 => ?_)
          · refine lv_iconst (v := 0) hx hb d_Mo_branch_66 (by decide) ?_
            refine lv_icmp_eq (tgt := 83) hx hb d_Mo_branch_67 (by decide) (fun h67 => ?_) (fun h67 => ?_)
            · rw [f_Mo_branch_e1 ca va pp px ne f a b h2 h23 h38 h43 h59 h67]
              exact W.vret hx hb hr (fun t ht hW => ⟨⟨(), rfl, trivial, by show va_P D classes _ t.heap; rw [ht]; exact hP⟩, hS.F ht⟩) hS.2.2 d_Mo_branch_83 hlocks
            · refine lv_aload_n hx hb d_Mo_branch_70 rfl (lv_at hl 1 rfl) ?_
              refine lv_aload_n hx hb d_Mo_branch_71 rfl (lv_at hl 1 rfl) ?_
              refine va_get (ci := 5) (C := R_Mo) (T := F_Mo) (N := 18) hx hb hg in_Mo hown hK hP 0 rfl rfl 12 (by decide) (hg _ m_515) (fun _ h => h) rfl d_Mo_branch_72 ?_
              refine lv_aload_n hx hb d_Mo_branch_75 rfl (lv_at hl 1 rfl) ?_
              refine cj_i (wc := (W_Mo cI cL b0 b1 b2 b3 b4 b5 b6 b7 ev wr wg ke ma li ps pn cy ca va cn pp px go ne gi gn)) (w1 := (W_Mo cI cL b0 b1 b2 b3 b4 b5 b6 b7 ev wr wg ke ma li ps pn cy ca va cn pp px go ne gi gn)) hP hD hS hA [0, 1, 2, 3, 4, 5, 6, 7] rfl [b0, b1, b2, b3, b4, b5, b6, b7] rfl rfl (va_runV (rest := [.int _, .ref _]) ⟨hx, hb, hml, hown, hg⟩ (c_Mo_numberK l D cI cL b0 b1 b2 b3 b4 b5 b6 b7 _ ev wr wg ke ma li ps pn cy ca va cn pp px go ne gi gn) ⟨callB_of 0 hg (gw_good m_672) rfl rfl rfl (hg _ m_71) (hg _ m_669) hd_Mo_numberK ⟨Nat.le_of_ble_eq_true rfl, Nat.le_of_ble_eq_true rfl⟩, hg _ m_671, hg _ m_53⟩ (pw_V hK hN hT hA hP hD hS [0, 1, 2, 3, 4, 5, 6, 7] rfl (by decide) (q0 := 0) (ci := 5) rfl rfl) rfl rfl hl.1 rfl (lv_room (Nat.le_of_ble_eq_true rfl)) d_Mo_branch_76 ⟨Nat.le_of_ble_eq_true rfl, Nat.le_of_ble_eq_true rfl⟩) (fun H locs hP hD hS => ?_)
              have hP : va_P D classes (W_Mo cI cL b0 b1 b2 b3 b4 b5 b6 b7 ev wr wg ke ma li ps pn cy ca va cn pp px go ne gi gn) H := hP
              have hD : va_D A (W_Mo cI cL b0 b1 b2 b3 b4 b5 b6 b7 ev wr wg ke ma li ps pn cy ca va cn pp px go ne gi gn) := hD
              refine lv_iadd hx hb d_Mo_branch_79 ?_
              refine cj_v (wc := (W_Mo cI cL b0 b1 b2 b3 b4 b5 b6 b7 ev wr wg ke ma li ps pn cy ca va cn pp px go ne gi gn)) (w1 := (W_Mo cI cL b0 b1 b2 b3 b4 b5 b6 b7 ev wr wg ke ma li ps pn cy ((f_Mo_go ca va ne (pp + (f_Mo_numberK px))).1) ((f_Mo_go ca va ne (pp + (f_Mo_numberK px))).2.1) cn pp px go ((f_Mo_go ca va ne (pp + (f_Mo_numberK px))).2.2) gi gn)) hP hD hS hA [0, 1, 2, 3, 4, 5, 6, 7] rfl [b0, b1, b2, b3, b4, b5, b6, b7] rfl rfl (va_runV (rest := []) ⟨hx, hb, hml, hown, hg⟩ (c_Mo_go l D cI cL b0 b1 b2 b3 b4 b5 b6 b7 _ ev wr wg ke ma li ps pn cy ca va cn pp px go ne gi gn (pp + (f_Mo_numberK px))) ⟨callB_of 1 hg (gw_good m_653) rfl rfl rfl (hg _ m_71) (hg _ m_650) hd_Mo_go ⟨Nat.le_of_ble_eq_true rfl, Nat.le_of_ble_eq_true rfl⟩, hg _ m_652, hg _ m_49⟩ (pw_V hK hN hT hA hP hD hS [0, 1, 2, 3, 4, 5, 6, 7] rfl (by decide) (q0 := 0) (ci := 5) rfl rfl) rfl rfl hl.1 rfl (lv_room (Nat.le_of_ble_eq_true rfl)) d_Mo_branch_80 ⟨Nat.le_of_ble_eq_true rfl, Nat.le_of_ble_eq_true rfl⟩) (fun H locs hP hD hS => ?_)
              have hP : va_P D classes (W_Mo cI cL b0 b1 b2 b3 b4 b5 b6 b7 ev wr wg ke ma li ps pn cy ((f_Mo_go ca va ne (pp + (f_Mo_numberK px))).1) ((f_Mo_go ca va ne (pp + (f_Mo_numberK px))).2.1) cn pp px go ((f_Mo_go ca va ne (pp + (f_Mo_numberK px))).2.2) gi gn) H := hP
              have hD : va_D A (W_Mo cI cL b0 b1 b2 b3 b4 b5 b6 b7 ev wr wg ke ma li ps pn cy ((f_Mo_go ca va ne (pp + (f_Mo_numberK px))).1) ((f_Mo_go ca va ne (pp + (f_Mo_numberK px))).2.1) cn pp px go ((f_Mo_go ca va ne (pp + (f_Mo_numberK px))).2.2) gi gn) := hD
              generalize e_t2 : f_Mo_go ca va ne (pp + (f_Mo_numberK px)) = t2 at hP hD ⊢
              obtain ⟨t2_0, t2_1, t2_2⟩ := t2
              have hP : va_P D classes (W_Mo cI cL b0 b1 b2 b3 b4 b5 b6 b7 ev wr wg ke ma li ps pn cy t2_0 t2_1 cn pp px go t2_2 gi gn) H := hP
              have hD : va_D A (W_Mo cI cL b0 b1 b2 b3 b4 b5 b6 b7 ev wr wg ke ma li ps pn cy t2_0 t2_1 cn pp px go t2_2 gi gn) := hD
              rw [f_Mo_branch_e2 ca va pp px ne f a b (t2_0, t2_1, t2_2) e_t2 h2 h23 h38 h43 h59 h67]
              exact W.vret hx hb hr (fun t ht hW => ⟨⟨(), rfl, trivial, by show va_P D classes _ t.heap; rw [ht]; exact hP⟩, hS.F ht⟩) hS.2.2 d_Mo_branch_83 hlocks
          · refine lv_iconst (v := 1) hx hb d_Mo_branch_62 (by decide) ?_
            refine lv_goto (tgt := 67) hx hb d_Mo_branch_63 (by decide) ?_
            refine lv_icmp_eq (tgt := 83) hx hb d_Mo_branch_67 (by decide) (fun h67 => ?_) (fun h67 => ?_)
            · rw [f_Mo_branch_e3 ca va pp px ne f a b h2 h23 h38 h43 h59 h67]
              exact W.vret hx hb hr (fun t ht hW => ⟨⟨(), rfl, trivial, by show va_P D classes _ t.heap; rw [ht]; exact hP⟩, hS.F ht⟩) hS.2.2 d_Mo_branch_83 hlocks
            · refine lv_aload_n hx hb d_Mo_branch_70 rfl (lv_at hl 1 rfl) ?_
              refine lv_aload_n hx hb d_Mo_branch_71 rfl (lv_at hl 1 rfl) ?_
              refine va_get (ci := 5) (C := R_Mo) (T := F_Mo) (N := 18) hx hb hg in_Mo hown hK hP 0 rfl rfl 12 (by decide) (hg _ m_515) (fun _ h => h) rfl d_Mo_branch_72 ?_
              refine lv_aload_n hx hb d_Mo_branch_75 rfl (lv_at hl 1 rfl) ?_
              refine cj_i (wc := (W_Mo cI cL b0 b1 b2 b3 b4 b5 b6 b7 ev wr wg ke ma li ps pn cy ca va cn pp px go ne gi gn)) (w1 := (W_Mo cI cL b0 b1 b2 b3 b4 b5 b6 b7 ev wr wg ke ma li ps pn cy ca va cn pp px go ne gi gn)) hP hD hS hA [0, 1, 2, 3, 4, 5, 6, 7] rfl [b0, b1, b2, b3, b4, b5, b6, b7] rfl rfl (va_runV (rest := [.int _, .ref _]) ⟨hx, hb, hml, hown, hg⟩ (c_Mo_numberK l D cI cL b0 b1 b2 b3 b4 b5 b6 b7 _ ev wr wg ke ma li ps pn cy ca va cn pp px go ne gi gn) ⟨callB_of 0 hg (gw_good m_672) rfl rfl rfl (hg _ m_71) (hg _ m_669) hd_Mo_numberK ⟨Nat.le_of_ble_eq_true rfl, Nat.le_of_ble_eq_true rfl⟩, hg _ m_671, hg _ m_53⟩ (pw_V hK hN hT hA hP hD hS [0, 1, 2, 3, 4, 5, 6, 7] rfl (by decide) (q0 := 0) (ci := 5) rfl rfl) rfl rfl hl.1 rfl (lv_room (Nat.le_of_ble_eq_true rfl)) d_Mo_branch_76 ⟨Nat.le_of_ble_eq_true rfl, Nat.le_of_ble_eq_true rfl⟩) (fun H locs hP hD hS => ?_)
              have hP : va_P D classes (W_Mo cI cL b0 b1 b2 b3 b4 b5 b6 b7 ev wr wg ke ma li ps pn cy ca va cn pp px go ne gi gn) H := hP
              have hD : va_D A (W_Mo cI cL b0 b1 b2 b3 b4 b5 b6 b7 ev wr wg ke ma li ps pn cy ca va cn pp px go ne gi gn) := hD
              refine lv_iadd hx hb d_Mo_branch_79 ?_
              refine cj_v (wc := (W_Mo cI cL b0 b1 b2 b3 b4 b5 b6 b7 ev wr wg ke ma li ps pn cy ca va cn pp px go ne gi gn)) (w1 := (W_Mo cI cL b0 b1 b2 b3 b4 b5 b6 b7 ev wr wg ke ma li ps pn cy ((f_Mo_go ca va ne (pp + (f_Mo_numberK px))).1) ((f_Mo_go ca va ne (pp + (f_Mo_numberK px))).2.1) cn pp px go ((f_Mo_go ca va ne (pp + (f_Mo_numberK px))).2.2) gi gn)) hP hD hS hA [0, 1, 2, 3, 4, 5, 6, 7] rfl [b0, b1, b2, b3, b4, b5, b6, b7] rfl rfl (va_runV (rest := []) ⟨hx, hb, hml, hown, hg⟩ (c_Mo_go l D cI cL b0 b1 b2 b3 b4 b5 b6 b7 _ ev wr wg ke ma li ps pn cy ca va cn pp px go ne gi gn (pp + (f_Mo_numberK px))) ⟨callB_of 1 hg (gw_good m_653) rfl rfl rfl (hg _ m_71) (hg _ m_650) hd_Mo_go ⟨Nat.le_of_ble_eq_true rfl, Nat.le_of_ble_eq_true rfl⟩, hg _ m_652, hg _ m_49⟩ (pw_V hK hN hT hA hP hD hS [0, 1, 2, 3, 4, 5, 6, 7] rfl (by decide) (q0 := 0) (ci := 5) rfl rfl) rfl rfl hl.1 rfl (lv_room (Nat.le_of_ble_eq_true rfl)) d_Mo_branch_80 ⟨Nat.le_of_ble_eq_true rfl, Nat.le_of_ble_eq_true rfl⟩) (fun H locs hP hD hS => ?_)
              have hP : va_P D classes (W_Mo cI cL b0 b1 b2 b3 b4 b5 b6 b7 ev wr wg ke ma li ps pn cy ((f_Mo_go ca va ne (pp + (f_Mo_numberK px))).1) ((f_Mo_go ca va ne (pp + (f_Mo_numberK px))).2.1) cn pp px go ((f_Mo_go ca va ne (pp + (f_Mo_numberK px))).2.2) gi gn) H := hP
              have hD : va_D A (W_Mo cI cL b0 b1 b2 b3 b4 b5 b6 b7 ev wr wg ke ma li ps pn cy ((f_Mo_go ca va ne (pp + (f_Mo_numberK px))).1) ((f_Mo_go ca va ne (pp + (f_Mo_numberK px))).2.1) cn pp px go ((f_Mo_go ca va ne (pp + (f_Mo_numberK px))).2.2) gi gn) := hD
              generalize e_t3 : f_Mo_go ca va ne (pp + (f_Mo_numberK px)) = t3 at hP hD ⊢
              obtain ⟨t3_0, t3_1, t3_2⟩ := t3
              have hP : va_P D classes (W_Mo cI cL b0 b1 b2 b3 b4 b5 b6 b7 ev wr wg ke ma li ps pn cy t3_0 t3_1 cn pp px go t3_2 gi gn) H := hP
              have hD : va_D A (W_Mo cI cL b0 b1 b2 b3 b4 b5 b6 b7 ev wr wg ke ma li ps pn cy t3_0 t3_1 cn pp px go t3_2 gi gn) := hD
              rw [f_Mo_branch_e4 ca va pp px ne f a b (t3_0, t3_1, t3_2) e_t3 h2 h23 h38 h43 h59 h67]
              exact W.vret hx hb hr (fun t ht hW => ⟨⟨(), rfl, trivial, by show va_P D classes _ t.heap; rw [ht]; exact hP⟩, hS.F ht⟩) hS.2.2 d_Mo_branch_83 hlocks
        · refine lv_aload_n hx hb d_Mo_branch_46 rfl (lv_at hl 1 rfl) ?_
          refine cj_v (wc := (W_Mo cI cL b0 b1 b2 b3 b4 b5 b6 b7 ev wr wg ke ma li ps pn cy ca va cn pp px go ne gi gn)) (w1 := (W_Mo cI cL b0 b1 b2 b3 b4 b5 b6 b7 ev wr wg ke ma li ps pn cy ((f_Mo_illegal ca va px).1) ((f_Mo_illegal ca va px).2) cn pp px go ne gi gn)) hP hD hS hA [0, 1, 2, 3, 4, 5, 6, 7] rfl [b0, b1, b2, b3, b4, b5, b6, b7] rfl rfl (va_runV (rest := []) ⟨hx, hb, hml, hown, hg⟩ (c_Mo_illegal l D cI cL b0 b1 b2 b3 b4 b5 b6 b7 _ ev wr wg ke ma li ps pn cy ca va cn pp px go ne gi gn) ⟨callB_of 0 hg (gw_good m_661) rfl rfl rfl (hg _ m_71) (hg _ m_658) hd_Mo_illegal ⟨Nat.le_of_ble_eq_true rfl, Nat.le_of_ble_eq_true rfl⟩, hg _ m_660, hg _ m_51⟩ (pw_V hK hN hT hA hP hD hS [0, 1, 2, 3, 4, 5, 6, 7] rfl (by decide) (q0 := 0) (ci := 5) rfl rfl) rfl rfl hl.1 rfl (lv_room (Nat.le_of_ble_eq_true rfl)) d_Mo_branch_47 ⟨Nat.le_of_ble_eq_true rfl, Nat.le_of_ble_eq_true rfl⟩) (fun H locs hP hD hS => ?_)
          have hP : va_P D classes (W_Mo cI cL b0 b1 b2 b3 b4 b5 b6 b7 ev wr wg ke ma li ps pn cy ((f_Mo_illegal ca va px).1) ((f_Mo_illegal ca va px).2) cn pp px go ne gi gn) H := hP
          have hD : va_D A (W_Mo cI cL b0 b1 b2 b3 b4 b5 b6 b7 ev wr wg ke ma li ps pn cy ((f_Mo_illegal ca va px).1) ((f_Mo_illegal ca va px).2) cn pp px go ne gi gn) := hD
          generalize e_t4 : f_Mo_illegal ca va px = t4 at hP hD ⊢
          obtain ⟨t4_0, t4_1⟩ := t4
          have hP : va_P D classes (W_Mo cI cL b0 b1 b2 b3 b4 b5 b6 b7 ev wr wg ke ma li ps pn cy t4_0 t4_1 cn pp px go ne gi gn) H := hP
          have hD : va_D A (W_Mo cI cL b0 b1 b2 b3 b4 b5 b6 b7 ev wr wg ke ma li ps pn cy t4_0 t4_1 cn pp px go ne gi gn) := hD
          refine lv_goto (tgt := 83) hx hb d_Mo_branch_50 (by decide) ?_
          rw [f_Mo_branch_e5 ca va pp px ne f a b (t4_0, t4_1) e_t4 h2 h23 h38 h43]
          exact W.vret hx hb hr (fun t ht hW => ⟨⟨(), rfl, trivial, by show va_P D classes _ t.heap; rw [ht]; exact hP⟩, hS.F ht⟩) hS.2.2 d_Mo_branch_83 hlocks
    · refine lv_iconst (v := 1) hx hb d_Mo_branch_26 (by decide) ?_
      refine lv_goto (tgt := 31) hx hb d_Mo_branch_27 (by decide) ?_
      refine cj_i (wc := []) (w1 := []) hP hD hS hA [] rfl [] rfl rfl (va_runS (rest := []) ⟨hx, hb, hml, hown, hg⟩ (c_Mo_isLess l D cI cL  _ a b (1 : Int32)) ⟨callB_of 3 hg (gw_good m_668) rfl rfl rfl (hg _ m_71) (hg _ m_666) hd_Mo_isLess ⟨Nat.le_of_ble_eq_true rfl, Nat.le_of_ble_eq_true rfl⟩, hg _ m_667⟩ (pw_S hK hN hT hA hP hD hS [] rfl (by decide)) rfl rfl hl.1 rfl (lv_room (Nat.le_of_ble_eq_true rfl)) d_Mo_branch_31 ⟨Nat.le_of_ble_eq_true rfl, Nat.le_of_ble_eq_true rfl⟩) (fun H locs hP hD hS => ?_)
      have hP : va_P D classes (W_Mo cI cL b0 b1 b2 b3 b4 b5 b6 b7 ev wr wg ke ma li ps pn cy ca va cn pp px go ne gi gn) H := hP
      have hD : va_D A (W_Mo cI cL b0 b1 b2 b3 b4 b5 b6 b7 ev wr wg ke ma li ps pn cy ca va cn pp px go ne gi gn) := hD
      refine lv_istore (lv' := [(4, .int _), (0, .ref _), (1, .int _), (2, .int _), (3, .int _)]) hx hb d_Mo_branch_34 hl (by decide) rfl (fun ls hl => ?_)
      refine lv_iload_n hx hb d_Mo_branch_36 rfl (lv_at hl 2 rfl) ?_
      refine lv_iconst (v := 2) hx hb d_Mo_branch_37 (by decide) ?_
      refine lv_icmp_eq (tgt := 46) hx hb d_Mo_branch_38 (by decide) (fun h38 => ?_) (fun h38 => ?_)
      · refine lv_aload_n hx hb d_Mo_branch_46 rfl (lv_at hl 1 rfl) ?_
        refine cj_v (wc := (W_Mo cI cL b0 b1 b2 b3 b4 b5 b6 b7 ev wr wg ke ma li ps pn cy ca va cn pp px go ne gi gn)) (w1 := (W_Mo cI cL b0 b1 b2 b3 b4 b5 b6 b7 ev wr wg ke ma li ps pn cy ((f_Mo_illegal ca va px).1) ((f_Mo_illegal ca va px).2) cn pp px go ne gi gn)) hP hD hS hA [0, 1, 2, 3, 4, 5, 6, 7] rfl [b0, b1, b2, b3, b4, b5, b6, b7] rfl rfl (va_runV (rest := []) ⟨hx, hb, hml, hown, hg⟩ (c_Mo_illegal l D cI cL b0 b1 b2 b3 b4 b5 b6 b7 _ ev wr wg ke ma li ps pn cy ca va cn pp px go ne gi gn) ⟨callB_of 0 hg (gw_good m_661) rfl rfl rfl (hg _ m_71) (hg _ m_658) hd_Mo_illegal ⟨Nat.le_of_ble_eq_true rfl, Nat.le_of_ble_eq_true rfl⟩, hg _ m_660, hg _ m_51⟩ (pw_V hK hN hT hA hP hD hS [0, 1, 2, 3, 4, 5, 6, 7] rfl (by decide) (q0 := 0) (ci := 5) rfl rfl) rfl rfl hl.1 rfl (lv_room (Nat.le_of_ble_eq_true rfl)) d_Mo_branch_47 ⟨Nat.le_of_ble_eq_true rfl, Nat.le_of_ble_eq_true rfl⟩) (fun H locs hP hD hS => ?_)
        have hP : va_P D classes (W_Mo cI cL b0 b1 b2 b3 b4 b5 b6 b7 ev wr wg ke ma li ps pn cy ((f_Mo_illegal ca va px).1) ((f_Mo_illegal ca va px).2) cn pp px go ne gi gn) H := hP
        have hD : va_D A (W_Mo cI cL b0 b1 b2 b3 b4 b5 b6 b7 ev wr wg ke ma li ps pn cy ((f_Mo_illegal ca va px).1) ((f_Mo_illegal ca va px).2) cn pp px go ne gi gn) := hD
        generalize e_t5 : f_Mo_illegal ca va px = t5 at hP hD ⊢
        obtain ⟨t5_0, t5_1⟩ := t5
        have hP : va_P D classes (W_Mo cI cL b0 b1 b2 b3 b4 b5 b6 b7 ev wr wg ke ma li ps pn cy t5_0 t5_1 cn pp px go ne gi gn) H := hP
        have hD : va_D A (W_Mo cI cL b0 b1 b2 b3 b4 b5 b6 b7 ev wr wg ke ma li ps pn cy t5_0 t5_1 cn pp px go ne gi gn) := hD
        refine lv_goto (tgt := 83) hx hb d_Mo_branch_50 (by decide) ?_
        rw [f_Mo_branch_e6 ca va pp px ne f a b (t5_0, t5_1) e_t5 h2 h23 h38]
        exact W.vret hx hb hr (fun t ht hW => ⟨⟨(), rfl, trivial, by show va_P D classes _ t.heap; rw [ht]; exact hP⟩, hS.F ht⟩) hS.2.2 d_Mo_branch_83 hlocks
      · refine lv_iload_n hx hb d_Mo_branch_41 rfl (lv_at hl 2 rfl) ?_
        refine lv_iconst (v := 3) hx hb d_Mo_branch_42 (by decide) ?_
        refine lv_icmp_ne (tgt := 53) hx hb d_Mo_branch_43 (by decide) (fun h43 => ?_) (fun h43 => ?_)
        · refine lv_iload hx hb d_Mo_branch_53 (lv_at hl 0 rfl) ?_
          refine lv_iload_n hx hb d_Mo_branch_55 rfl (lv_at hl 2 rfl) ?_
          refine lv_iconst (v := 2) hx hb d_Mo_branch_56 (by decide) ?_
          refine lv_irem hx hb d_Mo_branch_57 (by decide) ?_
          refine lv_iconst (v := 1) hx hb d_Mo_branch_58 (by decide) ?_
          refine lv_icmp_ne (tgt := 66) hx hb d_Mo_branch_59 (by decide) (fun h59 => ?_) (fun h59 => ?_)
          · refine lv_iconst (v := 0) hx hb d_Mo_branch_66 (by decide) ?_
            refine lv_icmp_eq (tgt := 83) hx hb d_Mo_branch_67 (by decide) (fun h67 => ?_) (fun h67 => ?_)
            · rw [f_Mo_branch_e7 ca va pp px ne f a b h2 h23 h38 h43 h59 h67]
              exact W.vret hx hb hr (fun t ht hW => ⟨⟨(), rfl, trivial, by show va_P D classes _ t.heap; rw [ht]; exact hP⟩, hS.F ht⟩) hS.2.2 d_Mo_branch_83 hlocks
            · refine lv_aload_n hx hb d_Mo_branch_70 rfl (lv_at hl 1 rfl) ?_
              refine lv_aload_n hx hb d_Mo_branch_71 rfl (lv_at hl 1 rfl) ?_
              refine va_get (ci := 5) (C := R_Mo) (T := F_Mo) (N := 18) hx hb hg in_Mo hown hK hP 0 rfl rfl 12 (by decide) (hg _ m_515) (fun _ h => h) rfl d_Mo_branch_72 ?_
              refine lv_aload_n hx hb d_Mo_branch_75 rfl (lv_at hl 1 rfl) ?_
              refine cj_i (wc := (W_Mo cI cL b0 b1 b2 b3 b4 b5 b6 b7 ev wr wg ke ma li ps pn cy ca va cn pp px go ne gi gn)) (w1 := (W_Mo cI cL b0 b1 b2 b3 b4 b5 b6 b7 ev wr wg ke ma li ps pn cy ca va cn pp px go ne gi gn)) hP hD hS hA [0, 1, 2, 3, 4, 5, 6, 7] rfl [b0, b1, b2, b3, b4, b5, b6, b7] rfl rfl (va_runV (rest := [.int _, .ref _]) ⟨hx, hb, hml, hown, hg⟩ (c_Mo_numberK l D cI cL b0 b1 b2 b3 b4 b5 b6 b7 _ ev wr wg ke ma li ps pn cy ca va cn pp px go ne gi gn) ⟨callB_of 0 hg (gw_good m_672) rfl rfl rfl (hg _ m_71) (hg _ m_669) hd_Mo_numberK ⟨Nat.le_of_ble_eq_true rfl, Nat.le_of_ble_eq_true rfl⟩, hg _ m_671, hg _ m_53⟩ (pw_V hK hN hT hA hP hD hS [0, 1, 2, 3, 4, 5, 6, 7] rfl (by decide) (q0 := 0) (ci := 5) rfl rfl) rfl rfl hl.1 rfl (lv_room (Nat.le_of_ble_eq_true rfl)) d_Mo_branch_76 ⟨Nat.le_of_ble_eq_true rfl, Nat.le_of_ble_eq_true rfl⟩) (fun H locs hP hD hS => ?_)
              have hP : va_P D classes (W_Mo cI cL b0 b1 b2 b3 b4 b5 b6 b7 ev wr wg ke ma li ps pn cy ca va cn pp px go ne gi gn) H := hP
              have hD : va_D A (W_Mo cI cL b0 b1 b2 b3 b4 b5 b6 b7 ev wr wg ke ma li ps pn cy ca va cn pp px go ne gi gn) := hD
              refine lv_iadd hx hb d_Mo_branch_79 ?_
              refine cj_v (wc := (W_Mo cI cL b0 b1 b2 b3 b4 b5 b6 b7 ev wr wg ke ma li ps pn cy ca va cn pp px go ne gi gn)) (w1 := (W_Mo cI cL b0 b1 b2 b3 b4 b5 b6 b7 ev wr wg ke ma li ps pn cy ((f_Mo_go ca va ne (pp + (f_Mo_numberK px))).1) ((f_Mo_go ca va ne (pp + (f_Mo_numberK px))).2.1) cn pp px go ((f_Mo_go ca va ne (pp + (f_Mo_numberK px))).2.2) gi gn)) hP hD hS hA [0, 1, 2, 3, 4, 5, 6, 7] rfl [b0, b1, b2, b3, b4, b5, b6, b7] rfl rfl (va_runV (rest := []) ⟨hx, hb, hml, hown, hg⟩ (c_Mo_go l D cI cL b0 b1 b2 b3 b4 b5 b6 b7 _ ev wr wg ke ma li ps pn cy ca va cn pp px go ne gi gn (pp + (f_Mo_numberK px))) ⟨callB_of 1 hg (gw_good m_653) rfl rfl rfl (hg _ m_71) (hg _ m_650) hd_Mo_go ⟨Nat.le_of_ble_eq_true rfl, Nat.le_of_ble_eq_true rfl⟩, hg _ m_652, hg _ m_49⟩ (pw_V hK hN hT hA hP hD hS [0, 1, 2, 3, 4, 5, 6, 7] rfl (by decide) (q0 := 0) (ci := 5) rfl rfl) rfl rfl hl.1 rfl (lv_room (Nat.le_of_ble_eq_true rfl)) d_Mo_branch_80 ⟨Nat.le_of_ble_eq_true rfl, Nat.le_of_ble_eq_true rfl⟩) (fun H locs hP hD hS => ?_)
              have hP : va_P D classes (W_Mo cI cL b0 b1 b2 b3 b4 b5 b6 b7 ev wr wg ke ma li ps pn cy ((f_Mo_go ca va ne (pp + (f_Mo_numberK px))).1) ((f_Mo_go ca va ne (pp + (f_Mo_numberK px))).2.1) cn pp px go ((f_Mo_go ca va ne (pp + (f_Mo_numberK px))).2.2) gi gn) H := hP
              have hD : va_D A (W_Mo cI cL b0 b1 b2 b3 b4 b5 b6 b7 ev wr wg ke ma li ps pn cy ((f_Mo_go ca va ne (pp + (f_Mo_numberK px))).1) ((f_Mo_go ca va ne (pp + (f_Mo_numberK px))).2.1) cn pp px go ((f_Mo_go ca va ne (pp + (f_Mo_numberK px))).2.2) gi gn) := hD
              generalize e_t6 : f_Mo_go ca va ne (pp + (f_Mo_numberK px)) = t6 at hP hD ⊢
              obtain ⟨t6_0, t6_1, t6_2⟩ := t6
              have hP : va_P D classes (W_Mo cI cL b0 b1 b2 b3 b4 b5 b6 b7 ev wr wg ke ma li ps pn cy t6_0 t6_1 cn pp px go t6_2 gi gn) H := hP
              have hD : va_D A (W_Mo cI cL b0 b1 b2 b3 b4 b5 b6 b7 ev wr wg ke ma li ps pn cy t6_0 t6_1 cn pp px go t6_2 gi gn) := hD
              rw [f_Mo_branch_e8 ca va pp px ne f a b (t6_0, t6_1, t6_2) e_t6 h2 h23 h38 h43 h59 h67]
              exact W.vret hx hb hr (fun t ht hW => ⟨⟨(), rfl, trivial, by show va_P D classes _ t.heap; rw [ht]; exact hP⟩, hS.F ht⟩) hS.2.2 d_Mo_branch_83 hlocks
          · refine lv_iconst (v := 1) hx hb d_Mo_branch_62 (by decide) ?_
            refine lv_goto (tgt := 67) hx hb d_Mo_branch_63 (by decide) ?_
            refine lv_icmp_eq (tgt := 83) hx hb d_Mo_branch_67 (by decide) (fun h67 => ?_) (fun h67 => ?_)
            · rw [f_Mo_branch_e9 ca va pp px ne f a b h2 h23 h38 h43 h59 h67]
              exact W.vret hx hb hr (fun t ht hW => ⟨⟨(), rfl, trivial, by show va_P D classes _ t.heap; rw [ht]; exact hP⟩, hS.F ht⟩) hS.2.2 d_Mo_branch_83 hlocks
            · refine lv_aload_n hx hb d_Mo_branch_70 rfl (lv_at hl 1 rfl) ?_
              refine lv_aload_n hx hb d_Mo_branch_71 rfl (lv_at hl 1 rfl) ?_
              refine va_get (ci := 5) (C := R_Mo) (T := F_Mo) (N := 18) hx hb hg in_Mo hown hK hP 0 rfl rfl 12 (by decide) (hg _ m_515) (fun _ h => h) rfl d_Mo_branch_72 ?_
              refine lv_aload_n hx hb d_Mo_branch_75 rfl (lv_at hl 1 rfl) ?_
              refine cj_i (wc := (W_Mo cI cL b0 b1 b2 b3 b4 b5 b6 b7 ev wr wg ke ma li ps pn cy ca va cn pp px go ne gi gn)) (w1 := (W_Mo cI cL b0 b1 b2 b3 b4 b5 b6 b7 ev wr wg ke ma li ps pn cy ca va cn pp px go ne gi gn)) hP hD hS hA [0, 1, 2, 3, 4, 5, 6, 7] rfl [b0, b1, b2, b3, b4, b5, b6, b7] rfl rfl (va_runV (rest := [.int _, .ref _]) ⟨hx, hb, hml, hown, hg⟩ (c_Mo_numberK l D cI cL b0 b1 b2 b3 b4 b5 b6 b7 _ ev wr wg ke ma li ps pn cy ca va cn pp px go ne gi gn) ⟨callB_of 0 hg (gw_good m_672) rfl rfl rfl (hg _ m_71) (hg _ m_669) hd_Mo_numberK ⟨Nat.le_of_ble_eq_true rfl, Nat.le_of_ble_eq_true rfl⟩, hg _ m_671, hg _ m_53⟩ (pw_V hK hN hT hA hP hD hS [0, 1, 2, 3, 4, 5, 6, 7] rfl (by decide) (q0 := 0) (ci := 5) rfl rfl) rfl rfl hl.1 rfl (lv_room (Nat.le_of_ble_eq_true rfl)) d_Mo_branch_76 ⟨Nat.le_of_ble_eq_true rfl, Nat.le_of_ble_eq_true rfl⟩) (fun H locs hP hD hS => ?_)
              have hP : va_P D classes (W_Mo cI cL b0 b1 b2 b3 b4 b5 b6 b7 ev wr wg ke ma li ps pn cy ca va cn pp px go ne gi gn) H := hP
              have hD : va_D A (W_Mo cI cL b0 b1 b2 b3 b4 b5 b6 b7 ev wr wg ke ma li ps pn cy ca va cn pp px go ne gi gn) := hD
              refine lv_iadd hx hb d_Mo_branch_79 ?_
              refine cj_v (wc := (W_Mo cI cL b0 b1 b2 b3 b4 b5 b6 b7 ev wr wg ke ma li ps pn cy ca va cn pp px go ne gi gn)) (w1 := (W_Mo cI cL b0 b1 b2 b3 b4 b5 b6 b7 ev wr wg ke ma li ps pn cy ((f_Mo_go ca va ne (pp + (f_Mo_numberK px))).1) ((f_Mo_go ca va ne (pp + (f_Mo_numberK px))).2.1) cn pp px go ((f_Mo_go ca va ne (pp + (f_Mo_numberK px))).2.2) gi gn)) hP hD hS hA [0, 1, 2, 3, 4, 5, 6, 7] rfl [b0, b1, b2, b3, b4, b5, b6, b7] rfl rfl (va_runV (rest := []) ⟨hx, hb, hml, hown, hg⟩ (c_Mo_go l D cI cL b0 b1 b2 b3 b4 b5 b6 b7 _ ev wr wg ke ma li ps pn cy ca va cn pp px go ne gi gn (pp + (f_Mo_numberK px))) ⟨callB_of 1 hg (gw_good m_653) rfl rfl rfl (hg _ m_71) (hg _ m_650) hd_Mo_go ⟨Nat.le_of_ble_eq_true rfl, Nat.le_of_ble_eq_true rfl⟩, hg _ m_652, hg _ m_49⟩ (pw_V hK hN hT hA hP hD hS [0, 1, 2, 3, 4, 5, 6, 7] rfl (by decide) (q0 := 0) (ci := 5) rfl rfl) rfl rfl hl.1 rfl (lv_room (Nat.le_of_ble_eq_true rfl)) d_Mo_branch_80 ⟨Nat.le_of_ble_eq_true rfl, Nat.le_of_ble_eq_true rfl⟩) (fun H locs hP hD hS => ?_)
              have hP : va_P D classes (W_Mo cI cL b0 b1 b2 b3 b4 b5 b6 b7 ev wr wg ke ma li ps pn cy ((f_Mo_go ca va ne (pp + (f_Mo_numberK px))).1) ((f_Mo_go ca va ne (pp + (f_Mo_numberK px))).2.1) cn pp px go ((f_Mo_go ca va ne (pp + (f_Mo_numberK px))).2.2) gi gn) H := hP
              have hD : va_D A (W_Mo cI cL b0 b1 b2 b3 b4 b5 b6 b7 ev wr wg ke ma li ps pn cy ((f_Mo_go ca va ne (pp + (f_Mo_numberK px))).1) ((f_Mo_go ca va ne (pp + (f_Mo_numberK px))).2.1) cn pp px go ((f_Mo_go ca va ne (pp + (f_Mo_numberK px))).2.2) gi gn) := hD
              generalize e_t7 : f_Mo_go ca va ne (pp + (f_Mo_numberK px)) = t7 at hP hD ⊢
              obtain ⟨t7_0, t7_1, t7_2⟩ := t7
              have hP : va_P D classes (W_Mo cI cL b0 b1 b2 b3 b4 b5 b6 b7 ev wr wg ke ma li ps pn cy t7_0 t7_1 cn pp px go t7_2 gi gn) H := hP
              have hD : va_D A (W_Mo cI cL b0 b1 b2 b3 b4 b5 b6 b7 ev wr wg ke ma li ps pn cy t7_0 t7_1 cn pp px go t7_2 gi gn) := hD
              rw [f_Mo_branch_e10 ca va pp px ne f a b (t7_0, t7_1, t7_2) e_t7 h2 h23 h38 h43 h59 h67]
              exact W.vret hx hb hr (fun t ht hW => ⟨⟨(), rfl, trivial, by show va_P D classes _ t.heap; rw [ht]; exact hP⟩, hS.F ht⟩) hS.2.2 d_Mo_branch_83 hlocks
        · refine lv_aload_n hx hb d_Mo_branch_46 rfl (lv_at hl 1 rfl) ?_
          refine cj_v (wc := (W_Mo cI cL b0 b1 b2 b3 b4 b5 b6 b7 ev wr wg ke ma li ps pn cy ca va cn pp px go ne gi gn)) (w1 := (W_Mo cI cL b0 b1 b2 b3 b4 b5 b6 b7 ev wr wg ke ma li ps pn cy ((f_Mo_illegal ca va px).1) ((f_Mo_illegal ca va px).2) cn pp px go ne gi gn)) hP hD hS hA [0, 1, 2, 3, 4, 5, 6, 7] rfl [b0, b1, b2, b3, b4, b5, b6, b7] rfl rfl (va_runV (rest := []) ⟨hx, hb, hml, hown, hg⟩ (c_Mo_illegal l D cI cL b0 b1 b2 b3 b4 b5 b6 b7 _ ev wr wg ke ma li ps pn cy ca va cn pp px go ne gi gn) ⟨callB_of 0 hg (gw_good m_661) rfl rfl rfl (hg _ m_71) (hg _ m_658) hd_Mo_illegal ⟨Nat.le_of_ble_eq_true rfl, Nat.le_of_ble_eq_true rfl⟩, hg _ m_660, hg _ m_51⟩ (pw_V hK hN hT hA hP hD hS [0, 1, 2, 3, 4, 5, 6, 7] rfl (by decide) (q0 := 0) (ci := 5) rfl rfl) rfl rfl hl.1 rfl (lv_room (Nat.le_of_ble_eq_true rfl)) d_Mo_branch_47 ⟨Nat.le_of_ble_eq_true rfl, Nat.le_of_ble_eq_true rfl⟩) (fun H locs hP hD hS => ?_)
          have hP : va_P D classes (W_Mo cI cL b0 b1 b2 b3 b4 b5 b6 b7 ev wr wg ke ma li ps pn cy ((f_Mo_illegal ca va px).1) ((f_Mo_illegal ca va px).2) cn pp px go ne gi gn) H := hP
          have hD : va_D A (W_Mo cI cL b0 b1 b2 b3 b4 b5 b6 b7 ev wr wg ke ma li ps pn cy ((f_Mo_illegal ca va px).1) ((f_Mo_illegal ca va px).2) cn pp px go ne gi gn) := hD
          generalize e_t8 : f_Mo_illegal ca va px = t8 at hP hD ⊢
          obtain ⟨t8_0, t8_1⟩ := t8
          have hP : va_P D classes (W_Mo cI cL b0 b1 b2 b3 b4 b5 b6 b7 ev wr wg ke ma li ps pn cy t8_0 t8_1 cn pp px go ne gi gn) H := hP
          have hD : va_D A (W_Mo cI cL b0 b1 b2 b3 b4 b5 b6 b7 ev wr wg ke ma li ps pn cy t8_0 t8_1 cn pp px go ne gi gn) := hD
          refine lv_goto (tgt := 83) hx hb d_Mo_branch_50 (by decide) ?_
          rw [f_Mo_branch_e11 ca va pp px ne f a b (t8_0, t8_1) e_t8 h2 h23 h38 h43]
          exact W.vret hx hb hr (fun t ht hW => ⟨⟨(), rfl, trivial, by show va_P D classes _ t.heap; rw [ht]; exact hP⟩, hS.F ht⟩) hS.2.2 d_Mo_branch_83 hlocks
  · refine lv_iload_n hx hb d_Mo_branch_5 rfl (lv_at hl 2 rfl) ?_
    refine lv_iload_n hx hb d_Mo_branch_6 rfl (lv_at hl 3 rfl) ?_
    refine lv_icmp_ne (tgt := 14) hx hb d_Mo_branch_7 (by decide) (fun h7 => ?_) (fun h7 => ?_)
    · refine lv_iconst (v := 0) hx hb d_Mo_branch_14 (by decide) ?_
      refine lv_goto (tgt := 34) hx hb d_Mo_branch_15 (by decide) ?_
      refine lv_istore (lv' := [(4, .int _), (0, .ref _), (1, .int _), (2, .int _), (3, .int _)]) hx hb d_Mo_branch_34 hl (by decide) rfl (fun ls hl => ?_)
      refine lv_iload_n hx hb d_Mo_branch_36 rfl (lv_at hl 2 rfl) ?_
      refine lv_iconst (v := 2) hx hb d_Mo_branch_37 (by decide) ?_
      refine lv_icmp_eq (tgt := 46) hx hb d_Mo_branch_38 (by decide) (fun h38 => ?_) (fun h38 => ?_)
      · refine lv_aload_n hx hb d_Mo_branch_46 rfl (lv_at hl 1 rfl) ?_
        refine cj_v (wc := (W_Mo cI cL b0 b1 b2 b3 b4 b5 b6 b7 ev wr wg ke ma li ps pn cy ca va cn pp px go ne gi gn)) (w1 := (W_Mo cI cL b0 b1 b2 b3 b4 b5 b6 b7 ev wr wg ke ma li ps pn cy ((f_Mo_illegal ca va px).1) ((f_Mo_illegal ca va px).2) cn pp px go ne gi gn)) hP hD hS hA [0, 1, 2, 3, 4, 5, 6, 7] rfl [b0, b1, b2, b3, b4, b5, b6, b7] rfl rfl (va_runV (rest := []) ⟨hx, hb, hml, hown, hg⟩ (c_Mo_illegal l D cI cL b0 b1 b2 b3 b4 b5 b6 b7 _ ev wr wg ke ma li ps pn cy ca va cn pp px go ne gi gn) ⟨callB_of 0 hg (gw_good m_661) rfl rfl rfl (hg _ m_71) (hg _ m_658) hd_Mo_illegal ⟨Nat.le_of_ble_eq_true rfl, Nat.le_of_ble_eq_true rfl⟩, hg _ m_660, hg _ m_51⟩ (pw_V hK hN hT hA hP hD hS [0, 1, 2, 3, 4, 5, 6, 7] rfl (by decide) (q0 := 0) (ci := 5) rfl rfl) rfl rfl hl.1 rfl (lv_room (Nat.le_of_ble_eq_true rfl)) d_Mo_branch_47 ⟨Nat.le_of_ble_eq_true rfl, Nat.le_of_ble_eq_true rfl⟩) (fun H locs hP hD hS => ?_)
        have hP : va_P D classes (W_Mo cI cL b0 b1 b2 b3 b4 b5 b6 b7 ev wr wg ke ma li ps pn cy ((f_Mo_illegal ca va px).1) ((f_Mo_illegal ca va px).2) cn pp px go ne gi gn) H := hP
        have hD : va_D A (W_Mo cI cL b0 b1 b2 b3 b4 b5 b6 b7 ev wr wg ke ma li ps pn cy ((f_Mo_illegal ca va px).1) ((f_Mo_illegal ca va px).2) cn pp px go ne gi gn) := hD
        generalize e_t9 : f_Mo_illegal ca va px = t9 at hP hD ⊢
        obtain ⟨t9_0, t9_1⟩ := t9
        have hP : va_P D classes (W_Mo cI cL b0 b1 b2 b3 b4 b5 b6 b7 ev wr wg ke ma li ps pn cy t9_0 t9_1 cn pp px go ne gi gn) H := hP
        have hD : va_D A (W_Mo cI cL b0 b1 b2 b3 b4 b5 b6 b7 ev wr wg ke ma li ps pn cy t9_0 t9_1 cn pp px go ne gi gn) := hD
        refine lv_goto (tgt := 83) hx hb d_Mo_branch_50 (by decide) ?_
        rw [f_Mo_branch_e12 ca va pp px ne f a b (t9_0, t9_1) e_t9 h2 h7 h38]
        exact W.vret hx hb hr (fun t ht hW => ⟨⟨(), rfl, trivial, by show va_P D classes _ t.heap; rw [ht]; exact hP⟩, hS.F ht⟩) hS.2.2 d_Mo_branch_83 hlocks
      · refine lv_iload_n hx hb d_Mo_branch_41 rfl (lv_at hl 2 rfl) ?_
        refine lv_iconst (v := 3) hx hb d_Mo_branch_42 (by decide) ?_
        refine lv_icmp_ne (tgt := 53) hx hb d_Mo_branch_43 (by decide) (fun h43 => ?_) (fun h43 => ?_)
        · refine lv_iload hx hb d_Mo_branch_53 (lv_at hl 0 rfl) ?_
          refine lv_iload_n hx hb d_Mo_branch_55 rfl (lv_at hl 2 rfl) ?_
          refine lv_iconst (v := 2) hx hb d_Mo_branch_56 (by decide) ?_
          refine lv_irem hx hb d_Mo_branch_57 (by decide) ?_
          refine lv_iconst (v := 1) hx hb d_Mo_branch_58 (by decide) ?_
          refine lv_icmp_ne (tgt := 66) hx hb d_Mo_branch_59 (by decide) (fun h59 => ?_) (fun h59 => ?_)
          · refine lv_iconst (v := 0) hx hb d_Mo_branch_66 (by decide) ?_
            refine lv_icmp_eq (tgt := 83) hx hb d_Mo_branch_67 (by decide) (fun _ => ?_) (fun h => absurd (by decide) h)
            rw [f_Mo_branch_e13 ca va pp px ne f a b h2 h7 h38 h43 h59]
            exact W.vret hx hb hr (fun t ht hW => ⟨⟨(), rfl, trivial, by show va_P D classes _ t.heap; rw [ht]; exact hP⟩, hS.F ht⟩) hS.2.2 d_Mo_branch_83 hlocks
          · refine lv_iconst (v := 1) hx hb d_Mo_branch_62 (by decide) ?_
            refine lv_goto (tgt := 67) hx hb d_Mo_branch_63 (by decide) ?_
            refine lv_icmp_eq (tgt := 83) hx hb d_Mo_branch_67 (by decide) (fun h => absurd h (by decide)) (fun _ => ?_)
            refine lv_aload_n hx hb d_Mo_branch_70 rfl (lv_at hl 1 rfl) ?_
            refine lv_aload_n hx hb d_Mo_branch_71 rfl (lv_at hl 1 rfl) ?_
            refine va_get (ci := 5) (C := R_Mo) (T := F_Mo) (N := 18) hx hb hg in_Mo hown hK hP 0 rfl rfl 12 (by decide) (hg _ m_515) (fun _ h => h) rfl d_Mo_branch_72 ?_
            refine lv_aload_n hx hb d_Mo_branch_75 rfl (lv_at hl 1 rfl) ?_
            refine cj_i (wc := (W_Mo cI cL b0 b1 b2 b3 b4 b5 b6 b7 ev wr wg ke ma li ps pn cy ca va cn pp px go ne gi gn)) (w1 := (W_Mo cI cL b0 b1 b2 b3 b4 b5 b6 b7 ev wr wg ke ma li ps pn cy ca va cn pp px go ne gi gn)) hP hD hS hA [0, 1, 2, 3, 4, 5, 6, 7] rfl [b0, b1, b2, b3, b4, b5, b6, b7] rfl rfl (va_runV (rest := [.int _, .ref _]) ⟨hx, hb, hml, hown, hg⟩ (c_Mo_numberK l D cI cL b0 b1 b2 b3 b4 b5 b6 b7 _ ev wr wg ke ma li ps pn cy ca va cn pp px go ne gi gn) ⟨callB_of 0 hg (gw_good m_672) rfl rfl rfl (hg _ m_71) (hg _ m_669) hd_Mo_numberK ⟨Nat.le_of_ble_eq_true rfl, Nat.le_of_ble_eq_true rfl⟩, hg _ m_671, hg _ m_53⟩ (pw_V hK hN hT hA hP hD hS [0, 1, 2, 3, 4, 5, 6, 7] rfl (by decide) (q0 := 0) (ci := 5) rfl rfl) rfl rfl hl.1 rfl (lv_room (Nat.le_of_ble_eq_true rfl)) d_Mo_branch_76 ⟨Nat.le_of_ble_eq_true rfl, Nat.le_of_ble_eq_true rfl⟩) (fun H locs hP hD hS => ?_)
            have hP : va_P D classes (W_Mo cI cL b0 b1 b2 b3 b4 b5 b6 b7 ev wr wg ke ma li ps pn cy ca va cn pp px go ne gi gn) H := hP
            have hD : va_D A (W_Mo cI cL b0 b1 b2 b3 b4 b5 b6 b7 ev wr wg ke ma li ps pn cy ca va cn pp px go ne gi gn) := hD
            refine lv_iadd hx hb d_Mo_branch_79 ?_
            refine cj_v (wc := (W_Mo cI cL b0 b1 b2 b3 b4 b5 b6 b7 ev wr wg ke ma li ps pn cy ca va cn pp px go ne gi gn)) (w1 := (W_Mo cI cL b0 b1 b2 b3 b4 b5 b6 b7 ev wr wg ke ma li ps pn cy ((f_Mo_go ca va ne (pp + (f_Mo_numberK px))).1) ((f_Mo_go ca va ne (pp + (f_Mo_numberK px))).2.1) cn pp px go ((f_Mo_go ca va ne (pp + (f_Mo_numberK px))).2.2) gi gn)) hP hD hS hA [0, 1, 2, 3, 4, 5, 6, 7] rfl [b0, b1, b2, b3, b4, b5, b6, b7] rfl rfl (va_runV (rest := []) ⟨hx, hb, hml, hown, hg⟩ (c_Mo_go l D cI cL b0 b1 b2 b3 b4 b5 b6 b7 _ ev wr wg ke ma li ps pn cy ca va cn pp px go ne gi gn (pp + (f_Mo_numberK px))) ⟨callB_of 1 hg (gw_good m_653) rfl rfl rfl (hg _ m_71) (hg _ m_650) hd_Mo_go ⟨Nat.le_of_ble_eq_true rfl, Nat.le_of_ble_eq_true rfl⟩, hg _ m_652, hg _ m_49⟩ (pw_V hK hN hT hA hP hD hS [0, 1, 2, 3, 4, 5, 6, 7] rfl (by decide) (q0 := 0) (ci := 5) rfl rfl) rfl rfl hl.1 rfl (lv_room (Nat.le_of_ble_eq_true rfl)) d_Mo_branch_80 ⟨Nat.le_of_ble_eq_true rfl, Nat.le_of_ble_eq_true rfl⟩) (fun H locs hP hD hS => ?_)
            have hP : va_P D classes (W_Mo cI cL b0 b1 b2 b3 b4 b5 b6 b7 ev wr wg ke ma li ps pn cy ((f_Mo_go ca va ne (pp + (f_Mo_numberK px))).1) ((f_Mo_go ca va ne (pp + (f_Mo_numberK px))).2.1) cn pp px go ((f_Mo_go ca va ne (pp + (f_Mo_numberK px))).2.2) gi gn) H := hP
            have hD : va_D A (W_Mo cI cL b0 b1 b2 b3 b4 b5 b6 b7 ev wr wg ke ma li ps pn cy ((f_Mo_go ca va ne (pp + (f_Mo_numberK px))).1) ((f_Mo_go ca va ne (pp + (f_Mo_numberK px))).2.1) cn pp px go ((f_Mo_go ca va ne (pp + (f_Mo_numberK px))).2.2) gi gn) := hD
            generalize e_t10 : f_Mo_go ca va ne (pp + (f_Mo_numberK px)) = t10 at hP hD ⊢
            obtain ⟨t10_0, t10_1, t10_2⟩ := t10
            have hP : va_P D classes (W_Mo cI cL b0 b1 b2 b3 b4 b5 b6 b7 ev wr wg ke ma li ps pn cy t10_0 t10_1 cn pp px go t10_2 gi gn) H := hP
            have hD : va_D A (W_Mo cI cL b0 b1 b2 b3 b4 b5 b6 b7 ev wr wg ke ma li ps pn cy t10_0 t10_1 cn pp px go t10_2 gi gn) := hD
            rw [f_Mo_branch_e14 ca va pp px ne f a b (t10_0, t10_1, t10_2) e_t10 h2 h7 h38 h43 h59]
            exact W.vret hx hb hr (fun t ht hW => ⟨⟨(), rfl, trivial, by show va_P D classes _ t.heap; rw [ht]; exact hP⟩, hS.F ht⟩) hS.2.2 d_Mo_branch_83 hlocks
        · refine lv_aload_n hx hb d_Mo_branch_46 rfl (lv_at hl 1 rfl) ?_
          refine cj_v (wc := (W_Mo cI cL b0 b1 b2 b3 b4 b5 b6 b7 ev wr wg ke ma li ps pn cy ca va cn pp px go ne gi gn)) (w1 := (W_Mo cI cL b0 b1 b2 b3 b4 b5 b6 b7 ev wr wg ke ma li ps pn cy ((f_Mo_illegal ca va px).1) ((f_Mo_illegal ca va px).2) cn pp px go ne gi gn)) hP hD hS hA [0, 1, 2, 3, 4, 5, 6, 7] rfl [b0, b1, b2, b3, b4, b5, b6, b7] rfl rfl (va_runV (rest := []) ⟨hx, hb, hml, hown, hg⟩ (c_Mo_illegal l D cI cL b0 b1 b2 b3 b4 b5 b6 b7 _ ev wr wg ke ma li ps pn cy ca va cn pp px go ne gi gn) ⟨callB_of 0 hg (gw_good m_661) rfl rfl rfl (hg _ m_71) (hg _ m_658) hd_Mo_illegal ⟨Nat.le_of_ble_eq_true rfl, Nat.le_of_ble_eq_true rfl⟩, hg _ m_660, hg _ m_51⟩ (pw_V hK hN hT hA hP hD hS [0, 1, 2, 3, 4, 5, 6, 7] rfl (by decide) (q0 := 0) (ci := 5) rfl rfl) rfl rfl hl.1 rfl (lv_room (Nat.le_of_ble_eq_true rfl)) d_Mo_branch_47 ⟨Nat.le_of_ble_eq_true rfl, Nat.le_of_ble_eq_true rfl⟩) (fun H locs hP hD hS => ?_)
          have hP : va_P D classes (W_Mo cI cL b0 b1 b2 b3 b4 b5 b6 b7 ev wr wg ke ma li ps pn cy ((f_Mo_illegal ca va px).1) ((f_Mo_illegal ca va px).2) cn pp px go ne gi gn) H := hP
          have hD : va_D A (W_Mo cI cL b0 b1 b2 b3 b4 b5 b6 b7 ev wr wg ke ma li ps pn cy ((f_Mo_illegal ca va px).1) ((f_Mo_illegal ca va px).2) cn pp px go ne gi gn) := hD
          generalize e_t11 : f_Mo_illegal ca va px = t11 at hP hD ⊢
          obtain ⟨t11_0, t11_1⟩ := t11
          have hP : va_P D classes (W_Mo cI cL b0 b1 b2 b3 b4 b5 b6 b7 ev wr wg ke ma li ps pn cy t11_0 t11_1 cn pp px go ne gi gn) H := hP
          have hD : va_D A (W_Mo cI cL b0 b1 b2 b3 b4 b5 b6 b7 ev wr wg ke ma li ps pn cy t11_0 t11_1 cn pp px go ne gi gn) := hD
          refine lv_goto (tgt := 83) hx hb d_Mo_branch_50 (by decide) ?_
          rw [f_Mo_branch_e15 ca va pp px ne f a b (t11_0, t11_1) e_t11 h2 h7 h38 h43]
          exact W.vret hx hb hr (fun t ht hW => ⟨⟨(), rfl, trivial, by show va_P D classes _ t.heap; rw [ht]; exact hP⟩, hS.F ht⟩) hS.2.2 d_Mo_branch_83 hlocks
    · refine lv_iconst (v := 1) hx hb d_Mo_branch_10 (by decide) ?_
      refine lv_goto (tgt := 34) hx hb d_Mo_branch_11 (by decide) ?_
      refine lv_istore (lv' := [(4, .int _), (0, .ref _), (1, .int _), (2, .int _), (3, .int _)]) hx hb d_Mo_branch_34 hl (by decide) rfl (fun ls hl => ?_)
      refine lv_iload_n hx hb d_Mo_branch_36 rfl (lv_at hl 2 rfl) ?_
      refine lv_iconst (v := 2) hx hb d_Mo_branch_37 (by decide) ?_
      refine lv_icmp_eq (tgt := 46) hx hb d_Mo_branch_38 (by decide) (fun h38 => ?_) (fun h38 => ?_)
      · refine lv_aload_n hx hb d_Mo_branch_46 rfl (lv_at hl 1 rfl) ?_
        refine cj_v (wc := (W_Mo cI cL b0 b1 b2 b3 b4 b5 b6 b7 ev wr wg ke ma li ps pn cy ca va cn pp px go ne gi gn)) (w1 := (W_Mo cI cL b0 b1 b2 b3 b4 b5 b6 b7 ev wr wg ke ma li ps pn cy ((f_Mo_illegal ca va px).1) ((f_Mo_illegal ca va px).2) cn pp px go ne gi gn)) hP hD hS hA [0, 1, 2, 3, 4, 5, 6, 7] rfl [b0, b1, b2, b3, b4, b5, b6, b7] rfl rfl (va_runV (rest := []) ⟨hx, hb, hml, hown, hg⟩ (c_Mo_illegal l D cI cL b0 b1 b2 b3 b4 b5 b6 b7 _ ev wr wg ke ma li ps pn cy ca va cn pp px go ne gi gn) ⟨callB_of 0 hg (gw_good m_661) rfl rfl rfl (hg _ m_71) (hg _ m_658) hd_Mo_illegal ⟨Nat.le_of_ble_eq_true rfl, Nat.le_of_ble_eq_true rfl⟩, hg _ m_660, hg _ m_51⟩ (pw_V hK hN hT hA hP hD hS [0, 1, 2, 3, 4, 5, 6, 7] rfl (by decide) (q0 := 0) (ci := 5) rfl rfl) rfl rfl hl.1 rfl (lv_room (Nat.le_of_ble_eq_true rfl)) d_Mo_branch_47 ⟨Nat.le_of_ble_eq_true rfl, Nat.le_of_ble_eq_true rfl⟩) (fun H locs hP hD hS => ?_)
        have hP : va_P D classes (W_Mo cI cL b0 b1 b2 b3 b4 b5 b6 b7 ev wr wg ke ma li ps pn cy ((f_Mo_illegal ca va px).1) ((f_Mo_illegal ca va px).2) cn pp px go ne gi gn) H := hP
        have hD : va_D A (W_Mo cI cL b0 b1 b2 b3 b4 b5 b6 b7 ev wr wg ke ma li ps pn cy ((f_Mo_illegal ca va px).1) ((f_Mo_illegal ca va px).2) cn pp px go ne gi gn) := hD
        generalize e_t12 : f_Mo_illegal ca va px = t12 at hP hD ⊢
        obtain ⟨t12_0, t12_1⟩ := t12
        have hP : va_P D classes (W_Mo cI cL b0 b1 b2 b3 b4 b5 b6 b7 ev wr wg ke ma li ps pn cy t12_0 t12_1 cn pp px go ne gi gn) H := hP
        have hD : va_D A (W_Mo cI cL b0 b1 b2 b3 b4 b5 b6 b7 ev wr wg ke ma li ps pn cy t12_0 t12_1 cn pp px go ne gi gn) := hD
        refine lv_goto (tgt := 83) hx hb d_Mo_branch_50 (by decide) ?_
        rw [f_Mo_branch_e16 ca va pp px ne f a b (t12_0, t12_1) e_t12 h2 h7 h38]
        exact W.vret hx hb hr (fun t ht hW => ⟨⟨(), rfl, trivial, by show va_P D classes _ t.heap; rw [ht]; exact hP⟩, hS.F ht⟩) hS.2.2 d_Mo_branch_83 hlocks
      · refine lv_iload_n hx hb d_Mo_branch_41 rfl (lv_at hl 2 rfl) ?_
        refine lv_iconst (v := 3) hx hb d_Mo_branch_42 (by decide) ?_
        refine lv_icmp_ne (tgt := 53) hx hb d_Mo_branch_43 (by decide) (fun h43 => ?_) (fun h43 => ?_)
        · refine lv_iload hx hb d_Mo_branch_53 (lv_at hl 0 rfl) ?_
          refine lv_iload_n hx hb d_Mo_branch_55 rfl (lv_at hl 2 rfl) ?_
          refine lv_iconst (v := 2) hx hb d_Mo_branch_56 (by decide) ?_
          refine lv_irem hx hb d_Mo_branch_57 (by decide) ?_
          refine lv_iconst (v := 1) hx hb d_Mo_branch_58 (by decide) ?_
          refine lv_icmp_ne (tgt := 66) hx hb d_Mo_branch_59 (by decide) (fun h59 => ?_) (fun h59 => ?_)
          · refine lv_iconst (v := 0) hx hb d_Mo_branch_66 (by decide) ?_
            refine lv_icmp_eq (tgt := 83) hx hb d_Mo_branch_67 (by decide) (fun h => absurd h (by decide)) (fun _ => ?_)
            refine lv_aload_n hx hb d_Mo_branch_70 rfl (lv_at hl 1 rfl) ?_
            refine lv_aload_n hx hb d_Mo_branch_71 rfl (lv_at hl 1 rfl) ?_
            refine va_get (ci := 5) (C := R_Mo) (T := F_Mo) (N := 18) hx hb hg in_Mo hown hK hP 0 rfl rfl 12 (by decide) (hg _ m_515) (fun _ h => h) rfl d_Mo_branch_72 ?_
            refine lv_aload_n hx hb d_Mo_branch_75 rfl (lv_at hl 1 rfl) ?_
            refine cj_i (wc := (W_Mo cI cL b0 b1 b2 b3 b4 b5 b6 b7 ev wr wg ke ma li ps pn cy ca va cn pp px go ne gi gn)) (w1 := (W_Mo cI cL b0 b1 b2 b3 b4 b5 b6 b7 ev wr wg ke ma li ps pn cy ca va cn pp px go ne gi gn)) hP hD hS hA [0, 1, 2, 3, 4, 5, 6, 7] rfl [b0, b1, b2, b3, b4, b5, b6, b7] rfl rfl (va_runV (rest := [.int _, .ref _]) ⟨hx, hb, hml, hown, hg⟩ (c_Mo_numberK l D cI cL b0 b1 b2 b3 b4 b5 b6 b7 _ ev wr wg ke ma li ps pn cy ca va cn pp px go ne gi gn) ⟨callB_of 0 hg (gw_good m_672) rfl rfl rfl (hg _ m_71) (hg _ m_669) hd_Mo_numberK ⟨Nat.le_of_ble_eq_true rfl, Nat.le_of_ble_eq_true rfl⟩, hg _ m_671, hg _ m_53⟩ (pw_V hK hN hT hA hP hD hS [0, 1, 2, 3, 4, 5, 6, 7] rfl (by decide) (q0 := 0) (ci := 5) rfl rfl) rfl rfl hl.1 rfl (lv_room (Nat.le_of_ble_eq_true rfl)) d_Mo_branch_76 ⟨Nat.le_of_ble_eq_true rfl, Nat.le_of_ble_eq_true rfl⟩) (fun H locs hP hD hS => ?_)
            have hP : va_P D classes (W_Mo cI cL b0 b1 b2 b3 b4 b5 b6 b7 ev wr wg ke ma li ps pn cy ca va cn pp px go ne gi gn) H := hP
            have hD : va_D A (W_Mo cI cL b0 b1 b2 b3 b4 b5 b6 b7 ev wr wg ke ma li ps pn cy ca va cn pp px go ne gi gn) := hD
            refine lv_iadd hx hb d_Mo_branch_79 ?_
            refine cj_v (wc := (W_Mo cI cL b0 b1 b2 b3 b4 b5 b6 b7 ev wr wg ke ma li ps pn cy ca va cn pp px go ne gi gn)) (w1 := (W_Mo cI cL b0 b1 b2 b3 b4 b5 b6 b7 ev wr wg ke ma li ps pn cy ((f_Mo_go ca va ne (pp + (f_Mo_numberK px))).1) ((f_Mo_go ca va ne (pp + (f_Mo_numberK px))).2.1) cn pp px go ((f_Mo_go ca va ne (pp + (f_Mo_numberK px))).2.2) gi gn)) hP hD hS hA [0, 1, 2, 3, 4, 5, 6, 7] rfl [b0, b1, b2, b3, b4, b5, b6, b7] rfl rfl (va_runV (rest := []) ⟨hx, hb, hml, hown, hg⟩ (c_Mo_go l D cI cL b0 b1 b2 b3 b4 b5 b6 b7 _ ev wr wg ke ma li ps pn cy ca va cn pp px go ne gi gn (pp + (f_Mo_numberK px))) ⟨callB_of 1 hg (gw_good m_653) rfl rfl rfl (hg _ m_71) (hg _ m_650) hd_Mo_go ⟨Nat.le_of_ble_eq_true rfl, Nat.le_of_ble_eq_true rfl⟩, hg _ m_652, hg _ m_49⟩ (pw_V hK hN hT hA hP hD hS [0, 1, 2, 3, 4, 5, 6, 7] rfl (by decide) (q0 := 0) (ci := 5) rfl rfl) rfl rfl hl.1 rfl (lv_room (Nat.le_of_ble_eq_true rfl)) d_Mo_branch_80 ⟨Nat.le_of_ble_eq_true rfl, Nat.le_of_ble_eq_true rfl⟩) (fun H locs hP hD hS => ?_)
            have hP : va_P D classes (W_Mo cI cL b0 b1 b2 b3 b4 b5 b6 b7 ev wr wg ke ma li ps pn cy ((f_Mo_go ca va ne (pp + (f_Mo_numberK px))).1) ((f_Mo_go ca va ne (pp + (f_Mo_numberK px))).2.1) cn pp px go ((f_Mo_go ca va ne (pp + (f_Mo_numberK px))).2.2) gi gn) H := hP
            have hD : va_D A (W_Mo cI cL b0 b1 b2 b3 b4 b5 b6 b7 ev wr wg ke ma li ps pn cy ((f_Mo_go ca va ne (pp + (f_Mo_numberK px))).1) ((f_Mo_go ca va ne (pp + (f_Mo_numberK px))).2.1) cn pp px go ((f_Mo_go ca va ne (pp + (f_Mo_numberK px))).2.2) gi gn) := hD
            generalize e_t13 : f_Mo_go ca va ne (pp + (f_Mo_numberK px)) = t13 at hP hD ⊢
            obtain ⟨t13_0, t13_1, t13_2⟩ := t13
            have hP : va_P D classes (W_Mo cI cL b0 b1 b2 b3 b4 b5 b6 b7 ev wr wg ke ma li ps pn cy t13_0 t13_1 cn pp px go t13_2 gi gn) H := hP
            have hD : va_D A (W_Mo cI cL b0 b1 b2 b3 b4 b5 b6 b7 ev wr wg ke ma li ps pn cy t13_0 t13_1 cn pp px go t13_2 gi gn) := hD
            rw [f_Mo_branch_e17 ca va pp px ne f a b (t13_0, t13_1, t13_2) e_t13 h2 h7 h38 h43 h59]
            exact W.vret hx hb hr (fun t ht hW => ⟨⟨(), rfl, trivial, by show va_P D classes _ t.heap; rw [ht]; exact hP⟩, hS.F ht⟩) hS.2.2 d_Mo_branch_83 hlocks
          · refine lv_iconst (v := 1) hx hb d_Mo_branch_62 (by decide) ?_
            refine lv_goto (tgt := 67) hx hb d_Mo_branch_63 (by decide) ?_
            refine lv_icmp_eq (tgt := 83) hx hb d_Mo_branch_67 (by decide) (fun _ => ?_) (fun h => absurd (by decide) h)
            rw [f_Mo_branch_e18 ca va pp px ne f a b h2 h7 h38 h43 h59]
            exact W.vret hx hb hr (fun t ht hW => ⟨⟨(), rfl, trivial, by show va_P D classes _ t.heap; rw [ht]; exact hP⟩, hS.F ht⟩) hS.2.2 d_Mo_branch_83 hlocks
        · refine lv_aload_n hx hb d_Mo_branch_46 rfl (lv_at hl 1 rfl) ?_
          refine cj_v (wc := (W_Mo cI cL b0 b1 b2 b3 b4 b5 b6 b7 ev wr wg ke ma li ps pn cy ca va cn pp px go ne gi gn)) (w1 := (W_Mo cI cL b0 b1 b2 b3 b4 b5 b6 b7 ev wr wg ke ma li ps pn cy ((f_Mo_illegal ca va px).1) ((f_Mo_illegal ca va px).2) cn pp px go ne gi gn)) hP hD hS hA [0, 1, 2, 3, 4, 5, 6, 7] rfl [b0, b1, b2, b3, b4, b5, b6, b7] rfl rfl (va_runV (rest := []) ⟨hx, hb, hml, hown, hg⟩ (c_Mo_illegal l D cI cL b0 b1 b2 b3 b4 b5 b6 b7 _ ev wr wg ke ma li ps pn cy ca va cn pp px go ne gi gn) ⟨callB_of 0 hg (gw_good m_661) rfl rfl rfl (hg _ m_71) (hg _ m_658) hd_Mo_illegal ⟨Nat.le_of_ble_eq_true rfl, Nat.le_of_ble_eq_true rfl⟩, hg _ m_660, hg _ m_51⟩ (pw_V hK hN hT hA hP hD hS [0, 1, 2, 3, 4, 5, 6, 7] rfl (by decide) (q0 := 0) (ci := 5) rfl rfl) rfl rfl hl.1 rfl (lv_room (Nat.le_of_ble_eq_true rfl)) d_Mo_branch_47 ⟨Nat.le_of_ble_eq_true rfl, Nat.le_of_ble_eq_true rfl⟩) (fun H locs hP hD hS => ?_)
          have hP : va_P D classes (W_Mo cI cL b0 b1 b2 b3 b4 b5 b6 b7 ev wr wg ke ma li ps pn cy ((f_Mo_illegal ca va px).1) ((f_Mo_illegal ca va px).2) cn pp px go ne gi gn) H := hP
          have hD : va_D A (W_Mo cI cL b0 b1 b2 b3 b4 b5 b6 b7 ev wr wg ke ma li ps pn cy ((f_Mo_illegal ca va px).1) ((f_Mo_illegal ca va px).2) cn pp px go ne gi gn) := hD
          generalize e_t14 : f_Mo_illegal ca va px = t14 at hP hD ⊢
          obtain ⟨t14_0, t14_1⟩ := t14
          have hP : va_P D classes (W_Mo cI cL b0 b1 b2 b3 b4 b5 b6 b7 ev wr wg ke ma li ps pn cy t14_0 t14_1 cn pp px go ne gi gn) H := hP
          have hD : va_D A (W_Mo cI cL b0 b1 b2 b3 b4 b5 b6 b7 ev wr wg ke ma li ps pn cy t14_0 t14_1 cn pp px go ne gi gn) := hD
          refine lv_goto (tgt := 83) hx hb d_Mo_branch_50 (by decide) ?_
          rw [f_Mo_branch_e19 ca va pp px ne f a b (t14_0, t14_1) e_t14 h2 h7 h38 h43]
          exact W.vret hx hb hr (fun t ht hW => ⟨⟨(), rfl, trivial, by show va_P D classes _ t.heap; rw [ht]; exact hP⟩, hS.F ht⟩) hS.2.2 d_Mo_branch_83 hlocks
abbrev q_Mo_reaches (D : va_G) (cI cL : ClassId) (b0 b1 b2 b3 b4 b5 b6 b7 : Nat) (A : Nat → Prop) (ev : Int32) (wr : Nat → Int32) (wg : Nat → Int64) (ke : Nat → Int32) (ma : Nat → Int32) (li : Nat → Int64) (ps : Int32) (pn : Nat → Int32) (cy : Int32) (ca : Int32) (va : Int32) (cn : Nat → Int32) (pp : Int32) (px : Int32) (go : Int32) (ne : Int32) (gi : Int32) (gn : Int32) (F : Int32 × Int32 × Int32) : Array Value → State → Outcome → State → Prop := va_Qi (fun r (_ : Unit) => r = F.1) (fun _ t => va_P D classes (W_Mo cI cL b0 b1 b2 b3 b4 b5 b6 b7 ev wr wg ke ma li ps pn cy F.2.1 F.2.2 cn pp px go ne gi gn) t.heap) A
theorem f_Mo_reaches_e0 (ca : Int32) (va : Int32) (a : Int32) (z : Int32) (t1 : Int32 × Int32) (e_t1 : f_Mo_stop ca va (1 : Int32) a = t1) (h3 : ¬ (u_rem a z) = 0) : f_Mo_reaches ca va a z = ((0 : Int32), t1.1, t1.2) := by
  subst e_t1
  exact (if_neg h3)
theorem f_Mo_reaches_e1 (ca : Int32) (va : Int32) (a : Int32) (z : Int32)  (h3 : (u_rem a z) = 0) (h13 : (f_Mo_outside a (255 : Int32)) = 0) : f_Mo_reaches ca va a z = ((1 : Int32), ca, va) := by
  exact ((if_pos h3).trans (if_pos h13))
theorem f_Mo_reaches_e2 (ca : Int32) (va : Int32) (a : Int32) (z : Int32) (t2 : Int32 × Int32) (e_t2 : f_Mo_stop ca va (1 : Int32) a = t2) (h3 : (u_rem a z) = 0) (h13 : ¬ (f_Mo_outside a (255 : Int32)) = 0) : f_Mo_reaches ca va a z = ((0 : Int32), t2.1, t2.2) := by
  subst e_t2
  exact ((if_pos h3).trans (if_neg h13))
set_option maxHeartbeats 4000000 in
set_option maxRecDepth 100000 in
theorem c_Mo_reaches (l : Launch) (D : va_G) (cI cL : ClassId) (b0 b1 b2 b3 b4 b5 b6 b7 : Nat) (sz : Nat) (ev : Int32) (wr : Nat → Int32) (wg : Nat → Int64) (ke : Nat → Int32) (ma : Nat → Int32) (li : Nat → Int64) (ps : Int32) (pn : Nat → Int32) (cy : Int32) (ca : Int32) (va : Int32) (cn : Nat → Int32) (pp : Int32) (px : Int32) (go : Int32) (ne : Int32) (gi : Int32) (gn : Int32) (a : Int32) (z : Int32) (h_z : ¬ z = 0) : Met l y_Mo_reaches w_Mo_reaches ({ frames := 1, cells := 0, slots := 0, locals := 22 }) (va_Pc [.ref b0, .int a, .int z] (PW D cI cL (W_Mo cI cL b0 b1 b2 b3 b4 b5 b6 b7 ev wr wg ke ma li ps pn cy ca va cn pp px go ne gi gn) sz)) (q_Mo_reaches D cI cL b0 b1 b2 b3 b4 b5 b6 b7 (va_A (W_Mo cI cL b0 b1 b2 b3 b4 b5 b6 b7 ev wr wg ke ma li ps pn cy ca va cn pp px go ne gi gn) sz) ev wr wg ke ma li ps pn cy ca va cn pp px go ne gi gn (f_Mo_reaches ca va a z)) 0 0 (va_A (W_Mo cI cL b0 b1 b2 b3 b4 b5 b6 b7 ev wr wg ke ma li ps pn cy ca va cn pp px go ne gi gn) sz) := by
  refine mk_met (Qf := fun A => q_Mo_reaches D cI cL b0 b1 b2 b3 b4 b5 b6 b7 A ev wr wg ke ma li ps pn cy ca va cn pp px go ne gi gn (f_Mo_reaches ca va a z)) (by decide) (Nat.le_of_ble_eq_true rfl) ?_
  intro p e s m below meth c A ls hx hb hr hlocks hml hown hg hK hN hT hA hP hD hS hnm hl
  refine lv_iload_n hx hb d_Mo_reaches_0 rfl (lv_at hl 1 rfl) ?_
  refine lv_iload_n hx hb d_Mo_reaches_1 rfl (lv_at hl 2 rfl) ?_
  refine lv_irem hx hb d_Mo_reaches_2 h_z ?_
  refine lv_if_ne (tgt := 16) hx hb d_Mo_reaches_3 (by decide) (fun h3 => ?_) (fun h3 => ?_)
  · refine lv_aload_n hx hb d_Mo_reaches_16 rfl (lv_at hl 0 rfl) ?_
    refine lv_iconst (v := 1) hx hb d_Mo_reaches_17 (by decide) ?_
    refine lv_iload_n hx hb d_Mo_reaches_18 rfl (lv_at hl 1 rfl) ?_
    refine cj_v (wc := (W_Mo cI cL b0 b1 b2 b3 b4 b5 b6 b7 ev wr wg ke ma li ps pn cy ca va cn pp px go ne gi gn)) (w1 := (W_Mo cI cL b0 b1 b2 b3 b4 b5 b6 b7 ev wr wg ke ma li ps pn cy ((f_Mo_stop ca va (1 : Int32) a).1) ((f_Mo_stop ca va (1 : Int32) a).2) cn pp px go ne gi gn)) hP hD hS hA [0, 1, 2, 3, 4, 5, 6, 7] rfl [b0, b1, b2, b3, b4, b5, b6, b7] rfl rfl (va_runV (rest := []) ⟨hx, hb, hml, hown, hg⟩ (c_Mo_stop l D cI cL b0 b1 b2 b3 b4 b5 b6 b7 _ ev wr wg ke ma li ps pn cy ca va cn pp px go ne gi gn (1 : Int32) a) ⟨callB_of 2 hg (gw_good m_595) rfl rfl rfl (hg _ m_71) (hg _ m_592) hd_Mo_stop ⟨Nat.le_of_ble_eq_true rfl, Nat.le_of_ble_eq_true rfl⟩, hg _ m_594, hg _ m_40⟩ (pw_V hK hN hT hA hP hD hS [0, 1, 2, 3, 4, 5, 6, 7] rfl (by decide) (q0 := 0) (ci := 5) rfl rfl) rfl rfl hl.1 rfl (lv_room (Nat.le_of_ble_eq_true rfl)) d_Mo_reaches_19 ⟨Nat.le_of_ble_eq_true rfl, Nat.le_of_ble_eq_true rfl⟩) (fun H locs hP hD hS => ?_)
    have hP : va_P D classes (W_Mo cI cL b0 b1 b2 b3 b4 b5 b6 b7 ev wr wg ke ma li ps pn cy ((f_Mo_stop ca va (1 : Int32) a).1) ((f_Mo_stop ca va (1 : Int32) a).2) cn pp px go ne gi gn) H := hP
    have hD : va_D A (W_Mo cI cL b0 b1 b2 b3 b4 b5 b6 b7 ev wr wg ke ma li ps pn cy ((f_Mo_stop ca va (1 : Int32) a).1) ((f_Mo_stop ca va (1 : Int32) a).2) cn pp px go ne gi gn) := hD
    generalize e_t1 : f_Mo_stop ca va (1 : Int32) a = t1 at hP hD ⊢
    obtain ⟨t1_0, t1_1⟩ := t1
    have hP : va_P D classes (W_Mo cI cL b0 b1 b2 b3 b4 b5 b6 b7 ev wr wg ke ma li ps pn cy t1_0 t1_1 cn pp px go ne gi gn) H := hP
    have hD : va_D A (W_Mo cI cL b0 b1 b2 b3 b4 b5 b6 b7 ev wr wg ke ma li ps pn cy t1_0 t1_1 cn pp px go ne gi gn) := hD
    refine lv_iconst (v := 0) hx hb d_Mo_reaches_22 (by decide) ?_
    rw [f_Mo_reaches_e0 ca va a z (t1_0, t1_1) e_t1 h3]
    exact W.zret hx hb hr rfl (fun t ht hW => ⟨⟨_, (), rfl, rfl, by show va_P D classes _ t.heap; rw [ht]; exact hP⟩, hS.F ht⟩) hS.2.2 d_Mo_reaches_23 hlocks
  · refine lv_iload_n hx hb d_Mo_reaches_6 rfl (lv_at hl 1 rfl) ?_
    refine lv_sipush (v := 255) hx hb d_Mo_reaches_7 (by decide) ?_
    refine cj_i (wc := []) (w1 := []) hP hD hS hA [] rfl [] rfl rfl (va_runS (rest := []) ⟨hx, hb, hml, hown, hg⟩ (c_Mo_outside l D cI cL  _ a (255 : Int32)) ⟨callB_of 2 hg (gw_good m_564) rfl rfl rfl (hg _ m_71) (hg _ m_562) hd_Mo_outside ⟨Nat.le_of_ble_eq_true rfl, Nat.le_of_ble_eq_true rfl⟩, hg _ m_563⟩ (pw_S hK hN hT hA hP hD hS [] rfl (by decide)) rfl rfl hl.1 rfl (lv_room (Nat.le_of_ble_eq_true rfl)) d_Mo_reaches_10 ⟨Nat.le_of_ble_eq_true rfl, Nat.le_of_ble_eq_true rfl⟩) (fun H locs hP hD hS => ?_)
    have hP : va_P D classes (W_Mo cI cL b0 b1 b2 b3 b4 b5 b6 b7 ev wr wg ke ma li ps pn cy ca va cn pp px go ne gi gn) H := hP
    have hD : va_D A (W_Mo cI cL b0 b1 b2 b3 b4 b5 b6 b7 ev wr wg ke ma li ps pn cy ca va cn pp px go ne gi gn) := hD
    refine lv_if_eq (tgt := 24) hx hb d_Mo_reaches_13 (by decide) (fun h13 => ?_) (fun h13 => ?_)
    · refine lv_iconst (v := 1) hx hb d_Mo_reaches_24 (by decide) ?_
      rw [f_Mo_reaches_e1 ca va a z h3 h13]
      exact W.zret hx hb hr rfl (fun t ht hW => ⟨⟨_, (), rfl, rfl, by show va_P D classes _ t.heap; rw [ht]; exact hP⟩, hS.F ht⟩) hS.2.2 d_Mo_reaches_25 hlocks
    · refine lv_aload_n hx hb d_Mo_reaches_16 rfl (lv_at hl 0 rfl) ?_
      refine lv_iconst (v := 1) hx hb d_Mo_reaches_17 (by decide) ?_
      refine lv_iload_n hx hb d_Mo_reaches_18 rfl (lv_at hl 1 rfl) ?_
      refine cj_v (wc := (W_Mo cI cL b0 b1 b2 b3 b4 b5 b6 b7 ev wr wg ke ma li ps pn cy ca va cn pp px go ne gi gn)) (w1 := (W_Mo cI cL b0 b1 b2 b3 b4 b5 b6 b7 ev wr wg ke ma li ps pn cy ((f_Mo_stop ca va (1 : Int32) a).1) ((f_Mo_stop ca va (1 : Int32) a).2) cn pp px go ne gi gn)) hP hD hS hA [0, 1, 2, 3, 4, 5, 6, 7] rfl [b0, b1, b2, b3, b4, b5, b6, b7] rfl rfl (va_runV (rest := []) ⟨hx, hb, hml, hown, hg⟩ (c_Mo_stop l D cI cL b0 b1 b2 b3 b4 b5 b6 b7 _ ev wr wg ke ma li ps pn cy ca va cn pp px go ne gi gn (1 : Int32) a) ⟨callB_of 2 hg (gw_good m_595) rfl rfl rfl (hg _ m_71) (hg _ m_592) hd_Mo_stop ⟨Nat.le_of_ble_eq_true rfl, Nat.le_of_ble_eq_true rfl⟩, hg _ m_594, hg _ m_40⟩ (pw_V hK hN hT hA hP hD hS [0, 1, 2, 3, 4, 5, 6, 7] rfl (by decide) (q0 := 0) (ci := 5) rfl rfl) rfl rfl hl.1 rfl (lv_room (Nat.le_of_ble_eq_true rfl)) d_Mo_reaches_19 ⟨Nat.le_of_ble_eq_true rfl, Nat.le_of_ble_eq_true rfl⟩) (fun H locs hP hD hS => ?_)
      have hP : va_P D classes (W_Mo cI cL b0 b1 b2 b3 b4 b5 b6 b7 ev wr wg ke ma li ps pn cy ((f_Mo_stop ca va (1 : Int32) a).1) ((f_Mo_stop ca va (1 : Int32) a).2) cn pp px go ne gi gn) H := hP
      have hD : va_D A (W_Mo cI cL b0 b1 b2 b3 b4 b5 b6 b7 ev wr wg ke ma li ps pn cy ((f_Mo_stop ca va (1 : Int32) a).1) ((f_Mo_stop ca va (1 : Int32) a).2) cn pp px go ne gi gn) := hD
      generalize e_t2 : f_Mo_stop ca va (1 : Int32) a = t2 at hP hD ⊢
      obtain ⟨t2_0, t2_1⟩ := t2
      have hP : va_P D classes (W_Mo cI cL b0 b1 b2 b3 b4 b5 b6 b7 ev wr wg ke ma li ps pn cy t2_0 t2_1 cn pp px go ne gi gn) H := hP
      have hD : va_D A (W_Mo cI cL b0 b1 b2 b3 b4 b5 b6 b7 ev wr wg ke ma li ps pn cy t2_0 t2_1 cn pp px go ne gi gn) := hD
      refine lv_iconst (v := 0) hx hb d_Mo_reaches_22 (by decide) ?_
      rw [f_Mo_reaches_e2 ca va a z (t2_0, t2_1) e_t2 h3 h13]
      exact W.zret hx hb hr rfl (fun t ht hW => ⟨⟨_, (), rfl, rfl, by show va_P D classes _ t.heap; rw [ht]; exact hP⟩, hS.F ht⟩) hS.2.2 d_Mo_reaches_23 hlocks
