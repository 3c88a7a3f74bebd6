abbrev q_Ca_dropAll (D : va_G) (cI cL : ClassId) (g0 g1 : Nat) (A : Nat → Prop) (L : Nat → Int64) (rf : Int32) (F : (Nat → Int64)) : Array Value → State → Outcome → State → Prop := va_Qv (fun (_ : Unit) => True) (fun _ t => va_P D classes (W_Ca cI cL g0 g1 F rf) t.heap) A
set_option maxHeartbeats 4000000 in
set_option maxRecDepth 100000 in
theorem c_Ca_dropAll (l : Launch) (D : va_G) (cI cL : ClassId) (g0 g1 : Nat) (sz : Nat) (L : Nat → Int64) (rf : Int32)   : Met l y_Ca_dropAll w_Ca_dropAll ({ frames := 1, cells := 0, slots := 0, locals := 24 }) (va_Pc [.ref g0] (PW D cI cL (W_Ca cI cL g0 g1 L rf) sz)) (q_Ca_dropAll D cI cL g0 g1 (va_A (W_Ca cI cL g0 g1 L rf) sz) L rf (f_Ca_dropAll L)) 0 0 (va_A (W_Ca cI cL g0 g1 L rf) sz) := by
  refine mk_met (Qf := fun A => q_Ca_dropAll D cI cL g0 g1 A L rf (f_Ca_dropAll L)) (by decide) (Nat.le_of_ble_eq_true rfl) ?_
  intro p e s m below meth c A ls hx hb hr hlocks hml hown hg hK hN hT hA hP hD hS hnm hl
  refine lv_aload_n hx hb d_Ca_dropAll_0 rfl (lv_at hl 0 rfl) ?_
  refine va_get (ci := 2) (C := R_Ca) (T := F_Ca) (N := 2) hx hb hg in_Ca hown hK hP 0 rfl rfl 0 (by decide) (hg _ m_106) (fun _ h => h) rfl d_Ca_dropAll_1 ?_
  refine lv_lconst (v := 0) hx hb d_Ca_dropAll_4 (by decide) ?_
  refine cj_v (wc := (W_L4 cI cL g1 L)) (w1 := (W_L4 cI cL g1 (f_Ar_fill L (0 : Int64)))) hP hD hS hA [1] rfl [g1] rfl rfl (va_runS (rest := []) ⟨hx, hb, hml, hown, hg⟩ (c_Ar_fill l D cI cL g1 _ L (0 : Int64)) ⟨callB_of 2 hg (gw_good m_229) rfl rfl rfl (hg _ m_73) (hg _ m_227) hd_Ar_fill ⟨Nat.le_of_ble_eq_true rfl, Nat.le_of_ble_eq_true rfl⟩, hg _ m_228⟩ (pw_S hK hN hT hA hP hD hS [1] rfl (by decide)) rfl rfl hl.1 rfl (lv_room (Nat.le_of_ble_eq_true rfl)) d_Ca_dropAll_5 ⟨Nat.le_of_ble_eq_true rfl, Nat.le_of_ble_eq_true rfl⟩) (fun H locs hP hD hS => ?_)
  have hP : va_P D classes (W_Ca cI cL g0 g1 (f_Ar_fill L (0 : Int64)) rf) H := hP
  have hD : va_D A (W_Ca cI cL g0 g1 (f_Ar_fill L (0 : Int64)) rf) := hD
  exact W.vret hx hb hr (fun t ht hW => ⟨⟨(), rfl, trivial, by show va_P D classes _ t.heap; rw [ht]; exact hP⟩, hS.F ht⟩) hS.2.2 d_Ca_dropAll_8 hlocks
abbrev q_Ca_drop (D : va_G) (cI cL : ClassId) (g0 g1 : Nat) (A : Nat → Prop) (L : Nat → Int64) (rf : Int32) (F : (Nat → Int64)) : Array Value → State → Outcome → State → Prop := va_Qv (fun (_ : Unit) => True) (fun _ t => va_P D classes (W_Ca cI cL g0 g1 F rf) t.heap) A
set_option maxHeartbeats 4000000 in
set_option maxRecDepth 100000 in
theorem c_Ca_drop (l : Launch) (D : va_G) (cI cL : ClassId) (g0 g1 : Nat) (sz : Nat) (L : Nat → Int64) (rf : Int32) (w : Int32)  : Met l y_Ca_drop w_Ca_drop ({ frames := 0, cells := 0, slots := 0, locals := 0 }) (va_Pc [.ref g0, .int w] (PW D cI cL (W_Ca cI cL g0 g1 L rf) sz)) (q_Ca_drop D cI cL g0 g1 (va_A (W_Ca cI cL g0 g1 L rf) sz) L rf (f_Ca_drop L w)) 0 0 (va_A (W_Ca cI cL g0 g1 L rf) sz) := by
  refine mk_met (Qf := fun A => q_Ca_drop D cI cL g0 g1 A L rf (f_Ca_drop L w)) (by decide) (Nat.le_of_ble_eq_true rfl) ?_
  intro p e s m below meth c A ls hx hb hr hlocks hml hown hg hK hN hT hA hP hD hS hnm hl
  refine lv_aload_n hx hb d_Ca_drop_0 rfl (lv_at hl 0 rfl) ?_
  refine va_get (ci := 2) (C := R_Ca) (T := F_Ca) (N := 2) hx hb hg in_Ca hown hK hP 0 rfl rfl 0 (by decide) (hg _ m_106) (fun _ h => h) rfl d_Ca_drop_1 ?_
  refine lv_iload_n hx hb d_Ca_drop_4 rfl (lv_at hl 1 rfl) ?_
  refine lv_iconst (v := 3) hx hb d_Ca_drop_5 (by decide) ?_
  refine lv_iand hx hb d_Ca_drop_6 ?_
  refine lv_lconst (v := 0) hx hb d_Ca_drop_7 (by decide) ?_
  refine va_last hx hb hK hP hD hS 1 1 rfl rfl (pk_andIn _ 2 rfl (by decide)) d_Ca_drop_8 (fun H locs hP hD hS => ?_)
  have hP : va_P D classes (W_Ca cI cL g0 g1 (vp_updL L (w &&& (3 : Int32)).toNatClampNeg (0 : Int64)) rf) H := hP
  have hD : va_D A (W_Ca cI cL g0 g1 (vp_updL L (w &&& (3 : Int32)).toNatClampNeg (0 : Int64)) rf) := hD
  exact W.vret hx hb hr (fun t ht hW => ⟨⟨(), rfl, trivial, by show va_P D classes _ t.heap; rw [ht]; exact hP⟩, hS.F ht⟩) hS.2.2 d_Ca_drop_9 hlocks
abbrev q_Ca_dropIfWrong (D : va_G) (cI cL : ClassId) (g0 g1 : Nat) (A : Nat → Prop) (L : Nat → Int64) (rf : Int32) (F : (Nat → Int64) × Int32) : Array Value → State → Outcome → State → Prop := va_Qv (fun (_ : Unit) => True) (fun _ t => va_P D classes (W_Ca cI cL g0 g1 F.1 F.2) t.heap) A
theorem f_Ca_dropIfWrong_e0 (L : Nat → Int64) (rf : Int32) (w : Int32)  (h14 : ¬ ((f_Lg_bitCount (L (w &&& (3 : Int32)).toNatClampNeg)) &&& (1 : Int32)) = (1 : Int32)) : f_Ca_dropIfWrong L rf w = (L, rf) := by
  exact (if_neg h14)
theorem f_Ca_dropIfWrong_e1 (L : Nat → Int64) (rf : Int32) (w : Int32)  (h14 : ((f_Lg_bitCount (L (w &&& (3 : Int32)).toNatClampNeg)) &&& (1 : Int32)) = (1 : Int32)) : f_Ca_dropIfWrong L rf w = ((vp_updL L (w &&& (3 : Int32)).toNatClampNeg (0 : Int64)), (rf + (1 : Int32))) := by
  exact (if_pos h14)
set_option maxHeartbeats 4000000 in
set_option maxRecDepth 100000 in
theorem c_Ca_dropIfWrong (l : Launch) (D : va_G) (cI cL : ClassId) (g0 g1 : Nat) (sz : Nat) (L : Nat → Int64) (rf : Int32) (w : Int32)  : Met l y_Ca_dropIfWrong w_Ca_dropIfWrong ({ frames := 1, cells := 0, slots := 0, locals := 21 }) (va_Pc [.ref g0, .int w] (PW D cI cL (W_Ca cI cL g0 g1 L rf) sz)) (q_Ca_dropIfWrong D cI cL g0 g1 (va_A (W_Ca cI cL g0 g1 L rf) sz) L rf (f_Ca_dropIfWrong L rf w)) 0 0 (va_A (W_Ca cI cL g0 g1 L rf) sz) := by
  refine mk_met (Qf := fun A => q_Ca_dropIfWrong D cI cL g0 g1 A L rf (f_Ca_dropIfWrong L rf w)) (by decide) (Nat.le_of_ble_eq_true rfl) ?_
  intro p e s m below meth c A ls hx hb hr hlocks hml hown hg hK hN hT hA hP hD hS hnm hl
  refine lv_aload_n hx hb d_Ca_dropIfWrong_0 rfl (lv_at hl 0 rfl) ?_
  refine va_get (ci := 2) (C := R_Ca) (T := F_Ca) (N := 2) hx hb hg in_Ca hown hK hP 0 rfl rfl 0 (by decide) (hg _ m_106) (fun _ h => h) rfl d_Ca_dropIfWrong_1 ?_
  refine lv_iload_n hx hb d_Ca_dropIfWrong_4 rfl (lv_at hl 1 rfl) ?_
  refine lv_iconst (v := 3) hx hb d_Ca_dropIfWrong_5 (by decide) ?_
  refine lv_iand hx hb d_Ca_dropIfWrong_6 ?_
  refine va_lald hx hb hK hP 1 1 rfl rfl (pk_andIn _ 2 rfl (by decide)) d_Ca_dropIfWrong_7 ?_
  refine cj_i (wc := []) (w1 := []) hP hD hS hA [] rfl [] rfl rfl (va_runS (rest := []) ⟨hx, hb, hml, hown, hg⟩ (c_Lg_bitCount l D cI cL  _ (L (w &&& (3 : Int32)).toNatClampNeg)) ⟨callB_of 1 hg (gw_good m_219) rfl rfl rfl (hg _ m_72) (hg _ m_330) hd_Lg_bitCount ⟨Nat.le_of_ble_eq_true rfl, Nat.le_of_ble_eq_true rfl⟩, hg _ m_218⟩ (pw_S hK hN hT hA hP hD hS [] rfl (by decide)) rfl rfl hl.1 rfl (lv_room (Nat.le_of_ble_eq_true rfl)) d_Ca_dropIfWrong_8 ⟨Nat.le_of_ble_eq_true rfl, Nat.le_of_ble_eq_true rfl⟩) (fun H locs hP hD hS => ?_)
  have hP : va_P D classes (W_Ca cI cL g0 g1 L rf) H := hP
  have hD : va_D A (W_Ca cI cL g0 g1 L rf) := hD
  refine lv_iconst (v := 1) hx hb d_Ca_dropIfWrong_11 (by decide) ?_
  refine lv_iand hx hb d_Ca_dropIfWrong_12 ?_
  refine lv_iconst (v := 1) hx hb d_Ca_dropIfWrong_13 (by decide) ?_
  refine lv_icmp_ne (tgt := 36) hx hb d_Ca_dropIfWrong_14 (by decide) (fun h14 => ?_) (fun h14 => ?_)
  · rw [f_Ca_dropIfWrong_e0 L rf w h14]
    exact W.vret hx hb hr (fun t ht hW => ⟨⟨(), rfl, trivial, by show va_P D classes _ t.heap; rw [ht]; exact hP⟩, hS.F ht⟩) hS.2.2 d_Ca_dropIfWrong_36 hlocks
  · refine lv_aload_n hx hb d_Ca_dropIfWrong_17 rfl (lv_at hl 0 rfl) ?_
    refine va_get (ci := 2) (C := R_Ca) (T := F_Ca) (N := 2) hx hb hg in_Ca hown hK hP 0 rfl rfl 0 (by decide) (hg _ m_106) (fun _ h => h) rfl d_Ca_dropIfWrong_18 ?_
    refine lv_iload_n hx hb d_Ca_dropIfWrong_21 rfl (lv_at hl 1 rfl) ?_
    refine lv_iconst (v := 3) hx hb d_Ca_dropIfWrong_22 (by decide) ?_
    refine lv_iand hx hb d_Ca_dropIfWrong_23 ?_
    refine lv_lconst (v := 0) hx hb d_Ca_dropIfWrong_24 (by decide) ?_
    refine va_last hx hb hK hP hD hS 1 1 rfl rfl (pk_andIn _ 2 rfl (by decide)) d_Ca_dropIfWrong_25 (fun H locs hP hD hS => ?_)
    have hP : va_P D classes (W_Ca cI cL g0 g1 (vp_updL L (w &&& (3 : Int32)).toNatClampNeg (0 : Int64)) rf) H := hP
    have hD : va_D A (W_Ca cI cL g0 g1 (vp_updL L (w &&& (3 : Int32)).toNatClampNeg (0 : Int64)) rf) := hD
    refine lv_aload_n hx hb d_Ca_dropIfWrong_26 rfl (lv_at hl 0 rfl) ?_
    refine lv_dup hx hb d_Ca_dropIfWrong_27 rfl ?_
    refine va_get (ci := 2) (C := R_Ca) (T := F_Ca) (N := 2) hx hb hg in_Ca hown hK hP 0 rfl rfl 1 (by decide) (hg _ m_108) (fun _ h => h) rfl d_Ca_dropIfWrong_28 ?_
    refine lv_iconst (v := 1) hx hb d_Ca_dropIfWrong_31 (by decide) ?_
    refine lv_iadd hx hb d_Ca_dropIfWrong_32 ?_
    refine va_put (ci := 2) (ty := .int) (C := R_Ca) (T := F_Ca) (N := 2) hx hb hg in_Ca t_Ca t_Ca_ok n_Ca hown hK hP hD hS 0 rfl rfl 1 (by decide) (hg _ m_108) (fun _ h => h) rfl (by decide +kernel) rfl rfl (Nat.le_of_ble_eq_true rfl) d_Ca_dropIfWrong_33 (fun H locs hP hD hS => ?_)
    have hP : va_P D classes (W_Ca cI cL g0 g1 (vp_updL L (w &&& (3 : Int32)).toNatClampNeg (0 : Int64)) (rf + (1 : Int32))) H := hP
    have hD : va_D A (W_Ca cI cL g0 g1 (vp_updL L (w &&& (3 : Int32)).toNatClampNeg (0 : Int64)) (rf + (1 : Int32))) := hD
    rw [f_Ca_dropIfWrong_e1 L rf w h14]
    exact W.vret hx hb hr (fun t ht hW => ⟨⟨(), rfl, trivial, by show va_P D classes _ t.heap; rw [ht]; exact hP⟩, hS.F ht⟩) hS.2.2 d_Ca_dropIfWrong_36 hlocks
abbrev q_Ca_holds (D : va_G) (cI cL : ClassId) (g0 g1 : Nat) (A : Nat → Prop) (L : Nat → Int64) (rf : Int32) (F : Int32) : Array Value → State → Outcome → State → Prop := va_Qi (fun r (_ : Unit) => r = F) (fun _ t => va_P D classes (W_Ca cI cL g0 g1 L rf) t.heap) A
theorem f_Ca_holds_e0 (L : Nat → Int64) (w : Int32)  (h23 : ¬ (lg_cmp ((u_lush (L (w &&& (3 : Int32)).toNatClampNeg) (32 : Int32)) &&& (31 : Int64)) (((16 : Int32) ||| (u_ush w (2 : Int32))).toInt64)) = 0) : f_Ca_holds L w = ((0 : Int32)) := by
  exact (if_neg h23)
theorem f_Ca_holds_e1 (L : Nat → Int64) (w : Int32)  (h23 : (lg_cmp ((u_lush (L (w &&& (3 : Int32)).toNatClampNeg) (32 : Int32)) &&& (31 : Int64)) (((16 : Int32) ||| (u_ush w (2 : Int32))).toInt64)) = 0) : f_Ca_holds L w = ((1 : Int32)) := by
  exact (if_pos h23)
set_option maxHeartbeats 4000000 in
set_option maxRecDepth 100000 in
theorem c_Ca_holds (l : Launch) (D : va_G) (cI cL : ClassId) (g0 g1 : Nat) (sz : Nat) (L : Nat → Int64) (rf : Int32) (w : Int32)  : Met l y_Ca_holds w_Ca_holds ({ frames := 0, cells := 0, slots := 0, locals := 0 }) (va_Pc [.ref g0, .int w] (PW D cI cL (W_Ca cI cL g0 g1 L rf) sz)) (q_Ca_holds D cI cL g0 g1 (va_A (W_Ca cI cL g0 g1 L rf) sz) L rf (f_Ca_holds L w)) 0 0 (va_A (W_Ca cI cL g0 g1 L rf) sz) := by
  refine mk_met (Qf := fun A => q_Ca_holds D cI cL g0 g1 A L rf (f_Ca_holds L w)) (by decide) (Nat.le_of_ble_eq_true rfl) ?_
  intro p e s m below meth c A ls hx hb hr hlocks hml hown hg hK hN hT hA hP hD hS hnm hl
  refine lv_aload_n hx hb d_Ca_holds_0 rfl (lv_at hl 0 rfl) ?_
  refine va_get (ci := 2) (C := R_Ca) (T := F_Ca) (N := 2) hx hb hg in_Ca hown hK hP 0 rfl rfl 0 (by decide) (hg _ m_106) (fun _ h => h) rfl d_Ca_holds_1 ?_
  refine lv_iload_n hx hb d_Ca_holds_4 rfl (lv_at hl 1 rfl) ?_
  refine lv_iconst (v := 3) hx hb d_Ca_holds_5 (by decide) ?_
  refine lv_iand hx hb d_Ca_holds_6 ?_
  refine va_lald hx hb hK hP 1 1 rfl rfl (pk_andIn _ 2 rfl (by decide)) d_Ca_holds_7 ?_
  refine lv_bipush (v := 32) hx hb d_Ca_holds_8 (by decide) ?_
  refine lv_lushr (v := u_lush _ _) hx hb d_Ca_holds_10 rfl ?_
  refine lv_ldc2 hx hb hown (hg _ m_335) d_Ca_holds_11 ?_
  refine lv_land hx hb d_Ca_holds_14 ?_
  refine lv_bipush (v := 16) hx hb d_Ca_holds_15 (by decide) ?_
  refine lv_iload_n hx hb d_Ca_holds_17 rfl (lv_at hl 1 rfl) ?_
  refine lv_iconst (v := 2) hx hb d_Ca_holds_18 (by decide) ?_
  refine lv_iushr (v := u_ush _ _) hx hb d_Ca_holds_19 rfl ?_
  refine lv_ior hx hb d_Ca_holds_20 ?_
  refine lv_i2l hx hb d_Ca_holds_21 rfl ?_
  refine W.lcmp hx hb d_Ca_holds_22 ?_
  refine lv_if_ne (tgt := 30) hx hb d_Ca_holds_23 (by decide) (fun h23 => ?_) (fun h23 => ?_)
  · refine lv_iconst (v := 0) hx hb d_Ca_holds_30 (by decide) ?_
    rw [f_Ca_holds_e0 L w h23]
    exact W.zret hx hb hr rfl (fun t ht hW => ⟨⟨_, (), rfl, rfl, by show va_P D classes _ t.heap; rw [ht]; exact hP⟩, hS.F ht⟩) hS.2.2 d_Ca_holds_31 hlocks
  · refine lv_iconst (v := 1) hx hb d_Ca_holds_26 (by decide) ?_
    refine lv_goto (tgt := 31) hx hb d_Ca_holds_27 (by decide) ?_
    rw [f_Ca_holds_e1 L w h23]
    exact W.zret hx hb hr rfl (fun t ht hW => ⟨⟨_, (), rfl, rfl, by show va_P D classes _ t.heap; rw [ht]; exact hP⟩, hS.F ht⟩) hS.2.2 d_Ca_holds_31 hlocks
abbrev q_Ca_held (D : va_G) (cI cL : ClassId) (g0 g1 : Nat) (A : Nat → Prop) (L : Nat → Int64) (rf : Int32) (F : Int64) : Array Value → State → Outcome → State → Prop := va_Ql (fun r (_ : Unit) => r = F) (fun _ t => va_P D classes (W_Ca cI cL g0 g1 L rf) t.heap) A
set_option maxHeartbeats 4000000 in
set_option maxRecDepth 100000 in
theorem c_Ca_held (l : Launch) (D : va_G) (cI cL : ClassId) (g0 g1 : Nat) (sz : Nat) (L : Nat → Int64) (rf : Int32) (w : Int32)  : Met l y_Ca_held w_Ca_held ({ frames := 0, cells := 0, slots := 0, locals := 0 }) (va_Pc [.ref g0, .int w] (PW D cI cL (W_Ca cI cL g0 g1 L rf) sz)) (q_Ca_held D cI cL g0 g1 (va_A (W_Ca cI cL g0 g1 L rf) sz) L rf (f_Ca_held L w)) 0 0 (va_A (W_Ca cI cL g0 g1 L rf) sz) := by
  refine mk_met (Qf := fun A => q_Ca_held D cI cL g0 g1 A L rf (f_Ca_held L w)) (by decide) (Nat.le_of_ble_eq_true rfl) ?_
  intro p e s m below meth c A ls hx hb hr hlocks hml hown hg hK hN hT hA hP hD hS hnm hl
  refine lv_aload_n hx hb d_Ca_held_0 rfl (lv_at hl 0 rfl) ?_
  refine va_get (ci := 2) (C := R_Ca) (T := F_Ca) (N := 2) hx hb hg in_Ca hown hK hP 0 rfl rfl 0 (by decide) (hg _ m_106) (fun _ h => h) rfl d_Ca_held_1 ?_
  refine lv_iload_n hx hb d_Ca_held_4 rfl (lv_at hl 1 rfl) ?_
  refine lv_iconst (v := 3) hx hb d_Ca_held_5 (by decide) ?_
  refine lv_iand hx hb d_Ca_held_6 ?_
  refine va_lald hx hb hK hP 1 1 rfl rfl (pk_andIn _ 2 rfl (by decide)) d_Ca_held_7 ?_
  refine lv_ldc2 hx hb hown (hg _ m_340) d_Ca_held_8 ?_
  refine lv_land hx hb d_Ca_held_11 ?_
  exact W.lret hx hb hr (fun t ht hW => ⟨⟨_, (), rfl, rfl, by show va_P D classes _ t.heap; rw [ht]; exact hP⟩, hS.F ht⟩) hS.2.2 d_Ca_held_12 hlocks
abbrev q_Ca_fill (D : va_G) (cI cL : ClassId) (g0 g1 : Nat) (A : Nat → Prop) (L : Nat → Int64) (rf : Int32) (F : (Nat → Int64)) : Array Value → State → Outcome → State → Prop := va_Qv (fun (_ : Unit) => True) (fun _ t => va_P D classes (W_Ca cI cL g0 g1 F rf) t.heap) A
theorem f_Ca_fill_e0 (L : Nat → Int64) (w : Int32) (v : Int32) (t1 : Int64) (e_t1 : (((v.toInt64) &&& (4294967295 : Int64)) ||| (u_lshl (((16 : Int32) ||| (u_ush w (2 : Int32))).toInt64) (32 : Int32))) = t1) : f_Ca_fill L w v = ((vp_updL L (w &&& (3 : Int32)).toNatClampNeg (t1 ||| (u_lshl (((f_Lg_bitCount t1).toInt64) &&& (1 : Int64)) (37 : Int32))))) := by
  subst e_t1
  exact rfl
set_option maxHeartbeats 4000000 in
set_option maxRecDepth 100000 in
theorem c_Ca_fill (l : Launch) (D : va_G) (cI cL : ClassId) (g0 g1 : Nat) (sz : Nat) (L : Nat → Int64) (rf : Int32) (w : Int32) (v : Int32)  : Met l y_Ca_fill w_Ca_fill ({ frames := 1, cells := 0, slots := 0, locals := 21 }) (va_Pc [.ref g0, .int w, .int v] (PW D cI cL (W_Ca cI cL g0 g1 L rf) sz)) (q_Ca_fill D cI cL g0 g1 (va_A (W_Ca cI cL g0 g1 L rf) sz) L rf (f_Ca_fill L w v)) 0 0 (va_A (W_Ca cI cL g0 g1 L rf) sz) := by
  refine mk_met (Qf := fun A => q_Ca_fill D cI cL g0 g1 A L rf (f_Ca_fill L w v)) (by decide) (Nat.le_of_ble_eq_true rfl) ?_
  intro p e s m below meth c A ls hx hb hr hlocks hml hown hg hK hN hT hA hP hD hS hnm hl
  refine lv_iload_n hx hb d_Ca_fill_0 rfl (lv_at hl 2 rfl) ?_
  refine lv_i2l hx hb d_Ca_fill_1 rfl ?_
  refine lv_ldc2 hx hb hown (hg _ m_340) d_Ca_fill_2 ?_
  refine lv_land hx hb d_Ca_fill_5 ?_
  refine lv_bipush (v := 16) hx hb d_Ca_fill_6 (by decide) ?_
  refine lv_iload_n hx hb d_Ca_fill_8 rfl (lv_at hl 1 rfl) ?_
  refine lv_iconst (v := 2) hx hb d_Ca_fill_9 (by decide) ?_
  refine lv_iushr (v := u_ush _ _) hx hb d_Ca_fill_10 rfl ?_
  refine lv_ior hx hb d_Ca_fill_11 ?_
  refine lv_i2l hx hb d_Ca_fill_12 rfl ?_
  refine lv_bipush (v := 32) hx hb d_Ca_fill_13 (by decide) ?_
  refine lv_lshl (v := u_lshl _ _) hx hb d_Ca_fill_15 rfl ?_
  refine lv_lor hx hb d_Ca_fill_16 ?_
  refine lv_topl (fun t1 e_t1 => ?_)
  have e_t1 := e_t1.symm
  refine lv_lstore_n (lv' := [(3, .long _), (0, .ref _), (1, .int _), (2, .int _)]) hx hb d_Ca_fill_17 rfl hl (by decide) rfl (fun ls hl => ?_)
  refine lv_aload_n hx hb d_Ca_fill_18 rfl (lv_at hl 1 rfl) ?_
  refine va_get (ci := 2) (C := R_Ca) (T := F_Ca) (N := 2) hx hb hg in_Ca hown hK hP 0 rfl rfl 0 (by decide) (hg _ m_106) (fun _ h => h) rfl d_Ca_fill_19 ?_
  refine lv_iload_n hx hb d_Ca_fill_22 rfl (lv_at hl 2 rfl) ?_
  refine lv_iconst (v := 3) hx hb d_Ca_fill_23 (by decide) ?_
  refine lv_iand hx hb d_Ca_fill_24 ?_
  refine lv_lload_n hx hb d_Ca_fill_25 rfl (lv_at hl 0 rfl) ?_
  refine lv_lload_n hx hb d_Ca_fill_26 rfl (lv_at hl 0 rfl) ?_
  refine cj_i (wc := []) (w1 := []) hP hD hS hA [] rfl [] rfl rfl (va_runS (rest := [.long _, .int _, .ref _]) ⟨hx, hb, hml, hown, hg⟩ (c_Lg_bitCount l D cI cL  _ t1) ⟨callB_of 1 hg (gw_good m_219) rfl rfl rfl (hg _ m_72) (hg _ m_330) hd_Lg_bitCount ⟨Nat.le_of_ble_eq_true rfl, Nat.le_of_ble_eq_true rfl⟩, hg _ m_218⟩ (pw_S hK hN hT hA hP hD hS [] rfl (by decide)) rfl rfl hl.1 rfl (lv_room (Nat.le_of_ble_eq_true rfl)) d_Ca_fill_27 ⟨Nat.le_of_ble_eq_true rfl, Nat.le_of_ble_eq_true rfl⟩) (fun H locs hP hD hS => ?_)
  have hP : va_P D classes (W_Ca cI cL g0 g1 L rf) H := hP
  have hD : va_D A (W_Ca cI cL g0 g1 L rf) := hD
  refine lv_i2l hx hb d_Ca_fill_30 rfl ?_
  refine lv_lconst (v := 1) hx hb d_Ca_fill_31 (by decide) ?_
  refine lv_land hx hb d_Ca_fill_32 ?_
  refine lv_bipush (v := 37) hx hb d_Ca_fill_33 (by decide) ?_
  refine lv_lshl (v := u_lshl _ _) hx hb d_Ca_fill_35 rfl ?_
  refine lv_lor hx hb d_Ca_fill_36 ?_
  refine va_last hx hb hK hP hD hS 1 1 rfl rfl (pk_andIn _ 2 rfl (by decide)) d_Ca_fill_37 (fun H locs hP hD hS => ?_)
  have hP : va_P D classes (W_Ca cI cL g0 g1 (vp_updL L (w &&& (3 : Int32)).toNatClampNeg (t1 ||| (u_lshl (((f_Lg_bitCount t1).toInt64) &&& (1 : Int64)) (37 : Int32)))) rf) H := hP
  have hD : va_D A (W_Ca cI cL g0 g1 (vp_updL L (w &&& (3 : Int32)).toNatClampNeg (t1 ||| (u_lshl (((f_Lg_bitCount t1).toInt64) &&& (1 : Int64)) (37 : Int32)))) rf) := hD
  rw [f_Ca_fill_e0 L w v t1 e_t1]
  exact W.vret hx hb hr (fun t ht hW => ⟨⟨(), rfl, trivial, by show va_P D classes _ t.heap; rw [ht]; exact hP⟩, hS.F ht⟩) hS.2.2 d_Ca_fill_38 hlocks
abbrev q_Re_agreed (D : va_G) (cI cL : ClassId) (g0 g1 : Nat) (A : Nat → Prop) (R : Nat → Int32) (vo : Int32) (F : Int32) : Array Value → State → Outcome → State → Prop := va_Qi (fun r (_ : Unit) => r = F) (fun _ t => va_P D classes (W_Re cI cL g0 g1 R vo) t.heap) A
set_option maxHeartbeats 4000000 in
set_option maxRecDepth 100000 in
theorem c_Re_agreed (l : Launch) (D : va_G) (cI cL : ClassId) (g0 g1 : Nat) (sz : Nat) (R : Nat → Int32) (vo : Int32) (r : Int32) (h_r : vp_in r 32) : Met l y_Re_agreed w_Re_agreed ({ frames := 0, cells := 0, slots := 0, locals := 0 }) (va_Pc [.ref g0, .int r] (PW D cI cL (W_Re cI cL g0 g1 R vo) sz)) (q_Re_agreed D cI cL g0 g1 (va_A (W_Re cI cL g0 g1 R vo) sz) R vo (f_Re_agreed R r)) 0 0 (va_A (W_Re cI cL g0 g1 R vo) sz) := by
  refine mk_met (Qf := fun A => q_Re_agreed D cI cL g0 g1 A R vo (f_Re_agreed R r)) (by decide) (Nat.le_of_ble_eq_true rfl) ?_
  intro p e s m below meth c A ls hx hb hr hlocks hml hown hg hK hN hT hA hP hD hS hnm hl
  refine lv_aload_n hx hb d_Re_agreed_0 rfl (lv_at hl 0 rfl) ?_
  refine va_get (ci := 3) (C := R_Re) (T := F_Re) (N := 2) hx hb hg in_Re hown hK hP 0 rfl rfl 0 (by decide) (hg _ m_121) (fun _ h => h) rfl d_Re_agreed_1 ?_
  refine lv_iconst (v := 3) hx hb d_Re_agreed_4 (by decide) ?_
  refine lv_iload_n hx hb d_Re_agreed_5 rfl (lv_at hl 1 rfl) ?_
  refine lv_imul hx hb d_Re_agreed_6 ?_
  refine va_iald hx hb hK hP 1 0 rfl rfl (v3_0 h_r) d_Re_agreed_7 ?_
  refine lv_istore_n (lv' := [(2, .int _), (0, .ref _), (1, .int _)]) hx hb d_Re_agreed_8 rfl hl (by decide) rfl (fun ls hl => ?_)
  refine lv_aload_n hx hb d_Re_agreed_9 rfl (lv_at hl 1 rfl) ?_
  refine va_get (ci := 3) (C := R_Re) (T := F_Re) (N := 2) hx hb hg in_Re hown hK hP 0 rfl rfl 0 (by decide) (hg _ m_121) (fun _ h => h) rfl d_Re_agreed_10 ?_
  refine lv_iconst (v := 3) hx hb d_Re_agreed_13 (by decide) ?_
  refine lv_iload_n hx hb d_Re_agreed_14 rfl (lv_at hl 2 rfl) ?_
  refine lv_imul hx hb d_Re_agreed_15 ?_
  refine lv_iconst (v := 1) hx hb d_Re_agreed_16 (by decide) ?_
  refine lv_iadd hx hb d_Re_agreed_17 ?_
  refine va_iald hx hb hK hP 1 0 rfl rfl (v3_1 h_r) d_Re_agreed_18 ?_
  refine lv_istore_n (lv' := [(3, .int _), (2, .int _), (0, .ref _), (1, .int _)]) hx hb d_Re_agreed_19 rfl hl (by decide) rfl (fun ls hl => ?_)
  refine lv_aload_n hx hb d_Re_agreed_20 rfl (lv_at hl 2 rfl) ?_
  refine va_get (ci := 3) (C := R_Re) (T := F_Re) (N := 2) hx hb hg in_Re hown hK hP 0 rfl rfl 0 (by decide) (hg _ m_121) (fun _ h => h) rfl d_Re_agreed_21 ?_
  refine lv_iconst (v := 3) hx hb d_Re_agreed_24 (by decide) ?_
  refine lv_iload_n hx hb d_Re_agreed_25 rfl (lv_at hl 3 rfl) ?_
  refine lv_imul hx hb d_Re_agreed_26 ?_
  refine lv_iconst (v := 2) hx hb d_Re_agreed_27 (by decide) ?_
  refine lv_iadd hx hb d_Re_agreed_28 ?_
  refine va_iald hx hb hK hP 1 0 rfl rfl (v3_2 h_r) d_Re_agreed_29 ?_
  refine lv_istore (lv' := [(4, .int _), (3, .int _), (2, .int _), (0, .ref _), (1, .int _)]) hx hb d_Re_agreed_30 hl (by decide) rfl (fun ls hl => ?_)
  refine lv_iload_n hx hb d_Re_agreed_32 rfl (lv_at hl 2 rfl) ?_
  refine lv_iload_n hx hb d_Re_agreed_33 rfl (lv_at hl 1 rfl) ?_
  refine lv_iand hx hb d_Re_agreed_34 ?_
  refine lv_iload_n hx hb d_Re_agreed_35 rfl (lv_at hl 2 rfl) ?_
  refine lv_iload hx hb d_Re_agreed_36 (lv_at hl 0 rfl) ?_
  refine lv_iand hx hb d_Re_agreed_38 ?_
  refine lv_ior hx hb d_Re_agreed_39 ?_
  refine lv_iload_n hx hb d_Re_agreed_40 rfl (lv_at hl 1 rfl) ?_
  refine lv_iload hx hb d_Re_agreed_41 (lv_at hl 0 rfl) ?_
  refine lv_iand hx hb d_Re_agreed_43 ?_
  refine lv_ior hx hb d_Re_agreed_44 ?_
  exact W.iret hx hb hr (fun t ht hW => ⟨⟨_, (), rfl, rfl, by show va_P D classes _ t.heap; rw [ht]; exact hP⟩, hS.F ht⟩) hS.2.2 d_Re_agreed_45 hlocks
abbrev q_Re_put (D : va_G) (cI cL : ClassId) (g0 g1 : Nat) (A : Nat → Prop) (R : Nat → Int32) (vo : Int32) (F : (Nat → Int32)) : Array Value → State → Outcome → State → Prop := va_Qv (fun (_ : Unit) => True) (fun _ t => va_P D classes (W_Re cI cL g0 g1 F vo) t.heap) A
set_option maxHeartbeats 4000000 in
set_option maxRecDepth 100000 in
theorem c_Re_put (l : Launch) (D : va_G) (cI cL : ClassId) (g0 g1 : Nat) (sz : Nat) (R : Nat → Int32) (vo : Int32) (r : Int32) (v : Int32) (h_r : vp_in r 32) : Met l y_Re_put w_Re_put ({ frames := 0, cells := 0, slots := 0, locals := 0 }) (va_Pc [.ref g0, .int r, .int v] (PW D cI cL (W_Re cI cL g0 g1 R vo) sz)) (q_Re_put D cI cL g0 g1 (va_A (W_Re cI cL g0 g1 R vo) sz) R vo (f_Re_put R r v)) 0 0 (va_A (W_Re cI cL g0 g1 R vo) sz) := by
  refine mk_met (Qf := fun A => q_Re_put D cI cL g0 g1 A R vo (f_Re_put R r v)) (by decide) (Nat.le_of_ble_eq_true rfl) ?_
  intro p e s m below meth c A ls hx hb hr hlocks hml hown hg hK hN hT hA hP hD hS hnm hl
  refine lv_aload_n hx hb d_Re_put_0 rfl (lv_at hl 0 rfl) ?_
  refine va_get (ci := 3) (C := R_Re) (T := F_Re) (N := 2) hx hb hg in_Re hown hK hP 0 rfl rfl 0 (by decide) (hg _ m_121) (fun _ h => h) rfl d_Re_put_1 ?_
  refine lv_iconst (v := 3) hx hb d_Re_put_4 (by decide) ?_
  refine lv_iload_n hx hb d_Re_put_5 rfl (lv_at hl 1 rfl) ?_
  refine lv_imul hx hb d_Re_put_6 ?_
  refine lv_iload_n hx hb d_Re_put_7 rfl (lv_at hl 2 rfl) ?_
  refine va_iast hx hb hK hP hD hS 1 0 rfl rfl (v3_0 h_r) d_Re_put_8 (fun H locs hP hD hS => ?_)
  have hP : va_P D classes (W_Re cI cL g0 g1 (upd R ((3 : Int32) * r).toNatClampNeg v) vo) H := hP
  have hD : va_D A (W_Re cI cL g0 g1 (upd R ((3 : Int32) * r).toNatClampNeg v) vo) := hD
  refine lv_aload_n hx hb d_Re_put_9 rfl (lv_at hl 0 rfl) ?_
  refine va_get (ci := 3) (C := R_Re) (T := F_Re) (N := 2) hx hb hg in_Re hown hK hP 0 rfl rfl 0 (by decide) (hg _ m_121) (fun _ h => h) rfl d_Re_put_10 ?_
  refine lv_iconst (v := 3) hx hb d_Re_put_13 (by decide) ?_
  refine lv_iload_n hx hb d_Re_put_14 rfl (lv_at hl 1 rfl) ?_
  refine lv_imul hx hb d_Re_put_15 ?_
  refine lv_iconst (v := 1) hx hb d_Re_put_16 (by decide) ?_
  refine lv_iadd hx hb d_Re_put_17 ?_
  refine lv_iload_n hx hb d_Re_put_18 rfl (lv_at hl 2 rfl) ?_
  refine va_iast hx hb hK hP hD hS 1 0 rfl rfl (v3_1 h_r) d_Re_put_19 (fun H locs hP hD hS => ?_)
  have hP : va_P D classes (W_Re cI cL g0 g1 (upd (upd R ((3 : Int32) * r).toNatClampNeg v) (((3 : Int32) * r) + (1 : Int32)).toNatClampNeg v) vo) H := hP
  have hD : va_D A (W_Re cI cL g0 g1 (upd (upd R ((3 : Int32) * r).toNatClampNeg v) (((3 : Int32) * r) + (1 : Int32)).toNatClampNeg v) vo) := hD
  refine lv_aload_n hx hb d_Re_put_20 rfl (lv_at hl 0 rfl) ?_
  refine va_get (ci := 3) (C := R_Re) (T := F_Re) (N := 2) hx hb hg in_Re hown hK hP 0 rfl rfl 0 (by decide) (hg _ m_121) (fun _ h => h) rfl d_Re_put_21 ?_
  refine lv_iconst (v := 3) hx hb d_Re_put_24 (by decide) ?_
  refine lv_iload_n hx hb d_Re_put_25 rfl (lv_at hl 1 rfl) ?_
  refine lv_imul hx hb d_Re_put_26 ?_
  refine lv_iconst (v := 2) hx hb d_Re_put_27 (by decide) ?_
  refine lv_iadd hx hb d_Re_put_28 ?_
  refine lv_iload_n hx hb d_Re_put_29 rfl (lv_at hl 2 rfl) ?_
  refine va_iast hx hb hK hP hD hS 1 0 rfl rfl (v3_2 h_r) d_Re_put_30 (fun H locs hP hD hS => ?_)
  have hP : va_P D classes (W_Re cI cL g0 g1 (upd (upd (upd R ((3 : Int32) * r).toNatClampNeg v) (((3 : Int32) * r) + (1 : Int32)).toNatClampNeg v) (((3 : Int32) * r) + (2 : Int32)).toNatClampNeg v) vo) H := hP
  have hD : va_D A (W_Re cI cL g0 g1 (upd (upd (upd R ((3 : Int32) * r).toNatClampNeg v) (((3 : Int32) * r) + (1 : Int32)).toNatClampNeg v) (((3 : Int32) * r) + (2 : Int32)).toNatClampNeg v) vo) := hD
  exact W.vret hx hb hr (fun t ht hW => ⟨⟨(), rfl, trivial, by show va_P D classes _ t.heap; rw [ht]; exact hP⟩, hS.F ht⟩) hS.2.2 d_Re_put_31 hlocks
abbrev q_Re_operand (D : va_G) (cI cL : ClassId) (g0 g1 : Nat) (A : Nat → Prop) (R : Nat → Int32) (vo : Int32) (F : Int32) : Array Value → State → Outcome → State → Prop := va_Qi (fun r (_ : Unit) => r = F) (fun _ t => va_P D classes (W_Re cI cL g0 g1 R vo) t.heap) A
theorem f_Re_operand_e0 (R : Nat → Int32) (r : Int32)  (h1 : ¬ r = 0) : f_Re_operand R r = ((f_Re_agreed R r)) := by
  exact (if_neg h1)
theorem f_Re_operand_e1 (R : Nat → Int32) (r : Int32)  (h1 : r = 0) : f_Re_operand R r = ((0 : Int32)) := by
  exact (if_pos h1)
set_option maxHeartbeats 4000000 in
set_option maxRecDepth 100000 in
theorem c_Re_operand (l : Launch) (D : va_G) (cI cL : ClassId) (g0 g1 : Nat) (sz : Nat) (R : Nat → Int32) (vo : Int32) (r : Int32) (h_r : vp_in r 32) : Met l y_Re_operand w_Re_operand ({ frames := 1, cells := 0, slots := 0, locals := 24 }) (va_Pc [.ref g0, .int r] (PW D cI cL (W_Re cI cL g0 g1 R vo) sz)) (q_Re_operand D cI cL g0 g1 (va_A (W_Re cI cL g0 g1 R vo) sz) R vo (f_Re_operand R r)) 0 0 (va_A (W_Re cI cL g0 g1 R vo) sz) := by
  refine mk_met (Qf := fun A => q_Re_operand D cI cL g0 g1 A R vo (f_Re_operand R r)) (by decide) (Nat.le_of_ble_eq_true rfl) ?_
  intro p e s m below meth c A ls hx hb hr hlocks hml hown hg hK hN hT hA hP hD hS hnm hl
  refine lv_iload_n hx hb d_Re_operand_0 rfl (lv_at hl 1 rfl) ?_
  refine lv_if_ne (tgt := 8) hx hb d_Re_operand_1 (by decide) (fun h1 => ?_) (fun h1 => ?_)
  · refine lv_aload_n hx hb d_Re_operand_8 rfl (lv_at hl 0 rfl) ?_
    refine lv_iload_n hx hb d_Re_operand_9 rfl (lv_at hl 1 rfl) ?_
    refine cj_i (wc := (W_Re cI cL g0 g1 R vo)) (w1 := (W_Re cI cL g0 g1 R vo)) hP hD hS hA [0, 1] rfl [g0, g1] rfl rfl (va_runV (rest := []) ⟨hx, hb, hml, hown, hg⟩ (c_Re_agreed l D cI cL g0 g1 _ R vo r h_r) ⟨callB_of 1 hg (gw_good m_248) rfl rfl rfl (hg _ m_68) (hg _ m_309) hd_Re_agreed ⟨Nat.le_of_ble_eq_true rfl, Nat.le_of_ble_eq_true rfl⟩, hg _ m_247, hg _ m_3⟩ (pw_V hK hN hT hA hP hD hS [0, 1] rfl (by decide) (q0 := 0) (ci := 3) rfl rfl) rfl rfl hl.1 rfl (lv_room (Nat.le_of_ble_eq_true rfl)) d_Re_operand_10 ⟨Nat.le_of_ble_eq_true rfl, Nat.le_of_ble_eq_true rfl⟩) (fun H locs hP hD hS => ?_)
    have hP : va_P D classes (W_Re cI cL g0 g1 R vo) H := hP
    have hD : va_D A (W_Re cI cL g0 g1 R vo) := hD
    rw [f_Re_operand_e0 R r h1]
    exact W.iret hx hb hr (fun t ht hW => ⟨⟨_, (), rfl, rfl, by show va_P D classes _ t.heap; rw [ht]; exact hP⟩, hS.F ht⟩) hS.2.2 d_Re_operand_13 hlocks
  · refine lv_iconst (v := 0) hx hb d_Re_operand_4 (by decide) ?_
    refine lv_goto (tgt := 13) hx hb d_Re_operand_5 (by decide) ?_
    rw [f_Re_operand_e1 R r h1]
    exact W.iret hx hb hr (fun t ht hW => ⟨⟨_, (), rfl, rfl, by show va_P D classes _ t.heap; rw [ht]; exact hP⟩, hS.F ht⟩) hS.2.2 d_Re_operand_13 hlocks
abbrev q_Re_putResult (D : va_G) (cI cL : ClassId) (g0 g1 : Nat) (A : Nat → Prop) (R : Nat → Int32) (vo : Int32) (F : (Nat → Int32)) : Array Value → State → Outcome → State → Prop := va_Qv (fun (_ : Unit) => True) (fun _ t => va_P D classes (W_Re cI cL g0 g1 F vo) t.heap) A
theorem f_Re_putResult_e0 (R : Nat → Int32) (r : Int32) (v : Int32)  (h1 : r = 0) : f_Re_putResult R r v = (R) := by
  exact (if_pos h1)
theorem f_Re_putResult_e1 (R : Nat → Int32) (r : Int32) (v : Int32)  (h1 : ¬ r = 0) : f_Re_putResult R r v = ((f_Re_put R r v)) := by
  exact (if_neg h1)
set_option maxHeartbeats 4000000 in
set_option maxRecDepth 100000 in
theorem c_Re_putResult (l : Launch) (D : va_G) (cI cL : ClassId) (g0 g1 : Nat) (sz : Nat) (R : Nat → Int32) (vo : Int32) (r : Int32) (v : Int32) (h_r : vp_in r 32) : Met l y_Re_putResult w_Re_putResult ({ frames := 1, cells := 0, slots := 0, locals := 22 }) (va_Pc [.ref g0, .int r, .int v] (PW D cI cL (W_Re cI cL g0 g1 R vo) sz)) (q_Re_putResult D cI cL g0 g1 (va_A (W_Re cI cL g0 g1 R vo) sz) R vo (f_Re_putResult R r v)) 0 0 (va_A (W_Re cI cL g0 g1 R vo) sz) := by
  refine mk_met (Qf := fun A => q_Re_putResult D cI cL g0 g1 A R vo (f_Re_putResult R r v)) (by decide) (Nat.le_of_ble_eq_true rfl) ?_
  intro p e s m below meth c A ls hx hb hr hlocks hml hown hg hK hN hT hA hP hD hS hnm hl
  refine lv_iload_n hx hb d_Re_putResult_0 rfl (lv_at hl 1 rfl) ?_
  refine lv_if_eq (tgt := 10) hx hb d_Re_putResult_1 (by decide) (fun h1 => ?_) (fun h1 => ?_)
  · rw [f_Re_putResult_e0 R r v h1]
    exact W.vret hx hb hr (fun t ht hW => ⟨⟨(), rfl, trivial, by show va_P D classes _ t.heap; rw [ht]; exact hP⟩, hS.F ht⟩) hS.2.2 d_Re_putResult_10 hlocks
  · refine lv_aload_n hx hb d_Re_putResult_4 rfl (lv_at hl 0 rfl) ?_
    refine lv_iload_n hx hb d_Re_putResult_5 rfl (lv_at hl 1 rfl) ?_
    refine lv_iload_n hx hb d_Re_putResult_6 rfl (lv_at hl 2 rfl) ?_
    refine cj_v (wc := (W_Re cI cL g0 g1 R vo)) (w1 := (W_Re cI cL g0 g1 (f_Re_put R r v) vo)) hP hD hS hA [0, 1] rfl [g0, g1] rfl rfl (va_runV (rest := []) ⟨hx, hb, hml, hown, hg⟩ (c_Re_put l D cI cL g0 g1 _ R vo r v h_r) ⟨callB_of 2 hg (gw_good m_240) rfl rfl rfl (hg _ m_68) (hg _ m_310) hd_Re_put ⟨Nat.le_of_ble_eq_true rfl, Nat.le_of_ble_eq_true rfl⟩, hg _ m_239, hg _ m_2⟩ (pw_V hK hN hT hA hP hD hS [0, 1] rfl (by decide) (q0 := 0) (ci := 3) rfl rfl) rfl rfl hl.1 rfl (lv_room (Nat.le_of_ble_eq_true rfl)) d_Re_putResult_7 ⟨Nat.le_of_ble_eq_true rfl, Nat.le_of_ble_eq_true rfl⟩) (fun H locs hP hD hS => ?_)
    have hP : va_P D classes (W_Re cI cL g0 g1 (f_Re_put R r v) vo) H := hP
    have hD : va_D A (W_Re cI cL g0 g1 (f_Re_put R r v) vo) := hD
    rw [f_Re_putResult_e1 R r v h1]
    exact W.vret hx hb hr (fun t ht hW => ⟨⟨(), rfl, trivial, by show va_P D classes _ t.heap; rw [ht]; exact hP⟩, hS.F ht⟩) hS.2.2 d_Re_putResult_10 hlocks
abbrev q_Re_vote (D : va_G) (cI cL : ClassId) (g0 g1 : Nat) (A : Nat → Prop) (R : Nat → Int32) (vo : Int32) (F : (Nat → Int32) × Int32) : Array Value → State → Outcome → State → Prop := va_Qv (fun (_ : Unit) => True) (fun _ t => va_P D classes (W_Re cI cL g0 g1 F.1 F.2) t.heap) A
theorem f_Re_vote_e1 (n : Nat) (j : Nat) (R_ : Nat → Int32) (vo_ : Int32)  (h28 : ¬ (R_ ((3 : Int32) * (nI j)).toNatClampNeg) = (R_ (((3 : Int32) * (nI j)) + (1 : Int32)).toNatClampNeg)) : f_Re_vote_l2 (n + 1) j R_ vo_ = f_Re_vote_l2  n (j + 1) (f_Re_put R_ (nI j) (f_Re_agreed R_ (nI j))) (vo_ + (1 : Int32)) := by
  exact (if_neg h28)
theorem f_Re_vote_e2 (n : Nat) (j : Nat) (R_ : Nat → Int32) (vo_ : Int32)  (h28 : (R_ ((3 : Int32) * (nI j)).toNatClampNeg) = (R_ (((3 : Int32) * (nI j)) + (1 : Int32)).toNatClampNeg)) (h42 : (R_ ((3 : Int32) * (nI j)).toNatClampNeg) = (R_ (((3 : Int32) * (nI j)) + (2 : Int32)).toNatClampNeg)) : f_Re_vote_l2 (n + 1) j R_ vo_ = f_Re_vote_l2  n (j + 1) R_ vo_ := by
  exact ((if_pos h28).trans (if_pos h42))
theorem f_Re_vote_e3 (n : Nat) (j : Nat) (R_ : Nat → Int32) (vo_ : Int32)  (h28 : (R_ ((3 : Int32) * (nI j)).toNatClampNeg) = (R_ (((3 : Int32) * (nI j)) + (1 : Int32)).toNatClampNeg)) (h42 : ¬ (R_ ((3 : Int32) * (nI j)).toNatClampNeg) = (R_ (((3 : Int32) * (nI j)) + (2 : Int32)).toNatClampNeg)) : f_Re_vote_l2 (n + 1) j R_ vo_ = f_Re_vote_l2  n (j + 1) (f_Re_put R_ (nI j) (f_Re_agreed R_ (nI j))) (vo_ + (1 : Int32)) := by
  exact ((if_pos h28).trans (if_neg h42))
set_option maxHeartbeats 4000000 in
set_option maxRecDepth 100000 in
theorem c_Re_vote (l : Launch) (D : va_G) (cI cL : ClassId) (g0 g1 : Nat) (sz : Nat) (R : Nat → Int32) (vo : Int32)   : Met l y_Re_vote w_Re_vote ({ frames := 1, cells := 0, slots := 0, locals := 24 }) (va_Pc [.ref g0] (PW D cI cL (W_Re cI cL g0 g1 R vo) sz)) (q_Re_vote D cI cL g0 g1 (va_A (W_Re cI cL g0 g1 R vo) sz) R vo (f_Re_vote R vo)) 0 0 (va_A (W_Re cI cL g0 g1 R vo) sz) := by
  refine mk_met (Qf := fun A => q_Re_vote D cI cL g0 g1 A R vo (f_Re_vote R vo)) (by decide) (Nat.le_of_ble_eq_true rfl) ?_
  intro p e s m below meth c A ls hx hb hr hlocks hml hown hg hK hN hT hA hP hD hS hnm hl
  refine lv_iconst (v := 0) hx hb d_Re_vote_0 (by decide) ?_
  refine lv_istore_n (lv' := [(1, .int _), (0, .ref _)]) hx hb d_Re_vote_1 rfl hl (by decide) rfl (fun ls hl => ?_)
  have loop : ∀ (n j : Nat) (R_ : Nat → Int32) (vo_ : Int32) (ls : Array Slot) (H : Heap) (locs : List Loc), j + n = 32 → lv_has ls 3 [(1, .int (nI j)), (0, .ref g0)] → va_P D classes (W_Re cI cL g0 g1 R_ vo_) H → va_D A (W_Re cI cL g0 g1 R_ vo_) → va_S A s.heap H locs → W p l e ({ frames := 1, cells := 0, slots := 0, locals := 24 } : Room) s m ([.ref g0] : List Value).toArray below meth c H locs 0 0 (MQ below (q_Re_vote D cI cL g0 g1 A R vo (f_Re_vote_l2  n j R_ vo_)) ([.ref g0] : List Value).toArray s 0 0 A) (F0 m 2 ls []) := by
    intro n
    induction n with
    | zero =>
      intro j R_ vo_ ls H locs hj  hl hP hD hS
      refine lv_iload_n hx hb d_Re_vote_2 rfl (lv_at hl 0 rfl) ?_
      refine lv_bipush (v := 32) hx hb d_Re_vote_3 (by decide) ?_
      refine lv_icmp_ge (tgt := 71) hx hb d_Re_vote_5 (by decide) (fun _ => ?_) (fun h => absurd (show nI 32 ≤ nI j from nI_le (by omega) (by omega)) h)
      exact W.vret hx hb hr (fun t ht hW => ⟨⟨(), rfl, trivial, by show va_P D classes _ t.heap; rw [ht]; exact hP⟩, hS.F ht⟩) hS.2.2 d_Re_vote_71 hlocks
    | succ n ih =>
      intro j R_ vo_ ls H locs hj  hl hP hD hS
      refine lv_iload_n hx hb d_Re_vote_2 rfl (lv_at hl 0 rfl) ?_
      refine lv_bipush (v := 32) hx hb d_Re_vote_3 (by decide) ?_
      refine lv_icmp_ge (tgt := 71) hx hb d_Re_vote_5 (by decide) (fun h => absurd h (show ¬ nI 32 ≤ nI j from nI_ge (by omega) (by decide))) (fun _ => ?_)
      refine lv_aload_n hx hb d_Re_vote_8 rfl (lv_at hl 1 rfl) ?_
      refine va_get (ci := 3) (C := R_Re) (T := F_Re) (N := 2) hx hb hg in_Re hown hK hP 0 rfl rfl 0 (by decide) (hg _ m_121) (fun _ h => h) rfl d_Re_vote_9 ?_
      refine lv_iconst (v := 3) hx hb d_Re_vote_12 (by decide) ?_
      refine lv_iload_n hx hb d_Re_vote_13 rfl (lv_at hl 0 rfl) ?_
      refine lv_imul hx hb d_Re_vote_14 ?_
      refine va_iald hx hb hK hP 1 0 rfl rfl (v3_0 (vp_in_nI (by omega) (by decide))) d_Re_vote_15 ?_
      refine lv_istore_n (lv' := [(2, .int _), (1, .int _), (0, .ref _)]) hx hb d_Re_vote_16 rfl hl (by decide) rfl (fun ls hl => ?_)
      refine lv_iload_n hx hb d_Re_vote_17 rfl (lv_at hl 0 rfl) ?_
      refine lv_aload_n hx hb d_Re_vote_18 rfl (lv_at hl 2 rfl) ?_
      refine va_get (ci := 3) (C := R_Re) (T := F_Re) (N := 2) hx hb hg in_Re hown hK hP 0 rfl rfl 0 (by decide) (hg _ m_121) (fun _ h => h) rfl d_Re_vote_19 ?_
      refine lv_iconst (v := 3) hx hb d_Re_vote_22 (by decide) ?_
      refine lv_iload_n hx hb d_Re_vote_23 rfl (lv_at hl 1 rfl) ?_
      refine lv_imul hx hb d_Re_vote_24 ?_
      refine lv_iconst (v := 1) hx hb d_Re_vote_25 (by decide) ?_
      refine lv_iadd hx hb d_Re_vote_26 ?_
      refine va_iald hx hb hK hP 1 0 rfl rfl (v3_1 (vp_in_nI (by omega) (by decide))) d_Re_vote_27 ?_
      refine lv_icmp_ne (tgt := 45) hx hb d_Re_vote_28 (by decide) (fun h28 => ?_) (fun h28 => ?_)
      · refine lv_aload_n hx hb d_Re_vote_45 rfl (lv_at hl 2 rfl) ?_
        refine lv_iload_n hx hb d_Re_vote_46 rfl (lv_at hl 1 rfl) ?_
        refine lv_aload_n hx hb d_Re_vote_47 rfl (lv_at hl 2 rfl) ?_
        refine lv_iload_n hx hb d_Re_vote_48 rfl (lv_at hl 1 rfl) ?_
        refine cj_i (wc := (W_Re cI cL g0 g1 R_ vo_)) (w1 := (W_Re cI cL g0 g1 R_ vo_)) hP hD hS hA [0, 1] rfl [g0, g1] rfl rfl (va_runV (rest := [.int _, .ref _]) ⟨hx, hb, hml, hown, hg⟩ (c_Re_agreed l D cI cL g0 g1 _ R_ vo_ (nI j) (vp_in_nI (by omega) (by decide))) ⟨callB_of 1 hg (gw_good m_248) rfl rfl rfl (hg _ m_68) (hg _ m_309) hd_Re_agreed ⟨Nat.le_of_ble_eq_true rfl, Nat.le_of_ble_eq_true rfl⟩, hg _ m_247, hg _ m_3⟩ (pw_V hK hN hT hA hP hD hS [0, 1] rfl (by decide) (q0 := 0) (ci := 3) rfl rfl) rfl rfl hl.1 rfl (lv_room (Nat.le_of_ble_eq_true rfl)) d_Re_vote_49 ⟨Nat.le_of_ble_eq_true rfl, Nat.le_of_ble_eq_true rfl⟩) (fun H locs hP hD hS => ?_)
        have hP : va_P D classes (W_Re cI cL g0 g1 R_ vo_) H := hP
        have hD : va_D A (W_Re cI cL g0 g1 R_ vo_) := hD
        refine cj_v (wc := (W_Re cI cL g0 g1 R_ vo_)) (w1 := (W_Re cI cL g0 g1 (f_Re_put R_ (nI j) (f_Re_agreed R_ (nI j))) vo_)) hP hD hS hA [0, 1] rfl [g0, g1] rfl rfl (va_runV (rest := []) ⟨hx, hb, hml, hown, hg⟩ (c_Re_put l D cI cL g0 g1 _ R_ vo_ (nI j) (f_Re_agreed R_ (nI j)) (vp_in_nI (by omega) (by decide))) ⟨callB_of 2 hg (gw_good m_240) rfl rfl rfl (hg _ m_68) (hg _ m_310) hd_Re_put ⟨Nat.le_of_ble_eq_true rfl, Nat.le_of_ble_eq_true rfl⟩, hg _ m_239, hg _ m_2⟩ (pw_V hK hN hT hA hP hD hS [0, 1] rfl (by decide) (q0 := 0) (ci := 3) rfl rfl) rfl rfl hl.1 rfl (lv_room (Nat.le_of_ble_eq_true rfl)) d_Re_vote_52 ⟨Nat.le_of_ble_eq_true rfl, Nat.le_of_ble_eq_true rfl⟩) (fun H locs hP hD hS => ?_)
        have hP : va_P D classes (W_Re cI cL g0 g1 (f_Re_put R_ (nI j) (f_Re_agreed R_ (nI j))) vo_) H := hP
        have hD : va_D A (W_Re cI cL g0 g1 (f_Re_put R_ (nI j) (f_Re_agreed R_ (nI j))) vo_) := hD
        refine lv_aload_n hx hb d_Re_vote_55 rfl (lv_at hl 2 rfl) ?_
        refine lv_dup hx hb d_Re_vote_56 rfl ?_
        refine va_get (ci := 3) (C := R_Re) (T := F_Re) (N := 2) hx hb hg in_Re hown hK hP 0 rfl rfl 1 (by decide) (hg _ m_123) (fun _ h => h) rfl d_Re_vote_57 ?_
        refine lv_iconst (v := 1) hx hb d_Re_vote_60 (by decide) ?_
        refine lv_iadd hx hb d_Re_vote_61 ?_
        refine va_put (ci := 3) (ty := .int) (C := R_Re) (T := F_Re) (N := 2) hx hb hg in_Re t_Re t_Re_ok n_Re hown hK hP hD hS 0 rfl rfl 1 (by decide) (hg _ m_123) (fun _ h => h) rfl (by decide +kernel) rfl rfl (Nat.le_of_ble_eq_true rfl) d_Re_vote_62 (fun H locs hP hD hS => ?_)
        have hP : va_P D classes (W_Re cI cL g0 g1 (f_Re_put R_ (nI j) (f_Re_agreed R_ (nI j))) (vo_ + (1 : Int32))) H := hP
        have hD : va_D A (W_Re cI cL g0 g1 (f_Re_put R_ (nI j) (f_Re_agreed R_ (nI j))) (vo_ + (1 : Int32))) := hD
        refine lv_iinc (k := 1) (v := nI (_ + 1)) (lv' := [(1, .int _), (2, .int _), (0, .ref _)]) hx hb d_Re_vote_65 hl rfl (nI_1 _) (by decide) rfl (fun ls hl => ?_)
        refine lv_goto (tgt := 2) hx hb d_Re_vote_68 (by decide) ?_
        rw [f_Re_vote_e1 (n) j R_ vo_ h28]
        exact ih (j + 1) _ _ _ _ _ (by omega)  (lv_sub hl [0, 2] rfl) hP hD hS
      · refine lv_iload_n hx hb d_Re_vote_31 rfl (lv_at hl 0 rfl) ?_
        refine lv_aload_n hx hb d_Re_vote_32 rfl (lv_at hl 2 rfl) ?_
        refine va_get (ci := 3) (C := R_Re) (T := F_Re) (N := 2) hx hb hg in_Re hown hK hP 0 rfl rfl 0 (by decide) (hg _ m_121) (fun _ h => h) rfl d_Re_vote_33 ?_
        refine lv_iconst (v := 3) hx hb d_Re_vote_36 (by decide) ?_
        refine lv_iload_n hx hb d_Re_vote_37 rfl (lv_at hl 1 rfl) ?_
        refine lv_imul hx hb d_Re_vote_38 ?_
        refine lv_iconst (v := 2) hx hb d_Re_vote_39 (by decide) ?_
        refine lv_iadd hx hb d_Re_vote_40 ?_
        refine va_iald hx hb hK hP 1 0 rfl rfl (v3_2 (vp_in_nI (by omega) (by decide))) d_Re_vote_41 ?_
        refine lv_icmp_eq (tgt := 65) hx hb d_Re_vote_42 (by decide) (fun h42 => ?_) (fun h42 => ?_)
        · refine lv_iinc (k := 1) (v := nI (_ + 1)) (lv' := [(1, .int _), (2, .int _), (0, .ref _)]) hx hb d_Re_vote_65 hl rfl (nI_1 _) (by decide) rfl (fun ls hl => ?_)
          refine lv_goto (tgt := 2) hx hb d_Re_vote_68 (by decide) ?_
          rw [f_Re_vote_e2 (n) j R_ vo_ h28 h42]
          exact ih (j + 1) _ _ _ _ _ (by omega)  (lv_sub hl [0, 2] rfl) hP hD hS
        · refine lv_aload_n hx hb d_Re_vote_45 rfl (lv_at hl 2 rfl) ?_
          refine lv_iload_n hx hb d_Re_vote_46 rfl (lv_at hl 1 rfl) ?_
          refine lv_aload_n hx hb d_Re_vote_47 rfl (lv_at hl 2 rfl) ?_
          refine lv_iload_n hx hb d_Re_vote_48 rfl (lv_at hl 1 rfl) ?_
          refine cj_i (wc := (W_Re cI cL g0 g1 R_ vo_)) (w1 := (W_Re cI cL g0 g1 R_ vo_)) hP hD hS hA [0, 1] rfl [g0, g1] rfl rfl (va_runV (rest := [.int _, .ref _]) ⟨hx, hb, hml, hown, hg⟩ (c_Re_agreed l D cI cL g0 g1 _ R_ vo_ (nI j) (vp_in_nI (by omega) (by decide))) ⟨callB_of 1 hg (gw_good m_248) rfl rfl rfl (hg _ m_68) (hg _ m_309) hd_Re_agreed ⟨Nat.le_of_ble_eq_true rfl, Nat.le_of_ble_eq_true rfl⟩, hg _ m_247, hg _ m_3⟩ (pw_V hK hN hT hA hP hD hS [0, 1] rfl (by decide) (q0 := 0) (ci := 3) rfl rfl) rfl rfl hl.1 rfl (lv_room (Nat.le_of_ble_eq_true rfl)) d_Re_vote_49 ⟨Nat.le_of_ble_eq_true rfl, Nat.le_of_ble_eq_true rfl⟩) (fun H locs hP hD hS => ?_)
          have hP : va_P D classes (W_Re cI cL g0 g1 R_ vo_) H := hP
          have hD : va_D A (W_Re cI cL g0 g1 R_ vo_) := hD
          refine cj_v (wc := (W_Re cI cL g0 g1 R_ vo_)) (w1 := (W_Re cI cL g0 g1 (f_Re_put R_ (nI j) (f_Re_agreed R_ (nI j))) vo_)) hP hD hS hA [0, 1] rfl [g0, g1] rfl rfl (va_runV (rest := []) ⟨hx, hb, hml, hown, hg⟩ (c_Re_put l D cI cL g0 g1 _ R_ vo_ (nI j) (f_Re_agreed R_ (nI j)) (vp_in_nI (by omega) (by decide))) ⟨callB_of 2 hg (gw_good m_240) rfl rfl rfl (hg _ m_68) (hg _ m_310) hd_Re_put ⟨Nat.le_of_ble_eq_true rfl, Nat.le_of_ble_eq_true rfl⟩, hg _ m_239, hg _ m_2⟩ (pw_V hK hN hT hA hP hD hS [0, 1] rfl (by decide) (q0 := 0) (ci := 3) rfl rfl) rfl rfl hl.1 rfl (lv_room (Nat.le_of_ble_eq_true rfl)) d_Re_vote_52 ⟨Nat.le_of_ble_eq_true rfl, Nat.le_of_ble_eq_true rfl⟩) (fun H locs hP hD hS => ?_)
          have hP : va_P D classes (W_Re cI cL g0 g1 (f_Re_put R_ (nI j) (f_Re_agreed R_ (nI j))) vo_) H := hP
          have hD : va_D A (W_Re cI cL g0 g1 (f_Re_put R_ (nI j) (f_Re_agreed R_ (nI j))) vo_) := hD
          refine lv_aload_n hx hb d_Re_vote_55 rfl (lv_at hl 2 rfl) ?_
          refine lv_dup hx hb d_Re_vote_56 rfl ?_
          refine va_get (ci := 3) (C := R_Re) (T := F_Re) (N := 2) hx hb hg in_Re hown hK hP 0 rfl rfl 1 (by decide) (hg _ m_123) (fun _ h => h) rfl d_Re_vote_57 ?_
          refine lv_iconst (v := 1) hx hb d_Re_vote_60 (by decide) ?_
          refine lv_iadd hx hb d_Re_vote_61 ?_
          refine va_put (ci := 3) (ty := .int) (C := R_Re) (T := F_Re) (N := 2) hx hb hg in_Re t_Re t_Re_ok n_Re hown hK hP hD hS 0 rfl rfl 1 (by decide) (hg _ m_123) (fun _ h => h) rfl (by decide +kernel) rfl rfl (Nat.le_of_ble_eq_true rfl) d_Re_vote_62 (fun H locs hP hD hS => ?_)
          have hP : va_P D classes (W_Re cI cL g0 g1 (f_Re_put R_ (nI j) (f_Re_agreed R_ (nI j))) (vo_ + (1 : Int32))) H := hP
          have hD : va_D A (W_Re cI cL g0 g1 (f_Re_put R_ (nI j) (f_Re_agreed R_ (nI j))) (vo_ + (1 : Int32))) := hD
          refine lv_iinc (k := 1) (v := nI (_ + 1)) (lv' := [(1, .int _), (2, .int _), (0, .ref _)]) hx hb d_Re_vote_65 hl rfl (nI_1 _) (by decide) rfl (fun ls hl => ?_)
          refine lv_goto (tgt := 2) hx hb d_Re_vote_68 (by decide) ?_
          rw [f_Re_vote_e3 (n) j R_ vo_ h28 h42]
          exact ih (j + 1) _ _ _ _ _ (by omega)  (lv_sub hl [0, 2] rfl) hP hD hS
  exact loop 32 0 _ _ _ _ _ (by omega)  hl hP hD hS
abbrev q_Fa_append (D : va_G) (cI cL : ClassId) (g0 g1 g2 g3 : Nat) (A : Nat → Prop) (FC : Nat → Int32) (FP : Nat → Int32) (FB : Nat → Int32) (fs : Int32) (F : (Nat → Int32) × (Nat → Int32) × (Nat → Int32) × Int32) : Array Value → State → Outcome → State → Prop := va_Qv (fun (_ : Unit) => True) (fun _ t => va_P D classes (W_Fa cI cL g0 g1 g2 g3 F.1 F.2.1 F.2.2.1 F.2.2.2) t.heap) A
set_option maxHeartbeats 4000000 in
set_option maxRecDepth 100000 in
theorem c_Fa_append (l : Launch) (D : va_G) (cI cL : ClassId) (g0 g1 g2 g3 : Nat) (sz : Nat) (FC : Nat → Int32) (FP : Nat → Int32) (FB : Nat → Int32) (fs : Int32) (dc : Int32) (dp : Int32) (db : Int32) (h_fs : vp_in fs 16) : Met l y_Fa_append w_Fa_append ({ frames := 0, cells := 0, slots := 0, locals := 0 }) (va_Pc [.ref g0, .int dc, .int dp, .int db] (PW D cI cL (W_Fa cI cL g0 g1 g2 g3 FC FP FB fs) sz)) (q_Fa_append D cI cL g0 g1 g2 g3 (va_A (W_Fa cI cL g0 g1 g2 g3 FC FP FB fs) sz) FC FP FB fs (f_Fa_append FC FP FB fs dc dp db)) 0 0 (va_A (W_Fa cI cL g0 g1 g2 g3 FC FP FB fs) sz) := by
  refine mk_met (Qf := fun A => q_Fa_append D cI cL g0 g1 g2 g3 A FC FP FB fs (f_Fa_append FC FP FB fs dc dp db)) (by decide) (Nat.le_of_ble_eq_true rfl) ?_
  intro p e s m below meth c A ls hx hb hr hlocks hml hown hg hK hN hT hA hP hD hS hnm hl
  refine lv_aload_n hx hb d_Fa_append_0 rfl (lv_at hl 0 rfl) ?_
  refine va_get (ci := 4) (C := R_Fa) (T := F_Fa) (N := 4) hx hb hg in_Fa hown hK hP 0 rfl rfl 0 (by decide) (hg _ m_137) (fun _ h => h) rfl d_Fa_append_1 ?_
  refine lv_aload_n hx hb d_Fa_append_4 rfl (lv_at hl 0 rfl) ?_
  refine va_get (ci := 4) (C := R_Fa) (T := F_Fa) (N := 4) hx hb hg in_Fa hown hK hP 0 rfl rfl 3 (by decide) (hg _ m_143) (fun _ h => h) rfl d_Fa_append_5 ?_
  refine lv_iload_n hx hb d_Fa_append_8 rfl (lv_at hl 1 rfl) ?_
  refine va_iast hx hb hK hP hD hS 1 0 rfl rfl h_fs d_Fa_append_9 (fun H locs hP hD hS => ?_)
  have hP : va_P D classes (W_Fa cI cL g0 g1 g2 g3 (upd FC fs.toNatClampNeg dc) FP FB fs) H := hP
  have hD : va_D A (W_Fa cI cL g0 g1 g2 g3 (upd FC fs.toNatClampNeg dc) FP FB fs) := hD
  refine lv_aload_n hx hb d_Fa_append_10 rfl (lv_at hl 0 rfl) ?_
  refine va_get (ci := 4) (C := R_Fa) (T := F_Fa) (N := 4) hx hb hg in_Fa hown hK hP 0 rfl rfl 1 (by decide) (hg _ m_139) (fun _ h => h) rfl d_Fa_append_11 ?_
  refine lv_aload_n hx hb d_Fa_append_14 rfl (lv_at hl 0 rfl) ?_
  refine va_get (ci := 4) (C := R_Fa) (T := F_Fa) (N := 4) hx hb hg in_Fa hown hK hP 0 rfl rfl 3 (by decide) (hg _ m_143) (fun _ h => h) rfl d_Fa_append_15 ?_
  refine lv_iload_n hx hb d_Fa_append_18 rfl (lv_at hl 2 rfl) ?_
  refine va_iast hx hb hK hP hD hS 2 0 rfl rfl h_fs d_Fa_append_19 (fun H locs hP hD hS => ?_)
  have hP : va_P D classes (W_Fa cI cL g0 g1 g2 g3 (upd FC fs.toNatClampNeg dc) (upd FP fs.toNatClampNeg dp) FB fs) H := hP
  have hD : va_D A (W_Fa cI cL g0 g1 g2 g3 (upd FC fs.toNatClampNeg dc) (upd FP fs.toNatClampNeg dp) FB fs) := hD
  refine lv_aload_n hx hb d_Fa_append_20 rfl (lv_at hl 0 rfl) ?_
  refine va_get (ci := 4) (C := R_Fa) (T := F_Fa) (N := 4) hx hb hg in_Fa hown hK hP 0 rfl rfl 2 (by decide) (hg _ m_141) (fun _ h => h) rfl d_Fa_append_21 ?_
  refine lv_aload_n hx hb d_Fa_append_24 rfl (lv_at hl 0 rfl) ?_
  refine va_get (ci := 4) (C := R_Fa) (T := F_Fa) (N := 4) hx hb hg in_Fa hown hK hP 0 rfl rfl 3 (by decide) (hg _ m_143) (fun _ h => h) rfl d_Fa_append_25 ?_
  refine lv_iload_n hx hb d_Fa_append_28 rfl (lv_at hl 3 rfl) ?_
  refine va_iast hx hb hK hP hD hS 3 0 rfl rfl h_fs d_Fa_append_29 (fun H locs hP hD hS => ?_)
  have hP : va_P D classes (W_Fa cI cL g0 g1 g2 g3 (upd FC fs.toNatClampNeg dc) (upd FP fs.toNatClampNeg dp) (upd FB fs.toNatClampNeg db) fs) H := hP
  have hD : va_D A (W_Fa cI cL g0 g1 g2 g3 (upd FC fs.toNatClampNeg dc) (upd FP fs.toNatClampNeg dp) (upd FB fs.toNatClampNeg db) fs) := hD
  refine lv_aload_n hx hb d_Fa_append_30 rfl (lv_at hl 0 rfl) ?_
  refine lv_dup hx hb d_Fa_append_31 rfl ?_
  refine va_get (ci := 4) (C := R_Fa) (T := F_Fa) (N := 4) hx hb hg in_Fa hown hK hP 0 rfl rfl 3 (by decide) (hg _ m_143) (fun _ h => h) rfl d_Fa_append_32 ?_
  refine lv_iconst (v := 1) hx hb d_Fa_append_35 (by decide) ?_
  refine lv_iadd hx hb d_Fa_append_36 ?_
  refine va_put (ci := 4) (ty := .int) (C := R_Fa) (T := F_Fa) (N := 4) hx hb hg in_Fa t_Fa t_Fa_ok n_Fa hown hK hP hD hS 0 rfl rfl 3 (by decide) (hg _ m_143) (fun _ h => h) rfl (by decide +kernel) rfl rfl (Nat.le_of_ble_eq_true rfl) d_Fa_append_37 (fun H locs hP hD hS => ?_)
  have hP : va_P D classes (W_Fa cI cL g0 g1 g2 g3 (upd FC fs.toNatClampNeg dc) (upd FP fs.toNatClampNeg dp) (upd FB fs.toNatClampNeg db) (fs + (1 : Int32))) H := hP
  have hD : va_D A (W_Fa cI cL g0 g1 g2 g3 (upd FC fs.toNatClampNeg dc) (upd FP fs.toNatClampNeg dp) (upd FB fs.toNatClampNeg db) (fs + (1 : Int32))) := hD
  exact W.vret hx hb hr (fun t ht hW => ⟨⟨(), rfl, trivial, by show va_P D classes _ t.heap; rw [ht]; exact hP⟩, hS.F ht⟩) hS.2.2 d_Fa_append_40 hlocks
abbrev q_Fa_move (D : va_G) (cI cL : ClassId) (g0 g1 g2 g3 : Nat) (A : Nat → Prop) (FC : Nat → Int32) (FP : Nat → Int32) (FB : Nat → Int32) (fs : Int32) (F : (Nat → Int32) × (Nat → Int32) × (Nat → Int32)) : Array Value → State → Outcome → State → Prop := va_Qv (fun (_ : Unit) => True) (fun _ t => va_P D classes (W_Fa cI cL g0 g1 g2 g3 F.1 F.2.1 F.2.2 fs) t.heap) A
set_option maxHeartbeats 4000000 in
set_option maxRecDepth 100000 in
theorem c_Fa_move (l : Launch) (D : va_G) (cI cL : ClassId) (g0 g1 g2 g3 : Nat) (sz : Nat) (FC : Nat → Int32) (FP : Nat → Int32) (FB : Nat → Int32) (fs : Int32) (i : Int32) (j : Int32) (h_i : vp_in i 16) (h_j : vp_in j 16) : Met l y_Fa_move w_Fa_move ({ frames := 0, cells := 0, slots := 0, locals := 0 }) (va_Pc [.ref g0, .int i, .int j] (PW D cI cL (W_Fa cI cL g0 g1 g2 g3 FC FP FB fs) sz)) (q_Fa_move D cI cL g0 g1 g2 g3 (va_A (W_Fa cI cL g0 g1 g2 g3 FC FP FB fs) sz) FC FP FB fs (f_Fa_move FC FP FB i j)) 0 0 (va_A (W_Fa cI cL g0 g1 g2 g3 FC FP FB fs) sz) := by
  refine mk_met (Qf := fun A => q_Fa_move D cI cL g0 g1 g2 g3 A FC FP FB fs (f_Fa_move FC FP FB i j)) (by decide) (Nat.le_of_ble_eq_true rfl) ?_
  intro p e s m below meth c A ls hx hb hr hlocks hml hown hg hK hN hT hA hP hD hS hnm hl
  refine lv_aload_n hx hb d_Fa_move_0 rfl (lv_at hl 0 rfl) ?_
  refine va_get (ci := 4) (C := R_Fa) (T := F_Fa) (N := 4) hx hb hg in_Fa hown hK hP 0 rfl rfl 0 (by decide) (hg _ m_137) (fun _ h => h) rfl d_Fa_move_1 ?_
  refine lv_iload_n hx hb d_Fa_move_4 rfl (lv_at hl 2 rfl) ?_
  refine lv_aload_n hx hb d_Fa_move_5 rfl (lv_at hl 0 rfl) ?_
  refine va_get (ci := 4) (C := R_Fa) (T := F_Fa) (N := 4) hx hb hg in_Fa hown hK hP 0 rfl rfl 0 (by decide) (hg _ m_137) (fun _ h => h) rfl d_Fa_move_6 ?_
  refine lv_iload_n hx hb d_Fa_move_9 rfl (lv_at hl 1 rfl) ?_
  refine va_iald hx hb hK hP 1 0 rfl rfl h_i d_Fa_move_10 ?_
  refine va_iast hx hb hK hP hD hS 1 0 rfl rfl h_j d_Fa_move_11 (fun H locs hP hD hS => ?_)
  have hP : va_P D classes (W_Fa cI cL g0 g1 g2 g3 (upd FC j.toNatClampNeg (FC i.toNatClampNeg)) FP FB fs) H := hP
  have hD : va_D A (W_Fa cI cL g0 g1 g2 g3 (upd FC j.toNatClampNeg (FC i.toNatClampNeg)) FP FB fs) := hD
  refine lv_aload_n hx hb d_Fa_move_12 rfl (lv_at hl 0 rfl) ?_
  refine va_get (ci := 4) (C := R_Fa) (T := F_Fa) (N := 4) hx hb hg in_Fa hown hK hP 0 rfl rfl 1 (by decide) (hg _ m_139) (fun _ h => h) rfl d_Fa_move_13 ?_
  refine lv_iload_n hx hb d_Fa_move_16 rfl (lv_at hl 2 rfl) ?_
  refine lv_aload_n hx hb d_Fa_move_17 rfl (lv_at hl 0 rfl) ?_
  refine va_get (ci := 4) (C := R_Fa) (T := F_Fa) (N := 4) hx hb hg in_Fa hown hK hP 0 rfl rfl 1 (by decide) (hg _ m_139) (fun _ h => h) rfl d_Fa_move_18 ?_
  refine lv_iload_n hx hb d_Fa_move_21 rfl (lv_at hl 1 rfl) ?_
  refine va_iald hx hb hK hP 2 0 rfl rfl h_i d_Fa_move_22 ?_
  refine va_iast hx hb hK hP hD hS 2 0 rfl rfl h_j d_Fa_move_23 (fun H locs hP hD hS => ?_)
  have hP : va_P D classes (W_Fa cI cL g0 g1 g2 g3 (upd FC j.toNatClampNeg (FC i.toNatClampNeg)) (upd FP j.toNatClampNeg (FP i.toNatClampNeg)) FB fs) H := hP
  have hD : va_D A (W_Fa cI cL g0 g1 g2 g3 (upd FC j.toNatClampNeg (FC i.toNatClampNeg)) (upd FP j.toNatClampNeg (FP i.toNatClampNeg)) FB fs) := hD
  refine lv_aload_n hx hb d_Fa_move_24 rfl (lv_at hl 0 rfl) ?_
  refine va_get (ci := 4) (C := R_Fa) (T := F_Fa) (N := 4) hx hb hg in_Fa hown hK hP 0 rfl rfl 2 (by decide) (hg _ m_141) (fun _ h => h) rfl d_Fa_move_25 ?_
  refine lv_iload_n hx hb d_Fa_move_28 rfl (lv_at hl 2 rfl) ?_
  refine lv_aload_n hx hb d_Fa_move_29 rfl (lv_at hl 0 rfl) ?_
  refine va_get (ci := 4) (C := R_Fa) (T := F_Fa) (N := 4) hx hb hg in_Fa hown hK hP 0 rfl rfl 2 (by decide) (hg _ m_141) (fun _ h => h) rfl d_Fa_move_30 ?_
  refine lv_iload_n hx hb d_Fa_move_33 rfl (lv_at hl 1 rfl) ?_
  refine va_iald hx hb hK hP 3 0 rfl rfl h_i d_Fa_move_34 ?_
  refine va_iast hx hb hK hP hD hS 3 0 rfl rfl h_j d_Fa_move_35 (fun H locs hP hD hS => ?_)
  have hP : va_P D classes (W_Fa cI cL g0 g1 g2 g3 (upd FC j.toNatClampNeg (FC i.toNatClampNeg)) (upd FP j.toNatClampNeg (FP i.toNatClampNeg)) (upd FB j.toNatClampNeg (FB i.toNatClampNeg)) fs) H := hP
  have hD : va_D A (W_Fa cI cL g0 g1 g2 g3 (upd FC j.toNatClampNeg (FC i.toNatClampNeg)) (upd FP j.toNatClampNeg (FP i.toNatClampNeg)) (upd FB j.toNatClampNeg (FB i.toNatClampNeg)) fs) := hD
  exact W.vret hx hb hr (fun t ht hW => ⟨⟨(), rfl, trivial, by show va_P D classes _ t.heap; rw [ht]; exact hP⟩, hS.F ht⟩) hS.2.2 d_Fa_move_36 hlocks
