abbrev q_Lg_bitCount (D : va_G) (cI cL : ClassId) (A : Nat → Prop)  (F : Int32) : Array Value → State → Outcome → State → Prop := va_Qi (fun r (_ : Unit) => r = F) (fun _ t => va_P D classes [] t.heap) A
theorem f_Lg_bitCount_e0 (i : Int64) (t1 : Int64) (t2 : Int64) (e_t1 : (((i - ((u_lush i (1 : Int32)) &&& (6148914691236517205 : Int64))) &&& (3689348814741910323 : Int64)) + ((u_lush (i - ((u_lush i (1 : Int32)) &&& (6148914691236517205 : Int64))) (2 : Int32)) &&& (3689348814741910323 : Int64))) = t1) (e_t2 : (((t1 + (u_lush t1 (4 : Int32))) &&& (1085102592571150095 : Int64)) + (u_lush ((t1 + (u_lush t1 (4 : Int32))) &&& (1085102592571150095 : Int64)) (8 : Int32))) = t2) : f_Lg_bitCount i = (((((t2 + (u_lush t2 (16 : Int32))) + (u_lush (t2 + (u_lush t2 (16 : Int32))) (32 : Int32))).toInt32) &&& (127 : Int32))) := by
  subst e_t2
  subst e_t1
  exact rfl
set_option maxHeartbeats 4000000 in
set_option maxRecDepth 100000 in
theorem c_Lg_bitCount (l : Launch) (D : va_G) (cI cL : ClassId) (sz : Nat)  (i : Int64)  : Met l y_Lg_bitCount w_Lg_bitCount ({ frames := 0, cells := 0, slots := 0, locals := 0 }) (va_Pc [.long i] (PW D cI cL [] sz)) (q_Lg_bitCount D cI cL (va_A [] sz)  (f_Lg_bitCount i)) 0 0 (va_A [] sz) := by
  refine mk_met (Qf := fun A => q_Lg_bitCount D cI cL A  (f_Lg_bitCount i)) (by decide) (Nat.le_of_ble_eq_true rfl) ?_
  intro p e s m below meth c A ls hx hb hr hlocks hml hown hg hK hN hT hA hP hD hS hnm hl
  refine lv_lload_n hx hb d_Lg_bitCount_0 rfl (lv_at hl 0 rfl) ?_
  refine lv_lload_n hx hb d_Lg_bitCount_1 rfl (lv_at hl 0 rfl) ?_
  refine lv_iconst (v := 1) hx hb d_Lg_bitCount_2 (by decide) ?_
  refine lv_lushr (v := u_lush _ _) hx hb d_Lg_bitCount_3 rfl ?_
  refine lv_ldc2 hx hb hown (hg _ m_220) d_Lg_bitCount_4 ?_
  refine lv_land hx hb d_Lg_bitCount_7 ?_
  refine lv_lsub hx hb d_Lg_bitCount_8 ?_
  refine lv_lstore_n (lv' := [(0, .long _)]) hx hb d_Lg_bitCount_9 rfl hl (by decide) rfl (fun ls hl => ?_)
  refine lv_lload_n hx hb d_Lg_bitCount_10 rfl (lv_at hl 0 rfl) ?_
  refine lv_ldc2 hx hb hown (hg _ m_221) d_Lg_bitCount_11 ?_
  refine lv_land hx hb d_Lg_bitCount_14 ?_
  refine lv_lload_n hx hb d_Lg_bitCount_15 rfl (lv_at hl 0 rfl) ?_
  refine lv_iconst (v := 2) hx hb d_Lg_bitCount_16 (by decide) ?_
  refine lv_lushr (v := u_lush _ _) hx hb d_Lg_bitCount_17 rfl ?_
  refine lv_ldc2 hx hb hown (hg _ m_221) d_Lg_bitCount_18 ?_
  refine lv_land hx hb d_Lg_bitCount_21 ?_
  refine lv_ladd hx hb d_Lg_bitCount_22 ?_
  refine lv_topl (fun t1 e_t1 => ?_)
  have e_t1 := e_t1.symm
  refine lv_lstore_n (lv' := [(0, .long _)]) hx hb d_Lg_bitCount_23 rfl hl (by decide) rfl (fun ls hl => ?_)
  refine lv_lload_n hx hb d_Lg_bitCount_24 rfl (lv_at hl 0 rfl) ?_
  refine lv_lload_n hx hb d_Lg_bitCount_25 rfl (lv_at hl 0 rfl) ?_
  refine lv_iconst (v := 4) hx hb d_Lg_bitCount_26 (by decide) ?_
  refine lv_lushr (v := u_lush _ _) hx hb d_Lg_bitCount_27 rfl ?_
  refine lv_ladd hx hb d_Lg_bitCount_28 ?_
  refine lv_ldc2 hx hb hown (hg _ m_222) d_Lg_bitCount_29 ?_
  refine lv_land hx hb d_Lg_bitCount_32 ?_
  refine lv_lstore_n (lv' := [(0, .long _)]) hx hb d_Lg_bitCount_33 rfl hl (by decide) rfl (fun ls hl => ?_)
  refine lv_lload_n hx hb d_Lg_bitCount_34 rfl (lv_at hl 0 rfl) ?_
  refine lv_lload_n hx hb d_Lg_bitCount_35 rfl (lv_at hl 0 rfl) ?_
  refine lv_bipush (v := 8) hx hb d_Lg_bitCount_36 (by decide) ?_
  refine lv_lushr (v := u_lush _ _) hx hb d_Lg_bitCount_38 rfl ?_
  refine lv_ladd hx hb d_Lg_bitCount_39 ?_
  refine lv_topl (fun t2 e_t2 => ?_)
  have e_t2 := e_t2.symm
  refine lv_lstore_n (lv' := [(0, .long _)]) hx hb d_Lg_bitCount_40 rfl hl (by decide) rfl (fun ls hl => ?_)
  refine lv_lload_n hx hb d_Lg_bitCount_41 rfl (lv_at hl 0 rfl) ?_
  refine lv_lload_n hx hb d_Lg_bitCount_42 rfl (lv_at hl 0 rfl) ?_
  refine lv_bipush (v := 16) hx hb d_Lg_bitCount_43 (by decide) ?_
  refine lv_lushr (v := u_lush _ _) hx hb d_Lg_bitCount_45 rfl ?_
  refine lv_ladd hx hb d_Lg_bitCount_46 ?_
  refine lv_lstore_n (lv' := [(0, .long _)]) hx hb d_Lg_bitCount_47 rfl hl (by decide) rfl (fun ls hl => ?_)
  refine lv_lload_n hx hb d_Lg_bitCount_48 rfl (lv_at hl 0 rfl) ?_
  refine lv_lload_n hx hb d_Lg_bitCount_49 rfl (lv_at hl 0 rfl) ?_
  refine lv_bipush (v := 32) hx hb d_Lg_bitCount_50 (by decide) ?_
  refine lv_lushr (v := u_lush _ _) hx hb d_Lg_bitCount_52 rfl ?_
  refine lv_ladd hx hb d_Lg_bitCount_53 ?_
  refine lv_lstore_n (lv' := [(0, .long _)]) hx hb d_Lg_bitCount_54 rfl hl (by decide) rfl (fun ls hl => ?_)
  refine lv_lload_n hx hb d_Lg_bitCount_55 rfl (lv_at hl 0 rfl) ?_
  refine lv_l2i hx hb d_Lg_bitCount_56 rfl ?_
  refine lv_bipush (v := 127) hx hb d_Lg_bitCount_57 (by decide) ?_
  refine lv_iand hx hb d_Lg_bitCount_59 ?_
  rw [f_Lg_bitCount_e0 i t1 t2 e_t1 e_t2]
  exact W.iret hx hb hr (fun t ht hW => ⟨⟨_, (), rfl, rfl, by show va_P D classes _ t.heap; rw [ht]; exact hP⟩, hS.F ht⟩) hS.2.2 d_Lg_bitCount_60 hlocks
abbrev q_In_compare (D : va_G) (cI cL : ClassId) (A : Nat → Prop)  (F : Int32) : Array Value → State → Outcome → State → Prop := va_Qi (fun r (_ : Unit) => r = F) (fun _ t => va_P D classes [] t.heap) A
theorem f_In_compare_e0 (x : Int32) (y : Int32)  (h2 : y ≤ x) (h11 : ¬ x = y) : f_In_compare x y = ((1 : Int32)) := by
  exact ((if_pos h2).trans (if_neg h11))
theorem f_In_compare_e1 (x : Int32) (y : Int32)  (h2 : y ≤ x) (h11 : x = y) : f_In_compare x y = ((0 : Int32)) := by
  exact ((if_pos h2).trans (if_pos h11))
theorem f_In_compare_e2 (x : Int32) (y : Int32)  (h2 : ¬ y ≤ x) : f_In_compare x y = ((-1 : Int32)) := by
  exact (if_neg h2)
set_option maxHeartbeats 4000000 in
set_option maxRecDepth 100000 in
theorem c_In_compare (l : Launch) (D : va_G) (cI cL : ClassId) (sz : Nat)  (x : Int32) (y : Int32)  : Met l y_In_compare w_In_compare ({ frames := 0, cells := 0, slots := 0, locals := 0 }) (va_Pc [.int x, .int y] (PW D cI cL [] sz)) (q_In_compare D cI cL (va_A [] sz)  (f_In_compare x y)) 0 0 (va_A [] sz) := by
  refine mk_met (Qf := fun A => q_In_compare D cI cL A  (f_In_compare x y)) (by decide) (Nat.le_of_ble_eq_true rfl) ?_
  intro p e s m below meth c A ls hx hb hr hlocks hml hown hg hK hN hT hA hP hD hS hnm hl
  refine lv_iload_n hx hb d_In_compare_0 rfl (lv_at hl 0 rfl) ?_
  refine lv_iload_n hx hb d_In_compare_1 rfl (lv_at hl 1 rfl) ?_
  refine lv_icmp_ge (tgt := 9) hx hb d_In_compare_2 (by decide) (fun h2 => ?_) (fun h2 => ?_)
  · refine lv_iload_n hx hb d_In_compare_9 rfl (lv_at hl 0 rfl) ?_
    refine lv_iload_n hx hb d_In_compare_10 rfl (lv_at hl 1 rfl) ?_
    refine lv_icmp_ne (tgt := 18) hx hb d_In_compare_11 (by decide) (fun h11 => ?_) (fun h11 => ?_)
    · refine lv_iconst (v := 1) hx hb d_In_compare_18 (by decide) ?_
      rw [f_In_compare_e0 x y h2 h11]
      exact W.iret hx hb hr (fun t ht hW => ⟨⟨_, (), rfl, rfl, by show va_P D classes _ t.heap; rw [ht]; exact hP⟩, hS.F ht⟩) hS.2.2 d_In_compare_19 hlocks
    · refine lv_iconst (v := 0) hx hb d_In_compare_14 (by decide) ?_
      refine lv_goto (tgt := 19) hx hb d_In_compare_15 (by decide) ?_
      rw [f_In_compare_e1 x y h2 h11]
      exact W.iret hx hb hr (fun t ht hW => ⟨⟨_, (), rfl, rfl, by show va_P D classes _ t.heap; rw [ht]; exact hP⟩, hS.F ht⟩) hS.2.2 d_In_compare_19 hlocks
  · refine lv_iconst (v := -1) hx hb d_In_compare_5 (by decide) ?_
    refine lv_goto (tgt := 19) hx hb d_In_compare_6 (by decide) ?_
    rw [f_In_compare_e2 x y h2]
    exact W.iret hx hb hr (fun t ht hW => ⟨⟨_, (), rfl, rfl, by show va_P D classes _ t.heap; rw [ht]; exact hP⟩, hS.F ht⟩) hS.2.2 d_In_compare_19 hlocks
abbrev q_In_compareUnsigned (D : va_G) (cI cL : ClassId) (A : Nat → Prop)  (F : Int32) : Array Value → State → Outcome → State → Prop := va_Qi (fun r (_ : Unit) => r = F) (fun _ t => va_P D classes [] t.heap) A
set_option maxHeartbeats 4000000 in
set_option maxRecDepth 100000 in
theorem c_In_compareUnsigned (l : Launch) (D : va_G) (cI cL : ClassId) (sz : Nat)  (x : Int32) (y : Int32)  : Met l y_In_compareUnsigned w_In_compareUnsigned ({ frames := 1, cells := 0, slots := 0, locals := 21 }) (va_Pc [.int x, .int y] (PW D cI cL [] sz)) (q_In_compareUnsigned D cI cL (va_A [] sz)  (f_In_compareUnsigned x y)) 0 0 (va_A [] sz) := by
  refine mk_met (Qf := fun A => q_In_compareUnsigned D cI cL A  (f_In_compareUnsigned x y)) (by decide) (Nat.le_of_ble_eq_true rfl) ?_
  intro p e s m below meth c A ls hx hb hr hlocks hml hown hg hK hN hT hA hP hD hS hnm hl
  refine lv_iload_n hx hb d_In_compareUnsigned_0 rfl (lv_at hl 0 rfl) ?_
  refine lv_ldc hx hb hown (hg _ m_409) d_In_compareUnsigned_1 ?_
  refine lv_iadd hx hb d_In_compareUnsigned_3 ?_
  refine lv_iload_n hx hb d_In_compareUnsigned_4 rfl (lv_at hl 1 rfl) ?_
  refine lv_ldc hx hb hown (hg _ m_409) d_In_compareUnsigned_5 ?_
  refine lv_iadd hx hb d_In_compareUnsigned_7 ?_
  refine cj_i (wc := []) (w1 := []) hP hD hS hA [] rfl [] rfl rfl (va_runS (rest := []) ⟨hx, hb, hml, hown, hg⟩ (c_In_compare l D cI cL  _ (x + (-2147483648 : Int32)) (y + (-2147483648 : Int32))) ⟨callB_of 2 hg (gw_good m_412) rfl rfl rfl (hg _ m_75) (hg _ m_410) hd_In_compare ⟨Nat.le_of_ble_eq_true rfl, Nat.le_of_ble_eq_true rfl⟩, hg _ m_411⟩ (pw_S hK hN hT hA hP hD hS [] rfl (by decide)) rfl rfl hl.1 rfl (lv_room (Nat.le_of_ble_eq_true rfl)) d_In_compareUnsigned_8 ⟨Nat.le_of_ble_eq_true rfl, Nat.le_of_ble_eq_true rfl⟩) (fun H locs hP hD hS => ?_)
  have hP : va_P D classes [] H := hP
  have hD : va_D A [] := hD
  exact W.iret hx hb hr (fun t ht hW => ⟨⟨_, (), rfl, rfl, by show va_P D classes _ t.heap; rw [ht]; exact hP⟩, hS.F ht⟩) hS.2.2 d_In_compareUnsigned_11 hlocks
abbrev q_Ar_fill (D : va_G) (cI cL : ClassId) (g0 : Nat) (A : Nat → Prop) (L : Nat → Int64) (F : (Nat → Int64)) : Array Value → State → Outcome → State → Prop := va_Qv (fun (_ : Unit) => True) (fun _ t => va_P D classes (W_L4 cI cL g0 F) t.heap) A
set_option maxHeartbeats 4000000 in
set_option maxRecDepth 100000 in
theorem c_Ar_fill (l : Launch) (D : va_G) (cI cL : ClassId) (g0 : Nat) (sz : Nat) (L : Nat → Int64) (v : Int64)  : Met l y_Ar_fill w_Ar_fill ({ frames := 0, cells := 0, slots := 0, locals := 0 }) (va_Pc [.ref g0, .long v] (PW D cI cL (W_L4 cI cL g0 L) sz)) (q_Ar_fill D cI cL g0 (va_A (W_L4 cI cL g0 L) sz) L (f_Ar_fill L v)) 0 0 (va_A (W_L4 cI cL g0 L) sz) := by
  refine mk_met (Qf := fun A => q_Ar_fill D cI cL g0 A L (f_Ar_fill L v)) (by decide) (Nat.le_of_ble_eq_true rfl) ?_
  intro p e s m below meth c A ls hx hb hr hlocks hml hown hg hK hN hT hA hP hD hS hnm hl
  refine lv_iconst (v := 0) hx hb d_Ar_fill_0 (by decide) ?_
  refine lv_istore_n (lv' := [(3, .int _), (0, .ref _), (1, .long _)]) hx hb d_Ar_fill_1 rfl hl (by decide) rfl (fun ls hl => ?_)
  refine lv_aload_n hx hb d_Ar_fill_2 rfl (lv_at hl 1 rfl) ?_
  refine va_alen (v := 4) hx hb hK hP 0 1 rfl rfl rfl d_Ar_fill_3 ?_
  refine lv_istore (lv' := [(4, .int _), (3, .int _), (0, .ref _), (1, .long _)]) hx hb d_Ar_fill_4 hl (by decide) rfl (fun ls hl => ?_)
  refine lv_iload_n hx hb d_Ar_fill_6 rfl (lv_at hl 1 rfl) ?_
  refine lv_iload hx hb d_Ar_fill_7 (lv_at hl 0 rfl) ?_
  refine lv_icmp_ge (tgt := 22) hx hb d_Ar_fill_9 (by decide) (fun h => absurd h (by decide)) (fun _ => ?_)
  refine lv_aload_n hx hb d_Ar_fill_12 rfl (lv_at hl 2 rfl) ?_
  refine lv_iload_n hx hb d_Ar_fill_13 rfl (lv_at hl 1 rfl) ?_
  refine lv_lload_n hx hb d_Ar_fill_14 rfl (lv_at hl 3 rfl) ?_
  refine va_last hx hb hK hP hD hS 0 1 rfl rfl (vp_ofb (by decide)) d_Ar_fill_15 (fun H locs hP hD hS => ?_)
  have hP : va_P D classes (W_L4 cI cL g0 (vp_updL L (0 : Int32).toNatClampNeg v)) H := hP
  have hD : va_D A (W_L4 cI cL g0 (vp_updL L (0 : Int32).toNatClampNeg v)) := hD
  refine lv_iinc (k := 1) (v := 1) (lv' := [(3, .int _), (4, .int _), (0, .ref _), (1, .long _)]) hx hb d_Ar_fill_16 hl rfl (by decide) (by decide) rfl (fun ls hl => ?_)
  refine lv_goto (tgt := 6) hx hb d_Ar_fill_19 (by decide) ?_
  refine lv_iload_n hx hb d_Ar_fill_6 rfl (lv_at hl 0 rfl) ?_
  refine lv_iload hx hb d_Ar_fill_7 (lv_at hl 1 rfl) ?_
  refine lv_icmp_ge (tgt := 22) hx hb d_Ar_fill_9 (by decide) (fun h => absurd h (by decide)) (fun _ => ?_)
  refine lv_aload_n hx hb d_Ar_fill_12 rfl (lv_at hl 2 rfl) ?_
  refine lv_iload_n hx hb d_Ar_fill_13 rfl (lv_at hl 0 rfl) ?_
  refine lv_lload_n hx hb d_Ar_fill_14 rfl (lv_at hl 3 rfl) ?_
  refine va_last hx hb hK hP hD hS 0 1 rfl rfl (vp_ofb (by decide)) d_Ar_fill_15 (fun H locs hP hD hS => ?_)
  have hP : va_P D classes (W_L4 cI cL g0 (vp_updL (vp_updL L (0 : Int32).toNatClampNeg v) (1 : Int32).toNatClampNeg v)) H := hP
  have hD : va_D A (W_L4 cI cL g0 (vp_updL (vp_updL L (0 : Int32).toNatClampNeg v) (1 : Int32).toNatClampNeg v)) := hD
  refine lv_iinc (k := 0) (v := 2) (lv' := [(3, .int _), (4, .int _), (0, .ref _), (1, .long _)]) hx hb d_Ar_fill_16 hl rfl (by decide) (by decide) rfl (fun ls hl => ?_)
  refine lv_goto (tgt := 6) hx hb d_Ar_fill_19 (by decide) ?_
  refine lv_iload_n hx hb d_Ar_fill_6 rfl (lv_at hl 0 rfl) ?_
  refine lv_iload hx hb d_Ar_fill_7 (lv_at hl 1 rfl) ?_
  refine lv_icmp_ge (tgt := 22) hx hb d_Ar_fill_9 (by decide) (fun h => absurd h (by decide)) (fun _ => ?_)
  refine lv_aload_n hx hb d_Ar_fill_12 rfl (lv_at hl 2 rfl) ?_
  refine lv_iload_n hx hb d_Ar_fill_13 rfl (lv_at hl 0 rfl) ?_
  refine lv_lload_n hx hb d_Ar_fill_14 rfl (lv_at hl 3 rfl) ?_
  refine va_last hx hb hK hP hD hS 0 1 rfl rfl (vp_ofb (by decide)) d_Ar_fill_15 (fun H locs hP hD hS => ?_)
  have hP : va_P D classes (W_L4 cI cL g0 (vp_updL (vp_updL (vp_updL L (0 : Int32).toNatClampNeg v) (1 : Int32).toNatClampNeg v) (2 : Int32).toNatClampNeg v)) H := hP
  have hD : va_D A (W_L4 cI cL g0 (vp_updL (vp_updL (vp_updL L (0 : Int32).toNatClampNeg v) (1 : Int32).toNatClampNeg v) (2 : Int32).toNatClampNeg v)) := hD
  refine lv_iinc (k := 0) (v := 3) (lv' := [(3, .int _), (4, .int _), (0, .ref _), (1, .long _)]) hx hb d_Ar_fill_16 hl rfl (by decide) (by decide) rfl (fun ls hl => ?_)
  refine lv_goto (tgt := 6) hx hb d_Ar_fill_19 (by decide) ?_
  refine lv_iload_n hx hb d_Ar_fill_6 rfl (lv_at hl 0 rfl) ?_
  refine lv_iload hx hb d_Ar_fill_7 (lv_at hl 1 rfl) ?_
  refine lv_icmp_ge (tgt := 22) hx hb d_Ar_fill_9 (by decide) (fun h => absurd h (by decide)) (fun _ => ?_)
  refine lv_aload_n hx hb d_Ar_fill_12 rfl (lv_at hl 2 rfl) ?_
  refine lv_iload_n hx hb d_Ar_fill_13 rfl (lv_at hl 0 rfl) ?_
  refine lv_lload_n hx hb d_Ar_fill_14 rfl (lv_at hl 3 rfl) ?_
  refine va_last hx hb hK hP hD hS 0 1 rfl rfl (vp_ofb (by decide)) d_Ar_fill_15 (fun H locs hP hD hS => ?_)
  have hP : va_P D classes (W_L4 cI cL g0 (vp_updL (vp_updL (vp_updL (vp_updL L (0 : Int32).toNatClampNeg v) (1 : Int32).toNatClampNeg v) (2 : Int32).toNatClampNeg v) (3 : Int32).toNatClampNeg v)) H := hP
  have hD : va_D A (W_L4 cI cL g0 (vp_updL (vp_updL (vp_updL (vp_updL L (0 : Int32).toNatClampNeg v) (1 : Int32).toNatClampNeg v) (2 : Int32).toNatClampNeg v) (3 : Int32).toNatClampNeg v)) := hD
  refine lv_iinc (k := 0) (v := 4) (lv' := [(3, .int _), (4, .int _), (0, .ref _), (1, .long _)]) hx hb d_Ar_fill_16 hl rfl (by decide) (by decide) rfl (fun ls hl => ?_)
  refine lv_goto (tgt := 6) hx hb d_Ar_fill_19 (by decide) ?_
  refine lv_iload_n hx hb d_Ar_fill_6 rfl (lv_at hl 0 rfl) ?_
  refine lv_iload hx hb d_Ar_fill_7 (lv_at hl 1 rfl) ?_
  refine lv_icmp_ge (tgt := 22) hx hb d_Ar_fill_9 (by decide) (fun _ => ?_) (fun h => absurd (by decide) h)
  exact W.vret hx hb hr (fun t ht hW => ⟨⟨(), rfl, trivial, by show va_P D classes _ t.heap; rw [ht]; exact hP⟩, hS.F ht⟩) hS.2.2 d_Ar_fill_22 hlocks
