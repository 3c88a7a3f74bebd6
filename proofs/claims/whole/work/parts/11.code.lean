abbrev q_Co_op (D : va_G) (cI cL : ClassId) (A : Nat → Prop)  (F : Int32) : Array Value → State → Outcome → State → Prop := va_Qi (fun r (_ : Unit) => r = F) (fun _ t => va_P D classes [] t.heap) A
set_option maxHeartbeats 4000000 in
set_option maxRecDepth 100000 in
theorem c_Co_op (l : Launch) (D : va_G) (cI cL : ClassId) (sz : Nat)  (k : Int32)  : Met l y_Co_op w_Co_op ({ frames := 0, cells := 0, slots := 0, locals := 0 }) (va_Pc [.int k] (PW D cI cL [] sz)) (q_Co_op D cI cL (va_A [] sz)  (f_Co_op k)) 0 0 (va_A [] sz) := by
  refine mk_met (Qf := fun A => q_Co_op D cI cL A  (f_Co_op k)) (by decide) (Nat.le_of_ble_eq_true rfl) ?_
  intro p e s m below meth c A ls hx hb hr hlocks hml hown hg hK hN hT hA hP hD hS hnm hl
  refine lv_iload_n hx hb d_Co_op_0 rfl (lv_at hl 0 rfl) ?_
  refine lv_bipush (v := 127) hx hb d_Co_op_1 (by decide) ?_
  refine lv_iand hx hb d_Co_op_3 ?_
  exact W.iret hx hb hr (fun t ht hW => ⟨⟨_, (), rfl, rfl, by show va_P D classes _ t.heap; rw [ht]; exact hP⟩, hS.F ht⟩) hS.2.2 d_Co_op_4 hlocks
abbrev q_Co_d (D : va_G) (cI cL : ClassId) (A : Nat → Prop)  (F : Int32) : Array Value → State → Outcome → State → Prop := va_Qi (fun r (_ : Unit) => r = F) (fun _ t => va_P D classes [] t.heap) A
set_option maxHeartbeats 4000000 in
set_option maxRecDepth 100000 in
theorem c_Co_d (l : Launch) (D : va_G) (cI cL : ClassId) (sz : Nat)  (k : Int32)  : Met l y_Co_d w_Co_d ({ frames := 0, cells := 0, slots := 0, locals := 0 }) (va_Pc [.int k] (PW D cI cL [] sz)) (q_Co_d D cI cL (va_A [] sz)  (f_Co_d k)) 0 0 (va_A [] sz) := by
  refine mk_met (Qf := fun A => q_Co_d D cI cL A  (f_Co_d k)) (by decide) (Nat.le_of_ble_eq_true rfl) ?_
  intro p e s m below meth c A ls hx hb hr hlocks hml hown hg hK hN hT hA hP hD hS hnm hl
  refine lv_iload_n hx hb d_Co_d_0 rfl (lv_at hl 0 rfl) ?_
  refine lv_bipush (v := 7) hx hb d_Co_d_1 (by decide) ?_
  refine lv_iushr (v := u_ush _ _) hx hb d_Co_d_3 rfl ?_
  refine lv_bipush (v := 31) hx hb d_Co_d_4 (by decide) ?_
  refine lv_iand hx hb d_Co_d_6 ?_
  exact W.iret hx hb hr (fun t ht hW => ⟨⟨_, (), rfl, rfl, by show va_P D classes _ t.heap; rw [ht]; exact hP⟩, hS.F ht⟩) hS.2.2 d_Co_d_7 hlocks
abbrev q_Co_f (D : va_G) (cI cL : ClassId) (A : Nat → Prop)  (F : Int32) : Array Value → State → Outcome → State → Prop := va_Qi (fun r (_ : Unit) => r = F) (fun _ t => va_P D classes [] t.heap) A
set_option maxHeartbeats 4000000 in
set_option maxRecDepth 100000 in
theorem c_Co_f (l : Launch) (D : va_G) (cI cL : ClassId) (sz : Nat)  (k : Int32)  : Met l y_Co_f w_Co_f ({ frames := 0, cells := 0, slots := 0, locals := 0 }) (va_Pc [.int k] (PW D cI cL [] sz)) (q_Co_f D cI cL (va_A [] sz)  (f_Co_f k)) 0 0 (va_A [] sz) := by
  refine mk_met (Qf := fun A => q_Co_f D cI cL A  (f_Co_f k)) (by decide) (Nat.le_of_ble_eq_true rfl) ?_
  intro p e s m below meth c A ls hx hb hr hlocks hml hown hg hK hN hT hA hP hD hS hnm hl
  refine lv_iload_n hx hb d_Co_f_0 rfl (lv_at hl 0 rfl) ?_
  refine lv_bipush (v := 12) hx hb d_Co_f_1 (by decide) ?_
  refine lv_iushr (v := u_ush _ _) hx hb d_Co_f_3 rfl ?_
  refine lv_bipush (v := 7) hx hb d_Co_f_4 (by decide) ?_
  refine lv_iand hx hb d_Co_f_6 ?_
  exact W.iret hx hb hr (fun t ht hW => ⟨⟨_, (), rfl, rfl, by show va_P D classes _ t.heap; rw [ht]; exact hP⟩, hS.F ht⟩) hS.2.2 d_Co_f_7 hlocks
abbrev q_Co_s (D : va_G) (cI cL : ClassId) (A : Nat → Prop)  (F : Int32) : Array Value → State → Outcome → State → Prop := va_Qi (fun r (_ : Unit) => r = F) (fun _ t => va_P D classes [] t.heap) A
set_option maxHeartbeats 4000000 in
set_option maxRecDepth 100000 in
theorem c_Co_s (l : Launch) (D : va_G) (cI cL : ClassId) (sz : Nat)  (k : Int32)  : Met l y_Co_s w_Co_s ({ frames := 0, cells := 0, slots := 0, locals := 0 }) (va_Pc [.int k] (PW D cI cL [] sz)) (q_Co_s D cI cL (va_A [] sz)  (f_Co_s k)) 0 0 (va_A [] sz) := by
  refine mk_met (Qf := fun A => q_Co_s D cI cL A  (f_Co_s k)) (by decide) (Nat.le_of_ble_eq_true rfl) ?_
  intro p e s m below meth c A ls hx hb hr hlocks hml hown hg hK hN hT hA hP hD hS hnm hl
  refine lv_iload_n hx hb d_Co_s_0 rfl (lv_at hl 0 rfl) ?_
  refine lv_bipush (v := 15) hx hb d_Co_s_1 (by decide) ?_
  refine lv_iushr (v := u_ush _ _) hx hb d_Co_s_3 rfl ?_
  refine lv_bipush (v := 31) hx hb d_Co_s_4 (by decide) ?_
  refine lv_iand hx hb d_Co_s_6 ?_
  exact W.iret hx hb hr (fun t ht hW => ⟨⟨_, (), rfl, rfl, by show va_P D classes _ t.heap; rw [ht]; exact hP⟩, hS.F ht⟩) hS.2.2 d_Co_s_7 hlocks
abbrev q_Co_t (D : va_G) (cI cL : ClassId) (A : Nat → Prop)  (F : Int32) : Array Value → State → Outcome → State → Prop := va_Qi (fun r (_ : Unit) => r = F) (fun _ t => va_P D classes [] t.heap) A
set_option maxHeartbeats 4000000 in
set_option maxRecDepth 100000 in
theorem c_Co_t (l : Launch) (D : va_G) (cI cL : ClassId) (sz : Nat)  (k : Int32)  : Met l y_Co_t w_Co_t ({ frames := 0, cells := 0, slots := 0, locals := 0 }) (va_Pc [.int k] (PW D cI cL [] sz)) (q_Co_t D cI cL (va_A [] sz)  (f_Co_t k)) 0 0 (va_A [] sz) := by
  refine mk_met (Qf := fun A => q_Co_t D cI cL A  (f_Co_t k)) (by decide) (Nat.le_of_ble_eq_true rfl) ?_
  intro p e s m below meth c A ls hx hb hr hlocks hml hown hg hK hN hT hA hP hD hS hnm hl
  refine lv_iload_n hx hb d_Co_t_0 rfl (lv_at hl 0 rfl) ?_
  refine lv_bipush (v := 20) hx hb d_Co_t_1 (by decide) ?_
  refine lv_iushr (v := u_ush _ _) hx hb d_Co_t_3 rfl ?_
  refine lv_bipush (v := 31) hx hb d_Co_t_4 (by decide) ?_
  refine lv_iand hx hb d_Co_t_6 ?_
  exact W.iret hx hb hr (fun t ht hW => ⟨⟨_, (), rfl, rfl, by show va_P D classes _ t.heap; rw [ht]; exact hP⟩, hS.F ht⟩) hS.2.2 d_Co_t_7 hlocks
abbrev q_Co_g (D : va_G) (cI cL : ClassId) (A : Nat → Prop)  (F : Int32) : Array Value → State → Outcome → State → Prop := va_Qi (fun r (_ : Unit) => r = F) (fun _ t => va_P D classes [] t.heap) A
set_option maxHeartbeats 4000000 in
set_option maxRecDepth 100000 in
theorem c_Co_g (l : Launch) (D : va_G) (cI cL : ClassId) (sz : Nat)  (k : Int32)  : Met l y_Co_g w_Co_g ({ frames := 0, cells := 0, slots := 0, locals := 0 }) (va_Pc [.int k] (PW D cI cL [] sz)) (q_Co_g D cI cL (va_A [] sz)  (f_Co_g k)) 0 0 (va_A [] sz) := by
  refine mk_met (Qf := fun A => q_Co_g D cI cL A  (f_Co_g k)) (by decide) (Nat.le_of_ble_eq_true rfl) ?_
  intro p e s m below meth c A ls hx hb hr hlocks hml hown hg hK hN hT hA hP hD hS hnm hl
  refine lv_iload_n hx hb d_Co_g_0 rfl (lv_at hl 0 rfl) ?_
  refine lv_bipush (v := 25) hx hb d_Co_g_1 (by decide) ?_
  refine lv_iushr (v := u_ush _ _) hx hb d_Co_g_3 rfl ?_
  exact W.iret hx hb hr (fun t ht hW => ⟨⟨_, (), rfl, rfl, by show va_P D classes _ t.heap; rw [ht]; exact hP⟩, hS.F ht⟩) hS.2.2 d_Co_g_4 hlocks
abbrev q_Co_i (D : va_G) (cI cL : ClassId) (A : Nat → Prop)  (F : Int32) : Array Value → State → Outcome → State → Prop := va_Qi (fun r (_ : Unit) => r = F) (fun _ t => va_P D classes [] t.heap) A
set_option maxHeartbeats 4000000 in
set_option maxRecDepth 100000 in
theorem c_Co_i (l : Launch) (D : va_G) (cI cL : ClassId) (sz : Nat)  (k : Int32)  : Met l y_Co_i w_Co_i ({ frames := 0, cells := 0, slots := 0, locals := 0 }) (va_Pc [.int k] (PW D cI cL [] sz)) (q_Co_i D cI cL (va_A [] sz)  (f_Co_i k)) 0 0 (va_A [] sz) := by
  refine mk_met (Qf := fun A => q_Co_i D cI cL A  (f_Co_i k)) (by decide) (Nat.le_of_ble_eq_true rfl) ?_
  intro p e s m below meth c A ls hx hb hr hlocks hml hown hg hK hN hT hA hP hD hS hnm hl
  refine lv_iload_n hx hb d_Co_i_0 rfl (lv_at hl 0 rfl) ?_
  refine lv_bipush (v := 20) hx hb d_Co_i_1 (by decide) ?_
  refine lv_ishr hx hb d_Co_i_3 ?_
  exact W.iret hx hb hr (fun t ht hW => ⟨⟨_, (), rfl, rfl, by show va_P D classes _ t.heap; rw [ht]; exact hP⟩, hS.F ht⟩) hS.2.2 d_Co_i_4 hlocks
abbrev q_Co_j (D : va_G) (cI cL : ClassId) (A : Nat → Prop)  (F : Int32) : Array Value → State → Outcome → State → Prop := va_Qi (fun r (_ : Unit) => r = F) (fun _ t => va_P D classes [] t.heap) A
set_option maxHeartbeats 4000000 in
set_option maxRecDepth 100000 in
theorem c_Co_j (l : Launch) (D : va_G) (cI cL : ClassId) (sz : Nat)  (k : Int32)  : Met l y_Co_j w_Co_j ({ frames := 1, cells := 0, slots := 0, locals := 20 }) (va_Pc [.int k] (PW D cI cL [] sz)) (q_Co_j D cI cL (va_A [] sz)  (f_Co_j k)) 0 0 (va_A [] sz) := by
  refine mk_met (Qf := fun A => q_Co_j D cI cL A  (f_Co_j k)) (by decide) (Nat.le_of_ble_eq_true rfl) ?_
  intro p e s m below meth c A ls hx hb hr hlocks hml hown hg hK hN hT hA hP hD hS hnm hl
  refine lv_iload_n hx hb d_Co_j_0 rfl (lv_at hl 0 rfl) ?_
  refine lv_bipush (v := 25) hx hb d_Co_j_1 (by decide) ?_
  refine lv_ishr hx hb d_Co_j_3 ?_
  refine lv_iconst (v := 5) hx hb d_Co_j_4 (by decide) ?_
  refine lv_ishl hx hb d_Co_j_5 ?_
  refine lv_iload_n hx hb d_Co_j_6 rfl (lv_at hl 0 rfl) ?_
  refine cj_i (wc := []) (w1 := []) hP hD hS hA [] rfl [] rfl rfl (va_runS (rest := [.int _]) ⟨hx, hb, hml, hown, hg⟩ (c_Co_d l D cI cL  _ k) ⟨callB_of 1 hg (gw_good m_355) rfl rfl rfl (hg _ m_74) (hg _ m_437) hd_Co_d ⟨Nat.le_of_ble_eq_true rfl, Nat.le_of_ble_eq_true rfl⟩, hg _ m_354⟩ (pw_S hK hN hT hA hP hD hS [] rfl (by decide)) rfl rfl hl.1 rfl (lv_room (Nat.le_of_ble_eq_true rfl)) d_Co_j_7 ⟨Nat.le_of_ble_eq_true rfl, Nat.le_of_ble_eq_true rfl⟩) (fun H locs hP hD hS => ?_)
  have hP : va_P D classes [] H := hP
  have hD : va_D A [] := hD
  refine lv_ior hx hb d_Co_j_10 ?_
  exact W.iret hx hb hr (fun t ht hW => ⟨⟨_, (), rfl, rfl, by show va_P D classes _ t.heap; rw [ht]; exact hP⟩, hS.F ht⟩) hS.2.2 d_Co_j_11 hlocks
abbrev q_Co_k (D : va_G) (cI cL : ClassId) (A : Nat → Prop)  (F : Int32) : Array Value → State → Outcome → State → Prop := va_Qi (fun r (_ : Unit) => r = F) (fun _ t => va_P D classes [] t.heap) A
set_option maxHeartbeats 4000000 in
set_option maxRecDepth 100000 in
theorem c_Co_k (l : Launch) (D : va_G) (cI cL : ClassId) (sz : Nat)  (k : Int32)  : Met l y_Co_k w_Co_k ({ frames := 0, cells := 0, slots := 0, locals := 0 }) (va_Pc [.int k] (PW D cI cL [] sz)) (q_Co_k D cI cL (va_A [] sz)  (f_Co_k k)) 0 0 (va_A [] sz) := by
  refine mk_met (Qf := fun A => q_Co_k D cI cL A  (f_Co_k k)) (by decide) (Nat.le_of_ble_eq_true rfl) ?_
  intro p e s m below meth c A ls hx hb hr hlocks hml hown hg hK hN hT hA hP hD hS hnm hl
  refine lv_iload_n hx hb d_Co_k_0 rfl (lv_at hl 0 rfl) ?_
  refine lv_bipush (v := 31) hx hb d_Co_k_1 (by decide) ?_
  refine lv_ishr hx hb d_Co_k_3 ?_
  refine lv_bipush (v := 12) hx hb d_Co_k_4 (by decide) ?_
  refine lv_ishl hx hb d_Co_k_6 ?_
  refine lv_iload_n hx hb d_Co_k_7 rfl (lv_at hl 0 rfl) ?_
  refine lv_bipush (v := 7) hx hb d_Co_k_8 (by decide) ?_
  refine lv_iushr (v := u_ush _ _) hx hb d_Co_k_10 rfl ?_
  refine lv_iconst (v := 1) hx hb d_Co_k_11 (by decide) ?_
  refine lv_iand hx hb d_Co_k_12 ?_
  refine lv_bipush (v := 11) hx hb d_Co_k_13 (by decide) ?_
  refine lv_ishl hx hb d_Co_k_15 ?_
  refine lv_ior hx hb d_Co_k_16 ?_
  refine lv_iload_n hx hb d_Co_k_17 rfl (lv_at hl 0 rfl) ?_
  refine lv_bipush (v := 25) hx hb d_Co_k_18 (by decide) ?_
  refine lv_iushr (v := u_ush _ _) hx hb d_Co_k_20 rfl ?_
  refine lv_bipush (v := 63) hx hb d_Co_k_21 (by decide) ?_
  refine lv_iand hx hb d_Co_k_23 ?_
  refine lv_iconst (v := 5) hx hb d_Co_k_24 (by decide) ?_
  refine lv_ishl hx hb d_Co_k_25 ?_
  refine lv_ior hx hb d_Co_k_26 ?_
  refine lv_iload_n hx hb d_Co_k_27 rfl (lv_at hl 0 rfl) ?_
  refine lv_bipush (v := 8) hx hb d_Co_k_28 (by decide) ?_
  refine lv_iushr (v := u_ush _ _) hx hb d_Co_k_30 rfl ?_
  refine lv_bipush (v := 15) hx hb d_Co_k_31 (by decide) ?_
  refine lv_iand hx hb d_Co_k_33 ?_
  refine lv_iconst (v := 1) hx hb d_Co_k_34 (by decide) ?_
  refine lv_ishl hx hb d_Co_k_35 ?_
  refine lv_ior hx hb d_Co_k_36 ?_
  exact W.iret hx hb hr (fun t ht hW => ⟨⟨_, (), rfl, rfl, by show va_P D classes _ t.heap; rw [ht]; exact hP⟩, hS.F ht⟩) hS.2.2 d_Co_k_37 hlocks
abbrev q_Co_u (D : va_G) (cI cL : ClassId) (A : Nat → Prop)  (F : Int32) : Array Value → State → Outcome → State → Prop := va_Qi (fun r (_ : Unit) => r = F) (fun _ t => va_P D classes [] t.heap) A
set_option maxHeartbeats 4000000 in
set_option maxRecDepth 100000 in
theorem c_Co_u (l : Launch) (D : va_G) (cI cL : ClassId) (sz : Nat)  (k : Int32)  : Met l y_Co_u w_Co_u ({ frames := 0, cells := 0, slots := 0, locals := 0 }) (va_Pc [.int k] (PW D cI cL [] sz)) (q_Co_u D cI cL (va_A [] sz)  (f_Co_u k)) 0 0 (va_A [] sz) := by
  refine mk_met (Qf := fun A => q_Co_u D cI cL A  (f_Co_u k)) (by decide) (Nat.le_of_ble_eq_true rfl) ?_
  intro p e s m below meth c A ls hx hb hr hlocks hml hown hg hK hN hT hA hP hD hS hnm hl
  refine lv_iload_n hx hb d_Co_u_0 rfl (lv_at hl 0 rfl) ?_
  refine lv_sipush (v := -4096) hx hb d_Co_u_1 (by decide) ?_
  refine lv_iand hx hb d_Co_u_4 ?_
  exact W.iret hx hb hr (fun t ht hW => ⟨⟨_, (), rfl, rfl, by show va_P D classes _ t.heap; rw [ht]; exact hP⟩, hS.F ht⟩) hS.2.2 d_Co_u_5 hlocks
abbrev q_Co_l (D : va_G) (cI cL : ClassId) (A : Nat → Prop)  (F : Int32) : Array Value → State → Outcome → State → Prop := va_Qi (fun r (_ : Unit) => r = F) (fun _ t => va_P D classes [] t.heap) A
set_option maxHeartbeats 4000000 in
set_option maxRecDepth 100000 in
theorem c_Co_l (l : Launch) (D : va_G) (cI cL : ClassId) (sz : Nat)  (k : Int32)  : Met l y_Co_l w_Co_l ({ frames := 0, cells := 0, slots := 0, locals := 0 }) (va_Pc [.int k] (PW D cI cL [] sz)) (q_Co_l D cI cL (va_A [] sz)  (f_Co_l k)) 0 0 (va_A [] sz) := by
  refine mk_met (Qf := fun A => q_Co_l D cI cL A  (f_Co_l k)) (by decide) (Nat.le_of_ble_eq_true rfl) ?_
  intro p e s m below meth c A ls hx hb hr hlocks hml hown hg hK hN hT hA hP hD hS hnm hl
  refine lv_iload_n hx hb d_Co_l_0 rfl (lv_at hl 0 rfl) ?_
  refine lv_bipush (v := 31) hx hb d_Co_l_1 (by decide) ?_
  refine lv_ishr hx hb d_Co_l_3 ?_
  refine lv_bipush (v := 20) hx hb d_Co_l_4 (by decide) ?_
  refine lv_ishl hx hb d_Co_l_6 ?_
  refine lv_iload_n hx hb d_Co_l_7 rfl (lv_at hl 0 rfl) ?_
  refine lv_ldc hx hb hown (hg _ m_374) d_Co_l_8 ?_
  refine lv_iand hx hb d_Co_l_10 ?_
  refine lv_ior hx hb d_Co_l_11 ?_
  refine lv_iload_n hx hb d_Co_l_12 rfl (lv_at hl 0 rfl) ?_
  refine lv_bipush (v := 20) hx hb d_Co_l_13 (by decide) ?_
  refine lv_iushr (v := u_ush _ _) hx hb d_Co_l_15 rfl ?_
  refine lv_iconst (v := 1) hx hb d_Co_l_16 (by decide) ?_
  refine lv_iand hx hb d_Co_l_17 ?_
  refine lv_bipush (v := 11) hx hb d_Co_l_18 (by decide) ?_
  refine lv_ishl hx hb d_Co_l_20 ?_
  refine lv_ior hx hb d_Co_l_21 ?_
  refine lv_iload_n hx hb d_Co_l_22 rfl (lv_at hl 0 rfl) ?_
  refine lv_bipush (v := 21) hx hb d_Co_l_23 (by decide) ?_
  refine lv_iushr (v := u_ush _ _) hx hb d_Co_l_25 rfl ?_
  refine lv_sipush (v := 1023) hx hb d_Co_l_26 (by decide) ?_
  refine lv_iand hx hb d_Co_l_29 ?_
  refine lv_iconst (v := 1) hx hb d_Co_l_30 (by decide) ?_
  refine lv_ishl hx hb d_Co_l_31 ?_
  refine lv_ior hx hb d_Co_l_32 ?_
  exact W.iret hx hb hr (fun t ht hW => ⟨⟨_, (), rfl, rfl, by show va_P D classes _ t.heap; rw [ht]; exact hP⟩, hS.F ht⟩) hS.2.2 d_Co_l_33 hlocks
abbrev q_Co_size (D : va_G) (cI cL : ClassId) (A : Nat → Prop)  (F : Int32) : Array Value → State → Outcome → State → Prop := va_Qi (fun r (_ : Unit) => r = F) (fun _ t => va_P D classes [] t.heap) A
set_option maxHeartbeats 4000000 in
set_option maxRecDepth 100000 in
theorem c_Co_size (l : Launch) (D : va_G) (cI cL : ClassId) (sz : Nat)  (k : Int32)  : Met l y_Co_size w_Co_size ({ frames := 0, cells := 0, slots := 0, locals := 0 }) (va_Pc [.int k] (PW D cI cL [] sz)) (q_Co_size D cI cL (va_A [] sz)  (f_Co_size k)) 0 0 (va_A [] sz) := by
  refine mk_met (Qf := fun A => q_Co_size D cI cL A  (f_Co_size k)) (by decide) (Nat.le_of_ble_eq_true rfl) ?_
  intro p e s m below meth c A ls hx hb hr hlocks hml hown hg hK hN hT hA hP hD hS hnm hl
  refine lv_iconst (v := 1) hx hb d_Co_size_0 (by decide) ?_
  refine lv_iload_n hx hb d_Co_size_1 rfl (lv_at hl 0 rfl) ?_
  refine lv_iconst (v := 3) hx hb d_Co_size_2 (by decide) ?_
  refine lv_iand hx hb d_Co_size_3 ?_
  refine lv_ishl hx hb d_Co_size_4 ?_
  exact W.iret hx hb hr (fun t ht hW => ⟨⟨_, (), rfl, rfl, by show va_P D classes _ t.heap; rw [ht]; exact hP⟩, hS.F ht⟩) hS.2.2 d_Co_size_5 hlocks
abbrev q_Co_shiftOf (D : va_G) (cI cL : ClassId) (A : Nat → Prop)  (F : Int32) : Array Value → State → Outcome → State → Prop := va_Qi (fun r (_ : Unit) => r = F) (fun _ t => va_P D classes [] t.heap) A
set_option maxHeartbeats 4000000 in
set_option maxRecDepth 100000 in
theorem c_Co_shiftOf (l : Launch) (D : va_G) (cI cL : ClassId) (sz : Nat)  (a : Int32)  : Met l y_Co_shiftOf w_Co_shiftOf ({ frames := 0, cells := 0, slots := 0, locals := 0 }) (va_Pc [.int a] (PW D cI cL [] sz)) (q_Co_shiftOf D cI cL (va_A [] sz)  (f_Co_shiftOf a)) 0 0 (va_A [] sz) := by
  refine mk_met (Qf := fun A => q_Co_shiftOf D cI cL A  (f_Co_shiftOf a)) (by decide) (Nat.le_of_ble_eq_true rfl) ?_
  intro p e s m below meth c A ls hx hb hr hlocks hml hown hg hK hN hT hA hP hD hS hnm hl
  refine lv_iload_n hx hb d_Co_shiftOf_0 rfl (lv_at hl 0 rfl) ?_
  refine lv_iconst (v := 3) hx hb d_Co_shiftOf_1 (by decide) ?_
  refine lv_iand hx hb d_Co_shiftOf_2 ?_
  refine lv_iconst (v := 3) hx hb d_Co_shiftOf_3 (by decide) ?_
  refine lv_ishl hx hb d_Co_shiftOf_4 ?_
  exact W.iret hx hb hr (fun t ht hW => ⟨⟨_, (), rfl, rfl, by show va_P D classes _ t.heap; rw [ht]; exact hP⟩, hS.F ht⟩) hS.2.2 d_Co_shiftOf_5 hlocks
abbrev q_Co_loaded (D : va_G) (cI cL : ClassId) (A : Nat → Prop)  (F : Int32) : Array Value → State → Outcome → State → Prop := va_Qi (fun r (_ : Unit) => r = F) (fun _ t => va_P D classes [] t.heap) A
theorem f_Co_loaded_e0 (f : Int32) (v : Int32)  (h1_0 : f = (0 : Int32)) : f_Co_loaded f v = ((v.toInt8.toInt32)) := by
  exact (if_pos h1_0)
theorem f_Co_loaded_e1 (f : Int32) (v : Int32)  (h1_0 : ¬ f = (0 : Int32)) (h1_1 : f = (1 : Int32)) : f_Co_loaded f v = ((v.toInt16.toInt32)) := by
  exact ((if_neg h1_0).trans (if_pos h1_1))
theorem f_Co_loaded_e2 (f : Int32) (v : Int32)  (h1_0 : ¬ f = (0 : Int32)) (h1_1 : ¬ f = (1 : Int32)) (h1_2 : f = (2 : Int32)) : f_Co_loaded f v = (v) := by
  exact ((if_neg h1_0).trans ((if_neg h1_1).trans (if_pos h1_2)))
theorem f_Co_loaded_e3 (f : Int32) (v : Int32)  (h1_0 : ¬ f = (0 : Int32)) (h1_1 : ¬ f = (1 : Int32)) (h1_2 : ¬ f = (2 : Int32)) (h1_3 : f = (3 : Int32)) : f_Co_loaded f v = (v) := by
  exact ((if_neg h1_0).trans ((if_neg h1_1).trans ((if_neg h1_2).trans (if_pos h1_3))))
theorem f_Co_loaded_e4 (f : Int32) (v : Int32)  (h1_0 : ¬ f = (0 : Int32)) (h1_1 : ¬ f = (1 : Int32)) (h1_2 : ¬ f = (2 : Int32)) (h1_3 : ¬ f = (3 : Int32)) (h1_4 : f = (4 : Int32)) : f_Co_loaded f v = ((v &&& (255 : Int32))) := by
  exact ((if_neg h1_0).trans ((if_neg h1_1).trans ((if_neg h1_2).trans ((if_neg h1_3).trans (if_pos h1_4)))))
theorem f_Co_loaded_e5 (f : Int32) (v : Int32)  (h1_0 : ¬ f = (0 : Int32)) (h1_1 : ¬ f = (1 : Int32)) (h1_2 : ¬ f = (2 : Int32)) (h1_3 : ¬ f = (3 : Int32)) (h1_4 : ¬ f = (4 : Int32)) (h1_5 : f = (5 : Int32)) : f_Co_loaded f v = ((v &&& (65535 : Int32))) := by
  exact ((if_neg h1_0).trans ((if_neg h1_1).trans ((if_neg h1_2).trans ((if_neg h1_3).trans ((if_neg h1_4).trans (if_pos h1_5))))))
theorem f_Co_loaded_e6 (f : Int32) (v : Int32)  (h1_0 : ¬ f = (0 : Int32)) (h1_1 : ¬ f = (1 : Int32)) (h1_2 : ¬ f = (2 : Int32)) (h1_3 : ¬ f = (3 : Int32)) (h1_4 : ¬ f = (4 : Int32)) (h1_5 : ¬ f = (5 : Int32)) : f_Co_loaded f v = (v) := by
  exact ((if_neg h1_0).trans ((if_neg h1_1).trans ((if_neg h1_2).trans ((if_neg h1_3).trans ((if_neg h1_4).trans (if_neg h1_5))))))
set_option maxHeartbeats 4000000 in
set_option maxRecDepth 100000 in
theorem c_Co_loaded (l : Launch) (D : va_G) (cI cL : ClassId) (sz : Nat)  (f : Int32) (v : Int32)  : Met l y_Co_loaded w_Co_loaded ({ frames := 0, cells := 0, slots := 0, locals := 0 }) (va_Pc [.int f, .int v] (PW D cI cL [] sz)) (q_Co_loaded D cI cL (va_A [] sz)  (f_Co_loaded f v)) 0 0 (va_A [] sz) := by
  refine mk_met (Qf := fun A => q_Co_loaded D cI cL A  (f_Co_loaded f v)) (by decide) (Nat.le_of_ble_eq_true rfl) ?_
  intro p e s m below meth c A ls hx hb hr hlocks hml hown hg hK hN hT hA hP hD hS hnm hl
  refine lv_iload_n hx hb d_Co_loaded_0 rfl (lv_at hl 0 rfl) ?_
  by_cases h1_0 : f = (0 : Int32)
  · refine lv_tableIn (tgt := 40) hx hb d_Co_loaded_1 (by rw [h1_0]; decide) (by rw [h1_0]; decide) (by rw [h1_0]; rfl) (by decide) ?_
    refine lv_iload_n hx hb d_Co_loaded_40 rfl (lv_at hl 1 rfl) ?_
    refine lv_i2b hx hb d_Co_loaded_41 rfl ?_
    rw [f_Co_loaded_e0 f v h1_0]
    exact W.iret hx hb hr (fun t ht hW => ⟨⟨_, (), rfl, rfl, by show va_P D classes _ t.heap; rw [ht]; exact hP⟩, hS.F ht⟩) hS.2.2 d_Co_loaded_42 hlocks
  · by_cases h1_1 : f = (1 : Int32)
    · refine lv_tableIn (tgt := 43) hx hb d_Co_loaded_1 (by rw [h1_1]; decide) (by rw [h1_1]; decide) (by rw [h1_1]; rfl) (by decide) ?_
      refine lv_iload_n hx hb d_Co_loaded_43 rfl (lv_at hl 1 rfl) ?_
      refine lv_i2s hx hb d_Co_loaded_44 rfl ?_
      rw [f_Co_loaded_e1 f v h1_0 h1_1]
      exact W.iret hx hb hr (fun t ht hW => ⟨⟨_, (), rfl, rfl, by show va_P D classes _ t.heap; rw [ht]; exact hP⟩, hS.F ht⟩) hS.2.2 d_Co_loaded_45 hlocks
    · by_cases h1_2 : f = (2 : Int32)
      · refine lv_tableIn (tgt := 57) hx hb d_Co_loaded_1 (by rw [h1_2]; decide) (by rw [h1_2]; decide) (by rw [h1_2]; rfl) (by decide) ?_
        refine lv_iload_n hx hb d_Co_loaded_57 rfl (lv_at hl 1 rfl) ?_
        rw [f_Co_loaded_e2 f v h1_0 h1_1 h1_2]
        exact W.iret hx hb hr (fun t ht hW => ⟨⟨_, (), rfl, rfl, by show va_P D classes _ t.heap; rw [ht]; exact hP⟩, hS.F ht⟩) hS.2.2 d_Co_loaded_58 hlocks
      · by_cases h1_3 : f = (3 : Int32)
        · refine lv_tableIn (tgt := 57) hx hb d_Co_loaded_1 (by rw [h1_3]; decide) (by rw [h1_3]; decide) (by rw [h1_3]; rfl) (by decide) ?_
          refine lv_iload_n hx hb d_Co_loaded_57 rfl (lv_at hl 1 rfl) ?_
          rw [f_Co_loaded_e3 f v h1_0 h1_1 h1_2 h1_3]
          exact W.iret hx hb hr (fun t ht hW => ⟨⟨_, (), rfl, rfl, by show va_P D classes _ t.heap; rw [ht]; exact hP⟩, hS.F ht⟩) hS.2.2 d_Co_loaded_58 hlocks
        · by_cases h1_4 : f = (4 : Int32)
          · refine lv_tableIn (tgt := 46) hx hb d_Co_loaded_1 (by rw [h1_4]; decide) (by rw [h1_4]; decide) (by rw [h1_4]; rfl) (by decide) ?_
            refine lv_iload_n hx hb d_Co_loaded_46 rfl (lv_at hl 1 rfl) ?_
            refine lv_sipush (v := 255) hx hb d_Co_loaded_47 (by decide) ?_
            refine lv_iand hx hb d_Co_loaded_50 ?_
            rw [f_Co_loaded_e4 f v h1_0 h1_1 h1_2 h1_3 h1_4]
            exact W.iret hx hb hr (fun t ht hW => ⟨⟨_, (), rfl, rfl, by show va_P D classes _ t.heap; rw [ht]; exact hP⟩, hS.F ht⟩) hS.2.2 d_Co_loaded_51 hlocks
          · by_cases h1_5 : f = (5 : Int32)
            · refine lv_tableIn (tgt := 52) hx hb d_Co_loaded_1 (by rw [h1_5]; decide) (by rw [h1_5]; decide) (by rw [h1_5]; rfl) (by decide) ?_
              refine lv_iload_n hx hb d_Co_loaded_52 rfl (lv_at hl 1 rfl) ?_
              refine lv_ldc hx hb hown (hg _ m_429) d_Co_loaded_53 ?_
              refine lv_iand hx hb d_Co_loaded_55 ?_
              rw [f_Co_loaded_e5 f v h1_0 h1_1 h1_2 h1_3 h1_4 h1_5]
              exact W.iret hx hb hr (fun t ht hW => ⟨⟨_, (), rfl, rfl, by show va_P D classes _ t.heap; rw [ht]; exact hP⟩, hS.F ht⟩) hS.2.2 d_Co_loaded_56 hlocks
            · refine lv_tableOut (tgt := 57) hx hb d_Co_loaded_1 (by have n0 := lv_neT (a := 0) h1_0 (by decide); have n1 := lv_neT (a := 1) h1_1 (by decide); have n2 := lv_neT (a := 2) h1_2 (by decide); have n3 := lv_neT (a := 3) h1_3 (by decide); have n4 := lv_neT (a := 4) h1_4 (by decide); have n5 := lv_neT (a := 5) h1_5 (by decide); omega) (by decide) ?_
              refine lv_iload_n hx hb d_Co_loaded_57 rfl (lv_at hl 1 rfl) ?_
              rw [f_Co_loaded_e6 f v h1_0 h1_1 h1_2 h1_3 h1_4 h1_5]
              exact W.iret hx hb hr (fun t ht hW => ⟨⟨_, (), rfl, rfl, by show va_P D classes _ t.heap; rw [ht]; exact hP⟩, hS.F ht⟩) hS.2.2 d_Co_loaded_58 hlocks
abbrev q_Co_isTaken (D : va_G) (cI cL : ClassId) (A : Nat → Prop)  (F : Int32) : Array Value → State → Outcome → State → Prop := va_Qi (fun r (_ : Unit) => r = F) (fun _ t => va_P D classes [] t.heap) A
theorem f_Co_isTaken_e0 (f : Int32) (a : Int32) (b : Int32)  (h1_0 : f = (0 : Int32)) (h46 : ¬ a = b) : f_Co_isTaken f a b = ((0 : Int32)) := by
  exact ((if_pos h1_0).trans (if_neg h46))
theorem f_Co_isTaken_e1 (f : Int32) (a : Int32) (b : Int32)  (h1_0 : f = (0 : Int32)) (h46 : a = b) : f_Co_isTaken f a b = ((1 : Int32)) := by
  exact ((if_pos h1_0).trans (if_pos h46))
theorem f_Co_isTaken_e2 (f : Int32) (a : Int32) (b : Int32)  (h1_0 : ¬ f = (0 : Int32)) (h1_1 : f = (1 : Int32)) (h57 : a = b) : f_Co_isTaken f a b = ((0 : Int32)) := by
  exact ((if_neg h1_0).trans ((if_pos h1_1).trans (if_pos h57)))
theorem f_Co_isTaken_e3 (f : Int32) (a : Int32) (b : Int32)  (h1_0 : ¬ f = (0 : Int32)) (h1_1 : f = (1 : Int32)) (h57 : ¬ a = b) : f_Co_isTaken f a b = ((1 : Int32)) := by
  exact ((if_neg h1_0).trans ((if_pos h1_1).trans (if_neg h57)))
theorem f_Co_isTaken_e4 (f : Int32) (a : Int32) (b : Int32)  (h1_0 : ¬ f = (0 : Int32)) (h1_1 : ¬ f = (1 : Int32)) (h1_2 : f = (2 : Int32)) (h107 : (f_In_compareUnsigned a b) < 0) : f_Co_isTaken f a b = ((0 : Int32)) := by
  exact ((if_neg h1_0).trans ((if_neg h1_1).trans ((if_pos h1_2).trans (if_pos h107))))
theorem f_Co_isTaken_e5 (f : Int32) (a : Int32) (b : Int32)  (h1_0 : ¬ f = (0 : Int32)) (h1_1 : ¬ f = (1 : Int32)) (h1_2 : f = (2 : Int32)) (h107 : ¬ (f_In_compareUnsigned a b) < 0) : f_Co_isTaken f a b = ((1 : Int32)) := by
  exact ((if_neg h1_0).trans ((if_neg h1_1).trans ((if_pos h1_2).trans (if_neg h107))))
theorem f_Co_isTaken_e6 (f : Int32) (a : Int32) (b : Int32)  (h1_0 : ¬ f = (0 : Int32)) (h1_1 : ¬ f = (1 : Int32)) (h1_2 : ¬ f = (2 : Int32)) (h1_3 : f = (3 : Int32)) (h107 : (f_In_compareUnsigned a b) < 0) : f_Co_isTaken f a b = ((0 : Int32)) := by
  exact ((if_neg h1_0).trans ((if_neg h1_1).trans ((if_neg h1_2).trans ((if_pos h1_3).trans (if_pos h107)))))
theorem f_Co_isTaken_e7 (f : Int32) (a : Int32) (b : Int32)  (h1_0 : ¬ f = (0 : Int32)) (h1_1 : ¬ f = (1 : Int32)) (h1_2 : ¬ f = (2 : Int32)) (h1_3 : f = (3 : Int32)) (h107 : ¬ (f_In_compareUnsigned a b) < 0) : f_Co_isTaken f a b = ((1 : Int32)) := by
  exact ((if_neg h1_0).trans ((if_neg h1_1).trans ((if_neg h1_2).trans ((if_pos h1_3).trans (if_neg h107)))))
theorem f_Co_isTaken_e8 (f : Int32) (a : Int32) (b : Int32)  (h1_0 : ¬ f = (0 : Int32)) (h1_1 : ¬ f = (1 : Int32)) (h1_2 : ¬ f = (2 : Int32)) (h1_3 : ¬ f = (3 : Int32)) (h1_4 : f = (4 : Int32)) (h68 : b ≤ a) : f_Co_isTaken f a b = ((0 : Int32)) := by
  exact ((if_neg h1_0).trans ((if_neg h1_1).trans ((if_neg h1_2).trans ((if_neg h1_3).trans ((if_pos h1_4).trans (if_pos h68))))))
theorem f_Co_isTaken_e9 (f : Int32) (a : Int32) (b : Int32)  (h1_0 : ¬ f = (0 : Int32)) (h1_1 : ¬ f = (1 : Int32)) (h1_2 : ¬ f = (2 : Int32)) (h1_3 : ¬ f = (3 : Int32)) (h1_4 : f = (4 : Int32)) (h68 : ¬ b ≤ a) : f_Co_isTaken f a b = ((1 : Int32)) := by
  exact ((if_neg h1_0).trans ((if_neg h1_1).trans ((if_neg h1_2).trans ((if_neg h1_3).trans ((if_pos h1_4).trans (if_neg h68))))))
theorem f_Co_isTaken_e10 (f : Int32) (a : Int32) (b : Int32)  (h1_0 : ¬ f = (0 : Int32)) (h1_1 : ¬ f = (1 : Int32)) (h1_2 : ¬ f = (2 : Int32)) (h1_3 : ¬ f = (3 : Int32)) (h1_4 : ¬ f = (4 : Int32)) (h1_5 : f = (5 : Int32)) (h79 : a < b) : f_Co_isTaken f a b = ((0 : Int32)) := by
  exact ((if_neg h1_0).trans ((if_neg h1_1).trans ((if_neg h1_2).trans ((if_neg h1_3).trans ((if_neg h1_4).trans ((if_pos h1_5).trans (if_pos h79)))))))
theorem f_Co_isTaken_e11 (f : Int32) (a : Int32) (b : Int32)  (h1_0 : ¬ f = (0 : Int32)) (h1_1 : ¬ f = (1 : Int32)) (h1_2 : ¬ f = (2 : Int32)) (h1_3 : ¬ f = (3 : Int32)) (h1_4 : ¬ f = (4 : Int32)) (h1_5 : f = (5 : Int32)) (h79 : ¬ a < b) : f_Co_isTaken f a b = ((1 : Int32)) := by
  exact ((if_neg h1_0).trans ((if_neg h1_1).trans ((if_neg h1_2).trans ((if_neg h1_3).trans ((if_neg h1_4).trans ((if_pos h1_5).trans (if_neg h79)))))))
theorem f_Co_isTaken_e12 (f : Int32) (a : Int32) (b : Int32)  (h1_0 : ¬ f = (0 : Int32)) (h1_1 : ¬ f = (1 : Int32)) (h1_2 : ¬ f = (2 : Int32)) (h1_3 : ¬ f = (3 : Int32)) (h1_4 : ¬ f = (4 : Int32)) (h1_5 : ¬ f = (5 : Int32)) (h1_6 : f = (6 : Int32)) (h93 : 0 ≤ (f_In_compareUnsigned a b)) : f_Co_isTaken f a b = ((0 : Int32)) := by
  exact ((if_neg h1_0).trans ((if_neg h1_1).trans ((if_neg h1_2).trans ((if_neg h1_3).trans ((if_neg h1_4).trans ((if_neg h1_5).trans ((if_pos h1_6).trans (if_pos h93))))))))
theorem f_Co_isTaken_e13 (f : Int32) (a : Int32) (b : Int32)  (h1_0 : ¬ f = (0 : Int32)) (h1_1 : ¬ f = (1 : Int32)) (h1_2 : ¬ f = (2 : Int32)) (h1_3 : ¬ f = (3 : Int32)) (h1_4 : ¬ f = (4 : Int32)) (h1_5 : ¬ f = (5 : Int32)) (h1_6 : f = (6 : Int32)) (h93 : ¬ 0 ≤ (f_In_compareUnsigned a b)) : f_Co_isTaken f a b = ((1 : Int32)) := by
  exact ((if_neg h1_0).trans ((if_neg h1_1).trans ((if_neg h1_2).trans ((if_neg h1_3).trans ((if_neg h1_4).trans ((if_neg h1_5).trans ((if_pos h1_6).trans (if_neg h93))))))))
theorem f_Co_isTaken_e14 (f : Int32) (a : Int32) (b : Int32)  (h1_0 : ¬ f = (0 : Int32)) (h1_1 : ¬ f = (1 : Int32)) (h1_2 : ¬ f = (2 : Int32)) (h1_3 : ¬ f = (3 : Int32)) (h1_4 : ¬ f = (4 : Int32)) (h1_5 : ¬ f = (5 : Int32)) (h1_6 : ¬ f = (6 : Int32)) (h107 : (f_In_compareUnsigned a b) < 0) : f_Co_isTaken f a b = ((0 : Int32)) := by
  exact ((if_neg h1_0).trans ((if_neg h1_1).trans ((if_neg h1_2).trans ((if_neg h1_3).trans ((if_neg h1_4).trans ((if_neg h1_5).trans ((if_neg h1_6).trans (if_pos h107))))))))
theorem f_Co_isTaken_e15 (f : Int32) (a : Int32) (b : Int32)  (h1_0 : ¬ f = (0 : Int32)) (h1_1 : ¬ f = (1 : Int32)) (h1_2 : ¬ f = (2 : Int32)) (h1_3 : ¬ f = (3 : Int32)) (h1_4 : ¬ f = (4 : Int32)) (h1_5 : ¬ f = (5 : Int32)) (h1_6 : ¬ f = (6 : Int32)) (h107 : ¬ (f_In_compareUnsigned a b) < 0) : f_Co_isTaken f a b = ((1 : Int32)) := by
  exact ((if_neg h1_0).trans ((if_neg h1_1).trans ((if_neg h1_2).trans ((if_neg h1_3).trans ((if_neg h1_4).trans ((if_neg h1_5).trans ((if_neg h1_6).trans (if_neg h107))))))))
set_option maxHeartbeats 4000000 in
set_option maxRecDepth 100000 in
theorem c_Co_isTaken (l : Launch) (D : va_G) (cI cL : ClassId) (sz : Nat)  (f : Int32) (a : Int32) (b : Int32)  : Met l y_Co_isTaken w_Co_isTaken ({ frames := 2, cells := 0, slots := 0, locals := 42 }) (va_Pc [.int f, .int a, .int b] (PW D cI cL [] sz)) (q_Co_isTaken D cI cL (va_A [] sz)  (f_Co_isTaken f a b)) 0 0 (va_A [] sz) := by
  refine mk_met (Qf := fun A => q_Co_isTaken D cI cL A  (f_Co_isTaken f a b)) (by decide) (Nat.le_of_ble_eq_true rfl) ?_
  intro p e s m below meth c A ls hx hb hr hlocks hml hown hg hK hN hT hA hP hD hS hnm hl
  refine lv_iload_n hx hb d_Co_isTaken_0 rfl (lv_at hl 0 rfl) ?_
  by_cases h1_0 : f = (0 : Int32)
  · refine lv_tableIn (tgt := 44) hx hb d_Co_isTaken_1 (by rw [h1_0]; decide) (by rw [h1_0]; decide) (by rw [h1_0]; rfl) (by decide) ?_
    refine lv_iload_n hx hb d_Co_isTaken_44 rfl (lv_at hl 1 rfl) ?_
    refine lv_iload_n hx hb d_Co_isTaken_45 rfl (lv_at hl 2 rfl) ?_
    refine lv_icmp_ne (tgt := 53) hx hb d_Co_isTaken_46 (by decide) (fun h46 => ?_) (fun h46 => ?_)
    · refine lv_iconst (v := 0) hx hb d_Co_isTaken_53 (by decide) ?_
      rw [f_Co_isTaken_e0 f a b h1_0 h46]
      exact W.zret hx hb hr rfl (fun t ht hW => ⟨⟨_, (), rfl, rfl, by show va_P D classes _ t.heap; rw [ht]; exact hP⟩, hS.F ht⟩) hS.2.2 d_Co_isTaken_54 hlocks
    · refine lv_iconst (v := 1) hx hb d_Co_isTaken_49 (by decide) ?_
      refine lv_goto (tgt := 54) hx hb d_Co_isTaken_50 (by decide) ?_
      rw [f_Co_isTaken_e1 f a b h1_0 h46]
      exact W.zret hx hb hr rfl (fun t ht hW => ⟨⟨_, (), rfl, rfl, by show va_P D classes _ t.heap; rw [ht]; exact hP⟩, hS.F ht⟩) hS.2.2 d_Co_isTaken_54 hlocks
  · by_cases h1_1 : f = (1 : Int32)
    · refine lv_tableIn (tgt := 55) hx hb d_Co_isTaken_1 (by rw [h1_1]; decide) (by rw [h1_1]; decide) (by rw [h1_1]; rfl) (by decide) ?_
      refine lv_iload_n hx hb d_Co_isTaken_55 rfl (lv_at hl 1 rfl) ?_
      refine lv_iload_n hx hb d_Co_isTaken_56 rfl (lv_at hl 2 rfl) ?_
      refine lv_icmp_eq (tgt := 64) hx hb d_Co_isTaken_57 (by decide) (fun h57 => ?_) (fun h57 => ?_)
      · refine lv_iconst (v := 0) hx hb d_Co_isTaken_64 (by decide) ?_
        rw [f_Co_isTaken_e2 f a b h1_0 h1_1 h57]
        exact W.zret hx hb hr rfl (fun t ht hW => ⟨⟨_, (), rfl, rfl, by show va_P D classes _ t.heap; rw [ht]; exact hP⟩, hS.F ht⟩) hS.2.2 d_Co_isTaken_65 hlocks
      · refine lv_iconst (v := 1) hx hb d_Co_isTaken_60 (by decide) ?_
        refine lv_goto (tgt := 65) hx hb d_Co_isTaken_61 (by decide) ?_
        rw [f_Co_isTaken_e3 f a b h1_0 h1_1 h57]
        exact W.zret hx hb hr rfl (fun t ht hW => ⟨⟨_, (), rfl, rfl, by show va_P D classes _ t.heap; rw [ht]; exact hP⟩, hS.F ht⟩) hS.2.2 d_Co_isTaken_65 hlocks
    · by_cases h1_2 : f = (2 : Int32)
      · refine lv_tableIn (tgt := 102) hx hb d_Co_isTaken_1 (by rw [h1_2]; decide) (by rw [h1_2]; decide) (by rw [h1_2]; rfl) (by decide) ?_
        refine lv_iload_n hx hb d_Co_isTaken_102 rfl (lv_at hl 1 rfl) ?_
        refine lv_iload_n hx hb d_Co_isTaken_103 rfl (lv_at hl 2 rfl) ?_
        refine cj_i (wc := []) (w1 := []) hP hD hS hA [] rfl [] rfl rfl (va_runS (rest := []) ⟨hx, hb, hml, hown, hg⟩ (c_In_compareUnsigned l D cI cL  _ a b) ⟨callB_of 2 hg (gw_good m_408) rfl rfl rfl (hg _ m_75) (hg _ m_406) hd_In_compareUnsigned ⟨Nat.le_of_ble_eq_true rfl, Nat.le_of_ble_eq_true rfl⟩, hg _ m_407⟩ (pw_S hK hN hT hA hP hD hS [] rfl (by decide)) rfl rfl hl.1 rfl (lv_room (Nat.le_of_ble_eq_true rfl)) d_Co_isTaken_104 ⟨Nat.le_of_ble_eq_true rfl, Nat.le_of_ble_eq_true rfl⟩) (fun H locs hP hD hS => ?_)
        have hP : va_P D classes [] H := hP
        have hD : va_D A [] := hD
        refine lv_if_lt (tgt := 114) hx hb d_Co_isTaken_107 (by decide) (fun h107 => ?_) (fun h107 => ?_)
        · refine lv_iconst (v := 0) hx hb d_Co_isTaken_114 (by decide) ?_
          rw [f_Co_isTaken_e4 f a b h1_0 h1_1 h1_2 h107]
          exact W.zret hx hb hr rfl (fun t ht hW => ⟨⟨_, (), rfl, rfl, by show va_P D classes _ t.heap; rw [ht]; exact hP⟩, hS.F ht⟩) hS.2.2 d_Co_isTaken_115 hlocks
        · refine lv_iconst (v := 1) hx hb d_Co_isTaken_110 (by decide) ?_
          refine lv_goto (tgt := 115) hx hb d_Co_isTaken_111 (by decide) ?_
          rw [f_Co_isTaken_e5 f a b h1_0 h1_1 h1_2 h107]
          exact W.zret hx hb hr rfl (fun t ht hW => ⟨⟨_, (), rfl, rfl, by show va_P D classes _ t.heap; rw [ht]; exact hP⟩, hS.F ht⟩) hS.2.2 d_Co_isTaken_115 hlocks
      · by_cases h1_3 : f = (3 : Int32)
        · refine lv_tableIn (tgt := 102) hx hb d_Co_isTaken_1 (by rw [h1_3]; decide) (by rw [h1_3]; decide) (by rw [h1_3]; rfl) (by decide) ?_
          refine lv_iload_n hx hb d_Co_isTaken_102 rfl (lv_at hl 1 rfl) ?_
          refine lv_iload_n hx hb d_Co_isTaken_103 rfl (lv_at hl 2 rfl) ?_
          refine cj_i (wc := []) (w1 := []) hP hD hS hA [] rfl [] rfl rfl (va_runS (rest := []) ⟨hx, hb, hml, hown, hg⟩ (c_In_compareUnsigned l D cI cL  _ a b) ⟨callB_of 2 hg (gw_good m_408) rfl rfl rfl (hg _ m_75) (hg _ m_406) hd_In_compareUnsigned ⟨Nat.le_of_ble_eq_true rfl, Nat.le_of_ble_eq_true rfl⟩, hg _ m_407⟩ (pw_S hK hN hT hA hP hD hS [] rfl (by decide)) rfl rfl hl.1 rfl (lv_room (Nat.le_of_ble_eq_true rfl)) d_Co_isTaken_104 ⟨Nat.le_of_ble_eq_true rfl, Nat.le_of_ble_eq_true rfl⟩) (fun H locs hP hD hS => ?_)
          have hP : va_P D classes [] H := hP
          have hD : va_D A [] := hD
          refine lv_if_lt (tgt := 114) hx hb d_Co_isTaken_107 (by decide) (fun h107 => ?_) (fun h107 => ?_)
          · refine lv_iconst (v := 0) hx hb d_Co_isTaken_114 (by decide) ?_
            rw [f_Co_isTaken_e6 f a b h1_0 h1_1 h1_2 h1_3 h107]
            exact W.zret hx hb hr rfl (fun t ht hW => ⟨⟨_, (), rfl, rfl, by show va_P D classes _ t.heap; rw [ht]; exact hP⟩, hS.F ht⟩) hS.2.2 d_Co_isTaken_115 hlocks
          · refine lv_iconst (v := 1) hx hb d_Co_isTaken_110 (by decide) ?_
            refine lv_goto (tgt := 115) hx hb d_Co_isTaken_111 (by decide) ?_
            rw [f_Co_isTaken_e7 f a b h1_0 h1_1 h1_2 h1_3 h107]
            exact W.zret hx hb hr rfl (fun t ht hW => ⟨⟨_, (), rfl, rfl, by show va_P D classes _ t.heap; rw [ht]; exact hP⟩, hS.F ht⟩) hS.2.2 d_Co_isTaken_115 hlocks
        · by_cases h1_4 : f = (4 : Int32)
          · refine lv_tableIn (tgt := 66) hx hb d_Co_isTaken_1 (by rw [h1_4]; decide) (by rw [h1_4]; decide) (by rw [h1_4]; rfl) (by decide) ?_
            refine lv_iload_n hx hb d_Co_isTaken_66 rfl (lv_at hl 1 rfl) ?_
            refine lv_iload_n hx hb d_Co_isTaken_67 rfl (lv_at hl 2 rfl) ?_
            refine lv_icmp_ge (tgt := 75) hx hb d_Co_isTaken_68 (by decide) (fun h68 => ?_) (fun h68 => ?_)
            · refine lv_iconst (v := 0) hx hb d_Co_isTaken_75 (by decide) ?_
              rw [f_Co_isTaken_e8 f a b h1_0 h1_1 h1_2 h1_3 h1_4 h68]
              exact W.zret hx hb hr rfl (fun t ht hW => ⟨⟨_, (), rfl, rfl, by show va_P D classes _ t.heap; rw [ht]; exact hP⟩, hS.F ht⟩) hS.2.2 d_Co_isTaken_76 hlocks
            · refine lv_iconst (v := 1) hx hb d_Co_isTaken_71 (by decide) ?_
              refine lv_goto (tgt := 76) hx hb d_Co_isTaken_72 (by decide) ?_
              rw [f_Co_isTaken_e9 f a b h1_0 h1_1 h1_2 h1_3 h1_4 h68]
              exact W.zret hx hb hr rfl (fun t ht hW => ⟨⟨_, (), rfl, rfl, by show va_P D classes _ t.heap; rw [ht]; exact hP⟩, hS.F ht⟩) hS.2.2 d_Co_isTaken_76 hlocks
          · by_cases h1_5 : f = (5 : Int32)
            · refine lv_tableIn (tgt := 77) hx hb d_Co_isTaken_1 (by rw [h1_5]; decide) (by rw [h1_5]; decide) (by rw [h1_5]; rfl) (by decide) ?_
              refine lv_iload_n hx hb d_Co_isTaken_77 rfl (lv_at hl 1 rfl) ?_
              refine lv_iload_n hx hb d_Co_isTaken_78 rfl (lv_at hl 2 rfl) ?_
              refine lv_icmp_lt (tgt := 86) hx hb d_Co_isTaken_79 (by decide) (fun h79 => ?_) (fun h79 => ?_)
              · refine lv_iconst (v := 0) hx hb d_Co_isTaken_86 (by decide) ?_
                rw [f_Co_isTaken_e10 f a b h1_0 h1_1 h1_2 h1_3 h1_4 h1_5 h79]
                exact W.zret hx hb hr rfl (fun t ht hW => ⟨⟨_, (), rfl, rfl, by show va_P D classes _ t.heap; rw [ht]; exact hP⟩, hS.F ht⟩) hS.2.2 d_Co_isTaken_87 hlocks
              · refine lv_iconst (v := 1) hx hb d_Co_isTaken_82 (by decide) ?_
                refine lv_goto (tgt := 87) hx hb d_Co_isTaken_83 (by decide) ?_
                rw [f_Co_isTaken_e11 f a b h1_0 h1_1 h1_2 h1_3 h1_4 h1_5 h79]
                exact W.zret hx hb hr rfl (fun t ht hW => ⟨⟨_, (), rfl, rfl, by show va_P D classes _ t.heap; rw [ht]; exact hP⟩, hS.F ht⟩) hS.2.2 d_Co_isTaken_87 hlocks
            · by_cases h1_6 : f = (6 : Int32)
              · refine lv_tableIn (tgt := 88) hx hb d_Co_isTaken_1 (by rw [h1_6]; decide) (by rw [h1_6]; decide) (by rw [h1_6]; rfl) (by decide) ?_
                refine lv_iload_n hx hb d_Co_isTaken_88 rfl (lv_at hl 1 rfl) ?_
                refine lv_iload_n hx hb d_Co_isTaken_89 rfl (lv_at hl 2 rfl) ?_
                refine cj_i (wc := []) (w1 := []) hP hD hS hA [] rfl [] rfl rfl (va_runS (rest := []) ⟨hx, hb, hml, hown, hg⟩ (c_In_compareUnsigned l D cI cL  _ a b) ⟨callB_of 2 hg (gw_good m_408) rfl rfl rfl (hg _ m_75) (hg _ m_406) hd_In_compareUnsigned ⟨Nat.le_of_ble_eq_true rfl, Nat.le_of_ble_eq_true rfl⟩, hg _ m_407⟩ (pw_S hK hN hT hA hP hD hS [] rfl (by decide)) rfl rfl hl.1 rfl (lv_room (Nat.le_of_ble_eq_true rfl)) d_Co_isTaken_90 ⟨Nat.le_of_ble_eq_true rfl, Nat.le_of_ble_eq_true rfl⟩) (fun H locs hP hD hS => ?_)
                have hP : va_P D classes [] H := hP
                have hD : va_D A [] := hD
                refine lv_if_ge (tgt := 100) hx hb d_Co_isTaken_93 (by decide) (fun h93 => ?_) (fun h93 => ?_)
                · refine lv_iconst (v := 0) hx hb d_Co_isTaken_100 (by decide) ?_
                  rw [f_Co_isTaken_e12 f a b h1_0 h1_1 h1_2 h1_3 h1_4 h1_5 h1_6 h93]
                  exact W.zret hx hb hr rfl (fun t ht hW => ⟨⟨_, (), rfl, rfl, by show va_P D classes _ t.heap; rw [ht]; exact hP⟩, hS.F ht⟩) hS.2.2 d_Co_isTaken_101 hlocks
                · refine lv_iconst (v := 1) hx hb d_Co_isTaken_96 (by decide) ?_
                  refine lv_goto (tgt := 101) hx hb d_Co_isTaken_97 (by decide) ?_
                  rw [f_Co_isTaken_e13 f a b h1_0 h1_1 h1_2 h1_3 h1_4 h1_5 h1_6 h93]
                  exact W.zret hx hb hr rfl (fun t ht hW => ⟨⟨_, (), rfl, rfl, by show va_P D classes _ t.heap; rw [ht]; exact hP⟩, hS.F ht⟩) hS.2.2 d_Co_isTaken_101 hlocks
              · refine lv_tableOut (tgt := 102) hx hb d_Co_isTaken_1 (by have n0 := lv_neT (a := 0) h1_0 (by decide); have n1 := lv_neT (a := 1) h1_1 (by decide); have n2 := lv_neT (a := 2) h1_2 (by decide); have n3 := lv_neT (a := 3) h1_3 (by decide); have n4 := lv_neT (a := 4) h1_4 (by decide); have n5 := lv_neT (a := 5) h1_5 (by decide); have n6 := lv_neT (a := 6) h1_6 (by decide); omega) (by decide) ?_
                refine lv_iload_n hx hb d_Co_isTaken_102 rfl (lv_at hl 1 rfl) ?_
                refine lv_iload_n hx hb d_Co_isTaken_103 rfl (lv_at hl 2 rfl) ?_
                refine cj_i (wc := []) (w1 := []) hP hD hS hA [] rfl [] rfl rfl (va_runS (rest := []) ⟨hx, hb, hml, hown, hg⟩ (c_In_compareUnsigned l D cI cL  _ a b) ⟨callB_of 2 hg (gw_good m_408) rfl rfl rfl (hg _ m_75) (hg _ m_406) hd_In_compareUnsigned ⟨Nat.le_of_ble_eq_true rfl, Nat.le_of_ble_eq_true rfl⟩, hg _ m_407⟩ (pw_S hK hN hT hA hP hD hS [] rfl (by decide)) rfl rfl hl.1 rfl (lv_room (Nat.le_of_ble_eq_true rfl)) d_Co_isTaken_104 ⟨Nat.le_of_ble_eq_true rfl, Nat.le_of_ble_eq_true rfl⟩) (fun H locs hP hD hS => ?_)
                have hP : va_P D classes [] H := hP
                have hD : va_D A [] := hD
                refine lv_if_lt (tgt := 114) hx hb d_Co_isTaken_107 (by decide) (fun h107 => ?_) (fun h107 => ?_)
                · refine lv_iconst (v := 0) hx hb d_Co_isTaken_114 (by decide) ?_
                  rw [f_Co_isTaken_e14 f a b h1_0 h1_1 h1_2 h1_3 h1_4 h1_5 h1_6 h107]
                  exact W.zret hx hb hr rfl (fun t ht hW => ⟨⟨_, (), rfl, rfl, by show va_P D classes _ t.heap; rw [ht]; exact hP⟩, hS.F ht⟩) hS.2.2 d_Co_isTaken_115 hlocks
                · refine lv_iconst (v := 1) hx hb d_Co_isTaken_110 (by decide) ?_
                  refine lv_goto (tgt := 115) hx hb d_Co_isTaken_111 (by decide) ?_
                  rw [f_Co_isTaken_e15 f a b h1_0 h1_1 h1_2 h1_3 h1_4 h1_5 h1_6 h107]
                  exact W.zret hx hb hr rfl (fun t ht hW => ⟨⟨_, (), rfl, rfl, by show va_P D classes _ t.heap; rw [ht]; exact hP⟩, hS.F ht⟩) hS.2.2 d_Co_isTaken_115 hlocks
abbrev q_Co_computed (D : va_G) (cI cL : ClassId) (A : Nat → Prop)  (F : Int32) : Array Value → State → Outcome → State → Prop := va_Qi (fun r (_ : Unit) => r = F) (fun _ t => va_P D classes [] t.heap) A
theorem f_Co_computed_e0 (f : Int32) (o : Int32) (a : Int32) (b : Int32)  (h1_0 : f = (0 : Int32)) (h45 : o = 0) : f_Co_computed f o a b = ((a + b)) := by
  exact ((if_pos h1_0).trans (if_pos h45))
theorem f_Co_computed_e1 (f : Int32) (o : Int32) (a : Int32) (b : Int32)  (h1_0 : f = (0 : Int32)) (h45 : ¬ o = 0) : f_Co_computed f o a b = ((a - b)) := by
  exact ((if_pos h1_0).trans (if_neg h45))
theorem f_Co_computed_e2 (f : Int32) (o : Int32) (a : Int32) (b : Int32)  (h1_0 : ¬ f = (0 : Int32)) (h1_1 : f = (1 : Int32)) : f_Co_computed f o a b = ((a <<< ((b &&& (31 : Int32)) &&& 31))) := by
  exact ((if_neg h1_0).trans (if_pos h1_1))
theorem f_Co_computed_e3 (f : Int32) (o : Int32) (a : Int32) (b : Int32)  (h1_0 : ¬ f = (0 : Int32)) (h1_1 : ¬ f = (1 : Int32)) (h1_2 : f = (2 : Int32)) (h67 : b ≤ a) : f_Co_computed f o a b = ((0 : Int32)) := by
  exact ((if_neg h1_0).trans ((if_neg h1_1).trans ((if_pos h1_2).trans (if_pos h67))))
theorem f_Co_computed_e4 (f : Int32) (o : Int32) (a : Int32) (b : Int32)  (h1_0 : ¬ f = (0 : Int32)) (h1_1 : ¬ f = (1 : Int32)) (h1_2 : f = (2 : Int32)) (h67 : ¬ b ≤ a) : f_Co_computed f o a b = ((1 : Int32)) := by
  exact ((if_neg h1_0).trans ((if_neg h1_1).trans ((if_pos h1_2).trans (if_neg h67))))
theorem f_Co_computed_e5 (f : Int32) (o : Int32) (a : Int32) (b : Int32)  (h1_0 : ¬ f = (0 : Int32)) (h1_1 : ¬ f = (1 : Int32)) (h1_2 : ¬ f = (2 : Int32)) (h1_3 : f = (3 : Int32)) (h81 : 0 ≤ (f_In_compareUnsigned a b)) : f_Co_computed f o a b = ((0 : Int32)) := by
  exact ((if_neg h1_0).trans ((if_neg h1_1).trans ((if_neg h1_2).trans ((if_pos h1_3).trans (if_pos h81)))))
theorem f_Co_computed_e6 (f : Int32) (o : Int32) (a : Int32) (b : Int32)  (h1_0 : ¬ f = (0 : Int32)) (h1_1 : ¬ f = (1 : Int32)) (h1_2 : ¬ f = (2 : Int32)) (h1_3 : f = (3 : Int32)) (h81 : ¬ 0 ≤ (f_In_compareUnsigned a b)) : f_Co_computed f o a b = ((1 : Int32)) := by
  exact ((if_neg h1_0).trans ((if_neg h1_1).trans ((if_neg h1_2).trans ((if_pos h1_3).trans (if_neg h81)))))
theorem f_Co_computed_e7 (f : Int32) (o : Int32) (a : Int32) (b : Int32)  (h1_0 : ¬ f = (0 : Int32)) (h1_1 : ¬ f = (1 : Int32)) (h1_2 : ¬ f = (2 : Int32)) (h1_3 : ¬ f = (3 : Int32)) (h1_4 : f = (4 : Int32)) : f_Co_computed f o a b = ((a ^^^ b)) := by
  exact ((if_neg h1_0).trans ((if_neg h1_1).trans ((if_neg h1_2).trans ((if_neg h1_3).trans (if_pos h1_4)))))
theorem f_Co_computed_e8 (f : Int32) (o : Int32) (a : Int32) (b : Int32)  (h1_0 : ¬ f = (0 : Int32)) (h1_1 : ¬ f = (1 : Int32)) (h1_2 : ¬ f = (2 : Int32)) (h1_3 : ¬ f = (3 : Int32)) (h1_4 : ¬ f = (4 : Int32)) (h1_5 : f = (5 : Int32)) (h95 : o = 0) : f_Co_computed f o a b = ((u_ush a (b &&& (31 : Int32)))) := by
  exact ((if_neg h1_0).trans ((if_neg h1_1).trans ((if_neg h1_2).trans ((if_neg h1_3).trans ((if_neg h1_4).trans ((if_pos h1_5).trans (if_pos h95)))))))
theorem f_Co_computed_e9 (f : Int32) (o : Int32) (a : Int32) (b : Int32)  (h1_0 : ¬ f = (0 : Int32)) (h1_1 : ¬ f = (1 : Int32)) (h1_2 : ¬ f = (2 : Int32)) (h1_3 : ¬ f = (3 : Int32)) (h1_4 : ¬ f = (4 : Int32)) (h1_5 : f = (5 : Int32)) (h95 : ¬ o = 0) : f_Co_computed f o a b = ((a >>> ((b &&& (31 : Int32)) &&& 31))) := by
  exact ((if_neg h1_0).trans ((if_neg h1_1).trans ((if_neg h1_2).trans ((if_neg h1_3).trans ((if_neg h1_4).trans ((if_pos h1_5).trans (if_neg h95)))))))
theorem f_Co_computed_e10 (f : Int32) (o : Int32) (a : Int32) (b : Int32)  (h1_0 : ¬ f = (0 : Int32)) (h1_1 : ¬ f = (1 : Int32)) (h1_2 : ¬ f = (2 : Int32)) (h1_3 : ¬ f = (3 : Int32)) (h1_4 : ¬ f = (4 : Int32)) (h1_5 : ¬ f = (5 : Int32)) (h1_6 : f = (6 : Int32)) : f_Co_computed f o a b = ((a ||| b)) := by
  exact ((if_neg h1_0).trans ((if_neg h1_1).trans ((if_neg h1_2).trans ((if_neg h1_3).trans ((if_neg h1_4).trans ((if_neg h1_5).trans (if_pos h1_6)))))))
theorem f_Co_computed_e11 (f : Int32) (o : Int32) (a : Int32) (b : Int32)  (h1_0 : ¬ f = (0 : Int32)) (h1_1 : ¬ f = (1 : Int32)) (h1_2 : ¬ f = (2 : Int32)) (h1_3 : ¬ f = (3 : Int32)) (h1_4 : ¬ f = (4 : Int32)) (h1_5 : ¬ f = (5 : Int32)) (h1_6 : ¬ f = (6 : Int32)) : f_Co_computed f o a b = ((a &&& b)) := by
  exact ((if_neg h1_0).trans ((if_neg h1_1).trans ((if_neg h1_2).trans ((if_neg h1_3).trans ((if_neg h1_4).trans ((if_neg h1_5).trans (if_neg h1_6)))))))
set_option maxHeartbeats 4000000 in
set_option maxRecDepth 100000 in
theorem c_Co_computed (l : Launch) (D : va_G) (cI cL : ClassId) (sz : Nat)  (f : Int32) (o : Int32) (a : Int32) (b : Int32)  : Met l y_Co_computed w_Co_computed ({ frames := 2, cells := 0, slots := 0, locals := 42 }) (va_Pc [.int f, .int o, .int a, .int b] (PW D cI cL [] sz)) (q_Co_computed D cI cL (va_A [] sz)  (f_Co_computed f o a b)) 0 0 (va_A [] sz) := by
  refine mk_met (Qf := fun A => q_Co_computed D cI cL A  (f_Co_computed f o a b)) (by decide) (Nat.le_of_ble_eq_true rfl) ?_
  intro p e s m below meth c A ls hx hb hr hlocks hml hown hg hK hN hT hA hP hD hS hnm hl
  refine lv_iload_n hx hb d_Co_computed_0 rfl (lv_at hl 0 rfl) ?_
  by_cases h1_0 : f = (0 : Int32)
  · refine lv_tableIn (tgt := 44) hx hb d_Co_computed_1 (by rw [h1_0]; decide) (by rw [h1_0]; decide) (by rw [h1_0]; rfl) (by decide) ?_
    refine lv_iload_n hx hb d_Co_computed_44 rfl (lv_at hl 1 rfl) ?_
    refine lv_if_eq (tgt := 54) hx hb d_Co_computed_45 (by decide) (fun h45 => ?_) (fun h45 => ?_)
    · refine lv_iload_n hx hb d_Co_computed_54 rfl (lv_at hl 2 rfl) ?_
      refine lv_iload_n hx hb d_Co_computed_55 rfl (lv_at hl 3 rfl) ?_
      refine lv_iadd hx hb d_Co_computed_56 ?_
      rw [f_Co_computed_e0 f o a b h1_0 h45]
      exact W.iret hx hb hr (fun t ht hW => ⟨⟨_, (), rfl, rfl, by show va_P D classes _ t.heap; rw [ht]; exact hP⟩, hS.F ht⟩) hS.2.2 d_Co_computed_57 hlocks
    · refine lv_iload_n hx hb d_Co_computed_48 rfl (lv_at hl 2 rfl) ?_
      refine lv_iload_n hx hb d_Co_computed_49 rfl (lv_at hl 3 rfl) ?_
      refine lv_isub hx hb d_Co_computed_50 ?_
      refine lv_goto (tgt := 57) hx hb d_Co_computed_51 (by decide) ?_
      rw [f_Co_computed_e1 f o a b h1_0 h45]
      exact W.iret hx hb hr (fun t ht hW => ⟨⟨_, (), rfl, rfl, by show va_P D classes _ t.heap; rw [ht]; exact hP⟩, hS.F ht⟩) hS.2.2 d_Co_computed_57 hlocks
  · by_cases h1_1 : f = (1 : Int32)
    · refine lv_tableIn (tgt := 58) hx hb d_Co_computed_1 (by rw [h1_1]; decide) (by rw [h1_1]; decide) (by rw [h1_1]; rfl) (by decide) ?_
      refine lv_iload_n hx hb d_Co_computed_58 rfl (lv_at hl 2 rfl) ?_
      refine lv_iload_n hx hb d_Co_computed_59 rfl (lv_at hl 3 rfl) ?_
      refine lv_bipush (v := 31) hx hb d_Co_computed_60 (by decide) ?_
      refine lv_iand hx hb d_Co_computed_62 ?_
      refine lv_ishl hx hb d_Co_computed_63 ?_
      rw [f_Co_computed_e2 f o a b h1_0 h1_1]
      exact W.iret hx hb hr (fun t ht hW => ⟨⟨_, (), rfl, rfl, by show va_P D classes _ t.heap; rw [ht]; exact hP⟩, hS.F ht⟩) hS.2.2 d_Co_computed_64 hlocks
    · by_cases h1_2 : f = (2 : Int32)
      · refine lv_tableIn (tgt := 65) hx hb d_Co_computed_1 (by rw [h1_2]; decide) (by rw [h1_2]; decide) (by rw [h1_2]; rfl) (by decide) ?_
        refine lv_iload_n hx hb d_Co_computed_65 rfl (lv_at hl 2 rfl) ?_
        refine lv_iload_n hx hb d_Co_computed_66 rfl (lv_at hl 3 rfl) ?_
        refine lv_icmp_ge (tgt := 74) hx hb d_Co_computed_67 (by decide) (fun h67 => ?_) (fun h67 => ?_)
        · refine lv_iconst (v := 0) hx hb d_Co_computed_74 (by decide) ?_
          rw [f_Co_computed_e3 f o a b h1_0 h1_1 h1_2 h67]
          exact W.iret hx hb hr (fun t ht hW => ⟨⟨_, (), rfl, rfl, by show va_P D classes _ t.heap; rw [ht]; exact hP⟩, hS.F ht⟩) hS.2.2 d_Co_computed_75 hlocks
        · refine lv_iconst (v := 1) hx hb d_Co_computed_70 (by decide) ?_
          refine lv_goto (tgt := 75) hx hb d_Co_computed_71 (by decide) ?_
          rw [f_Co_computed_e4 f o a b h1_0 h1_1 h1_2 h67]
          exact W.iret hx hb hr (fun t ht hW => ⟨⟨_, (), rfl, rfl, by show va_P D classes _ t.heap; rw [ht]; exact hP⟩, hS.F ht⟩) hS.2.2 d_Co_computed_75 hlocks
      · by_cases h1_3 : f = (3 : Int32)
        · refine lv_tableIn (tgt := 76) hx hb d_Co_computed_1 (by rw [h1_3]; decide) (by rw [h1_3]; decide) (by rw [h1_3]; rfl) (by decide) ?_
          refine lv_iload_n hx hb d_Co_computed_76 rfl (lv_at hl 2 rfl) ?_
          refine lv_iload_n hx hb d_Co_computed_77 rfl (lv_at hl 3 rfl) ?_
          refine cj_i (wc := []) (w1 := []) hP hD hS hA [] rfl [] rfl rfl (va_runS (rest := []) ⟨hx, hb, hml, hown, hg⟩ (c_In_compareUnsigned l D cI cL  _ a b) ⟨callB_of 2 hg (gw_good m_408) rfl rfl rfl (hg _ m_75) (hg _ m_406) hd_In_compareUnsigned ⟨Nat.le_of_ble_eq_true rfl, Nat.le_of_ble_eq_true rfl⟩, hg _ m_407⟩ (pw_S hK hN hT hA hP hD hS [] rfl (by decide)) rfl rfl hl.1 rfl (lv_room (Nat.le_of_ble_eq_true rfl)) d_Co_computed_78 ⟨Nat.le_of_ble_eq_true rfl, Nat.le_of_ble_eq_true rfl⟩) (fun H locs hP hD hS => ?_)
          have hP : va_P D classes [] H := hP
          have hD : va_D A [] := hD
          refine lv_if_ge (tgt := 88) hx hb d_Co_computed_81 (by decide) (fun h81 => ?_) (fun h81 => ?_)
          · refine lv_iconst (v := 0) hx hb d_Co_computed_88 (by decide) ?_
            rw [f_Co_computed_e5 f o a b h1_0 h1_1 h1_2 h1_3 h81]
            exact W.iret hx hb hr (fun t ht hW => ⟨⟨_, (), rfl, rfl, by show va_P D classes _ t.heap; rw [ht]; exact hP⟩, hS.F ht⟩) hS.2.2 d_Co_computed_89 hlocks
          · refine lv_iconst (v := 1) hx hb d_Co_computed_84 (by decide) ?_
            refine lv_goto (tgt := 89) hx hb d_Co_computed_85 (by decide) ?_
            rw [f_Co_computed_e6 f o a b h1_0 h1_1 h1_2 h1_3 h81]
            exact W.iret hx hb hr (fun t ht hW => ⟨⟨_, (), rfl, rfl, by show va_P D classes _ t.heap; rw [ht]; exact hP⟩, hS.F ht⟩) hS.2.2 d_Co_computed_89 hlocks
        · by_cases h1_4 : f = (4 : Int32)
          · refine lv_tableIn (tgt := 90) hx hb d_Co_computed_1 (by rw [h1_4]; decide) (by rw [h1_4]; decide) (by rw [h1_4]; rfl) (by decide) ?_
            refine lv_iload_n hx hb d_Co_computed_90 rfl (lv_at hl 2 rfl) ?_
            refine lv_iload_n hx hb d_Co_computed_91 rfl (lv_at hl 3 rfl) ?_
            refine lv_ixor hx hb d_Co_computed_92 ?_
            rw [f_Co_computed_e7 f o a b h1_0 h1_1 h1_2 h1_3 h1_4]
            exact W.iret hx hb hr (fun t ht hW => ⟨⟨_, (), rfl, rfl, by show va_P D classes _ t.heap; rw [ht]; exact hP⟩, hS.F ht⟩) hS.2.2 d_Co_computed_93 hlocks
          · by_cases h1_5 : f = (5 : Int32)
            · refine lv_tableIn (tgt := 94) hx hb d_Co_computed_1 (by rw [h1_5]; decide) (by rw [h1_5]; decide) (by rw [h1_5]; rfl) (by decide) ?_
              refine lv_iload_n hx hb d_Co_computed_94 rfl (lv_at hl 1 rfl) ?_
              refine lv_if_eq (tgt := 107) hx hb d_Co_computed_95 (by decide) (fun h95 => ?_) (fun h95 => ?_)
              · refine lv_iload_n hx hb d_Co_computed_107 rfl (lv_at hl 2 rfl) ?_
                refine lv_iload_n hx hb d_Co_computed_108 rfl (lv_at hl 3 rfl) ?_
                refine lv_bipush (v := 31) hx hb d_Co_computed_109 (by decide) ?_
                refine lv_iand hx hb d_Co_computed_111 ?_
                refine lv_iushr (v := u_ush _ _) hx hb d_Co_computed_112 rfl ?_
                rw [f_Co_computed_e8 f o a b h1_0 h1_1 h1_2 h1_3 h1_4 h1_5 h95]
                exact W.iret hx hb hr (fun t ht hW => ⟨⟨_, (), rfl, rfl, by show va_P D classes _ t.heap; rw [ht]; exact hP⟩, hS.F ht⟩) hS.2.2 d_Co_computed_113 hlocks
              · refine lv_iload_n hx hb d_Co_computed_98 rfl (lv_at hl 2 rfl) ?_
                refine lv_iload_n hx hb d_Co_computed_99 rfl (lv_at hl 3 rfl) ?_
                refine lv_bipush (v := 31) hx hb d_Co_computed_100 (by decide) ?_
                refine lv_iand hx hb d_Co_computed_102 ?_
                refine lv_ishr hx hb d_Co_computed_103 ?_
                refine lv_goto (tgt := 113) hx hb d_Co_computed_104 (by decide) ?_
                rw [f_Co_computed_e9 f o a b h1_0 h1_1 h1_2 h1_3 h1_4 h1_5 h95]
                exact W.iret hx hb hr (fun t ht hW => ⟨⟨_, (), rfl, rfl, by show va_P D classes _ t.heap; rw [ht]; exact hP⟩, hS.F ht⟩) hS.2.2 d_Co_computed_113 hlocks
            · by_cases h1_6 : f = (6 : Int32)
              · refine lv_tableIn (tgt := 114) hx hb d_Co_computed_1 (by rw [h1_6]; decide) (by rw [h1_6]; decide) (by rw [h1_6]; rfl) (by decide) ?_
                refine lv_iload_n hx hb d_Co_computed_114 rfl (lv_at hl 2 rfl) ?_
                refine lv_iload_n hx hb d_Co_computed_115 rfl (lv_at hl 3 rfl) ?_
                refine lv_ior hx hb d_Co_computed_116 ?_
                rw [f_Co_computed_e10 f o a b h1_0 h1_1 h1_2 h1_3 h1_4 h1_5 h1_6]
                exact W.iret hx hb hr (fun t ht hW => ⟨⟨_, (), rfl, rfl, by show va_P D classes _ t.heap; rw [ht]; exact hP⟩, hS.F ht⟩) hS.2.2 d_Co_computed_117 hlocks
              · refine lv_tableOut (tgt := 118) hx hb d_Co_computed_1 (by have n0 := lv_neT (a := 0) h1_0 (by decide); have n1 := lv_neT (a := 1) h1_1 (by decide); have n2 := lv_neT (a := 2) h1_2 (by decide); have n3 := lv_neT (a := 3) h1_3 (by decide); have n4 := lv_neT (a := 4) h1_4 (by decide); have n5 := lv_neT (a := 5) h1_5 (by decide); have n6 := lv_neT (a := 6) h1_6 (by decide); omega) (by decide) ?_
                refine lv_iload_n hx hb d_Co_computed_118 rfl (lv_at hl 2 rfl) ?_
                refine lv_iload_n hx hb d_Co_computed_119 rfl (lv_at hl 3 rfl) ?_
                refine lv_iand hx hb d_Co_computed_120 ?_
                rw [f_Co_computed_e11 f o a b h1_0 h1_1 h1_2 h1_3 h1_4 h1_5 h1_6]
                exact W.iret hx hb hr (fun t ht hW => ⟨⟨_, (), rfl, rfl, by show va_P D classes _ t.heap; rw [ht]; exact hP⟩, hS.F ht⟩) hS.2.2 d_Co_computed_121 hlocks
