abbrev q_Me_xorOfNumbers (D : va_G) (cI cL : ClassId) (A : Nat → Prop)  (F : Int32) : Array Value → State → Outcome → State → Prop := va_Qi (fun r (_ : Unit) => r = F) (fun _ t => va_P D classes [] t.heap) A
theorem f_Me_xorOfNumbers_e0 (x : Int64) (t1 : Int32) (t2 : Int32) (t3 : Int32) (t4 : Int32) (t5 : Int32) (t6 : Int32) (e_t1 : ((0 : Int32) ||| (((f_Lg_bitCount (x &&& (numL (0 : Int32).toNatClampNeg))) &&& (1 : Int32)) <<< ((0 : Int32) &&& 31))) = t1) (e_t2 : (t1 ||| (((f_Lg_bitCount (x &&& (numL (1 : Int32).toNatClampNeg))) &&& (1 : Int32)) <<< ((1 : Int32) &&& 31))) = t2) (e_t3 : (t2 ||| (((f_Lg_bitCount (x &&& (numL (2 : Int32).toNatClampNeg))) &&& (1 : Int32)) <<< ((2 : Int32) &&& 31))) = t3) (e_t4 : (t3 ||| (((f_Lg_bitCount (x &&& (numL (3 : Int32).toNatClampNeg))) &&& (1 : Int32)) <<< ((3 : Int32) &&& 31))) = t4) (e_t5 : (t4 ||| (((f_Lg_bitCount (x &&& (numL (4 : Int32).toNatClampNeg))) &&& (1 : Int32)) <<< ((4 : Int32) &&& 31))) = t5) (e_t6 : (t5 ||| (((f_Lg_bitCount (x &&& (numL (5 : Int32).toNatClampNeg))) &&& (1 : Int32)) <<< ((5 : Int32) &&& 31))) = t6) : f_Me_xorOfNumbers x = (t6) := by
  subst e_t6
  subst e_t5
  subst e_t4
  subst e_t3
  subst e_t2
  subst e_t1
  exact rfl
set_option maxHeartbeats 4000000 in
set_option maxRecDepth 100000 in
theorem c_Me_xorOfNumbers (l : Launch) (D : va_G) (cI cL : ClassId) (sz : Nat)  (x : Int64)  : Met l y_Me_xorOfNumbers w_Me_xorOfNumbers ({ frames := 1, cells := 0, slots := 0, locals := 21 }) (va_Pc [.long x] (PW D cI cL [] sz)) (q_Me_xorOfNumbers D cI cL (va_A [] sz)  (f_Me_xorOfNumbers x)) 0 0 (va_A [] sz) := by
  refine mk_met (Qf := fun A => q_Me_xorOfNumbers D cI cL A  (f_Me_xorOfNumbers x)) (by decide) (Nat.le_of_ble_eq_true rfl) ?_
  intro p e s m below meth c A ls hx hb hr hlocks hml hown hg hK hN hT hA hP hD hS hnm hl
  obtain ⟨tN, hT1, hT2⟩ := id hT
  refine lv_iconst (v := 0) hx hb d_Me_xorOfNumbers_0 (by decide) ?_
  refine lv_istore_n (lv' := [(2, .int _), (0, .long _)]) hx hb d_Me_xorOfNumbers_1 rfl hl (by decide) rfl (fun ls hl => ?_)
  refine lv_iconst (v := 0) hx hb d_Me_xorOfNumbers_2 (by decide) ?_
  refine lv_istore_n (lv' := [(3, .int _), (2, .int _), (0, .long _)]) hx hb d_Me_xorOfNumbers_3 rfl hl (by decide) rfl (fun ls hl => ?_)
  refine lv_iload_n hx hb d_Me_xorOfNumbers_4 rfl (lv_at hl 0 rfl) ?_
  refine va_gets hx hb hT1 hS hown (hg _ m_215) (fun _ h => h) d_Me_xorOfNumbers_5 ?_
  refine va_tlen (v := 6) hx hb hT2 hS rfl d_Me_xorOfNumbers_8 ?_
  refine lv_icmp_ge (tgt := 35) hx hb d_Me_xorOfNumbers_9 (by decide) (fun h => absurd h (by decide)) (fun _ => ?_)
  refine lv_iload_n hx hb d_Me_xorOfNumbers_12 rfl (lv_at hl 1 rfl) ?_
  refine lv_lload_n hx hb d_Me_xorOfNumbers_13 rfl (lv_at hl 2 rfl) ?_
  refine va_gets hx hb hT1 hS hown (hg _ m_215) (fun _ h => h) d_Me_xorOfNumbers_14 ?_
  refine lv_iload_n hx hb d_Me_xorOfNumbers_17 rfl (lv_at hl 0 rfl) ?_
  refine va_tl (v := .long (numL _)) hx hb hT2 hS (vp_ofb (by decide)) rfl d_Me_xorOfNumbers_18 ?_
  refine lv_land hx hb d_Me_xorOfNumbers_19 ?_
  refine cj_i (wc := []) (w1 := []) hP hD hS hA [] rfl [] rfl rfl (va_runS (rest := [.int _]) ⟨hx, hb, hml, hown, hg⟩ (c_Lg_bitCount l D cI cL  _ (x &&& (numL (0 : Int32).toNatClampNeg))) ⟨callB_of 1 hg (gw_good m_219) rfl rfl rfl (hg _ m_72) (hg _ m_217) hd_Lg_bitCount ⟨Nat.le_of_ble_eq_true rfl, Nat.le_of_ble_eq_true rfl⟩, hg _ m_218⟩ (pw_S hK hN hT hA hP hD hS [] rfl (by decide)) rfl rfl hl.1 rfl (lv_room (Nat.le_of_ble_eq_true rfl)) d_Me_xorOfNumbers_20 ⟨Nat.le_of_ble_eq_true rfl, Nat.le_of_ble_eq_true rfl⟩) (fun H locs hP hD hS => ?_)
  have hP : va_P D classes [] H := hP
  have hD : va_D A [] := hD
  refine lv_iconst (v := 1) hx hb d_Me_xorOfNumbers_23 (by decide) ?_
  refine lv_iand hx hb d_Me_xorOfNumbers_24 ?_
  refine lv_iload_n hx hb d_Me_xorOfNumbers_25 rfl (lv_at hl 0 rfl) ?_
  refine lv_ishl hx hb d_Me_xorOfNumbers_26 ?_
  refine lv_ior hx hb d_Me_xorOfNumbers_27 ?_
  refine lv_topi (fun t1 e_t1 => ?_)
  have e_t1 := e_t1.symm
  refine lv_istore_n (lv' := [(2, .int _), (3, .int _), (0, .long _)]) hx hb d_Me_xorOfNumbers_28 rfl hl (by decide) rfl (fun ls hl => ?_)
  refine lv_iinc (k := 1) (v := 1) (lv' := [(3, .int _), (2, .int _), (0, .long _)]) hx hb d_Me_xorOfNumbers_29 hl rfl (by decide) (by decide) rfl (fun ls hl => ?_)
  refine lv_goto (tgt := 4) hx hb d_Me_xorOfNumbers_32 (by decide) ?_
  refine lv_iload_n hx hb d_Me_xorOfNumbers_4 rfl (lv_at hl 0 rfl) ?_
  refine va_gets hx hb hT1 hS hown (hg _ m_215) (fun _ h => h) d_Me_xorOfNumbers_5 ?_
  refine va_tlen (v := 6) hx hb hT2 hS rfl d_Me_xorOfNumbers_8 ?_
  refine lv_icmp_ge (tgt := 35) hx hb d_Me_xorOfNumbers_9 (by decide) (fun h => absurd h (by decide)) (fun _ => ?_)
  refine lv_iload_n hx hb d_Me_xorOfNumbers_12 rfl (lv_at hl 1 rfl) ?_
  refine lv_lload_n hx hb d_Me_xorOfNumbers_13 rfl (lv_at hl 2 rfl) ?_
  refine va_gets hx hb hT1 hS hown (hg _ m_215) (fun _ h => h) d_Me_xorOfNumbers_14 ?_
  refine lv_iload_n hx hb d_Me_xorOfNumbers_17 rfl (lv_at hl 0 rfl) ?_
  refine va_tl (v := .long (numL _)) hx hb hT2 hS (vp_ofb (by decide)) rfl d_Me_xorOfNumbers_18 ?_
  refine lv_land hx hb d_Me_xorOfNumbers_19 ?_
  refine cj_i (wc := []) (w1 := []) hP hD hS hA [] rfl [] rfl rfl (va_runS (rest := [.int _]) ⟨hx, hb, hml, hown, hg⟩ (c_Lg_bitCount l D cI cL  _ (x &&& (numL (1 : Int32).toNatClampNeg))) ⟨callB_of 1 hg (gw_good m_219) rfl rfl rfl (hg _ m_72) (hg _ m_217) hd_Lg_bitCount ⟨Nat.le_of_ble_eq_true rfl, Nat.le_of_ble_eq_true rfl⟩, hg _ m_218⟩ (pw_S hK hN hT hA hP hD hS [] rfl (by decide)) rfl rfl hl.1 rfl (lv_room (Nat.le_of_ble_eq_true rfl)) d_Me_xorOfNumbers_20 ⟨Nat.le_of_ble_eq_true rfl, Nat.le_of_ble_eq_true rfl⟩) (fun H locs hP hD hS => ?_)
  have hP : va_P D classes [] H := hP
  have hD : va_D A [] := hD
  refine lv_iconst (v := 1) hx hb d_Me_xorOfNumbers_23 (by decide) ?_
  refine lv_iand hx hb d_Me_xorOfNumbers_24 ?_
  refine lv_iload_n hx hb d_Me_xorOfNumbers_25 rfl (lv_at hl 0 rfl) ?_
  refine lv_ishl hx hb d_Me_xorOfNumbers_26 ?_
  refine lv_ior hx hb d_Me_xorOfNumbers_27 ?_
  refine lv_topi (fun t2 e_t2 => ?_)
  have e_t2 := e_t2.symm
  refine lv_istore_n (lv' := [(2, .int _), (3, .int _), (0, .long _)]) hx hb d_Me_xorOfNumbers_28 rfl hl (by decide) rfl (fun ls hl => ?_)
  refine lv_iinc (k := 1) (v := 2) (lv' := [(3, .int _), (2, .int _), (0, .long _)]) hx hb d_Me_xorOfNumbers_29 hl rfl (by decide) (by decide) rfl (fun ls hl => ?_)
  refine lv_goto (tgt := 4) hx hb d_Me_xorOfNumbers_32 (by decide) ?_
  refine lv_iload_n hx hb d_Me_xorOfNumbers_4 rfl (lv_at hl 0 rfl) ?_
  refine va_gets hx hb hT1 hS hown (hg _ m_215) (fun _ h => h) d_Me_xorOfNumbers_5 ?_
  refine va_tlen (v := 6) hx hb hT2 hS rfl d_Me_xorOfNumbers_8 ?_
  refine lv_icmp_ge (tgt := 35) hx hb d_Me_xorOfNumbers_9 (by decide) (fun h => absurd h (by decide)) (fun _ => ?_)
  refine lv_iload_n hx hb d_Me_xorOfNumbers_12 rfl (lv_at hl 1 rfl) ?_
  refine lv_lload_n hx hb d_Me_xorOfNumbers_13 rfl (lv_at hl 2 rfl) ?_
  refine va_gets hx hb hT1 hS hown (hg _ m_215) (fun _ h => h) d_Me_xorOfNumbers_14 ?_
  refine lv_iload_n hx hb d_Me_xorOfNumbers_17 rfl (lv_at hl 0 rfl) ?_
  refine va_tl (v := .long (numL _)) hx hb hT2 hS (vp_ofb (by decide)) rfl d_Me_xorOfNumbers_18 ?_
  refine lv_land hx hb d_Me_xorOfNumbers_19 ?_
  refine cj_i (wc := []) (w1 := []) hP hD hS hA [] rfl [] rfl rfl (va_runS (rest := [.int _]) ⟨hx, hb, hml, hown, hg⟩ (c_Lg_bitCount l D cI cL  _ (x &&& (numL (2 : Int32).toNatClampNeg))) ⟨callB_of 1 hg (gw_good m_219) rfl rfl rfl (hg _ m_72) (hg _ m_217) hd_Lg_bitCount ⟨Nat.le_of_ble_eq_true rfl, Nat.le_of_ble_eq_true rfl⟩, hg _ m_218⟩ (pw_S hK hN hT hA hP hD hS [] rfl (by decide)) rfl rfl hl.1 rfl (lv_room (Nat.le_of_ble_eq_true rfl)) d_Me_xorOfNumbers_20 ⟨Nat.le_of_ble_eq_true rfl, Nat.le_of_ble_eq_true rfl⟩) (fun H locs hP hD hS => ?_)
  have hP : va_P D classes [] H := hP
  have hD : va_D A [] := hD
  refine lv_iconst (v := 1) hx hb d_Me_xorOfNumbers_23 (by decide) ?_
  refine lv_iand hx hb d_Me_xorOfNumbers_24 ?_
  refine lv_iload_n hx hb d_Me_xorOfNumbers_25 rfl (lv_at hl 0 rfl) ?_
  refine lv_ishl hx hb d_Me_xorOfNumbers_26 ?_
  refine lv_ior hx hb d_Me_xorOfNumbers_27 ?_
  refine lv_topi (fun t3 e_t3 => ?_)
  have e_t3 := e_t3.symm
  refine lv_istore_n (lv' := [(2, .int _), (3, .int _), (0, .long _)]) hx hb d_Me_xorOfNumbers_28 rfl hl (by decide) rfl (fun ls hl => ?_)
  refine lv_iinc (k := 1) (v := 3) (lv' := [(3, .int _), (2, .int _), (0, .long _)]) hx hb d_Me_xorOfNumbers_29 hl rfl (by decide) (by decide) rfl (fun ls hl => ?_)
  refine lv_goto (tgt := 4) hx hb d_Me_xorOfNumbers_32 (by decide) ?_
  refine lv_iload_n hx hb d_Me_xorOfNumbers_4 rfl (lv_at hl 0 rfl) ?_
  refine va_gets hx hb hT1 hS hown (hg _ m_215) (fun _ h => h) d_Me_xorOfNumbers_5 ?_
  refine va_tlen (v := 6) hx hb hT2 hS rfl d_Me_xorOfNumbers_8 ?_
  refine lv_icmp_ge (tgt := 35) hx hb d_Me_xorOfNumbers_9 (by decide) (fun h => absurd h (by decide)) (fun _ => ?_)
  refine lv_iload_n hx hb d_Me_xorOfNumbers_12 rfl (lv_at hl 1 rfl) ?_
  refine lv_lload_n hx hb d_Me_xorOfNumbers_13 rfl (lv_at hl 2 rfl) ?_
  refine va_gets hx hb hT1 hS hown (hg _ m_215) (fun _ h => h) d_Me_xorOfNumbers_14 ?_
  refine lv_iload_n hx hb d_Me_xorOfNumbers_17 rfl (lv_at hl 0 rfl) ?_
  refine va_tl (v := .long (numL _)) hx hb hT2 hS (vp_ofb (by decide)) rfl d_Me_xorOfNumbers_18 ?_
  refine lv_land hx hb d_Me_xorOfNumbers_19 ?_
  refine cj_i (wc := []) (w1 := []) hP hD hS hA [] rfl [] rfl rfl (va_runS (rest := [.int _]) ⟨hx, hb, hml, hown, hg⟩ (c_Lg_bitCount l D cI cL  _ (x &&& (numL (3 : Int32).toNatClampNeg))) ⟨callB_of 1 hg (gw_good m_219) rfl rfl rfl (hg _ m_72) (hg _ m_217) hd_Lg_bitCount ⟨Nat.le_of_ble_eq_true rfl, Nat.le_of_ble_eq_true rfl⟩, hg _ m_218⟩ (pw_S hK hN hT hA hP hD hS [] rfl (by decide)) rfl rfl hl.1 rfl (lv_room (Nat.le_of_ble_eq_true rfl)) d_Me_xorOfNumbers_20 ⟨Nat.le_of_ble_eq_true rfl, Nat.le_of_ble_eq_true rfl⟩) (fun H locs hP hD hS => ?_)
  have hP : va_P D classes [] H := hP
  have hD : va_D A [] := hD
  refine lv_iconst (v := 1) hx hb d_Me_xorOfNumbers_23 (by decide) ?_
  refine lv_iand hx hb d_Me_xorOfNumbers_24 ?_
  refine lv_iload_n hx hb d_Me_xorOfNumbers_25 rfl (lv_at hl 0 rfl) ?_
  refine lv_ishl hx hb d_Me_xorOfNumbers_26 ?_
  refine lv_ior hx hb d_Me_xorOfNumbers_27 ?_
  refine lv_topi (fun t4 e_t4 => ?_)
  have e_t4 := e_t4.symm
  refine lv_istore_n (lv' := [(2, .int _), (3, .int _), (0, .long _)]) hx hb d_Me_xorOfNumbers_28 rfl hl (by decide) rfl (fun ls hl => ?_)
  refine lv_iinc (k := 1) (v := 4) (lv' := [(3, .int _), (2, .int _), (0, .long _)]) hx hb d_Me_xorOfNumbers_29 hl rfl (by decide) (by decide) rfl (fun ls hl => ?_)
  refine lv_goto (tgt := 4) hx hb d_Me_xorOfNumbers_32 (by decide) ?_
  refine lv_iload_n hx hb d_Me_xorOfNumbers_4 rfl (lv_at hl 0 rfl) ?_
  refine va_gets hx hb hT1 hS hown (hg _ m_215) (fun _ h => h) d_Me_xorOfNumbers_5 ?_
  refine va_tlen (v := 6) hx hb hT2 hS rfl d_Me_xorOfNumbers_8 ?_
  refine lv_icmp_ge (tgt := 35) hx hb d_Me_xorOfNumbers_9 (by decide) (fun h => absurd h (by decide)) (fun _ => ?_)
  refine lv_iload_n hx hb d_Me_xorOfNumbers_12 rfl (lv_at hl 1 rfl) ?_
  refine lv_lload_n hx hb d_Me_xorOfNumbers_13 rfl (lv_at hl 2 rfl) ?_
  refine va_gets hx hb hT1 hS hown (hg _ m_215) (fun _ h => h) d_Me_xorOfNumbers_14 ?_
  refine lv_iload_n hx hb d_Me_xorOfNumbers_17 rfl (lv_at hl 0 rfl) ?_
  refine va_tl (v := .long (numL _)) hx hb hT2 hS (vp_ofb (by decide)) rfl d_Me_xorOfNumbers_18 ?_
  refine lv_land hx hb d_Me_xorOfNumbers_19 ?_
  refine cj_i (wc := []) (w1 := []) hP hD hS hA [] rfl [] rfl rfl (va_runS (rest := [.int _]) ⟨hx, hb, hml, hown, hg⟩ (c_Lg_bitCount l D cI cL  _ (x &&& (numL (4 : Int32).toNatClampNeg))) ⟨callB_of 1 hg (gw_good m_219) rfl rfl rfl (hg _ m_72) (hg _ m_217) hd_Lg_bitCount ⟨Nat.le_of_ble_eq_true rfl, Nat.le_of_ble_eq_true rfl⟩, hg _ m_218⟩ (pw_S hK hN hT hA hP hD hS [] rfl (by decide)) rfl rfl hl.1 rfl (lv_room (Nat.le_of_ble_eq_true rfl)) d_Me_xorOfNumbers_20 ⟨Nat.le_of_ble_eq_true rfl, Nat.le_of_ble_eq_true rfl⟩) (fun H locs hP hD hS => ?_)
  have hP : va_P D classes [] H := hP
  have hD : va_D A [] := hD
  refine lv_iconst (v := 1) hx hb d_Me_xorOfNumbers_23 (by decide) ?_
  refine lv_iand hx hb d_Me_xorOfNumbers_24 ?_
  refine lv_iload_n hx hb d_Me_xorOfNumbers_25 rfl (lv_at hl 0 rfl) ?_
  refine lv_ishl hx hb d_Me_xorOfNumbers_26 ?_
  refine lv_ior hx hb d_Me_xorOfNumbers_27 ?_
  refine lv_topi (fun t5 e_t5 => ?_)
  have e_t5 := e_t5.symm
  refine lv_istore_n (lv' := [(2, .int _), (3, .int _), (0, .long _)]) hx hb d_Me_xorOfNumbers_28 rfl hl (by decide) rfl (fun ls hl => ?_)
  refine lv_iinc (k := 1) (v := 5) (lv' := [(3, .int _), (2, .int _), (0, .long _)]) hx hb d_Me_xorOfNumbers_29 hl rfl (by decide) (by decide) rfl (fun ls hl => ?_)
  refine lv_goto (tgt := 4) hx hb d_Me_xorOfNumbers_32 (by decide) ?_
  refine lv_iload_n hx hb d_Me_xorOfNumbers_4 rfl (lv_at hl 0 rfl) ?_
  refine va_gets hx hb hT1 hS hown (hg _ m_215) (fun _ h => h) d_Me_xorOfNumbers_5 ?_
  refine va_tlen (v := 6) hx hb hT2 hS rfl d_Me_xorOfNumbers_8 ?_
  refine lv_icmp_ge (tgt := 35) hx hb d_Me_xorOfNumbers_9 (by decide) (fun h => absurd h (by decide)) (fun _ => ?_)
  refine lv_iload_n hx hb d_Me_xorOfNumbers_12 rfl (lv_at hl 1 rfl) ?_
  refine lv_lload_n hx hb d_Me_xorOfNumbers_13 rfl (lv_at hl 2 rfl) ?_
  refine va_gets hx hb hT1 hS hown (hg _ m_215) (fun _ h => h) d_Me_xorOfNumbers_14 ?_
  refine lv_iload_n hx hb d_Me_xorOfNumbers_17 rfl (lv_at hl 0 rfl) ?_
  refine va_tl (v := .long (numL _)) hx hb hT2 hS (vp_ofb (by decide)) rfl d_Me_xorOfNumbers_18 ?_
  refine lv_land hx hb d_Me_xorOfNumbers_19 ?_
  refine cj_i (wc := []) (w1 := []) hP hD hS hA [] rfl [] rfl rfl (va_runS (rest := [.int _]) ⟨hx, hb, hml, hown, hg⟩ (c_Lg_bitCount l D cI cL  _ (x &&& (numL (5 : Int32).toNatClampNeg))) ⟨callB_of 1 hg (gw_good m_219) rfl rfl rfl (hg _ m_72) (hg _ m_217) hd_Lg_bitCount ⟨Nat.le_of_ble_eq_true rfl, Nat.le_of_ble_eq_true rfl⟩, hg _ m_218⟩ (pw_S hK hN hT hA hP hD hS [] rfl (by decide)) rfl rfl hl.1 rfl (lv_room (Nat.le_of_ble_eq_true rfl)) d_Me_xorOfNumbers_20 ⟨Nat.le_of_ble_eq_true rfl, Nat.le_of_ble_eq_true rfl⟩) (fun H locs hP hD hS => ?_)
  have hP : va_P D classes [] H := hP
  have hD : va_D A [] := hD
  refine lv_iconst (v := 1) hx hb d_Me_xorOfNumbers_23 (by decide) ?_
  refine lv_iand hx hb d_Me_xorOfNumbers_24 ?_
  refine lv_iload_n hx hb d_Me_xorOfNumbers_25 rfl (lv_at hl 0 rfl) ?_
  refine lv_ishl hx hb d_Me_xorOfNumbers_26 ?_
  refine lv_ior hx hb d_Me_xorOfNumbers_27 ?_
  refine lv_topi (fun t6 e_t6 => ?_)
  have e_t6 := e_t6.symm
  refine lv_istore_n (lv' := [(2, .int _), (3, .int _), (0, .long _)]) hx hb d_Me_xorOfNumbers_28 rfl hl (by decide) rfl (fun ls hl => ?_)
  refine lv_iinc (k := 1) (v := 6) (lv' := [(3, .int _), (2, .int _), (0, .long _)]) hx hb d_Me_xorOfNumbers_29 hl rfl (by decide) (by decide) rfl (fun ls hl => ?_)
  refine lv_goto (tgt := 4) hx hb d_Me_xorOfNumbers_32 (by decide) ?_
  refine lv_iload_n hx hb d_Me_xorOfNumbers_4 rfl (lv_at hl 0 rfl) ?_
  refine va_gets hx hb hT1 hS hown (hg _ m_215) (fun _ h => h) d_Me_xorOfNumbers_5 ?_
  refine va_tlen (v := 6) hx hb hT2 hS rfl d_Me_xorOfNumbers_8 ?_
  refine lv_icmp_ge (tgt := 35) hx hb d_Me_xorOfNumbers_9 (by decide) (fun _ => ?_) (fun h => absurd (by decide) h)
  refine lv_iload_n hx hb d_Me_xorOfNumbers_35 rfl (lv_at hl 1 rfl) ?_
  rw [f_Me_xorOfNumbers_e0 x t1 t2 t3 t4 t5 t6 e_t1 e_t2 e_t3 e_t4 e_t5 e_t6]
  exact W.iret hx hb hr (fun t ht hW => ⟨⟨_, (), rfl, rfl, by show va_P D classes _ t.heap; rw [ht]; exact hP⟩, hS.F ht⟩) hS.2.2 d_Me_xorOfNumbers_36 hlocks
abbrev q_Me_spread (D : va_G) (cI cL : ClassId) (A : Nat → Prop)  (F : Int64) : Array Value → State → Outcome → State → Prop := va_Ql (fun r (_ : Unit) => r = F) (fun _ t => va_P D classes [] t.heap) A
set_option maxHeartbeats 4000000 in
set_option maxRecDepth 100000 in
theorem c_Me_spread (l : Launch) (D : va_G) (cI cL : ClassId) (sz : Nat)  (v : Int32)  : Met l y_Me_spread w_Me_spread ({ frames := 0, cells := 0, slots := 0, locals := 0 }) (va_Pc [.int v] (PW D cI cL [] sz)) (q_Me_spread D cI cL (va_A [] sz)  (f_Me_spread v)) 0 0 (va_A [] sz) := by
  refine mk_met (Qf := fun A => q_Me_spread D cI cL A  (f_Me_spread v)) (by decide) (Nat.le_of_ble_eq_true rfl) ?_
  intro p e s m below meth c A ls hx hb hr hlocks hml hown hg hK hN hT hA hP hD hS hnm hl
  refine lv_iload_n hx hb d_Me_spread_0 rfl (lv_at hl 0 rfl) ?_
  refine lv_i2l hx hb d_Me_spread_1 rfl ?_
  refine lv_lconst (v := 1) hx hb d_Me_spread_2 (by decide) ?_
  refine lv_land hx hb d_Me_spread_3 ?_
  refine lv_iconst (v := 3) hx hb d_Me_spread_4 (by decide) ?_
  refine lv_lshl (v := u_lshl _ _) hx hb d_Me_spread_5 rfl ?_
  refine lv_iload_n hx hb d_Me_spread_6 rfl (lv_at hl 0 rfl) ?_
  refine lv_i2l hx hb d_Me_spread_7 rfl ?_
  refine lv_ldc2 hx hb hown (hg _ m_208) d_Me_spread_8 ?_
  refine lv_land hx hb d_Me_spread_11 ?_
  refine lv_iconst (v := 4) hx hb d_Me_spread_12 (by decide) ?_
  refine lv_lshl (v := u_lshl _ _) hx hb d_Me_spread_13 rfl ?_
  refine lv_lor hx hb d_Me_spread_14 ?_
  refine lv_iload_n hx hb d_Me_spread_15 rfl (lv_at hl 0 rfl) ?_
  refine lv_i2l hx hb d_Me_spread_16 rfl ?_
  refine lv_ldc2 hx hb hown (hg _ m_209) d_Me_spread_17 ?_
  refine lv_land hx hb d_Me_spread_20 ?_
  refine lv_iconst (v := 5) hx hb d_Me_spread_21 (by decide) ?_
  refine lv_lshl (v := u_lshl _ _) hx hb d_Me_spread_22 rfl ?_
  refine lv_lor hx hb d_Me_spread_23 ?_
  refine lv_iload_n hx hb d_Me_spread_24 rfl (lv_at hl 0 rfl) ?_
  refine lv_i2l hx hb d_Me_spread_25 rfl ?_
  refine lv_ldc2 hx hb hown (hg _ m_210) d_Me_spread_26 ?_
  refine lv_land hx hb d_Me_spread_29 ?_
  refine lv_bipush (v := 6) hx hb d_Me_spread_30 (by decide) ?_
  refine lv_lshl (v := u_lshl _ _) hx hb d_Me_spread_32 rfl ?_
  refine lv_lor hx hb d_Me_spread_33 ?_
  refine lv_iload_n hx hb d_Me_spread_34 rfl (lv_at hl 0 rfl) ?_
  refine lv_i2l hx hb d_Me_spread_35 rfl ?_
  refine lv_ldc2 hx hb hown (hg _ m_211) d_Me_spread_36 ?_
  refine lv_land hx hb d_Me_spread_39 ?_
  refine lv_bipush (v := 7) hx hb d_Me_spread_40 (by decide) ?_
  refine lv_lshl (v := u_lshl _ _) hx hb d_Me_spread_42 rfl ?_
  refine lv_lor hx hb d_Me_spread_43 ?_
  exact W.lret hx hb hr (fun t ht hW => ⟨⟨_, (), rfl, rfl, by show va_P D classes _ t.heap; rw [ht]; exact hP⟩, hS.F ht⟩) hS.2.2 d_Me_spread_44 hlocks
abbrev q_Me_gathered (D : va_G) (cI cL : ClassId) (A : Nat → Prop)  (F : Int64) : Array Value → State → Outcome → State → Prop := va_Ql (fun r (_ : Unit) => r = F) (fun _ t => va_P D classes [] t.heap) A
set_option maxHeartbeats 4000000 in
set_option maxRecDepth 100000 in
theorem c_Me_gathered (l : Launch) (D : va_G) (cI cL : ClassId) (sz : Nat)  (x : Int64)  : Met l y_Me_gathered w_Me_gathered ({ frames := 0, cells := 0, slots := 0, locals := 0 }) (va_Pc [.long x] (PW D cI cL [] sz)) (q_Me_gathered D cI cL (va_A [] sz)  (f_Me_gathered x)) 0 0 (va_A [] sz) := by
  refine mk_met (Qf := fun A => q_Me_gathered D cI cL A  (f_Me_gathered x)) (by decide) (Nat.le_of_ble_eq_true rfl) ?_
  intro p e s m below meth c A ls hx hb hr hlocks hml hown hg hK hN hT hA hP hD hS hnm hl
  refine lv_lload_n hx hb d_Me_gathered_0 rfl (lv_at hl 0 rfl) ?_
  refine lv_iconst (v := 3) hx hb d_Me_gathered_1 (by decide) ?_
  refine lv_lushr (v := u_lush _ _) hx hb d_Me_gathered_2 rfl ?_
  refine lv_lconst (v := 1) hx hb d_Me_gathered_3 (by decide) ?_
  refine lv_land hx hb d_Me_gathered_4 ?_
  refine lv_lload_n hx hb d_Me_gathered_5 rfl (lv_at hl 0 rfl) ?_
  refine lv_iconst (v := 4) hx hb d_Me_gathered_6 (by decide) ?_
  refine lv_lushr (v := u_lush _ _) hx hb d_Me_gathered_7 rfl ?_
  refine lv_ldc2 hx hb hown (hg _ m_208) d_Me_gathered_8 ?_
  refine lv_land hx hb d_Me_gathered_11 ?_
  refine lv_lor hx hb d_Me_gathered_12 ?_
  refine lv_lload_n hx hb d_Me_gathered_13 rfl (lv_at hl 0 rfl) ?_
  refine lv_iconst (v := 5) hx hb d_Me_gathered_14 (by decide) ?_
  refine lv_lushr (v := u_lush _ _) hx hb d_Me_gathered_15 rfl ?_
  refine lv_ldc2 hx hb hown (hg _ m_209) d_Me_gathered_16 ?_
  refine lv_land hx hb d_Me_gathered_19 ?_
  refine lv_lor hx hb d_Me_gathered_20 ?_
  refine lv_lload_n hx hb d_Me_gathered_21 rfl (lv_at hl 0 rfl) ?_
  refine lv_bipush (v := 6) hx hb d_Me_gathered_22 (by decide) ?_
  refine lv_lushr (v := u_lush _ _) hx hb d_Me_gathered_24 rfl ?_
  refine lv_ldc2 hx hb hown (hg _ m_210) d_Me_gathered_25 ?_
  refine lv_land hx hb d_Me_gathered_28 ?_
  refine lv_lor hx hb d_Me_gathered_29 ?_
  refine lv_lload_n hx hb d_Me_gathered_30 rfl (lv_at hl 0 rfl) ?_
  refine lv_bipush (v := 7) hx hb d_Me_gathered_31 (by decide) ?_
  refine lv_lushr (v := u_lush _ _) hx hb d_Me_gathered_33 rfl ?_
  refine lv_ldc2 hx hb hown (hg _ m_211) d_Me_gathered_34 ?_
  refine lv_land hx hb d_Me_gathered_37 ?_
  refine lv_lor hx hb d_Me_gathered_38 ?_
  exact W.lret hx hb hr (fun t ht hW => ⟨⟨_, (), rfl, rfl, by show va_P D classes _ t.heap; rw [ht]; exact hP⟩, hS.F ht⟩) hS.2.2 d_Me_gathered_39 hlocks
abbrev q_Me_putRight (D : va_G) (cI cL : ClassId) (A : Nat → Prop)  (F : Int64) : Array Value → State → Outcome → State → Prop := va_Ql (fun r (_ : Unit) => r = F) (fun _ t => va_P D classes [] t.heap) A
theorem f_Me_putRight_e0 (x : Int64)  (h12 : ¬ ((f_Lg_bitCount x) &&& (1 : Int32)) = (1 : Int32)) (h26 : ¬ (f_Me_xorOfNumbers x) = 0) : f_Me_putRight x = ((-2 : Int64)) := by
  exact ((if_neg h12).trans (if_neg h26))
theorem f_Me_putRight_e1 (x : Int64)  (h12 : ¬ ((f_Lg_bitCount x) &&& (1 : Int32)) = (1 : Int32)) (h26 : (f_Me_xorOfNumbers x) = 0) : f_Me_putRight x = (x) := by
  exact ((if_neg h12).trans (if_pos h26))
theorem f_Me_putRight_e2 (x : Int64)  (h12 : ((f_Lg_bitCount x) &&& (1 : Int32)) = (1 : Int32)) (h40 : (39 : Int32) ≤ (f_Me_xorOfNumbers x)) : f_Me_putRight x = ((-2 : Int64)) := by
  exact ((if_pos h12).trans (if_pos h40))
theorem f_Me_putRight_e3 (x : Int64)  (h12 : ((f_Lg_bitCount x) &&& (1 : Int32)) = (1 : Int32)) (h40 : ¬ (39 : Int32) ≤ (f_Me_xorOfNumbers x)) : f_Me_putRight x = ((x ^^^ (u_lshl (1 : Int64) (f_Me_xorOfNumbers x)))) := by
  exact ((if_pos h12).trans (if_neg h40))
set_option maxHeartbeats 4000000 in
set_option maxRecDepth 100000 in
theorem c_Me_putRight (l : Launch) (D : va_G) (cI cL : ClassId) (sz : Nat)  (x : Int64)  : Met l y_Me_putRight w_Me_putRight ({ frames := 2, cells := 0, slots := 0, locals := 44 }) (va_Pc [.long x] (PW D cI cL [] sz)) (q_Me_putRight D cI cL (va_A [] sz)  (f_Me_putRight x)) 0 0 (va_A [] sz) := by
  refine mk_met (Qf := fun A => q_Me_putRight D cI cL A  (f_Me_putRight x)) (by decide) (Nat.le_of_ble_eq_true rfl) ?_
  intro p e s m below meth c A ls hx hb hr hlocks hml hown hg hK hN hT hA hP hD hS hnm hl
  refine lv_lload_n hx hb d_Me_putRight_0 rfl (lv_at hl 0 rfl) ?_
  refine cj_i (wc := []) (w1 := []) hP hD hS hA [] rfl [] rfl rfl (va_runS (rest := []) ⟨hx, hb, hml, hown, hg⟩ (c_Me_xorOfNumbers l D cI cL  _ x) ⟨callB_of 1 hg (gw_good m_214) rfl rfl rfl (hg _ m_66) (hg _ m_212) hd_Me_xorOfNumbers ⟨Nat.le_of_ble_eq_true rfl, Nat.le_of_ble_eq_true rfl⟩, hg _ m_213⟩ (pw_S hK hN hT hA hP hD hS [] rfl (by decide)) rfl rfl hl.1 rfl (lv_room (Nat.le_of_ble_eq_true rfl)) d_Me_putRight_1 ⟨Nat.le_of_ble_eq_true rfl, Nat.le_of_ble_eq_true rfl⟩) (fun H locs hP hD hS => ?_)
  have hP : va_P D classes [] H := hP
  have hD : va_D A [] := hD
  refine lv_istore_n (lv' := [(2, .int _), (0, .long _)]) hx hb d_Me_putRight_4 rfl hl (by decide) rfl (fun ls hl => ?_)
  refine lv_lload_n hx hb d_Me_putRight_5 rfl (lv_at hl 1 rfl) ?_
  refine cj_i (wc := []) (w1 := []) hP hD hS hA [] rfl [] rfl rfl (va_runS (rest := []) ⟨hx, hb, hml, hown, hg⟩ (c_Lg_bitCount l D cI cL  _ x) ⟨callB_of 1 hg (gw_good m_219) rfl rfl rfl (hg _ m_72) (hg _ m_217) hd_Lg_bitCount ⟨Nat.le_of_ble_eq_true rfl, Nat.le_of_ble_eq_true rfl⟩, hg _ m_218⟩ (pw_S hK hN hT hA hP hD hS [] rfl (by decide)) rfl rfl hl.1 rfl (lv_room (Nat.le_of_ble_eq_true rfl)) d_Me_putRight_6 ⟨Nat.le_of_ble_eq_true rfl, Nat.le_of_ble_eq_true rfl⟩) (fun H locs hP hD hS => ?_)
  have hP : va_P D classes [] H := hP
  have hD : va_D A [] := hD
  refine lv_iconst (v := 1) hx hb d_Me_putRight_9 (by decide) ?_
  refine lv_iand hx hb d_Me_putRight_10 ?_
  refine lv_iconst (v := 1) hx hb d_Me_putRight_11 (by decide) ?_
  refine lv_icmp_ne (tgt := 19) hx hb d_Me_putRight_12 (by decide) (fun h12 => ?_) (fun h12 => ?_)
  · refine lv_iconst (v := 0) hx hb d_Me_putRight_19 (by decide) ?_
    refine lv_istore_n (lv' := [(3, .int _), (2, .int _), (0, .long _)]) hx hb d_Me_putRight_20 rfl hl (by decide) rfl (fun ls hl => ?_)
    refine lv_iload_n hx hb d_Me_putRight_21 rfl (lv_at hl 0 rfl) ?_
    refine lv_if_ne (tgt := 37) hx hb d_Me_putRight_22 (by decide) (fun h => absurd (by decide) h) (fun _ => ?_)
    refine lv_iload_n hx hb d_Me_putRight_25 rfl (lv_at hl 1 rfl) ?_
    refine lv_if_ne (tgt := 33) hx hb d_Me_putRight_26 (by decide) (fun h26 => ?_) (fun h26 => ?_)
    · refine lv_ldc2 hx hb hown (hg _ m_260) d_Me_putRight_33 ?_
      rw [f_Me_putRight_e0 x h12 h26]
      exact W.lret hx hb hr (fun t ht hW => ⟨⟨_, (), rfl, rfl, by show va_P D classes _ t.heap; rw [ht]; exact hP⟩, hS.F ht⟩) hS.2.2 d_Me_putRight_36 hlocks
    · refine lv_lload_n hx hb d_Me_putRight_29 rfl (lv_at hl 2 rfl) ?_
      refine lv_goto (tgt := 36) hx hb d_Me_putRight_30 (by decide) ?_
      rw [f_Me_putRight_e1 x h12 h26]
      exact W.lret hx hb hr (fun t ht hW => ⟨⟨_, (), rfl, rfl, by show va_P D classes _ t.heap; rw [ht]; exact hP⟩, hS.F ht⟩) hS.2.2 d_Me_putRight_36 hlocks
  · refine lv_iconst (v := 1) hx hb d_Me_putRight_15 (by decide) ?_
    refine lv_goto (tgt := 20) hx hb d_Me_putRight_16 (by decide) ?_
    refine lv_istore_n (lv' := [(3, .int _), (2, .int _), (0, .long _)]) hx hb d_Me_putRight_20 rfl hl (by decide) rfl (fun ls hl => ?_)
    refine lv_iload_n hx hb d_Me_putRight_21 rfl (lv_at hl 0 rfl) ?_
    refine lv_if_ne (tgt := 37) hx hb d_Me_putRight_22 (by decide) (fun _ => ?_) (fun h => absurd h (by decide))
    refine lv_iload_n hx hb d_Me_putRight_37 rfl (lv_at hl 1 rfl) ?_
    refine lv_bipush (v := 39) hx hb d_Me_putRight_38 (by decide) ?_
    refine lv_icmp_ge (tgt := 51) hx hb d_Me_putRight_40 (by decide) (fun h40 => ?_) (fun h40 => ?_)
    · refine lv_ldc2 hx hb hown (hg _ m_260) d_Me_putRight_51 ?_
      rw [f_Me_putRight_e2 x h12 h40]
      exact W.lret hx hb hr (fun t ht hW => ⟨⟨_, (), rfl, rfl, by show va_P D classes _ t.heap; rw [ht]; exact hP⟩, hS.F ht⟩) hS.2.2 d_Me_putRight_54 hlocks
    · refine lv_lload_n hx hb d_Me_putRight_43 rfl (lv_at hl 2 rfl) ?_
      refine lv_lconst (v := 1) hx hb d_Me_putRight_44 (by decide) ?_
      refine lv_iload_n hx hb d_Me_putRight_45 rfl (lv_at hl 1 rfl) ?_
      refine lv_lshl (v := u_lshl _ _) hx hb d_Me_putRight_46 rfl ?_
      refine lv_lxor hx hb d_Me_putRight_47 ?_
      refine lv_goto (tgt := 54) hx hb d_Me_putRight_48 (by decide) ?_
      rw [f_Me_putRight_e3 x h12 h40]
      exact W.lret hx hb hr (fun t ht hW => ⟨⟨_, (), rfl, rfl, by show va_P D classes _ t.heap; rw [ht]; exact hP⟩, hS.F ht⟩) hS.2.2 d_Me_putRight_54 hlocks
abbrev q_Me_keep (D : va_G) (cI cL : ClassId) (g0 g1 : Nat) (A : Nat → Prop) (K : Nat → Int64) (co : Int32) (F : (Nat → Int64)) : Array Value → State → Outcome → State → Prop := va_Qv (fun (_ : Unit) => True) (fun _ t => va_P D classes (W_Me cI cL g0 g1 F co) t.heap) A
theorem f_Me_keep_e0 (K : Nat → Int64) (w : Int32) (v : Int32) (t1 : Int64) (t2 : Int64) (t3 : Int64) (t4 : Int64) (t5 : Int64) (t6 : Int64) (e_t1 : ((f_Me_spread v) ||| (u_lshl (((u_ush (f_Me_xorOfNumbers (f_Me_spread v)) (0 : Int32)).toInt64) &&& (1 : Int64)) ((1 : Int32) <<< ((0 : Int32) &&& 31)))) = t1) (e_t2 : (t1 ||| (u_lshl (((u_ush (f_Me_xorOfNumbers (f_Me_spread v)) (1 : Int32)).toInt64) &&& (1 : Int64)) ((1 : Int32) <<< ((1 : Int32) &&& 31)))) = t2) (e_t3 : (t2 ||| (u_lshl (((u_ush (f_Me_xorOfNumbers (f_Me_spread v)) (2 : Int32)).toInt64) &&& (1 : Int64)) ((1 : Int32) <<< ((2 : Int32) &&& 31)))) = t3) (e_t4 : (t3 ||| (u_lshl (((u_ush (f_Me_xorOfNumbers (f_Me_spread v)) (3 : Int32)).toInt64) &&& (1 : Int64)) ((1 : Int32) <<< ((3 : Int32) &&& 31)))) = t4) (e_t5 : (t4 ||| (u_lshl (((u_ush (f_Me_xorOfNumbers (f_Me_spread v)) (4 : Int32)).toInt64) &&& (1 : Int64)) ((1 : Int32) <<< ((4 : Int32) &&& 31)))) = t5) (e_t6 : (t5 ||| (u_lshl (((u_ush (f_Me_xorOfNumbers (f_Me_spread v)) (5 : Int32)).toInt64) &&& (1 : Int64)) ((1 : Int32) <<< ((5 : Int32) &&& 31)))) = t6) : f_Me_keep K w v = ((vp_updL K w.toNatClampNeg (t6 ||| (((f_Lg_bitCount t6) &&& (1 : Int32)).toInt64)))) := by
  subst e_t6
  subst e_t5
  subst e_t4
  subst e_t3
  subst e_t2
  subst e_t1
  exact rfl
set_option maxHeartbeats 4000000 in
set_option maxRecDepth 100000 in
theorem c_Me_keep (l : Launch) (D : va_G) (cI cL : ClassId) (g0 g1 : Nat) (sz : Nat) (K : Nat → Int64) (co : Int32) (w : Int32) (v : Int32) (h_w : vp_in w 64) : Met l y_Me_keep w_Me_keep ({ frames := 2, cells := 0, slots := 0, locals := 44 }) (va_Pc [.ref g0, .int w, .int v] (PW D cI cL (W_Me cI cL g0 g1 K co) sz)) (q_Me_keep D cI cL g0 g1 (va_A (W_Me cI cL g0 g1 K co) sz) K co (f_Me_keep K w v)) 0 0 (va_A (W_Me cI cL g0 g1 K co) sz) := by
  refine mk_met (Qf := fun A => q_Me_keep D cI cL g0 g1 A K co (f_Me_keep K w v)) (by decide) (Nat.le_of_ble_eq_true rfl) ?_
  intro p e s m below meth c A ls hx hb hr hlocks hml hown hg hK hN hT hA hP hD hS hnm hl
  obtain ⟨tN, hT1, hT2⟩ := id hT
  refine lv_iload_n hx hb d_Me_keep_0 rfl (lv_at hl 2 rfl) ?_
  refine cj_l (wc := []) (w1 := []) hP hD hS hA [] rfl [] rfl rfl (va_runS (rest := []) ⟨hx, hb, hml, hown, hg⟩ (c_Me_spread l D cI cL  _ v) ⟨callB_of 1 hg (gw_good m_207) rfl rfl rfl (hg _ m_66) (hg _ m_205) hd_Me_spread ⟨Nat.le_of_ble_eq_true rfl, Nat.le_of_ble_eq_true rfl⟩, hg _ m_206⟩ (pw_S hK hN hT hA hP hD hS [] rfl (by decide)) rfl rfl hl.1 rfl (lv_room (Nat.le_of_ble_eq_true rfl)) d_Me_keep_1 ⟨Nat.le_of_ble_eq_true rfl, Nat.le_of_ble_eq_true rfl⟩) (fun H locs hP hD hS => ?_)
  have hP : va_P D classes (W_Me cI cL g0 g1 K co) H := hP
  have hD : va_D A (W_Me cI cL g0 g1 K co) := hD
  refine lv_lstore_n (lv' := [(3, .long _), (0, .ref _), (1, .int _), (2, .int _)]) hx hb d_Me_keep_4 rfl hl (by decide) rfl (fun ls hl => ?_)
  refine lv_lload_n hx hb d_Me_keep_5 rfl (lv_at hl 0 rfl) ?_
  refine cj_i (wc := []) (w1 := []) hP hD hS hA [] rfl [] rfl rfl (va_runS (rest := []) ⟨hx, hb, hml, hown, hg⟩ (c_Me_xorOfNumbers l D cI cL  _ (f_Me_spread v)) ⟨callB_of 1 hg (gw_good m_214) rfl rfl rfl (hg _ m_66) (hg _ m_212) hd_Me_xorOfNumbers ⟨Nat.le_of_ble_eq_true rfl, Nat.le_of_ble_eq_true rfl⟩, hg _ m_213⟩ (pw_S hK hN hT hA hP hD hS [] rfl (by decide)) rfl rfl hl.1 rfl (lv_room (Nat.le_of_ble_eq_true rfl)) d_Me_keep_6 ⟨Nat.le_of_ble_eq_true rfl, Nat.le_of_ble_eq_true rfl⟩) (fun H locs hP hD hS => ?_)
  have hP : va_P D classes (W_Me cI cL g0 g1 K co) H := hP
  have hD : va_D A (W_Me cI cL g0 g1 K co) := hD
  refine lv_istore (lv' := [(5, .int _), (3, .long _), (0, .ref _), (1, .int _), (2, .int _)]) hx hb d_Me_keep_9 hl (by decide) rfl (fun ls hl => ?_)
  refine lv_iconst (v := 0) hx hb d_Me_keep_11 (by decide) ?_
  refine lv_istore (lv' := [(6, .int _), (5, .int _), (3, .long _), (0, .ref _), (1, .int _), (2, .int _)]) hx hb d_Me_keep_12 hl (by decide) rfl (fun ls hl => ?_)
  refine lv_iload hx hb d_Me_keep_14 (lv_at hl 0 rfl) ?_
  refine va_gets hx hb hT1 hS hown (hg _ m_215) (fun _ h => h) d_Me_keep_16 ?_
  refine va_tlen (v := 6) hx hb hT2 hS rfl d_Me_keep_19 ?_
  refine lv_icmp_ge (tgt := 45) hx hb d_Me_keep_20 (by decide) (fun h => absurd h (by decide)) (fun _ => ?_)
  refine lv_lload_n hx hb d_Me_keep_23 rfl (lv_at hl 2 rfl) ?_
  refine lv_iload hx hb d_Me_keep_24 (lv_at hl 1 rfl) ?_
  refine lv_iload hx hb d_Me_keep_26 (lv_at hl 0 rfl) ?_
  refine lv_iushr (v := u_ush _ _) hx hb d_Me_keep_28 rfl ?_
  refine lv_i2l hx hb d_Me_keep_29 rfl ?_
  refine lv_lconst (v := 1) hx hb d_Me_keep_30 (by decide) ?_
  refine lv_land hx hb d_Me_keep_31 ?_
  refine lv_iconst (v := 1) hx hb d_Me_keep_32 (by decide) ?_
  refine lv_iload hx hb d_Me_keep_33 (lv_at hl 0 rfl) ?_
  refine lv_ishl hx hb d_Me_keep_35 ?_
  refine lv_lshl (v := u_lshl _ _) hx hb d_Me_keep_36 rfl ?_
  refine lv_lor hx hb d_Me_keep_37 ?_
  refine lv_topl (fun t1 e_t1 => ?_)
  have e_t1 := e_t1.symm
  refine lv_lstore_n (lv' := [(3, .long _), (6, .int _), (5, .int _), (0, .ref _), (1, .int _), (2, .int _)]) hx hb d_Me_keep_38 rfl hl (by decide) rfl (fun ls hl => ?_)
  refine lv_iinc (k := 1) (v := 1) (lv' := [(6, .int _), (3, .long _), (5, .int _), (0, .ref _), (1, .int _), (2, .int _)]) hx hb d_Me_keep_39 hl rfl (by decide) (by decide) rfl (fun ls hl => ?_)
  refine lv_goto (tgt := 14) hx hb d_Me_keep_42 (by decide) ?_
  refine lv_iload hx hb d_Me_keep_14 (lv_at hl 0 rfl) ?_
  refine va_gets hx hb hT1 hS hown (hg _ m_215) (fun _ h => h) d_Me_keep_16 ?_
  refine va_tlen (v := 6) hx hb hT2 hS rfl d_Me_keep_19 ?_
  refine lv_icmp_ge (tgt := 45) hx hb d_Me_keep_20 (by decide) (fun h => absurd h (by decide)) (fun _ => ?_)
  refine lv_lload_n hx hb d_Me_keep_23 rfl (lv_at hl 1 rfl) ?_
  refine lv_iload hx hb d_Me_keep_24 (lv_at hl 2 rfl) ?_
  refine lv_iload hx hb d_Me_keep_26 (lv_at hl 0 rfl) ?_
  refine lv_iushr (v := u_ush _ _) hx hb d_Me_keep_28 rfl ?_
  refine lv_i2l hx hb d_Me_keep_29 rfl ?_
  refine lv_lconst (v := 1) hx hb d_Me_keep_30 (by decide) ?_
  refine lv_land hx hb d_Me_keep_31 ?_
  refine lv_iconst (v := 1) hx hb d_Me_keep_32 (by decide) ?_
  refine lv_iload hx hb d_Me_keep_33 (lv_at hl 0 rfl) ?_
  refine lv_ishl hx hb d_Me_keep_35 ?_
  refine lv_lshl (v := u_lshl _ _) hx hb d_Me_keep_36 rfl ?_
  refine lv_lor hx hb d_Me_keep_37 ?_
  refine lv_topl (fun t2 e_t2 => ?_)
  have e_t2 := e_t2.symm
  refine lv_lstore_n (lv' := [(3, .long _), (6, .int _), (5, .int _), (0, .ref _), (1, .int _), (2, .int _)]) hx hb d_Me_keep_38 rfl hl (by decide) rfl (fun ls hl => ?_)
  refine lv_iinc (k := 1) (v := 2) (lv' := [(6, .int _), (3, .long _), (5, .int _), (0, .ref _), (1, .int _), (2, .int _)]) hx hb d_Me_keep_39 hl rfl (by decide) (by decide) rfl (fun ls hl => ?_)
  refine lv_goto (tgt := 14) hx hb d_Me_keep_42 (by decide) ?_
  refine lv_iload hx hb d_Me_keep_14 (lv_at hl 0 rfl) ?_
  refine va_gets hx hb hT1 hS hown (hg _ m_215) (fun _ h => h) d_Me_keep_16 ?_
  refine va_tlen (v := 6) hx hb hT2 hS rfl d_Me_keep_19 ?_
  refine lv_icmp_ge (tgt := 45) hx hb d_Me_keep_20 (by decide) (fun h => absurd h (by decide)) (fun _ => ?_)
  refine lv_lload_n hx hb d_Me_keep_23 rfl (lv_at hl 1 rfl) ?_
  refine lv_iload hx hb d_Me_keep_24 (lv_at hl 2 rfl) ?_
  refine lv_iload hx hb d_Me_keep_26 (lv_at hl 0 rfl) ?_
  refine lv_iushr (v := u_ush _ _) hx hb d_Me_keep_28 rfl ?_
  refine lv_i2l hx hb d_Me_keep_29 rfl ?_
  refine lv_lconst (v := 1) hx hb d_Me_keep_30 (by decide) ?_
  refine lv_land hx hb d_Me_keep_31 ?_
  refine lv_iconst (v := 1) hx hb d_Me_keep_32 (by decide) ?_
  refine lv_iload hx hb d_Me_keep_33 (lv_at hl 0 rfl) ?_
  refine lv_ishl hx hb d_Me_keep_35 ?_
  refine lv_lshl (v := u_lshl _ _) hx hb d_Me_keep_36 rfl ?_
  refine lv_lor hx hb d_Me_keep_37 ?_
  refine lv_topl (fun t3 e_t3 => ?_)
  have e_t3 := e_t3.symm
  refine lv_lstore_n (lv' := [(3, .long _), (6, .int _), (5, .int _), (0, .ref _), (1, .int _), (2, .int _)]) hx hb d_Me_keep_38 rfl hl (by decide) rfl (fun ls hl => ?_)
  refine lv_iinc (k := 1) (v := 3) (lv' := [(6, .int _), (3, .long _), (5, .int _), (0, .ref _), (1, .int _), (2, .int _)]) hx hb d_Me_keep_39 hl rfl (by decide) (by decide) rfl (fun ls hl => ?_)
  refine lv_goto (tgt := 14) hx hb d_Me_keep_42 (by decide) ?_
  refine lv_iload hx hb d_Me_keep_14 (lv_at hl 0 rfl) ?_
  refine va_gets hx hb hT1 hS hown (hg _ m_215) (fun _ h => h) d_Me_keep_16 ?_
  refine va_tlen (v := 6) hx hb hT2 hS rfl d_Me_keep_19 ?_
  refine lv_icmp_ge (tgt := 45) hx hb d_Me_keep_20 (by decide) (fun h => absurd h (by decide)) (fun _ => ?_)
  refine lv_lload_n hx hb d_Me_keep_23 rfl (lv_at hl 1 rfl) ?_
  refine lv_iload hx hb d_Me_keep_24 (lv_at hl 2 rfl) ?_
  refine lv_iload hx hb d_Me_keep_26 (lv_at hl 0 rfl) ?_
  refine lv_iushr (v := u_ush _ _) hx hb d_Me_keep_28 rfl ?_
  refine lv_i2l hx hb d_Me_keep_29 rfl ?_
  refine lv_lconst (v := 1) hx hb d_Me_keep_30 (by decide) ?_
  refine lv_land hx hb d_Me_keep_31 ?_
  refine lv_iconst (v := 1) hx hb d_Me_keep_32 (by decide) ?_
  refine lv_iload hx hb d_Me_keep_33 (lv_at hl 0 rfl) ?_
  refine lv_ishl hx hb d_Me_keep_35 ?_
  refine lv_lshl (v := u_lshl _ _) hx hb d_Me_keep_36 rfl ?_
  refine lv_lor hx hb d_Me_keep_37 ?_
  refine lv_topl (fun t4 e_t4 => ?_)
  have e_t4 := e_t4.symm
  refine lv_lstore_n (lv' := [(3, .long _), (6, .int _), (5, .int _), (0, .ref _), (1, .int _), (2, .int _)]) hx hb d_Me_keep_38 rfl hl (by decide) rfl (fun ls hl => ?_)
  refine lv_iinc (k := 1) (v := 4) (lv' := [(6, .int _), (3, .long _), (5, .int _), (0, .ref _), (1, .int _), (2, .int _)]) hx hb d_Me_keep_39 hl rfl (by decide) (by decide) rfl (fun ls hl => ?_)
  refine lv_goto (tgt := 14) hx hb d_Me_keep_42 (by decide) ?_
  refine lv_iload hx hb d_Me_keep_14 (lv_at hl 0 rfl) ?_
  refine va_gets hx hb hT1 hS hown (hg _ m_215) (fun _ h => h) d_Me_keep_16 ?_
  refine va_tlen (v := 6) hx hb hT2 hS rfl d_Me_keep_19 ?_
  refine lv_icmp_ge (tgt := 45) hx hb d_Me_keep_20 (by decide) (fun h => absurd h (by decide)) (fun _ => ?_)
  refine lv_lload_n hx hb d_Me_keep_23 rfl (lv_at hl 1 rfl) ?_
  refine lv_iload hx hb d_Me_keep_24 (lv_at hl 2 rfl) ?_
  refine lv_iload hx hb d_Me_keep_26 (lv_at hl 0 rfl) ?_
  refine lv_iushr (v := u_ush _ _) hx hb d_Me_keep_28 rfl ?_
  refine lv_i2l hx hb d_Me_keep_29 rfl ?_
  refine lv_lconst (v := 1) hx hb d_Me_keep_30 (by decide) ?_
  refine lv_land hx hb d_Me_keep_31 ?_
  refine lv_iconst (v := 1) hx hb d_Me_keep_32 (by decide) ?_
  refine lv_iload hx hb d_Me_keep_33 (lv_at hl 0 rfl) ?_
  refine lv_ishl hx hb d_Me_keep_35 ?_
  refine lv_lshl (v := u_lshl _ _) hx hb d_Me_keep_36 rfl ?_
  refine lv_lor hx hb d_Me_keep_37 ?_
  refine lv_topl (fun t5 e_t5 => ?_)
  have e_t5 := e_t5.symm
  refine lv_lstore_n (lv' := [(3, .long _), (6, .int _), (5, .int _), (0, .ref _), (1, .int _), (2, .int _)]) hx hb d_Me_keep_38 rfl hl (by decide) rfl (fun ls hl => ?_)
  refine lv_iinc (k := 1) (v := 5) (lv' := [(6, .int _), (3, .long _), (5, .int _), (0, .ref _), (1, .int _), (2, .int _)]) hx hb d_Me_keep_39 hl rfl (by decide) (by decide) rfl (fun ls hl => ?_)
  refine lv_goto (tgt := 14) hx hb d_Me_keep_42 (by decide) ?_
  refine lv_iload hx hb d_Me_keep_14 (lv_at hl 0 rfl) ?_
  refine va_gets hx hb hT1 hS hown (hg _ m_215) (fun _ h => h) d_Me_keep_16 ?_
  refine va_tlen (v := 6) hx hb hT2 hS rfl d_Me_keep_19 ?_
  refine lv_icmp_ge (tgt := 45) hx hb d_Me_keep_20 (by decide) (fun h => absurd h (by decide)) (fun _ => ?_)
  refine lv_lload_n hx hb d_Me_keep_23 rfl (lv_at hl 1 rfl) ?_
  refine lv_iload hx hb d_Me_keep_24 (lv_at hl 2 rfl) ?_
  refine lv_iload hx hb d_Me_keep_26 (lv_at hl 0 rfl) ?_
  refine lv_iushr (v := u_ush _ _) hx hb d_Me_keep_28 rfl ?_
  refine lv_i2l hx hb d_Me_keep_29 rfl ?_
  refine lv_lconst (v := 1) hx hb d_Me_keep_30 (by decide) ?_
  refine lv_land hx hb d_Me_keep_31 ?_
  refine lv_iconst (v := 1) hx hb d_Me_keep_32 (by decide) ?_
  refine lv_iload hx hb d_Me_keep_33 (lv_at hl 0 rfl) ?_
  refine lv_ishl hx hb d_Me_keep_35 ?_
  refine lv_lshl (v := u_lshl _ _) hx hb d_Me_keep_36 rfl ?_
  refine lv_lor hx hb d_Me_keep_37 ?_
  refine lv_topl (fun t6 e_t6 => ?_)
  have e_t6 := e_t6.symm
  refine lv_lstore_n (lv' := [(3, .long _), (6, .int _), (5, .int _), (0, .ref _), (1, .int _), (2, .int _)]) hx hb d_Me_keep_38 rfl hl (by decide) rfl (fun ls hl => ?_)
  refine lv_iinc (k := 1) (v := 6) (lv' := [(6, .int _), (3, .long _), (5, .int _), (0, .ref _), (1, .int _), (2, .int _)]) hx hb d_Me_keep_39 hl rfl (by decide) (by decide) rfl (fun ls hl => ?_)
  refine lv_goto (tgt := 14) hx hb d_Me_keep_42 (by decide) ?_
  refine lv_iload hx hb d_Me_keep_14 (lv_at hl 0 rfl) ?_
  refine va_gets hx hb hT1 hS hown (hg _ m_215) (fun _ h => h) d_Me_keep_16 ?_
  refine va_tlen (v := 6) hx hb hT2 hS rfl d_Me_keep_19 ?_
  refine lv_icmp_ge (tgt := 45) hx hb d_Me_keep_20 (by decide) (fun _ => ?_) (fun h => absurd (by decide) h)
  refine lv_aload_n hx hb d_Me_keep_45 rfl (lv_at hl 3 rfl) ?_
  refine va_get (ci := 1) (C := R_Me) (T := F_Me) (N := 2) hx hb hg in_Me hown hK hP 0 rfl rfl 0 (by decide) (hg _ m_90) (fun _ h => h) rfl d_Me_keep_46 ?_
  refine lv_iload_n hx hb d_Me_keep_49 rfl (lv_at hl 4 rfl) ?_
  refine lv_lload_n hx hb d_Me_keep_50 rfl (lv_at hl 1 rfl) ?_
  refine lv_lload_n hx hb d_Me_keep_51 rfl (lv_at hl 1 rfl) ?_
  refine cj_i (wc := []) (w1 := []) hP hD hS hA [] rfl [] rfl rfl (va_runS (rest := [.long _, .int _, .ref _]) ⟨hx, hb, hml, hown, hg⟩ (c_Lg_bitCount l D cI cL  _ t6) ⟨callB_of 1 hg (gw_good m_219) rfl rfl rfl (hg _ m_72) (hg _ m_217) hd_Lg_bitCount ⟨Nat.le_of_ble_eq_true rfl, Nat.le_of_ble_eq_true rfl⟩, hg _ m_218⟩ (pw_S hK hN hT hA hP hD hS [] rfl (by decide)) rfl rfl hl.1 rfl (lv_room (Nat.le_of_ble_eq_true rfl)) d_Me_keep_52 ⟨Nat.le_of_ble_eq_true rfl, Nat.le_of_ble_eq_true rfl⟩) (fun H locs hP hD hS => ?_)
  have hP : va_P D classes (W_Me cI cL g0 g1 K co) H := hP
  have hD : va_D A (W_Me cI cL g0 g1 K co) := hD
  refine lv_iconst (v := 1) hx hb d_Me_keep_55 (by decide) ?_
  refine lv_iand hx hb d_Me_keep_56 ?_
  refine lv_i2l hx hb d_Me_keep_57 rfl ?_
  refine lv_lor hx hb d_Me_keep_58 ?_
  refine va_last hx hb hK hP hD hS 1 1 rfl rfl h_w d_Me_keep_59 (fun H locs hP hD hS => ?_)
  have hP : va_P D classes (W_Me cI cL g0 g1 (vp_updL K w.toNatClampNeg (t6 ||| (((f_Lg_bitCount t6) &&& (1 : Int32)).toInt64))) co) H := hP
  have hD : va_D A (W_Me cI cL g0 g1 (vp_updL K w.toNatClampNeg (t6 ||| (((f_Lg_bitCount t6) &&& (1 : Int32)).toInt64))) co) := hD
  rw [f_Me_keep_e0 K w v t1 t2 t3 t4 t5 t6 e_t1 e_t2 e_t3 e_t4 e_t5 e_t6]
  exact W.vret hx hb hr (fun t ht hW => ⟨⟨(), rfl, trivial, by show va_P D classes _ t.heap; rw [ht]; exact hP⟩, hS.F ht⟩) hS.2.2 d_Me_keep_60 hlocks
abbrev q_Me_inspect (D : va_G) (cI cL : ClassId) (g0 g1 : Nat) (A : Nat → Prop) (K : Nat → Int64) (co : Int32) (F : Int64) : Array Value → State → Outcome → State → Prop := va_Ql (fun r (_ : Unit) => r = F) (fun _ t => va_P D classes (W_Me cI cL g0 g1 K co) t.heap) A
theorem f_Me_inspect_e0 (K : Nat → Int64) (w : Int32)  (h15 : ¬ (lg_cmp (f_Me_putRight (K w.toNatClampNeg)) (-2 : Int64)) = 0) : f_Me_inspect K w = ((f_Me_gathered (f_Me_putRight (K w.toNatClampNeg)))) := by
  exact (if_neg h15)
theorem f_Me_inspect_e1 (K : Nat → Int64) (w : Int32)  (h15 : (lg_cmp (f_Me_putRight (K w.toNatClampNeg)) (-2 : Int64)) = 0) : f_Me_inspect K w = ((-2 : Int64)) := by
  exact (if_pos h15)
set_option maxHeartbeats 4000000 in
set_option maxRecDepth 100000 in
theorem c_Me_inspect (l : Launch) (D : va_G) (cI cL : ClassId) (g0 g1 : Nat) (sz : Nat) (K : Nat → Int64) (co : Int32) (w : Int32) (h_w : vp_in w 64) : Met l y_Me_inspect w_Me_inspect ({ frames := 3, cells := 0, slots := 0, locals := 67 }) (va_Pc [.ref g0, .int w] (PW D cI cL (W_Me cI cL g0 g1 K co) sz)) (q_Me_inspect D cI cL g0 g1 (va_A (W_Me cI cL g0 g1 K co) sz) K co (f_Me_inspect K w)) 0 0 (va_A (W_Me cI cL g0 g1 K co) sz) := by
  refine mk_met (Qf := fun A => q_Me_inspect D cI cL g0 g1 A K co (f_Me_inspect K w)) (by decide) (Nat.le_of_ble_eq_true rfl) ?_
  intro p e s m below meth c A ls hx hb hr hlocks hml hown hg hK hN hT hA hP hD hS hnm hl
  refine lv_aload_n hx hb d_Me_inspect_0 rfl (lv_at hl 0 rfl) ?_
  refine va_get (ci := 1) (C := R_Me) (T := F_Me) (N := 2) hx hb hg in_Me hown hK hP 0 rfl rfl 0 (by decide) (hg _ m_90) (fun _ h => h) rfl d_Me_inspect_1 ?_
  refine lv_iload_n hx hb d_Me_inspect_4 rfl (lv_at hl 1 rfl) ?_
  refine va_lald hx hb hK hP 1 1 rfl rfl h_w d_Me_inspect_5 ?_
  refine cj_l (wc := []) (w1 := []) hP hD hS hA [] rfl [] rfl rfl (va_runS (rest := []) ⟨hx, hb, hml, hown, hg⟩ (c_Me_putRight l D cI cL  _ (K w.toNatClampNeg)) ⟨callB_of 1 hg (gw_good m_259) rfl rfl rfl (hg _ m_66) (hg _ m_257) hd_Me_putRight ⟨Nat.le_of_ble_eq_true rfl, Nat.le_of_ble_eq_true rfl⟩, hg _ m_258⟩ (pw_S hK hN hT hA hP hD hS [] rfl (by decide)) rfl rfl hl.1 rfl (lv_room (Nat.le_of_ble_eq_true rfl)) d_Me_inspect_6 ⟨Nat.le_of_ble_eq_true rfl, Nat.le_of_ble_eq_true rfl⟩) (fun H locs hP hD hS => ?_)
  have hP : va_P D classes (W_Me cI cL g0 g1 K co) H := hP
  have hD : va_D A (W_Me cI cL g0 g1 K co) := hD
  refine lv_lstore_n (lv' := [(2, .long _), (0, .ref _), (1, .int _)]) hx hb d_Me_inspect_9 rfl hl (by decide) rfl (fun ls hl => ?_)
  refine lv_lload_n hx hb d_Me_inspect_10 rfl (lv_at hl 0 rfl) ?_
  refine lv_ldc2 hx hb hown (hg _ m_260) d_Me_inspect_11 ?_
  refine W.lcmp hx hb d_Me_inspect_14 ?_
  refine lv_if_ne (tgt := 24) hx hb d_Me_inspect_15 (by decide) (fun h15 => ?_) (fun h15 => ?_)
  · refine lv_lload_n hx hb d_Me_inspect_24 rfl (lv_at hl 0 rfl) ?_
    refine cj_l (wc := []) (w1 := []) hP hD hS hA [] rfl [] rfl rfl (va_runS (rest := []) ⟨hx, hb, hml, hown, hg⟩ (c_Me_gathered l D cI cL  _ (f_Me_putRight (K w.toNatClampNeg))) ⟨callB_of 1 hg (gw_good m_263) rfl rfl rfl (hg _ m_66) (hg _ m_261) hd_Me_gathered ⟨Nat.le_of_ble_eq_true rfl, Nat.le_of_ble_eq_true rfl⟩, hg _ m_262⟩ (pw_S hK hN hT hA hP hD hS [] rfl (by decide)) rfl rfl hl.1 rfl (lv_room (Nat.le_of_ble_eq_true rfl)) d_Me_inspect_25 ⟨Nat.le_of_ble_eq_true rfl, Nat.le_of_ble_eq_true rfl⟩) (fun H locs hP hD hS => ?_)
    have hP : va_P D classes (W_Me cI cL g0 g1 K co) H := hP
    have hD : va_D A (W_Me cI cL g0 g1 K co) := hD
    rw [f_Me_inspect_e0 K w h15]
    exact W.lret hx hb hr (fun t ht hW => ⟨⟨_, (), rfl, rfl, by show va_P D classes _ t.heap; rw [ht]; exact hP⟩, hS.F ht⟩) hS.2.2 d_Me_inspect_28 hlocks
  · refine lv_ldc2 hx hb hown (hg _ m_260) d_Me_inspect_18 ?_
    refine lv_goto (tgt := 28) hx hb d_Me_inspect_21 (by decide) ?_
    rw [f_Me_inspect_e1 K w h15]
    exact W.lret hx hb hr (fun t ht hW => ⟨⟨_, (), rfl, rfl, by show va_P D classes _ t.heap; rw [ht]; exact hP⟩, hS.F ht⟩) hS.2.2 d_Me_inspect_28 hlocks
abbrev q_Me_mend (D : va_G) (cI cL : ClassId) (g0 g1 : Nat) (A : Nat → Prop) (K : Nat → Int64) (co : Int32) (F : Int64 × (Nat → Int64) × Int32) : Array Value → State → Outcome → State → Prop := va_Ql (fun r (_ : Unit) => r = F.1) (fun _ t => va_P D classes (W_Me cI cL g0 g1 F.2.1 F.2.2) t.heap) A
theorem f_Me_mend_e0 (K : Nat → Int64) (co : Int32) (w : Int32)  (h15 : ¬ (lg_cmp (f_Me_putRight (K w.toNatClampNeg)) (-2 : Int64)) = 0) (h30 : (lg_cmp (f_Me_putRight (K w.toNatClampNeg)) (K w.toNatClampNeg)) = 0) : f_Me_mend K co w = ((f_Me_gathered (f_Me_putRight (K w.toNatClampNeg))), K, co) := by
  exact ((if_neg h15).trans (if_pos h30))
theorem f_Me_mend_e1 (K : Nat → Int64) (co : Int32) (w : Int32)  (h15 : ¬ (lg_cmp (f_Me_putRight (K w.toNatClampNeg)) (-2 : Int64)) = 0) (h30 : ¬ (lg_cmp (f_Me_putRight (K w.toNatClampNeg)) (K w.toNatClampNeg)) = 0) : f_Me_mend K co w = ((f_Me_gathered (f_Me_putRight (K w.toNatClampNeg))), (vp_updL K w.toNatClampNeg (f_Me_putRight (K w.toNatClampNeg))), (co + (1 : Int32))) := by
  exact ((if_neg h15).trans (if_neg h30))
theorem f_Me_mend_e2 (K : Nat → Int64) (co : Int32) (w : Int32)  (h15 : (lg_cmp (f_Me_putRight (K w.toNatClampNeg)) (-2 : Int64)) = 0) : f_Me_mend K co w = ((-2 : Int64), K, co) := by
  exact (if_pos h15)
set_option maxHeartbeats 4000000 in
set_option maxRecDepth 100000 in
theorem c_Me_mend (l : Launch) (D : va_G) (cI cL : ClassId) (g0 g1 : Nat) (sz : Nat) (K : Nat → Int64) (co : Int32) (w : Int32) (h_w : vp_in w 64) : Met l y_Me_mend w_Me_mend ({ frames := 3, cells := 0, slots := 0, locals := 67 }) (va_Pc [.ref g0, .int w] (PW D cI cL (W_Me cI cL g0 g1 K co) sz)) (q_Me_mend D cI cL g0 g1 (va_A (W_Me cI cL g0 g1 K co) sz) K co (f_Me_mend K co w)) 0 0 (va_A (W_Me cI cL g0 g1 K co) sz) := by
  refine mk_met (Qf := fun A => q_Me_mend D cI cL g0 g1 A K co (f_Me_mend K co w)) (by decide) (Nat.le_of_ble_eq_true rfl) ?_
  intro p e s m below meth c A ls hx hb hr hlocks hml hown hg hK hN hT hA hP hD hS hnm hl
  refine lv_aload_n hx hb d_Me_mend_0 rfl (lv_at hl 0 rfl) ?_
  refine va_get (ci := 1) (C := R_Me) (T := F_Me) (N := 2) hx hb hg in_Me hown hK hP 0 rfl rfl 0 (by decide) (hg _ m_90) (fun _ h => h) rfl d_Me_mend_1 ?_
  refine lv_iload_n hx hb d_Me_mend_4 rfl (lv_at hl 1 rfl) ?_
  refine va_lald hx hb hK hP 1 1 rfl rfl h_w d_Me_mend_5 ?_
  refine cj_l (wc := []) (w1 := []) hP hD hS hA [] rfl [] rfl rfl (va_runS (rest := []) ⟨hx, hb, hml, hown, hg⟩ (c_Me_putRight l D cI cL  _ (K w.toNatClampNeg)) ⟨callB_of 1 hg (gw_good m_259) rfl rfl rfl (hg _ m_66) (hg _ m_257) hd_Me_putRight ⟨Nat.le_of_ble_eq_true rfl, Nat.le_of_ble_eq_true rfl⟩, hg _ m_258⟩ (pw_S hK hN hT hA hP hD hS [] rfl (by decide)) rfl rfl hl.1 rfl (lv_room (Nat.le_of_ble_eq_true rfl)) d_Me_mend_6 ⟨Nat.le_of_ble_eq_true rfl, Nat.le_of_ble_eq_true rfl⟩) (fun H locs hP hD hS => ?_)
  have hP : va_P D classes (W_Me cI cL g0 g1 K co) H := hP
  have hD : va_D A (W_Me cI cL g0 g1 K co) := hD
  refine lv_lstore_n (lv' := [(2, .long _), (0, .ref _), (1, .int _)]) hx hb d_Me_mend_9 rfl hl (by decide) rfl (fun ls hl => ?_)
  refine lv_lload_n hx hb d_Me_mend_10 rfl (lv_at hl 0 rfl) ?_
  refine lv_ldc2 hx hb hown (hg _ m_260) d_Me_mend_11 ?_
  refine W.lcmp hx hb d_Me_mend_14 ?_
  refine lv_if_ne (tgt := 22) hx hb d_Me_mend_15 (by decide) (fun h15 => ?_) (fun h15 => ?_)
  · refine lv_lload_n hx hb d_Me_mend_22 rfl (lv_at hl 0 rfl) ?_
    refine lv_aload_n hx hb d_Me_mend_23 rfl (lv_at hl 1 rfl) ?_
    refine va_get (ci := 1) (C := R_Me) (T := F_Me) (N := 2) hx hb hg in_Me hown hK hP 0 rfl rfl 0 (by decide) (hg _ m_90) (fun _ h => h) rfl d_Me_mend_24 ?_
    refine lv_iload_n hx hb d_Me_mend_27 rfl (lv_at hl 2 rfl) ?_
    refine va_lald hx hb hK hP 1 1 rfl rfl h_w d_Me_mend_28 ?_
    refine W.lcmp hx hb d_Me_mend_29 ?_
    refine lv_if_eq (tgt := 50) hx hb d_Me_mend_30 (by decide) (fun h30 => ?_) (fun h30 => ?_)
    · refine lv_lload_n hx hb d_Me_mend_50 rfl (lv_at hl 0 rfl) ?_
      refine cj_l (wc := []) (w1 := []) hP hD hS hA [] rfl [] rfl rfl (va_runS (rest := []) ⟨hx, hb, hml, hown, hg⟩ (c_Me_gathered l D cI cL  _ (f_Me_putRight (K w.toNatClampNeg))) ⟨callB_of 1 hg (gw_good m_263) rfl rfl rfl (hg _ m_66) (hg _ m_261) hd_Me_gathered ⟨Nat.le_of_ble_eq_true rfl, Nat.le_of_ble_eq_true rfl⟩, hg _ m_262⟩ (pw_S hK hN hT hA hP hD hS [] rfl (by decide)) rfl rfl hl.1 rfl (lv_room (Nat.le_of_ble_eq_true rfl)) d_Me_mend_51 ⟨Nat.le_of_ble_eq_true rfl, Nat.le_of_ble_eq_true rfl⟩) (fun H locs hP hD hS => ?_)
      have hP : va_P D classes (W_Me cI cL g0 g1 K co) H := hP
      have hD : va_D A (W_Me cI cL g0 g1 K co) := hD
      rw [f_Me_mend_e0 K co w h15 h30]
      exact W.lret hx hb hr (fun t ht hW => ⟨⟨_, (), rfl, rfl, by show va_P D classes _ t.heap; rw [ht]; exact hP⟩, hS.F ht⟩) hS.2.2 d_Me_mend_54 hlocks
    · refine lv_aload_n hx hb d_Me_mend_33 rfl (lv_at hl 1 rfl) ?_
      refine va_get (ci := 1) (C := R_Me) (T := F_Me) (N := 2) hx hb hg in_Me hown hK hP 0 rfl rfl 0 (by decide) (hg _ m_90) (fun _ h => h) rfl d_Me_mend_34 ?_
      refine lv_iload_n hx hb d_Me_mend_37 rfl (lv_at hl 2 rfl) ?_
      refine lv_lload_n hx hb d_Me_mend_38 rfl (lv_at hl 0 rfl) ?_
      refine va_last hx hb hK hP hD hS 1 1 rfl rfl h_w d_Me_mend_39 (fun H locs hP hD hS => ?_)
      have hP : va_P D classes (W_Me cI cL g0 g1 (vp_updL K w.toNatClampNeg (f_Me_putRight (K w.toNatClampNeg))) co) H := hP
      have hD : va_D A (W_Me cI cL g0 g1 (vp_updL K w.toNatClampNeg (f_Me_putRight (K w.toNatClampNeg))) co) := hD
      refine lv_aload_n hx hb d_Me_mend_40 rfl (lv_at hl 1 rfl) ?_
      refine lv_dup hx hb d_Me_mend_41 rfl ?_
      refine va_get (ci := 1) (C := R_Me) (T := F_Me) (N := 2) hx hb hg in_Me hown hK hP 0 rfl rfl 1 (by decide) (hg _ m_92) (fun _ h => h) rfl d_Me_mend_42 ?_
      refine lv_iconst (v := 1) hx hb d_Me_mend_45 (by decide) ?_
      refine lv_iadd hx hb d_Me_mend_46 ?_
      refine va_put (ci := 1) (ty := .int) (C := R_Me) (T := F_Me) (N := 2) hx hb hg in_Me t_Me t_Me_ok n_Me hown hK hP hD hS 0 rfl rfl 1 (by decide) (hg _ m_92) (fun _ h => h) rfl (by decide +kernel) rfl rfl (Nat.le_of_ble_eq_true rfl) d_Me_mend_47 (fun H locs hP hD hS => ?_)
      have hP : va_P D classes (W_Me cI cL g0 g1 (vp_updL K w.toNatClampNeg (f_Me_putRight (K w.toNatClampNeg))) (co + (1 : Int32))) H := hP
      have hD : va_D A (W_Me cI cL g0 g1 (vp_updL K w.toNatClampNeg (f_Me_putRight (K w.toNatClampNeg))) (co + (1 : Int32))) := hD
      refine lv_lload_n hx hb d_Me_mend_50 rfl (lv_at hl 0 rfl) ?_
      refine cj_l (wc := []) (w1 := []) hP hD hS hA [] rfl [] rfl rfl (va_runS (rest := []) ⟨hx, hb, hml, hown, hg⟩ (c_Me_gathered l D cI cL  _ (f_Me_putRight (K w.toNatClampNeg))) ⟨callB_of 1 hg (gw_good m_263) rfl rfl rfl (hg _ m_66) (hg _ m_261) hd_Me_gathered ⟨Nat.le_of_ble_eq_true rfl, Nat.le_of_ble_eq_true rfl⟩, hg _ m_262⟩ (pw_S hK hN hT hA hP hD hS [] rfl (by decide)) rfl rfl hl.1 rfl (lv_room (Nat.le_of_ble_eq_true rfl)) d_Me_mend_51 ⟨Nat.le_of_ble_eq_true rfl, Nat.le_of_ble_eq_true rfl⟩) (fun H locs hP hD hS => ?_)
      have hP : va_P D classes (W_Me cI cL g0 g1 (vp_updL K w.toNatClampNeg (f_Me_putRight (K w.toNatClampNeg))) (co + (1 : Int32))) H := hP
      have hD : va_D A (W_Me cI cL g0 g1 (vp_updL K w.toNatClampNeg (f_Me_putRight (K w.toNatClampNeg))) (co + (1 : Int32))) := hD
      rw [f_Me_mend_e1 K co w h15 h30]
      exact W.lret hx hb hr (fun t ht hW => ⟨⟨_, (), rfl, rfl, by show va_P D classes _ t.heap; rw [ht]; exact hP⟩, hS.F ht⟩) hS.2.2 d_Me_mend_54 hlocks
  · refine lv_ldc2 hx hb hown (hg _ m_260) d_Me_mend_18 ?_
    rw [f_Me_mend_e2 K co w h15]
    exact W.lret hx hb hr (fun t ht hW => ⟨⟨_, (), rfl, rfl, by show va_P D classes _ t.heap; rw [ht]; exact hP⟩, hS.F ht⟩) hS.2.2 d_Me_mend_21 hlocks
