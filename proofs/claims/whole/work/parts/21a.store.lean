abbrev q_Mo_store (D : va_G) (cI cL : ClassId) (b0 b1 b2 b3 b4 b5 b6 b7 : Nat) (A : Nat → Prop) (ev : Int32) (wr : Nat → Int32) (wg : Nat → Int64) (ke : Nat → Int32) (ma : Nat → Int32) (li : Nat → Int64) (ps : Int32) (pn : Nat → Int32) (cy : Int32) (ca : Int32) (va : Int32) (cn : Nat → Int32) (pp : Int32) (px : Int32) (go : Int32) (ne : Int32) (gi : Int32) (gn : Int32) (F : (Nat → Int32) × (Nat → Int64) × (Nat → Int64) × Int32 × Int32 × (Nat → Int32) × Int32) : Array Value → State → Outcome → State → Prop := va_Qv (fun (_ : Unit) => True) (fun _ t => va_P D classes (W_Mo cI cL b0 b1 b2 b3 b4 b5 b6 b7 ev F.1 F.2.1 ke ma F.2.2.1 ps pn cy F.2.2.2.1 F.2.2.2.2.1 F.2.2.2.2.2.1 pp px F.2.2.2.2.2.2 ne gi gn) t.heap) A
theorem f_Mo_store_e0 (wr : Nat → Int32) (wg : Nat → Int64) (li : Nat → Int64) (ca : Int32) (va : Int32) (cn : Nat → Int32) (px : Int32) (go : Int32) (f : Int32) (a : Int32) (b : Int32) (t1 : Int32 × Int32 × Int32) (e_t1 : f_Mo_reaches ca va a ((1 : Int32) <<< (f &&& 31)) = t1) (h2 : f ≤ (2 : Int32)) (h20 : t1.1 = 0) : f_Mo_store wr wg li ca va cn px go f a b = (wr, wg, li, t1.2.1, t1.2.2, cn, go) := by
  subst e_t1
  exact ((if_pos h2).trans (if_pos h20))
theorem f_Mo_store_e1 (wr : Nat → Int32) (wg : Nat → Int64) (li : Nat → Int64) (ca : Int32) (va : Int32) (cn : Nat → Int32) (px : Int32) (go : Int32) (f : Int32) (a : Int32) (b : Int32) (t1 : Int32 × Int32 × Int32) (t2 : (Nat → Int32) × (Nat → Int64) × (Nat → Int64) × (Nat → Int32)) (e_t1 : f_Mo_reaches ca va a ((1 : Int32) <<< (f &&& 31)) = t1) (e_t2 : f_Mo_save wr wg li cn (a / (4 : Int32)) (((0 : Int32) &&& (((-1 : Int32) <<< (((8 : Int32) * (u_rem a (4 : Int32))) &&& 31)) ^^^ (-1 : Int32))) ||| ((b &&& (-1 : Int32)) <<< (((8 : Int32) * (u_rem a (4 : Int32))) &&& 31))) = t2) (h2 : f ≤ (2 : Int32)) (h20 : ¬ t1.1 = 0) (h25 : f = (2 : Int32)) (h48 : ¬ f = 0) (h59 : ¬ f = (1 : Int32)) : f_Mo_store wr wg li ca va cn px go f a b = (t2.1, t2.2.1, t2.2.2.1, t1.2.1, t1.2.2, t2.2.2.2, go) := by
  subst e_t2
  subst e_t1
  exact ((if_pos h2).trans ((if_neg h20).trans ((if_pos h25).trans ((if_neg h48).trans (if_neg h59)))))
theorem f_Mo_store_e2 (wr : Nat → Int32) (wg : Nat → Int64) (li : Nat → Int64) (ca : Int32) (va : Int32) (cn : Nat → Int32) (px : Int32) (go : Int32) (f : Int32) (a : Int32) (b : Int32) (t1 : Int32 × Int32 × Int32) (t3 : (Nat → Int32) × (Nat → Int64) × (Nat → Int64) × (Nat → Int32)) (e_t1 : f_Mo_reaches ca va a ((1 : Int32) <<< (f &&& 31)) = t1) (e_t3 : f_Mo_save wr wg li cn (a / (4 : Int32)) (((0 : Int32) &&& (((65535 : Int32) <<< (((8 : Int32) * (u_rem a (4 : Int32))) &&& 31)) ^^^ (-1 : Int32))) ||| ((b &&& (65535 : Int32)) <<< (((8 : Int32) * (u_rem a (4 : Int32))) &&& 31))) = t3) (h2 : f ≤ (2 : Int32)) (h20 : ¬ t1.1 = 0) (h25 : f = (2 : Int32)) (h48 : ¬ f = 0) (h59 : f = (1 : Int32)) : f_Mo_store wr wg li ca va cn px go f a b = (t3.1, t3.2.1, t3.2.2.1, t1.2.1, t1.2.2, t3.2.2.2, go) := by
  subst e_t3
  subst e_t1
  exact ((if_pos h2).trans ((if_neg h20).trans ((if_pos h25).trans ((if_neg h48).trans (if_pos h59)))))
theorem f_Mo_store_e3 (wr : Nat → Int32) (wg : Nat → Int64) (li : Nat → Int64) (ca : Int32) (va : Int32) (cn : Nat → Int32) (px : Int32) (go : Int32) (f : Int32) (a : Int32) (b : Int32) (t1 : Int32 × Int32 × Int32) (t4 : (Nat → Int32) × (Nat → Int64) × (Nat → Int64) × (Nat → Int32)) (e_t1 : f_Mo_reaches ca va a ((1 : Int32) <<< (f &&& 31)) = t1) (e_t4 : f_Mo_save wr wg li cn (a / (4 : Int32)) (((0 : Int32) &&& (((255 : Int32) <<< (((8 : Int32) * (u_rem a (4 : Int32))) &&& 31)) ^^^ (-1 : Int32))) ||| ((b &&& (255 : Int32)) <<< (((8 : Int32) * (u_rem a (4 : Int32))) &&& 31))) = t4) (h2 : f ≤ (2 : Int32)) (h20 : ¬ t1.1 = 0) (h25 : f = (2 : Int32)) (h48 : f = 0) : f_Mo_store wr wg li ca va cn px go f a b = (t4.1, t4.2.1, t4.2.2.1, t1.2.1, t1.2.2, t4.2.2.2, go) := by
  subst e_t4
  subst e_t1
  exact ((if_pos h2).trans ((if_neg h20).trans ((if_pos h25).trans (if_pos h48))))
theorem f_Mo_store_e4 (wr : Nat → Int32) (wg : Nat → Int64) (li : Nat → Int64) (ca : Int32) (va : Int32) (cn : Nat → Int32) (px : Int32) (go : Int32) (f : Int32) (a : Int32) (b : Int32) (t1 : Int32 × Int32 × Int32) (t5 : Int32 × (Nat → Int64) × (Nat → Int64) × Int32 × Int32 × (Nat → Int32) × Int32) (e_t1 : f_Mo_reaches ca va a ((1 : Int32) <<< (f &&& 31)) = t1) (e_t5 : f_Mo_fetch wr wg li t1.2.1 t1.2.2 cn go (1 : Int32) (a / (4 : Int32)) = t5) (h2 : f ≤ (2 : Int32)) (h20 : ¬ t1.1 = 0) (h25 : ¬ f = (2 : Int32)) (h36 : t5.1 = 0) : f_Mo_store wr wg li ca va cn px go f a b = (wr, t5.2.1, t5.2.2.1, t5.2.2.2.1, t5.2.2.2.2.1, t5.2.2.2.2.2.1, t5.2.2.2.2.2.2) := by
  subst e_t5
  subst e_t1
  exact ((if_pos h2).trans ((if_neg h20).trans ((if_neg h25).trans (if_pos h36))))
theorem f_Mo_store_e5 (wr : Nat → Int32) (wg : Nat → Int64) (li : Nat → Int64) (ca : Int32) (va : Int32) (cn : Nat → Int32) (px : Int32) (go : Int32) (f : Int32) (a : Int32) (b : Int32) (t1 : Int32 × Int32 × Int32) (t5 : Int32 × (Nat → Int64) × (Nat → Int64) × Int32 × Int32 × (Nat → Int32) × Int32) (t6 : (Nat → Int32) × (Nat → Int64) × (Nat → Int64) × (Nat → Int32)) (e_t1 : f_Mo_reaches ca va a ((1 : Int32) <<< (f &&& 31)) = t1) (e_t5 : f_Mo_fetch wr wg li t1.2.1 t1.2.2 cn go (1 : Int32) (a / (4 : Int32)) = t5) (e_t6 : f_Mo_save wr t5.2.1 t5.2.2.1 t5.2.2.2.2.2.1 (a / (4 : Int32)) ((t5.2.2.2.2.2.2 &&& (((-1 : Int32) <<< (((8 : Int32) * (u_rem a (4 : Int32))) &&& 31)) ^^^ (-1 : Int32))) ||| ((b &&& (-1 : Int32)) <<< (((8 : Int32) * (u_rem a (4 : Int32))) &&& 31))) = t6) (h2 : f ≤ (2 : Int32)) (h20 : ¬ t1.1 = 0) (h25 : ¬ f = (2 : Int32)) (h36 : ¬ t5.1 = 0) (h48 : ¬ f = 0) (h59 : ¬ f = (1 : Int32)) : f_Mo_store wr wg li ca va cn px go f a b = (t6.1, t6.2.1, t6.2.2.1, t5.2.2.2.1, t5.2.2.2.2.1, t6.2.2.2, t5.2.2.2.2.2.2) := by
  subst e_t6
  subst e_t5
  subst e_t1
  exact ((if_pos h2).trans ((if_neg h20).trans ((if_neg h25).trans ((if_neg h36).trans ((if_neg h48).trans (if_neg h59))))))
theorem f_Mo_store_e6 (wr : Nat → Int32) (wg : Nat → Int64) (li : Nat → Int64) (ca : Int32) (va : Int32) (cn : Nat → Int32) (px : Int32) (go : Int32) (f : Int32) (a : Int32) (b : Int32) (t1 : Int32 × Int32 × Int32) (t5 : Int32 × (Nat → Int64) × (Nat → Int64) × Int32 × Int32 × (Nat → Int32) × Int32) (t7 : (Nat → Int32) × (Nat → Int64) × (Nat → Int64) × (Nat → Int32)) (e_t1 : f_Mo_reaches ca va a ((1 : Int32) <<< (f &&& 31)) = t1) (e_t5 : f_Mo_fetch wr wg li t1.2.1 t1.2.2 cn go (1 : Int32) (a / (4 : Int32)) = t5) (e_t7 : f_Mo_save wr t5.2.1 t5.2.2.1 t5.2.2.2.2.2.1 (a / (4 : Int32)) ((t5.2.2.2.2.2.2 &&& (((65535 : Int32) <<< (((8 : Int32) * (u_rem a (4 : Int32))) &&& 31)) ^^^ (-1 : Int32))) ||| ((b &&& (65535 : Int32)) <<< (((8 : Int32) * (u_rem a (4 : Int32))) &&& 31))) = t7) (h2 : f ≤ (2 : Int32)) (h20 : ¬ t1.1 = 0) (h25 : ¬ f = (2 : Int32)) (h36 : ¬ t5.1 = 0) (h48 : ¬ f = 0) (h59 : f = (1 : Int32)) : f_Mo_store wr wg li ca va cn px go f a b = (t7.1, t7.2.1, t7.2.2.1, t5.2.2.2.1, t5.2.2.2.2.1, t7.2.2.2, t5.2.2.2.2.2.2) := by
  subst e_t7
  subst e_t5
  subst e_t1
  exact ((if_pos h2).trans ((if_neg h20).trans ((if_neg h25).trans ((if_neg h36).trans ((if_neg h48).trans (if_pos h59))))))
theorem f_Mo_store_e7 (wr : Nat → Int32) (wg : Nat → Int64) (li : Nat → Int64) (ca : Int32) (va : Int32) (cn : Nat → Int32) (px : Int32) (go : Int32) (f : Int32) (a : Int32) (b : Int32) (t1 : Int32 × Int32 × Int32) (t5 : Int32 × (Nat → Int64) × (Nat → Int64) × Int32 × Int32 × (Nat → Int32) × Int32) (t8 : (Nat → Int32) × (Nat → Int64) × (Nat → Int64) × (Nat → Int32)) (e_t1 : f_Mo_reaches ca va a ((1 : Int32) <<< (f &&& 31)) = t1) (e_t5 : f_Mo_fetch wr wg li t1.2.1 t1.2.2 cn go (1 : Int32) (a / (4 : Int32)) = t5) (e_t8 : f_Mo_save wr t5.2.1 t5.2.2.1 t5.2.2.2.2.2.1 (a / (4 : Int32)) ((t5.2.2.2.2.2.2 &&& (((255 : Int32) <<< (((8 : Int32) * (u_rem a (4 : Int32))) &&& 31)) ^^^ (-1 : Int32))) ||| ((b &&& (255 : Int32)) <<< (((8 : Int32) * (u_rem a (4 : Int32))) &&& 31))) = t8) (h2 : f ≤ (2 : Int32)) (h20 : ¬ t1.1 = 0) (h25 : ¬ f = (2 : Int32)) (h36 : ¬ t5.1 = 0) (h48 : f = 0) : f_Mo_store wr wg li ca va cn px go f a b = (t8.1, t8.2.1, t8.2.2.1, t5.2.2.2.1, t5.2.2.2.2.1, t8.2.2.2, t5.2.2.2.2.2.2) := by
  subst e_t8
  subst e_t5
  subst e_t1
  exact ((if_pos h2).trans ((if_neg h20).trans ((if_neg h25).trans ((if_neg h36).trans (if_pos h48)))))
theorem f_Mo_store_e8 (wr : Nat → Int32) (wg : Nat → Int64) (li : Nat → Int64) (ca : Int32) (va : Int32) (cn : Nat → Int32) (px : Int32) (go : Int32) (f : Int32) (a : Int32) (b : Int32) (t9 : Int32 × Int32) (e_t9 : f_Mo_illegal ca va px = t9) (h2 : ¬ f ≤ (2 : Int32)) : f_Mo_store wr wg li ca va cn px go f a b = (wr, wg, li, t9.1, t9.2, cn, go) := by
  subst e_t9
  exact (if_neg h2)
set_option maxHeartbeats 4000000 in
set_option maxRecDepth 100000 in
theorem c_Mo_store (l : Launch) (D : va_G) (cI cL : ClassId) (b0 b1 b2 b3 b4 b5 b6 b7 : Nat) (sz : Nat) (ev : Int32) (wr : Nat → Int32) (wg : Nat → Int64) (ke : Nat → Int32) (ma : Nat → Int32) (li : Nat → Int64) (ps : Int32) (pn : Nat → Int32) (cy : Int32) (ca : Int32) (va : Int32) (cn : Nat → Int32) (pp : Int32) (px : Int32) (go : Int32) (ne : Int32) (gi : Int32) (gn : Int32) (f : Int32) (a : Int32) (b : Int32)  : Met l y_Mo_store w_Mo_store ({ frames := 4, cells := 0, slots := 0, locals := 90 }) (va_Pc [.ref b0, .int f, .int a, .int b] (PW D cI cL (W_Mo cI cL b0 b1 b2 b3 b4 b5 b6 b7 ev wr wg ke ma li ps pn cy ca va cn pp px go ne gi gn) sz)) (q_Mo_store D cI cL b0 b1 b2 b3 b4 b5 b6 b7 (va_A (W_Mo cI cL b0 b1 b2 b3 b4 b5 b6 b7 ev wr wg ke ma li ps pn cy ca va cn pp px go ne gi gn) sz) ev wr wg ke ma li ps pn cy ca va cn pp px go ne gi gn (f_Mo_store wr wg li ca va cn px go f a b)) 0 0 (va_A (W_Mo cI cL b0 b1 b2 b3 b4 b5 b6 b7 ev wr wg ke ma li ps pn cy ca va cn pp px go ne gi gn) sz) := by
  refine mk_met (Qf := fun A => q_Mo_store D cI cL b0 b1 b2 b3 b4 b5 b6 b7 A ev wr wg ke ma li ps pn cy ca va cn pp px go ne gi gn (f_Mo_store wr wg li ca va cn px go f a b)) (by decide) (Nat.le_of_ble_eq_true rfl) ?_
  intro p e s m below meth c A ls hx hb hr hlocks hml hown hg hK hN hT hA hP hD hS hnm hl
  refine lv_iload_n hx hb d_Mo_store_0 rfl (lv_at hl 1 rfl) ?_
  refine lv_iconst (v := 2) hx hb d_Mo_store_1 (by decide) ?_
  refine lv_icmp_le (tgt := 12) hx hb d_Mo_store_2 (by decide) (fun h2 => ?_) (fun h2 => ?_)
  · refine lv_aload_n hx hb d_Mo_store_12 rfl (lv_at hl 0 rfl) ?_
    refine lv_iload_n hx hb d_Mo_store_13 rfl (lv_at hl 2 rfl) ?_
    refine lv_iconst (v := 1) hx hb d_Mo_store_14 (by decide) ?_
    refine lv_iload_n hx hb d_Mo_store_15 rfl (lv_at hl 1 rfl) ?_
    refine lv_ishl hx hb d_Mo_store_16 ?_
    refine cj_i (wc := (W_Mo cI cL b0 b1 b2 b3 b4 b5 b6 b7 ev wr wg ke ma li ps pn cy ca va cn pp px go ne gi gn)) (w1 := (W_Mo cI cL b0 b1 b2 b3 b4 b5 b6 b7 ev wr wg ke ma li ps pn cy ((f_Mo_reaches ca va a ((1 : Int32) <<< (f &&& 31))).2.1) ((f_Mo_reaches ca va a ((1 : Int32) <<< (f &&& 31))).2.2) cn pp px go ne gi gn)) hP hD hS hA [0, 1, 2, 3, 4, 5, 6, 7] rfl [b0, b1, b2, b3, b4, b5, b6, b7] rfl rfl (va_runV (rest := []) ⟨hx, hb, hml, hown, hg⟩ (c_Mo_reaches l D cI cL b0 b1 b2 b3 b4 b5 b6 b7 _ ev wr wg ke ma li ps pn cy ca va cn pp px go ne gi gn a ((1 : Int32) <<< (f &&& 31)) (shl1_ne _)) ⟨callB_of 2 hg (gw_good m_680) rfl rfl rfl (hg _ m_71) (hg _ m_677) hd_Mo_reaches ⟨Nat.le_of_ble_eq_true rfl, Nat.le_of_ble_eq_true rfl⟩, hg _ m_679, hg _ m_55⟩ (pw_V hK hN hT hA hP hD hS [0, 1, 2, 3, 4, 5, 6, 7] rfl (by decide) (q0 := 0) (ci := 5) rfl rfl) rfl rfl hl.1 rfl (lv_room (Nat.le_of_ble_eq_true rfl)) d_Mo_store_17 ⟨Nat.le_of_ble_eq_true rfl, Nat.le_of_ble_eq_true rfl⟩) (fun H locs hP hD hS => ?_)
    have hP : va_P D classes (W_Mo cI cL b0 b1 b2 b3 b4 b5 b6 b7 ev wr wg ke ma li ps pn cy ((f_Mo_reaches ca va a ((1 : Int32) <<< (f &&& 31))).2.1) ((f_Mo_reaches ca va a ((1 : Int32) <<< (f &&& 31))).2.2) cn pp px go ne gi gn) H := hP
    have hD : va_D A (W_Mo cI cL b0 b1 b2 b3 b4 b5 b6 b7 ev wr wg ke ma li ps pn cy ((f_Mo_reaches ca va a ((1 : Int32) <<< (f &&& 31))).2.1) ((f_Mo_reaches ca va a ((1 : Int32) <<< (f &&& 31))).2.2) cn pp px go ne gi gn) := hD
    generalize e_t1 : f_Mo_reaches ca va a ((1 : Int32) <<< (f &&& 31)) = t1 at hP hD ⊢
    obtain ⟨t1_0, t1_1, t1_2⟩ := t1
    have hP : va_P D classes (W_Mo cI cL b0 b1 b2 b3 b4 b5 b6 b7 ev wr wg ke ma li ps pn cy t1_1 t1_2 cn pp px go ne gi gn) H := hP
    have hD : va_D A (W_Mo cI cL b0 b1 b2 b3 b4 b5 b6 b7 ev wr wg ke ma li ps pn cy t1_1 t1_2 cn pp px go ne gi gn) := hD
    refine W.eq (g2 := F0 m 20 ls (.int t1_0 :: [])) rfl ?_
    refine lv_if_eq (tgt := 110) hx hb d_Mo_store_20 (by decide) (fun h20 => ?_) (fun h20 => ?_)
    · rw [f_Mo_store_e0 wr wg li ca va cn px go f a b (t1_0, t1_1, t1_2) e_t1 h2 h20]
      exact W.vret hx hb hr (fun t ht hW => ⟨⟨(), rfl, trivial, by show va_P D classes _ t.heap; rw [ht]; exact hP⟩, hS.F ht⟩) hS.2.2 d_Mo_store_110 hlocks
    · refine lv_iload_n hx hb d_Mo_store_23 rfl (lv_at hl 1 rfl) ?_
      refine lv_iconst (v := 2) hx hb d_Mo_store_24 (by decide) ?_
      refine lv_icmp_eq (tgt := 39) hx hb d_Mo_store_25 (by decide) (fun h25 => ?_) (fun h25 => ?_)
      · refine lv_bipush (v := 8) hx hb d_Mo_store_39 (by decide) ?_
        refine lv_iload_n hx hb d_Mo_store_41 rfl (lv_at hl 2 rfl) ?_
        refine lv_iconst (v := 4) hx hb d_Mo_store_42 (by decide) ?_
        refine lv_rem hx hb d_Mo_store_43 (by decide) ?_
        refine lv_imul hx hb d_Mo_store_44 ?_
        refine lv_istore (lv' := [(4, .int _), (0, .ref _), (1, .int _), (2, .int _), (3, .int _)]) hx hb d_Mo_store_45 hl (by decide) rfl (fun ls hl => ?_)
        refine lv_iload_n hx hb d_Mo_store_47 rfl (lv_at hl 2 rfl) ?_
        refine lv_if_ne (tgt := 57) hx hb d_Mo_store_48 (by decide) (fun h48 => ?_) (fun h48 => ?_)
        · refine lv_iload_n hx hb d_Mo_store_57 rfl (lv_at hl 2 rfl) ?_
          refine lv_iconst (v := 1) hx hb d_Mo_store_58 (by decide) ?_
          refine lv_icmp_ne (tgt := 67) hx hb d_Mo_store_59 (by decide) (fun h59 => ?_) (fun h59 => ?_)
          · refine lv_iconst (v := -1) hx hb d_Mo_store_67 (by decide) ?_
            refine lv_istore (lv' := [(5, .int _), (4, .int _), (0, .ref _), (1, .int _), (2, .int _), (3, .int _)]) hx hb d_Mo_store_68 hl (by decide) rfl (fun ls hl => ?_)
            refine lv_iload_n hx hb d_Mo_store_70 rfl (lv_at hl 3 rfl) ?_
            refine lv_iconst (v := 2) hx hb d_Mo_store_71 (by decide) ?_
            refine lv_icmp_ne (tgt := 79) hx hb d_Mo_store_72 (by decide) (fun h => absurd h25 h) (fun _ => ?_)
            refine lv_iconst (v := 0) hx hb d_Mo_store_75 (by decide) ?_
            refine lv_goto (tgt := 83) hx hb d_Mo_store_76 (by decide) ?_
            refine lv_istore (lv' := [(6, .int _), (5, .int _), (4, .int _), (0, .ref _), (1, .int _), (2, .int _), (3, .int _)]) hx hb d_Mo_store_83 hl (by decide) rfl (fun ls hl => ?_)
            refine lv_aload_n hx hb d_Mo_store_85 rfl (lv_at hl 3 rfl) ?_
            refine lv_iload_n hx hb d_Mo_store_86 rfl (lv_at hl 5 rfl) ?_
            refine lv_iconst (v := 4) hx hb d_Mo_store_87 (by decide) ?_
            refine lv_idiv hx hb d_Mo_store_88 (by decide) ?_
            refine lv_iload hx hb d_Mo_store_89 (lv_at hl 0 rfl) ?_
            refine lv_iload hx hb d_Mo_store_91 (lv_at hl 1 rfl) ?_
            refine lv_iload hx hb d_Mo_store_93 (lv_at hl 2 rfl) ?_
            refine lv_ishl hx hb d_Mo_store_95 ?_
            refine lv_iconst (v := -1) hx hb d_Mo_store_96 (by decide) ?_
            refine lv_ixor hx hb d_Mo_store_97 ?_
            refine lv_iand hx hb d_Mo_store_98 ?_
            refine lv_iload_n hx hb d_Mo_store_99 rfl (lv_at hl 6 rfl) ?_
            refine lv_iload hx hb d_Mo_store_100 (lv_at hl 1 rfl) ?_
            refine lv_iand hx hb d_Mo_store_102 ?_
            refine lv_iload hx hb d_Mo_store_103 (lv_at hl 2 rfl) ?_
            refine lv_ishl hx hb d_Mo_store_105 ?_
            refine lv_ior hx hb d_Mo_store_106 ?_
            refine cj_v (wc := (W_Mo cI cL b0 b1 b2 b3 b4 b5 b6 b7 ev wr wg ke ma li ps pn cy t1_1 t1_2 cn pp px go ne gi gn)) (w1 := (W_Mo cI cL b0 b1 b2 b3 b4 b5 b6 b7 ev ((f_Mo_save wr wg li cn (a / (4 : Int32)) (((0 : Int32) &&& (((-1 : Int32) <<< (((8 : Int32) * (u_rem a (4 : Int32))) &&& 31)) ^^^ (-1 : Int32))) ||| ((b &&& (-1 : Int32)) <<< (((8 : Int32) * (u_rem a (4 : Int32))) &&& 31)))).1) ((f_Mo_save wr wg li cn (a / (4 : Int32)) (((0 : Int32) &&& (((-1 : Int32) <<< (((8 : Int32) * (u_rem a (4 : Int32))) &&& 31)) ^^^ (-1 : Int32))) ||| ((b &&& (-1 : Int32)) <<< (((8 : Int32) * (u_rem a (4 : Int32))) &&& 31)))).2.1) ke ma ((f_Mo_save wr wg li cn (a / (4 : Int32)) (((0 : Int32) &&& (((-1 : Int32) <<< (((8 : Int32) * (u_rem a (4 : Int32))) &&& 31)) ^^^ (-1 : Int32))) ||| ((b &&& (-1 : Int32)) <<< (((8 : Int32) * (u_rem a (4 : Int32))) &&& 31)))).2.2.1) ps pn cy t1_1 t1_2 ((f_Mo_save wr wg li cn (a / (4 : Int32)) (((0 : Int32) &&& (((-1 : Int32) <<< (((8 : Int32) * (u_rem a (4 : Int32))) &&& 31)) ^^^ (-1 : Int32))) ||| ((b &&& (-1 : Int32)) <<< (((8 : Int32) * (u_rem a (4 : Int32))) &&& 31)))).2.2.2) pp px go ne gi gn)) hP hD hS hA [0, 1, 2, 3, 4, 5, 6, 7] rfl [b0, b1, b2, b3, b4, b5, b6, b7] rfl rfl (va_runV (rest := []) ⟨hx, hb, hml, hown, hg⟩ (c_Mo_save l D cI cL b0 b1 b2 b3 b4 b5 b6 b7 _ ev wr wg ke ma li ps pn cy t1_1 t1_2 cn pp px go ne gi gn (a / (4 : Int32)) (((0 : Int32) &&& (((-1 : Int32) <<< (((8 : Int32) * (u_rem a (4 : Int32))) &&& 31)) ^^^ (-1 : Int32))) ||| ((b &&& (-1 : Int32)) <<< (((8 : Int32) * (u_rem a (4 : Int32))) &&& 31))) (in_reachT e_t1 h20)) ⟨callB_of 2 hg (gw_good m_693) rfl rfl rfl (hg _ m_71) (hg _ m_690) hd_Mo_save ⟨Nat.le_of_ble_eq_true rfl, Nat.le_of_ble_eq_true rfl⟩, hg _ m_692, hg _ m_58⟩ (pw_V hK hN hT hA hP hD hS [0, 1, 2, 3, 4, 5, 6, 7] rfl (by decide) (q0 := 0) (ci := 5) rfl rfl) rfl rfl hl.1 rfl (lv_room (Nat.le_of_ble_eq_true rfl)) d_Mo_store_107 ⟨Nat.le_of_ble_eq_true rfl, Nat.le_of_ble_eq_true rfl⟩) (fun H locs hP hD hS => ?_)
            have hP : va_P D classes (W_Mo cI cL b0 b1 b2 b3 b4 b5 b6 b7 ev ((f_Mo_save wr wg li cn (a / (4 : Int32)) (((0 : Int32) &&& (((-1 : Int32) <<< (((8 : Int32) * (u_rem a (4 : Int32))) &&& 31)) ^^^ (-1 : Int32))) ||| ((b &&& (-1 : Int32)) <<< (((8 : Int32) * (u_rem a (4 : Int32))) &&& 31)))).1) ((f_Mo_save wr wg li cn (a / (4 : Int32)) (((0 : Int32) &&& (((-1 : Int32) <<< (((8 : Int32) * (u_rem a (4 : Int32))) &&& 31)) ^^^ (-1 : Int32))) ||| ((b &&& (-1 : Int32)) <<< (((8 : Int32) * (u_rem a (4 : Int32))) &&& 31)))).2.1) ke ma ((f_Mo_save wr wg li cn (a / (4 : Int32)) (((0 : Int32) &&& (((-1 : Int32) <<< (((8 : Int32) * (u_rem a (4 : Int32))) &&& 31)) ^^^ (-1 : Int32))) ||| ((b &&& (-1 : Int32)) <<< (((8 : Int32) * (u_rem a (4 : Int32))) &&& 31)))).2.2.1) ps pn cy t1_1 t1_2 ((f_Mo_save wr wg li cn (a / (4 : Int32)) (((0 : Int32) &&& (((-1 : Int32) <<< (((8 : Int32) * (u_rem a (4 : Int32))) &&& 31)) ^^^ (-1 : Int32))) ||| ((b &&& (-1 : Int32)) <<< (((8 : Int32) * (u_rem a (4 : Int32))) &&& 31)))).2.2.2) pp px go ne gi gn) H := hP
            have hD : va_D A (W_Mo cI cL b0 b1 b2 b3 b4 b5 b6 b7 ev ((f_Mo_save wr wg li cn (a / (4 : Int32)) (((0 : Int32) &&& (((-1 : Int32) <<< (((8 : Int32) * (u_rem a (4 : Int32))) &&& 31)) ^^^ (-1 : Int32))) ||| ((b &&& (-1 : Int32)) <<< (((8 : Int32) * (u_rem a (4 : Int32))) &&& 31)))).1) ((f_Mo_save wr wg li cn (a / (4 : Int32)) (((0 : Int32) &&& (((-1 : Int32) <<< (((8 : Int32) * (u_rem a (4 : Int32))) &&& 31)) ^^^ (-1 : Int32))) ||| ((b &&& (-1 : Int32)) <<< (((8 : Int32) * (u_rem a (4 : Int32))) &&& 31)))).2.1) ke ma ((f_Mo_save wr wg li cn (a / (4 : Int32)) (((0 : Int32) &&& (((-1 : Int32) <<< (((8 : Int32) * (u_rem a (4 : Int32))) &&& 31)) ^^^ (-1 : Int32))) ||| ((b &&& (-1 : Int32)) <<< (((8 : Int32) * (u_rem a (4 : Int32))) &&& 31)))).2.2.1) ps pn cy t1_1 t1_2 ((f_Mo_save wr wg li cn (a / (4 : Int32)) (((0 : Int32) &&& (((-1 : Int32) <<< (((8 : Int32) * (u_rem a (4 : Int32))) &&& 31)) ^^^ (-1 : Int32))) ||| ((b &&& (-1 : Int32)) <<< (((8 : Int32) * (u_rem a (4 : Int32))) &&& 31)))).2.2.2) pp px go ne gi gn) := hD
            generalize e_t2 : f_Mo_save wr wg li cn (a / (4 : Int32)) (((0 : Int32) &&& (((-1 : Int32) <<< (((8 : Int32) * (u_rem a (4 : Int32))) &&& 31)) ^^^ (-1 : Int32))) ||| ((b &&& (-1 : Int32)) <<< (((8 : Int32) * (u_rem a (4 : Int32))) &&& 31))) = t2 at hP hD ⊢
            obtain ⟨t2_0, t2_1, t2_2, t2_3⟩ := t2
            have hP : va_P D classes (W_Mo cI cL b0 b1 b2 b3 b4 b5 b6 b7 ev t2_0 t2_1 ke ma t2_2 ps pn cy t1_1 t1_2 t2_3 pp px go ne gi gn) H := hP
            have hD : va_D A (W_Mo cI cL b0 b1 b2 b3 b4 b5 b6 b7 ev t2_0 t2_1 ke ma t2_2 ps pn cy t1_1 t1_2 t2_3 pp px go ne gi gn) := hD
            rw [f_Mo_store_e1 wr wg li ca va cn px go f a b (t1_0, t1_1, t1_2) (t2_0, t2_1, t2_2, t2_3) e_t1 e_t2 h2 h20 h25 h48 h59]
            exact W.vret hx hb hr (fun t ht hW => ⟨⟨(), rfl, trivial, by show va_P D classes _ t.heap; rw [ht]; exact hP⟩, hS.F ht⟩) hS.2.2 d_Mo_store_110 hlocks
          · refine lv_ldc hx hb hown (hg _ m_689) d_Mo_store_62 ?_
            refine lv_goto (tgt := 68) hx hb d_Mo_store_64 (by decide) ?_
            refine lv_istore (lv' := [(5, .int _), (4, .int _), (0, .ref _), (1, .int _), (2, .int _), (3, .int _)]) hx hb d_Mo_store_68 hl (by decide) rfl (fun ls hl => ?_)
            refine lv_iload_n hx hb d_Mo_store_70 rfl (lv_at hl 3 rfl) ?_
            refine lv_iconst (v := 2) hx hb d_Mo_store_71 (by decide) ?_
            refine lv_icmp_ne (tgt := 79) hx hb d_Mo_store_72 (by decide) (fun h => absurd h25 h) (fun _ => ?_)
            refine lv_iconst (v := 0) hx hb d_Mo_store_75 (by decide) ?_
            refine lv_goto (tgt := 83) hx hb d_Mo_store_76 (by decide) ?_
            refine lv_istore (lv' := [(6, .int _), (5, .int _), (4, .int _), (0, .ref _), (1, .int _), (2, .int _), (3, .int _)]) hx hb d_Mo_store_83 hl (by decide) rfl (fun ls hl => ?_)
            refine lv_aload_n hx hb d_Mo_store_85 rfl (lv_at hl 3 rfl) ?_
            refine lv_iload_n hx hb d_Mo_store_86 rfl (lv_at hl 5 rfl) ?_
            refine lv_iconst (v := 4) hx hb d_Mo_store_87 (by decide) ?_
            refine lv_idiv hx hb d_Mo_store_88 (by decide) ?_
            refine lv_iload hx hb d_Mo_store_89 (lv_at hl 0 rfl) ?_
            refine lv_iload hx hb d_Mo_store_91 (lv_at hl 1 rfl) ?_
            refine lv_iload hx hb d_Mo_store_93 (lv_at hl 2 rfl) ?_
            refine lv_ishl hx hb d_Mo_store_95 ?_
            refine lv_iconst (v := -1) hx hb d_Mo_store_96 (by decide) ?_
            refine lv_ixor hx hb d_Mo_store_97 ?_
            refine lv_iand hx hb d_Mo_store_98 ?_
            refine lv_iload_n hx hb d_Mo_store_99 rfl (lv_at hl 6 rfl) ?_
            refine lv_iload hx hb d_Mo_store_100 (lv_at hl 1 rfl) ?_
            refine lv_iand hx hb d_Mo_store_102 ?_
            refine lv_iload hx hb d_Mo_store_103 (lv_at hl 2 rfl) ?_
            refine lv_ishl hx hb d_Mo_store_105 ?_
            refine lv_ior hx hb d_Mo_store_106 ?_
            refine cj_v (wc := (W_Mo cI cL b0 b1 b2 b3 b4 b5 b6 b7 ev wr wg ke ma li ps pn cy t1_1 t1_2 cn pp px go ne gi gn)) (w1 := (W_Mo cI cL b0 b1 b2 b3 b4 b5 b6 b7 ev ((f_Mo_save wr wg li cn (a / (4 : Int32)) (((0 : Int32) &&& (((65535 : Int32) <<< (((8 : Int32) * (u_rem a (4 : Int32))) &&& 31)) ^^^ (-1 : Int32))) ||| ((b &&& (65535 : Int32)) <<< (((8 : Int32) * (u_rem a (4 : Int32))) &&& 31)))).1) ((f_Mo_save wr wg li cn (a / (4 : Int32)) (((0 : Int32) &&& (((65535 : Int32) <<< (((8 : Int32) * (u_rem a (4 : Int32))) &&& 31)) ^^^ (-1 : Int32))) ||| ((b &&& (65535 : Int32)) <<< (((8 : Int32) * (u_rem a (4 : Int32))) &&& 31)))).2.1) ke ma ((f_Mo_save wr wg li cn (a / (4 : Int32)) (((0 : Int32) &&& (((65535 : Int32) <<< (((8 : Int32) * (u_rem a (4 : Int32))) &&& 31)) ^^^ (-1 : Int32))) ||| ((b &&& (65535 : Int32)) <<< (((8 : Int32) * (u_rem a (4 : Int32))) &&& 31)))).2.2.1) ps pn cy t1_1 t1_2 ((f_Mo_save wr wg li cn (a / (4 : Int32)) (((0 : Int32) &&& (((65535 : Int32) <<< (((8 : Int32) * (u_rem a (4 : Int32))) &&& 31)) ^^^ (-1 : Int32))) ||| ((b &&& (65535 : Int32)) <<< (((8 : Int32) * (u_rem a (4 : Int32))) &&& 31)))).2.2.2) pp px go ne gi gn)) hP hD hS hA [0, 1, 2, 3, 4, 5, 6, 7] rfl [b0, b1, b2, b3, b4, b5, b6, b7] rfl rfl (va_runV (rest := []) ⟨hx, hb, hml, hown, hg⟩ (c_Mo_save l D cI cL b0 b1 b2 b3 b4 b5 b6 b7 _ ev wr wg ke ma li ps pn cy t1_1 t1_2 cn pp px go ne gi gn (a / (4 : Int32)) (((0 : Int32) &&& (((65535 : Int32) <<< (((8 : Int32) * (u_rem a (4 : Int32))) &&& 31)) ^^^ (-1 : Int32))) ||| ((b &&& (65535 : Int32)) <<< (((8 : Int32) * (u_rem a (4 : Int32))) &&& 31))) (in_reachT e_t1 h20)) ⟨callB_of 2 hg (gw_good m_693) rfl rfl rfl (hg _ m_71) (hg _ m_690) hd_Mo_save ⟨Nat.le_of_ble_eq_true rfl, Nat.le_of_ble_eq_true rfl⟩, hg _ m_692, hg _ m_58⟩ (pw_V hK hN hT hA hP hD hS [0, 1, 2, 3, 4, 5, 6, 7] rfl (by decide) (q0 := 0) (ci := 5) rfl rfl) rfl rfl hl.1 rfl (lv_room (Nat.le_of_ble_eq_true rfl)) d_Mo_store_107 ⟨Nat.le_of_ble_eq_true rfl, Nat.le_of_ble_eq_true rfl⟩) (fun H locs hP hD hS => ?_)
            have hP : va_P D classes (W_Mo cI cL b0 b1 b2 b3 b4 b5 b6 b7 ev ((f_Mo_save wr wg li cn (a / (4 : Int32)) (((0 : Int32) &&& (((65535 : Int32) <<< (((8 : Int32) * (u_rem a (4 : Int32))) &&& 31)) ^^^ (-1 : Int32))) ||| ((b &&& (65535 : Int32)) <<< (((8 : Int32) * (u_rem a (4 : Int32))) &&& 31)))).1) ((f_Mo_save wr wg li cn (a / (4 : Int32)) (((0 : Int32) &&& (((65535 : Int32) <<< (((8 : Int32) * (u_rem a (4 : Int32))) &&& 31)) ^^^ (-1 : Int32))) ||| ((b &&& (65535 : Int32)) <<< (((8 : Int32) * (u_rem a (4 : Int32))) &&& 31)))).2.1) ke ma ((f_Mo_save wr wg li cn (a / (4 : Int32)) (((0 : Int32) &&& (((65535 : Int32) <<< (((8 : Int32) * (u_rem a (4 : Int32))) &&& 31)) ^^^ (-1 : Int32))) ||| ((b &&& (65535 : Int32)) <<< (((8 : Int32) * (u_rem a (4 : Int32))) &&& 31)))).2.2.1) ps pn cy t1_1 t1_2 ((f_Mo_save wr wg li cn (a / (4 : Int32)) (((0 : Int32) &&& (((65535 : Int32) <<< (((8 : Int32) * (u_rem a (4 : Int32))) &&& 31)) ^^^ (-1 : Int32))) ||| ((b &&& (65535 : Int32)) <<< (((8 : Int32) * (u_rem a (4 : Int32))) &&& 31)))).2.2.2) pp px go ne gi gn) H := hP
            have hD : va_D A (W_Mo cI cL b0 b1 b2 b3 b4 b5 b6 b7 ev ((f_Mo_save wr wg li cn (a / (4 : Int32)) (((0 : Int32) &&& (((65535 : Int32) <<< (((8 : Int32) * (u_rem a (4 : Int32))) &&& 31)) ^^^ (-1 : Int32))) ||| ((b &&& (65535 : Int32)) <<< (((8 : Int32) * (u_rem a (4 : Int32))) &&& 31)))).1) ((f_Mo_save wr wg li cn (a / (4 : Int32)) (((0 : Int32) &&& (((65535 : Int32) <<< (((8 : Int32) * (u_rem a (4 : Int32))) &&& 31)) ^^^ (-1 : Int32))) ||| ((b &&& (65535 : Int32)) <<< (((8 : Int32) * (u_rem a (4 : Int32))) &&& 31)))).2.1) ke ma ((f_Mo_save wr wg li cn (a / (4 : Int32)) (((0 : Int32) &&& (((65535 : Int32) <<< (((8 : Int32) * (u_rem a (4 : Int32))) &&& 31)) ^^^ (-1 : Int32))) ||| ((b &&& (65535 : Int32)) <<< (((8 : Int32) * (u_rem a (4 : Int32))) &&& 31)))).2.2.1) ps pn cy t1_1 t1_2 ((f_Mo_save wr wg li cn (a / (4 : Int32)) (((0 : Int32) &&& (((65535 : Int32) <<< (((8 : Int32) * (u_rem a (4 : Int32))) &&& 31)) ^^^ (-1 : Int32))) ||| ((b &&& (65535 : Int32)) <<< (((8 : Int32) * (u_rem a (4 : Int32))) &&& 31)))).2.2.2) pp px go ne gi gn) := hD
            generalize e_t3 : f_Mo_save wr wg li cn (a / (4 : Int32)) (((0 : Int32) &&& (((65535 : Int32) <<< (((8 : Int32) * (u_rem a (4 : Int32))) &&& 31)) ^^^ (-1 : Int32))) ||| ((b &&& (65535 : Int32)) <<< (((8 : Int32) * (u_rem a (4 : Int32))) &&& 31))) = t3 at hP hD ⊢
            obtain ⟨t3_0, t3_1, t3_2, t3_3⟩ := t3
            have hP : va_P D classes (W_Mo cI cL b0 b1 b2 b3 b4 b5 b6 b7 ev t3_0 t3_1 ke ma t3_2 ps pn cy t1_1 t1_2 t3_3 pp px go ne gi gn) H := hP
            have hD : va_D A (W_Mo cI cL b0 b1 b2 b3 b4 b5 b6 b7 ev t3_0 t3_1 ke ma t3_2 ps pn cy t1_1 t1_2 t3_3 pp px go ne gi gn) := hD
            rw [f_Mo_store_e2 wr wg li ca va cn px go f a b (t1_0, t1_1, t1_2) (t3_0, t3_1, t3_2, t3_3) e_t1 e_t3 h2 h20 h25 h48 h59]
            exact W.vret hx hb hr (fun t ht hW => ⟨⟨(), rfl, trivial, by show va_P D classes _ t.heap; rw [ht]; exact hP⟩, hS.F ht⟩) hS.2.2 d_Mo_store_110 hlocks
        · refine lv_sipush (v := 255) hx hb d_Mo_store_51 (by decide) ?_
          refine lv_goto (tgt := 68) hx hb d_Mo_store_54 (by decide) ?_
          refine lv_istore (lv' := [(5, .int _), (4, .int _), (0, .ref _), (1, .int _), (2, .int _), (3, .int _)]) hx hb d_Mo_store_68 hl (by decide) rfl (fun ls hl => ?_)
          refine lv_iload_n hx hb d_Mo_store_70 rfl (lv_at hl 3 rfl) ?_
          refine lv_iconst (v := 2) hx hb d_Mo_store_71 (by decide) ?_
          refine lv_icmp_ne (tgt := 79) hx hb d_Mo_store_72 (by decide) (fun h => absurd h25 h) (fun _ => ?_)
          refine lv_iconst (v := 0) hx hb d_Mo_store_75 (by decide) ?_
          refine lv_goto (tgt := 83) hx hb d_Mo_store_76 (by decide) ?_
          refine lv_istore (lv' := [(6, .int _), (5, .int _), (4, .int _), (0, .ref _), (1, .int _), (2, .int _), (3, .int _)]) hx hb d_Mo_store_83 hl (by decide) rfl (fun ls hl => ?_)
          refine lv_aload_n hx hb d_Mo_store_85 rfl (lv_at hl 3 rfl) ?_
          refine lv_iload_n hx hb d_Mo_store_86 rfl (lv_at hl 5 rfl) ?_
          refine lv_iconst (v := 4) hx hb d_Mo_store_87 (by decide) ?_
          refine lv_idiv hx hb d_Mo_store_88 (by decide) ?_
          refine lv_iload hx hb d_Mo_store_89 (lv_at hl 0 rfl) ?_
          refine lv_iload hx hb d_Mo_store_91 (lv_at hl 1 rfl) ?_
          refine lv_iload hx hb d_Mo_store_93 (lv_at hl 2 rfl) ?_
          refine lv_ishl hx hb d_Mo_store_95 ?_
          refine lv_iconst (v := -1) hx hb d_Mo_store_96 (by decide) ?_
          refine lv_ixor hx hb d_Mo_store_97 ?_
          refine lv_iand hx hb d_Mo_store_98 ?_
          refine lv_iload_n hx hb d_Mo_store_99 rfl (lv_at hl 6 rfl) ?_
          refine lv_iload hx hb d_Mo_store_100 (lv_at hl 1 rfl) ?_
          refine lv_iand hx hb d_Mo_store_102 ?_
          refine lv_iload hx hb d_Mo_store_103 (lv_at hl 2 rfl) ?_
          refine lv_ishl hx hb d_Mo_store_105 ?_
          refine lv_ior hx hb d_Mo_store_106 ?_
          refine cj_v (wc := (W_Mo cI cL b0 b1 b2 b3 b4 b5 b6 b7 ev wr wg ke ma li ps pn cy t1_1 t1_2 cn pp px go ne gi gn)) (w1 := (W_Mo cI cL b0 b1 b2 b3 b4 b5 b6 b7 ev ((f_Mo_save wr wg li cn (a / (4 : Int32)) (((0 : Int32) &&& (((255 : Int32) <<< (((8 : Int32) * (u_rem a (4 : Int32))) &&& 31)) ^^^ (-1 : Int32))) ||| ((b &&& (255 : Int32)) <<< (((8 : Int32) * (u_rem a (4 : Int32))) &&& 31)))).1) ((f_Mo_save wr wg li cn (a / (4 : Int32)) (((0 : Int32) &&& (((255 : Int32) <<< (((8 : Int32) * (u_rem a (4 : Int32))) &&& 31)) ^^^ (-1 : Int32))) ||| ((b &&& (255 : Int32)) <<< (((8 : Int32) * (u_rem a (4 : Int32))) &&& 31)))).2.1) ke ma ((f_Mo_save wr wg li cn (a / (4 : Int32)) (((0 : Int32) &&& (((255 : Int32) <<< (((8 : Int32) * (u_rem a (4 : Int32))) &&& 31)) ^^^ (-1 : Int32))) ||| ((b &&& (255 : Int32)) <<< (((8 : Int32) * (u_rem a (4 : Int32))) &&& 31)))).2.2.1) ps pn cy t1_1 t1_2 ((f_Mo_save wr wg li cn (a / (4 : Int32)) (((0 : Int32) &&& (((255 : Int32) <<< (((8 : Int32) * (u_rem a (4 : Int32))) &&& 31)) ^^^ (-1 : Int32))) ||| ((b &&& (255 : Int32)) <<< (((8 : Int32) * (u_rem a (4 : Int32))) &&& 31)))).2.2.2) pp px go ne gi gn)) hP hD hS hA [0, 1, 2, 3, 4, 5, 6, 7] rfl [b0, b1, b2, b3, b4, b5, b6, b7] rfl rfl (va_runV (rest := []) ⟨hx, hb, hml, hown, hg⟩ (c_Mo_save l D cI cL b0 b1 b2 b3 b4 b5 b6 b7 _ ev wr wg ke ma li ps pn cy t1_1 t1_2 cn pp px go ne gi gn (a / (4 : Int32)) (((0 : Int32) &&& (((255 : Int32) <<< (((8 : Int32) * (u_rem a (4 : Int32))) &&& 31)) ^^^ (-1 : Int32))) ||| ((b &&& (255 : Int32)) <<< (((8 : Int32) * (u_rem a (4 : Int32))) &&& 31))) (in_reachT e_t1 h20)) ⟨callB_of 2 hg (gw_good m_693) rfl rfl rfl (hg _ m_71) (hg _ m_690) hd_Mo_save ⟨Nat.le_of_ble_eq_true rfl, Nat.le_of_ble_eq_true rfl⟩, hg _ m_692, hg _ m_58⟩ (pw_V hK hN hT hA hP hD hS [0, 1, 2, 3, 4, 5, 6, 7] rfl (by decide) (q0 := 0) (ci := 5) rfl rfl) rfl rfl hl.1 rfl (lv_room (Nat.le_of_ble_eq_true rfl)) d_Mo_store_107 ⟨Nat.le_of_ble_eq_true rfl, Nat.le_of_ble_eq_true rfl⟩) (fun H locs hP hD hS => ?_)
          have hP : va_P D classes (W_Mo cI cL b0 b1 b2 b3 b4 b5 b6 b7 ev ((f_Mo_save wr wg li cn (a / (4 : Int32)) (((0 : Int32) &&& (((255 : Int32) <<< (((8 : Int32) * (u_rem a (4 : Int32))) &&& 31)) ^^^ (-1 : Int32))) ||| ((b &&& (255 : Int32)) <<< (((8 : Int32) * (u_rem a (4 : Int32))) &&& 31)))).1) ((f_Mo_save wr wg li cn (a / (4 : Int32)) (((0 : Int32) &&& (((255 : Int32) <<< (((8 : Int32) * (u_rem a (4 : Int32))) &&& 31)) ^^^ (-1 : Int32))) ||| ((b &&& (255 : Int32)) <<< (((8 : Int32) * (u_rem a (4 : Int32))) &&& 31)))).2.1) ke ma ((f_Mo_save wr wg li cn (a / (4 : Int32)) (((0 : Int32) &&& (((255 : Int32) <<< (((8 : Int32) * (u_rem a (4 : Int32))) &&& 31)) ^^^ (-1 : Int32))) ||| ((b &&& (255 : Int32)) <<< (((8 : Int32) * (u_rem a (4 : Int32))) &&& 31)))).2.2.1) ps pn cy t1_1 t1_2 ((f_Mo_save wr wg li cn (a / (4 : Int32)) (((0 : Int32) &&& (((255 : Int32) <<< (((8 : Int32) * (u_rem a (4 : Int32))) &&& 31)) ^^^ (-1 : Int32))) ||| ((b &&& (255 : Int32)) <<< (((8 : Int32) * (u_rem a (4 : Int32))) &&& 31)))).2.2.2) pp px go ne gi gn) H := hP
          have hD : va_D A (W_Mo cI cL b0 b1 b2 b3 b4 b5 b6 b7 ev ((f_Mo_save wr wg li cn (a / (4 : Int32)) (((0 : Int32) &&& (((255 : Int32) <<< (((8 : Int32) * (u_rem a (4 : Int32))) &&& 31)) ^^^ (-1 : Int32))) ||| ((b &&& (255 : Int32)) <<< (((8 : Int32) * (u_rem a (4 : Int32))) &&& 31)))).1) ((f_Mo_save wr wg li cn (a / (4 : Int32)) (((0 : Int32) &&& (((255 : Int32) <<< (((8 : Int32) * (u_rem a (4 : Int32))) &&& 31)) ^^^ (-1 : Int32))) ||| ((b &&& (255 : Int32)) <<< (((8 : Int32) * (u_rem a (4 : Int32))) &&& 31)))).2.1) ke ma ((f_Mo_save wr wg li cn (a / (4 : Int32)) (((0 : Int32) &&& (((255 : Int32) <<< (((8 : Int32) * (u_rem a (4 : Int32))) &&& 31)) ^^^ (-1 : Int32))) ||| ((b &&& (255 : Int32)) <<< (((8 : Int32) * (u_rem a (4 : Int32))) &&& 31)))).2.2.1) ps pn cy t1_1 t1_2 ((f_Mo_save wr wg li cn (a / (4 : Int32)) (((0 : Int32) &&& (((255 : Int32) <<< (((8 : Int32) * (u_rem a (4 : Int32))) &&& 31)) ^^^ (-1 : Int32))) ||| ((b &&& (255 : Int32)) <<< (((8 : Int32) * (u_rem a (4 : Int32))) &&& 31)))).2.2.2) pp px go ne gi gn) := hD
          generalize e_t4 : f_Mo_save wr wg li cn (a / (4 : Int32)) (((0 : Int32) &&& (((255 : Int32) <<< (((8 : Int32) * (u_rem a (4 : Int32))) &&& 31)) ^^^ (-1 : Int32))) ||| ((b &&& (255 : Int32)) <<< (((8 : Int32) * (u_rem a (4 : Int32))) &&& 31))) = t4 at hP hD ⊢
          obtain ⟨t4_0, t4_1, t4_2, t4_3⟩ := t4
          have hP : va_P D classes (W_Mo cI cL b0 b1 b2 b3 b4 b5 b6 b7 ev t4_0 t4_1 ke ma t4_2 ps pn cy t1_1 t1_2 t4_3 pp px go ne gi gn) H := hP
          have hD : va_D A (W_Mo cI cL b0 b1 b2 b3 b4 b5 b6 b7 ev t4_0 t4_1 ke ma t4_2 ps pn cy t1_1 t1_2 t4_3 pp px go ne gi gn) := hD
          rw [f_Mo_store_e3 wr wg li ca va cn px go f a b (t1_0, t1_1, t1_2) (t4_0, t4_1, t4_2, t4_3) e_t1 e_t4 h2 h20 h25 h48]
          exact W.vret hx hb hr (fun t ht hW => ⟨⟨(), rfl, trivial, by show va_P D classes _ t.heap; rw [ht]; exact hP⟩, hS.F ht⟩) hS.2.2 d_Mo_store_110 hlocks
      · refine lv_aload_n hx hb d_Mo_store_28 rfl (lv_at hl 0 rfl) ?_
        refine lv_iconst (v := 1) hx hb d_Mo_store_29 (by decide) ?_
        refine lv_iload_n hx hb d_Mo_store_30 rfl (lv_at hl 2 rfl) ?_
        refine lv_iconst (v := 4) hx hb d_Mo_store_31 (by decide) ?_
        refine lv_idiv hx hb d_Mo_store_32 (by decide) ?_
        refine cj_i (wc := (W_Mo cI cL b0 b1 b2 b3 b4 b5 b6 b7 ev wr wg ke ma li ps pn cy t1_1 t1_2 cn pp px go ne gi gn)) (w1 := (W_Mo cI cL b0 b1 b2 b3 b4 b5 b6 b7 ev wr ((f_Mo_fetch wr wg li t1_1 t1_2 cn go (1 : Int32) (a / (4 : Int32))).2.1) ke ma ((f_Mo_fetch wr wg li t1_1 t1_2 cn go (1 : Int32) (a / (4 : Int32))).2.2.1) ps pn cy ((f_Mo_fetch wr wg li t1_1 t1_2 cn go (1 : Int32) (a / (4 : Int32))).2.2.2.1) ((f_Mo_fetch wr wg li t1_1 t1_2 cn go (1 : Int32) (a / (4 : Int32))).2.2.2.2.1) ((f_Mo_fetch wr wg li t1_1 t1_2 cn go (1 : Int32) (a / (4 : Int32))).2.2.2.2.2.1) pp px ((f_Mo_fetch wr wg li t1_1 t1_2 cn go (1 : Int32) (a / (4 : Int32))).2.2.2.2.2.2) ne gi gn)) hP hD hS hA [0, 1, 2, 3, 4, 5, 6, 7] rfl [b0, b1, b2, b3, b4, b5, b6, b7] rfl rfl (va_runV (rest := []) ⟨hx, hb, hml, hown, hg⟩ (c_Mo_fetch l D cI cL b0 b1 b2 b3 b4 b5 b6 b7 _ ev wr wg ke ma li ps pn cy t1_1 t1_2 cn pp px go ne gi gn (1 : Int32) (a / (4 : Int32)) (vp_ofb (by decide)) (in_reachT e_t1 h20)) ⟨callB_of 2 hg (gw_good m_599) rfl rfl rfl (hg _ m_71) (hg _ m_596) hd_Mo_fetch ⟨Nat.le_of_ble_eq_true rfl, Nat.le_of_ble_eq_true rfl⟩, hg _ m_598, hg _ m_41⟩ (pw_V hK hN hT hA hP hD hS [0, 1, 2, 3, 4, 5, 6, 7] rfl (by decide) (q0 := 0) (ci := 5) rfl rfl) rfl rfl hl.1 rfl (lv_room (Nat.le_of_ble_eq_true rfl)) d_Mo_store_33 ⟨Nat.le_of_ble_eq_true rfl, Nat.le_of_ble_eq_true rfl⟩) (fun H locs hP hD hS => ?_)
        have hP : va_P D classes (W_Mo cI cL b0 b1 b2 b3 b4 b5 b6 b7 ev wr ((f_Mo_fetch wr wg li t1_1 t1_2 cn go (1 : Int32) (a / (4 : Int32))).2.1) ke ma ((f_Mo_fetch wr wg li t1_1 t1_2 cn go (1 : Int32) (a / (4 : Int32))).2.2.1) ps pn cy ((f_Mo_fetch wr wg li t1_1 t1_2 cn go (1 : Int32) (a / (4 : Int32))).2.2.2.1) ((f_Mo_fetch wr wg li t1_1 t1_2 cn go (1 : Int32) (a / (4 : Int32))).2.2.2.2.1) ((f_Mo_fetch wr wg li t1_1 t1_2 cn go (1 : Int32) (a / (4 : Int32))).2.2.2.2.2.1) pp px ((f_Mo_fetch wr wg li t1_1 t1_2 cn go (1 : Int32) (a / (4 : Int32))).2.2.2.2.2.2) ne gi gn) H := hP
        have hD : va_D A (W_Mo cI cL b0 b1 b2 b3 b4 b5 b6 b7 ev wr ((f_Mo_fetch wr wg li t1_1 t1_2 cn go (1 : Int32) (a / (4 : Int32))).2.1) ke ma ((f_Mo_fetch wr wg li t1_1 t1_2 cn go (1 : Int32) (a / (4 : Int32))).2.2.1) ps pn cy ((f_Mo_fetch wr wg li t1_1 t1_2 cn go (1 : Int32) (a / (4 : Int32))).2.2.2.1) ((f_Mo_fetch wr wg li t1_1 t1_2 cn go (1 : Int32) (a / (4 : Int32))).2.2.2.2.1) ((f_Mo_fetch wr wg li t1_1 t1_2 cn go (1 : Int32) (a / (4 : Int32))).2.2.2.2.2.1) pp px ((f_Mo_fetch wr wg li t1_1 t1_2 cn go (1 : Int32) (a / (4 : Int32))).2.2.2.2.2.2) ne gi gn) := hD
        generalize e_t5 : f_Mo_fetch wr wg li t1_1 t1_2 cn go (1 : Int32) (a / (4 : Int32)) = t5 at hP hD ⊢
        obtain ⟨t5_0, t5_1, t5_2, t5_3, t5_4, t5_5, t5_6⟩ := t5
        have hP : va_P D classes (W_Mo cI cL b0 b1 b2 b3 b4 b5 b6 b7 ev wr t5_1 ke ma t5_2 ps pn cy t5_3 t5_4 t5_5 pp px t5_6 ne gi gn) H := hP
        have hD : va_D A (W_Mo cI cL b0 b1 b2 b3 b4 b5 b6 b7 ev wr t5_1 ke ma t5_2 ps pn cy t5_3 t5_4 t5_5 pp px t5_6 ne gi gn) := hD
        refine W.eq (g2 := F0 m 36 ls (.int t5_0 :: [])) rfl ?_
        refine lv_if_eq (tgt := 110) hx hb d_Mo_store_36 (by decide) (fun h36 => ?_) (fun h36 => ?_)
        · rw [f_Mo_store_e4 wr wg li ca va cn px go f a b (t1_0, t1_1, t1_2) (t5_0, t5_1, t5_2, t5_3, t5_4, t5_5, t5_6) e_t1 e_t5 h2 h20 h25 h36]
          exact W.vret hx hb hr (fun t ht hW => ⟨⟨(), rfl, trivial, by show va_P D classes _ t.heap; rw [ht]; exact hP⟩, hS.F ht⟩) hS.2.2 d_Mo_store_110 hlocks
        · refine lv_bipush (v := 8) hx hb d_Mo_store_39 (by decide) ?_
          refine lv_iload_n hx hb d_Mo_store_41 rfl (lv_at hl 2 rfl) ?_
          refine lv_iconst (v := 4) hx hb d_Mo_store_42 (by decide) ?_
          refine lv_rem hx hb d_Mo_store_43 (by decide) ?_
          refine lv_imul hx hb d_Mo_store_44 ?_
          refine lv_istore (lv' := [(4, .int _), (0, .ref _), (1, .int _), (2, .int _), (3, .int _)]) hx hb d_Mo_store_45 hl (by decide) rfl (fun ls hl => ?_)
          refine lv_iload_n hx hb d_Mo_store_47 rfl (lv_at hl 2 rfl) ?_
          refine lv_if_ne (tgt := 57) hx hb d_Mo_store_48 (by decide) (fun h48 => ?_) (fun h48 => ?_)
          · refine lv_iload_n hx hb d_Mo_store_57 rfl (lv_at hl 2 rfl) ?_
            refine lv_iconst (v := 1) hx hb d_Mo_store_58 (by decide) ?_
            refine lv_icmp_ne (tgt := 67) hx hb d_Mo_store_59 (by decide) (fun h59 => ?_) (fun h59 => ?_)
            · refine lv_iconst (v := -1) hx hb d_Mo_store_67 (by decide) ?_
              refine lv_istore (lv' := [(5, .int _), (4, .int _), (0, .ref _), (1, .int _), (2, .int _), (3, .int _)]) hx hb d_Mo_store_68 hl (by decide) rfl (fun ls hl => ?_)
              refine lv_iload_n hx hb d_Mo_store_70 rfl (lv_at hl 3 rfl) ?_
              refine lv_iconst (v := 2) hx hb d_Mo_store_71 (by decide) ?_
              refine lv_icmp_ne (tgt := 79) hx hb d_Mo_store_72 (by decide) (fun _ => ?_) (fun h => absurd h h25)
              refine lv_aload_n hx hb d_Mo_store_79 rfl (lv_at hl 2 rfl) ?_
              refine va_get (ci := 5) (C := R_Mo) (T := F_Mo) (N := 18) hx hb hg in_Mo hown hK hP 0 rfl rfl 14 (by decide) (hg _ m_517) (fun _ h => h) rfl d_Mo_store_80 ?_
              refine lv_istore (lv' := [(6, .int _), (5, .int _), (4, .int _), (0, .ref _), (1, .int _), (2, .int _), (3, .int _)]) hx hb d_Mo_store_83 hl (by decide) rfl (fun ls hl => ?_)
              refine lv_aload_n hx hb d_Mo_store_85 rfl (lv_at hl 3 rfl) ?_
              refine lv_iload_n hx hb d_Mo_store_86 rfl (lv_at hl 5 rfl) ?_
              refine lv_iconst (v := 4) hx hb d_Mo_store_87 (by decide) ?_
              refine lv_idiv hx hb d_Mo_store_88 (by decide) ?_
              refine lv_iload hx hb d_Mo_store_89 (lv_at hl 0 rfl) ?_
              refine lv_iload hx hb d_Mo_store_91 (lv_at hl 1 rfl) ?_
              refine lv_iload hx hb d_Mo_store_93 (lv_at hl 2 rfl) ?_
              refine lv_ishl hx hb d_Mo_store_95 ?_
              refine lv_iconst (v := -1) hx hb d_Mo_store_96 (by decide) ?_
              refine lv_ixor hx hb d_Mo_store_97 ?_
              refine lv_iand hx hb d_Mo_store_98 ?_
              refine lv_iload_n hx hb d_Mo_store_99 rfl (lv_at hl 6 rfl) ?_
              refine lv_iload hx hb d_Mo_store_100 (lv_at hl 1 rfl) ?_
              refine lv_iand hx hb d_Mo_store_102 ?_
              refine lv_iload hx hb d_Mo_store_103 (lv_at hl 2 rfl) ?_
              refine lv_ishl hx hb d_Mo_store_105 ?_
              refine lv_ior hx hb d_Mo_store_106 ?_
              refine cj_v (wc := (W_Mo cI cL b0 b1 b2 b3 b4 b5 b6 b7 ev wr t5_1 ke ma t5_2 ps pn cy t5_3 t5_4 t5_5 pp px t5_6 ne gi gn)) (w1 := (W_Mo cI cL b0 b1 b2 b3 b4 b5 b6 b7 ev ((f_Mo_save wr t5_1 t5_2 t5_5 (a / (4 : Int32)) ((t5_6 &&& (((-1 : Int32) <<< (((8 : Int32) * (u_rem a (4 : Int32))) &&& 31)) ^^^ (-1 : Int32))) ||| ((b &&& (-1 : Int32)) <<< (((8 : Int32) * (u_rem a (4 : Int32))) &&& 31)))).1) ((f_Mo_save wr t5_1 t5_2 t5_5 (a / (4 : Int32)) ((t5_6 &&& (((-1 : Int32) <<< (((8 : Int32) * (u_rem a (4 : Int32))) &&& 31)) ^^^ (-1 : Int32))) ||| ((b &&& (-1 : Int32)) <<< (((8 : Int32) * (u_rem a (4 : Int32))) &&& 31)))).2.1) ke ma ((f_Mo_save wr t5_1 t5_2 t5_5 (a / (4 : Int32)) ((t5_6 &&& (((-1 : Int32) <<< (((8 : Int32) * (u_rem a (4 : Int32))) &&& 31)) ^^^ (-1 : Int32))) ||| ((b &&& (-1 : Int32)) <<< (((8 : Int32) * (u_rem a (4 : Int32))) &&& 31)))).2.2.1) ps pn cy t5_3 t5_4 ((f_Mo_save wr t5_1 t5_2 t5_5 (a / (4 : Int32)) ((t5_6 &&& (((-1 : Int32) <<< (((8 : Int32) * (u_rem a (4 : Int32))) &&& 31)) ^^^ (-1 : Int32))) ||| ((b &&& (-1 : Int32)) <<< (((8 : Int32) * (u_rem a (4 : Int32))) &&& 31)))).2.2.2) pp px t5_6 ne gi gn)) hP hD hS hA [0, 1, 2, 3, 4, 5, 6, 7] rfl [b0, b1, b2, b3, b4, b5, b6, b7] rfl rfl (va_runV (rest := []) ⟨hx, hb, hml, hown, hg⟩ (c_Mo_save l D cI cL b0 b1 b2 b3 b4 b5 b6 b7 _ ev wr t5_1 ke ma t5_2 ps pn cy t5_3 t5_4 t5_5 pp px t5_6 ne gi gn (a / (4 : Int32)) ((t5_6 &&& (((-1 : Int32) <<< (((8 : Int32) * (u_rem a (4 : Int32))) &&& 31)) ^^^ (-1 : Int32))) ||| ((b &&& (-1 : Int32)) <<< (((8 : Int32) * (u_rem a (4 : Int32))) &&& 31))) (in_reachT e_t1 h20)) ⟨callB_of 2 hg (gw_good m_693) rfl rfl rfl (hg _ m_71) (hg _ m_690) hd_Mo_save ⟨Nat.le_of_ble_eq_true rfl, Nat.le_of_ble_eq_true rfl⟩, hg _ m_692, hg _ m_58⟩ (pw_V hK hN hT hA hP hD hS [0, 1, 2, 3, 4, 5, 6, 7] rfl (by decide) (q0 := 0) (ci := 5) rfl rfl) rfl rfl hl.1 rfl (lv_room (Nat.le_of_ble_eq_true rfl)) d_Mo_store_107 ⟨Nat.le_of_ble_eq_true rfl, Nat.le_of_ble_eq_true rfl⟩) (fun H locs hP hD hS => ?_)
              have hP : va_P D classes (W_Mo cI cL b0 b1 b2 b3 b4 b5 b6 b7 ev ((f_Mo_save wr t5_1 t5_2 t5_5 (a / (4 : Int32)) ((t5_6 &&& (((-1 : Int32) <<< (((8 : Int32) * (u_rem a (4 : Int32))) &&& 31)) ^^^ (-1 : Int32))) ||| ((b &&& (-1 : Int32)) <<< (((8 : Int32) * (u_rem a (4 : Int32))) &&& 31)))).1) ((f_Mo_save wr t5_1 t5_2 t5_5 (a / (4 : Int32)) ((t5_6 &&& (((-1 : Int32) <<< (((8 : Int32) * (u_rem a (4 : Int32))) &&& 31)) ^^^ (-1 : Int32))) ||| ((b &&& (-1 : Int32)) <<< (((8 : Int32) * (u_rem a (4 : Int32))) &&& 31)))).2.1) ke ma ((f_Mo_save wr t5_1 t5_2 t5_5 (a / (4 : Int32)) ((t5_6 &&& (((-1 : Int32) <<< (((8 : Int32) * (u_rem a (4 : Int32))) &&& 31)) ^^^ (-1 : Int32))) ||| ((b &&& (-1 : Int32)) <<< (((8 : Int32) * (u_rem a (4 : Int32))) &&& 31)))).2.2.1) ps pn cy t5_3 t5_4 ((f_Mo_save wr t5_1 t5_2 t5_5 (a / (4 : Int32)) ((t5_6 &&& (((-1 : Int32) <<< (((8 : Int32) * (u_rem a (4 : Int32))) &&& 31)) ^^^ (-1 : Int32))) ||| ((b &&& (-1 : Int32)) <<< (((8 : Int32) * (u_rem a (4 : Int32))) &&& 31)))).2.2.2) pp px t5_6 ne gi gn) H := hP
              have hD : va_D A (W_Mo cI cL b0 b1 b2 b3 b4 b5 b6 b7 ev ((f_Mo_save wr t5_1 t5_2 t5_5 (a / (4 : Int32)) ((t5_6 &&& (((-1 : Int32) <<< (((8 : Int32) * (u_rem a (4 : Int32))) &&& 31)) ^^^ (-1 : Int32))) ||| ((b &&& (-1 : Int32)) <<< (((8 : Int32) * (u_rem a (4 : Int32))) &&& 31)))).1) ((f_Mo_save wr t5_1 t5_2 t5_5 (a / (4 : Int32)) ((t5_6 &&& (((-1 : Int32) <<< (((8 : Int32) * (u_rem a (4 : Int32))) &&& 31)) ^^^ (-1 : Int32))) ||| ((b &&& (-1 : Int32)) <<< (((8 : Int32) * (u_rem a (4 : Int32))) &&& 31)))).2.1) ke ma ((f_Mo_save wr t5_1 t5_2 t5_5 (a / (4 : Int32)) ((t5_6 &&& (((-1 : Int32) <<< (((8 : Int32) * (u_rem a (4 : Int32))) &&& 31)) ^^^ (-1 : Int32))) ||| ((b &&& (-1 : Int32)) <<< (((8 : Int32) * (u_rem a (4 : Int32))) &&& 31)))).2.2.1) ps pn cy t5_3 t5_4 ((f_Mo_save wr t5_1 t5_2 t5_5 (a / (4 : Int32)) ((t5_6 &&& (((-1 : Int32) <<< (((8 : Int32) * (u_rem a (4 : Int32))) &&& 31)) ^^^ (-1 : Int32))) ||| ((b &&& (-1 : Int32)) <<< (((8 : Int32) * (u_rem a (4 : Int32))) &&& 31)))).2.2.2) pp px t5_6 ne gi gn) := hD
              generalize e_t6 : f_Mo_save wr t5_1 t5_2 t5_5 (a / (4 : Int32)) ((t5_6 &&& (((-1 : Int32) <<< (((8 : Int32) * (u_rem a (4 : Int32))) &&& 31)) ^^^ (-1 : Int32))) ||| ((b &&& (-1 : Int32)) <<< (((8 : Int32) * (u_rem a (4 : Int32))) &&& 31))) = t6 at hP hD ⊢
              obtain ⟨t6_0, t6_1, t6_2, t6_3⟩ := t6
              have hP : va_P D classes (W_Mo cI cL b0 b1 b2 b3 b4 b5 b6 b7 ev t6_0 t6_1 ke ma t6_2 ps pn cy t5_3 t5_4 t6_3 pp px t5_6 ne gi gn) H := hP
              have hD : va_D A (W_Mo cI cL b0 b1 b2 b3 b4 b5 b6 b7 ev t6_0 t6_1 ke ma t6_2 ps pn cy t5_3 t5_4 t6_3 pp px t5_6 ne gi gn) := hD
              rw [f_Mo_store_e5 wr wg li ca va cn px go f a b (t1_0, t1_1, t1_2) (t5_0, t5_1, t5_2, t5_3, t5_4, t5_5, t5_6) (t6_0, t6_1, t6_2, t6_3) e_t1 e_t5 e_t6 h2 h20 h25 h36 h48 h59]
              exact W.vret hx hb hr (fun t ht hW => ⟨⟨(), rfl, trivial, by show va_P D classes _ t.heap; rw [ht]; exact hP⟩, hS.F ht⟩) hS.2.2 d_Mo_store_110 hlocks
            · refine lv_ldc hx hb hown (hg _ m_689) d_Mo_store_62 ?_
              refine lv_goto (tgt := 68) hx hb d_Mo_store_64 (by decide) ?_
              refine lv_istore (lv' := [(5, .int _), (4, .int _), (0, .ref _), (1, .int _), (2, .int _), (3, .int _)]) hx hb d_Mo_store_68 hl (by decide) rfl (fun ls hl => ?_)
              refine lv_iload_n hx hb d_Mo_store_70 rfl (lv_at hl 3 rfl) ?_
              refine lv_iconst (v := 2) hx hb d_Mo_store_71 (by decide) ?_
              refine lv_icmp_ne (tgt := 79) hx hb d_Mo_store_72 (by decide) (fun _ => ?_) (fun h => absurd h h25)
              refine lv_aload_n hx hb d_Mo_store_79 rfl (lv_at hl 2 rfl) ?_
              refine va_get (ci := 5) (C := R_Mo) (T := F_Mo) (N := 18) hx hb hg in_Mo hown hK hP 0 rfl rfl 14 (by decide) (hg _ m_517) (fun _ h => h) rfl d_Mo_store_80 ?_
              refine lv_istore (lv' := [(6, .int _), (5, .int _), (4, .int _), (0, .ref _), (1, .int _), (2, .int _), (3, .int _)]) hx hb d_Mo_store_83 hl (by decide) rfl (fun ls hl => ?_)
              refine lv_aload_n hx hb d_Mo_store_85 rfl (lv_at hl 3 rfl) ?_
              refine lv_iload_n hx hb d_Mo_store_86 rfl (lv_at hl 5 rfl) ?_
              refine lv_iconst (v := 4) hx hb d_Mo_store_87 (by decide) ?_
              refine lv_idiv hx hb d_Mo_store_88 (by decide) ?_
              refine lv_iload hx hb d_Mo_store_89 (lv_at hl 0 rfl) ?_
              refine lv_iload hx hb d_Mo_store_91 (lv_at hl 1 rfl) ?_
              refine lv_iload hx hb d_Mo_store_93 (lv_at hl 2 rfl) ?_
              refine lv_ishl hx hb d_Mo_store_95 ?_
              refine lv_iconst (v := -1) hx hb d_Mo_store_96 (by decide) ?_
              refine lv_ixor hx hb d_Mo_store_97 ?_
              refine lv_iand hx hb d_Mo_store_98 ?_
              refine lv_iload_n hx hb d_Mo_store_99 rfl (lv_at hl 6 rfl) ?_
              refine lv_iload hx hb d_Mo_store_100 (lv_at hl 1 rfl) ?_
              refine lv_iand hx hb d_Mo_store_102 ?_
              refine lv_iload hx hb d_Mo_store_103 (lv_at hl 2 rfl) ?_
              refine lv_ishl hx hb d_Mo_store_105 ?_
              refine lv_ior hx hb d_Mo_store_106 ?_
              refine cj_v (wc := (W_Mo cI cL b0 b1 b2 b3 b4 b5 b6 b7 ev wr t5_1 ke ma t5_2 ps pn cy t5_3 t5_4 t5_5 pp px t5_6 ne gi gn)) (w1 := (W_Mo cI cL b0 b1 b2 b3 b4 b5 b6 b7 ev ((f_Mo_save wr t5_1 t5_2 t5_5 (a / (4 : Int32)) ((t5_6 &&& (((65535 : Int32) <<< (((8 : Int32) * (u_rem a (4 : Int32))) &&& 31)) ^^^ (-1 : Int32))) ||| ((b &&& (65535 : Int32)) <<< (((8 : Int32) * (u_rem a (4 : Int32))) &&& 31)))).1) ((f_Mo_save wr t5_1 t5_2 t5_5 (a / (4 : Int32)) ((t5_6 &&& (((65535 : Int32) <<< (((8 : Int32) * (u_rem a (4 : Int32))) &&& 31)) ^^^ (-1 : Int32))) ||| ((b &&& (65535 : Int32)) <<< (((8 : Int32) * (u_rem a (4 : Int32))) &&& 31)))).2.1) ke ma ((f_Mo_save wr t5_1 t5_2 t5_5 (a / (4 : Int32)) ((t5_6 &&& (((65535 : Int32) <<< (((8 : Int32) * (u_rem a (4 : Int32))) &&& 31)) ^^^ (-1 : Int32))) ||| ((b &&& (65535 : Int32)) <<< (((8 : Int32) * (u_rem a (4 : Int32))) &&& 31)))).2.2.1) ps pn cy t5_3 t5_4 ((f_Mo_save wr t5_1 t5_2 t5_5 (a / (4 : Int32)) ((t5_6 &&& (((65535 : Int32) <<< (((8 : Int32) * (u_rem a (4 : Int32))) &&& 31)) ^^^ (-1 : Int32))) ||| ((b &&& (65535 : Int32)) <<< (((8 : Int32) * (u_rem a (4 : Int32))) &&& 31)))).2.2.2) pp px t5_6 ne gi gn)) hP hD hS hA [0, 1, 2, 3, 4, 5, 6, 7] rfl [b0, b1, b2, b3, b4, b5, b6, b7] rfl rfl (va_runV (rest := []) ⟨hx, hb, hml, hown, hg⟩ (c_Mo_save l D cI cL b0 b1 b2 b3 b4 b5 b6 b7 _ ev wr t5_1 ke ma t5_2 ps pn cy t5_3 t5_4 t5_5 pp px t5_6 ne gi gn (a / (4 : Int32)) ((t5_6 &&& (((65535 : Int32) <<< (((8 : Int32) * (u_rem a (4 : Int32))) &&& 31)) ^^^ (-1 : Int32))) ||| ((b &&& (65535 : Int32)) <<< (((8 : Int32) * (u_rem a (4 : Int32))) &&& 31))) (in_reachT e_t1 h20)) ⟨callB_of 2 hg (gw_good m_693) rfl rfl rfl (hg _ m_71) (hg _ m_690) hd_Mo_save ⟨Nat.le_of_ble_eq_true rfl, Nat.le_of_ble_eq_true rfl⟩, hg _ m_692, hg _ m_58⟩ (pw_V hK hN hT hA hP hD hS [0, 1, 2, 3, 4, 5, 6, 7] rfl (by decide) (q0 := 0) (ci := 5) rfl rfl) rfl rfl hl.1 rfl (lv_room (Nat.le_of_ble_eq_true rfl)) d_Mo_store_107 ⟨Nat.le_of_ble_eq_true rfl, Nat.le_of_ble_eq_true rfl⟩) (fun H locs hP hD hS => ?_)
              have hP : va_P D classes (W_Mo cI cL b0 b1 b2 b3 b4 b5 b6 b7 ev ((f_Mo_save wr t5_1 t5_2 t5_5 (a / (4 : Int32)) ((t5_6 &&& (((65535 : Int32) <<< (((8 : Int32) * (u_rem a (4 : Int32))) &&& 31)) ^^^ (-1 : Int32))) ||| ((b &&& (65535 : Int32)) <<< (((8 : Int32) * (u_rem a (4 : Int32))) &&& 31)))).1) ((f_Mo_save wr t5_1 t5_2 t5_5 (a / (4 : Int32)) ((t5_6 &&& (((65535 : Int32) <<< (((8 : Int32) * (u_rem a (4 : Int32))) &&& 31)) ^^^ (-1 : Int32))) ||| ((b &&& (65535 : Int32)) <<< (((8 : Int32) * (u_rem a (4 : Int32))) &&& 31)))).2.1) ke ma ((f_Mo_save wr t5_1 t5_2 t5_5 (a / (4 : Int32)) ((t5_6 &&& (((65535 : Int32) <<< (((8 : Int32) * (u_rem a (4 : Int32))) &&& 31)) ^^^ (-1 : Int32))) ||| ((b &&& (65535 : Int32)) <<< (((8 : Int32) * (u_rem a (4 : Int32))) &&& 31)))).2.2.1) ps pn cy t5_3 t5_4 ((f_Mo_save wr t5_1 t5_2 t5_5 (a / (4 : Int32)) ((t5_6 &&& (((65535 : Int32) <<< (((8 : Int32) * (u_rem a (4 : Int32))) &&& 31)) ^^^ (-1 : Int32))) ||| ((b &&& (65535 : Int32)) <<< (((8 : Int32) * (u_rem a (4 : Int32))) &&& 31)))).2.2.2) pp px t5_6 ne gi gn) H := hP
              have hD : va_D A (W_Mo cI cL b0 b1 b2 b3 b4 b5 b6 b7 ev ((f_Mo_save wr t5_1 t5_2 t5_5 (a / (4 : Int32)) ((t5_6 &&& (((65535 : Int32) <<< (((8 : Int32) * (u_rem a (4 : Int32))) &&& 31)) ^^^ (-1 : Int32))) ||| ((b &&& (65535 : Int32)) <<< (((8 : Int32) * (u_rem a (4 : Int32))) &&& 31)))).1) ((f_Mo_save wr t5_1 t5_2 t5_5 (a / (4 : Int32)) ((t5_6 &&& (((65535 : Int32) <<< (((8 : Int32) * (u_rem a (4 : Int32))) &&& 31)) ^^^ (-1 : Int32))) ||| ((b &&& (65535 : Int32)) <<< (((8 : Int32) * (u_rem a (4 : Int32))) &&& 31)))).2.1) ke ma ((f_Mo_save wr t5_1 t5_2 t5_5 (a / (4 : Int32)) ((t5_6 &&& (((65535 : Int32) <<< (((8 : Int32) * (u_rem a (4 : Int32))) &&& 31)) ^^^ (-1 : Int32))) ||| ((b &&& (65535 : Int32)) <<< (((8 : Int32) * (u_rem a (4 : Int32))) &&& 31)))).2.2.1) ps pn cy t5_3 t5_4 ((f_Mo_save wr t5_1 t5_2 t5_5 (a / (4 : Int32)) ((t5_6 &&& (((65535 : Int32) <<< (((8 : Int32) * (u_rem a (4 : Int32))) &&& 31)) ^^^ (-1 : Int32))) ||| ((b &&& (65535 : Int32)) <<< (((8 : Int32) * (u_rem a (4 : Int32))) &&& 31)))).2.2.2) pp px t5_6 ne gi gn) := hD
              generalize e_t7 : f_Mo_save wr t5_1 t5_2 t5_5 (a / (4 : Int32)) ((t5_6 &&& (((65535 : Int32) <<< (((8 : Int32) * (u_rem a (4 : Int32))) &&& 31)) ^^^ (-1 : Int32))) ||| ((b &&& (65535 : Int32)) <<< (((8 : Int32) * (u_rem a (4 : Int32))) &&& 31))) = t7 at hP hD ⊢
              obtain ⟨t7_0, t7_1, t7_2, t7_3⟩ := t7
              have hP : va_P D classes (W_Mo cI cL b0 b1 b2 b3 b4 b5 b6 b7 ev t7_0 t7_1 ke ma t7_2 ps pn cy t5_3 t5_4 t7_3 pp px t5_6 ne gi gn) H := hP
              have hD : va_D A (W_Mo cI cL b0 b1 b2 b3 b4 b5 b6 b7 ev t7_0 t7_1 ke ma t7_2 ps pn cy t5_3 t5_4 t7_3 pp px t5_6 ne gi gn) := hD
              rw [f_Mo_store_e6 wr wg li ca va cn px go f a b (t1_0, t1_1, t1_2) (t5_0, t5_1, t5_2, t5_3, t5_4, t5_5, t5_6) (t7_0, t7_1, t7_2, t7_3) e_t1 e_t5 e_t7 h2 h20 h25 h36 h48 h59]
              exact W.vret hx hb hr (fun t ht hW => ⟨⟨(), rfl, trivial, by show va_P D classes _ t.heap; rw [ht]; exact hP⟩, hS.F ht⟩) hS.2.2 d_Mo_store_110 hlocks
          · refine lv_sipush (v := 255) hx hb d_Mo_store_51 (by decide) ?_
            refine lv_goto (tgt := 68) hx hb d_Mo_store_54 (by decide) ?_
            refine lv_istore (lv' := [(5, .int _), (4, .int _), (0, .ref _), (1, .int _), (2, .int _), (3, .int _)]) hx hb d_Mo_store_68 hl (by decide) rfl (fun ls hl => ?_)
            refine lv_iload_n hx hb d_Mo_store_70 rfl (lv_at hl 3 rfl) ?_
            refine lv_iconst (v := 2) hx hb d_Mo_store_71 (by decide) ?_
            refine lv_icmp_ne (tgt := 79) hx hb d_Mo_store_72 (by decide) (fun _ => ?_) (fun h => absurd h h25)
            refine lv_aload_n hx hb d_Mo_store_79 rfl (lv_at hl 2 rfl) ?_
            refine va_get (ci := 5) (C := R_Mo) (T := F_Mo) (N := 18) hx hb hg in_Mo hown hK hP 0 rfl rfl 14 (by decide) (hg _ m_517) (fun _ h => h) rfl d_Mo_store_80 ?_
            refine lv_istore (lv' := [(6, .int _), (5, .int _), (4, .int _), (0, .ref _), (1, .int _), (2, .int _), (3, .int _)]) hx hb d_Mo_store_83 hl (by decide) rfl (fun ls hl => ?_)
            refine lv_aload_n hx hb d_Mo_store_85 rfl (lv_at hl 3 rfl) ?_
            refine lv_iload_n hx hb d_Mo_store_86 rfl (lv_at hl 5 rfl) ?_
            refine lv_iconst (v := 4) hx hb d_Mo_store_87 (by decide) ?_
            refine lv_idiv hx hb d_Mo_store_88 (by decide) ?_
            refine lv_iload hx hb d_Mo_store_89 (lv_at hl 0 rfl) ?_
            refine lv_iload hx hb d_Mo_store_91 (lv_at hl 1 rfl) ?_
            refine lv_iload hx hb d_Mo_store_93 (lv_at hl 2 rfl) ?_
            refine lv_ishl hx hb d_Mo_store_95 ?_
            refine lv_iconst (v := -1) hx hb d_Mo_store_96 (by decide) ?_
            refine lv_ixor hx hb d_Mo_store_97 ?_
            refine lv_iand hx hb d_Mo_store_98 ?_
            refine lv_iload_n hx hb d_Mo_store_99 rfl (lv_at hl 6 rfl) ?_
            refine lv_iload hx hb d_Mo_store_100 (lv_at hl 1 rfl) ?_
            refine lv_iand hx hb d_Mo_store_102 ?_
            refine lv_iload hx hb d_Mo_store_103 (lv_at hl 2 rfl) ?_
            refine lv_ishl hx hb d_Mo_store_105 ?_
            refine lv_ior hx hb d_Mo_store_106 ?_
            refine cj_v (wc := (W_Mo cI cL b0 b1 b2 b3 b4 b5 b6 b7 ev wr t5_1 ke ma t5_2 ps pn cy t5_3 t5_4 t5_5 pp px t5_6 ne gi gn)) (w1 := (W_Mo cI cL b0 b1 b2 b3 b4 b5 b6 b7 ev ((f_Mo_save wr t5_1 t5_2 t5_5 (a / (4 : Int32)) ((t5_6 &&& (((255 : Int32) <<< (((8 : Int32) * (u_rem a (4 : Int32))) &&& 31)) ^^^ (-1 : Int32))) ||| ((b &&& (255 : Int32)) <<< (((8 : Int32) * (u_rem a (4 : Int32))) &&& 31)))).1) ((f_Mo_save wr t5_1 t5_2 t5_5 (a / (4 : Int32)) ((t5_6 &&& (((255 : Int32) <<< (((8 : Int32) * (u_rem a (4 : Int32))) &&& 31)) ^^^ (-1 : Int32))) ||| ((b &&& (255 : Int32)) <<< (((8 : Int32) * (u_rem a (4 : Int32))) &&& 31)))).2.1) ke ma ((f_Mo_save wr t5_1 t5_2 t5_5 (a / (4 : Int32)) ((t5_6 &&& (((255 : Int32) <<< (((8 : Int32) * (u_rem a (4 : Int32))) &&& 31)) ^^^ (-1 : Int32))) ||| ((b &&& (255 : Int32)) <<< (((8 : Int32) * (u_rem a (4 : Int32))) &&& 31)))).2.2.1) ps pn cy t5_3 t5_4 ((f_Mo_save wr t5_1 t5_2 t5_5 (a / (4 : Int32)) ((t5_6 &&& (((255 : Int32) <<< (((8 : Int32) * (u_rem a (4 : Int32))) &&& 31)) ^^^ (-1 : Int32))) ||| ((b &&& (255 : Int32)) <<< (((8 : Int32) * (u_rem a (4 : Int32))) &&& 31)))).2.2.2) pp px t5_6 ne gi gn)) hP hD hS hA [0, 1, 2, 3, 4, 5, 6, 7] rfl [b0, b1, b2, b3, b4, b5, b6, b7] rfl rfl (va_runV (rest := []) ⟨hx, hb, hml, hown, hg⟩ (c_Mo_save l D cI cL b0 b1 b2 b3 b4 b5 b6 b7 _ ev wr t5_1 ke ma t5_2 ps pn cy t5_3 t5_4 t5_5 pp px t5_6 ne gi gn (a / (4 : Int32)) ((t5_6 &&& (((255 : Int32) <<< (((8 : Int32) * (u_rem a (4 : Int32))) &&& 31)) ^^^ (-1 : Int32))) ||| ((b &&& (255 : Int32)) <<< (((8 : Int32) * (u_rem a (4 : Int32))) &&& 31))) (in_reachT e_t1 h20)) ⟨callB_of 2 hg (gw_good m_693) rfl rfl rfl (hg _ m_71) (hg _ m_690) hd_Mo_save ⟨Nat.le_of_ble_eq_true rfl, Nat.le_of_ble_eq_true rfl⟩, hg _ m_692, hg _ m_58⟩ (pw_V hK hN hT hA hP hD hS [0, 1, 2, 3, 4, 5, 6, 7] rfl (by decide) (q0 := 0) (ci := 5) rfl rfl) rfl rfl hl.1 rfl (lv_room (Nat.le_of_ble_eq_true rfl)) d_Mo_store_107 ⟨Nat.le_of_ble_eq_true rfl, Nat.le_of_ble_eq_true rfl⟩) (fun H locs hP hD hS => ?_)
            have hP : va_P D classes (W_Mo cI cL b0 b1 b2 b3 b4 b5 b6 b7 ev ((f_Mo_save wr t5_1 t5_2 t5_5 (a / (4 : Int32)) ((t5_6 &&& (((255 : Int32) <<< (((8 : Int32) * (u_rem a (4 : Int32))) &&& 31)) ^^^ (-1 : Int32))) ||| ((b &&& (255 : Int32)) <<< (((8 : Int32) * (u_rem a (4 : Int32))) &&& 31)))).1) ((f_Mo_save wr t5_1 t5_2 t5_5 (a / (4 : Int32)) ((t5_6 &&& (((255 : Int32) <<< (((8 : Int32) * (u_rem a (4 : Int32))) &&& 31)) ^^^ (-1 : Int32))) ||| ((b &&& (255 : Int32)) <<< (((8 : Int32) * (u_rem a (4 : Int32))) &&& 31)))).2.1) ke ma ((f_Mo_save wr t5_1 t5_2 t5_5 (a / (4 : Int32)) ((t5_6 &&& (((255 : Int32) <<< (((8 : Int32) * (u_rem a (4 : Int32))) &&& 31)) ^^^ (-1 : Int32))) ||| ((b &&& (255 : Int32)) <<< (((8 : Int32) * (u_rem a (4 : Int32))) &&& 31)))).2.2.1) ps pn cy t5_3 t5_4 ((f_Mo_save wr t5_1 t5_2 t5_5 (a / (4 : Int32)) ((t5_6 &&& (((255 : Int32) <<< (((8 : Int32) * (u_rem a (4 : Int32))) &&& 31)) ^^^ (-1 : Int32))) ||| ((b &&& (255 : Int32)) <<< (((8 : Int32) * (u_rem a (4 : Int32))) &&& 31)))).2.2.2) pp px t5_6 ne gi gn) H := hP
            have hD : va_D A (W_Mo cI cL b0 b1 b2 b3 b4 b5 b6 b7 ev ((f_Mo_save wr t5_1 t5_2 t5_5 (a / (4 : Int32)) ((t5_6 &&& (((255 : Int32) <<< (((8 : Int32) * (u_rem a (4 : Int32))) &&& 31)) ^^^ (-1 : Int32))) ||| ((b &&& (255 : Int32)) <<< (((8 : Int32) * (u_rem a (4 : Int32))) &&& 31)))).1) ((f_Mo_save wr t5_1 t5_2 t5_5 (a / (4 : Int32)) ((t5_6 &&& (((255 : Int32) <<< (((8 : Int32) * (u_rem a (4 : Int32))) &&& 31)) ^^^ (-1 : Int32))) ||| ((b &&& (255 : Int32)) <<< (((8 : Int32) * (u_rem a (4 : Int32))) &&& 31)))).2.1) ke ma ((f_Mo_save wr t5_1 t5_2 t5_5 (a / (4 : Int32)) ((t5_6 &&& (((255 : Int32) <<< (((8 : Int32) * (u_rem a (4 : Int32))) &&& 31)) ^^^ (-1 : Int32))) ||| ((b &&& (255 : Int32)) <<< (((8 : Int32) * (u_rem a (4 : Int32))) &&& 31)))).2.2.1) ps pn cy t5_3 t5_4 ((f_Mo_save wr t5_1 t5_2 t5_5 (a / (4 : Int32)) ((t5_6 &&& (((255 : Int32) <<< (((8 : Int32) * (u_rem a (4 : Int32))) &&& 31)) ^^^ (-1 : Int32))) ||| ((b &&& (255 : Int32)) <<< (((8 : Int32) * (u_rem a (4 : Int32))) &&& 31)))).2.2.2) pp px t5_6 ne gi gn) := hD
            generalize e_t8 : f_Mo_save wr t5_1 t5_2 t5_5 (a / (4 : Int32)) ((t5_6 &&& (((255 : Int32) <<< (((8 : Int32) * (u_rem a (4 : Int32))) &&& 31)) ^^^ (-1 : Int32))) ||| ((b &&& (255 : Int32)) <<< (((8 : Int32) * (u_rem a (4 : Int32))) &&& 31))) = t8 at hP hD ⊢
            obtain ⟨t8_0, t8_1, t8_2, t8_3⟩ := t8
            have hP : va_P D classes (W_Mo cI cL b0 b1 b2 b3 b4 b5 b6 b7 ev t8_0 t8_1 ke ma t8_2 ps pn cy t5_3 t5_4 t8_3 pp px t5_6 ne gi gn) H := hP
            have hD : va_D A (W_Mo cI cL b0 b1 b2 b3 b4 b5 b6 b7 ev t8_0 t8_1 ke ma t8_2 ps pn cy t5_3 t5_4 t8_3 pp px t5_6 ne gi gn) := hD
            rw [f_Mo_store_e7 wr wg li ca va cn px go f a b (t1_0, t1_1, t1_2) (t5_0, t5_1, t5_2, t5_3, t5_4, t5_5, t5_6) (t8_0, t8_1, t8_2, t8_3) e_t1 e_t5 e_t8 h2 h20 h25 h36 h48]
            exact W.vret hx hb hr (fun t ht hW => ⟨⟨(), rfl, trivial, by show va_P D classes _ t.heap; rw [ht]; exact hP⟩, hS.F ht⟩) hS.2.2 d_Mo_store_110 hlocks
  · refine lv_aload_n hx hb d_Mo_store_5 rfl (lv_at hl 0 rfl) ?_
    refine cj_v (wc := (W_Mo cI cL b0 b1 b2 b3 b4 b5 b6 b7 ev wr wg ke ma li ps pn cy ca va cn pp px go ne gi gn)) (w1 := (W_Mo cI cL b0 b1 b2 b3 b4 b5 b6 b7 ev wr wg ke ma li ps pn cy ((f_Mo_illegal ca va px).1) ((f_Mo_illegal ca va px).2) cn pp px go ne gi gn)) hP hD hS hA [0, 1, 2, 3, 4, 5, 6, 7] rfl [b0, b1, b2, b3, b4, b5, b6, b7] rfl rfl (va_runV (rest := []) ⟨hx, hb, hml, hown, hg⟩ (c_Mo_illegal l D cI cL b0 b1 b2 b3 b4 b5 b6 b7 _ ev wr wg ke ma li ps pn cy ca va cn pp px go ne gi gn) ⟨callB_of 0 hg (gw_good m_661) rfl rfl rfl (hg _ m_71) (hg _ m_658) hd_Mo_illegal ⟨Nat.le_of_ble_eq_true rfl, Nat.le_of_ble_eq_true rfl⟩, hg _ m_660, hg _ m_51⟩ (pw_V hK hN hT hA hP hD hS [0, 1, 2, 3, 4, 5, 6, 7] rfl (by decide) (q0 := 0) (ci := 5) rfl rfl) rfl rfl hl.1 rfl (lv_room (Nat.le_of_ble_eq_true rfl)) d_Mo_store_6 ⟨Nat.le_of_ble_eq_true rfl, Nat.le_of_ble_eq_true rfl⟩) (fun H locs hP hD hS => ?_)
    have hP : va_P D classes (W_Mo cI cL b0 b1 b2 b3 b4 b5 b6 b7 ev wr wg ke ma li ps pn cy ((f_Mo_illegal ca va px).1) ((f_Mo_illegal ca va px).2) cn pp px go ne gi gn) H := hP
    have hD : va_D A (W_Mo cI cL b0 b1 b2 b3 b4 b5 b6 b7 ev wr wg ke ma li ps pn cy ((f_Mo_illegal ca va px).1) ((f_Mo_illegal ca va px).2) cn pp px go ne gi gn) := hD
    generalize e_t9 : f_Mo_illegal ca va px = t9 at hP hD ⊢
    obtain ⟨t9_0, t9_1⟩ := t9
    have hP : va_P D classes (W_Mo cI cL b0 b1 b2 b3 b4 b5 b6 b7 ev wr wg ke ma li ps pn cy t9_0 t9_1 cn pp px go ne gi gn) H := hP
    have hD : va_D A (W_Mo cI cL b0 b1 b2 b3 b4 b5 b6 b7 ev wr wg ke ma li ps pn cy t9_0 t9_1 cn pp px go ne gi gn) := hD
    refine lv_goto (tgt := 110) hx hb d_Mo_store_9 (by decide) ?_
    rw [f_Mo_store_e8 wr wg li ca va cn px go f a b (t9_0, t9_1) e_t9 h2]
    exact W.vret hx hb hr (fun t ht hW => ⟨⟨(), rfl, trivial, by show va_P D classes _ t.heap; rw [ht]; exact hP⟩, hS.F ht⟩) hS.2.2 d_Mo_store_110 hlocks
